def v_X0_renew (k_stuck : Int32) (k_state : Int32) (k_code : Int32) (k_held : Int32) (k_beside : Int32) (k_shifter : Int32) (p0 : Int32) (Q : Int32 → Int32 → Int32 → Int32 → Int32 → Int32 → Prop) : Prop := Q p0 (0 : Int32) (3 : Int32) (0 : Int32) (0 : Int32) (0 : Int32)
abbrev rm_X0_renew : Room := { frames := 0, cells := 0, slots := 0, locals := 0 }
set_option maxHeartbeats 4000000 in
set_option maxRecDepth 100000 in
theorem c_X0_renew (l : Launch) (D : va_G) (ts : Nat → Nat) (cyI cyJ cyZ : ClassId) (h_c : Nat → Nat) (h_k : Nat → Nat) (sz : Nat) (k_stuck : Int32) (k_state : Int32) (k_code : Int32) (k_held : Int32) (k_beside : Int32) (k_shifter : Int32) (p0 : Int32) (Q : Int32 → Int32 → Int32 → Int32 → Int32 → Int32 → Prop) (hvc : v_X0_renew k_stuck k_state k_code k_held k_beside k_shifter p0 Q) : Met l yX0_renew wsX0_renew rm_X0_renew (va_Pc [.ref (h_k 0), .int p0] (cPre D ts [(cyI, .int), (cyJ, .long), (cyZ, .boolean)] [(h_k 0, .inr (0, [.ref (h_c 0), .int k_stuck, .int k_state, .int k_code, .int k_held, .int k_beside, .int k_shifter]))] sz)) (va_Qv (fun (u : Int32 × Int32 × Int32 × Int32 × Int32 × Int32) => Q u.1 u.2.1 u.2.2.1 u.2.2.2.1 u.2.2.2.2.1 u.2.2.2.2.2) (cPost D [(cyI, .int), (cyJ, .long), (cyZ, .boolean)] (fun (u : Int32 × Int32 × Int32 × Int32 × Int32 × Int32) => [(h_k 0, .inr (0, [.ref (h_c 0), .int (u.1), .int (u.2.1), .int (u.2.2.1), .int (u.2.2.2.1), .int (u.2.2.2.2.1), .int (u.2.2.2.2.2)]))]) (va_A [(h_k 0, .inr (0, [.ref (h_c 0), .int k_stuck, .int k_state, .int k_code, .int k_held, .int k_beside, .int k_shifter]))] sz)) (va_A [(h_k 0, .inr (0, [.ref (h_c 0), .int k_stuck, .int k_state, .int k_code, .int k_held, .int k_beside, .int k_shifter]))] sz)) 0 0 (va_A [(h_k 0, .inr (0, [.ref (h_c 0), .int k_stuck, .int k_state, .int k_code, .int k_held, .int k_beside, .int k_shifter]))] sz) := by
  refine kEnter_v (cc := cX0_renew) (maxL := 2) (by decide) rfl (Nat.le_of_ble_eq_true rfl) ?_
  intro p e s m args below meth c A ls QQ hx hb hml hown hts hsz hA hP hD hK hE hS hl hret
  clear hsz
  have hown : s.vm.findClass RX0 = some m.cls := hown
  have inX0 : ∀ w ∈ wsX00, w ∈ wsX0_renew := by decide +kernel
  have f9 := hts (.fieldLink RX0 9 "ScanTester$Chip" "stuck" "I") (by decide +kernel)
  have f15 := hts (.fieldLink RX0 15 "ScanTester$Chip" "state" "I") (by decide +kernel)
  have f18 := hts (.fieldLink RX0 18 "ScanTester$Chip" "code" "I") (by decide +kernel)
  have f25 := hts (.fieldLink RX0 25 "ScanTester$Chip" "held" "I") (by decide +kernel)
  have f28 := hts (.fieldLink RX0 28 "ScanTester$Chip" "beside" "I") (by decide +kernel)
  have f31 := hts (.fieldLink RX0 31 "ScanTester$Chip" "shifter" "I") (by decide +kernel)
  have hl : lv_has ls 2 [(0, .ref (h_k 0)), (1, .int p0)] := hl
  refine lv_aload_n hx hb dX0_renew_0 rfl (lv_at hl 0 rfl) ?_
  refine lv_iload_n hx hb dX0_renew_1 rfl (lv_at hl 1 rfl) ?_
  refine va_put (D := D) (ci := 0) (ty := .int) (C := RX0) (T := TX0) (N := 7) hx hb hts inX0 tyX0 tyX0_ok nmX0 hown hK hP hD hS 0 rfl rfl 1 (by decide) f9 (fun _ h9 => h9) rfl (by decide +kernel) rfl rfl (Nat.le_of_ble_eq_true rfl) dX0_renew_2 (fun H locs hP hD hS => ?_)
  have hP : va_P D vwCl [(h_k 0, .inr (0, [.ref (h_c 0), .int p0, .int k_state, .int k_code, .int k_held, .int k_beside, .int k_shifter]))] H := hP
  have hD : va_D A [(h_k 0, .inr (0, [.ref (h_c 0), .int p0, .int k_state, .int k_code, .int k_held, .int k_beside, .int k_shifter]))] := hD
  refine lv_aload_n hx hb dX0_renew_5 rfl (lv_at hl 0 rfl) ?_
  refine lv_iconst (v := 0) hx hb dX0_renew_6 (by decide) ?_
  refine va_put (D := D) (ci := 0) (ty := .int) (C := RX0) (T := TX0) (N := 7) hx hb hts inX0 tyX0 tyX0_ok nmX0 hown hK hP hD hS 0 rfl rfl 2 (by decide) f15 (fun _ h9 => h9) rfl (by decide +kernel) rfl rfl (Nat.le_of_ble_eq_true rfl) dX0_renew_7 (fun H locs hP hD hS => ?_)
  have hP : va_P D vwCl [(h_k 0, .inr (0, [.ref (h_c 0), .int p0, .int (0 : Int32), .int k_code, .int k_held, .int k_beside, .int k_shifter]))] H := hP
  have hD : va_D A [(h_k 0, .inr (0, [.ref (h_c 0), .int p0, .int (0 : Int32), .int k_code, .int k_held, .int k_beside, .int k_shifter]))] := hD
  refine lv_aload_n hx hb dX0_renew_10 rfl (lv_at hl 0 rfl) ?_
  refine lv_iconst (v := 3) hx hb dX0_renew_11 (by decide) ?_
  refine va_put (D := D) (ci := 0) (ty := .int) (C := RX0) (T := TX0) (N := 7) hx hb hts inX0 tyX0 tyX0_ok nmX0 hown hK hP hD hS 0 rfl rfl 3 (by decide) f18 (fun _ h9 => h9) rfl (by decide +kernel) rfl rfl (Nat.le_of_ble_eq_true rfl) dX0_renew_12 (fun H locs hP hD hS => ?_)
  have hP : va_P D vwCl [(h_k 0, .inr (0, [.ref (h_c 0), .int p0, .int (0 : Int32), .int (3 : Int32), .int k_held, .int k_beside, .int k_shifter]))] H := hP
  have hD : va_D A [(h_k 0, .inr (0, [.ref (h_c 0), .int p0, .int (0 : Int32), .int (3 : Int32), .int k_held, .int k_beside, .int k_shifter]))] := hD
  refine lv_aload_n hx hb dX0_renew_15 rfl (lv_at hl 0 rfl) ?_
  refine lv_iconst (v := 0) hx hb dX0_renew_16 (by decide) ?_
  refine va_put (D := D) (ci := 0) (ty := .int) (C := RX0) (T := TX0) (N := 7) hx hb hts inX0 tyX0 tyX0_ok nmX0 hown hK hP hD hS 0 rfl rfl 4 (by decide) f25 (fun _ h9 => h9) rfl (by decide +kernel) rfl rfl (Nat.le_of_ble_eq_true rfl) dX0_renew_17 (fun H locs hP hD hS => ?_)
  have hP : va_P D vwCl [(h_k 0, .inr (0, [.ref (h_c 0), .int p0, .int (0 : Int32), .int (3 : Int32), .int (0 : Int32), .int k_beside, .int k_shifter]))] H := hP
  have hD : va_D A [(h_k 0, .inr (0, [.ref (h_c 0), .int p0, .int (0 : Int32), .int (3 : Int32), .int (0 : Int32), .int k_beside, .int k_shifter]))] := hD
  refine lv_aload_n hx hb dX0_renew_20 rfl (lv_at hl 0 rfl) ?_
  refine lv_iconst (v := 0) hx hb dX0_renew_21 (by decide) ?_
  refine va_put (D := D) (ci := 0) (ty := .int) (C := RX0) (T := TX0) (N := 7) hx hb hts inX0 tyX0 tyX0_ok nmX0 hown hK hP hD hS 0 rfl rfl 5 (by decide) f28 (fun _ h9 => h9) rfl (by decide +kernel) rfl rfl (Nat.le_of_ble_eq_true rfl) dX0_renew_22 (fun H locs hP hD hS => ?_)
  have hP : va_P D vwCl [(h_k 0, .inr (0, [.ref (h_c 0), .int p0, .int (0 : Int32), .int (3 : Int32), .int (0 : Int32), .int (0 : Int32), .int k_shifter]))] H := hP
  have hD : va_D A [(h_k 0, .inr (0, [.ref (h_c 0), .int p0, .int (0 : Int32), .int (3 : Int32), .int (0 : Int32), .int (0 : Int32), .int k_shifter]))] := hD
  refine lv_aload_n hx hb dX0_renew_25 rfl (lv_at hl 0 rfl) ?_
  refine lv_iconst (v := 0) hx hb dX0_renew_26 (by decide) ?_
  refine va_put (D := D) (ci := 0) (ty := .int) (C := RX0) (T := TX0) (N := 7) hx hb hts inX0 tyX0 tyX0_ok nmX0 hown hK hP hD hS 0 rfl rfl 6 (by decide) f31 (fun _ h9 => h9) rfl (by decide +kernel) rfl rfl (Nat.le_of_ble_eq_true rfl) dX0_renew_27 (fun H locs hP hD hS => ?_)
  have hP : va_P D vwCl [(h_k 0, .inr (0, [.ref (h_c 0), .int p0, .int (0 : Int32), .int (3 : Int32), .int (0 : Int32), .int (0 : Int32), .int (0 : Int32)]))] H := hP
  have hD : va_D A [(h_k 0, .inr (0, [.ref (h_c 0), .int p0, .int (0 : Int32), .int (3 : Int32), .int (0 : Int32), .int (0 : Int32), .int (0 : Int32)]))] := hD
  exact hret (p0, (0 : Int32), (3 : Int32), (0 : Int32), (0 : Int32), (0 : Int32)) _ _ _ _ hvc hP hD hS dX0_renew_30
def v_X0_patternWith (k_held : Int32) (c_inputs : Int32) (p0 : Int32) (Q : Int32 → Prop) : Prop := Q (p0 ||| (k_held <<< (c_inputs &&& 31))) 
abbrev rm_X0_patternWith : Room := { frames := 0, cells := 0, slots := 0, locals := 0 }
set_option maxHeartbeats 4000000 in
set_option maxRecDepth 100000 in
theorem c_X0_patternWith (l : Launch) (D : va_G) (ts : Nat → Nat) (cyI cyJ cyZ : ClassId) (h_c : Nat → Nat) (h_k : Nat → Nat) (sz : Nat) (k_stuck : Int32) (k_state : Int32) (k_code : Int32) (k_held : Int32) (k_beside : Int32) (k_shifter : Int32) (c_inputs : Int32) (c_flops : Int32) (c_nets : Int32) (c_outputs : Int32) (p0 : Int32) (Q : Int32 → Prop) (hvc : v_X0_patternWith k_held c_inputs p0 Q) : Met l yX0_patternWith wsX0_patternWith rm_X0_patternWith (va_Pc [.ref (h_k 0), .int p0] (cPre D ts [(cyI, .int), (cyJ, .long), (cyZ, .boolean)] [(h_k 0, .inr (0, [.ref (h_c 0), .int k_stuck, .int k_state, .int k_code, .int k_held, .int k_beside, .int k_shifter])), (h_c 0, .inr (2, [.int c_inputs, .int c_flops, .int c_nets, .int c_outputs, .ref (h_c 5), .ref (h_c 6), .ref (h_c 7), .ref (h_c 8), .ref (h_c 9), .ref (h_c 10)]))] sz)) (va_Qi (fun (r : Int32) (u : Unit) => Q r ) (cPost D [(cyI, .int), (cyJ, .long), (cyZ, .boolean)] (fun (u : Unit) => [(h_k 0, .inr (0, [.ref (h_c 0), .int k_stuck, .int k_state, .int k_code, .int k_held, .int k_beside, .int k_shifter])), (h_c 0, .inr (2, [.int c_inputs, .int c_flops, .int c_nets, .int c_outputs, .ref (h_c 5), .ref (h_c 6), .ref (h_c 7), .ref (h_c 8), .ref (h_c 9), .ref (h_c 10)]))]) (va_A [(h_k 0, .inr (0, [.ref (h_c 0), .int k_stuck, .int k_state, .int k_code, .int k_held, .int k_beside, .int k_shifter])), (h_c 0, .inr (2, [.int c_inputs, .int c_flops, .int c_nets, .int c_outputs, .ref (h_c 5), .ref (h_c 6), .ref (h_c 7), .ref (h_c 8), .ref (h_c 9), .ref (h_c 10)]))] sz)) (va_A [(h_k 0, .inr (0, [.ref (h_c 0), .int k_stuck, .int k_state, .int k_code, .int k_held, .int k_beside, .int k_shifter])), (h_c 0, .inr (2, [.int c_inputs, .int c_flops, .int c_nets, .int c_outputs, .ref (h_c 5), .ref (h_c 6), .ref (h_c 7), .ref (h_c 8), .ref (h_c 9), .ref (h_c 10)]))] sz)) 0 0 (va_A [(h_k 0, .inr (0, [.ref (h_c 0), .int k_stuck, .int k_state, .int k_code, .int k_held, .int k_beside, .int k_shifter])), (h_c 0, .inr (2, [.int c_inputs, .int c_flops, .int c_nets, .int c_outputs, .ref (h_c 5), .ref (h_c 6), .ref (h_c 7), .ref (h_c 8), .ref (h_c 9), .ref (h_c 10)]))] sz) := by
  refine kEnter_i (cc := cX0_patternWith) (maxL := 2) (by decide) rfl (Nat.le_of_ble_eq_true rfl) ?_
  intro p e s m args below meth c A ls QQ hx hb hml hown hts hsz hA hP hD hK hE hS hl hret
  clear hsz
  have hown : s.vm.findClass RX0 = some m.cls := hown
  have inX0 : ∀ w ∈ wsX00, w ∈ wsX0_patternWith := by decide +kernel
  have inX2 : ∀ w ∈ wsX20, w ∈ wsX0_patternWith := by decide +kernel
  have f25 := hts (.fieldLink RX0 25 "ScanTester$Chip" "held" "I") (by decide +kernel)
  have f21 := hts (.fieldLink RX0 21 "ScanTester$Chip" "circuit" "LScanTester$Circuit;") (by decide +kernel)
  have hl : lv_has ls 2 [(0, .ref (h_k 0)), (1, .int p0)] := hl
  refine lv_iload_n hx hb dX0_patternWith_0 rfl (lv_at hl 1 rfl) ?_
  refine lv_aload_n hx hb dX0_patternWith_1 rfl (lv_at hl 0 rfl) ?_
  refine va_get (D := D) (ci := 0) (C := RX0) (T := TX0) (N := 7) hx hb hts inX0 hown hK hP 0 rfl rfl 4 (by decide) f25 (fun _ h9 => h9) rfl dX0_patternWith_2 ?_
  refine lv_aload_n hx hb dX0_patternWith_5 rfl (lv_at hl 0 rfl) ?_
  refine va_get (D := D) (ci := 0) (C := RX0) (T := TX0) (N := 7) hx hb hts inX0 hown hK hP 0 rfl rfl 0 (by decide) f21 (fun _ h9 => h9) rfl dX0_patternWith_6 ?_
  refine va_getN (D := D) (ci := 2) (C := RX2) (T := TX2) (N := 10) hx hb hts inX2 hown hK hP 1 rfl rfl 0 (by decide) (hE.nest 1 rfl) (fun _ h9 => h9) rfl dX0_patternWith_9 ?_
  refine lv_ishl hx hb dX0_patternWith_12 ?_
  refine lv_ior hx hb dX0_patternWith_13 ?_
  exact hret (p0 ||| (k_held <<< (c_inputs &&& 31))) () _ _ _ _ hvc hP hD hS dX0_patternWith_14
def v_X0_outputs (k_stuck : Int32) (k_held : Int32) (c_inputs : Int32) (c_flops : Int32) (c_nets : Int32) (c_outputs : Int32) (c_value : Nat → Int64) (c_operation : Nat → Int32) (c_looked : Nat → Int32) (c_lookedCount : Nat → Int32) (c_next : Nat → Int32) (c_output : Nat → Int32) (p0 : Int32) (Q : Int32 → (Nat → Int64) → Prop) : Prop := v_X0_patternWith  k_held c_inputs p0 (fun (r1 : Int32) => v_X2_respond  c_inputs c_flops c_nets c_outputs c_value c_operation c_looked c_lookedCount c_next c_output r1 k_stuck (fun (r3 : Int32) (n2 : Nat → Int64) => v_X2_outputsOf  c_outputs r3 (fun (r4 : Int32) => Q r4 n2)))
abbrev rm_X0_outputs : Room := { frames := 3, cells := 0, slots := 0, locals := 75 }
set_option maxHeartbeats 4000000 in
set_option maxRecDepth 100000 in
theorem c_X0_outputs (l : Launch) (D : va_G) (ts : Nat → Nat) (cyI cyJ cyZ : ClassId) (h_c : Nat → Nat) (h_k : Nat → Nat) (sz : Nat) (k_stuck : Int32) (k_state : Int32) (k_code : Int32) (k_held : Int32) (k_beside : Int32) (k_shifter : Int32) (c_inputs : Int32) (c_flops : Int32) (c_nets : Int32) (c_outputs : Int32) (c_value : Nat → Int64) (c_operation : Nat → Int32) (c_looked : Nat → Int32) (c_lookedCount : Nat → Int32) (c_next : Nat → Int32) (c_output : Nat → Int32) (p0 : Int32) (Q : Int32 → (Nat → Int64) → Prop) (hvc : v_X0_outputs k_stuck k_held c_inputs c_flops c_nets c_outputs c_value c_operation c_looked c_lookedCount c_next c_output p0 Q) : Met l yX0_outputs wsX0_outputs rm_X0_outputs (va_Pc [.ref (h_k 0), .int p0] (cPre D ts [(cyI, .int), (cyJ, .long), (cyZ, .boolean)] [(h_k 0, .inr (0, [.ref (h_c 0), .int k_stuck, .int k_state, .int k_code, .int k_held, .int k_beside, .int k_shifter])), (h_c 0, .inr (2, [.int c_inputs, .int c_flops, .int c_nets, .int c_outputs, .ref (h_c 5), .ref (h_c 6), .ref (h_c 7), .ref (h_c 8), .ref (h_c 9), .ref (h_c 10)])), (h_c 10, .inl (cyJ, 60, .inr (.inl c_value))), (h_c 5, .inl (cyI, 60, .inl c_operation)), (h_c 7, .inl (cyI, 240, .inl c_looked)), (h_c 6, .inl (cyI, 60, .inl c_lookedCount)), (h_c 9, .inl (cyI, 10, .inl c_next)), (h_c 8, .inl (cyI, 8, .inl c_output))] sz)) (va_Qi (fun (r : Int32) (u : (Nat → Int64)) => Q r u) (cPost D [(cyI, .int), (cyJ, .long), (cyZ, .boolean)] (fun (u : (Nat → Int64)) => [(h_k 0, .inr (0, [.ref (h_c 0), .int k_stuck, .int k_state, .int k_code, .int k_held, .int k_beside, .int k_shifter])), (h_c 0, .inr (2, [.int c_inputs, .int c_flops, .int c_nets, .int c_outputs, .ref (h_c 5), .ref (h_c 6), .ref (h_c 7), .ref (h_c 8), .ref (h_c 9), .ref (h_c 10)])), (h_c 10, .inl (cyJ, 60, .inr (.inl u))), (h_c 5, .inl (cyI, 60, .inl c_operation)), (h_c 7, .inl (cyI, 240, .inl c_looked)), (h_c 6, .inl (cyI, 60, .inl c_lookedCount)), (h_c 9, .inl (cyI, 10, .inl c_next)), (h_c 8, .inl (cyI, 8, .inl c_output))]) (va_A [(h_k 0, .inr (0, [.ref (h_c 0), .int k_stuck, .int k_state, .int k_code, .int k_held, .int k_beside, .int k_shifter])), (h_c 0, .inr (2, [.int c_inputs, .int c_flops, .int c_nets, .int c_outputs, .ref (h_c 5), .ref (h_c 6), .ref (h_c 7), .ref (h_c 8), .ref (h_c 9), .ref (h_c 10)])), (h_c 10, .inl (cyJ, 60, .inr (.inl c_value))), (h_c 5, .inl (cyI, 60, .inl c_operation)), (h_c 7, .inl (cyI, 240, .inl c_looked)), (h_c 6, .inl (cyI, 60, .inl c_lookedCount)), (h_c 9, .inl (cyI, 10, .inl c_next)), (h_c 8, .inl (cyI, 8, .inl c_output))] sz)) (va_A [(h_k 0, .inr (0, [.ref (h_c 0), .int k_stuck, .int k_state, .int k_code, .int k_held, .int k_beside, .int k_shifter])), (h_c 0, .inr (2, [.int c_inputs, .int c_flops, .int c_nets, .int c_outputs, .ref (h_c 5), .ref (h_c 6), .ref (h_c 7), .ref (h_c 8), .ref (h_c 9), .ref (h_c 10)])), (h_c 10, .inl (cyJ, 60, .inr (.inl c_value))), (h_c 5, .inl (cyI, 60, .inl c_operation)), (h_c 7, .inl (cyI, 240, .inl c_looked)), (h_c 6, .inl (cyI, 60, .inl c_lookedCount)), (h_c 9, .inl (cyI, 10, .inl c_next)), (h_c 8, .inl (cyI, 8, .inl c_output))] sz)) 0 0 (va_A [(h_k 0, .inr (0, [.ref (h_c 0), .int k_stuck, .int k_state, .int k_code, .int k_held, .int k_beside, .int k_shifter])), (h_c 0, .inr (2, [.int c_inputs, .int c_flops, .int c_nets, .int c_outputs, .ref (h_c 5), .ref (h_c 6), .ref (h_c 7), .ref (h_c 8), .ref (h_c 9), .ref (h_c 10)])), (h_c 10, .inl (cyJ, 60, .inr (.inl c_value))), (h_c 5, .inl (cyI, 60, .inl c_operation)), (h_c 7, .inl (cyI, 240, .inl c_looked)), (h_c 6, .inl (cyI, 60, .inl c_lookedCount)), (h_c 9, .inl (cyI, 10, .inl c_next)), (h_c 8, .inl (cyI, 8, .inl c_output))] sz) := by
  refine kEnter_i (cc := cX0_outputs) (maxL := 2) (by decide) rfl (Nat.le_of_ble_eq_true rfl) ?_
  intro p e s m args below meth c A ls QQ hx hb hml hown hts hsz hA hP hD hK hE hS hl hret
  clear hsz
  have hown : s.vm.findClass RX0 = some m.cls := hown
  have inX0 : ∀ w ∈ wsX00, w ∈ wsX0_outputs := by decide +kernel
  have f21 := hts (.fieldLink RX0 21 "ScanTester$Chip" "circuit" "LScanTester$Circuit;") (by decide +kernel)
  have f9 := hts (.fieldLink RX0 9 "ScanTester$Chip" "stuck" "I") (by decide +kernel)
  have hl : lv_has ls 2 [(0, .ref (h_k 0)), (1, .int p0)] := hl
  rw [v_X0_outputs] at hvc
  refine lv_aload_n hx hb dX0_outputs_0 rfl (lv_at hl 0 rfl) ?_
  refine va_get (D := D) (ci := 0) (C := RX0) (T := TX0) (N := 7) hx hb hts inX0 hown hK hP 0 rfl rfl 0 (by decide) f21 (fun _ h9 => h9) rfl dX0_outputs_1 ?_
  refine lv_aload_n hx hb dX0_outputs_4 rfl (lv_at hl 0 rfl) ?_
  refine va_get (D := D) (ci := 0) (C := RX0) (T := TX0) (N := 7) hx hb hts inX0 hown hK hP 0 rfl rfl 0 (by decide) f21 (fun _ h9 => h9) rfl dX0_outputs_5 ?_
  refine lv_aload_n hx hb dX0_outputs_8 rfl (lv_at hl 0 rfl) ?_
  refine lv_iload_n hx hb dX0_outputs_9 rfl (lv_at hl 1 rfl) ?_
  refine kV_i (wc := [(h_k 0, .inr (0, [.ref (h_c 0), .int k_stuck, .int k_state, .int k_code, .int k_held, .int k_beside, .int k_shifter])), (h_c 0, .inr (2, [.int c_inputs, .int c_flops, .int c_nets, .int c_outputs, .ref (h_c 5), .ref (h_c 6), .ref (h_c 7), .ref (h_c 8), .ref (h_c 9), .ref (h_c 10)]))]) (wr := [(h_c 10, .inl (cyJ, 60, .inr (.inl c_value))), (h_c 5, .inl (cyI, 60, .inl c_operation)), (h_c 7, .inl (cyI, 240, .inl c_looked)), (h_c 6, .inl (cyI, 60, .inl c_lookedCount)), (h_c 9, .inl (cyI, 10, .inl c_next)), (h_c 8, .inl (cyI, 8, .inl c_output))]) (As := [.int p0]) (rest := [.ref (h_c 0), .ref (h_c 0)]) ⟨hx, hb, hml, hown, hts⟩ hP hD hK hE hS hA [0, 1] [2, 3, 4, 5, 6, 7] rfl rfl (by decide) (by decide) (by decide) (c_X0_patternWith l D ts cyI cyJ cyZ h_c h_k _ k_stuck k_state k_code k_held k_beside k_shifter c_inputs c_flops c_nets c_outputs p0 _ hvc) (cwV 1 hts gX0_outputs_X0_patternWith rfl rfl rfl (by decide +kernel) ⟨Nat.le_of_ble_eq_true rfl, Nat.le_of_ble_eq_true rfl⟩) (ci := 0) rfl rfl rfl hl.1 rfl (Nat.zero_le _) (Nat.zero_le _) rfl (Nat.le_of_ble_eq_true rfl) dX0_outputs_10 (fun r1 _u H locs hvc hP hD hS => ?_)
  try dsimp only at hvc
  have hP : va_P D vwCl [(h_k 0, .inr (0, [.ref (h_c 0), .int k_stuck, .int k_state, .int k_code, .int k_held, .int k_beside, .int k_shifter])), (h_c 0, .inr (2, [.int c_inputs, .int c_flops, .int c_nets, .int c_outputs, .ref (h_c 5), .ref (h_c 6), .ref (h_c 7), .ref (h_c 8), .ref (h_c 9), .ref (h_c 10)])), (h_c 10, .inl (cyJ, 60, .inr (.inl c_value))), (h_c 5, .inl (cyI, 60, .inl c_operation)), (h_c 7, .inl (cyI, 240, .inl c_looked)), (h_c 6, .inl (cyI, 60, .inl c_lookedCount)), (h_c 9, .inl (cyI, 10, .inl c_next)), (h_c 8, .inl (cyI, 8, .inl c_output))] H := sub_P hP (isC := [6, 7, 0, 1, 2, 3, 4, 5]) rfl
  have hD : va_D A [(h_k 0, .inr (0, [.ref (h_c 0), .int k_stuck, .int k_state, .int k_code, .int k_held, .int k_beside, .int k_shifter])), (h_c 0, .inr (2, [.int c_inputs, .int c_flops, .int c_nets, .int c_outputs, .ref (h_c 5), .ref (h_c 6), .ref (h_c 7), .ref (h_c 8), .ref (h_c 9), .ref (h_c 10)])), (h_c 10, .inl (cyJ, 60, .inr (.inl c_value))), (h_c 5, .inl (cyI, 60, .inl c_operation)), (h_c 7, .inl (cyI, 240, .inl c_looked)), (h_c 6, .inl (cyI, 60, .inl c_lookedCount)), (h_c 9, .inl (cyI, 10, .inl c_next)), (h_c 8, .inl (cyI, 8, .inl c_output))] := hD.sub [6, 7, 0, 1, 2, 3, 4, 5] (by decide) rfl
  refine lv_aload_n hx hb dX0_outputs_13 rfl (lv_at hl 0 rfl) ?_
  refine va_get (D := D) (ci := 0) (C := RX0) (T := TX0) (N := 7) hx hb hts inX0 hown hK hP 0 rfl rfl 1 (by decide) f9 (fun _ h9 => h9) rfl dX0_outputs_14 ?_
  refine kV_i (wc := [(h_c 0, .inr (2, [.int c_inputs, .int c_flops, .int c_nets, .int c_outputs, .ref (h_c 5), .ref (h_c 6), .ref (h_c 7), .ref (h_c 8), .ref (h_c 9), .ref (h_c 10)])), (h_c 10, .inl (cyJ, 60, .inr (.inl c_value))), (h_c 5, .inl (cyI, 60, .inl c_operation)), (h_c 7, .inl (cyI, 240, .inl c_looked)), (h_c 6, .inl (cyI, 60, .inl c_lookedCount)), (h_c 9, .inl (cyI, 10, .inl c_next)), (h_c 8, .inl (cyI, 8, .inl c_output))]) (wr := [(h_k 0, .inr (0, [.ref (h_c 0), .int k_stuck, .int k_state, .int k_code, .int k_held, .int k_beside, .int k_shifter]))]) (As := [.int r1, .int k_stuck]) (rest := [.ref (h_c 0)]) ⟨hx, hb, hml, hown, hts⟩ hP hD hK hE hS hA [1, 2, 3, 4, 5, 6, 7] [0] rfl rfl (by decide) (by decide) (by decide) (c_X2_respond l D ts cyI cyJ cyZ h_c _ c_inputs c_flops c_nets c_outputs c_value c_operation c_looked c_lookedCount c_next c_output r1 k_stuck _ hvc) (cwV 2 hts gX0_outputs_X2_respond rfl rfl rfl (by decide +kernel) ⟨Nat.le_of_ble_eq_true rfl, Nat.le_of_ble_eq_true rfl⟩) (ci := 2) rfl rfl rfl hl.1 rfl (Nat.zero_le _) (Nat.zero_le _) rfl (Nat.le_of_ble_eq_true rfl) dX0_outputs_17 (fun r3 n2 H locs hvc hP hD hS => ?_)
  try dsimp only at hvc
  have hP : va_P D vwCl [(h_k 0, .inr (0, [.ref (h_c 0), .int k_stuck, .int k_state, .int k_code, .int k_held, .int k_beside, .int k_shifter])), (h_c 0, .inr (2, [.int c_inputs, .int c_flops, .int c_nets, .int c_outputs, .ref (h_c 5), .ref (h_c 6), .ref (h_c 7), .ref (h_c 8), .ref (h_c 9), .ref (h_c 10)])), (h_c 10, .inl (cyJ, 60, .inr (.inl n2))), (h_c 5, .inl (cyI, 60, .inl c_operation)), (h_c 7, .inl (cyI, 240, .inl c_looked)), (h_c 6, .inl (cyI, 60, .inl c_lookedCount)), (h_c 9, .inl (cyI, 10, .inl c_next)), (h_c 8, .inl (cyI, 8, .inl c_output))] H := sub_P hP (isC := [0, 1, 2, 3, 4, 5, 6, 7]) rfl
  have hD : va_D A [(h_k 0, .inr (0, [.ref (h_c 0), .int k_stuck, .int k_state, .int k_code, .int k_held, .int k_beside, .int k_shifter])), (h_c 0, .inr (2, [.int c_inputs, .int c_flops, .int c_nets, .int c_outputs, .ref (h_c 5), .ref (h_c 6), .ref (h_c 7), .ref (h_c 8), .ref (h_c 9), .ref (h_c 10)])), (h_c 10, .inl (cyJ, 60, .inr (.inl n2))), (h_c 5, .inl (cyI, 60, .inl c_operation)), (h_c 7, .inl (cyI, 240, .inl c_looked)), (h_c 6, .inl (cyI, 60, .inl c_lookedCount)), (h_c 9, .inl (cyI, 10, .inl c_next)), (h_c 8, .inl (cyI, 8, .inl c_output))] := hD.sub [0, 1, 2, 3, 4, 5, 6, 7] (by decide) rfl
  refine kV_i (wc := [(h_c 0, .inr (2, [.int c_inputs, .int c_flops, .int c_nets, .int c_outputs, .ref (h_c 5), .ref (h_c 6), .ref (h_c 7), .ref (h_c 8), .ref (h_c 9), .ref (h_c 10)]))]) (wr := [(h_k 0, .inr (0, [.ref (h_c 0), .int k_stuck, .int k_state, .int k_code, .int k_held, .int k_beside, .int k_shifter])), (h_c 10, .inl (cyJ, 60, .inr (.inl n2))), (h_c 5, .inl (cyI, 60, .inl c_operation)), (h_c 7, .inl (cyI, 240, .inl c_looked)), (h_c 6, .inl (cyI, 60, .inl c_lookedCount)), (h_c 9, .inl (cyI, 10, .inl c_next)), (h_c 8, .inl (cyI, 8, .inl c_output))]) (As := [.int r3]) (rest := []) ⟨hx, hb, hml, hown, hts⟩ hP hD hK hE hS hA [1] [0, 2, 3, 4, 5, 6, 7] rfl rfl (by decide) (by decide) (by decide) (c_X2_outputsOf l D ts cyI cyJ cyZ h_c _ c_inputs c_flops c_nets c_outputs r3 _ hvc) (cwV 1 hts gX0_outputs_X2_outputsOf rfl rfl rfl (by decide +kernel) ⟨Nat.le_of_ble_eq_true rfl, Nat.le_of_ble_eq_true rfl⟩) (ci := 2) rfl rfl rfl hl.1 rfl (Nat.zero_le _) (Nat.zero_le _) rfl (Nat.le_of_ble_eq_true rfl) dX0_outputs_20 (fun r4 _u H locs hvc hP hD hS => ?_)
  try dsimp only at hvc
  have hP : va_P D vwCl [(h_k 0, .inr (0, [.ref (h_c 0), .int k_stuck, .int k_state, .int k_code, .int k_held, .int k_beside, .int k_shifter])), (h_c 0, .inr (2, [.int c_inputs, .int c_flops, .int c_nets, .int c_outputs, .ref (h_c 5), .ref (h_c 6), .ref (h_c 7), .ref (h_c 8), .ref (h_c 9), .ref (h_c 10)])), (h_c 10, .inl (cyJ, 60, .inr (.inl n2))), (h_c 5, .inl (cyI, 60, .inl c_operation)), (h_c 7, .inl (cyI, 240, .inl c_looked)), (h_c 6, .inl (cyI, 60, .inl c_lookedCount)), (h_c 9, .inl (cyI, 10, .inl c_next)), (h_c 8, .inl (cyI, 8, .inl c_output))] H := sub_P hP (isC := [0, 7, 1, 2, 3, 4, 5, 6]) rfl
  have hD : va_D A [(h_k 0, .inr (0, [.ref (h_c 0), .int k_stuck, .int k_state, .int k_code, .int k_held, .int k_beside, .int k_shifter])), (h_c 0, .inr (2, [.int c_inputs, .int c_flops, .int c_nets, .int c_outputs, .ref (h_c 5), .ref (h_c 6), .ref (h_c 7), .ref (h_c 8), .ref (h_c 9), .ref (h_c 10)])), (h_c 10, .inl (cyJ, 60, .inr (.inl n2))), (h_c 5, .inl (cyI, 60, .inl c_operation)), (h_c 7, .inl (cyI, 240, .inl c_looked)), (h_c 6, .inl (cyI, 60, .inl c_lookedCount)), (h_c 9, .inl (cyI, 10, .inl c_next)), (h_c 8, .inl (cyI, 8, .inl c_output))] := hD.sub [0, 7, 1, 2, 3, 4, 5, 6] (by decide) rfl
  exact hret r4 n2 _ _ _ _ hvc hP hD hS dX0_outputs_23
def v_X0_tdo (k_state : Int32) (k_code : Int32) (k_held : Int32) (k_beside : Int32) (k_shifter : Int32) (c_flops : Int32) (p0 : Int32) (Q : Int32 → Prop) : Prop := (¬ k_state = (11 : Int32) → (k_state = (4 : Int32) → (k_code = (1 : Int32) → (¬ c_flops = (0) → Q ((k_held >>> ((c_flops - (1 : Int32)) &&& 31)) &&& (1 : Int32)) ) ∧ (c_flops = (0) → Q p0 )) ∧ (¬ k_code = (1 : Int32) → Q k_beside )) ∧ (¬ k_state = (4 : Int32) → Q (0 : Int32) )) ∧ (k_state = (11 : Int32) → Q (k_shifter &&& (1 : Int32)) )
abbrev rm_X0_tdo : Room := { frames := 0, cells := 0, slots := 0, locals := 0 }
set_option maxHeartbeats 4000000 in
set_option maxRecDepth 100000 in
theorem c_X0_tdo (l : Launch) (D : va_G) (ts : Nat → Nat) (cyI cyJ cyZ : ClassId) (h_c : Nat → Nat) (h_k : Nat → Nat) (sz : Nat) (k_stuck : Int32) (k_state : Int32) (k_code : Int32) (k_held : Int32) (k_beside : Int32) (k_shifter : Int32) (c_inputs : Int32) (c_flops : Int32) (c_nets : Int32) (c_outputs : Int32) (p0 : Int32) (Q : Int32 → Prop) (hvc : v_X0_tdo k_state k_code k_held k_beside k_shifter c_flops p0 Q) : Met l yX0_tdo wsX0_tdo rm_X0_tdo (va_Pc [.ref (h_k 0), .int p0] (cPre D ts [(cyI, .int), (cyJ, .long), (cyZ, .boolean)] [(h_k 0, .inr (0, [.ref (h_c 0), .int k_stuck, .int k_state, .int k_code, .int k_held, .int k_beside, .int k_shifter])), (h_c 0, .inr (2, [.int c_inputs, .int c_flops, .int c_nets, .int c_outputs, .ref (h_c 5), .ref (h_c 6), .ref (h_c 7), .ref (h_c 8), .ref (h_c 9), .ref (h_c 10)]))] sz)) (va_Qi (fun (r : Int32) (u : Unit) => Q r ) (cPost D [(cyI, .int), (cyJ, .long), (cyZ, .boolean)] (fun (u : Unit) => [(h_k 0, .inr (0, [.ref (h_c 0), .int k_stuck, .int k_state, .int k_code, .int k_held, .int k_beside, .int k_shifter])), (h_c 0, .inr (2, [.int c_inputs, .int c_flops, .int c_nets, .int c_outputs, .ref (h_c 5), .ref (h_c 6), .ref (h_c 7), .ref (h_c 8), .ref (h_c 9), .ref (h_c 10)]))]) (va_A [(h_k 0, .inr (0, [.ref (h_c 0), .int k_stuck, .int k_state, .int k_code, .int k_held, .int k_beside, .int k_shifter])), (h_c 0, .inr (2, [.int c_inputs, .int c_flops, .int c_nets, .int c_outputs, .ref (h_c 5), .ref (h_c 6), .ref (h_c 7), .ref (h_c 8), .ref (h_c 9), .ref (h_c 10)]))] sz)) (va_A [(h_k 0, .inr (0, [.ref (h_c 0), .int k_stuck, .int k_state, .int k_code, .int k_held, .int k_beside, .int k_shifter])), (h_c 0, .inr (2, [.int c_inputs, .int c_flops, .int c_nets, .int c_outputs, .ref (h_c 5), .ref (h_c 6), .ref (h_c 7), .ref (h_c 8), .ref (h_c 9), .ref (h_c 10)]))] sz)) 0 0 (va_A [(h_k 0, .inr (0, [.ref (h_c 0), .int k_stuck, .int k_state, .int k_code, .int k_held, .int k_beside, .int k_shifter])), (h_c 0, .inr (2, [.int c_inputs, .int c_flops, .int c_nets, .int c_outputs, .ref (h_c 5), .ref (h_c 6), .ref (h_c 7), .ref (h_c 8), .ref (h_c 9), .ref (h_c 10)]))] sz) := by
  refine kEnter_i (cc := cX0_tdo) (maxL := 2) (by decide) rfl (Nat.le_of_ble_eq_true rfl) ?_
  intro p e s m args below meth c A ls QQ hx hb hml hown hts hsz hA hP hD hK hE hS hl hret
  clear hsz
  have hown : s.vm.findClass RX0 = some m.cls := hown
  have inX0 : ∀ w ∈ wsX00, w ∈ wsX0_tdo := by decide +kernel
  have inX2 : ∀ w ∈ wsX20, w ∈ wsX0_tdo := by decide +kernel
  have f15 := hts (.fieldLink RX0 15 "ScanTester$Chip" "state" "I") (by decide +kernel)
  have f18 := hts (.fieldLink RX0 18 "ScanTester$Chip" "code" "I") (by decide +kernel)
  have f21 := hts (.fieldLink RX0 21 "ScanTester$Chip" "circuit" "LScanTester$Circuit;") (by decide +kernel)
  have f25 := hts (.fieldLink RX0 25 "ScanTester$Chip" "held" "I") (by decide +kernel)
  have f28 := hts (.fieldLink RX0 28 "ScanTester$Chip" "beside" "I") (by decide +kernel)
  have f31 := hts (.fieldLink RX0 31 "ScanTester$Chip" "shifter" "I") (by decide +kernel)
  have hl : lv_has ls 2 [(0, .ref (h_k 0)), (1, .int p0)] := hl
  refine lv_aload_n hx hb dX0_tdo_0 rfl (lv_at hl 0 rfl) ?_
  refine va_get (D := D) (ci := 0) (C := RX0) (T := TX0) (N := 7) hx hb hts inX0 hown hK hP 0 rfl rfl 2 (by decide) f15 (fun _ h9 => h9) rfl dX0_tdo_1 ?_
  refine lv_bipush (v := 11) hx hb dX0_tdo_4 (by decide) ?_
  obtain ⟨hvt, hvf⟩ := hvc
  refine lv_icmp_ne (tgt := 16) hx hb dX0_tdo_6 (by decide) (fun hc => ?_) (fun hc => ?_)
  · have hvc := hvt hc
    refine lv_aload_n hx hb dX0_tdo_16 rfl (lv_at hl 0 rfl) ?_
    refine va_get (D := D) (ci := 0) (C := RX0) (T := TX0) (N := 7) hx hb hts inX0 hown hK hP 0 rfl rfl 2 (by decide) f15 (fun _ h9 => h9) rfl dX0_tdo_17 ?_
    refine lv_iconst (v := 4) hx hb dX0_tdo_20 (by decide) ?_
    obtain ⟨hvt, hvf⟩ := hvc
    refine lv_icmp_eq (tgt := 26) hx hb dX0_tdo_21 (by decide) (fun hc => ?_) (fun hc => ?_)
    · have hvc := hvt hc
      refine lv_aload_n hx hb dX0_tdo_26 rfl (lv_at hl 0 rfl) ?_
      refine va_get (D := D) (ci := 0) (C := RX0) (T := TX0) (N := 7) hx hb hts inX0 hown hK hP 0 rfl rfl 3 (by decide) f18 (fun _ h9 => h9) rfl dX0_tdo_27 ?_
      refine lv_iconst (v := 1) hx hb dX0_tdo_30 (by decide) ?_
      obtain ⟨hvt, hvf⟩ := hvc
      refine lv_icmp_eq (tgt := 39) hx hb dX0_tdo_31 (by decide) (fun hc => ?_) (fun hc => ?_)
      · have hvc := hvt hc
        refine lv_aload_n hx hb dX0_tdo_39 rfl (lv_at hl 0 rfl) ?_
        refine va_get (D := D) (ci := 0) (C := RX0) (T := TX0) (N := 7) hx hb hts inX0 hown hK hP 0 rfl rfl 0 (by decide) f21 (fun _ h9 => h9) rfl dX0_tdo_40 ?_
        refine va_getN (D := D) (ci := 2) (C := RX2) (T := TX2) (N := 10) hx hb hts inX2 hown hK hP 1 rfl rfl 1 (by decide) (hE.nest 5 rfl) (fun _ h9 => h9) rfl dX0_tdo_43 ?_
        obtain ⟨hvt, hvf⟩ := hvc
        refine lv_if_ne (tgt := 53) hx hb dX0_tdo_46 (by decide) (fun hc => ?_) (fun hc => ?_)
        · have hvc := hvt hc
          refine lv_aload_n hx hb dX0_tdo_53 rfl (lv_at hl 0 rfl) ?_
          refine va_get (D := D) (ci := 0) (C := RX0) (T := TX0) (N := 7) hx hb hts inX0 hown hK hP 0 rfl rfl 4 (by decide) f25 (fun _ h9 => h9) rfl dX0_tdo_54 ?_
          refine lv_aload_n hx hb dX0_tdo_57 rfl (lv_at hl 0 rfl) ?_
          refine va_get (D := D) (ci := 0) (C := RX0) (T := TX0) (N := 7) hx hb hts inX0 hown hK hP 0 rfl rfl 0 (by decide) f21 (fun _ h9 => h9) rfl dX0_tdo_58 ?_
          refine va_getN (D := D) (ci := 2) (C := RX2) (T := TX2) (N := 10) hx hb hts inX2 hown hK hP 1 rfl rfl 1 (by decide) (hE.nest 5 rfl) (fun _ h9 => h9) rfl dX0_tdo_61 ?_
          refine lv_iconst (v := 1) hx hb dX0_tdo_64 (by decide) ?_
          refine lv_isub hx hb dX0_tdo_65 ?_
          refine lv_ishr hx hb dX0_tdo_66 ?_
          refine lv_iconst (v := 1) hx hb dX0_tdo_67 (by decide) ?_
          refine lv_iand hx hb dX0_tdo_68 ?_
          exact hret ((k_held >>> ((c_flops - (1 : Int32)) &&& 31)) &&& (1 : Int32)) () _ _ _ _ hvc hP hD hS dX0_tdo_69
        · have hvc := hvf hc
          refine lv_iload_n hx hb dX0_tdo_49 rfl (lv_at hl 1 rfl) ?_
          refine lv_goto (tgt := 69) hx hb dX0_tdo_50 (by decide) ?_
          exact hret p0 () _ _ _ _ hvc hP hD hS dX0_tdo_69
      · have hvc := hvf hc
        refine lv_aload_n hx hb dX0_tdo_34 rfl (lv_at hl 0 rfl) ?_
        refine va_get (D := D) (ci := 0) (C := RX0) (T := TX0) (N := 7) hx hb hts inX0 hown hK hP 0 rfl rfl 5 (by decide) f28 (fun _ h9 => h9) rfl dX0_tdo_35 ?_
        exact hret k_beside () _ _ _ _ hvc hP hD hS dX0_tdo_38
    · have hvc := hvf hc
      refine lv_iconst (v := 0) hx hb dX0_tdo_24 (by decide) ?_
      exact hret (0 : Int32) () _ _ _ _ hvc hP hD hS dX0_tdo_25
  · have hvc := hvf hc
    refine lv_aload_n hx hb dX0_tdo_9 rfl (lv_at hl 0 rfl) ?_
    refine va_get (D := D) (ci := 0) (C := RX0) (T := TX0) (N := 7) hx hb hts inX0 hown hK hP 0 rfl rfl 6 (by decide) f31 (fun _ h9 => h9) rfl dX0_tdo_10 ?_
    refine lv_iconst (v := 1) hx hb dX0_tdo_13 (by decide) ?_
    refine lv_iand hx hb dX0_tdo_14 ?_
    exact hret (k_shifter &&& (1 : Int32)) () _ _ _ _ hvc hP hD hS dX0_tdo_15
def v_X0_idle (k_stuck : Int32) (k_code : Int32) (k_held : Int32) (c_inputs : Int32) (c_flops : Int32) (c_nets : Int32) (c_outputs : Int32) (c_value : Nat → Int64) (c_operation : Nat → Int32) (c_looked : Nat → Int32) (c_lookedCount : Nat → Int32) (c_next : Nat → Int32) (c_output : Nat → Int32) (p0 : Int32) (Q : Int32 → (Nat → Int64) → Prop) : Prop := (k_code = (1 : Int32) → Q k_held c_value) ∧ (¬ k_code = (1 : Int32) → v_X0_patternWith  k_held c_inputs p0 (fun (r1 : Int32) => v_X2_respond  c_inputs c_flops c_nets c_outputs c_value c_operation c_looked c_lookedCount c_next c_output r1 k_stuck (fun (r3 : Int32) (n2 : Nat → Int64) => v_X2_nextsOf  c_outputs r3 (fun (r4 : Int32) => Q r4 n2))))
abbrev rm_X0_idle : Room := { frames := 3, cells := 0, slots := 0, locals := 75 }
set_option maxHeartbeats 4000000 in
set_option maxRecDepth 100000 in
theorem c_X0_idle (l : Launch) (D : va_G) (ts : Nat → Nat) (cyI cyJ cyZ : ClassId) (h_c : Nat → Nat) (h_k : Nat → Nat) (sz : Nat) (k_stuck : Int32) (k_state : Int32) (k_code : Int32) (k_held : Int32) (k_beside : Int32) (k_shifter : Int32) (c_inputs : Int32) (c_flops : Int32) (c_nets : Int32) (c_outputs : Int32) (c_value : Nat → Int64) (c_operation : Nat → Int32) (c_looked : Nat → Int32) (c_lookedCount : Nat → Int32) (c_next : Nat → Int32) (c_output : Nat → Int32) (p0 : Int32) (Q : Int32 → (Nat → Int64) → Prop) (hvc : v_X0_idle k_stuck k_code k_held c_inputs c_flops c_nets c_outputs c_value c_operation c_looked c_lookedCount c_next c_output p0 Q) : Met l yX0_idle wsX0_idle rm_X0_idle (va_Pc [.ref (h_k 0), .int p0] (cPre D ts [(cyI, .int), (cyJ, .long), (cyZ, .boolean)] [(h_k 0, .inr (0, [.ref (h_c 0), .int k_stuck, .int k_state, .int k_code, .int k_held, .int k_beside, .int k_shifter])), (h_c 0, .inr (2, [.int c_inputs, .int c_flops, .int c_nets, .int c_outputs, .ref (h_c 5), .ref (h_c 6), .ref (h_c 7), .ref (h_c 8), .ref (h_c 9), .ref (h_c 10)])), (h_c 10, .inl (cyJ, 60, .inr (.inl c_value))), (h_c 5, .inl (cyI, 60, .inl c_operation)), (h_c 7, .inl (cyI, 240, .inl c_looked)), (h_c 6, .inl (cyI, 60, .inl c_lookedCount)), (h_c 9, .inl (cyI, 10, .inl c_next)), (h_c 8, .inl (cyI, 8, .inl c_output))] sz)) (va_Qv (fun (u : Int32 × (Nat → Int64)) => Q u.1 u.2) (cPost D [(cyI, .int), (cyJ, .long), (cyZ, .boolean)] (fun (u : Int32 × (Nat → Int64)) => [(h_k 0, .inr (0, [.ref (h_c 0), .int k_stuck, .int k_state, .int k_code, .int (u.1), .int k_beside, .int k_shifter])), (h_c 0, .inr (2, [.int c_inputs, .int c_flops, .int c_nets, .int c_outputs, .ref (h_c 5), .ref (h_c 6), .ref (h_c 7), .ref (h_c 8), .ref (h_c 9), .ref (h_c 10)])), (h_c 10, .inl (cyJ, 60, .inr (.inl (u.2)))), (h_c 5, .inl (cyI, 60, .inl c_operation)), (h_c 7, .inl (cyI, 240, .inl c_looked)), (h_c 6, .inl (cyI, 60, .inl c_lookedCount)), (h_c 9, .inl (cyI, 10, .inl c_next)), (h_c 8, .inl (cyI, 8, .inl c_output))]) (va_A [(h_k 0, .inr (0, [.ref (h_c 0), .int k_stuck, .int k_state, .int k_code, .int k_held, .int k_beside, .int k_shifter])), (h_c 0, .inr (2, [.int c_inputs, .int c_flops, .int c_nets, .int c_outputs, .ref (h_c 5), .ref (h_c 6), .ref (h_c 7), .ref (h_c 8), .ref (h_c 9), .ref (h_c 10)])), (h_c 10, .inl (cyJ, 60, .inr (.inl c_value))), (h_c 5, .inl (cyI, 60, .inl c_operation)), (h_c 7, .inl (cyI, 240, .inl c_looked)), (h_c 6, .inl (cyI, 60, .inl c_lookedCount)), (h_c 9, .inl (cyI, 10, .inl c_next)), (h_c 8, .inl (cyI, 8, .inl c_output))] sz)) (va_A [(h_k 0, .inr (0, [.ref (h_c 0), .int k_stuck, .int k_state, .int k_code, .int k_held, .int k_beside, .int k_shifter])), (h_c 0, .inr (2, [.int c_inputs, .int c_flops, .int c_nets, .int c_outputs, .ref (h_c 5), .ref (h_c 6), .ref (h_c 7), .ref (h_c 8), .ref (h_c 9), .ref (h_c 10)])), (h_c 10, .inl (cyJ, 60, .inr (.inl c_value))), (h_c 5, .inl (cyI, 60, .inl c_operation)), (h_c 7, .inl (cyI, 240, .inl c_looked)), (h_c 6, .inl (cyI, 60, .inl c_lookedCount)), (h_c 9, .inl (cyI, 10, .inl c_next)), (h_c 8, .inl (cyI, 8, .inl c_output))] sz)) 0 0 (va_A [(h_k 0, .inr (0, [.ref (h_c 0), .int k_stuck, .int k_state, .int k_code, .int k_held, .int k_beside, .int k_shifter])), (h_c 0, .inr (2, [.int c_inputs, .int c_flops, .int c_nets, .int c_outputs, .ref (h_c 5), .ref (h_c 6), .ref (h_c 7), .ref (h_c 8), .ref (h_c 9), .ref (h_c 10)])), (h_c 10, .inl (cyJ, 60, .inr (.inl c_value))), (h_c 5, .inl (cyI, 60, .inl c_operation)), (h_c 7, .inl (cyI, 240, .inl c_looked)), (h_c 6, .inl (cyI, 60, .inl c_lookedCount)), (h_c 9, .inl (cyI, 10, .inl c_next)), (h_c 8, .inl (cyI, 8, .inl c_output))] sz) := by
  refine kEnter_v (cc := cX0_idle) (maxL := 2) (by decide) rfl (Nat.le_of_ble_eq_true rfl) ?_
  intro p e s m args below meth c A ls QQ hx hb hml hown hts hsz hA hP hD hK hE hS hl hret
  clear hsz
  have hown : s.vm.findClass RX0 = some m.cls := hown
  have inX0 : ∀ w ∈ wsX00, w ∈ wsX0_idle := by decide +kernel
  have f18 := hts (.fieldLink RX0 18 "ScanTester$Chip" "code" "I") (by decide +kernel)
  have f21 := hts (.fieldLink RX0 21 "ScanTester$Chip" "circuit" "LScanTester$Circuit;") (by decide +kernel)
  have f9 := hts (.fieldLink RX0 9 "ScanTester$Chip" "stuck" "I") (by decide +kernel)
  have f25 := hts (.fieldLink RX0 25 "ScanTester$Chip" "held" "I") (by decide +kernel)
  have hl : lv_has ls 2 [(0, .ref (h_k 0)), (1, .int p0)] := hl
  refine lv_aload_n hx hb dX0_idle_0 rfl (lv_at hl 0 rfl) ?_
  refine va_get (D := D) (ci := 0) (C := RX0) (T := TX0) (N := 7) hx hb hts inX0 hown hK hP 0 rfl rfl 3 (by decide) f18 (fun _ h9 => h9) rfl dX0_idle_1 ?_
  refine lv_iconst (v := 1) hx hb dX0_idle_4 (by decide) ?_
  obtain ⟨hvt, hvf⟩ := hvc
  refine lv_icmp_eq (tgt := 35) hx hb dX0_idle_5 (by decide) (fun hc => ?_) (fun hc => ?_)
  · have hvc := hvt hc
    exact hret (k_held, c_value) _ _ _ _ hvc hP hD hS dX0_idle_35
  · have hvc := hvf hc
    refine lv_aload_n hx hb dX0_idle_8 rfl (lv_at hl 0 rfl) ?_
    refine lv_aload_n hx hb dX0_idle_9 rfl (lv_at hl 0 rfl) ?_
    refine va_get (D := D) (ci := 0) (C := RX0) (T := TX0) (N := 7) hx hb hts inX0 hown hK hP 0 rfl rfl 0 (by decide) f21 (fun _ h9 => h9) rfl dX0_idle_10 ?_
    refine lv_aload_n hx hb dX0_idle_13 rfl (lv_at hl 0 rfl) ?_
    refine va_get (D := D) (ci := 0) (C := RX0) (T := TX0) (N := 7) hx hb hts inX0 hown hK hP 0 rfl rfl 0 (by decide) f21 (fun _ h9 => h9) rfl dX0_idle_14 ?_
    refine lv_aload_n hx hb dX0_idle_17 rfl (lv_at hl 0 rfl) ?_
    refine lv_iload_n hx hb dX0_idle_18 rfl (lv_at hl 1 rfl) ?_
    refine kV_i (wc := [(h_k 0, .inr (0, [.ref (h_c 0), .int k_stuck, .int k_state, .int k_code, .int k_held, .int k_beside, .int k_shifter])), (h_c 0, .inr (2, [.int c_inputs, .int c_flops, .int c_nets, .int c_outputs, .ref (h_c 5), .ref (h_c 6), .ref (h_c 7), .ref (h_c 8), .ref (h_c 9), .ref (h_c 10)]))]) (wr := [(h_c 10, .inl (cyJ, 60, .inr (.inl c_value))), (h_c 5, .inl (cyI, 60, .inl c_operation)), (h_c 7, .inl (cyI, 240, .inl c_looked)), (h_c 6, .inl (cyI, 60, .inl c_lookedCount)), (h_c 9, .inl (cyI, 10, .inl c_next)), (h_c 8, .inl (cyI, 8, .inl c_output))]) (As := [.int p0]) (rest := [.ref (h_c 0), .ref (h_c 0), .ref (h_k 0)]) ⟨hx, hb, hml, hown, hts⟩ hP hD hK hE hS hA [0, 1] [2, 3, 4, 5, 6, 7] rfl rfl (by decide) (by decide) (by decide) (c_X0_patternWith l D ts cyI cyJ cyZ h_c h_k _ k_stuck k_state k_code k_held k_beside k_shifter c_inputs c_flops c_nets c_outputs p0 _ hvc) (cwV 1 hts gX0_idle_X0_patternWith rfl rfl rfl (by decide +kernel) ⟨Nat.le_of_ble_eq_true rfl, Nat.le_of_ble_eq_true rfl⟩) (ci := 0) rfl rfl rfl hl.1 rfl (Nat.zero_le _) (Nat.zero_le _) rfl (Nat.le_of_ble_eq_true rfl) dX0_idle_19 (fun r1 _u H locs hvc hP hD hS => ?_)
    try dsimp only at hvc
    have hP : va_P D vwCl [(h_k 0, .inr (0, [.ref (h_c 0), .int k_stuck, .int k_state, .int k_code, .int k_held, .int k_beside, .int k_shifter])), (h_c 0, .inr (2, [.int c_inputs, .int c_flops, .int c_nets, .int c_outputs, .ref (h_c 5), .ref (h_c 6), .ref (h_c 7), .ref (h_c 8), .ref (h_c 9), .ref (h_c 10)])), (h_c 10, .inl (cyJ, 60, .inr (.inl c_value))), (h_c 5, .inl (cyI, 60, .inl c_operation)), (h_c 7, .inl (cyI, 240, .inl c_looked)), (h_c 6, .inl (cyI, 60, .inl c_lookedCount)), (h_c 9, .inl (cyI, 10, .inl c_next)), (h_c 8, .inl (cyI, 8, .inl c_output))] H := sub_P hP (isC := [6, 7, 0, 1, 2, 3, 4, 5]) rfl
    have hD : va_D A [(h_k 0, .inr (0, [.ref (h_c 0), .int k_stuck, .int k_state, .int k_code, .int k_held, .int k_beside, .int k_shifter])), (h_c 0, .inr (2, [.int c_inputs, .int c_flops, .int c_nets, .int c_outputs, .ref (h_c 5), .ref (h_c 6), .ref (h_c 7), .ref (h_c 8), .ref (h_c 9), .ref (h_c 10)])), (h_c 10, .inl (cyJ, 60, .inr (.inl c_value))), (h_c 5, .inl (cyI, 60, .inl c_operation)), (h_c 7, .inl (cyI, 240, .inl c_looked)), (h_c 6, .inl (cyI, 60, .inl c_lookedCount)), (h_c 9, .inl (cyI, 10, .inl c_next)), (h_c 8, .inl (cyI, 8, .inl c_output))] := hD.sub [6, 7, 0, 1, 2, 3, 4, 5] (by decide) rfl
    refine lv_aload_n hx hb dX0_idle_22 rfl (lv_at hl 0 rfl) ?_
    refine va_get (D := D) (ci := 0) (C := RX0) (T := TX0) (N := 7) hx hb hts inX0 hown hK hP 0 rfl rfl 1 (by decide) f9 (fun _ h9 => h9) rfl dX0_idle_23 ?_
    refine kV_i (wc := [(h_c 0, .inr (2, [.int c_inputs, .int c_flops, .int c_nets, .int c_outputs, .ref (h_c 5), .ref (h_c 6), .ref (h_c 7), .ref (h_c 8), .ref (h_c 9), .ref (h_c 10)])), (h_c 10, .inl (cyJ, 60, .inr (.inl c_value))), (h_c 5, .inl (cyI, 60, .inl c_operation)), (h_c 7, .inl (cyI, 240, .inl c_looked)), (h_c 6, .inl (cyI, 60, .inl c_lookedCount)), (h_c 9, .inl (cyI, 10, .inl c_next)), (h_c 8, .inl (cyI, 8, .inl c_output))]) (wr := [(h_k 0, .inr (0, [.ref (h_c 0), .int k_stuck, .int k_state, .int k_code, .int k_held, .int k_beside, .int k_shifter]))]) (As := [.int r1, .int k_stuck]) (rest := [.ref (h_c 0), .ref (h_k 0)]) ⟨hx, hb, hml, hown, hts⟩ hP hD hK hE hS hA [1, 2, 3, 4, 5, 6, 7] [0] rfl rfl (by decide) (by decide) (by decide) (c_X2_respond l D ts cyI cyJ cyZ h_c _ c_inputs c_flops c_nets c_outputs c_value c_operation c_looked c_lookedCount c_next c_output r1 k_stuck _ hvc) (cwV 2 hts gX0_idle_X2_respond rfl rfl rfl (by decide +kernel) ⟨Nat.le_of_ble_eq_true rfl, Nat.le_of_ble_eq_true rfl⟩) (ci := 2) rfl rfl rfl hl.1 rfl (Nat.zero_le _) (Nat.zero_le _) rfl (Nat.le_of_ble_eq_true rfl) dX0_idle_26 (fun r3 n2 H locs hvc hP hD hS => ?_)
    try dsimp only at hvc
    have hP : va_P D vwCl [(h_k 0, .inr (0, [.ref (h_c 0), .int k_stuck, .int k_state, .int k_code, .int k_held, .int k_beside, .int k_shifter])), (h_c 0, .inr (2, [.int c_inputs, .int c_flops, .int c_nets, .int c_outputs, .ref (h_c 5), .ref (h_c 6), .ref (h_c 7), .ref (h_c 8), .ref (h_c 9), .ref (h_c 10)])), (h_c 10, .inl (cyJ, 60, .inr (.inl n2))), (h_c 5, .inl (cyI, 60, .inl c_operation)), (h_c 7, .inl (cyI, 240, .inl c_looked)), (h_c 6, .inl (cyI, 60, .inl c_lookedCount)), (h_c 9, .inl (cyI, 10, .inl c_next)), (h_c 8, .inl (cyI, 8, .inl c_output))] H := sub_P hP (isC := [0, 1, 2, 3, 4, 5, 6, 7]) rfl
    have hD : va_D A [(h_k 0, .inr (0, [.ref (h_c 0), .int k_stuck, .int k_state, .int k_code, .int k_held, .int k_beside, .int k_shifter])), (h_c 0, .inr (2, [.int c_inputs, .int c_flops, .int c_nets, .int c_outputs, .ref (h_c 5), .ref (h_c 6), .ref (h_c 7), .ref (h_c 8), .ref (h_c 9), .ref (h_c 10)])), (h_c 10, .inl (cyJ, 60, .inr (.inl n2))), (h_c 5, .inl (cyI, 60, .inl c_operation)), (h_c 7, .inl (cyI, 240, .inl c_looked)), (h_c 6, .inl (cyI, 60, .inl c_lookedCount)), (h_c 9, .inl (cyI, 10, .inl c_next)), (h_c 8, .inl (cyI, 8, .inl c_output))] := hD.sub [0, 1, 2, 3, 4, 5, 6, 7] (by decide) rfl
    refine kV_i (wc := [(h_c 0, .inr (2, [.int c_inputs, .int c_flops, .int c_nets, .int c_outputs, .ref (h_c 5), .ref (h_c 6), .ref (h_c 7), .ref (h_c 8), .ref (h_c 9), .ref (h_c 10)]))]) (wr := [(h_k 0, .inr (0, [.ref (h_c 0), .int k_stuck, .int k_state, .int k_code, .int k_held, .int k_beside, .int k_shifter])), (h_c 10, .inl (cyJ, 60, .inr (.inl n2))), (h_c 5, .inl (cyI, 60, .inl c_operation)), (h_c 7, .inl (cyI, 240, .inl c_looked)), (h_c 6, .inl (cyI, 60, .inl c_lookedCount)), (h_c 9, .inl (cyI, 10, .inl c_next)), (h_c 8, .inl (cyI, 8, .inl c_output))]) (As := [.int r3]) (rest := [.ref (h_k 0)]) ⟨hx, hb, hml, hown, hts⟩ hP hD hK hE hS hA [1] [0, 2, 3, 4, 5, 6, 7] rfl rfl (by decide) (by decide) (by decide) (c_X2_nextsOf l D ts cyI cyJ cyZ h_c _ c_inputs c_flops c_nets c_outputs r3 _ hvc) (cwV 1 hts gX0_idle_X2_nextsOf rfl rfl rfl (by decide +kernel) ⟨Nat.le_of_ble_eq_true rfl, Nat.le_of_ble_eq_true rfl⟩) (ci := 2) rfl rfl rfl hl.1 rfl (Nat.zero_le _) (Nat.zero_le _) rfl (Nat.le_of_ble_eq_true rfl) dX0_idle_29 (fun r4 _u H locs hvc hP hD hS => ?_)
    try dsimp only at hvc
    have hP : va_P D vwCl [(h_k 0, .inr (0, [.ref (h_c 0), .int k_stuck, .int k_state, .int k_code, .int k_held, .int k_beside, .int k_shifter])), (h_c 0, .inr (2, [.int c_inputs, .int c_flops, .int c_nets, .int c_outputs, .ref (h_c 5), .ref (h_c 6), .ref (h_c 7), .ref (h_c 8), .ref (h_c 9), .ref (h_c 10)])), (h_c 10, .inl (cyJ, 60, .inr (.inl n2))), (h_c 5, .inl (cyI, 60, .inl c_operation)), (h_c 7, .inl (cyI, 240, .inl c_looked)), (h_c 6, .inl (cyI, 60, .inl c_lookedCount)), (h_c 9, .inl (cyI, 10, .inl c_next)), (h_c 8, .inl (cyI, 8, .inl c_output))] H := sub_P hP (isC := [0, 7, 1, 2, 3, 4, 5, 6]) rfl
    have hD : va_D A [(h_k 0, .inr (0, [.ref (h_c 0), .int k_stuck, .int k_state, .int k_code, .int k_held, .int k_beside, .int k_shifter])), (h_c 0, .inr (2, [.int c_inputs, .int c_flops, .int c_nets, .int c_outputs, .ref (h_c 5), .ref (h_c 6), .ref (h_c 7), .ref (h_c 8), .ref (h_c 9), .ref (h_c 10)])), (h_c 10, .inl (cyJ, 60, .inr (.inl n2))), (h_c 5, .inl (cyI, 60, .inl c_operation)), (h_c 7, .inl (cyI, 240, .inl c_looked)), (h_c 6, .inl (cyI, 60, .inl c_lookedCount)), (h_c 9, .inl (cyI, 10, .inl c_next)), (h_c 8, .inl (cyI, 8, .inl c_output))] := hD.sub [0, 7, 1, 2, 3, 4, 5, 6] (by decide) rfl
    refine va_put (D := D) (ci := 0) (ty := .int) (C := RX0) (T := TX0) (N := 7) hx hb hts inX0 tyX0 tyX0_ok nmX0 hown hK hP hD hS 0 rfl rfl 4 (by decide) f25 (fun _ h9 => h9) rfl (by decide +kernel) rfl rfl (Nat.le_of_ble_eq_true rfl) dX0_idle_32 (fun H locs hP hD hS => ?_)
    have hP : va_P D vwCl [(h_k 0, .inr (0, [.ref (h_c 0), .int k_stuck, .int k_state, .int k_code, .int r4, .int k_beside, .int k_shifter])), (h_c 0, .inr (2, [.int c_inputs, .int c_flops, .int c_nets, .int c_outputs, .ref (h_c 5), .ref (h_c 6), .ref (h_c 7), .ref (h_c 8), .ref (h_c 9), .ref (h_c 10)])), (h_c 10, .inl (cyJ, 60, .inr (.inl n2))), (h_c 5, .inl (cyI, 60, .inl c_operation)), (h_c 7, .inl (cyI, 240, .inl c_looked)), (h_c 6, .inl (cyI, 60, .inl c_lookedCount)), (h_c 9, .inl (cyI, 10, .inl c_next)), (h_c 8, .inl (cyI, 8, .inl c_output))] H := hP
    have hD : va_D A [(h_k 0, .inr (0, [.ref (h_c 0), .int k_stuck, .int k_state, .int k_code, .int r4, .int k_beside, .int k_shifter])), (h_c 0, .inr (2, [.int c_inputs, .int c_flops, .int c_nets, .int c_outputs, .ref (h_c 5), .ref (h_c 6), .ref (h_c 7), .ref (h_c 8), .ref (h_c 9), .ref (h_c 10)])), (h_c 10, .inl (cyJ, 60, .inr (.inl n2))), (h_c 5, .inl (cyI, 60, .inl c_operation)), (h_c 7, .inl (cyI, 240, .inl c_looked)), (h_c 6, .inl (cyI, 60, .inl c_lookedCount)), (h_c 9, .inl (cyI, 10, .inl c_next)), (h_c 8, .inl (cyI, 8, .inl c_output))] := hD
    exact hret (r4, n2) _ _ _ _ hvc hP hD hS dX0_idle_35
def v_X0_capture (k_stuck : Int32) (k_code : Int32) (k_held : Int32) (k_beside : Int32) (c_inputs : Int32) (c_flops : Int32) (c_nets : Int32) (c_outputs : Int32) (c_value : Nat → Int64) (c_operation : Nat → Int32) (c_looked : Nat → Int32) (c_lookedCount : Nat → Int32) (c_next : Nat → Int32) (c_output : Nat → Int32) (p0 : Int32) (Q : Int32 → Int32 → (Nat → Int64) → Prop) : Prop := (¬ k_code = (1 : Int32) → Q k_held (0 : Int32) c_value) ∧ (k_code = (1 : Int32) → v_X0_patternWith  k_held c_inputs p0 (fun (r1 : Int32) => v_X2_respond  c_inputs c_flops c_nets c_outputs c_value c_operation c_looked c_lookedCount c_next c_output r1 k_stuck (fun (r3 : Int32) (n2 : Nat → Int64) => v_X2_nextsOf  c_outputs r3 (fun (r4 : Int32) => Q r4 k_beside n2))))
abbrev rm_X0_capture : Room := { frames := 3, cells := 0, slots := 0, locals := 75 }
set_option maxHeartbeats 4000000 in
set_option maxRecDepth 100000 in
theorem c_X0_capture (l : Launch) (D : va_G) (ts : Nat → Nat) (cyI cyJ cyZ : ClassId) (h_c : Nat → Nat) (h_k : Nat → Nat) (sz : Nat) (k_stuck : Int32) (k_state : Int32) (k_code : Int32) (k_held : Int32) (k_beside : Int32) (k_shifter : Int32) (c_inputs : Int32) (c_flops : Int32) (c_nets : Int32) (c_outputs : Int32) (c_value : Nat → Int64) (c_operation : Nat → Int32) (c_looked : Nat → Int32) (c_lookedCount : Nat → Int32) (c_next : Nat → Int32) (c_output : Nat → Int32) (p0 : Int32) (Q : Int32 → Int32 → (Nat → Int64) → Prop) (hvc : v_X0_capture k_stuck k_code k_held k_beside c_inputs c_flops c_nets c_outputs c_value c_operation c_looked c_lookedCount c_next c_output p0 Q) : Met l yX0_capture wsX0_capture rm_X0_capture (va_Pc [.ref (h_k 0), .int p0] (cPre D ts [(cyI, .int), (cyJ, .long), (cyZ, .boolean)] [(h_k 0, .inr (0, [.ref (h_c 0), .int k_stuck, .int k_state, .int k_code, .int k_held, .int k_beside, .int k_shifter])), (h_c 0, .inr (2, [.int c_inputs, .int c_flops, .int c_nets, .int c_outputs, .ref (h_c 5), .ref (h_c 6), .ref (h_c 7), .ref (h_c 8), .ref (h_c 9), .ref (h_c 10)])), (h_c 10, .inl (cyJ, 60, .inr (.inl c_value))), (h_c 5, .inl (cyI, 60, .inl c_operation)), (h_c 7, .inl (cyI, 240, .inl c_looked)), (h_c 6, .inl (cyI, 60, .inl c_lookedCount)), (h_c 9, .inl (cyI, 10, .inl c_next)), (h_c 8, .inl (cyI, 8, .inl c_output))] sz)) (va_Qv (fun (u : Int32 × Int32 × (Nat → Int64)) => Q u.1 u.2.1 u.2.2) (cPost D [(cyI, .int), (cyJ, .long), (cyZ, .boolean)] (fun (u : Int32 × Int32 × (Nat → Int64)) => [(h_k 0, .inr (0, [.ref (h_c 0), .int k_stuck, .int k_state, .int k_code, .int (u.1), .int (u.2.1), .int k_shifter])), (h_c 0, .inr (2, [.int c_inputs, .int c_flops, .int c_nets, .int c_outputs, .ref (h_c 5), .ref (h_c 6), .ref (h_c 7), .ref (h_c 8), .ref (h_c 9), .ref (h_c 10)])), (h_c 10, .inl (cyJ, 60, .inr (.inl (u.2.2)))), (h_c 5, .inl (cyI, 60, .inl c_operation)), (h_c 7, .inl (cyI, 240, .inl c_looked)), (h_c 6, .inl (cyI, 60, .inl c_lookedCount)), (h_c 9, .inl (cyI, 10, .inl c_next)), (h_c 8, .inl (cyI, 8, .inl c_output))]) (va_A [(h_k 0, .inr (0, [.ref (h_c 0), .int k_stuck, .int k_state, .int k_code, .int k_held, .int k_beside, .int k_shifter])), (h_c 0, .inr (2, [.int c_inputs, .int c_flops, .int c_nets, .int c_outputs, .ref (h_c 5), .ref (h_c 6), .ref (h_c 7), .ref (h_c 8), .ref (h_c 9), .ref (h_c 10)])), (h_c 10, .inl (cyJ, 60, .inr (.inl c_value))), (h_c 5, .inl (cyI, 60, .inl c_operation)), (h_c 7, .inl (cyI, 240, .inl c_looked)), (h_c 6, .inl (cyI, 60, .inl c_lookedCount)), (h_c 9, .inl (cyI, 10, .inl c_next)), (h_c 8, .inl (cyI, 8, .inl c_output))] sz)) (va_A [(h_k 0, .inr (0, [.ref (h_c 0), .int k_stuck, .int k_state, .int k_code, .int k_held, .int k_beside, .int k_shifter])), (h_c 0, .inr (2, [.int c_inputs, .int c_flops, .int c_nets, .int c_outputs, .ref (h_c 5), .ref (h_c 6), .ref (h_c 7), .ref (h_c 8), .ref (h_c 9), .ref (h_c 10)])), (h_c 10, .inl (cyJ, 60, .inr (.inl c_value))), (h_c 5, .inl (cyI, 60, .inl c_operation)), (h_c 7, .inl (cyI, 240, .inl c_looked)), (h_c 6, .inl (cyI, 60, .inl c_lookedCount)), (h_c 9, .inl (cyI, 10, .inl c_next)), (h_c 8, .inl (cyI, 8, .inl c_output))] sz)) 0 0 (va_A [(h_k 0, .inr (0, [.ref (h_c 0), .int k_stuck, .int k_state, .int k_code, .int k_held, .int k_beside, .int k_shifter])), (h_c 0, .inr (2, [.int c_inputs, .int c_flops, .int c_nets, .int c_outputs, .ref (h_c 5), .ref (h_c 6), .ref (h_c 7), .ref (h_c 8), .ref (h_c 9), .ref (h_c 10)])), (h_c 10, .inl (cyJ, 60, .inr (.inl c_value))), (h_c 5, .inl (cyI, 60, .inl c_operation)), (h_c 7, .inl (cyI, 240, .inl c_looked)), (h_c 6, .inl (cyI, 60, .inl c_lookedCount)), (h_c 9, .inl (cyI, 10, .inl c_next)), (h_c 8, .inl (cyI, 8, .inl c_output))] sz) := by
  refine kEnter_v (cc := cX0_capture) (maxL := 2) (by decide) rfl (Nat.le_of_ble_eq_true rfl) ?_
  intro p e s m args below meth c A ls QQ hx hb hml hown hts hsz hA hP hD hK hE hS hl hret
  clear hsz
  have hown : s.vm.findClass RX0 = some m.cls := hown
  have inX0 : ∀ w ∈ wsX00, w ∈ wsX0_capture := by decide +kernel
  have f18 := hts (.fieldLink RX0 18 "ScanTester$Chip" "code" "I") (by decide +kernel)
  have f28 := hts (.fieldLink RX0 28 "ScanTester$Chip" "beside" "I") (by decide +kernel)
  have f21 := hts (.fieldLink RX0 21 "ScanTester$Chip" "circuit" "LScanTester$Circuit;") (by decide +kernel)
  have f9 := hts (.fieldLink RX0 9 "ScanTester$Chip" "stuck" "I") (by decide +kernel)
  have f25 := hts (.fieldLink RX0 25 "ScanTester$Chip" "held" "I") (by decide +kernel)
  have hl : lv_has ls 2 [(0, .ref (h_k 0)), (1, .int p0)] := hl
  refine lv_aload_n hx hb dX0_capture_0 rfl (lv_at hl 0 rfl) ?_
  refine va_get (D := D) (ci := 0) (C := RX0) (T := TX0) (N := 7) hx hb hts inX0 hown hK hP 0 rfl rfl 3 (by decide) f18 (fun _ h9 => h9) rfl dX0_capture_1 ?_
  refine lv_iconst (v := 1) hx hb dX0_capture_4 (by decide) ?_
  obtain ⟨hvt, hvf⟩ := hvc
  refine lv_icmp_ne (tgt := 38) hx hb dX0_capture_5 (by decide) (fun hc => ?_) (fun hc => ?_)
  · have hvc := hvt hc
    refine lv_aload_n hx hb dX0_capture_38 rfl (lv_at hl 0 rfl) ?_
    refine lv_iconst (v := 0) hx hb dX0_capture_39 (by decide) ?_
    refine va_put (D := D) (ci := 0) (ty := .int) (C := RX0) (T := TX0) (N := 7) hx hb hts inX0 tyX0 tyX0_ok nmX0 hown hK hP hD hS 0 rfl rfl 5 (by decide) f28 (fun _ h9 => h9) rfl (by decide +kernel) rfl rfl (Nat.le_of_ble_eq_true rfl) dX0_capture_40 (fun H locs hP hD hS => ?_)
    have hP : va_P D vwCl [(h_k 0, .inr (0, [.ref (h_c 0), .int k_stuck, .int k_state, .int k_code, .int k_held, .int (0 : Int32), .int k_shifter])), (h_c 0, .inr (2, [.int c_inputs, .int c_flops, .int c_nets, .int c_outputs, .ref (h_c 5), .ref (h_c 6), .ref (h_c 7), .ref (h_c 8), .ref (h_c 9), .ref (h_c 10)])), (h_c 10, .inl (cyJ, 60, .inr (.inl c_value))), (h_c 5, .inl (cyI, 60, .inl c_operation)), (h_c 7, .inl (cyI, 240, .inl c_looked)), (h_c 6, .inl (cyI, 60, .inl c_lookedCount)), (h_c 9, .inl (cyI, 10, .inl c_next)), (h_c 8, .inl (cyI, 8, .inl c_output))] H := hP
    have hD : va_D A [(h_k 0, .inr (0, [.ref (h_c 0), .int k_stuck, .int k_state, .int k_code, .int k_held, .int (0 : Int32), .int k_shifter])), (h_c 0, .inr (2, [.int c_inputs, .int c_flops, .int c_nets, .int c_outputs, .ref (h_c 5), .ref (h_c 6), .ref (h_c 7), .ref (h_c 8), .ref (h_c 9), .ref (h_c 10)])), (h_c 10, .inl (cyJ, 60, .inr (.inl c_value))), (h_c 5, .inl (cyI, 60, .inl c_operation)), (h_c 7, .inl (cyI, 240, .inl c_looked)), (h_c 6, .inl (cyI, 60, .inl c_lookedCount)), (h_c 9, .inl (cyI, 10, .inl c_next)), (h_c 8, .inl (cyI, 8, .inl c_output))] := hD
    exact hret (k_held, (0 : Int32), c_value) _ _ _ _ hvc hP hD hS dX0_capture_43
  · have hvc := hvf hc
    refine lv_aload_n hx hb dX0_capture_8 rfl (lv_at hl 0 rfl) ?_
    refine lv_aload_n hx hb dX0_capture_9 rfl (lv_at hl 0 rfl) ?_
    refine va_get (D := D) (ci := 0) (C := RX0) (T := TX0) (N := 7) hx hb hts inX0 hown hK hP 0 rfl rfl 0 (by decide) f21 (fun _ h9 => h9) rfl dX0_capture_10 ?_
    refine lv_aload_n hx hb dX0_capture_13 rfl (lv_at hl 0 rfl) ?_
    refine va_get (D := D) (ci := 0) (C := RX0) (T := TX0) (N := 7) hx hb hts inX0 hown hK hP 0 rfl rfl 0 (by decide) f21 (fun _ h9 => h9) rfl dX0_capture_14 ?_
    refine lv_aload_n hx hb dX0_capture_17 rfl (lv_at hl 0 rfl) ?_
    refine lv_iload_n hx hb dX0_capture_18 rfl (lv_at hl 1 rfl) ?_
    refine kV_i (wc := [(h_k 0, .inr (0, [.ref (h_c 0), .int k_stuck, .int k_state, .int k_code, .int k_held, .int k_beside, .int k_shifter])), (h_c 0, .inr (2, [.int c_inputs, .int c_flops, .int c_nets, .int c_outputs, .ref (h_c 5), .ref (h_c 6), .ref (h_c 7), .ref (h_c 8), .ref (h_c 9), .ref (h_c 10)]))]) (wr := [(h_c 10, .inl (cyJ, 60, .inr (.inl c_value))), (h_c 5, .inl (cyI, 60, .inl c_operation)), (h_c 7, .inl (cyI, 240, .inl c_looked)), (h_c 6, .inl (cyI, 60, .inl c_lookedCount)), (h_c 9, .inl (cyI, 10, .inl c_next)), (h_c 8, .inl (cyI, 8, .inl c_output))]) (As := [.int p0]) (rest := [.ref (h_c 0), .ref (h_c 0), .ref (h_k 0)]) ⟨hx, hb, hml, hown, hts⟩ hP hD hK hE hS hA [0, 1] [2, 3, 4, 5, 6, 7] rfl rfl (by decide) (by decide) (by decide) (c_X0_patternWith l D ts cyI cyJ cyZ h_c h_k _ k_stuck k_state k_code k_held k_beside k_shifter c_inputs c_flops c_nets c_outputs p0 _ hvc) (cwV 1 hts gX0_capture_X0_patternWith rfl rfl rfl (by decide +kernel) ⟨Nat.le_of_ble_eq_true rfl, Nat.le_of_ble_eq_true rfl⟩) (ci := 0) rfl rfl rfl hl.1 rfl (Nat.zero_le _) (Nat.zero_le _) rfl (Nat.le_of_ble_eq_true rfl) dX0_capture_19 (fun r1 _u H locs hvc hP hD hS => ?_)
    try dsimp only at hvc
    have hP : va_P D vwCl [(h_k 0, .inr (0, [.ref (h_c 0), .int k_stuck, .int k_state, .int k_code, .int k_held, .int k_beside, .int k_shifter])), (h_c 0, .inr (2, [.int c_inputs, .int c_flops, .int c_nets, .int c_outputs, .ref (h_c 5), .ref (h_c 6), .ref (h_c 7), .ref (h_c 8), .ref (h_c 9), .ref (h_c 10)])), (h_c 10, .inl (cyJ, 60, .inr (.inl c_value))), (h_c 5, .inl (cyI, 60, .inl c_operation)), (h_c 7, .inl (cyI, 240, .inl c_looked)), (h_c 6, .inl (cyI, 60, .inl c_lookedCount)), (h_c 9, .inl (cyI, 10, .inl c_next)), (h_c 8, .inl (cyI, 8, .inl c_output))] H := sub_P hP (isC := [6, 7, 0, 1, 2, 3, 4, 5]) rfl
    have hD : va_D A [(h_k 0, .inr (0, [.ref (h_c 0), .int k_stuck, .int k_state, .int k_code, .int k_held, .int k_beside, .int k_shifter])), (h_c 0, .inr (2, [.int c_inputs, .int c_flops, .int c_nets, .int c_outputs, .ref (h_c 5), .ref (h_c 6), .ref (h_c 7), .ref (h_c 8), .ref (h_c 9), .ref (h_c 10)])), (h_c 10, .inl (cyJ, 60, .inr (.inl c_value))), (h_c 5, .inl (cyI, 60, .inl c_operation)), (h_c 7, .inl (cyI, 240, .inl c_looked)), (h_c 6, .inl (cyI, 60, .inl c_lookedCount)), (h_c 9, .inl (cyI, 10, .inl c_next)), (h_c 8, .inl (cyI, 8, .inl c_output))] := hD.sub [6, 7, 0, 1, 2, 3, 4, 5] (by decide) rfl
    refine lv_aload_n hx hb dX0_capture_22 rfl (lv_at hl 0 rfl) ?_
    refine va_get (D := D) (ci := 0) (C := RX0) (T := TX0) (N := 7) hx hb hts inX0 hown hK hP 0 rfl rfl 1 (by decide) f9 (fun _ h9 => h9) rfl dX0_capture_23 ?_
    refine kV_i (wc := [(h_c 0, .inr (2, [.int c_inputs, .int c_flops, .int c_nets, .int c_outputs, .ref (h_c 5), .ref (h_c 6), .ref (h_c 7), .ref (h_c 8), .ref (h_c 9), .ref (h_c 10)])), (h_c 10, .inl (cyJ, 60, .inr (.inl c_value))), (h_c 5, .inl (cyI, 60, .inl c_operation)), (h_c 7, .inl (cyI, 240, .inl c_looked)), (h_c 6, .inl (cyI, 60, .inl c_lookedCount)), (h_c 9, .inl (cyI, 10, .inl c_next)), (h_c 8, .inl (cyI, 8, .inl c_output))]) (wr := [(h_k 0, .inr (0, [.ref (h_c 0), .int k_stuck, .int k_state, .int k_code, .int k_held, .int k_beside, .int k_shifter]))]) (As := [.int r1, .int k_stuck]) (rest := [.ref (h_c 0), .ref (h_k 0)]) ⟨hx, hb, hml, hown, hts⟩ hP hD hK hE hS hA [1, 2, 3, 4, 5, 6, 7] [0] rfl rfl (by decide) (by decide) (by decide) (c_X2_respond l D ts cyI cyJ cyZ h_c _ c_inputs c_flops c_nets c_outputs c_value c_operation c_looked c_lookedCount c_next c_output r1 k_stuck _ hvc) (cwV 2 hts gX0_capture_X2_respond rfl rfl rfl (by decide +kernel) ⟨Nat.le_of_ble_eq_true rfl, Nat.le_of_ble_eq_true rfl⟩) (ci := 2) rfl rfl rfl hl.1 rfl (Nat.zero_le _) (Nat.zero_le _) rfl (Nat.le_of_ble_eq_true rfl) dX0_capture_26 (fun r3 n2 H locs hvc hP hD hS => ?_)
    try dsimp only at hvc
    have hP : va_P D vwCl [(h_k 0, .inr (0, [.ref (h_c 0), .int k_stuck, .int k_state, .int k_code, .int k_held, .int k_beside, .int k_shifter])), (h_c 0, .inr (2, [.int c_inputs, .int c_flops, .int c_nets, .int c_outputs, .ref (h_c 5), .ref (h_c 6), .ref (h_c 7), .ref (h_c 8), .ref (h_c 9), .ref (h_c 10)])), (h_c 10, .inl (cyJ, 60, .inr (.inl n2))), (h_c 5, .inl (cyI, 60, .inl c_operation)), (h_c 7, .inl (cyI, 240, .inl c_looked)), (h_c 6, .inl (cyI, 60, .inl c_lookedCount)), (h_c 9, .inl (cyI, 10, .inl c_next)), (h_c 8, .inl (cyI, 8, .inl c_output))] H := sub_P hP (isC := [0, 1, 2, 3, 4, 5, 6, 7]) rfl
    have hD : va_D A [(h_k 0, .inr (0, [.ref (h_c 0), .int k_stuck, .int k_state, .int k_code, .int k_held, .int k_beside, .int k_shifter])), (h_c 0, .inr (2, [.int c_inputs, .int c_flops, .int c_nets, .int c_outputs, .ref (h_c 5), .ref (h_c 6), .ref (h_c 7), .ref (h_c 8), .ref (h_c 9), .ref (h_c 10)])), (h_c 10, .inl (cyJ, 60, .inr (.inl n2))), (h_c 5, .inl (cyI, 60, .inl c_operation)), (h_c 7, .inl (cyI, 240, .inl c_looked)), (h_c 6, .inl (cyI, 60, .inl c_lookedCount)), (h_c 9, .inl (cyI, 10, .inl c_next)), (h_c 8, .inl (cyI, 8, .inl c_output))] := hD.sub [0, 1, 2, 3, 4, 5, 6, 7] (by decide) rfl
    refine kV_i (wc := [(h_c 0, .inr (2, [.int c_inputs, .int c_flops, .int c_nets, .int c_outputs, .ref (h_c 5), .ref (h_c 6), .ref (h_c 7), .ref (h_c 8), .ref (h_c 9), .ref (h_c 10)]))]) (wr := [(h_k 0, .inr (0, [.ref (h_c 0), .int k_stuck, .int k_state, .int k_code, .int k_held, .int k_beside, .int k_shifter])), (h_c 10, .inl (cyJ, 60, .inr (.inl n2))), (h_c 5, .inl (cyI, 60, .inl c_operation)), (h_c 7, .inl (cyI, 240, .inl c_looked)), (h_c 6, .inl (cyI, 60, .inl c_lookedCount)), (h_c 9, .inl (cyI, 10, .inl c_next)), (h_c 8, .inl (cyI, 8, .inl c_output))]) (As := [.int r3]) (rest := [.ref (h_k 0)]) ⟨hx, hb, hml, hown, hts⟩ hP hD hK hE hS hA [1] [0, 2, 3, 4, 5, 6, 7] rfl rfl (by decide) (by decide) (by decide) (c_X2_nextsOf l D ts cyI cyJ cyZ h_c _ c_inputs c_flops c_nets c_outputs r3 _ hvc) (cwV 1 hts gX0_capture_X2_nextsOf rfl rfl rfl (by decide +kernel) ⟨Nat.le_of_ble_eq_true rfl, Nat.le_of_ble_eq_true rfl⟩) (ci := 2) rfl rfl rfl hl.1 rfl (Nat.zero_le _) (Nat.zero_le _) rfl (Nat.le_of_ble_eq_true rfl) dX0_capture_29 (fun r4 _u H locs hvc hP hD hS => ?_)
    try dsimp only at hvc
    have hP : va_P D vwCl [(h_k 0, .inr (0, [.ref (h_c 0), .int k_stuck, .int k_state, .int k_code, .int k_held, .int k_beside, .int k_shifter])), (h_c 0, .inr (2, [.int c_inputs, .int c_flops, .int c_nets, .int c_outputs, .ref (h_c 5), .ref (h_c 6), .ref (h_c 7), .ref (h_c 8), .ref (h_c 9), .ref (h_c 10)])), (h_c 10, .inl (cyJ, 60, .inr (.inl n2))), (h_c 5, .inl (cyI, 60, .inl c_operation)), (h_c 7, .inl (cyI, 240, .inl c_looked)), (h_c 6, .inl (cyI, 60, .inl c_lookedCount)), (h_c 9, .inl (cyI, 10, .inl c_next)), (h_c 8, .inl (cyI, 8, .inl c_output))] H := sub_P hP (isC := [0, 7, 1, 2, 3, 4, 5, 6]) rfl
    have hD : va_D A [(h_k 0, .inr (0, [.ref (h_c 0), .int k_stuck, .int k_state, .int k_code, .int k_held, .int k_beside, .int k_shifter])), (h_c 0, .inr (2, [.int c_inputs, .int c_flops, .int c_nets, .int c_outputs, .ref (h_c 5), .ref (h_c 6), .ref (h_c 7), .ref (h_c 8), .ref (h_c 9), .ref (h_c 10)])), (h_c 10, .inl (cyJ, 60, .inr (.inl n2))), (h_c 5, .inl (cyI, 60, .inl c_operation)), (h_c 7, .inl (cyI, 240, .inl c_looked)), (h_c 6, .inl (cyI, 60, .inl c_lookedCount)), (h_c 9, .inl (cyI, 10, .inl c_next)), (h_c 8, .inl (cyI, 8, .inl c_output))] := hD.sub [0, 7, 1, 2, 3, 4, 5, 6] (by decide) rfl
    refine va_put (D := D) (ci := 0) (ty := .int) (C := RX0) (T := TX0) (N := 7) hx hb hts inX0 tyX0 tyX0_ok nmX0 hown hK hP hD hS 0 rfl rfl 4 (by decide) f25 (fun _ h9 => h9) rfl (by decide +kernel) rfl rfl (Nat.le_of_ble_eq_true rfl) dX0_capture_32 (fun H locs hP hD hS => ?_)
    have hP : va_P D vwCl [(h_k 0, .inr (0, [.ref (h_c 0), .int k_stuck, .int k_state, .int k_code, .int r4, .int k_beside, .int k_shifter])), (h_c 0, .inr (2, [.int c_inputs, .int c_flops, .int c_nets, .int c_outputs, .ref (h_c 5), .ref (h_c 6), .ref (h_c 7), .ref (h_c 8), .ref (h_c 9), .ref (h_c 10)])), (h_c 10, .inl (cyJ, 60, .inr (.inl n2))), (h_c 5, .inl (cyI, 60, .inl c_operation)), (h_c 7, .inl (cyI, 240, .inl c_looked)), (h_c 6, .inl (cyI, 60, .inl c_lookedCount)), (h_c 9, .inl (cyI, 10, .inl c_next)), (h_c 8, .inl (cyI, 8, .inl c_output))] H := hP
    have hD : va_D A [(h_k 0, .inr (0, [.ref (h_c 0), .int k_stuck, .int k_state, .int k_code, .int r4, .int k_beside, .int k_shifter])), (h_c 0, .inr (2, [.int c_inputs, .int c_flops, .int c_nets, .int c_outputs, .ref (h_c 5), .ref (h_c 6), .ref (h_c 7), .ref (h_c 8), .ref (h_c 9), .ref (h_c 10)])), (h_c 10, .inl (cyJ, 60, .inr (.inl n2))), (h_c 5, .inl (cyI, 60, .inl c_operation)), (h_c 7, .inl (cyI, 240, .inl c_looked)), (h_c 6, .inl (cyI, 60, .inl c_lookedCount)), (h_c 9, .inl (cyI, 10, .inl c_next)), (h_c 8, .inl (cyI, 8, .inl c_output))] := hD
    refine lv_goto (tgt := 43) hx hb dX0_capture_35 (by decide) ?_
    exact hret (r4, k_beside, n2) _ _ _ _ hvc hP hD hS dX0_capture_43
def v_X0_shift (k_code : Int32) (k_held : Int32) (k_beside : Int32) (c_flops : Int32) (p0 : Int32) (Q : Int32 → Int32 → Prop) : Prop := (¬ k_code = (1 : Int32) → Q k_held p0) ∧ (k_code = (1 : Int32) → ∀ v1 : Int32, v1 = ((k_held <<< ((1 : Int32) &&& 31)) ||| p0) &&& (((1 : Int32) <<< (c_flops &&& 31)) - (1 : Int32)) → Q v1 k_beside)
abbrev rm_X0_shift : Room := { frames := 0, cells := 0, slots := 0, locals := 0 }
set_option maxHeartbeats 4000000 in
set_option maxRecDepth 100000 in
theorem c_X0_shift (l : Launch) (D : va_G) (ts : Nat → Nat) (cyI cyJ cyZ : ClassId) (h_c : Nat → Nat) (h_k : Nat → Nat) (sz : Nat) (k_stuck : Int32) (k_state : Int32) (k_code : Int32) (k_held : Int32) (k_beside : Int32) (k_shifter : Int32) (c_inputs : Int32) (c_flops : Int32) (c_nets : Int32) (c_outputs : Int32) (p0 : Int32) (Q : Int32 → Int32 → Prop) (hvc : v_X0_shift k_code k_held k_beside c_flops p0 Q) : Met l yX0_shift wsX0_shift rm_X0_shift (va_Pc [.ref (h_k 0), .int p0] (cPre D ts [(cyI, .int), (cyJ, .long), (cyZ, .boolean)] [(h_k 0, .inr (0, [.ref (h_c 0), .int k_stuck, .int k_state, .int k_code, .int k_held, .int k_beside, .int k_shifter])), (h_c 0, .inr (2, [.int c_inputs, .int c_flops, .int c_nets, .int c_outputs, .ref (h_c 5), .ref (h_c 6), .ref (h_c 7), .ref (h_c 8), .ref (h_c 9), .ref (h_c 10)]))] sz)) (va_Qv (fun (u : Int32 × Int32) => Q u.1 u.2) (cPost D [(cyI, .int), (cyJ, .long), (cyZ, .boolean)] (fun (u : Int32 × Int32) => [(h_k 0, .inr (0, [.ref (h_c 0), .int k_stuck, .int k_state, .int k_code, .int (u.1), .int (u.2), .int k_shifter])), (h_c 0, .inr (2, [.int c_inputs, .int c_flops, .int c_nets, .int c_outputs, .ref (h_c 5), .ref (h_c 6), .ref (h_c 7), .ref (h_c 8), .ref (h_c 9), .ref (h_c 10)]))]) (va_A [(h_k 0, .inr (0, [.ref (h_c 0), .int k_stuck, .int k_state, .int k_code, .int k_held, .int k_beside, .int k_shifter])), (h_c 0, .inr (2, [.int c_inputs, .int c_flops, .int c_nets, .int c_outputs, .ref (h_c 5), .ref (h_c 6), .ref (h_c 7), .ref (h_c 8), .ref (h_c 9), .ref (h_c 10)]))] sz)) (va_A [(h_k 0, .inr (0, [.ref (h_c 0), .int k_stuck, .int k_state, .int k_code, .int k_held, .int k_beside, .int k_shifter])), (h_c 0, .inr (2, [.int c_inputs, .int c_flops, .int c_nets, .int c_outputs, .ref (h_c 5), .ref (h_c 6), .ref (h_c 7), .ref (h_c 8), .ref (h_c 9), .ref (h_c 10)]))] sz)) 0 0 (va_A [(h_k 0, .inr (0, [.ref (h_c 0), .int k_stuck, .int k_state, .int k_code, .int k_held, .int k_beside, .int k_shifter])), (h_c 0, .inr (2, [.int c_inputs, .int c_flops, .int c_nets, .int c_outputs, .ref (h_c 5), .ref (h_c 6), .ref (h_c 7), .ref (h_c 8), .ref (h_c 9), .ref (h_c 10)]))] sz) := by
  refine kEnter_v (cc := cX0_shift) (maxL := 2) (by decide) rfl (Nat.le_of_ble_eq_true rfl) ?_
  intro p e s m args below meth c A ls QQ hx hb hml hown hts hsz hA hP hD hK hE hS hl hret
  clear hsz
  have hown : s.vm.findClass RX0 = some m.cls := hown
  have inX0 : ∀ w ∈ wsX00, w ∈ wsX0_shift := by decide +kernel
  have inX2 : ∀ w ∈ wsX20, w ∈ wsX0_shift := by decide +kernel
  have f18 := hts (.fieldLink RX0 18 "ScanTester$Chip" "code" "I") (by decide +kernel)
  have f28 := hts (.fieldLink RX0 28 "ScanTester$Chip" "beside" "I") (by decide +kernel)
  have f25 := hts (.fieldLink RX0 25 "ScanTester$Chip" "held" "I") (by decide +kernel)
  have f21 := hts (.fieldLink RX0 21 "ScanTester$Chip" "circuit" "LScanTester$Circuit;") (by decide +kernel)
  have hl : lv_has ls 2 [(0, .ref (h_k 0)), (1, .int p0)] := hl
  refine lv_aload_n hx hb dX0_shift_0 rfl (lv_at hl 0 rfl) ?_
  refine va_get (D := D) (ci := 0) (C := RX0) (T := TX0) (N := 7) hx hb hts inX0 hown hK hP 0 rfl rfl 3 (by decide) f18 (fun _ h9 => h9) rfl dX0_shift_1 ?_
  refine lv_iconst (v := 1) hx hb dX0_shift_4 (by decide) ?_
  obtain ⟨hvt, hvf⟩ := hvc
  refine lv_icmp_ne (tgt := 35) hx hb dX0_shift_5 (by decide) (fun hc => ?_) (fun hc => ?_)
  · have hvc := hvt hc
    refine lv_aload_n hx hb dX0_shift_35 rfl (lv_at hl 0 rfl) ?_
    refine lv_iload_n hx hb dX0_shift_36 rfl (lv_at hl 1 rfl) ?_
    refine va_put (D := D) (ci := 0) (ty := .int) (C := RX0) (T := TX0) (N := 7) hx hb hts inX0 tyX0 tyX0_ok nmX0 hown hK hP hD hS 0 rfl rfl 5 (by decide) f28 (fun _ h9 => h9) rfl (by decide +kernel) rfl rfl (Nat.le_of_ble_eq_true rfl) dX0_shift_37 (fun H locs hP hD hS => ?_)
    have hP : va_P D vwCl [(h_k 0, .inr (0, [.ref (h_c 0), .int k_stuck, .int k_state, .int k_code, .int k_held, .int p0, .int k_shifter])), (h_c 0, .inr (2, [.int c_inputs, .int c_flops, .int c_nets, .int c_outputs, .ref (h_c 5), .ref (h_c 6), .ref (h_c 7), .ref (h_c 8), .ref (h_c 9), .ref (h_c 10)]))] H := hP
    have hD : va_D A [(h_k 0, .inr (0, [.ref (h_c 0), .int k_stuck, .int k_state, .int k_code, .int k_held, .int p0, .int k_shifter])), (h_c 0, .inr (2, [.int c_inputs, .int c_flops, .int c_nets, .int c_outputs, .ref (h_c 5), .ref (h_c 6), .ref (h_c 7), .ref (h_c 8), .ref (h_c 9), .ref (h_c 10)]))] := hD
    exact hret (k_held, p0) _ _ _ _ hvc hP hD hS dX0_shift_40
  · have hvc := hvf hc
    refine lv_aload_n hx hb dX0_shift_8 rfl (lv_at hl 0 rfl) ?_
    refine lv_aload_n hx hb dX0_shift_9 rfl (lv_at hl 0 rfl) ?_
    refine va_get (D := D) (ci := 0) (C := RX0) (T := TX0) (N := 7) hx hb hts inX0 hown hK hP 0 rfl rfl 4 (by decide) f25 (fun _ h9 => h9) rfl dX0_shift_10 ?_
    refine lv_iconst (v := 1) hx hb dX0_shift_13 (by decide) ?_
    refine lv_ishl hx hb dX0_shift_14 ?_
    refine lv_iload_n hx hb dX0_shift_15 rfl (lv_at hl 1 rfl) ?_
    refine lv_ior hx hb dX0_shift_16 ?_
    refine lv_iconst (v := 1) hx hb dX0_shift_17 (by decide) ?_
    refine lv_aload_n hx hb dX0_shift_18 rfl (lv_at hl 0 rfl) ?_
    refine va_get (D := D) (ci := 0) (C := RX0) (T := TX0) (N := 7) hx hb hts inX0 hown hK hP 0 rfl rfl 0 (by decide) f21 (fun _ h9 => h9) rfl dX0_shift_19 ?_
    refine va_getN (D := D) (ci := 2) (C := RX2) (T := TX2) (N := 10) hx hb hts inX2 hown hK hP 1 rfl rfl 1 (by decide) (hE.nest 5 rfl) (fun _ h9 => h9) rfl dX0_shift_22 ?_
    refine lv_ishl hx hb dX0_shift_25 ?_
    refine lv_iconst (v := 1) hx hb dX0_shift_26 (by decide) ?_
    refine lv_isub hx hb dX0_shift_27 ?_
    refine lv_iand hx hb dX0_shift_28 ?_
    refine lv_topi (fun v1 ev1 => ?_)
    have hvc := hvc v1 ev1
    refine va_put (D := D) (ci := 0) (ty := .int) (C := RX0) (T := TX0) (N := 7) hx hb hts inX0 tyX0 tyX0_ok nmX0 hown hK hP hD hS 0 rfl rfl 4 (by decide) f25 (fun _ h9 => h9) rfl (by decide +kernel) rfl rfl (Nat.le_of_ble_eq_true rfl) dX0_shift_29 (fun H locs hP hD hS => ?_)
    have hP : va_P D vwCl [(h_k 0, .inr (0, [.ref (h_c 0), .int k_stuck, .int k_state, .int k_code, .int v1, .int k_beside, .int k_shifter])), (h_c 0, .inr (2, [.int c_inputs, .int c_flops, .int c_nets, .int c_outputs, .ref (h_c 5), .ref (h_c 6), .ref (h_c 7), .ref (h_c 8), .ref (h_c 9), .ref (h_c 10)]))] H := hP
    have hD : va_D A [(h_k 0, .inr (0, [.ref (h_c 0), .int k_stuck, .int k_state, .int k_code, .int v1, .int k_beside, .int k_shifter])), (h_c 0, .inr (2, [.int c_inputs, .int c_flops, .int c_nets, .int c_outputs, .ref (h_c 5), .ref (h_c 6), .ref (h_c 7), .ref (h_c 8), .ref (h_c 9), .ref (h_c 10)]))] := hD
    refine lv_goto (tgt := 40) hx hb dX0_shift_32 (by decide) ?_
    exact hret (v1, k_beside) _ _ _ _ hvc hP hD hS dX0_shift_40
def v_X0_pulse_b152 (k_stuck : Int32) (c_inputs : Int32) (c_flops : Int32) (c_nets : Int32) (c_outputs : Int32) (c_operation : Nat → Int32) (c_looked : Nat → Int32) (c_lookedCount : Nat → Int32) (c_next : Nat → Int32) (c_output : Nat → Int32) (Q : Int32 → Int32 → Int32 → Int32 → Int32 → (Nat → Int64) → Prop)  : Int32 → Int32 → Int32 → Int32 → Int32 → (Nat → Int64) → Int32 → Prop := fun (k_state : Int32) (k_code : Int32) (k_held : Int32) (k_beside : Int32) (k_shifter : Int32) (c_value : Nat → Int64) (l1 : Int32) => vp_in (((2 : Int32) * k_state) + l1) 32 ∧ ∀ v1 : Int32, v1 = tb_AFTER.getD (((2 : Int32) * k_state) + l1).toNatClampNeg 0 → Q v1 k_code k_held k_beside k_shifter c_value
def v_X0_pulse (k_stuck : Int32) (k_state : Int32) (k_code : Int32) (k_held : Int32) (k_beside : Int32) (k_shifter : Int32) (c_inputs : Int32) (c_flops : Int32) (c_nets : Int32) (c_outputs : Int32) (c_value : Nat → Int64) (c_operation : Nat → Int32) (c_looked : Nat → Int32) (c_lookedCount : Nat → Int32) (c_next : Nat → Int32) (c_output : Nat → Int32) (p0 : Int32) (p1 : Int32) (p2 : Int32) (Q : Int32 → Int32 → Int32 → Int32 → Int32 → (Nat → Int64) → Prop) : Prop := (k_state = (0 : Int32) → v_X0_pulse_b152 k_stuck c_inputs c_flops c_nets c_outputs c_operation c_looked c_lookedCount c_next c_output Q  k_state (3 : Int32) k_held k_beside k_shifter c_value p0) ∧ (¬ k_state = (0 : Int32) → (k_state = (1 : Int32) → v_X0_idle  k_stuck k_code k_held c_inputs c_flops c_nets c_outputs c_value c_operation c_looked c_lookedCount c_next c_output p2 (fun (n2 : Int32) (n3 : Nat → Int64) => v_X0_pulse_b152 k_stuck c_inputs c_flops c_nets c_outputs c_operation c_looked c_lookedCount c_next c_output Q  k_state k_code n2 k_beside k_shifter n3 p0)) ∧ (¬ k_state = (1 : Int32) → (k_state = (2 : Int32) → v_X0_pulse_b152 k_stuck c_inputs c_flops c_nets c_outputs c_operation c_looked c_lookedCount c_next c_output Q  k_state k_code k_held k_beside k_shifter c_value p0) ∧ (¬ k_state = (2 : Int32) → (k_state = (3 : Int32) → v_X0_capture  k_stuck k_code k_held k_beside c_inputs c_flops c_nets c_outputs c_value c_operation c_looked c_lookedCount c_next c_output p2 (fun (n4 : Int32) (n5 : Int32) (n6 : Nat → Int64) => v_X0_pulse_b152 k_stuck c_inputs c_flops c_nets c_outputs c_operation c_looked c_lookedCount c_next c_output Q  k_state k_code n4 n5 k_shifter n6 p0)) ∧ (¬ k_state = (3 : Int32) → (k_state = (4 : Int32) → v_X0_shift  k_code k_held k_beside c_flops p1 (fun (n7 : Int32) (n8 : Int32) => v_X0_pulse_b152 k_stuck c_inputs c_flops c_nets c_outputs c_operation c_looked c_lookedCount c_next c_output Q  k_state k_code n7 n8 k_shifter c_value p0)) ∧ (¬ k_state = (4 : Int32) → (k_state = (5 : Int32) → v_X0_pulse_b152 k_stuck c_inputs c_flops c_nets c_outputs c_operation c_looked c_lookedCount c_next c_output Q  k_state k_code k_held k_beside k_shifter c_value p0) ∧ (¬ k_state = (5 : Int32) → (k_state = (6 : Int32) → v_X0_pulse_b152 k_stuck c_inputs c_flops c_nets c_outputs c_operation c_looked c_lookedCount c_next c_output Q  k_state k_code k_held k_beside k_shifter c_value p0) ∧ (¬ k_state = (6 : Int32) → (k_state = (7 : Int32) → v_X0_pulse_b152 k_stuck c_inputs c_flops c_nets c_outputs c_operation c_looked c_lookedCount c_next c_output Q  k_state k_code k_held k_beside k_shifter c_value p0) ∧ (¬ k_state = (7 : Int32) → (k_state = (8 : Int32) → v_X0_pulse_b152 k_stuck c_inputs c_flops c_nets c_outputs c_operation c_looked c_lookedCount c_next c_output Q  k_state k_code k_held k_beside k_shifter c_value p0) ∧ (¬ k_state = (8 : Int32) → (k_state = (9 : Int32) → v_X0_pulse_b152 k_stuck c_inputs c_flops c_nets c_outputs c_operation c_looked c_lookedCount c_next c_output Q  k_state k_code k_held k_beside k_shifter c_value p0) ∧ (¬ k_state = (9 : Int32) → (k_state = (10 : Int32) → v_X0_pulse_b152 k_stuck c_inputs c_flops c_nets c_outputs c_operation c_looked c_lookedCount c_next c_output Q  k_state k_code k_held k_beside (1 : Int32) c_value p0) ∧ (¬ k_state = (10 : Int32) → (k_state = (11 : Int32) → ∀ v9 : Int32, v9 = (k_shifter >>> ((1 : Int32) &&& 31)) ||| (p1 <<< ((1 : Int32) &&& 31)) → v_X0_pulse_b152 k_stuck c_inputs c_flops c_nets c_outputs c_operation c_looked c_lookedCount c_next c_output Q  k_state k_code k_held k_beside v9 c_value p0) ∧ (¬ k_state = (11 : Int32) → (k_state = (12 : Int32) → v_X0_pulse_b152 k_stuck c_inputs c_flops c_nets c_outputs c_operation c_looked c_lookedCount c_next c_output Q  k_state k_code k_held k_beside k_shifter c_value p0) ∧ (¬ k_state = (12 : Int32) → (k_state = (13 : Int32) → v_X0_pulse_b152 k_stuck c_inputs c_flops c_nets c_outputs c_operation c_looked c_lookedCount c_next c_output Q  k_state k_code k_held k_beside k_shifter c_value p0) ∧ (¬ k_state = (13 : Int32) → (k_state = (14 : Int32) → v_X0_pulse_b152 k_stuck c_inputs c_flops c_nets c_outputs c_operation c_looked c_lookedCount c_next c_output Q  k_state k_code k_held k_beside k_shifter c_value p0) ∧ (¬ k_state = (14 : Int32) → (k_state = (15 : Int32) → v_X0_pulse_b152 k_stuck c_inputs c_flops c_nets c_outputs c_operation c_looked c_lookedCount c_next c_output Q  k_state k_shifter k_held k_beside k_shifter c_value p0) ∧ (¬ k_state = (15 : Int32) → v_X0_pulse_b152 k_stuck c_inputs c_flops c_nets c_outputs c_operation c_looked c_lookedCount c_next c_output Q  k_state k_code k_held k_beside k_shifter c_value p0))))))))))))))))
abbrev rm_X0_pulse : Room := { frames := 4, cells := 0, slots := 0, locals := 96 }
set_option maxHeartbeats 4000000 in
set_option maxRecDepth 100000 in
theorem c_X0_pulse (l : Launch) (D : va_G) (ts : Nat → Nat) (cyI cyJ cyZ : ClassId) (h_c : Nat → Nat) (h_k : Nat → Nat) (sz : Nat) (k_stuck : Int32) (k_state : Int32) (k_code : Int32) (k_held : Int32) (k_beside : Int32) (k_shifter : Int32) (c_inputs : Int32) (c_flops : Int32) (c_nets : Int32) (c_outputs : Int32) (c_value : Nat → Int64) (c_operation : Nat → Int32) (c_looked : Nat → Int32) (c_lookedCount : Nat → Int32) (c_next : Nat → Int32) (c_output : Nat → Int32) (p0 : Int32) (p1 : Int32) (p2 : Int32) (Q : Int32 → Int32 → Int32 → Int32 → Int32 → (Nat → Int64) → Prop) (hvc : v_X0_pulse k_stuck k_state k_code k_held k_beside k_shifter c_inputs c_flops c_nets c_outputs c_value c_operation c_looked c_lookedCount c_next c_output p0 p1 p2 Q) : Met l yX0_pulse wsX0_pulse rm_X0_pulse (va_Pc [.ref (h_k 0), .int p0, .int p1, .int p2] (cPre D ts [(cyI, .int), (cyJ, .long), (cyZ, .boolean)] [(h_k 0, .inr (0, [.ref (h_c 0), .int k_stuck, .int k_state, .int k_code, .int k_held, .int k_beside, .int k_shifter])), (h_c 0, .inr (2, [.int c_inputs, .int c_flops, .int c_nets, .int c_outputs, .ref (h_c 5), .ref (h_c 6), .ref (h_c 7), .ref (h_c 8), .ref (h_c 9), .ref (h_c 10)])), (h_c 10, .inl (cyJ, 60, .inr (.inl c_value))), (h_c 5, .inl (cyI, 60, .inl c_operation)), (h_c 7, .inl (cyI, 240, .inl c_looked)), (h_c 6, .inl (cyI, 60, .inl c_lookedCount)), (h_c 9, .inl (cyI, 10, .inl c_next)), (h_c 8, .inl (cyI, 8, .inl c_output))] sz)) (va_Qv (fun (u : Int32 × Int32 × Int32 × Int32 × Int32 × (Nat → Int64)) => Q u.1 u.2.1 u.2.2.1 u.2.2.2.1 u.2.2.2.2.1 u.2.2.2.2.2) (cPost D [(cyI, .int), (cyJ, .long), (cyZ, .boolean)] (fun (u : Int32 × Int32 × Int32 × Int32 × Int32 × (Nat → Int64)) => [(h_k 0, .inr (0, [.ref (h_c 0), .int k_stuck, .int (u.1), .int (u.2.1), .int (u.2.2.1), .int (u.2.2.2.1), .int (u.2.2.2.2.1)])), (h_c 0, .inr (2, [.int c_inputs, .int c_flops, .int c_nets, .int c_outputs, .ref (h_c 5), .ref (h_c 6), .ref (h_c 7), .ref (h_c 8), .ref (h_c 9), .ref (h_c 10)])), (h_c 10, .inl (cyJ, 60, .inr (.inl (u.2.2.2.2.2)))), (h_c 5, .inl (cyI, 60, .inl c_operation)), (h_c 7, .inl (cyI, 240, .inl c_looked)), (h_c 6, .inl (cyI, 60, .inl c_lookedCount)), (h_c 9, .inl (cyI, 10, .inl c_next)), (h_c 8, .inl (cyI, 8, .inl c_output))]) (va_A [(h_k 0, .inr (0, [.ref (h_c 0), .int k_stuck, .int k_state, .int k_code, .int k_held, .int k_beside, .int k_shifter])), (h_c 0, .inr (2, [.int c_inputs, .int c_flops, .int c_nets, .int c_outputs, .ref (h_c 5), .ref (h_c 6), .ref (h_c 7), .ref (h_c 8), .ref (h_c 9), .ref (h_c 10)])), (h_c 10, .inl (cyJ, 60, .inr (.inl c_value))), (h_c 5, .inl (cyI, 60, .inl c_operation)), (h_c 7, .inl (cyI, 240, .inl c_looked)), (h_c 6, .inl (cyI, 60, .inl c_lookedCount)), (h_c 9, .inl (cyI, 10, .inl c_next)), (h_c 8, .inl (cyI, 8, .inl c_output))] sz)) (va_A [(h_k 0, .inr (0, [.ref (h_c 0), .int k_stuck, .int k_state, .int k_code, .int k_held, .int k_beside, .int k_shifter])), (h_c 0, .inr (2, [.int c_inputs, .int c_flops, .int c_nets, .int c_outputs, .ref (h_c 5), .ref (h_c 6), .ref (h_c 7), .ref (h_c 8), .ref (h_c 9), .ref (h_c 10)])), (h_c 10, .inl (cyJ, 60, .inr (.inl c_value))), (h_c 5, .inl (cyI, 60, .inl c_operation)), (h_c 7, .inl (cyI, 240, .inl c_looked)), (h_c 6, .inl (cyI, 60, .inl c_lookedCount)), (h_c 9, .inl (cyI, 10, .inl c_next)), (h_c 8, .inl (cyI, 8, .inl c_output))] sz)) 0 0 (va_A [(h_k 0, .inr (0, [.ref (h_c 0), .int k_stuck, .int k_state, .int k_code, .int k_held, .int k_beside, .int k_shifter])), (h_c 0, .inr (2, [.int c_inputs, .int c_flops, .int c_nets, .int c_outputs, .ref (h_c 5), .ref (h_c 6), .ref (h_c 7), .ref (h_c 8), .ref (h_c 9), .ref (h_c 10)])), (h_c 10, .inl (cyJ, 60, .inr (.inl c_value))), (h_c 5, .inl (cyI, 60, .inl c_operation)), (h_c 7, .inl (cyI, 240, .inl c_looked)), (h_c 6, .inl (cyI, 60, .inl c_lookedCount)), (h_c 9, .inl (cyI, 10, .inl c_next)), (h_c 8, .inl (cyI, 8, .inl c_output))] sz) := by
  refine kEnter_v (cc := cX0_pulse) (maxL := 4) (by decide) rfl (Nat.le_of_ble_eq_true rfl) ?_
  intro p e s m args below meth c A ls QQ hx hb hml hown hts hsz hA hP hD hK hE hS hl hret
  clear hsz
  have hown : s.vm.findClass RX0 = some m.cls := hown
  have inX0 : ∀ w ∈ wsX00, w ∈ wsX0_pulse := by decide +kernel
  have f60 := hts (.fieldLink RX0 60 "ScanTester$Chip" "AFTER" "[I") (by decide +kernel)
  have f15 := hts (.fieldLink RX0 15 "ScanTester$Chip" "state" "I") (by decide +kernel)
  have f18 := hts (.fieldLink RX0 18 "ScanTester$Chip" "code" "I") (by decide +kernel)
  have f31 := hts (.fieldLink RX0 31 "ScanTester$Chip" "shifter" "I") (by decide +kernel)
  have w152 : ∀ (k_state : Int32) (k_code : Int32) (k_held : Int32) (k_beside : Int32) (k_shifter : Int32) (c_value : Nat → Int64) (l1 : Int32) (H : Heap) (locs : List Loc) (ls : Array Slot), v_X0_pulse_b152 k_stuck c_inputs c_flops c_nets c_outputs c_operation c_looked c_lookedCount c_next c_output Q  k_state k_code k_held k_beside k_shifter c_value l1 → va_P D vwCl [(h_k 0, .inr (0, [.ref (h_c 0), .int k_stuck, .int k_state, .int k_code, .int k_held, .int k_beside, .int k_shifter])), (h_c 0, .inr (2, [.int c_inputs, .int c_flops, .int c_nets, .int c_outputs, .ref (h_c 5), .ref (h_c 6), .ref (h_c 7), .ref (h_c 8), .ref (h_c 9), .ref (h_c 10)])), (h_c 10, .inl (cyJ, 60, .inr (.inl c_value))), (h_c 5, .inl (cyI, 60, .inl c_operation)), (h_c 7, .inl (cyI, 240, .inl c_looked)), (h_c 6, .inl (cyI, 60, .inl c_lookedCount)), (h_c 9, .inl (cyI, 10, .inl c_next)), (h_c 8, .inl (cyI, 8, .inl c_output))] H → va_D A [(h_k 0, .inr (0, [.ref (h_c 0), .int k_stuck, .int k_state, .int k_code, .int k_held, .int k_beside, .int k_shifter])), (h_c 0, .inr (2, [.int c_inputs, .int c_flops, .int c_nets, .int c_outputs, .ref (h_c 5), .ref (h_c 6), .ref (h_c 7), .ref (h_c 8), .ref (h_c 9), .ref (h_c 10)])), (h_c 10, .inl (cyJ, 60, .inr (.inl c_value))), (h_c 5, .inl (cyI, 60, .inl c_operation)), (h_c 7, .inl (cyI, 240, .inl c_looked)), (h_c 6, .inl (cyI, 60, .inl c_lookedCount)), (h_c 9, .inl (cyI, 10, .inl c_next)), (h_c 8, .inl (cyI, 8, .inl c_output))] → va_S A s.heap H locs → lv_has ls 4 [(0, .ref (h_k 0)), (1, .int l1)] → W p l e rm_X0_pulse s m args below meth c H locs 0 0 QQ (F0 m 152 ls []) := by
    intro k_state k_code k_held k_beside k_shifter c_value l1 H locs ls hvc hP hD hS hl
    refine lv_aload_n hx hb dX0_pulse_152 rfl (lv_at hl 0 rfl) ?_
    refine va_gets hx hb hE.AFTER.1 hS hown f60 (fun _ h9 => h9) dX0_pulse_153 ?_
    refine lv_iconst (v := 2) hx hb dX0_pulse_156 (by decide) ?_
    refine lv_aload_n hx hb dX0_pulse_157 rfl (lv_at hl 0 rfl) ?_
    refine va_get (D := D) (ci := 0) (C := RX0) (T := TX0) (N := 7) hx hb hts inX0 hown hK hP 0 rfl rfl 2 (by decide) f15 (fun _ h9 => h9) rfl dX0_pulse_158 ?_
    refine lv_imul hx hb dX0_pulse_161 ?_
    refine lv_iload_n hx hb dX0_pulse_162 rfl (lv_at hl 1 rfl) ?_
    refine lv_iadd hx hb dX0_pulse_163 ?_
    obtain ⟨hi, hvc⟩ := hvc
    refine va_ti hx hb hE.AFTER.2 hS hi rfl dX0_pulse_164 ?_
    refine lv_topi (fun v1 ev1 => ?_)
    have hvc := hvc v1 ev1
    refine va_put (D := D) (ci := 0) (ty := .int) (C := RX0) (T := TX0) (N := 7) hx hb hts inX0 tyX0 tyX0_ok nmX0 hown hK hP hD hS 0 rfl rfl 2 (by decide) f15 (fun _ h9 => h9) rfl (by decide +kernel) rfl rfl (Nat.le_of_ble_eq_true rfl) dX0_pulse_165 (fun H locs hP hD hS => ?_)
    have hP : va_P D vwCl [(h_k 0, .inr (0, [.ref (h_c 0), .int k_stuck, .int v1, .int k_code, .int k_held, .int k_beside, .int k_shifter])), (h_c 0, .inr (2, [.int c_inputs, .int c_flops, .int c_nets, .int c_outputs, .ref (h_c 5), .ref (h_c 6), .ref (h_c 7), .ref (h_c 8), .ref (h_c 9), .ref (h_c 10)])), (h_c 10, .inl (cyJ, 60, .inr (.inl c_value))), (h_c 5, .inl (cyI, 60, .inl c_operation)), (h_c 7, .inl (cyI, 240, .inl c_looked)), (h_c 6, .inl (cyI, 60, .inl c_lookedCount)), (h_c 9, .inl (cyI, 10, .inl c_next)), (h_c 8, .inl (cyI, 8, .inl c_output))] H := hP
    have hD : va_D A [(h_k 0, .inr (0, [.ref (h_c 0), .int k_stuck, .int v1, .int k_code, .int k_held, .int k_beside, .int k_shifter])), (h_c 0, .inr (2, [.int c_inputs, .int c_flops, .int c_nets, .int c_outputs, .ref (h_c 5), .ref (h_c 6), .ref (h_c 7), .ref (h_c 8), .ref (h_c 9), .ref (h_c 10)])), (h_c 10, .inl (cyJ, 60, .inr (.inl c_value))), (h_c 5, .inl (cyI, 60, .inl c_operation)), (h_c 7, .inl (cyI, 240, .inl c_looked)), (h_c 6, .inl (cyI, 60, .inl c_lookedCount)), (h_c 9, .inl (cyI, 10, .inl c_next)), (h_c 8, .inl (cyI, 8, .inl c_output))] := hD
    exact hret (v1, k_code, k_held, k_beside, k_shifter, c_value) _ _ _ _ hvc hP hD hS dX0_pulse_168
  have hl : lv_has ls 4 [(0, .ref (h_k 0)), (1, .int p0), (2, .int p1), (3, .int p2)] := hl
  refine lv_aload_n hx hb dX0_pulse_0 rfl (lv_at hl 0 rfl) ?_
  refine va_get (D := D) (ci := 0) (C := RX0) (T := TX0) (N := 7) hx hb hts inX0 hown hK hP 0 rfl rfl 2 (by decide) f15 (fun _ h9 => h9) rfl dX0_pulse_1 ?_
  obtain ⟨hvt, hvf⟩ := hvc
  by_cases hc : k_state = (0 : Int32)
  · have hvc := hvt hc
    refine lv_tableIn (tgt := 84) hx hb dX0_pulse_4 (by rw [hc]; decide) (by rw [hc]; decide) (by rw [hc]; rfl) (by decide) ?_
    refine lv_aload_n hx hb dX0_pulse_84 rfl (lv_at hl 0 rfl) ?_
    refine lv_iconst (v := 3) hx hb dX0_pulse_85 (by decide) ?_
    refine va_put (D := D) (ci := 0) (ty := .int) (C := RX0) (T := TX0) (N := 7) hx hb hts inX0 tyX0 tyX0_ok nmX0 hown hK hP hD hS 0 rfl rfl 3 (by decide) f18 (fun _ h9 => h9) rfl (by decide +kernel) rfl rfl (Nat.le_of_ble_eq_true rfl) dX0_pulse_86 (fun H locs hP hD hS => ?_)
    have hP : va_P D vwCl [(h_k 0, .inr (0, [.ref (h_c 0), .int k_stuck, .int k_state, .int (3 : Int32), .int k_held, .int k_beside, .int k_shifter])), (h_c 0, .inr (2, [.int c_inputs, .int c_flops, .int c_nets, .int c_outputs, .ref (h_c 5), .ref (h_c 6), .ref (h_c 7), .ref (h_c 8), .ref (h_c 9), .ref (h_c 10)])), (h_c 10, .inl (cyJ, 60, .inr (.inl c_value))), (h_c 5, .inl (cyI, 60, .inl c_operation)), (h_c 7, .inl (cyI, 240, .inl c_looked)), (h_c 6, .inl (cyI, 60, .inl c_lookedCount)), (h_c 9, .inl (cyI, 10, .inl c_next)), (h_c 8, .inl (cyI, 8, .inl c_output))] H := hP
    have hD : va_D A [(h_k 0, .inr (0, [.ref (h_c 0), .int k_stuck, .int k_state, .int (3 : Int32), .int k_held, .int k_beside, .int k_shifter])), (h_c 0, .inr (2, [.int c_inputs, .int c_flops, .int c_nets, .int c_outputs, .ref (h_c 5), .ref (h_c 6), .ref (h_c 7), .ref (h_c 8), .ref (h_c 9), .ref (h_c 10)])), (h_c 10, .inl (cyJ, 60, .inr (.inl c_value))), (h_c 5, .inl (cyI, 60, .inl c_operation)), (h_c 7, .inl (cyI, 240, .inl c_looked)), (h_c 6, .inl (cyI, 60, .inl c_lookedCount)), (h_c 9, .inl (cyI, 10, .inl c_next)), (h_c 8, .inl (cyI, 8, .inl c_output))] := hD
    refine lv_goto (tgt := 152) hx hb dX0_pulse_89 (by decide) ?_
    exact w152 k_state (3 : Int32) k_held k_beside k_shifter c_value p0 _ _ _ hvc hP hD hS (lv_sub hl [0, 1] rfl)
  · have hvc := hvf hc
    have n0 := hc
    obtain ⟨hvt, hvf⟩ := hvc
    by_cases hc : k_state = (1 : Int32)
    · have hvc := hvt hc
      refine lv_tableIn (tgt := 92) hx hb dX0_pulse_4 (by rw [hc]; decide) (by rw [hc]; decide) (by rw [hc]; rfl) (by decide) ?_
      refine lv_aload_n hx hb dX0_pulse_92 rfl (lv_at hl 0 rfl) ?_
      refine lv_iload_n hx hb dX0_pulse_93 rfl (lv_at hl 3 rfl) ?_
      refine kV_v (wc := [(h_k 0, .inr (0, [.ref (h_c 0), .int k_stuck, .int k_state, .int k_code, .int k_held, .int k_beside, .int k_shifter])), (h_c 0, .inr (2, [.int c_inputs, .int c_flops, .int c_nets, .int c_outputs, .ref (h_c 5), .ref (h_c 6), .ref (h_c 7), .ref (h_c 8), .ref (h_c 9), .ref (h_c 10)])), (h_c 10, .inl (cyJ, 60, .inr (.inl c_value))), (h_c 5, .inl (cyI, 60, .inl c_operation)), (h_c 7, .inl (cyI, 240, .inl c_looked)), (h_c 6, .inl (cyI, 60, .inl c_lookedCount)), (h_c 9, .inl (cyI, 10, .inl c_next)), (h_c 8, .inl (cyI, 8, .inl c_output))]) (wr := []) (As := [.int p2]) (rest := []) ⟨hx, hb, hml, hown, hts⟩ hP hD hK hE hS hA [0, 1, 2, 3, 4, 5, 6, 7] [] rfl rfl (by decide) (by decide) (by decide) (c_X0_idle l D ts cyI cyJ cyZ h_c h_k _ k_stuck k_state k_code k_held k_beside k_shifter c_inputs c_flops c_nets c_outputs c_value c_operation c_looked c_lookedCount c_next c_output p2 _ hvc) (cwV 1 hts gX0_pulse_X0_idle rfl rfl rfl (by decide +kernel) ⟨Nat.le_of_ble_eq_true rfl, Nat.le_of_ble_eq_true rfl⟩) (ci := 0) rfl rfl rfl hl.1 rfl (Nat.zero_le _) (Nat.zero_le _) rfl (Nat.le_of_ble_eq_true rfl) dX0_pulse_94 (fun u H locs hvc hP hD hS => ?_)
      obtain ⟨n2, n3⟩ := u
      try dsimp only at hvc
      have hP : va_P D vwCl [(h_k 0, .inr (0, [.ref (h_c 0), .int k_stuck, .int k_state, .int k_code, .int n2, .int k_beside, .int k_shifter])), (h_c 0, .inr (2, [.int c_inputs, .int c_flops, .int c_nets, .int c_outputs, .ref (h_c 5), .ref (h_c 6), .ref (h_c 7), .ref (h_c 8), .ref (h_c 9), .ref (h_c 10)])), (h_c 10, .inl (cyJ, 60, .inr (.inl n3))), (h_c 5, .inl (cyI, 60, .inl c_operation)), (h_c 7, .inl (cyI, 240, .inl c_looked)), (h_c 6, .inl (cyI, 60, .inl c_lookedCount)), (h_c 9, .inl (cyI, 10, .inl c_next)), (h_c 8, .inl (cyI, 8, .inl c_output))] H := sub_P hP (isC := [0, 1, 2, 3, 4, 5, 6, 7]) rfl
      have hD : va_D A [(h_k 0, .inr (0, [.ref (h_c 0), .int k_stuck, .int k_state, .int k_code, .int n2, .int k_beside, .int k_shifter])), (h_c 0, .inr (2, [.int c_inputs, .int c_flops, .int c_nets, .int c_outputs, .ref (h_c 5), .ref (h_c 6), .ref (h_c 7), .ref (h_c 8), .ref (h_c 9), .ref (h_c 10)])), (h_c 10, .inl (cyJ, 60, .inr (.inl n3))), (h_c 5, .inl (cyI, 60, .inl c_operation)), (h_c 7, .inl (cyI, 240, .inl c_looked)), (h_c 6, .inl (cyI, 60, .inl c_lookedCount)), (h_c 9, .inl (cyI, 10, .inl c_next)), (h_c 8, .inl (cyI, 8, .inl c_output))] := hD.sub [0, 1, 2, 3, 4, 5, 6, 7] (by decide) rfl
      refine lv_goto (tgt := 152) hx hb dX0_pulse_97 (by decide) ?_
      exact w152 k_state k_code n2 k_beside k_shifter n3 p0 _ _ _ hvc hP hD hS (lv_sub hl [0, 1] rfl)
    · have hvc := hvf hc
      have n1 := hc
      obtain ⟨hvt, hvf⟩ := hvc
      by_cases hc : k_state = (2 : Int32)
      · have hvc := hvt hc
        refine lv_tableIn (tgt := 152) hx hb dX0_pulse_4 (by rw [hc]; decide) (by rw [hc]; decide) (by rw [hc]; rfl) (by decide) ?_
        exact w152 k_state k_code k_held k_beside k_shifter c_value p0 _ _ _ hvc hP hD hS (lv_sub hl [0, 1] rfl)
      · have hvc := hvf hc
        have n2 := hc
        obtain ⟨hvt, hvf⟩ := hvc
        by_cases hc : k_state = (3 : Int32)
        · have hvc := hvt hc
          refine lv_tableIn (tgt := 100) hx hb dX0_pulse_4 (by rw [hc]; decide) (by rw [hc]; decide) (by rw [hc]; rfl) (by decide) ?_
          refine lv_aload_n hx hb dX0_pulse_100 rfl (lv_at hl 0 rfl) ?_
          refine lv_iload_n hx hb dX0_pulse_101 rfl (lv_at hl 3 rfl) ?_
          refine kV_v (wc := [(h_k 0, .inr (0, [.ref (h_c 0), .int k_stuck, .int k_state, .int k_code, .int k_held, .int k_beside, .int k_shifter])), (h_c 0, .inr (2, [.int c_inputs, .int c_flops, .int c_nets, .int c_outputs, .ref (h_c 5), .ref (h_c 6), .ref (h_c 7), .ref (h_c 8), .ref (h_c 9), .ref (h_c 10)])), (h_c 10, .inl (cyJ, 60, .inr (.inl c_value))), (h_c 5, .inl (cyI, 60, .inl c_operation)), (h_c 7, .inl (cyI, 240, .inl c_looked)), (h_c 6, .inl (cyI, 60, .inl c_lookedCount)), (h_c 9, .inl (cyI, 10, .inl c_next)), (h_c 8, .inl (cyI, 8, .inl c_output))]) (wr := []) (As := [.int p2]) (rest := []) ⟨hx, hb, hml, hown, hts⟩ hP hD hK hE hS hA [0, 1, 2, 3, 4, 5, 6, 7] [] rfl rfl (by decide) (by decide) (by decide) (c_X0_capture l D ts cyI cyJ cyZ h_c h_k _ k_stuck k_state k_code k_held k_beside k_shifter c_inputs c_flops c_nets c_outputs c_value c_operation c_looked c_lookedCount c_next c_output p2 _ hvc) (cwV 1 hts gX0_pulse_X0_capture rfl rfl rfl (by decide +kernel) ⟨Nat.le_of_ble_eq_true rfl, Nat.le_of_ble_eq_true rfl⟩) (ci := 0) rfl rfl rfl hl.1 rfl (Nat.zero_le _) (Nat.zero_le _) rfl (Nat.le_of_ble_eq_true rfl) dX0_pulse_102 (fun u H locs hvc hP hD hS => ?_)
          obtain ⟨n4, n5, n6⟩ := u
          try dsimp only at hvc
          have hP : va_P D vwCl [(h_k 0, .inr (0, [.ref (h_c 0), .int k_stuck, .int k_state, .int k_code, .int n4, .int n5, .int k_shifter])), (h_c 0, .inr (2, [.int c_inputs, .int c_flops, .int c_nets, .int c_outputs, .ref (h_c 5), .ref (h_c 6), .ref (h_c 7), .ref (h_c 8), .ref (h_c 9), .ref (h_c 10)])), (h_c 10, .inl (cyJ, 60, .inr (.inl n6))), (h_c 5, .inl (cyI, 60, .inl c_operation)), (h_c 7, .inl (cyI, 240, .inl c_looked)), (h_c 6, .inl (cyI, 60, .inl c_lookedCount)), (h_c 9, .inl (cyI, 10, .inl c_next)), (h_c 8, .inl (cyI, 8, .inl c_output))] H := sub_P hP (isC := [0, 1, 2, 3, 4, 5, 6, 7]) rfl
          have hD : va_D A [(h_k 0, .inr (0, [.ref (h_c 0), .int k_stuck, .int k_state, .int k_code, .int n4, .int n5, .int k_shifter])), (h_c 0, .inr (2, [.int c_inputs, .int c_flops, .int c_nets, .int c_outputs, .ref (h_c 5), .ref (h_c 6), .ref (h_c 7), .ref (h_c 8), .ref (h_c 9), .ref (h_c 10)])), (h_c 10, .inl (cyJ, 60, .inr (.inl n6))), (h_c 5, .inl (cyI, 60, .inl c_operation)), (h_c 7, .inl (cyI, 240, .inl c_looked)), (h_c 6, .inl (cyI, 60, .inl c_lookedCount)), (h_c 9, .inl (cyI, 10, .inl c_next)), (h_c 8, .inl (cyI, 8, .inl c_output))] := hD.sub [0, 1, 2, 3, 4, 5, 6, 7] (by decide) rfl
          refine lv_goto (tgt := 152) hx hb dX0_pulse_105 (by decide) ?_
          exact w152 k_state k_code n4 n5 k_shifter n6 p0 _ _ _ hvc hP hD hS (lv_sub hl [0, 1] rfl)
        · have hvc := hvf hc
          have n3 := hc
          obtain ⟨hvt, hvf⟩ := hvc
          by_cases hc : k_state = (4 : Int32)
          · have hvc := hvt hc
            refine lv_tableIn (tgt := 108) hx hb dX0_pulse_4 (by rw [hc]; decide) (by rw [hc]; decide) (by rw [hc]; rfl) (by decide) ?_
            refine lv_aload_n hx hb dX0_pulse_108 rfl (lv_at hl 0 rfl) ?_
            refine lv_iload_n hx hb dX0_pulse_109 rfl (lv_at hl 2 rfl) ?_
            refine kV_v (wc := [(h_k 0, .inr (0, [.ref (h_c 0), .int k_stuck, .int k_state, .int k_code, .int k_held, .int k_beside, .int k_shifter])), (h_c 0, .inr (2, [.int c_inputs, .int c_flops, .int c_nets, .int c_outputs, .ref (h_c 5), .ref (h_c 6), .ref (h_c 7), .ref (h_c 8), .ref (h_c 9), .ref (h_c 10)]))]) (wr := [(h_c 10, .inl (cyJ, 60, .inr (.inl c_value))), (h_c 5, .inl (cyI, 60, .inl c_operation)), (h_c 7, .inl (cyI, 240, .inl c_looked)), (h_c 6, .inl (cyI, 60, .inl c_lookedCount)), (h_c 9, .inl (cyI, 10, .inl c_next)), (h_c 8, .inl (cyI, 8, .inl c_output))]) (As := [.int p1]) (rest := []) ⟨hx, hb, hml, hown, hts⟩ hP hD hK hE hS hA [0, 1] [2, 3, 4, 5, 6, 7] rfl rfl (by decide) (by decide) (by decide) (c_X0_shift l D ts cyI cyJ cyZ h_c h_k _ k_stuck k_state k_code k_held k_beside k_shifter c_inputs c_flops c_nets c_outputs p1 _ hvc) (cwV 1 hts gX0_pulse_X0_shift rfl rfl rfl (by decide +kernel) ⟨Nat.le_of_ble_eq_true rfl, Nat.le_of_ble_eq_true rfl⟩) (ci := 0) rfl rfl rfl hl.1 rfl (Nat.zero_le _) (Nat.zero_le _) rfl (Nat.le_of_ble_eq_true rfl) dX0_pulse_110 (fun u H locs hvc hP hD hS => ?_)
            obtain ⟨n7, n8⟩ := u
            try dsimp only at hvc
            have hP : va_P D vwCl [(h_k 0, .inr (0, [.ref (h_c 0), .int k_stuck, .int k_state, .int k_code, .int n7, .int n8, .int k_shifter])), (h_c 0, .inr (2, [.int c_inputs, .int c_flops, .int c_nets, .int c_outputs, .ref (h_c 5), .ref (h_c 6), .ref (h_c 7), .ref (h_c 8), .ref (h_c 9), .ref (h_c 10)])), (h_c 10, .inl (cyJ, 60, .inr (.inl c_value))), (h_c 5, .inl (cyI, 60, .inl c_operation)), (h_c 7, .inl (cyI, 240, .inl c_looked)), (h_c 6, .inl (cyI, 60, .inl c_lookedCount)), (h_c 9, .inl (cyI, 10, .inl c_next)), (h_c 8, .inl (cyI, 8, .inl c_output))] H := sub_P hP (isC := [6, 7, 0, 1, 2, 3, 4, 5]) rfl
            have hD : va_D A [(h_k 0, .inr (0, [.ref (h_c 0), .int k_stuck, .int k_state, .int k_code, .int n7, .int n8, .int k_shifter])), (h_c 0, .inr (2, [.int c_inputs, .int c_flops, .int c_nets, .int c_outputs, .ref (h_c 5), .ref (h_c 6), .ref (h_c 7), .ref (h_c 8), .ref (h_c 9), .ref (h_c 10)])), (h_c 10, .inl (cyJ, 60, .inr (.inl c_value))), (h_c 5, .inl (cyI, 60, .inl c_operation)), (h_c 7, .inl (cyI, 240, .inl c_looked)), (h_c 6, .inl (cyI, 60, .inl c_lookedCount)), (h_c 9, .inl (cyI, 10, .inl c_next)), (h_c 8, .inl (cyI, 8, .inl c_output))] := hD.sub [6, 7, 0, 1, 2, 3, 4, 5] (by decide) rfl
            refine lv_goto (tgt := 152) hx hb dX0_pulse_113 (by decide) ?_
            exact w152 k_state k_code n7 n8 k_shifter c_value p0 _ _ _ hvc hP hD hS (lv_sub hl [0, 1] rfl)
          · have hvc := hvf hc
            have n4 := hc
            obtain ⟨hvt, hvf⟩ := hvc
            by_cases hc : k_state = (5 : Int32)
            · have hvc := hvt hc
              refine lv_tableIn (tgt := 152) hx hb dX0_pulse_4 (by rw [hc]; decide) (by rw [hc]; decide) (by rw [hc]; rfl) (by decide) ?_
              exact w152 k_state k_code k_held k_beside k_shifter c_value p0 _ _ _ hvc hP hD hS (lv_sub hl [0, 1] rfl)
            · have hvc := hvf hc
              have n5 := hc
              obtain ⟨hvt, hvf⟩ := hvc
              by_cases hc : k_state = (6 : Int32)
              · have hvc := hvt hc
                refine lv_tableIn (tgt := 152) hx hb dX0_pulse_4 (by rw [hc]; decide) (by rw [hc]; decide) (by rw [hc]; rfl) (by decide) ?_
                exact w152 k_state k_code k_held k_beside k_shifter c_value p0 _ _ _ hvc hP hD hS (lv_sub hl [0, 1] rfl)
              · have hvc := hvf hc
                have n6 := hc
                obtain ⟨hvt, hvf⟩ := hvc
                by_cases hc : k_state = (7 : Int32)
                · have hvc := hvt hc
                  refine lv_tableIn (tgt := 152) hx hb dX0_pulse_4 (by rw [hc]; decide) (by rw [hc]; decide) (by rw [hc]; rfl) (by decide) ?_
                  exact w152 k_state k_code k_held k_beside k_shifter c_value p0 _ _ _ hvc hP hD hS (lv_sub hl [0, 1] rfl)
                · have hvc := hvf hc
                  have n7 := hc
                  obtain ⟨hvt, hvf⟩ := hvc
                  by_cases hc : k_state = (8 : Int32)
                  · have hvc := hvt hc
                    refine lv_tableIn (tgt := 152) hx hb dX0_pulse_4 (by rw [hc]; decide) (by rw [hc]; decide) (by rw [hc]; rfl) (by decide) ?_
                    exact w152 k_state k_code k_held k_beside k_shifter c_value p0 _ _ _ hvc hP hD hS (lv_sub hl [0, 1] rfl)
                  · have hvc := hvf hc
                    have n8 := hc
                    obtain ⟨hvt, hvf⟩ := hvc
                    by_cases hc : k_state = (9 : Int32)
                    · have hvc := hvt hc
                      refine lv_tableIn (tgt := 152) hx hb dX0_pulse_4 (by rw [hc]; decide) (by rw [hc]; decide) (by rw [hc]; rfl) (by decide) ?_
                      exact w152 k_state k_code k_held k_beside k_shifter c_value p0 _ _ _ hvc hP hD hS (lv_sub hl [0, 1] rfl)
                    · have hvc := hvf hc
                      have n9 := hc
                      obtain ⟨hvt, hvf⟩ := hvc
                      by_cases hc : k_state = (10 : Int32)
                      · have hvc := hvt hc
                        refine lv_tableIn (tgt := 116) hx hb dX0_pulse_4 (by rw [hc]; decide) (by rw [hc]; decide) (by rw [hc]; rfl) (by decide) ?_
                        refine lv_aload_n hx hb dX0_pulse_116 rfl (lv_at hl 0 rfl) ?_
                        refine lv_iconst (v := 1) hx hb dX0_pulse_117 (by decide) ?_
                        refine va_put (D := D) (ci := 0) (ty := .int) (C := RX0) (T := TX0) (N := 7) hx hb hts inX0 tyX0 tyX0_ok nmX0 hown hK hP hD hS 0 rfl rfl 6 (by decide) f31 (fun _ h9 => h9) rfl (by decide +kernel) rfl rfl (Nat.le_of_ble_eq_true rfl) dX0_pulse_118 (fun H locs hP hD hS => ?_)
                        have hP : va_P D vwCl [(h_k 0, .inr (0, [.ref (h_c 0), .int k_stuck, .int k_state, .int k_code, .int k_held, .int k_beside, .int (1 : Int32)])), (h_c 0, .inr (2, [.int c_inputs, .int c_flops, .int c_nets, .int c_outputs, .ref (h_c 5), .ref (h_c 6), .ref (h_c 7), .ref (h_c 8), .ref (h_c 9), .ref (h_c 10)])), (h_c 10, .inl (cyJ, 60, .inr (.inl c_value))), (h_c 5, .inl (cyI, 60, .inl c_operation)), (h_c 7, .inl (cyI, 240, .inl c_looked)), (h_c 6, .inl (cyI, 60, .inl c_lookedCount)), (h_c 9, .inl (cyI, 10, .inl c_next)), (h_c 8, .inl (cyI, 8, .inl c_output))] H := hP
                        have hD : va_D A [(h_k 0, .inr (0, [.ref (h_c 0), .int k_stuck, .int k_state, .int k_code, .int k_held, .int k_beside, .int (1 : Int32)])), (h_c 0, .inr (2, [.int c_inputs, .int c_flops, .int c_nets, .int c_outputs, .ref (h_c 5), .ref (h_c 6), .ref (h_c 7), .ref (h_c 8), .ref (h_c 9), .ref (h_c 10)])), (h_c 10, .inl (cyJ, 60, .inr (.inl c_value))), (h_c 5, .inl (cyI, 60, .inl c_operation)), (h_c 7, .inl (cyI, 240, .inl c_looked)), (h_c 6, .inl (cyI, 60, .inl c_lookedCount)), (h_c 9, .inl (cyI, 10, .inl c_next)), (h_c 8, .inl (cyI, 8, .inl c_output))] := hD
                        refine lv_goto (tgt := 152) hx hb dX0_pulse_121 (by decide) ?_
                        exact w152 k_state k_code k_held k_beside (1 : Int32) c_value p0 _ _ _ hvc hP hD hS (lv_sub hl [0, 1] rfl)
                      · have hvc := hvf hc
                        have n10 := hc
                        obtain ⟨hvt, hvf⟩ := hvc
                        by_cases hc : k_state = (11 : Int32)
                        · have hvc := hvt hc
                          refine lv_tableIn (tgt := 124) hx hb dX0_pulse_4 (by rw [hc]; decide) (by rw [hc]; decide) (by rw [hc]; rfl) (by decide) ?_
                          refine lv_aload_n hx hb dX0_pulse_124 rfl (lv_at hl 0 rfl) ?_
                          refine lv_aload_n hx hb dX0_pulse_125 rfl (lv_at hl 0 rfl) ?_
                          refine va_get (D := D) (ci := 0) (C := RX0) (T := TX0) (N := 7) hx hb hts inX0 hown hK hP 0 rfl rfl 6 (by decide) f31 (fun _ h9 => h9) rfl dX0_pulse_126 ?_
                          refine lv_iconst (v := 1) hx hb dX0_pulse_129 (by decide) ?_
                          refine lv_ishr hx hb dX0_pulse_130 ?_
                          refine lv_iload_n hx hb dX0_pulse_131 rfl (lv_at hl 2 rfl) ?_
                          refine lv_iconst (v := 1) hx hb dX0_pulse_132 (by decide) ?_
                          refine lv_ishl hx hb dX0_pulse_133 ?_
                          refine lv_ior hx hb dX0_pulse_134 ?_
                          refine lv_topi (fun v9 ev9 => ?_)
                          have hvc := hvc v9 ev9
                          refine va_put (D := D) (ci := 0) (ty := .int) (C := RX0) (T := TX0) (N := 7) hx hb hts inX0 tyX0 tyX0_ok nmX0 hown hK hP hD hS 0 rfl rfl 6 (by decide) f31 (fun _ h9 => h9) rfl (by decide +kernel) rfl rfl (Nat.le_of_ble_eq_true rfl) dX0_pulse_135 (fun H locs hP hD hS => ?_)
                          have hP : va_P D vwCl [(h_k 0, .inr (0, [.ref (h_c 0), .int k_stuck, .int k_state, .int k_code, .int k_held, .int k_beside, .int v9])), (h_c 0, .inr (2, [.int c_inputs, .int c_flops, .int c_nets, .int c_outputs, .ref (h_c 5), .ref (h_c 6), .ref (h_c 7), .ref (h_c 8), .ref (h_c 9), .ref (h_c 10)])), (h_c 10, .inl (cyJ, 60, .inr (.inl c_value))), (h_c 5, .inl (cyI, 60, .inl c_operation)), (h_c 7, .inl (cyI, 240, .inl c_looked)), (h_c 6, .inl (cyI, 60, .inl c_lookedCount)), (h_c 9, .inl (cyI, 10, .inl c_next)), (h_c 8, .inl (cyI, 8, .inl c_output))] H := hP
                          have hD : va_D A [(h_k 0, .inr (0, [.ref (h_c 0), .int k_stuck, .int k_state, .int k_code, .int k_held, .int k_beside, .int v9])), (h_c 0, .inr (2, [.int c_inputs, .int c_flops, .int c_nets, .int c_outputs, .ref (h_c 5), .ref (h_c 6), .ref (h_c 7), .ref (h_c 8), .ref (h_c 9), .ref (h_c 10)])), (h_c 10, .inl (cyJ, 60, .inr (.inl c_value))), (h_c 5, .inl (cyI, 60, .inl c_operation)), (h_c 7, .inl (cyI, 240, .inl c_looked)), (h_c 6, .inl (cyI, 60, .inl c_lookedCount)), (h_c 9, .inl (cyI, 10, .inl c_next)), (h_c 8, .inl (cyI, 8, .inl c_output))] := hD
                          refine lv_goto (tgt := 152) hx hb dX0_pulse_138 (by decide) ?_
                          exact w152 k_state k_code k_held k_beside v9 c_value p0 _ _ _ hvc hP hD hS (lv_sub hl [0, 1] rfl)
                        · have hvc := hvf hc
                          have n11 := hc
                          obtain ⟨hvt, hvf⟩ := hvc
                          by_cases hc : k_state = (12 : Int32)
                          · have hvc := hvt hc
                            refine lv_tableIn (tgt := 152) hx hb dX0_pulse_4 (by rw [hc]; decide) (by rw [hc]; decide) (by rw [hc]; rfl) (by decide) ?_
                            exact w152 k_state k_code k_held k_beside k_shifter c_value p0 _ _ _ hvc hP hD hS (lv_sub hl [0, 1] rfl)
                          · have hvc := hvf hc
                            have n12 := hc
                            obtain ⟨hvt, hvf⟩ := hvc
                            by_cases hc : k_state = (13 : Int32)
                            · have hvc := hvt hc
                              refine lv_tableIn (tgt := 152) hx hb dX0_pulse_4 (by rw [hc]; decide) (by rw [hc]; decide) (by rw [hc]; rfl) (by decide) ?_
                              exact w152 k_state k_code k_held k_beside k_shifter c_value p0 _ _ _ hvc hP hD hS (lv_sub hl [0, 1] rfl)
                            · have hvc := hvf hc
                              have n13 := hc
                              obtain ⟨hvt, hvf⟩ := hvc
                              by_cases hc : k_state = (14 : Int32)
                              · have hvc := hvt hc
                                refine lv_tableIn (tgt := 152) hx hb dX0_pulse_4 (by rw [hc]; decide) (by rw [hc]; decide) (by rw [hc]; rfl) (by decide) ?_
                                exact w152 k_state k_code k_held k_beside k_shifter c_value p0 _ _ _ hvc hP hD hS (lv_sub hl [0, 1] rfl)
                              · have hvc := hvf hc
                                have n14 := hc
                                obtain ⟨hvt, hvf⟩ := hvc
                                by_cases hc : k_state = (15 : Int32)
                                · have hvc := hvt hc
                                  refine lv_tableIn (tgt := 141) hx hb dX0_pulse_4 (by rw [hc]; decide) (by rw [hc]; decide) (by rw [hc]; rfl) (by decide) ?_
                                  refine lv_aload_n hx hb dX0_pulse_141 rfl (lv_at hl 0 rfl) ?_
                                  refine lv_aload_n hx hb dX0_pulse_142 rfl (lv_at hl 0 rfl) ?_
                                  refine va_get (D := D) (ci := 0) (C := RX0) (T := TX0) (N := 7) hx hb hts inX0 hown hK hP 0 rfl rfl 6 (by decide) f31 (fun _ h9 => h9) rfl dX0_pulse_143 ?_
                                  refine va_put (D := D) (ci := 0) (ty := .int) (C := RX0) (T := TX0) (N := 7) hx hb hts inX0 tyX0 tyX0_ok nmX0 hown hK hP hD hS 0 rfl rfl 3 (by decide) f18 (fun _ h9 => h9) rfl (by decide +kernel) rfl rfl (Nat.le_of_ble_eq_true rfl) dX0_pulse_146 (fun H locs hP hD hS => ?_)
                                  have hP : va_P D vwCl [(h_k 0, .inr (0, [.ref (h_c 0), .int k_stuck, .int k_state, .int k_shifter, .int k_held, .int k_beside, .int k_shifter])), (h_c 0, .inr (2, [.int c_inputs, .int c_flops, .int c_nets, .int c_outputs, .ref (h_c 5), .ref (h_c 6), .ref (h_c 7), .ref (h_c 8), .ref (h_c 9), .ref (h_c 10)])), (h_c 10, .inl (cyJ, 60, .inr (.inl c_value))), (h_c 5, .inl (cyI, 60, .inl c_operation)), (h_c 7, .inl (cyI, 240, .inl c_looked)), (h_c 6, .inl (cyI, 60, .inl c_lookedCount)), (h_c 9, .inl (cyI, 10, .inl c_next)), (h_c 8, .inl (cyI, 8, .inl c_output))] H := hP
                                  have hD : va_D A [(h_k 0, .inr (0, [.ref (h_c 0), .int k_stuck, .int k_state, .int k_shifter, .int k_held, .int k_beside, .int k_shifter])), (h_c 0, .inr (2, [.int c_inputs, .int c_flops, .int c_nets, .int c_outputs, .ref (h_c 5), .ref (h_c 6), .ref (h_c 7), .ref (h_c 8), .ref (h_c 9), .ref (h_c 10)])), (h_c 10, .inl (cyJ, 60, .inr (.inl c_value))), (h_c 5, .inl (cyI, 60, .inl c_operation)), (h_c 7, .inl (cyI, 240, .inl c_looked)), (h_c 6, .inl (cyI, 60, .inl c_lookedCount)), (h_c 9, .inl (cyI, 10, .inl c_next)), (h_c 8, .inl (cyI, 8, .inl c_output))] := hD
                                  refine lv_goto (tgt := 152) hx hb dX0_pulse_149 (by decide) ?_
                                  exact w152 k_state k_shifter k_held k_beside k_shifter c_value p0 _ _ _ hvc hP hD hS (lv_sub hl [0, 1] rfl)
                                · have hvc := hvf hc
                                  have n15 := hc
                                  have t0 := lv_neT (a := 0) n0 (by decide)
                                  have t1 := lv_neT (a := 1) n1 (by decide)
                                  have t2 := lv_neT (a := 2) n2 (by decide)
                                  have t3 := lv_neT (a := 3) n3 (by decide)
                                  have t4 := lv_neT (a := 4) n4 (by decide)
                                  have t5 := lv_neT (a := 5) n5 (by decide)
                                  have t6 := lv_neT (a := 6) n6 (by decide)
                                  have t7 := lv_neT (a := 7) n7 (by decide)
                                  have t8 := lv_neT (a := 8) n8 (by decide)
                                  have t9 := lv_neT (a := 9) n9 (by decide)
                                  have t10 := lv_neT (a := 10) n10 (by decide)
                                  have t11 := lv_neT (a := 11) n11 (by decide)
                                  have t12 := lv_neT (a := 12) n12 (by decide)
                                  have t13 := lv_neT (a := 13) n13 (by decide)
                                  have t14 := lv_neT (a := 14) n14 (by decide)
                                  have t15 := lv_neT (a := 15) n15 (by decide)
                                  refine lv_tableOut (tgt := 152) hx hb dX0_pulse_4 (by omega) (by decide) ?_
                                  exact w152 k_state k_code k_held k_beside k_shifter c_value p0 _ _ _ hvc hP hD hS (lv_sub hl [0, 1] rfl)
