def v_X2_sources (c_inputs : Int32) (c_flops : Int32)  (Q : Int32 → Prop) : Prop := Q (c_inputs + c_flops) 
theorem hd_X2_sources : yX2_sources.cls = RX2 ∧ yX2_sources.cls ≠ "java/lang/invoke/MethodHandle" ∧ yX2_sources.cls ≠ "java/lang/invoke/VarHandle" ∧ (parseMethodDescriptor yX2_sources.desc).map (fun d => d.parameters.length) = some 0 := by decide +kernel
abbrev rm_X2_sources : Room := { frames := 0, cells := 0, slots := 0, locals := 0 }
set_option maxHeartbeats 4000000 in
set_option maxRecDepth 100000 in
theorem c_X2_sources (l : Launch) (D : va_G) (ts : Nat → Nat) (cyI cyJ cyZ : ClassId) (h_c : Nat → Nat) (sz : Nat) (c_inputs : Int32) (c_flops : Int32) (c_nets : Int32) (c_outputs : Int32)  (Q : Int32 → Prop) (hvc : v_X2_sources c_inputs c_flops  Q) : Met l yX2_sources wsX2_sources rm_X2_sources (va_Pc [.ref (h_c 0)] (cPre D ts [(cyI, .int), (cyJ, .long), (cyZ, .boolean)] [(h_c 0, .inr (2, [.int c_inputs, .int c_flops, .int c_nets, .int c_outputs, .ref (h_c 5), .ref (h_c 6), .ref (h_c 7), .ref (h_c 8), .ref (h_c 9), .ref (h_c 10)]))] sz)) (va_Qi (fun (r : Int32) (u : Unit) => Q r ) (cPost D [(cyI, .int), (cyJ, .long), (cyZ, .boolean)] (fun (u : Unit) => [(h_c 0, .inr (2, [.int c_inputs, .int c_flops, .int c_nets, .int c_outputs, .ref (h_c 5), .ref (h_c 6), .ref (h_c 7), .ref (h_c 8), .ref (h_c 9), .ref (h_c 10)]))]) (va_A [(h_c 0, .inr (2, [.int c_inputs, .int c_flops, .int c_nets, .int c_outputs, .ref (h_c 5), .ref (h_c 6), .ref (h_c 7), .ref (h_c 8), .ref (h_c 9), .ref (h_c 10)]))] sz)) (va_A [(h_c 0, .inr (2, [.int c_inputs, .int c_flops, .int c_nets, .int c_outputs, .ref (h_c 5), .ref (h_c 6), .ref (h_c 7), .ref (h_c 8), .ref (h_c 9), .ref (h_c 10)]))] sz)) 0 0 (va_A [(h_c 0, .inr (2, [.int c_inputs, .int c_flops, .int c_nets, .int c_outputs, .ref (h_c 5), .ref (h_c 6), .ref (h_c 7), .ref (h_c 8), .ref (h_c 9), .ref (h_c 10)]))] sz) := by
  refine kEnter_i (cc := cX2_sources) (maxL := 1) (by decide) rfl (Nat.le_of_ble_eq_true rfl) ?_
  intro p e s m args below meth c A ls QQ hx hb hml hown hts hsz hA hP hD hK hE hS hl hret
  clear hsz
  have hown : s.vm.findClass RX2 = some m.cls := hown
  have inX2 : ∀ w ∈ wsX20, w ∈ wsX2_sources := fun _ h => List.mem_cons_of_mem _ (List.mem_append_right _ h)
  have f31 := hts (.fieldLink RX2 31 "ScanTester$Circuit" "inputs" "I") (List.mem_of_getElem? (i := 1) rfl)
  have f35 := hts (.fieldLink RX2 35 "ScanTester$Circuit" "flops" "I") (List.mem_of_getElem? (i := 2) rfl)
  have hl : lv_has ls 1 [(0, .ref (h_c 0))] := hl
  refine lv_aload_n hx hb dX2_sources_0 rfl (lv_at hl 0 rfl) ?_
  refine va_get (D := D) (ci := 2) (C := RX2) (T := TX2) (N := 10) hx hb hts inX2 hown hK hP 0 rfl rfl 0 (by decide) f31 (fun _ h9 => h9) rfl dX2_sources_1 ?_
  refine lv_aload_n hx hb dX2_sources_4 rfl (lv_at hl 0 rfl) ?_
  refine va_get (D := D) (ci := 2) (C := RX2) (T := TX2) (N := 10) hx hb hts inX2 hown hK hP 0 rfl rfl 1 (by decide) f35 (fun _ h9 => h9) rfl dX2_sources_5 ?_
  refine lv_iadd hx hb dX2_sources_8 ?_
  exact hret (c_inputs + c_flops) () _ _ _ _ hvc hP hD hS dX2_sources_9
def v_X2_inputsOf (c_inputs : Int32) (p0 : Int32) (Q : Int32 → Prop) : Prop := Q (p0 &&& (((1 : Int32) <<< (c_inputs &&& 31)) - (1 : Int32))) 
theorem hd_X2_inputsOf : yX2_inputsOf.cls = RX2 ∧ yX2_inputsOf.cls ≠ "java/lang/invoke/MethodHandle" ∧ yX2_inputsOf.cls ≠ "java/lang/invoke/VarHandle" ∧ (parseMethodDescriptor yX2_inputsOf.desc).map (fun d => d.parameters.length) = some 1 := by decide +kernel
abbrev rm_X2_inputsOf : Room := { frames := 0, cells := 0, slots := 0, locals := 0 }
set_option maxHeartbeats 4000000 in
set_option maxRecDepth 100000 in
theorem c_X2_inputsOf (l : Launch) (D : va_G) (ts : Nat → Nat) (cyI cyJ cyZ : ClassId) (h_c : Nat → Nat) (sz : Nat) (c_inputs : Int32) (c_flops : Int32) (c_nets : Int32) (c_outputs : Int32) (p0 : Int32) (Q : Int32 → Prop) (hvc : v_X2_inputsOf c_inputs p0 Q) : Met l yX2_inputsOf wsX2_inputsOf rm_X2_inputsOf (va_Pc [.ref (h_c 0), .int p0] (cPre D ts [(cyI, .int), (cyJ, .long), (cyZ, .boolean)] [(h_c 0, .inr (2, [.int c_inputs, .int c_flops, .int c_nets, .int c_outputs, .ref (h_c 5), .ref (h_c 6), .ref (h_c 7), .ref (h_c 8), .ref (h_c 9), .ref (h_c 10)]))] sz)) (va_Qi (fun (r : Int32) (u : Unit) => Q r ) (cPost D [(cyI, .int), (cyJ, .long), (cyZ, .boolean)] (fun (u : Unit) => [(h_c 0, .inr (2, [.int c_inputs, .int c_flops, .int c_nets, .int c_outputs, .ref (h_c 5), .ref (h_c 6), .ref (h_c 7), .ref (h_c 8), .ref (h_c 9), .ref (h_c 10)]))]) (va_A [(h_c 0, .inr (2, [.int c_inputs, .int c_flops, .int c_nets, .int c_outputs, .ref (h_c 5), .ref (h_c 6), .ref (h_c 7), .ref (h_c 8), .ref (h_c 9), .ref (h_c 10)]))] sz)) (va_A [(h_c 0, .inr (2, [.int c_inputs, .int c_flops, .int c_nets, .int c_outputs, .ref (h_c 5), .ref (h_c 6), .ref (h_c 7), .ref (h_c 8), .ref (h_c 9), .ref (h_c 10)]))] sz)) 0 0 (va_A [(h_c 0, .inr (2, [.int c_inputs, .int c_flops, .int c_nets, .int c_outputs, .ref (h_c 5), .ref (h_c 6), .ref (h_c 7), .ref (h_c 8), .ref (h_c 9), .ref (h_c 10)]))] sz) := by
  refine kEnter_i (cc := cX2_inputsOf) (maxL := 2) (by decide) rfl (Nat.le_of_ble_eq_true rfl) ?_
  intro p e s m args below meth c A ls QQ hx hb hml hown hts hsz hA hP hD hK hE hS hl hret
  clear hsz
  have hown : s.vm.findClass RX2 = some m.cls := hown
  have inX2 : ∀ w ∈ wsX20, w ∈ wsX2_inputsOf := fun _ h => List.mem_cons_of_mem _ (List.mem_append_right _ h)
  have f31 := hts (.fieldLink RX2 31 "ScanTester$Circuit" "inputs" "I") (List.mem_of_getElem? (i := 1) rfl)
  have hl : lv_has ls 2 [(0, .ref (h_c 0)), (1, .int p0)] := hl
  refine lv_iload_n hx hb dX2_inputsOf_0 rfl (lv_at hl 1 rfl) ?_
  refine lv_iconst (v := 1) hx hb dX2_inputsOf_1 (by decide) ?_
  refine lv_aload_n hx hb dX2_inputsOf_2 rfl (lv_at hl 0 rfl) ?_
  refine va_get (D := D) (ci := 2) (C := RX2) (T := TX2) (N := 10) hx hb hts inX2 hown hK hP 0 rfl rfl 0 (by decide) f31 (fun _ h9 => h9) rfl dX2_inputsOf_3 ?_
  refine lv_ishl hx hb dX2_inputsOf_6 ?_
  refine lv_iconst (v := 1) hx hb dX2_inputsOf_7 (by decide) ?_
  refine lv_isub hx hb dX2_inputsOf_8 ?_
  refine lv_iand hx hb dX2_inputsOf_9 ?_
  exact hret (p0 &&& (((1 : Int32) <<< (c_inputs &&& 31)) - (1 : Int32))) () _ _ _ _ hvc hP hD hS dX2_inputsOf_10
def v_X2_outputsOf (c_outputs : Int32) (p0 : Int32) (Q : Int32 → Prop) : Prop := Q (p0 &&& (((1 : Int32) <<< (c_outputs &&& 31)) - (1 : Int32))) 
theorem hd_X2_outputsOf : yX2_outputsOf.cls = RX2 ∧ yX2_outputsOf.cls ≠ "java/lang/invoke/MethodHandle" ∧ yX2_outputsOf.cls ≠ "java/lang/invoke/VarHandle" ∧ (parseMethodDescriptor yX2_outputsOf.desc).map (fun d => d.parameters.length) = some 1 := by decide +kernel
abbrev rm_X2_outputsOf : Room := { frames := 0, cells := 0, slots := 0, locals := 0 }
set_option maxHeartbeats 4000000 in
set_option maxRecDepth 100000 in
theorem c_X2_outputsOf (l : Launch) (D : va_G) (ts : Nat → Nat) (cyI cyJ cyZ : ClassId) (h_c : Nat → Nat) (sz : Nat) (c_inputs : Int32) (c_flops : Int32) (c_nets : Int32) (c_outputs : Int32) (p0 : Int32) (Q : Int32 → Prop) (hvc : v_X2_outputsOf c_outputs p0 Q) : Met l yX2_outputsOf wsX2_outputsOf rm_X2_outputsOf (va_Pc [.ref (h_c 0), .int p0] (cPre D ts [(cyI, .int), (cyJ, .long), (cyZ, .boolean)] [(h_c 0, .inr (2, [.int c_inputs, .int c_flops, .int c_nets, .int c_outputs, .ref (h_c 5), .ref (h_c 6), .ref (h_c 7), .ref (h_c 8), .ref (h_c 9), .ref (h_c 10)]))] sz)) (va_Qi (fun (r : Int32) (u : Unit) => Q r ) (cPost D [(cyI, .int), (cyJ, .long), (cyZ, .boolean)] (fun (u : Unit) => [(h_c 0, .inr (2, [.int c_inputs, .int c_flops, .int c_nets, .int c_outputs, .ref (h_c 5), .ref (h_c 6), .ref (h_c 7), .ref (h_c 8), .ref (h_c 9), .ref (h_c 10)]))]) (va_A [(h_c 0, .inr (2, [.int c_inputs, .int c_flops, .int c_nets, .int c_outputs, .ref (h_c 5), .ref (h_c 6), .ref (h_c 7), .ref (h_c 8), .ref (h_c 9), .ref (h_c 10)]))] sz)) (va_A [(h_c 0, .inr (2, [.int c_inputs, .int c_flops, .int c_nets, .int c_outputs, .ref (h_c 5), .ref (h_c 6), .ref (h_c 7), .ref (h_c 8), .ref (h_c 9), .ref (h_c 10)]))] sz)) 0 0 (va_A [(h_c 0, .inr (2, [.int c_inputs, .int c_flops, .int c_nets, .int c_outputs, .ref (h_c 5), .ref (h_c 6), .ref (h_c 7), .ref (h_c 8), .ref (h_c 9), .ref (h_c 10)]))] sz) := by
  refine kEnter_i (cc := cX2_outputsOf) (maxL := 2) (by decide) rfl (Nat.le_of_ble_eq_true rfl) ?_
  intro p e s m args below meth c A ls QQ hx hb hml hown hts hsz hA hP hD hK hE hS hl hret
  clear hsz
  have hown : s.vm.findClass RX2 = some m.cls := hown
  have inX2 : ∀ w ∈ wsX20, w ∈ wsX2_outputsOf := fun _ h => List.mem_cons_of_mem _ (List.mem_append_right _ h)
  have f41 := hts (.fieldLink RX2 41 "ScanTester$Circuit" "outputs" "I") (List.mem_of_getElem? (i := 1) rfl)
  have hl : lv_has ls 2 [(0, .ref (h_c 0)), (1, .int p0)] := hl
  refine lv_iload_n hx hb dX2_outputsOf_0 rfl (lv_at hl 1 rfl) ?_
  refine lv_iconst (v := 1) hx hb dX2_outputsOf_1 (by decide) ?_
  refine lv_aload_n hx hb dX2_outputsOf_2 rfl (lv_at hl 0 rfl) ?_
  refine va_get (D := D) (ci := 2) (C := RX2) (T := TX2) (N := 10) hx hb hts inX2 hown hK hP 0 rfl rfl 3 (by decide) f41 (fun _ h9 => h9) rfl dX2_outputsOf_3 ?_
  refine lv_ishl hx hb dX2_outputsOf_6 ?_
  refine lv_iconst (v := 1) hx hb dX2_outputsOf_7 (by decide) ?_
  refine lv_isub hx hb dX2_outputsOf_8 ?_
  refine lv_iand hx hb dX2_outputsOf_9 ?_
  exact hret (p0 &&& (((1 : Int32) <<< (c_outputs &&& 31)) - (1 : Int32))) () _ _ _ _ hvc hP hD hS dX2_outputsOf_10
def v_X2_nextsOf (c_outputs : Int32) (p0 : Int32) (Q : Int32 → Prop) : Prop := Q (p0 >>> (c_outputs &&& 31)) 
theorem hd_X2_nextsOf : yX2_nextsOf.cls = RX2 ∧ yX2_nextsOf.cls ≠ "java/lang/invoke/MethodHandle" ∧ yX2_nextsOf.cls ≠ "java/lang/invoke/VarHandle" ∧ (parseMethodDescriptor yX2_nextsOf.desc).map (fun d => d.parameters.length) = some 1 := by decide +kernel
abbrev rm_X2_nextsOf : Room := { frames := 0, cells := 0, slots := 0, locals := 0 }
set_option maxHeartbeats 4000000 in
set_option maxRecDepth 100000 in
theorem c_X2_nextsOf (l : Launch) (D : va_G) (ts : Nat → Nat) (cyI cyJ cyZ : ClassId) (h_c : Nat → Nat) (sz : Nat) (c_inputs : Int32) (c_flops : Int32) (c_nets : Int32) (c_outputs : Int32) (p0 : Int32) (Q : Int32 → Prop) (hvc : v_X2_nextsOf c_outputs p0 Q) : Met l yX2_nextsOf wsX2_nextsOf rm_X2_nextsOf (va_Pc [.ref (h_c 0), .int p0] (cPre D ts [(cyI, .int), (cyJ, .long), (cyZ, .boolean)] [(h_c 0, .inr (2, [.int c_inputs, .int c_flops, .int c_nets, .int c_outputs, .ref (h_c 5), .ref (h_c 6), .ref (h_c 7), .ref (h_c 8), .ref (h_c 9), .ref (h_c 10)]))] sz)) (va_Qi (fun (r : Int32) (u : Unit) => Q r ) (cPost D [(cyI, .int), (cyJ, .long), (cyZ, .boolean)] (fun (u : Unit) => [(h_c 0, .inr (2, [.int c_inputs, .int c_flops, .int c_nets, .int c_outputs, .ref (h_c 5), .ref (h_c 6), .ref (h_c 7), .ref (h_c 8), .ref (h_c 9), .ref (h_c 10)]))]) (va_A [(h_c 0, .inr (2, [.int c_inputs, .int c_flops, .int c_nets, .int c_outputs, .ref (h_c 5), .ref (h_c 6), .ref (h_c 7), .ref (h_c 8), .ref (h_c 9), .ref (h_c 10)]))] sz)) (va_A [(h_c 0, .inr (2, [.int c_inputs, .int c_flops, .int c_nets, .int c_outputs, .ref (h_c 5), .ref (h_c 6), .ref (h_c 7), .ref (h_c 8), .ref (h_c 9), .ref (h_c 10)]))] sz)) 0 0 (va_A [(h_c 0, .inr (2, [.int c_inputs, .int c_flops, .int c_nets, .int c_outputs, .ref (h_c 5), .ref (h_c 6), .ref (h_c 7), .ref (h_c 8), .ref (h_c 9), .ref (h_c 10)]))] sz) := by
  refine kEnter_i (cc := cX2_nextsOf) (maxL := 2) (by decide) rfl (Nat.le_of_ble_eq_true rfl) ?_
  intro p e s m args below meth c A ls QQ hx hb hml hown hts hsz hA hP hD hK hE hS hl hret
  clear hsz
  have hown : s.vm.findClass RX2 = some m.cls := hown
  have inX2 : ∀ w ∈ wsX20, w ∈ wsX2_nextsOf := fun _ h => List.mem_cons_of_mem _ (List.mem_append_right _ h)
  have f41 := hts (.fieldLink RX2 41 "ScanTester$Circuit" "outputs" "I") (List.mem_of_getElem? (i := 1) rfl)
  have hl : lv_has ls 2 [(0, .ref (h_c 0)), (1, .int p0)] := hl
  refine lv_iload_n hx hb dX2_nextsOf_0 rfl (lv_at hl 1 rfl) ?_
  refine lv_aload_n hx hb dX2_nextsOf_1 rfl (lv_at hl 0 rfl) ?_
  refine va_get (D := D) (ci := 2) (C := RX2) (T := TX2) (N := 10) hx hb hts inX2 hown hK hP 0 rfl rfl 3 (by decide) f41 (fun _ h9 => h9) rfl dX2_nextsOf_2 ?_
  refine lv_ishr hx hb dX2_nextsOf_5 ?_
  exact hret (p0 >>> (c_outputs &&& 31)) () _ _ _ _ hvc hP hD hS dX2_nextsOf_6
def v_X2_isFlop (c_inputs : Int32) (c_flops : Int32) (p0 : Int32) (Q : Int32 → Prop) : Prop := (p0 < c_inputs → Q (0 : Int32) ) ∧ (¬ p0 < c_inputs → v_X2_sources  c_inputs c_flops (fun (r1 : Int32) => (r1 ≤ p0 → Q (0 : Int32) ) ∧ (¬ r1 ≤ p0 → Q (1 : Int32) )))
theorem hd_X2_isFlop : yX2_isFlop.cls = RX2 ∧ yX2_isFlop.cls ≠ "java/lang/invoke/MethodHandle" ∧ yX2_isFlop.cls ≠ "java/lang/invoke/VarHandle" ∧ (parseMethodDescriptor yX2_isFlop.desc).map (fun d => d.parameters.length) = some 1 := by decide +kernel
abbrev rm_X2_isFlop : Room := { frames := 1, cells := 0, slots := 0, locals := 20 }
set_option maxHeartbeats 4000000 in
set_option maxRecDepth 100000 in
theorem c_X2_isFlop (l : Launch) (D : va_G) (ts : Nat → Nat) (cyI cyJ cyZ : ClassId) (h_c : Nat → Nat) (sz : Nat) (c_inputs : Int32) (c_flops : Int32) (c_nets : Int32) (c_outputs : Int32) (p0 : Int32) (Q : Int32 → Prop) (hvc : v_X2_isFlop c_inputs c_flops p0 Q) : Met l yX2_isFlop wsX2_isFlop rm_X2_isFlop (va_Pc [.ref (h_c 0), .int p0] (cPre D ts [(cyI, .int), (cyJ, .long), (cyZ, .boolean)] [(h_c 0, .inr (2, [.int c_inputs, .int c_flops, .int c_nets, .int c_outputs, .ref (h_c 5), .ref (h_c 6), .ref (h_c 7), .ref (h_c 8), .ref (h_c 9), .ref (h_c 10)]))] sz)) (va_Qi (fun (r : Int32) (u : Unit) => Q r ) (cPost D [(cyI, .int), (cyJ, .long), (cyZ, .boolean)] (fun (u : Unit) => [(h_c 0, .inr (2, [.int c_inputs, .int c_flops, .int c_nets, .int c_outputs, .ref (h_c 5), .ref (h_c 6), .ref (h_c 7), .ref (h_c 8), .ref (h_c 9), .ref (h_c 10)]))]) (va_A [(h_c 0, .inr (2, [.int c_inputs, .int c_flops, .int c_nets, .int c_outputs, .ref (h_c 5), .ref (h_c 6), .ref (h_c 7), .ref (h_c 8), .ref (h_c 9), .ref (h_c 10)]))] sz)) (va_A [(h_c 0, .inr (2, [.int c_inputs, .int c_flops, .int c_nets, .int c_outputs, .ref (h_c 5), .ref (h_c 6), .ref (h_c 7), .ref (h_c 8), .ref (h_c 9), .ref (h_c 10)]))] sz)) 0 0 (va_A [(h_c 0, .inr (2, [.int c_inputs, .int c_flops, .int c_nets, .int c_outputs, .ref (h_c 5), .ref (h_c 6), .ref (h_c 7), .ref (h_c 8), .ref (h_c 9), .ref (h_c 10)]))] sz) := by
  refine kEnter_z (cc := cX2_isFlop) (maxL := 2) (ty := .boolean) (by decide) rfl (Nat.le_of_ble_eq_true rfl) ?_
  intro p e s m args below meth c A ls QQ hx hb hml hown hts hsz hA hP hD hK hE hS hl hret
  clear hsz
  have hown : s.vm.findClass RX2 = some m.cls := hown
  have inX2 : ∀ w ∈ wsX20, w ∈ wsX2_isFlop := fun _ h => List.mem_cons_of_mem _ (List.mem_append_right _ h)
  have f31 := hts (.fieldLink RX2 31 "ScanTester$Circuit" "inputs" "I") (List.mem_of_getElem? (i := 1) rfl)
  have hl : lv_has ls 2 [(0, .ref (h_c 0)), (1, .int p0)] := hl
  refine lv_iload_n hx hb dX2_isFlop_0 rfl (lv_at hl 1 rfl) ?_
  refine lv_aload_n hx hb dX2_isFlop_1 rfl (lv_at hl 0 rfl) ?_
  refine va_get (D := D) (ci := 2) (C := RX2) (T := TX2) (N := 10) hx hb hts inX2 hown hK hP 0 rfl rfl 0 (by decide) f31 (fun _ h9 => h9) rfl dX2_isFlop_2 ?_
  obtain ⟨hvt, hvf⟩ := hvc
  refine lv_icmp_lt (tgt := 20) hx hb dX2_isFlop_5 (by decide) (fun hc => ?_) (fun hc => ?_)
  · have hvc := hvt hc
    refine lv_iconst (v := 0) hx hb dX2_isFlop_20 (by decide) ?_
    exact hret (0 : Int32) () _ _ _ _ rfl hvc hP hD hS dX2_isFlop_21
  · have hvc := hvf hc
    refine lv_iload_n hx hb dX2_isFlop_8 rfl (lv_at hl 1 rfl) ?_
    refine lv_aload_n hx hb dX2_isFlop_9 rfl (lv_at hl 0 rfl) ?_
    refine kV_i (wc := [(h_c 0, .inr (2, [.int c_inputs, .int c_flops, .int c_nets, .int c_outputs, .ref (h_c 5), .ref (h_c 6), .ref (h_c 7), .ref (h_c 8), .ref (h_c 9), .ref (h_c 10)]))]) (wr := []) (As := []) (rest := [.int p0]) ⟨hx, hb, hml, hown, hts⟩ hP hD hK hE hS hA [0] [] rfl rfl (by decide) (by decide) (by decide) (c_X2_sources l D ts cyI cyJ cyZ h_c _ c_inputs c_flops c_nets c_outputs _ hvc) (cwV 0 hts gX2_isFlop_X2_sources rfl rfl rfl hd_X2_sources ⟨Nat.le_of_ble_eq_true rfl, Nat.le_of_ble_eq_true rfl⟩) (ci := 2) rfl rfl rfl hl.1 rfl (Nat.zero_le _) (Nat.zero_le _) rfl (Nat.le_of_ble_eq_true rfl) dX2_isFlop_10 (fun r1 _u H locs hvc hP hD hS => ?_)
    try dsimp only at hvc
    have hP : va_P D vwCl [(h_c 0, .inr (2, [.int c_inputs, .int c_flops, .int c_nets, .int c_outputs, .ref (h_c 5), .ref (h_c 6), .ref (h_c 7), .ref (h_c 8), .ref (h_c 9), .ref (h_c 10)]))] H := sub_P hP (isC := [0]) rfl
    have hD : va_D A [(h_c 0, .inr (2, [.int c_inputs, .int c_flops, .int c_nets, .int c_outputs, .ref (h_c 5), .ref (h_c 6), .ref (h_c 7), .ref (h_c 8), .ref (h_c 9), .ref (h_c 10)]))] := hD.sub [0] (by decide) rfl
    obtain ⟨hvt, hvf⟩ := hvc
    refine lv_icmp_ge (tgt := 20) hx hb dX2_isFlop_13 (by decide) (fun hc => ?_) (fun hc => ?_)
    · have hvc := hvt hc
      refine lv_iconst (v := 0) hx hb dX2_isFlop_20 (by decide) ?_
      exact hret (0 : Int32) () _ _ _ _ rfl hvc hP hD hS dX2_isFlop_21
    · have hvc := hvf hc
      refine lv_iconst (v := 1) hx hb dX2_isFlop_16 (by decide) ?_
      refine lv_goto (tgt := 21) hx hb dX2_isFlop_17 (by decide) ?_
      exact hret (1 : Int32) () _ _ _ _ rfl hvc hP hD hS dX2_isFlop_21
def v_X2_gate_b155 (c_operation : Nat → Int32) (c_looked : Nat → Int32) (c_value : Nat → Int64) (c_lookedCount : Nat → Int32) (Q : Int64 → Prop) (k71 : Int32 → Int32 → Int32 → Int64 → Int32 → Prop) : Int32 → Int32 → Int32 → Int64 → Int32 → Prop := fun (l1 : Int32) (l2 : Int32) (l3 : Int32) (l4 : Int64) (l6 : Int32) => ∀ v1 : Int32, v1 = l6 + (1 : Int32) → k71 l1 l2 l3 l4 v1
def v_X2_gate_b148 (c_operation : Nat → Int32) (c_looked : Nat → Int32) (c_value : Nat → Int64) (c_lookedCount : Nat → Int32) (Q : Int64 → Prop) (k71 : Int32 → Int32 → Int32 → Int64 → Int32 → Prop) : Int32 → Int32 → Int32 → Int64 → Int32 → Int64 → Prop := fun (l1 : Int32) (l2 : Int32) (l3 : Int32) (l4 : Int64) (l6 : Int32) (l7 : Int64) => ∀ v2 : Int64, v2 = l4 ||| l7 → v_X2_gate_b155 c_operation c_looked c_value c_lookedCount Q k71 l1 l2 l3 v2 l6
def v_X2_gate_b128 (c_operation : Nat → Int32) (c_looked : Nat → Int32) (c_value : Nat → Int64) (c_lookedCount : Nat → Int32) (Q : Int64 → Prop) (k71 : Int32 → Int32 → Int32 → Int64 → Int32 → Prop) : Int32 → Int32 → Int32 → Int64 → Int32 → Int64 → Prop := fun (l1 : Int32) (l2 : Int32) (l3 : Int32) (l4 : Int64) (l6 : Int32) (l7 : Int64) => ∀ v3 : Int64, v3 = l4 &&& l7 → v_X2_gate_b155 c_operation c_looked c_value c_lookedCount Q k71 l1 l2 l3 v3 l6
def v_X2_gate_b176 (c_operation : Nat → Int32) (c_looked : Nat → Int32) (c_value : Nat → Int64) (c_lookedCount : Nat → Int32) (Q : Int64 → Prop)  : Int64 → Prop := fun (l4 : Int64) => Q (l4 ^^^ (-1 : Int64)) 
def v_X2_gate_b71 (c_operation : Nat → Int32) (c_looked : Nat → Int32) (c_value : Nat → Int64) (c_lookedCount : Nat → Int32) (Q : Int64 → Prop)  : Nat → Int32 → Int32 → Int32 → Int64 → Int32 → Prop
  | 0 => fun _ _ _ _ _ => False
  | z71_ + 1 => fun (l1 : Int32) (l2 : Int32) (l3 : Int32) (l4 : Int64) (l6 : Int32) => vp_in l1 60 ∧ ((c_lookedCount l1.toNatClampNeg) ≤ l6 → (l2 = (5 : Int32) → v_X2_gate_b176 c_operation c_looked c_value c_lookedCount Q  l4) ∧ (¬ l2 = (5 : Int32) → (l2 = (3 : Int32) → v_X2_gate_b176 c_operation c_looked c_value c_lookedCount Q  l4) ∧ (¬ l2 = (3 : Int32) → (¬ l2 = (4 : Int32) → Q l4 ) ∧ (l2 = (4 : Int32) → v_X2_gate_b176 c_operation c_looked c_value c_lookedCount Q  l4)))) ∧ (¬ (c_lookedCount l1.toNatClampNeg) ≤ l6 → vp_in (l3 + l6) 240 ∧ vp_in (c_looked (l3 + l6).toNatClampNeg) 60 ∧ ∀ v4 : Int64, v4 = c_value (c_looked (l3 + l6).toNatClampNeg).toNatClampNeg → (l2 = (0 : Int32) → v_X2_gate_b128 c_operation c_looked c_value c_lookedCount Q (v_X2_gate_b71 c_operation c_looked c_value c_lookedCount Q  z71_) l1 l2 l3 l4 l6 v4) ∧ (¬ l2 = (0 : Int32) → (l2 = (1 : Int32) → v_X2_gate_b148 c_operation c_looked c_value c_lookedCount Q (v_X2_gate_b71 c_operation c_looked c_value c_lookedCount Q  z71_) l1 l2 l3 l4 l6 v4) ∧ (¬ l2 = (1 : Int32) → (l2 = (2 : Int32) → ∀ v5 : Int64, v5 = l4 ^^^ v4 → v_X2_gate_b155 c_operation c_looked c_value c_lookedCount Q (v_X2_gate_b71 c_operation c_looked c_value c_lookedCount Q  z71_) l1 l2 l3 v5 l6) ∧ (¬ l2 = (2 : Int32) → (l2 = (3 : Int32) → v_X2_gate_b128 c_operation c_looked c_value c_lookedCount Q (v_X2_gate_b71 c_operation c_looked c_value c_lookedCount Q  z71_) l1 l2 l3 l4 l6 v4) ∧ (¬ l2 = (3 : Int32) → v_X2_gate_b148 c_operation c_looked c_value c_lookedCount Q (v_X2_gate_b71 c_operation c_looked c_value c_lookedCount Q  z71_) l1 l2 l3 l4 l6 v4)))))
def v_X2_gate (c_operation : Nat → Int32) (c_looked : Nat → Int32) (c_value : Nat → Int64) (c_lookedCount : Nat → Int32) (p0 : Int32) (Q : Int64 → Prop) : Prop := vp_in p0 60 ∧ ∀ v6 : Int32, v6 = c_operation p0.toNatClampNeg → ∀ v7 : Int32, v7 = p0 * (4 : Int32) → vp_in v7 240 ∧ vp_in (c_looked v7.toNatClampNeg) 60 ∧ ∀ v8 : Int64, v8 = c_value (c_looked v7.toNatClampNeg).toNatClampNeg → (¬ v6 = (7 : Int32) → (∃ f71 : Nat, v_X2_gate_b71 c_operation c_looked c_value c_lookedCount Q  f71 p0 v6 v7 v8 (1 : Int32))) ∧ (v6 = (7 : Int32) → vp_in (v7 + (1 : Int32)) 240 ∧ vp_in (c_looked (v7 + (1 : Int32)).toNatClampNeg) 60 ∧ vp_in (v7 + (2 : Int32)) 240 ∧ vp_in (c_looked (v7 + (2 : Int32)).toNatClampNeg) 60 ∧ Q (((v8 ^^^ (-1 : Int64)) &&& (c_value (c_looked (v7 + (1 : Int32)).toNatClampNeg).toNatClampNeg)) ||| (v8 &&& (c_value (c_looked (v7 + (2 : Int32)).toNatClampNeg).toNatClampNeg))) )
theorem hd_X2_gate : yX2_gate.cls = RX2 ∧ yX2_gate.cls ≠ "java/lang/invoke/MethodHandle" ∧ yX2_gate.cls ≠ "java/lang/invoke/VarHandle" ∧ (parseMethodDescriptor yX2_gate.desc).map (fun d => d.parameters.length) = some 1 := by decide +kernel
abbrev rm_X2_gate : Room := { frames := 0, cells := 0, slots := 0, locals := 0 }
set_option maxHeartbeats 4000000 in
set_option maxRecDepth 100000 in
theorem c_X2_gate (l : Launch) (D : va_G) (ts : Nat → Nat) (cyI cyJ cyZ : ClassId) (h_c : Nat → Nat) (sz : Nat) (c_inputs : Int32) (c_flops : Int32) (c_nets : Int32) (c_outputs : Int32) (c_operation : Nat → Int32) (c_looked : Nat → Int32) (c_value : Nat → Int64) (c_lookedCount : Nat → Int32) (p0 : Int32) (Q : Int64 → Prop) (hvc : v_X2_gate c_operation c_looked c_value c_lookedCount p0 Q) : Met l yX2_gate wsX2_gate rm_X2_gate (va_Pc [.ref (h_c 0), .int p0] (cPre D ts [(cyI, .int), (cyJ, .long), (cyZ, .boolean)] [(h_c 0, .inr (2, [.int c_inputs, .int c_flops, .int c_nets, .int c_outputs, .ref (h_c 5), .ref (h_c 6), .ref (h_c 7), .ref (h_c 8), .ref (h_c 9), .ref (h_c 10)])), (h_c 5, .inl (cyI, 60, .inl c_operation)), (h_c 7, .inl (cyI, 240, .inl c_looked)), (h_c 10, .inl (cyJ, 60, .inr (.inl c_value))), (h_c 6, .inl (cyI, 60, .inl c_lookedCount))] sz)) (va_Ql (fun (r : Int64) (u : Unit) => Q r ) (cPost D [(cyI, .int), (cyJ, .long), (cyZ, .boolean)] (fun (u : Unit) => [(h_c 0, .inr (2, [.int c_inputs, .int c_flops, .int c_nets, .int c_outputs, .ref (h_c 5), .ref (h_c 6), .ref (h_c 7), .ref (h_c 8), .ref (h_c 9), .ref (h_c 10)])), (h_c 5, .inl (cyI, 60, .inl c_operation)), (h_c 7, .inl (cyI, 240, .inl c_looked)), (h_c 10, .inl (cyJ, 60, .inr (.inl c_value))), (h_c 6, .inl (cyI, 60, .inl c_lookedCount))]) (va_A [(h_c 0, .inr (2, [.int c_inputs, .int c_flops, .int c_nets, .int c_outputs, .ref (h_c 5), .ref (h_c 6), .ref (h_c 7), .ref (h_c 8), .ref (h_c 9), .ref (h_c 10)])), (h_c 5, .inl (cyI, 60, .inl c_operation)), (h_c 7, .inl (cyI, 240, .inl c_looked)), (h_c 10, .inl (cyJ, 60, .inr (.inl c_value))), (h_c 6, .inl (cyI, 60, .inl c_lookedCount))] sz)) (va_A [(h_c 0, .inr (2, [.int c_inputs, .int c_flops, .int c_nets, .int c_outputs, .ref (h_c 5), .ref (h_c 6), .ref (h_c 7), .ref (h_c 8), .ref (h_c 9), .ref (h_c 10)])), (h_c 5, .inl (cyI, 60, .inl c_operation)), (h_c 7, .inl (cyI, 240, .inl c_looked)), (h_c 10, .inl (cyJ, 60, .inr (.inl c_value))), (h_c 6, .inl (cyI, 60, .inl c_lookedCount))] sz)) 0 0 (va_A [(h_c 0, .inr (2, [.int c_inputs, .int c_flops, .int c_nets, .int c_outputs, .ref (h_c 5), .ref (h_c 6), .ref (h_c 7), .ref (h_c 8), .ref (h_c 9), .ref (h_c 10)])), (h_c 5, .inl (cyI, 60, .inl c_operation)), (h_c 7, .inl (cyI, 240, .inl c_looked)), (h_c 10, .inl (cyJ, 60, .inr (.inl c_value))), (h_c 6, .inl (cyI, 60, .inl c_lookedCount))] sz) := by
  refine kEnter_l (cc := cX2_gate) (maxL := 9) (by decide) rfl (Nat.le_of_ble_eq_true rfl) ?_
  intro p e s m args below meth c A ls QQ hx hb hml hown hts hsz hA hP hD hK hE hS hl hret
  clear hsz
  have hown : s.vm.findClass RX2 = some m.cls := hown
  have inX2 : ∀ w ∈ wsX20, w ∈ wsX2_gate := fun _ h => List.mem_cons_of_mem _ (List.mem_append_right _ h)
  have k75 := hts (.constantLong RX2 75 (-1)) (List.mem_of_getElem? (i := 4) rfl)
  have f15 := hts (.fieldLink RX2 15 "ScanTester$Circuit" "lookedCount" "[I") (List.mem_of_getElem? (i := 5) rfl)
  have f27 := hts (.fieldLink RX2 27 "ScanTester$Circuit" "value" "[J") (List.mem_of_getElem? (i := 2) rfl)
  have f18 := hts (.fieldLink RX2 18 "ScanTester$Circuit" "looked" "[I") (List.mem_of_getElem? (i := 3) rfl)
  have f9 := hts (.fieldLink RX2 9 "ScanTester$Circuit" "operation" "[I") (List.mem_of_getElem? (i := 1) rfl)
  have w71 : ∀ (n71_ : Nat) (l1 : Int32) (l2 : Int32) (l3 : Int32) (l4 : Int64) (l6 : Int32) (H : Heap) (locs : List Loc) (ls : Array Slot), v_X2_gate_b71 c_operation c_looked c_value c_lookedCount Q  n71_ l1 l2 l3 l4 l6 → va_P D vwCl [(h_c 0, .inr (2, [.int c_inputs, .int c_flops, .int c_nets, .int c_outputs, .ref (h_c 5), .ref (h_c 6), .ref (h_c 7), .ref (h_c 8), .ref (h_c 9), .ref (h_c 10)])), (h_c 5, .inl (cyI, 60, .inl c_operation)), (h_c 7, .inl (cyI, 240, .inl c_looked)), (h_c 10, .inl (cyJ, 60, .inr (.inl c_value))), (h_c 6, .inl (cyI, 60, .inl c_lookedCount))] H → va_D A [(h_c 0, .inr (2, [.int c_inputs, .int c_flops, .int c_nets, .int c_outputs, .ref (h_c 5), .ref (h_c 6), .ref (h_c 7), .ref (h_c 8), .ref (h_c 9), .ref (h_c 10)])), (h_c 5, .inl (cyI, 60, .inl c_operation)), (h_c 7, .inl (cyI, 240, .inl c_looked)), (h_c 10, .inl (cyJ, 60, .inr (.inl c_value))), (h_c 6, .inl (cyI, 60, .inl c_lookedCount))] → va_S A s.heap H locs → lv_has ls 9 [(0, .ref (h_c 0)), (1, .int l1), (2, .int l2), (3, .int l3), (4, .long l4), (6, .int l6)] → W p l e rm_X2_gate s m args below meth c H locs 0 0 QQ (F0 m 71 ls []) := by
    intro n71_
    induction n71_ with
    | zero =>
      intro l1 l2 l3 l4 l6 H locs ls hvc hP hD hS hl
      exact False.elim hvc
    | succ n71_ ih71 =>
      have w155 : ∀ (l1 : Int32) (l2 : Int32) (l3 : Int32) (l4 : Int64) (l6 : Int32) (H : Heap) (locs : List Loc) (ls : Array Slot), v_X2_gate_b155 c_operation c_looked c_value c_lookedCount Q (v_X2_gate_b71 c_operation c_looked c_value c_lookedCount Q  n71_) l1 l2 l3 l4 l6 → va_P D vwCl [(h_c 0, .inr (2, [.int c_inputs, .int c_flops, .int c_nets, .int c_outputs, .ref (h_c 5), .ref (h_c 6), .ref (h_c 7), .ref (h_c 8), .ref (h_c 9), .ref (h_c 10)])), (h_c 5, .inl (cyI, 60, .inl c_operation)), (h_c 7, .inl (cyI, 240, .inl c_looked)), (h_c 10, .inl (cyJ, 60, .inr (.inl c_value))), (h_c 6, .inl (cyI, 60, .inl c_lookedCount))] H → va_D A [(h_c 0, .inr (2, [.int c_inputs, .int c_flops, .int c_nets, .int c_outputs, .ref (h_c 5), .ref (h_c 6), .ref (h_c 7), .ref (h_c 8), .ref (h_c 9), .ref (h_c 10)])), (h_c 5, .inl (cyI, 60, .inl c_operation)), (h_c 7, .inl (cyI, 240, .inl c_looked)), (h_c 10, .inl (cyJ, 60, .inr (.inl c_value))), (h_c 6, .inl (cyI, 60, .inl c_lookedCount))] → va_S A s.heap H locs → lv_has ls 9 [(0, .ref (h_c 0)), (1, .int l1), (2, .int l2), (3, .int l3), (4, .long l4), (6, .int l6)] → W p l e rm_X2_gate s m args below meth c H locs 0 0 QQ (F0 m 155 ls []) := by
        intro l1 l2 l3 l4 l6 H locs ls hvc hP hD hS hl
        obtain ⟨v1, ev1⟩ : ∃ y : Int32, y = l6 + (1 : Int32) := ⟨_, rfl⟩
        have hvc := hvc v1 ev1
        refine lv_iinc (v := v1) (lv' := [(6, .int v1), (0, .ref (h_c 0)), (1, .int l1), (2, .int l2), (3, .int l3), (4, .long l4)]) hx hb dX2_gate_155 hl (k := 5) rfl (by rw [ev1]; rfl) (by decide) rfl (fun ls hl => ?_)
        refine lv_goto (tgt := 71) hx hb dX2_gate_158 (by decide) ?_
        exact ih71 l1 l2 l3 l4 v1 _ _ _ hvc hP hD hS (lv_sub hl [1, 2, 3, 4, 5, 0] rfl)
      have w148 : ∀ (l1 : Int32) (l2 : Int32) (l3 : Int32) (l4 : Int64) (l6 : Int32) (l7 : Int64) (H : Heap) (locs : List Loc) (ls : Array Slot), v_X2_gate_b148 c_operation c_looked c_value c_lookedCount Q (v_X2_gate_b71 c_operation c_looked c_value c_lookedCount Q  n71_) l1 l2 l3 l4 l6 l7 → va_P D vwCl [(h_c 0, .inr (2, [.int c_inputs, .int c_flops, .int c_nets, .int c_outputs, .ref (h_c 5), .ref (h_c 6), .ref (h_c 7), .ref (h_c 8), .ref (h_c 9), .ref (h_c 10)])), (h_c 5, .inl (cyI, 60, .inl c_operation)), (h_c 7, .inl (cyI, 240, .inl c_looked)), (h_c 10, .inl (cyJ, 60, .inr (.inl c_value))), (h_c 6, .inl (cyI, 60, .inl c_lookedCount))] H → va_D A [(h_c 0, .inr (2, [.int c_inputs, .int c_flops, .int c_nets, .int c_outputs, .ref (h_c 5), .ref (h_c 6), .ref (h_c 7), .ref (h_c 8), .ref (h_c 9), .ref (h_c 10)])), (h_c 5, .inl (cyI, 60, .inl c_operation)), (h_c 7, .inl (cyI, 240, .inl c_looked)), (h_c 10, .inl (cyJ, 60, .inr (.inl c_value))), (h_c 6, .inl (cyI, 60, .inl c_lookedCount))] → va_S A s.heap H locs → lv_has ls 9 [(0, .ref (h_c 0)), (1, .int l1), (2, .int l2), (3, .int l3), (4, .long l4), (6, .int l6), (7, .long l7)] → W p l e rm_X2_gate s m args below meth c H locs 0 0 QQ (F0 m 148 ls []) := by
        intro l1 l2 l3 l4 l6 l7 H locs ls hvc hP hD hS hl
        refine lv_lload hx hb dX2_gate_148 (lv_at hl 4 rfl) ?_
        refine lv_lload hx hb dX2_gate_150 (lv_at hl 6 rfl) ?_
        refine lv_lor hx hb dX2_gate_152 ?_
        refine lv_topl (fun v2 ev2 => ?_)
        have hvc := hvc v2 ev2
        refine lv_lstore (lv' := [(4, .long v2), (0, .ref (h_c 0)), (1, .int l1), (2, .int l2), (3, .int l3), (6, .int l6), (7, .long l7)]) hx hb dX2_gate_153 hl (by decide) rfl (fun ls hl => ?_)
        exact w155 l1 l2 l3 v2 l6 _ _ _ hvc hP hD hS (lv_sub hl [1, 2, 3, 4, 0, 5] rfl)
      have w128 : ∀ (l1 : Int32) (l2 : Int32) (l3 : Int32) (l4 : Int64) (l6 : Int32) (l7 : Int64) (H : Heap) (locs : List Loc) (ls : Array Slot), v_X2_gate_b128 c_operation c_looked c_value c_lookedCount Q (v_X2_gate_b71 c_operation c_looked c_value c_lookedCount Q  n71_) l1 l2 l3 l4 l6 l7 → va_P D vwCl [(h_c 0, .inr (2, [.int c_inputs, .int c_flops, .int c_nets, .int c_outputs, .ref (h_c 5), .ref (h_c 6), .ref (h_c 7), .ref (h_c 8), .ref (h_c 9), .ref (h_c 10)])), (h_c 5, .inl (cyI, 60, .inl c_operation)), (h_c 7, .inl (cyI, 240, .inl c_looked)), (h_c 10, .inl (cyJ, 60, .inr (.inl c_value))), (h_c 6, .inl (cyI, 60, .inl c_lookedCount))] H → va_D A [(h_c 0, .inr (2, [.int c_inputs, .int c_flops, .int c_nets, .int c_outputs, .ref (h_c 5), .ref (h_c 6), .ref (h_c 7), .ref (h_c 8), .ref (h_c 9), .ref (h_c 10)])), (h_c 5, .inl (cyI, 60, .inl c_operation)), (h_c 7, .inl (cyI, 240, .inl c_looked)), (h_c 10, .inl (cyJ, 60, .inr (.inl c_value))), (h_c 6, .inl (cyI, 60, .inl c_lookedCount))] → va_S A s.heap H locs → lv_has ls 9 [(0, .ref (h_c 0)), (1, .int l1), (2, .int l2), (3, .int l3), (4, .long l4), (6, .int l6), (7, .long l7)] → W p l e rm_X2_gate s m args below meth c H locs 0 0 QQ (F0 m 128 ls []) := by
        intro l1 l2 l3 l4 l6 l7 H locs ls hvc hP hD hS hl
        refine lv_lload hx hb dX2_gate_128 (lv_at hl 4 rfl) ?_
        refine lv_lload hx hb dX2_gate_130 (lv_at hl 6 rfl) ?_
        refine lv_land hx hb dX2_gate_132 ?_
        refine lv_topl (fun v3 ev3 => ?_)
        have hvc := hvc v3 ev3
        refine lv_lstore (lv' := [(4, .long v3), (0, .ref (h_c 0)), (1, .int l1), (2, .int l2), (3, .int l3), (6, .int l6), (7, .long l7)]) hx hb dX2_gate_133 hl (by decide) rfl (fun ls hl => ?_)
        refine lv_goto (tgt := 155) hx hb dX2_gate_135 (by decide) ?_
        exact w155 l1 l2 l3 v3 l6 _ _ _ hvc hP hD hS (lv_sub hl [1, 2, 3, 4, 0, 5] rfl)
      have w176 : ∀ (l4 : Int64) (H : Heap) (locs : List Loc) (ls : Array Slot), v_X2_gate_b176 c_operation c_looked c_value c_lookedCount Q  l4 → va_P D vwCl [(h_c 0, .inr (2, [.int c_inputs, .int c_flops, .int c_nets, .int c_outputs, .ref (h_c 5), .ref (h_c 6), .ref (h_c 7), .ref (h_c 8), .ref (h_c 9), .ref (h_c 10)])), (h_c 5, .inl (cyI, 60, .inl c_operation)), (h_c 7, .inl (cyI, 240, .inl c_looked)), (h_c 10, .inl (cyJ, 60, .inr (.inl c_value))), (h_c 6, .inl (cyI, 60, .inl c_lookedCount))] H → va_D A [(h_c 0, .inr (2, [.int c_inputs, .int c_flops, .int c_nets, .int c_outputs, .ref (h_c 5), .ref (h_c 6), .ref (h_c 7), .ref (h_c 8), .ref (h_c 9), .ref (h_c 10)])), (h_c 5, .inl (cyI, 60, .inl c_operation)), (h_c 7, .inl (cyI, 240, .inl c_looked)), (h_c 10, .inl (cyJ, 60, .inr (.inl c_value))), (h_c 6, .inl (cyI, 60, .inl c_lookedCount))] → va_S A s.heap H locs → lv_has ls 9 [(4, .long l4)] → W p l e rm_X2_gate s m args below meth c H locs 0 0 QQ (F0 m 176 ls []) := by
        intro l4 H locs ls hvc hP hD hS hl
        refine lv_lload hx hb dX2_gate_176 (lv_at hl 0 rfl) ?_
        refine lv_ldc2 hx hb hown k75 dX2_gate_178 ?_
        refine lv_lxor hx hb dX2_gate_181 ?_
        refine lv_goto (tgt := 187) hx hb dX2_gate_182 (by decide) ?_
        exact hret (l4 ^^^ (-1 : Int64)) () _ _ _ _ hvc hP hD hS dX2_gate_187
      intro l1 l2 l3 l4 l6 H locs ls hvc hP hD hS hl
      refine lv_iload hx hb dX2_gate_71 (lv_at hl 5 rfl) ?_
      refine lv_aload_n hx hb dX2_gate_73 rfl (lv_at hl 0 rfl) ?_
      refine va_get (D := D) (ci := 2) (C := RX2) (T := TX2) (N := 10) hx hb hts inX2 hown hK hP 0 rfl rfl 5 (by decide) f15 (fun _ h9 => h9) rfl dX2_gate_74 ?_
      refine lv_iload_n hx hb dX2_gate_77 rfl (lv_at hl 1 rfl) ?_
      obtain ⟨hi, hvc⟩ := hvc
      refine va_iald hx hb hK hP 4 0 rfl rfl hi dX2_gate_78 ?_
      obtain ⟨hvt, hvf⟩ := hvc
      refine lv_icmp_ge (tgt := 161) hx hb dX2_gate_79 (by decide) (fun hc => ?_) (fun hc => ?_)
      · have hvc := hvt hc
        refine lv_iload_n hx hb dX2_gate_161 rfl (lv_at hl 2 rfl) ?_
        refine lv_iconst (v := 5) hx hb dX2_gate_162 (by decide) ?_
        obtain ⟨hvt, hvf⟩ := hvc
        refine lv_icmp_eq (tgt := 176) hx hb dX2_gate_163 (by decide) (fun hc => ?_) (fun hc => ?_)
        · have hvc := hvt hc
          exact w176 l4 _ _ _ hvc hP hD hS (lv_sub hl [4] rfl)
        · have hvc := hvf hc
          refine lv_iload_n hx hb dX2_gate_166 rfl (lv_at hl 2 rfl) ?_
          refine lv_iconst (v := 3) hx hb dX2_gate_167 (by decide) ?_
          obtain ⟨hvt, hvf⟩ := hvc
          refine lv_icmp_eq (tgt := 176) hx hb dX2_gate_168 (by decide) (fun hc => ?_) (fun hc => ?_)
          · have hvc := hvt hc
            exact w176 l4 _ _ _ hvc hP hD hS (lv_sub hl [4] rfl)
          · have hvc := hvf hc
            refine lv_iload_n hx hb dX2_gate_171 rfl (lv_at hl 2 rfl) ?_
            refine lv_iconst (v := 4) hx hb dX2_gate_172 (by decide) ?_
            obtain ⟨hvt, hvf⟩ := hvc
            refine lv_icmp_ne (tgt := 185) hx hb dX2_gate_173 (by decide) (fun hc => ?_) (fun hc => ?_)
            · have hvc := hvt hc
              refine lv_lload hx hb dX2_gate_185 (lv_at hl 4 rfl) ?_
              exact hret l4 () _ _ _ _ hvc hP hD hS dX2_gate_187
            · have hvc := hvf hc
              exact w176 l4 _ _ _ hvc hP hD hS (lv_sub hl [4] rfl)
      · have hvc := hvf hc
        refine lv_aload_n hx hb dX2_gate_82 rfl (lv_at hl 0 rfl) ?_
        refine va_get (D := D) (ci := 2) (C := RX2) (T := TX2) (N := 10) hx hb hts inX2 hown hK hP 0 rfl rfl 9 (by decide) f27 (fun _ h9 => h9) rfl dX2_gate_83 ?_
        refine lv_aload_n hx hb dX2_gate_86 rfl (lv_at hl 0 rfl) ?_
        refine va_get (D := D) (ci := 2) (C := RX2) (T := TX2) (N := 10) hx hb hts inX2 hown hK hP 0 rfl rfl 6 (by decide) f18 (fun _ h9 => h9) rfl dX2_gate_87 ?_
        refine lv_iload_n hx hb dX2_gate_90 rfl (lv_at hl 3 rfl) ?_
        refine lv_iload hx hb dX2_gate_91 (lv_at hl 5 rfl) ?_
        refine lv_iadd hx hb dX2_gate_93 ?_
        obtain ⟨hi, hvc⟩ := hvc
        refine va_iald hx hb hK hP 2 0 rfl rfl hi dX2_gate_94 ?_
        obtain ⟨hi, hvc⟩ := hvc
        refine va_lald hx hb hK hP 3 1 rfl rfl hi dX2_gate_95 ?_
        refine lv_topl (fun v4 ev4 => ?_)
        have hvc := hvc v4 ev4
        refine lv_lstore (lv' := [(7, .long v4), (0, .ref (h_c 0)), (1, .int l1), (2, .int l2), (3, .int l3), (4, .long l4), (6, .int l6)]) hx hb dX2_gate_96 hl (by decide) rfl (fun ls hl => ?_)
        refine lv_iload_n hx hb dX2_gate_98 rfl (lv_at hl 3 rfl) ?_
        obtain ⟨hvt, hvf⟩ := hvc
        by_cases hc : l2 = (0 : Int32)
        · have hvc := hvt hc
          refine lv_tableIn (tgt := 128) hx hb dX2_gate_99 (by rw [hc]; decide) (by rw [hc]; decide) (by rw [hc]; rfl) (by decide) ?_
          exact w128 l1 l2 l3 l4 l6 v4 _ _ _ hvc hP hD hS (lv_sub hl [1, 2, 3, 4, 5, 6, 0] rfl)
        · have hvc := hvf hc
          have sw_0 := hc
          obtain ⟨hvt, hvf⟩ := hvc
          by_cases hc : l2 = (1 : Int32)
          · have hvc := hvt hc
            refine lv_tableIn (tgt := 148) hx hb dX2_gate_99 (by rw [hc]; decide) (by rw [hc]; decide) (by rw [hc]; rfl) (by decide) ?_
            exact w148 l1 l2 l3 l4 l6 v4 _ _ _ hvc hP hD hS (lv_sub hl [1, 2, 3, 4, 5, 6, 0] rfl)
          · have hvc := hvf hc
            have sw_1 := hc
            obtain ⟨hvt, hvf⟩ := hvc
            by_cases hc : l2 = (2 : Int32)
            · have hvc := hvt hc
              refine lv_tableIn (tgt := 138) hx hb dX2_gate_99 (by rw [hc]; decide) (by rw [hc]; decide) (by rw [hc]; rfl) (by decide) ?_
              refine lv_lload hx hb dX2_gate_138 (lv_at hl 5 rfl) ?_
              refine lv_lload hx hb dX2_gate_140 (lv_at hl 0 rfl) ?_
              refine lv_lxor hx hb dX2_gate_142 ?_
              refine lv_topl (fun v5 ev5 => ?_)
              have hvc := hvc v5 ev5
              refine lv_lstore (lv' := [(4, .long v5), (7, .long v4), (0, .ref (h_c 0)), (1, .int l1), (2, .int l2), (3, .int l3), (6, .int l6)]) hx hb dX2_gate_143 hl (by decide) rfl (fun ls hl => ?_)
              refine lv_goto (tgt := 155) hx hb dX2_gate_145 (by decide) ?_
              exact w155 l1 l2 l3 v5 l6 _ _ _ hvc hP hD hS (lv_sub hl [2, 3, 4, 5, 0, 6] rfl)
            · have hvc := hvf hc
              have sw_2 := hc
              obtain ⟨hvt, hvf⟩ := hvc
              by_cases hc : l2 = (3 : Int32)
              · have hvc := hvt hc
                refine lv_tableIn (tgt := 128) hx hb dX2_gate_99 (by rw [hc]; decide) (by rw [hc]; decide) (by rw [hc]; rfl) (by decide) ?_
                exact w128 l1 l2 l3 l4 l6 v4 _ _ _ hvc hP hD hS (lv_sub hl [1, 2, 3, 4, 5, 6, 0] rfl)
              · have hvc := hvf hc
                have sw_3 := hc
                have swt_0 := lv_neT (a := 0) sw_0 (by decide)
                have swt_1 := lv_neT (a := 1) sw_1 (by decide)
                have swt_2 := lv_neT (a := 2) sw_2 (by decide)
                have swt_3 := lv_neT (a := 3) sw_3 (by decide)
                refine lv_tableOut (tgt := 148) hx hb dX2_gate_99 (by omega) (by decide) ?_
                exact w148 l1 l2 l3 l4 l6 v4 _ _ _ hvc hP hD hS (lv_sub hl [1, 2, 3, 4, 5, 6, 0] rfl)
  have hl : lv_has ls 9 [(0, .ref (h_c 0)), (1, .int p0)] := hl
  refine lv_aload_n hx hb dX2_gate_0 rfl (lv_at hl 0 rfl) ?_
  refine va_get (D := D) (ci := 2) (C := RX2) (T := TX2) (N := 10) hx hb hts inX2 hown hK hP 0 rfl rfl 4 (by decide) f9 (fun _ h9 => h9) rfl dX2_gate_1 ?_
  refine lv_iload_n hx hb dX2_gate_4 rfl (lv_at hl 1 rfl) ?_
  obtain ⟨hi, hvc⟩ := hvc
  refine va_iald hx hb hK hP 1 0 rfl rfl hi dX2_gate_5 ?_
  refine lv_topi (fun v6 ev6 => ?_)
  have hvc := hvc v6 ev6
  refine lv_istore_n (lv' := [(2, .int v6), (0, .ref (h_c 0)), (1, .int p0)]) hx hb dX2_gate_6 rfl hl (by decide) rfl (fun ls hl => ?_)
  refine lv_iload_n hx hb dX2_gate_7 rfl (lv_at hl 2 rfl) ?_
  refine lv_iconst (v := 4) hx hb dX2_gate_8 (by decide) ?_
  refine lv_imul hx hb dX2_gate_9 ?_
  refine lv_topi (fun v7 ev7 => ?_)
  have hvc := hvc v7 ev7
  refine lv_istore_n (lv' := [(3, .int v7), (2, .int v6), (0, .ref (h_c 0)), (1, .int p0)]) hx hb dX2_gate_10 rfl hl (by decide) rfl (fun ls hl => ?_)
  refine lv_aload_n hx hb dX2_gate_11 rfl (lv_at hl 2 rfl) ?_
  refine va_get (D := D) (ci := 2) (C := RX2) (T := TX2) (N := 10) hx hb hts inX2 hown hK hP 0 rfl rfl 9 (by decide) f27 (fun _ h9 => h9) rfl dX2_gate_12 ?_
  refine lv_aload_n hx hb dX2_gate_15 rfl (lv_at hl 2 rfl) ?_
  refine va_get (D := D) (ci := 2) (C := RX2) (T := TX2) (N := 10) hx hb hts inX2 hown hK hP 0 rfl rfl 6 (by decide) f18 (fun _ h9 => h9) rfl dX2_gate_16 ?_
  refine lv_iload_n hx hb dX2_gate_19 rfl (lv_at hl 0 rfl) ?_
  obtain ⟨hi, hvc⟩ := hvc
  refine va_iald hx hb hK hP 2 0 rfl rfl hi dX2_gate_20 ?_
  obtain ⟨hi, hvc⟩ := hvc
  refine va_lald hx hb hK hP 3 1 rfl rfl hi dX2_gate_21 ?_
  refine lv_topl (fun v8 ev8 => ?_)
  have hvc := hvc v8 ev8
  refine lv_lstore (lv' := [(4, .long v8), (3, .int v7), (2, .int v6), (0, .ref (h_c 0)), (1, .int p0)]) hx hb dX2_gate_22 hl (by decide) rfl (fun ls hl => ?_)
  refine lv_iload_n hx hb dX2_gate_24 rfl (lv_at hl 2 rfl) ?_
  refine lv_bipush (v := 7) hx hb dX2_gate_25 (by decide) ?_
  obtain ⟨hvt, hvf⟩ := hvc
  refine lv_icmp_ne (tgt := 68) hx hb dX2_gate_27 (by decide) (fun hc => ?_) (fun hc => ?_)
  · have hvc := hvt hc
    refine lv_iconst (v := 1) hx hb dX2_gate_68 (by decide) ?_
    refine lv_istore (lv' := [(6, .int (1 : Int32)), (4, .long v8), (3, .int v7), (2, .int v6), (0, .ref (h_c 0)), (1, .int p0)]) hx hb dX2_gate_69 hl (by decide) rfl (fun ls hl => ?_)
    obtain ⟨n_, hvc⟩ := hvc
    exact w71 n_ p0 v6 v7 v8 (1 : Int32) _ _ _ hvc hP hD hS (lv_sub hl [4, 5, 3, 2, 1, 0] rfl)
  · have hvc := hvf hc
    refine lv_lload hx hb dX2_gate_30 (lv_at hl 0 rfl) ?_
    refine lv_ldc2 hx hb hown k75 dX2_gate_32 ?_
    refine lv_lxor hx hb dX2_gate_35 ?_
    refine lv_aload_n hx hb dX2_gate_36 rfl (lv_at hl 3 rfl) ?_
    refine va_get (D := D) (ci := 2) (C := RX2) (T := TX2) (N := 10) hx hb hts inX2 hown hK hP 0 rfl rfl 9 (by decide) f27 (fun _ h9 => h9) rfl dX2_gate_37 ?_
    refine lv_aload_n hx hb dX2_gate_40 rfl (lv_at hl 3 rfl) ?_
    refine va_get (D := D) (ci := 2) (C := RX2) (T := TX2) (N := 10) hx hb hts inX2 hown hK hP 0 rfl rfl 6 (by decide) f18 (fun _ h9 => h9) rfl dX2_gate_41 ?_
    refine lv_iload_n hx hb dX2_gate_44 rfl (lv_at hl 1 rfl) ?_
    refine lv_iconst (v := 1) hx hb dX2_gate_45 (by decide) ?_
    refine lv_iadd hx hb dX2_gate_46 ?_
    obtain ⟨hi, hvc⟩ := hvc
    refine va_iald hx hb hK hP 2 0 rfl rfl hi dX2_gate_47 ?_
    obtain ⟨hi, hvc⟩ := hvc
    refine va_lald hx hb hK hP 3 1 rfl rfl hi dX2_gate_48 ?_
    refine lv_land hx hb dX2_gate_49 ?_
    refine lv_lload hx hb dX2_gate_50 (lv_at hl 0 rfl) ?_
    refine lv_aload_n hx hb dX2_gate_52 rfl (lv_at hl 3 rfl) ?_
    refine va_get (D := D) (ci := 2) (C := RX2) (T := TX2) (N := 10) hx hb hts inX2 hown hK hP 0 rfl rfl 9 (by decide) f27 (fun _ h9 => h9) rfl dX2_gate_53 ?_
    refine lv_aload_n hx hb dX2_gate_56 rfl (lv_at hl 3 rfl) ?_
    refine va_get (D := D) (ci := 2) (C := RX2) (T := TX2) (N := 10) hx hb hts inX2 hown hK hP 0 rfl rfl 6 (by decide) f18 (fun _ h9 => h9) rfl dX2_gate_57 ?_
    refine lv_iload_n hx hb dX2_gate_60 rfl (lv_at hl 1 rfl) ?_
    refine lv_iconst (v := 2) hx hb dX2_gate_61 (by decide) ?_
    refine lv_iadd hx hb dX2_gate_62 ?_
    obtain ⟨hi, hvc⟩ := hvc
    refine va_iald hx hb hK hP 2 0 rfl rfl hi dX2_gate_63 ?_
    obtain ⟨hi, hvc⟩ := hvc
    refine va_lald hx hb hK hP 3 1 rfl rfl hi dX2_gate_64 ?_
    refine lv_land hx hb dX2_gate_65 ?_
    refine lv_lor hx hb dX2_gate_66 ?_
    exact hret (((v8 ^^^ (-1 : Int64)) &&& (c_value (c_looked (v7 + (1 : Int32)).toNatClampNeg).toNatClampNeg)) ||| (v8 &&& (c_value (c_looked (v7 + (2 : Int32)).toNatClampNeg).toNatClampNeg))) () _ _ _ _ hvc hP hD hS dX2_gate_67
def v_X2_settle_b52 (c_inputs : Int32) (c_flops : Int32) (c_nets : Int32) (c_operation : Nat → Int32) (c_looked : Nat → Int32) (c_lookedCount : Nat → Int32) (Q : (Nat → Int64) → Prop) (k2 : (Nat → Int64) → Int32 → Int32 → Prop) : (Nat → Int64) → Int32 → Int32 → Prop := fun (c_value : Nat → Int64) (l2 : Int32) (l3 : Int32) => ∀ v1 : Int32, v1 = l3 + (1 : Int32) → k2 c_value l2 v1
def v_X2_settle_b29 (c_inputs : Int32) (c_flops : Int32) (c_nets : Int32) (c_operation : Nat → Int32) (c_looked : Nat → Int32) (c_lookedCount : Nat → Int32) (Q : (Nat → Int64) → Prop) (k2 : (Nat → Int64) → Int32 → Int32 → Prop) : (Nat → Int64) → Int32 → Int32 → Prop := fun (c_value : Nat → Int64) (l2 : Int32) (l3 : Int32) => (l2 = (-1 : Int32) → v_X2_settle_b52 c_inputs c_flops c_nets c_operation c_looked c_lookedCount Q k2 c_value l2 l3) ∧ (¬ l2 = (-1 : Int32) → (¬ l3 = (l2 >>> ((1 : Int32) &&& 31)) → v_X2_settle_b52 c_inputs c_flops c_nets c_operation c_looked c_lookedCount Q k2 c_value l2 l3) ∧ (l3 = (l2 >>> ((1 : Int32) &&& 31)) → vp_in l3 60 ∧ v_X2_settle_b52 c_inputs c_flops c_nets c_operation c_looked c_lookedCount Q k2 (vp_updL c_value l3.toNatClampNeg (-((l2 &&& (1 : Int32)).toInt64))) l2 l3))
def v_X2_settle_b2 (c_inputs : Int32) (c_flops : Int32) (c_nets : Int32) (c_operation : Nat → Int32) (c_looked : Nat → Int32) (c_lookedCount : Nat → Int32) (Q : (Nat → Int64) → Prop)  : Nat → (Nat → Int64) → Int32 → Int32 → Prop
  | 0 => fun _ _ _ => False
  | z2_ + 1 => fun (c_value : Nat → Int64) (l2 : Int32) (l3 : Int32) => (c_nets ≤ l3 → Q c_value) ∧ (¬ c_nets ≤ l3 → v_X2_sources  c_inputs c_flops (fun (r2 : Int32) => (l3 < r2 → v_X2_settle_b29 c_inputs c_flops c_nets c_operation c_looked c_lookedCount Q (v_X2_settle_b2 c_inputs c_flops c_nets c_operation c_looked c_lookedCount Q  z2_) c_value l2 l3) ∧ (¬ l3 < r2 → v_X2_gate  c_operation c_looked c_value c_lookedCount l3 (fun (r3 : Int64) => vp_in l3 60 ∧ v_X2_settle_b29 c_inputs c_flops c_nets c_operation c_looked c_lookedCount Q (v_X2_settle_b2 c_inputs c_flops c_nets c_operation c_looked c_lookedCount Q  z2_) (vp_updL c_value l3.toNatClampNeg r3) l2 l3))))
def v_X2_settle (c_inputs : Int32) (c_flops : Int32) (c_nets : Int32) (c_value : Nat → Int64) (c_operation : Nat → Int32) (c_looked : Nat → Int32) (c_lookedCount : Nat → Int32) (p0 : Int32) (p1 : Int32) (Q : (Nat → Int64) → Prop) : Prop := (∃ f2 : Nat, v_X2_settle_b2 c_inputs c_flops c_nets c_operation c_looked c_lookedCount Q  f2 c_value p1 p0)
theorem hd_X2_settle : yX2_settle.cls = RX2 ∧ yX2_settle.cls ≠ "java/lang/invoke/MethodHandle" ∧ yX2_settle.cls ≠ "java/lang/invoke/VarHandle" ∧ (parseMethodDescriptor yX2_settle.desc).map (fun d => d.parameters.length) = some 2 := by decide +kernel
abbrev rm_X2_settle : Room := { frames := 1, cells := 0, slots := 0, locals := 28 }
set_option maxHeartbeats 4000000 in
set_option maxRecDepth 100000 in
theorem c_X2_settle (l : Launch) (D : va_G) (ts : Nat → Nat) (cyI cyJ cyZ : ClassId) (h_c : Nat → Nat) (sz : Nat) (c_inputs : Int32) (c_flops : Int32) (c_nets : Int32) (c_outputs : Int32) (c_value : Nat → Int64) (c_operation : Nat → Int32) (c_looked : Nat → Int32) (c_lookedCount : Nat → Int32) (p0 : Int32) (p1 : Int32) (Q : (Nat → Int64) → Prop) (hvc : v_X2_settle c_inputs c_flops c_nets c_value c_operation c_looked c_lookedCount p0 p1 Q) : Met l yX2_settle wsX2_settle rm_X2_settle (va_Pc [.ref (h_c 0), .int p0, .int p1] (cPre D ts [(cyI, .int), (cyJ, .long), (cyZ, .boolean)] [(h_c 0, .inr (2, [.int c_inputs, .int c_flops, .int c_nets, .int c_outputs, .ref (h_c 5), .ref (h_c 6), .ref (h_c 7), .ref (h_c 8), .ref (h_c 9), .ref (h_c 10)])), (h_c 10, .inl (cyJ, 60, .inr (.inl c_value))), (h_c 5, .inl (cyI, 60, .inl c_operation)), (h_c 7, .inl (cyI, 240, .inl c_looked)), (h_c 6, .inl (cyI, 60, .inl c_lookedCount))] sz)) (va_Qv (fun (u : (Nat → Int64)) => Q u) (cPost D [(cyI, .int), (cyJ, .long), (cyZ, .boolean)] (fun (u : (Nat → Int64)) => [(h_c 0, .inr (2, [.int c_inputs, .int c_flops, .int c_nets, .int c_outputs, .ref (h_c 5), .ref (h_c 6), .ref (h_c 7), .ref (h_c 8), .ref (h_c 9), .ref (h_c 10)])), (h_c 10, .inl (cyJ, 60, .inr (.inl u))), (h_c 5, .inl (cyI, 60, .inl c_operation)), (h_c 7, .inl (cyI, 240, .inl c_looked)), (h_c 6, .inl (cyI, 60, .inl c_lookedCount))]) (va_A [(h_c 0, .inr (2, [.int c_inputs, .int c_flops, .int c_nets, .int c_outputs, .ref (h_c 5), .ref (h_c 6), .ref (h_c 7), .ref (h_c 8), .ref (h_c 9), .ref (h_c 10)])), (h_c 10, .inl (cyJ, 60, .inr (.inl c_value))), (h_c 5, .inl (cyI, 60, .inl c_operation)), (h_c 7, .inl (cyI, 240, .inl c_looked)), (h_c 6, .inl (cyI, 60, .inl c_lookedCount))] sz)) (va_A [(h_c 0, .inr (2, [.int c_inputs, .int c_flops, .int c_nets, .int c_outputs, .ref (h_c 5), .ref (h_c 6), .ref (h_c 7), .ref (h_c 8), .ref (h_c 9), .ref (h_c 10)])), (h_c 10, .inl (cyJ, 60, .inr (.inl c_value))), (h_c 5, .inl (cyI, 60, .inl c_operation)), (h_c 7, .inl (cyI, 240, .inl c_looked)), (h_c 6, .inl (cyI, 60, .inl c_lookedCount))] sz)) 0 0 (va_A [(h_c 0, .inr (2, [.int c_inputs, .int c_flops, .int c_nets, .int c_outputs, .ref (h_c 5), .ref (h_c 6), .ref (h_c 7), .ref (h_c 8), .ref (h_c 9), .ref (h_c 10)])), (h_c 10, .inl (cyJ, 60, .inr (.inl c_value))), (h_c 5, .inl (cyI, 60, .inl c_operation)), (h_c 7, .inl (cyI, 240, .inl c_looked)), (h_c 6, .inl (cyI, 60, .inl c_lookedCount))] sz) := by
  refine kEnter_v (cc := cX2_settle) (maxL := 4) (by decide) rfl (Nat.le_of_ble_eq_true rfl) ?_
  intro p e s m args below meth c A ls QQ hx hb hml hown hts hsz hA hP hD hK hE hS hl hret
  clear hsz
  have hown : s.vm.findClass RX2 = some m.cls := hown
  have inX2 : ∀ w ∈ wsX20, w ∈ wsX2_settle := fun _ h => List.mem_cons_of_mem _ (List.mem_append_right _ h)
  have f27 := hts (.fieldLink RX2 27 "ScanTester$Circuit" "value" "[J") (List.mem_of_getElem? (i := 2) rfl)
  have f38 := hts (.fieldLink RX2 38 "ScanTester$Circuit" "nets" "I") (List.mem_of_getElem? (i := 1) rfl)
  have w2 : ∀ (n2_ : Nat) (c_value : Nat → Int64) (l2 : Int32) (l3 : Int32) (H : Heap) (locs : List Loc) (ls : Array Slot), v_X2_settle_b2 c_inputs c_flops c_nets c_operation c_looked c_lookedCount Q  n2_ c_value l2 l3 → va_P D vwCl [(h_c 0, .inr (2, [.int c_inputs, .int c_flops, .int c_nets, .int c_outputs, .ref (h_c 5), .ref (h_c 6), .ref (h_c 7), .ref (h_c 8), .ref (h_c 9), .ref (h_c 10)])), (h_c 10, .inl (cyJ, 60, .inr (.inl c_value))), (h_c 5, .inl (cyI, 60, .inl c_operation)), (h_c 7, .inl (cyI, 240, .inl c_looked)), (h_c 6, .inl (cyI, 60, .inl c_lookedCount))] H → va_D A [(h_c 0, .inr (2, [.int c_inputs, .int c_flops, .int c_nets, .int c_outputs, .ref (h_c 5), .ref (h_c 6), .ref (h_c 7), .ref (h_c 8), .ref (h_c 9), .ref (h_c 10)])), (h_c 10, .inl (cyJ, 60, .inr (.inl c_value))), (h_c 5, .inl (cyI, 60, .inl c_operation)), (h_c 7, .inl (cyI, 240, .inl c_looked)), (h_c 6, .inl (cyI, 60, .inl c_lookedCount))] → va_S A s.heap H locs → lv_has ls 4 [(0, .ref (h_c 0)), (2, .int l2), (3, .int l3)] → W p l e rm_X2_settle s m args below meth c H locs 0 0 QQ (F0 m 2 ls []) := by
    intro n2_
    induction n2_ with
    | zero =>
      intro c_value l2 l3 H locs ls hvc hP hD hS hl
      exact False.elim hvc
    | succ n2_ ih2 =>
      have w29 : ∀ (c_value : Nat → Int64) (l2 : Int32) (l3 : Int32) (H : Heap) (locs : List Loc) (ls : Array Slot), v_X2_settle_b29 c_inputs c_flops c_nets c_operation c_looked c_lookedCount Q (v_X2_settle_b2 c_inputs c_flops c_nets c_operation c_looked c_lookedCount Q  n2_) c_value l2 l3 → va_P D vwCl [(h_c 0, .inr (2, [.int c_inputs, .int c_flops, .int c_nets, .int c_outputs, .ref (h_c 5), .ref (h_c 6), .ref (h_c 7), .ref (h_c 8), .ref (h_c 9), .ref (h_c 10)])), (h_c 10, .inl (cyJ, 60, .inr (.inl c_value))), (h_c 5, .inl (cyI, 60, .inl c_operation)), (h_c 7, .inl (cyI, 240, .inl c_looked)), (h_c 6, .inl (cyI, 60, .inl c_lookedCount))] H → va_D A [(h_c 0, .inr (2, [.int c_inputs, .int c_flops, .int c_nets, .int c_outputs, .ref (h_c 5), .ref (h_c 6), .ref (h_c 7), .ref (h_c 8), .ref (h_c 9), .ref (h_c 10)])), (h_c 10, .inl (cyJ, 60, .inr (.inl c_value))), (h_c 5, .inl (cyI, 60, .inl c_operation)), (h_c 7, .inl (cyI, 240, .inl c_looked)), (h_c 6, .inl (cyI, 60, .inl c_lookedCount))] → va_S A s.heap H locs → lv_has ls 4 [(0, .ref (h_c 0)), (2, .int l2), (3, .int l3)] → W p l e rm_X2_settle s m args below meth c H locs 0 0 QQ (F0 m 29 ls []) := by
        have w52 : ∀ (c_value : Nat → Int64) (l2 : Int32) (l3 : Int32) (H : Heap) (locs : List Loc) (ls : Array Slot), v_X2_settle_b52 c_inputs c_flops c_nets c_operation c_looked c_lookedCount Q (v_X2_settle_b2 c_inputs c_flops c_nets c_operation c_looked c_lookedCount Q  n2_) c_value l2 l3 → va_P D vwCl [(h_c 0, .inr (2, [.int c_inputs, .int c_flops, .int c_nets, .int c_outputs, .ref (h_c 5), .ref (h_c 6), .ref (h_c 7), .ref (h_c 8), .ref (h_c 9), .ref (h_c 10)])), (h_c 10, .inl (cyJ, 60, .inr (.inl c_value))), (h_c 5, .inl (cyI, 60, .inl c_operation)), (h_c 7, .inl (cyI, 240, .inl c_looked)), (h_c 6, .inl (cyI, 60, .inl c_lookedCount))] H → va_D A [(h_c 0, .inr (2, [.int c_inputs, .int c_flops, .int c_nets, .int c_outputs, .ref (h_c 5), .ref (h_c 6), .ref (h_c 7), .ref (h_c 8), .ref (h_c 9), .ref (h_c 10)])), (h_c 10, .inl (cyJ, 60, .inr (.inl c_value))), (h_c 5, .inl (cyI, 60, .inl c_operation)), (h_c 7, .inl (cyI, 240, .inl c_looked)), (h_c 6, .inl (cyI, 60, .inl c_lookedCount))] → va_S A s.heap H locs → lv_has ls 4 [(0, .ref (h_c 0)), (2, .int l2), (3, .int l3)] → W p l e rm_X2_settle s m args below meth c H locs 0 0 QQ (F0 m 52 ls []) := by
          intro c_value l2 l3 H locs ls hvc hP hD hS hl
          obtain ⟨v1, ev1⟩ : ∃ y : Int32, y = l3 + (1 : Int32) := ⟨_, rfl⟩
          have hvc := hvc v1 ev1
          refine lv_iinc (v := v1) (lv' := [(3, .int v1), (0, .ref (h_c 0)), (2, .int l2)]) hx hb dX2_settle_52 hl (k := 2) rfl (by rw [ev1]; rfl) (by decide) rfl (fun ls hl => ?_)
          refine lv_goto (tgt := 2) hx hb dX2_settle_55 (by decide) ?_
          exact ih2 c_value l2 v1 _ _ _ hvc hP hD hS (lv_sub hl [1, 2, 0] rfl)
        intro c_value l2 l3 H locs ls hvc hP hD hS hl
        refine lv_iload_n hx hb dX2_settle_29 rfl (lv_at hl 1 rfl) ?_
        refine lv_iconst (v := (-1)) hx hb dX2_settle_30 (by decide) ?_
        obtain ⟨hvt, hvf⟩ := hvc
        refine lv_icmp_eq (tgt := 52) hx hb dX2_settle_31 (by decide) (fun hc => ?_) (fun hc => ?_)
        · have hvc := hvt hc
          exact w52 c_value l2 l3 _ _ _ hvc hP hD hS (lv_sub hl [0, 1, 2] rfl)
        · have hvc := hvf hc
          refine lv_iload_n hx hb dX2_settle_34 rfl (lv_at hl 2 rfl) ?_
          refine lv_iload_n hx hb dX2_settle_35 rfl (lv_at hl 1 rfl) ?_
          refine lv_iconst (v := 1) hx hb dX2_settle_36 (by decide) ?_
          refine lv_ishr hx hb dX2_settle_37 ?_
          obtain ⟨hvt, hvf⟩ := hvc
          refine lv_icmp_ne (tgt := 52) hx hb dX2_settle_38 (by decide) (fun hc => ?_) (fun hc => ?_)
          · have hvc := hvt hc
            exact w52 c_value l2 l3 _ _ _ hvc hP hD hS (lv_sub hl [0, 1, 2] rfl)
          · have hvc := hvf hc
            refine lv_aload_n hx hb dX2_settle_41 rfl (lv_at hl 0 rfl) ?_
            refine va_get (D := D) (ci := 2) (C := RX2) (T := TX2) (N := 10) hx hb hts inX2 hown hK hP 0 rfl rfl 9 (by decide) f27 (fun _ h9 => h9) rfl dX2_settle_42 ?_
            refine lv_iload_n hx hb dX2_settle_45 rfl (lv_at hl 2 rfl) ?_
            refine lv_iload_n hx hb dX2_settle_46 rfl (lv_at hl 1 rfl) ?_
            refine lv_iconst (v := 1) hx hb dX2_settle_47 (by decide) ?_
            refine lv_iand hx hb dX2_settle_48 ?_
            refine lv_i2l hx hb dX2_settle_49 rfl ?_
            refine lv_lneg hx hb dX2_settle_50 ?_
            obtain ⟨hi, hvc⟩ := hvc
            refine va_last hx hb hK hP hD hS 1 1 rfl rfl hi dX2_settle_51 (fun H locs hP hD hS => ?_)
            have hP : va_P D vwCl [(h_c 0, .inr (2, [.int c_inputs, .int c_flops, .int c_nets, .int c_outputs, .ref (h_c 5), .ref (h_c 6), .ref (h_c 7), .ref (h_c 8), .ref (h_c 9), .ref (h_c 10)])), (h_c 10, .inl (cyJ, 60, .inr (.inl (vp_updL c_value l3.toNatClampNeg (-((l2 &&& (1 : Int32)).toInt64)))))), (h_c 5, .inl (cyI, 60, .inl c_operation)), (h_c 7, .inl (cyI, 240, .inl c_looked)), (h_c 6, .inl (cyI, 60, .inl c_lookedCount))] H := hP
            have hD : va_D A [(h_c 0, .inr (2, [.int c_inputs, .int c_flops, .int c_nets, .int c_outputs, .ref (h_c 5), .ref (h_c 6), .ref (h_c 7), .ref (h_c 8), .ref (h_c 9), .ref (h_c 10)])), (h_c 10, .inl (cyJ, 60, .inr (.inl (vp_updL c_value l3.toNatClampNeg (-((l2 &&& (1 : Int32)).toInt64)))))), (h_c 5, .inl (cyI, 60, .inl c_operation)), (h_c 7, .inl (cyI, 240, .inl c_looked)), (h_c 6, .inl (cyI, 60, .inl c_lookedCount))] := hD
            exact w52 (vp_updL c_value l3.toNatClampNeg (-((l2 &&& (1 : Int32)).toInt64))) l2 l3 _ _ _ hvc hP hD hS (lv_sub hl [0, 1, 2] rfl)
      intro c_value l2 l3 H locs ls hvc hP hD hS hl
      refine lv_iload_n hx hb dX2_settle_2 rfl (lv_at hl 2 rfl) ?_
      refine lv_aload_n hx hb dX2_settle_3 rfl (lv_at hl 0 rfl) ?_
      refine va_get (D := D) (ci := 2) (C := RX2) (T := TX2) (N := 10) hx hb hts inX2 hown hK hP 0 rfl rfl 2 (by decide) f38 (fun _ h9 => h9) rfl dX2_settle_4 ?_
      obtain ⟨hvt, hvf⟩ := hvc
      refine lv_icmp_ge (tgt := 58) hx hb dX2_settle_7 (by decide) (fun hc => ?_) (fun hc => ?_)
      · have hvc := hvt hc
        exact hret c_value _ _ _ _ hvc hP hD hS dX2_settle_58
      · have hvc := hvf hc
        refine lv_iload_n hx hb dX2_settle_10 rfl (lv_at hl 2 rfl) ?_
        refine lv_aload_n hx hb dX2_settle_11 rfl (lv_at hl 0 rfl) ?_
        refine kV_i (wc := [(h_c 0, .inr (2, [.int c_inputs, .int c_flops, .int c_nets, .int c_outputs, .ref (h_c 5), .ref (h_c 6), .ref (h_c 7), .ref (h_c 8), .ref (h_c 9), .ref (h_c 10)]))]) (wr := [(h_c 10, .inl (cyJ, 60, .inr (.inl c_value))), (h_c 5, .inl (cyI, 60, .inl c_operation)), (h_c 7, .inl (cyI, 240, .inl c_looked)), (h_c 6, .inl (cyI, 60, .inl c_lookedCount))]) (As := []) (rest := [.int l3]) ⟨hx, hb, hml, hown, hts⟩ hP hD hK hE hS hA [0] [1, 2, 3, 4] rfl rfl (by decide) (by decide) (by decide) (c_X2_sources l D ts cyI cyJ cyZ h_c _ c_inputs c_flops c_nets c_outputs _ hvc) (cwV 0 hts gX2_settle_X2_sources rfl rfl rfl hd_X2_sources ⟨Nat.le_of_ble_eq_true rfl, Nat.le_of_ble_eq_true rfl⟩) (ci := 2) rfl rfl rfl hl.1 rfl (Nat.zero_le _) (Nat.zero_le _) rfl (Nat.le_of_ble_eq_true rfl) dX2_settle_12 (fun r2 _u H locs hvc hP hD hS => ?_)
        try dsimp only at hvc
        have hP : va_P D vwCl [(h_c 0, .inr (2, [.int c_inputs, .int c_flops, .int c_nets, .int c_outputs, .ref (h_c 5), .ref (h_c 6), .ref (h_c 7), .ref (h_c 8), .ref (h_c 9), .ref (h_c 10)])), (h_c 10, .inl (cyJ, 60, .inr (.inl c_value))), (h_c 5, .inl (cyI, 60, .inl c_operation)), (h_c 7, .inl (cyI, 240, .inl c_looked)), (h_c 6, .inl (cyI, 60, .inl c_lookedCount))] H := sub_P hP (isC := [4, 0, 1, 2, 3]) rfl
        have hD : va_D A [(h_c 0, .inr (2, [.int c_inputs, .int c_flops, .int c_nets, .int c_outputs, .ref (h_c 5), .ref (h_c 6), .ref (h_c 7), .ref (h_c 8), .ref (h_c 9), .ref (h_c 10)])), (h_c 10, .inl (cyJ, 60, .inr (.inl c_value))), (h_c 5, .inl (cyI, 60, .inl c_operation)), (h_c 7, .inl (cyI, 240, .inl c_looked)), (h_c 6, .inl (cyI, 60, .inl c_lookedCount))] := hD.sub [4, 0, 1, 2, 3] (by decide) rfl
        obtain ⟨hvt, hvf⟩ := hvc
        refine lv_icmp_lt (tgt := 29) hx hb dX2_settle_15 (by decide) (fun hc => ?_) (fun hc => ?_)
        · have hvc := hvt hc
          exact w29 c_value l2 l3 _ _ _ hvc hP hD hS (lv_sub hl [0, 1, 2] rfl)
        · have hvc := hvf hc
          refine lv_aload_n hx hb dX2_settle_18 rfl (lv_at hl 0 rfl) ?_
          refine va_get (D := D) (ci := 2) (C := RX2) (T := TX2) (N := 10) hx hb hts inX2 hown hK hP 0 rfl rfl 9 (by decide) f27 (fun _ h9 => h9) rfl dX2_settle_19 ?_
          refine lv_iload_n hx hb dX2_settle_22 rfl (lv_at hl 2 rfl) ?_
          refine lv_aload_n hx hb dX2_settle_23 rfl (lv_at hl 0 rfl) ?_
          refine lv_iload_n hx hb dX2_settle_24 rfl (lv_at hl 2 rfl) ?_
          refine kV_l (wc := [(h_c 0, .inr (2, [.int c_inputs, .int c_flops, .int c_nets, .int c_outputs, .ref (h_c 5), .ref (h_c 6), .ref (h_c 7), .ref (h_c 8), .ref (h_c 9), .ref (h_c 10)])), (h_c 5, .inl (cyI, 60, .inl c_operation)), (h_c 7, .inl (cyI, 240, .inl c_looked)), (h_c 10, .inl (cyJ, 60, .inr (.inl c_value))), (h_c 6, .inl (cyI, 60, .inl c_lookedCount))]) (wr := []) (As := [.int l3]) (rest := [.int l3, .ref (h_c 10)]) ⟨hx, hb, hml, hown, hts⟩ hP hD hK hE hS hA [0, 2, 3, 1, 4] [] rfl rfl (by decide) (by decide) (by decide) (c_X2_gate l D ts cyI cyJ cyZ h_c _ c_inputs c_flops c_nets c_outputs c_operation c_looked c_value c_lookedCount l3 _ hvc) (cwV 1 hts gX2_settle_X2_gate rfl rfl rfl hd_X2_gate ⟨Nat.le_of_ble_eq_true rfl, Nat.le_of_ble_eq_true rfl⟩) (ci := 2) rfl rfl rfl hl.1 rfl (Nat.zero_le _) (Nat.zero_le _) rfl (Nat.le_of_ble_eq_true rfl) dX2_settle_25 (fun r3 _u H locs hvc hP hD hS => ?_)
          try dsimp only at hvc
          have hP : va_P D vwCl [(h_c 0, .inr (2, [.int c_inputs, .int c_flops, .int c_nets, .int c_outputs, .ref (h_c 5), .ref (h_c 6), .ref (h_c 7), .ref (h_c 8), .ref (h_c 9), .ref (h_c 10)])), (h_c 10, .inl (cyJ, 60, .inr (.inl c_value))), (h_c 5, .inl (cyI, 60, .inl c_operation)), (h_c 7, .inl (cyI, 240, .inl c_looked)), (h_c 6, .inl (cyI, 60, .inl c_lookedCount))] H := sub_P hP (isC := [0, 3, 1, 2, 4]) rfl
          have hD : va_D A [(h_c 0, .inr (2, [.int c_inputs, .int c_flops, .int c_nets, .int c_outputs, .ref (h_c 5), .ref (h_c 6), .ref (h_c 7), .ref (h_c 8), .ref (h_c 9), .ref (h_c 10)])), (h_c 10, .inl (cyJ, 60, .inr (.inl c_value))), (h_c 5, .inl (cyI, 60, .inl c_operation)), (h_c 7, .inl (cyI, 240, .inl c_looked)), (h_c 6, .inl (cyI, 60, .inl c_lookedCount))] := hD.sub [0, 3, 1, 2, 4] (by decide) rfl
          obtain ⟨hi, hvc⟩ := hvc
          refine va_last hx hb hK hP hD hS 1 1 rfl rfl hi dX2_settle_28 (fun H locs hP hD hS => ?_)
          have hP : va_P D vwCl [(h_c 0, .inr (2, [.int c_inputs, .int c_flops, .int c_nets, .int c_outputs, .ref (h_c 5), .ref (h_c 6), .ref (h_c 7), .ref (h_c 8), .ref (h_c 9), .ref (h_c 10)])), (h_c 10, .inl (cyJ, 60, .inr (.inl (vp_updL c_value l3.toNatClampNeg r3)))), (h_c 5, .inl (cyI, 60, .inl c_operation)), (h_c 7, .inl (cyI, 240, .inl c_looked)), (h_c 6, .inl (cyI, 60, .inl c_lookedCount))] H := hP
          have hD : va_D A [(h_c 0, .inr (2, [.int c_inputs, .int c_flops, .int c_nets, .int c_outputs, .ref (h_c 5), .ref (h_c 6), .ref (h_c 7), .ref (h_c 8), .ref (h_c 9), .ref (h_c 10)])), (h_c 10, .inl (cyJ, 60, .inr (.inl (vp_updL c_value l3.toNatClampNeg r3)))), (h_c 5, .inl (cyI, 60, .inl c_operation)), (h_c 7, .inl (cyI, 240, .inl c_looked)), (h_c 6, .inl (cyI, 60, .inl c_lookedCount))] := hD
          exact w29 (vp_updL c_value l3.toNatClampNeg r3) l2 l3 _ _ _ hvc hP hD hS (lv_sub hl [0, 1, 2] rfl)
  have hl : lv_has ls 4 [(0, .ref (h_c 0)), (1, .int p0), (2, .int p1)] := hl
  refine lv_iload_n hx hb dX2_settle_0 rfl (lv_at hl 1 rfl) ?_
  refine lv_istore_n (lv' := [(3, .int p0), (0, .ref (h_c 0)), (1, .int p0), (2, .int p1)]) hx hb dX2_settle_1 rfl hl (by decide) rfl (fun ls hl => ?_)
  obtain ⟨n_, hvc⟩ := hvc
  exact w2 n_ c_value p1 p0 _ _ _ hvc hP hD hS (lv_sub hl [1, 3, 0] rfl)
def v_X2_nextBit (c_inputs : Int32) (c_next : Nat → Int32) (c_value : Nat → Int64) (p0 : Int32) (p1 : Int32) (Q : Int32 → Prop) : Prop := vp_in p0 10 ∧ (¬ (c_next p0.toNatClampNeg) = (-1 : Int32) → vp_in p0 10 ∧ vp_in (c_next p0.toNatClampNeg) 60 ∧ Q (((c_value (c_next p0.toNatClampNeg).toNatClampNeg) &&& (1 : Int64)).toInt32) ) ∧ ((c_next p0.toNatClampNeg) = (-1 : Int32) → Q ((p1 >>> ((c_inputs + p0) &&& 31)) &&& (1 : Int32)) )
theorem hd_X2_nextBit : yX2_nextBit.cls = RX2 ∧ yX2_nextBit.cls ≠ "java/lang/invoke/MethodHandle" ∧ yX2_nextBit.cls ≠ "java/lang/invoke/VarHandle" ∧ (parseMethodDescriptor yX2_nextBit.desc).map (fun d => d.parameters.length) = some 2 := by decide +kernel
abbrev rm_X2_nextBit : Room := { frames := 0, cells := 0, slots := 0, locals := 0 }
set_option maxHeartbeats 4000000 in
set_option maxRecDepth 100000 in
theorem c_X2_nextBit (l : Launch) (D : va_G) (ts : Nat → Nat) (cyI cyJ cyZ : ClassId) (h_c : Nat → Nat) (sz : Nat) (c_inputs : Int32) (c_flops : Int32) (c_nets : Int32) (c_outputs : Int32) (c_next : Nat → Int32) (c_value : Nat → Int64) (p0 : Int32) (p1 : Int32) (Q : Int32 → Prop) (hvc : v_X2_nextBit c_inputs c_next c_value p0 p1 Q) : Met l yX2_nextBit wsX2_nextBit rm_X2_nextBit (va_Pc [.ref (h_c 0), .int p0, .int p1] (cPre D ts [(cyI, .int), (cyJ, .long), (cyZ, .boolean)] [(h_c 0, .inr (2, [.int c_inputs, .int c_flops, .int c_nets, .int c_outputs, .ref (h_c 5), .ref (h_c 6), .ref (h_c 7), .ref (h_c 8), .ref (h_c 9), .ref (h_c 10)])), (h_c 9, .inl (cyI, 10, .inl c_next)), (h_c 10, .inl (cyJ, 60, .inr (.inl c_value)))] sz)) (va_Qi (fun (r : Int32) (u : Unit) => Q r ) (cPost D [(cyI, .int), (cyJ, .long), (cyZ, .boolean)] (fun (u : Unit) => [(h_c 0, .inr (2, [.int c_inputs, .int c_flops, .int c_nets, .int c_outputs, .ref (h_c 5), .ref (h_c 6), .ref (h_c 7), .ref (h_c 8), .ref (h_c 9), .ref (h_c 10)])), (h_c 9, .inl (cyI, 10, .inl c_next)), (h_c 10, .inl (cyJ, 60, .inr (.inl c_value)))]) (va_A [(h_c 0, .inr (2, [.int c_inputs, .int c_flops, .int c_nets, .int c_outputs, .ref (h_c 5), .ref (h_c 6), .ref (h_c 7), .ref (h_c 8), .ref (h_c 9), .ref (h_c 10)])), (h_c 9, .inl (cyI, 10, .inl c_next)), (h_c 10, .inl (cyJ, 60, .inr (.inl c_value)))] sz)) (va_A [(h_c 0, .inr (2, [.int c_inputs, .int c_flops, .int c_nets, .int c_outputs, .ref (h_c 5), .ref (h_c 6), .ref (h_c 7), .ref (h_c 8), .ref (h_c 9), .ref (h_c 10)])), (h_c 9, .inl (cyI, 10, .inl c_next)), (h_c 10, .inl (cyJ, 60, .inr (.inl c_value)))] sz)) 0 0 (va_A [(h_c 0, .inr (2, [.int c_inputs, .int c_flops, .int c_nets, .int c_outputs, .ref (h_c 5), .ref (h_c 6), .ref (h_c 7), .ref (h_c 8), .ref (h_c 9), .ref (h_c 10)])), (h_c 9, .inl (cyI, 10, .inl c_next)), (h_c 10, .inl (cyJ, 60, .inr (.inl c_value)))] sz) := by
  refine kEnter_i (cc := cX2_nextBit) (maxL := 3) (by decide) rfl (Nat.le_of_ble_eq_true rfl) ?_
  intro p e s m args below meth c A ls QQ hx hb hml hown hts hsz hA hP hD hK hE hS hl hret
  clear hsz
  have hown : s.vm.findClass RX2 = some m.cls := hown
  have inX2 : ∀ w ∈ wsX20, w ∈ wsX2_nextBit := fun _ h => List.mem_cons_of_mem _ (List.mem_append_right _ h)
  have f24 := hts (.fieldLink RX2 24 "ScanTester$Circuit" "next" "[I") (List.mem_of_getElem? (i := 1) rfl)
  have f27 := hts (.fieldLink RX2 27 "ScanTester$Circuit" "value" "[J") (List.mem_of_getElem? (i := 3) rfl)
  have f31 := hts (.fieldLink RX2 31 "ScanTester$Circuit" "inputs" "I") (List.mem_of_getElem? (i := 2) rfl)
  have hl : lv_has ls 3 [(0, .ref (h_c 0)), (1, .int p0), (2, .int p1)] := hl
  refine lv_aload_n hx hb dX2_nextBit_0 rfl (lv_at hl 0 rfl) ?_
  refine va_get (D := D) (ci := 2) (C := RX2) (T := TX2) (N := 10) hx hb hts inX2 hown hK hP 0 rfl rfl 8 (by decide) f24 (fun _ h9 => h9) rfl dX2_nextBit_1 ?_
  refine lv_iload_n hx hb dX2_nextBit_4 rfl (lv_at hl 1 rfl) ?_
  obtain ⟨hi, hvc⟩ := hvc
  refine va_iald hx hb hK hP 1 0 rfl rfl hi dX2_nextBit_5 ?_
  refine lv_iconst (v := (-1)) hx hb dX2_nextBit_6 (by decide) ?_
  obtain ⟨hvt, hvf⟩ := hvc
  refine lv_icmp_ne (tgt := 21) hx hb dX2_nextBit_7 (by decide) (fun hc => ?_) (fun hc => ?_)
  · have hvc := hvt hc
    refine lv_aload_n hx hb dX2_nextBit_21 rfl (lv_at hl 0 rfl) ?_
    refine va_get (D := D) (ci := 2) (C := RX2) (T := TX2) (N := 10) hx hb hts inX2 hown hK hP 0 rfl rfl 9 (by decide) f27 (fun _ h9 => h9) rfl dX2_nextBit_22 ?_
    refine lv_aload_n hx hb dX2_nextBit_25 rfl (lv_at hl 0 rfl) ?_
    refine va_get (D := D) (ci := 2) (C := RX2) (T := TX2) (N := 10) hx hb hts inX2 hown hK hP 0 rfl rfl 8 (by decide) f24 (fun _ h9 => h9) rfl dX2_nextBit_26 ?_
    refine lv_iload_n hx hb dX2_nextBit_29 rfl (lv_at hl 1 rfl) ?_
    obtain ⟨hi, hvc⟩ := hvc
    refine va_iald hx hb hK hP 1 0 rfl rfl hi dX2_nextBit_30 ?_
    obtain ⟨hi, hvc⟩ := hvc
    refine va_lald hx hb hK hP 2 1 rfl rfl hi dX2_nextBit_31 ?_
    refine lv_lconst (v := 1) hx hb dX2_nextBit_32 (by decide) ?_
    refine lv_land hx hb dX2_nextBit_33 ?_
    refine lv_l2i hx hb dX2_nextBit_34 rfl ?_
    exact hret (((c_value (c_next p0.toNatClampNeg).toNatClampNeg) &&& (1 : Int64)).toInt32) () _ _ _ _ hvc hP hD hS dX2_nextBit_35
  · have hvc := hvf hc
    refine lv_iload_n hx hb dX2_nextBit_10 rfl (lv_at hl 2 rfl) ?_
    refine lv_aload_n hx hb dX2_nextBit_11 rfl (lv_at hl 0 rfl) ?_
    refine va_get (D := D) (ci := 2) (C := RX2) (T := TX2) (N := 10) hx hb hts inX2 hown hK hP 0 rfl rfl 0 (by decide) f31 (fun _ h9 => h9) rfl dX2_nextBit_12 ?_
    refine lv_iload_n hx hb dX2_nextBit_15 rfl (lv_at hl 1 rfl) ?_
    refine lv_iadd hx hb dX2_nextBit_16 ?_
    refine lv_ishr hx hb dX2_nextBit_17 ?_
    refine lv_iconst (v := 1) hx hb dX2_nextBit_18 (by decide) ?_
    refine lv_iand hx hb dX2_nextBit_19 ?_
    exact hret ((p1 >>> ((c_inputs + p0) &&& 31)) &&& (1 : Int32)) () _ _ _ _ hvc hP hD hS dX2_nextBit_20
def v_X2_respond_b79 (c_inputs : Int32) (c_flops : Int32) (c_nets : Int32) (c_outputs : Int32) (c_operation : Nat → Int32) (c_looked : Nat → Int32) (c_lookedCount : Nat → Int32) (c_next : Nat → Int32) (c_output : Nat → Int32) (Q : Int32 → (Nat → Int64) → Prop)  : Nat → (Nat → Int64) → Int32 → Int32 → Int32 → Prop
  | 0 => fun _ _ _ _ => False
  | z79_ + 1 => fun (c_value : Nat → Int64) (l1 : Int32) (l3 : Int32) (l4 : Int32) => (c_flops ≤ l4 → Q l3 c_value) ∧ (¬ c_flops ≤ l4 → v_X2_nextBit  c_inputs c_next c_value l4 l1 (fun (r1 : Int32) => ∀ v2 : Int32, v2 = l3 ||| (r1 <<< ((c_outputs + l4) &&& 31)) → ∀ v3 : Int32, v3 = l4 + (1 : Int32) → (v_X2_respond_b79 c_inputs c_flops c_nets c_outputs c_operation c_looked c_lookedCount c_next c_output Q  z79_) c_value l1 v2 v3))
def v_X2_respond_b40 (c_inputs : Int32) (c_flops : Int32) (c_nets : Int32) (c_outputs : Int32) (c_operation : Nat → Int32) (c_looked : Nat → Int32) (c_lookedCount : Nat → Int32) (c_next : Nat → Int32) (c_output : Nat → Int32) (Q : Int32 → (Nat → Int64) → Prop)  : Nat → (Nat → Int64) → Int32 → Int32 → Int32 → Prop
  | 0 => fun _ _ _ _ => False
  | z40_ + 1 => fun (c_value : Nat → Int64) (l1 : Int32) (l3 : Int32) (l4 : Int32) => (c_outputs ≤ l4 → (∃ f79 : Nat, v_X2_respond_b79 c_inputs c_flops c_nets c_outputs c_operation c_looked c_lookedCount c_next c_output Q  f79 c_value l1 l3 (0 : Int32))) ∧ (¬ c_outputs ≤ l4 → vp_in l4 8 ∧ vp_in (c_output l4.toNatClampNeg) 60 ∧ ∀ v4 : Int32, v4 = l3 ||| ((((c_value (c_output l4.toNatClampNeg).toNatClampNeg) &&& (1 : Int64)).toInt32) <<< (l4 &&& 31)) → ∀ v5 : Int32, v5 = l4 + (1 : Int32) → (v_X2_respond_b40 c_inputs c_flops c_nets c_outputs c_operation c_looked c_lookedCount c_next c_output Q  z40_) c_value l1 v4 v5)
def v_X2_respond_b2 (c_inputs : Int32) (c_flops : Int32) (c_nets : Int32) (c_outputs : Int32) (c_operation : Nat → Int32) (c_looked : Nat → Int32) (c_lookedCount : Nat → Int32) (c_next : Nat → Int32) (c_output : Nat → Int32) (Q : Int32 → (Nat → Int64) → Prop)  : Nat → (Nat → Int64) → Int32 → Int32 → Int32 → Prop
  | 0 => fun _ _ _ _ => False
  | z2_ + 1 => fun (c_value : Nat → Int64) (l1 : Int32) (l2 : Int32) (l3 : Int32) => v_X2_sources  c_inputs c_flops (fun (r6 : Int32) => (r6 ≤ l3 → v_X2_settle  c_inputs c_flops c_nets c_value c_operation c_looked c_lookedCount (0 : Int32) l2 (fun (n7 : Nat → Int64) => (∃ f40 : Nat, v_X2_respond_b40 c_inputs c_flops c_nets c_outputs c_operation c_looked c_lookedCount c_next c_output Q  f40 n7 l1 (0 : Int32) (0 : Int32)))) ∧ (¬ r6 ≤ l3 → vp_in l3 60 ∧ ∀ v8 : Int32, v8 = l3 + (1 : Int32) → (v_X2_respond_b2 c_inputs c_flops c_nets c_outputs c_operation c_looked c_lookedCount c_next c_output Q  z2_) (vp_updL c_value l3.toNatClampNeg (-(((l1 >>> (l3 &&& 31)) &&& (1 : Int32)).toInt64))) l1 l2 v8))
def v_X2_respond (c_inputs : Int32) (c_flops : Int32) (c_nets : Int32) (c_outputs : Int32) (c_value : Nat → Int64) (c_operation : Nat → Int32) (c_looked : Nat → Int32) (c_lookedCount : Nat → Int32) (c_next : Nat → Int32) (c_output : Nat → Int32) (p0 : Int32) (p1 : Int32) (Q : Int32 → (Nat → Int64) → Prop) : Prop := (∃ f2 : Nat, v_X2_respond_b2 c_inputs c_flops c_nets c_outputs c_operation c_looked c_lookedCount c_next c_output Q  f2 c_value p0 p1 (0 : Int32))
theorem hd_X2_respond : yX2_respond.cls = RX2 ∧ yX2_respond.cls ≠ "java/lang/invoke/MethodHandle" ∧ yX2_respond.cls ≠ "java/lang/invoke/VarHandle" ∧ (parseMethodDescriptor yX2_respond.desc).map (fun d => d.parameters.length) = some 2 := by decide +kernel
abbrev rm_X2_respond : Room := { frames := 2, cells := 0, slots := 0, locals := 51 }
set_option maxHeartbeats 4000000 in
set_option maxRecDepth 100000 in
theorem c_X2_respond (l : Launch) (D : va_G) (ts : Nat → Nat) (cyI cyJ cyZ : ClassId) (h_c : Nat → Nat) (sz : Nat) (c_inputs : Int32) (c_flops : Int32) (c_nets : Int32) (c_outputs : Int32) (c_value : Nat → Int64) (c_operation : Nat → Int32) (c_looked : Nat → Int32) (c_lookedCount : Nat → Int32) (c_next : Nat → Int32) (c_output : Nat → Int32) (p0 : Int32) (p1 : Int32) (Q : Int32 → (Nat → Int64) → Prop) (hvc : v_X2_respond c_inputs c_flops c_nets c_outputs c_value c_operation c_looked c_lookedCount c_next c_output p0 p1 Q) : Met l yX2_respond wsX2_respond rm_X2_respond (va_Pc [.ref (h_c 0), .int p0, .int p1] (cPre D ts [(cyI, .int), (cyJ, .long), (cyZ, .boolean)] [(h_c 0, .inr (2, [.int c_inputs, .int c_flops, .int c_nets, .int c_outputs, .ref (h_c 5), .ref (h_c 6), .ref (h_c 7), .ref (h_c 8), .ref (h_c 9), .ref (h_c 10)])), (h_c 10, .inl (cyJ, 60, .inr (.inl c_value))), (h_c 5, .inl (cyI, 60, .inl c_operation)), (h_c 7, .inl (cyI, 240, .inl c_looked)), (h_c 6, .inl (cyI, 60, .inl c_lookedCount)), (h_c 9, .inl (cyI, 10, .inl c_next)), (h_c 8, .inl (cyI, 8, .inl c_output))] sz)) (va_Qi (fun (r : Int32) (u : (Nat → Int64)) => Q r u) (cPost D [(cyI, .int), (cyJ, .long), (cyZ, .boolean)] (fun (u : (Nat → Int64)) => [(h_c 0, .inr (2, [.int c_inputs, .int c_flops, .int c_nets, .int c_outputs, .ref (h_c 5), .ref (h_c 6), .ref (h_c 7), .ref (h_c 8), .ref (h_c 9), .ref (h_c 10)])), (h_c 10, .inl (cyJ, 60, .inr (.inl u))), (h_c 5, .inl (cyI, 60, .inl c_operation)), (h_c 7, .inl (cyI, 240, .inl c_looked)), (h_c 6, .inl (cyI, 60, .inl c_lookedCount)), (h_c 9, .inl (cyI, 10, .inl c_next)), (h_c 8, .inl (cyI, 8, .inl c_output))]) (va_A [(h_c 0, .inr (2, [.int c_inputs, .int c_flops, .int c_nets, .int c_outputs, .ref (h_c 5), .ref (h_c 6), .ref (h_c 7), .ref (h_c 8), .ref (h_c 9), .ref (h_c 10)])), (h_c 10, .inl (cyJ, 60, .inr (.inl c_value))), (h_c 5, .inl (cyI, 60, .inl c_operation)), (h_c 7, .inl (cyI, 240, .inl c_looked)), (h_c 6, .inl (cyI, 60, .inl c_lookedCount)), (h_c 9, .inl (cyI, 10, .inl c_next)), (h_c 8, .inl (cyI, 8, .inl c_output))] sz)) (va_A [(h_c 0, .inr (2, [.int c_inputs, .int c_flops, .int c_nets, .int c_outputs, .ref (h_c 5), .ref (h_c 6), .ref (h_c 7), .ref (h_c 8), .ref (h_c 9), .ref (h_c 10)])), (h_c 10, .inl (cyJ, 60, .inr (.inl c_value))), (h_c 5, .inl (cyI, 60, .inl c_operation)), (h_c 7, .inl (cyI, 240, .inl c_looked)), (h_c 6, .inl (cyI, 60, .inl c_lookedCount)), (h_c 9, .inl (cyI, 10, .inl c_next)), (h_c 8, .inl (cyI, 8, .inl c_output))] sz)) 0 0 (va_A [(h_c 0, .inr (2, [.int c_inputs, .int c_flops, .int c_nets, .int c_outputs, .ref (h_c 5), .ref (h_c 6), .ref (h_c 7), .ref (h_c 8), .ref (h_c 9), .ref (h_c 10)])), (h_c 10, .inl (cyJ, 60, .inr (.inl c_value))), (h_c 5, .inl (cyI, 60, .inl c_operation)), (h_c 7, .inl (cyI, 240, .inl c_looked)), (h_c 6, .inl (cyI, 60, .inl c_lookedCount)), (h_c 9, .inl (cyI, 10, .inl c_next)), (h_c 8, .inl (cyI, 8, .inl c_output))] sz) := by
  refine kEnter_i (cc := cX2_respond) (maxL := 5) (by decide) rfl (Nat.le_of_ble_eq_true rfl) ?_
  intro p e s m args below meth c A ls QQ hx hb hml hown hts hsz hA hP hD hK hE hS hl hret
  clear hsz
  have hown : s.vm.findClass RX2 = some m.cls := hown
  have inX2 : ∀ w ∈ wsX20, w ∈ wsX2_respond := fun _ h => List.mem_cons_of_mem _ (List.mem_append_right _ h)
  have f35 := hts (.fieldLink RX2 35 "ScanTester$Circuit" "flops" "I") (List.mem_of_getElem? (i := 4) rfl)
  have f41 := hts (.fieldLink RX2 41 "ScanTester$Circuit" "outputs" "I") (List.mem_of_getElem? (i := 2) rfl)
  have f27 := hts (.fieldLink RX2 27 "ScanTester$Circuit" "value" "[J") (List.mem_of_getElem? (i := 1) rfl)
  have f21 := hts (.fieldLink RX2 21 "ScanTester$Circuit" "output" "[I") (List.mem_of_getElem? (i := 3) rfl)
  have w2 : ∀ (n2_ : Nat) (c_value : Nat → Int64) (l1 : Int32) (l2 : Int32) (l3 : Int32) (H : Heap) (locs : List Loc) (ls : Array Slot), v_X2_respond_b2 c_inputs c_flops c_nets c_outputs c_operation c_looked c_lookedCount c_next c_output Q  n2_ c_value l1 l2 l3 → va_P D vwCl [(h_c 0, .inr (2, [.int c_inputs, .int c_flops, .int c_nets, .int c_outputs, .ref (h_c 5), .ref (h_c 6), .ref (h_c 7), .ref (h_c 8), .ref (h_c 9), .ref (h_c 10)])), (h_c 10, .inl (cyJ, 60, .inr (.inl c_value))), (h_c 5, .inl (cyI, 60, .inl c_operation)), (h_c 7, .inl (cyI, 240, .inl c_looked)), (h_c 6, .inl (cyI, 60, .inl c_lookedCount)), (h_c 9, .inl (cyI, 10, .inl c_next)), (h_c 8, .inl (cyI, 8, .inl c_output))] H → va_D A [(h_c 0, .inr (2, [.int c_inputs, .int c_flops, .int c_nets, .int c_outputs, .ref (h_c 5), .ref (h_c 6), .ref (h_c 7), .ref (h_c 8), .ref (h_c 9), .ref (h_c 10)])), (h_c 10, .inl (cyJ, 60, .inr (.inl c_value))), (h_c 5, .inl (cyI, 60, .inl c_operation)), (h_c 7, .inl (cyI, 240, .inl c_looked)), (h_c 6, .inl (cyI, 60, .inl c_lookedCount)), (h_c 9, .inl (cyI, 10, .inl c_next)), (h_c 8, .inl (cyI, 8, .inl c_output))] → va_S A s.heap H locs → lv_has ls 5 [(0, .ref (h_c 0)), (1, .int l1), (2, .int l2), (3, .int l3)] → W p l e rm_X2_respond s m args below meth c H locs 0 0 QQ (F0 m 2 ls []) := by
    intro n2_
    induction n2_ with
    | zero =>
      intro c_value l1 l2 l3 H locs ls hvc hP hD hS hl
      exact False.elim hvc
    | succ n2_ ih2 =>
      have w40 : ∀ (n40_ : Nat) (c_value : Nat → Int64) (l1 : Int32) (l3 : Int32) (l4 : Int32) (H : Heap) (locs : List Loc) (ls : Array Slot), v_X2_respond_b40 c_inputs c_flops c_nets c_outputs c_operation c_looked c_lookedCount c_next c_output Q  n40_ c_value l1 l3 l4 → va_P D vwCl [(h_c 0, .inr (2, [.int c_inputs, .int c_flops, .int c_nets, .int c_outputs, .ref (h_c 5), .ref (h_c 6), .ref (h_c 7), .ref (h_c 8), .ref (h_c 9), .ref (h_c 10)])), (h_c 10, .inl (cyJ, 60, .inr (.inl c_value))), (h_c 5, .inl (cyI, 60, .inl c_operation)), (h_c 7, .inl (cyI, 240, .inl c_looked)), (h_c 6, .inl (cyI, 60, .inl c_lookedCount)), (h_c 9, .inl (cyI, 10, .inl c_next)), (h_c 8, .inl (cyI, 8, .inl c_output))] H → va_D A [(h_c 0, .inr (2, [.int c_inputs, .int c_flops, .int c_nets, .int c_outputs, .ref (h_c 5), .ref (h_c 6), .ref (h_c 7), .ref (h_c 8), .ref (h_c 9), .ref (h_c 10)])), (h_c 10, .inl (cyJ, 60, .inr (.inl c_value))), (h_c 5, .inl (cyI, 60, .inl c_operation)), (h_c 7, .inl (cyI, 240, .inl c_looked)), (h_c 6, .inl (cyI, 60, .inl c_lookedCount)), (h_c 9, .inl (cyI, 10, .inl c_next)), (h_c 8, .inl (cyI, 8, .inl c_output))] → va_S A s.heap H locs → lv_has ls 5 [(0, .ref (h_c 0)), (1, .int l1), (3, .int l3), (4, .int l4)] → W p l e rm_X2_respond s m args below meth c H locs 0 0 QQ (F0 m 40 ls []) := by
        intro n40_
        induction n40_ with
        | zero =>
          intro c_value l1 l3 l4 H locs ls hvc hP hD hS hl
          exact False.elim hvc
        | succ n40_ ih40 =>
          have w79 : ∀ (n79_ : Nat) (c_value : Nat → Int64) (l1 : Int32) (l3 : Int32) (l4 : Int32) (H : Heap) (locs : List Loc) (ls : Array Slot), v_X2_respond_b79 c_inputs c_flops c_nets c_outputs c_operation c_looked c_lookedCount c_next c_output Q  n79_ c_value l1 l3 l4 → va_P D vwCl [(h_c 0, .inr (2, [.int c_inputs, .int c_flops, .int c_nets, .int c_outputs, .ref (h_c 5), .ref (h_c 6), .ref (h_c 7), .ref (h_c 8), .ref (h_c 9), .ref (h_c 10)])), (h_c 10, .inl (cyJ, 60, .inr (.inl c_value))), (h_c 5, .inl (cyI, 60, .inl c_operation)), (h_c 7, .inl (cyI, 240, .inl c_looked)), (h_c 6, .inl (cyI, 60, .inl c_lookedCount)), (h_c 9, .inl (cyI, 10, .inl c_next)), (h_c 8, .inl (cyI, 8, .inl c_output))] H → va_D A [(h_c 0, .inr (2, [.int c_inputs, .int c_flops, .int c_nets, .int c_outputs, .ref (h_c 5), .ref (h_c 6), .ref (h_c 7), .ref (h_c 8), .ref (h_c 9), .ref (h_c 10)])), (h_c 10, .inl (cyJ, 60, .inr (.inl c_value))), (h_c 5, .inl (cyI, 60, .inl c_operation)), (h_c 7, .inl (cyI, 240, .inl c_looked)), (h_c 6, .inl (cyI, 60, .inl c_lookedCount)), (h_c 9, .inl (cyI, 10, .inl c_next)), (h_c 8, .inl (cyI, 8, .inl c_output))] → va_S A s.heap H locs → lv_has ls 5 [(0, .ref (h_c 0)), (1, .int l1), (3, .int l3), (4, .int l4)] → W p l e rm_X2_respond s m args below meth c H locs 0 0 QQ (F0 m 79 ls []) := by
            intro n79_
            induction n79_ with
            | zero =>
              intro c_value l1 l3 l4 H locs ls hvc hP hD hS hl
              exact False.elim hvc
            | succ n79_ ih79 =>
              intro c_value l1 l3 l4 H locs ls hvc hP hD hS hl
              refine lv_iload hx hb dX2_respond_79 (lv_at hl 3 rfl) ?_
              refine lv_aload_n hx hb dX2_respond_81 rfl (lv_at hl 0 rfl) ?_
              refine va_get (D := D) (ci := 2) (C := RX2) (T := TX2) (N := 10) hx hb hts inX2 hown hK hP 0 rfl rfl 1 (by decide) f35 (fun _ h9 => h9) rfl dX2_respond_82 ?_
              obtain ⟨hvt, hvf⟩ := hvc
              refine lv_icmp_ge (tgt := 112) hx hb dX2_respond_85 (by decide) (fun hc => ?_) (fun hc => ?_)
              · have hvc := hvt hc
                refine lv_iload_n hx hb dX2_respond_112 rfl (lv_at hl 2 rfl) ?_
                exact hret l3 c_value _ _ _ _ hvc hP hD hS dX2_respond_113
              · have hvc := hvf hc
                refine lv_iload_n hx hb dX2_respond_88 rfl (lv_at hl 2 rfl) ?_
                refine lv_aload_n hx hb dX2_respond_89 rfl (lv_at hl 0 rfl) ?_
                refine lv_iload hx hb dX2_respond_90 (lv_at hl 3 rfl) ?_
                refine lv_iload_n hx hb dX2_respond_92 rfl (lv_at hl 1 rfl) ?_
                refine kV_i (wc := [(h_c 0, .inr (2, [.int c_inputs, .int c_flops, .int c_nets, .int c_outputs, .ref (h_c 5), .ref (h_c 6), .ref (h_c 7), .ref (h_c 8), .ref (h_c 9), .ref (h_c 10)])), (h_c 9, .inl (cyI, 10, .inl c_next)), (h_c 10, .inl (cyJ, 60, .inr (.inl c_value)))]) (wr := [(h_c 5, .inl (cyI, 60, .inl c_operation)), (h_c 7, .inl (cyI, 240, .inl c_looked)), (h_c 6, .inl (cyI, 60, .inl c_lookedCount)), (h_c 8, .inl (cyI, 8, .inl c_output))]) (As := [.int l4, .int l1]) (rest := [.int l3]) ⟨hx, hb, hml, hown, hts⟩ hP hD hK hE hS hA [0, 5, 1] [2, 3, 4, 6] rfl rfl (by decide) (by decide) (by decide) (c_X2_nextBit l D ts cyI cyJ cyZ h_c _ c_inputs c_flops c_nets c_outputs c_next c_value l4 l1 _ hvc) (cwV 2 hts gX2_respond_X2_nextBit rfl rfl rfl hd_X2_nextBit ⟨Nat.le_of_ble_eq_true rfl, Nat.le_of_ble_eq_true rfl⟩) (ci := 2) rfl rfl rfl hl.1 rfl (Nat.zero_le _) (Nat.zero_le _) rfl (Nat.le_of_ble_eq_true rfl) dX2_respond_93 (fun r1 _u H locs hvc hP hD hS => ?_)
                try dsimp only at hvc
                have hP : va_P D vwCl [(h_c 0, .inr (2, [.int c_inputs, .int c_flops, .int c_nets, .int c_outputs, .ref (h_c 5), .ref (h_c 6), .ref (h_c 7), .ref (h_c 8), .ref (h_c 9), .ref (h_c 10)])), (h_c 10, .inl (cyJ, 60, .inr (.inl c_value))), (h_c 5, .inl (cyI, 60, .inl c_operation)), (h_c 7, .inl (cyI, 240, .inl c_looked)), (h_c 6, .inl (cyI, 60, .inl c_lookedCount)), (h_c 9, .inl (cyI, 10, .inl c_next)), (h_c 8, .inl (cyI, 8, .inl c_output))] H := sub_P hP (isC := [4, 6, 0, 1, 2, 5, 3]) rfl
                have hD : va_D A [(h_c 0, .inr (2, [.int c_inputs, .int c_flops, .int c_nets, .int c_outputs, .ref (h_c 5), .ref (h_c 6), .ref (h_c 7), .ref (h_c 8), .ref (h_c 9), .ref (h_c 10)])), (h_c 10, .inl (cyJ, 60, .inr (.inl c_value))), (h_c 5, .inl (cyI, 60, .inl c_operation)), (h_c 7, .inl (cyI, 240, .inl c_looked)), (h_c 6, .inl (cyI, 60, .inl c_lookedCount)), (h_c 9, .inl (cyI, 10, .inl c_next)), (h_c 8, .inl (cyI, 8, .inl c_output))] := hD.sub [4, 6, 0, 1, 2, 5, 3] (by decide) rfl
                refine lv_aload_n hx hb dX2_respond_96 rfl (lv_at hl 0 rfl) ?_
                refine va_get (D := D) (ci := 2) (C := RX2) (T := TX2) (N := 10) hx hb hts inX2 hown hK hP 0 rfl rfl 3 (by decide) f41 (fun _ h9 => h9) rfl dX2_respond_97 ?_
                refine lv_iload hx hb dX2_respond_100 (lv_at hl 3 rfl) ?_
                refine lv_iadd hx hb dX2_respond_102 ?_
                refine lv_ishl hx hb dX2_respond_103 ?_
                refine lv_ior hx hb dX2_respond_104 ?_
                refine lv_topi (fun v2 ev2 => ?_)
                have hvc := hvc v2 ev2
                refine lv_istore_n (lv' := [(3, .int v2), (0, .ref (h_c 0)), (1, .int l1), (4, .int l4)]) hx hb dX2_respond_105 rfl hl (by decide) rfl (fun ls hl => ?_)
                obtain ⟨v3, ev3⟩ : ∃ y : Int32, y = l4 + (1 : Int32) := ⟨_, rfl⟩
                have hvc := hvc v3 ev3
                refine lv_iinc (v := v3) (lv' := [(4, .int v3), (3, .int v2), (0, .ref (h_c 0)), (1, .int l1)]) hx hb dX2_respond_106 hl (k := 3) rfl (by rw [ev3]; rfl) (by decide) rfl (fun ls hl => ?_)
                refine lv_goto (tgt := 79) hx hb dX2_respond_109 (by decide) ?_
                exact ih79 c_value l1 v2 v3 _ _ _ hvc hP hD hS (lv_sub hl [2, 3, 1, 0] rfl)
          intro c_value l1 l3 l4 H locs ls hvc hP hD hS hl
          refine lv_iload hx hb dX2_respond_40 (lv_at hl 3 rfl) ?_
          refine lv_aload_n hx hb dX2_respond_42 rfl (lv_at hl 0 rfl) ?_
          refine va_get (D := D) (ci := 2) (C := RX2) (T := TX2) (N := 10) hx hb hts inX2 hown hK hP 0 rfl rfl 3 (by decide) f41 (fun _ h9 => h9) rfl dX2_respond_43 ?_
          obtain ⟨hvt, hvf⟩ := hvc
          refine lv_icmp_ge (tgt := 76) hx hb dX2_respond_46 (by decide) (fun hc => ?_) (fun hc => ?_)
          · have hvc := hvt hc
            refine lv_iconst (v := 0) hx hb dX2_respond_76 (by decide) ?_
            refine lv_istore (lv' := [(4, .int (0 : Int32)), (0, .ref (h_c 0)), (1, .int l1), (3, .int l3)]) hx hb dX2_respond_77 hl (by decide) rfl (fun ls hl => ?_)
            obtain ⟨n_, hvc⟩ := hvc
            exact w79 n_ c_value l1 l3 (0 : Int32) _ _ _ hvc hP hD hS (lv_sub hl [1, 2, 3, 0] rfl)
          · have hvc := hvf hc
            refine lv_iload_n hx hb dX2_respond_49 rfl (lv_at hl 2 rfl) ?_
            refine lv_aload_n hx hb dX2_respond_50 rfl (lv_at hl 0 rfl) ?_
            refine va_get (D := D) (ci := 2) (C := RX2) (T := TX2) (N := 10) hx hb hts inX2 hown hK hP 0 rfl rfl 9 (by decide) f27 (fun _ h9 => h9) rfl dX2_respond_51 ?_
            refine lv_aload_n hx hb dX2_respond_54 rfl (lv_at hl 0 rfl) ?_
            refine va_get (D := D) (ci := 2) (C := RX2) (T := TX2) (N := 10) hx hb hts inX2 hown hK hP 0 rfl rfl 7 (by decide) f21 (fun _ h9 => h9) rfl dX2_respond_55 ?_
            refine lv_iload hx hb dX2_respond_58 (lv_at hl 3 rfl) ?_
            obtain ⟨hi, hvc⟩ := hvc
            refine va_iald hx hb hK hP 6 0 rfl rfl hi dX2_respond_60 ?_
            obtain ⟨hi, hvc⟩ := hvc
            refine va_lald hx hb hK hP 1 1 rfl rfl hi dX2_respond_61 ?_
            refine lv_lconst (v := 1) hx hb dX2_respond_62 (by decide) ?_
            refine lv_land hx hb dX2_respond_63 ?_
            refine lv_l2i hx hb dX2_respond_64 rfl ?_
            refine lv_iload hx hb dX2_respond_65 (lv_at hl 3 rfl) ?_
            refine lv_ishl hx hb dX2_respond_67 ?_
            refine lv_ior hx hb dX2_respond_68 ?_
            refine lv_topi (fun v4 ev4 => ?_)
            have hvc := hvc v4 ev4
            refine lv_istore_n (lv' := [(3, .int v4), (0, .ref (h_c 0)), (1, .int l1), (4, .int l4)]) hx hb dX2_respond_69 rfl hl (by decide) rfl (fun ls hl => ?_)
            obtain ⟨v5, ev5⟩ : ∃ y : Int32, y = l4 + (1 : Int32) := ⟨_, rfl⟩
            have hvc := hvc v5 ev5
            refine lv_iinc (v := v5) (lv' := [(4, .int v5), (3, .int v4), (0, .ref (h_c 0)), (1, .int l1)]) hx hb dX2_respond_70 hl (k := 3) rfl (by rw [ev5]; rfl) (by decide) rfl (fun ls hl => ?_)
            refine lv_goto (tgt := 40) hx hb dX2_respond_73 (by decide) ?_
            exact ih40 c_value l1 v4 v5 _ _ _ hvc hP hD hS (lv_sub hl [2, 3, 1, 0] rfl)
      intro c_value l1 l2 l3 H locs ls hvc hP hD hS hl
      rw [v_X2_respond_b2] at hvc
      refine lv_iload_n hx hb dX2_respond_2 rfl (lv_at hl 3 rfl) ?_
      refine lv_aload_n hx hb dX2_respond_3 rfl (lv_at hl 0 rfl) ?_
      refine kV_i (wc := [(h_c 0, .inr (2, [.int c_inputs, .int c_flops, .int c_nets, .int c_outputs, .ref (h_c 5), .ref (h_c 6), .ref (h_c 7), .ref (h_c 8), .ref (h_c 9), .ref (h_c 10)]))]) (wr := [(h_c 10, .inl (cyJ, 60, .inr (.inl c_value))), (h_c 5, .inl (cyI, 60, .inl c_operation)), (h_c 7, .inl (cyI, 240, .inl c_looked)), (h_c 6, .inl (cyI, 60, .inl c_lookedCount)), (h_c 9, .inl (cyI, 10, .inl c_next)), (h_c 8, .inl (cyI, 8, .inl c_output))]) (As := []) (rest := [.int l3]) ⟨hx, hb, hml, hown, hts⟩ hP hD hK hE hS hA [0] [1, 2, 3, 4, 5, 6] rfl rfl (by decide) (by decide) (by decide) (c_X2_sources l D ts cyI cyJ cyZ h_c _ c_inputs c_flops c_nets c_outputs _ hvc) (cwV 0 hts gX2_respond_X2_sources rfl rfl rfl hd_X2_sources ⟨Nat.le_of_ble_eq_true rfl, Nat.le_of_ble_eq_true rfl⟩) (ci := 2) rfl rfl rfl hl.1 rfl (Nat.zero_le _) (Nat.zero_le _) rfl (Nat.le_of_ble_eq_true rfl) dX2_respond_4 (fun r6 _u H locs hvc hP hD hS => ?_)
      try dsimp only at hvc
      have hP : va_P D vwCl [(h_c 0, .inr (2, [.int c_inputs, .int c_flops, .int c_nets, .int c_outputs, .ref (h_c 5), .ref (h_c 6), .ref (h_c 7), .ref (h_c 8), .ref (h_c 9), .ref (h_c 10)])), (h_c 10, .inl (cyJ, 60, .inr (.inl c_value))), (h_c 5, .inl (cyI, 60, .inl c_operation)), (h_c 7, .inl (cyI, 240, .inl c_looked)), (h_c 6, .inl (cyI, 60, .inl c_lookedCount)), (h_c 9, .inl (cyI, 10, .inl c_next)), (h_c 8, .inl (cyI, 8, .inl c_output))] H := sub_P hP (isC := [6, 0, 1, 2, 3, 4, 5]) rfl
      have hD : va_D A [(h_c 0, .inr (2, [.int c_inputs, .int c_flops, .int c_nets, .int c_outputs, .ref (h_c 5), .ref (h_c 6), .ref (h_c 7), .ref (h_c 8), .ref (h_c 9), .ref (h_c 10)])), (h_c 10, .inl (cyJ, 60, .inr (.inl c_value))), (h_c 5, .inl (cyI, 60, .inl c_operation)), (h_c 7, .inl (cyI, 240, .inl c_looked)), (h_c 6, .inl (cyI, 60, .inl c_lookedCount)), (h_c 9, .inl (cyI, 10, .inl c_next)), (h_c 8, .inl (cyI, 8, .inl c_output))] := hD.sub [6, 0, 1, 2, 3, 4, 5] (by decide) rfl
      obtain ⟨hvt, hvf⟩ := hvc
      refine lv_icmp_ge (tgt := 29) hx hb dX2_respond_7 (by decide) (fun hc => ?_) (fun hc => ?_)
      · have hvc := hvt hc
        refine lv_aload_n hx hb dX2_respond_29 rfl (lv_at hl 0 rfl) ?_
        refine lv_iconst (v := 0) hx hb dX2_respond_30 (by decide) ?_
        refine lv_iload_n hx hb dX2_respond_31 rfl (lv_at hl 2 rfl) ?_
        refine kV_v (wc := [(h_c 0, .inr (2, [.int c_inputs, .int c_flops, .int c_nets, .int c_outputs, .ref (h_c 5), .ref (h_c 6), .ref (h_c 7), .ref (h_c 8), .ref (h_c 9), .ref (h_c 10)])), (h_c 10, .inl (cyJ, 60, .inr (.inl c_value))), (h_c 5, .inl (cyI, 60, .inl c_operation)), (h_c 7, .inl (cyI, 240, .inl c_looked)), (h_c 6, .inl (cyI, 60, .inl c_lookedCount))]) (wr := [(h_c 9, .inl (cyI, 10, .inl c_next)), (h_c 8, .inl (cyI, 8, .inl c_output))]) (As := [.int (0 : Int32), .int l2]) (rest := []) ⟨hx, hb, hml, hown, hts⟩ hP hD hK hE hS hA [0, 1, 2, 3, 4] [5, 6] rfl rfl (by decide) (by decide) (by decide) (c_X2_settle l D ts cyI cyJ cyZ h_c _ c_inputs c_flops c_nets c_outputs c_value c_operation c_looked c_lookedCount (0 : Int32) l2 _ hvc) (cwV 2 hts gX2_respond_X2_settle rfl rfl rfl hd_X2_settle ⟨Nat.le_of_ble_eq_true rfl, Nat.le_of_ble_eq_true rfl⟩) (ci := 2) rfl rfl rfl hl.1 rfl (Nat.zero_le _) (Nat.zero_le _) rfl (Nat.le_of_ble_eq_true rfl) dX2_respond_32 (fun n7 H locs hvc hP hD hS => ?_)
        try dsimp only at hvc
        have hP : va_P D vwCl [(h_c 0, .inr (2, [.int c_inputs, .int c_flops, .int c_nets, .int c_outputs, .ref (h_c 5), .ref (h_c 6), .ref (h_c 7), .ref (h_c 8), .ref (h_c 9), .ref (h_c 10)])), (h_c 10, .inl (cyJ, 60, .inr (.inl n7))), (h_c 5, .inl (cyI, 60, .inl c_operation)), (h_c 7, .inl (cyI, 240, .inl c_looked)), (h_c 6, .inl (cyI, 60, .inl c_lookedCount)), (h_c 9, .inl (cyI, 10, .inl c_next)), (h_c 8, .inl (cyI, 8, .inl c_output))] H := sub_P hP (isC := [2, 3, 4, 5, 6, 0, 1]) rfl
        have hD : va_D A [(h_c 0, .inr (2, [.int c_inputs, .int c_flops, .int c_nets, .int c_outputs, .ref (h_c 5), .ref (h_c 6), .ref (h_c 7), .ref (h_c 8), .ref (h_c 9), .ref (h_c 10)])), (h_c 10, .inl (cyJ, 60, .inr (.inl n7))), (h_c 5, .inl (cyI, 60, .inl c_operation)), (h_c 7, .inl (cyI, 240, .inl c_looked)), (h_c 6, .inl (cyI, 60, .inl c_lookedCount)), (h_c 9, .inl (cyI, 10, .inl c_next)), (h_c 8, .inl (cyI, 8, .inl c_output))] := hD.sub [2, 3, 4, 5, 6, 0, 1] (by decide) rfl
        refine lv_iconst (v := 0) hx hb dX2_respond_35 (by decide) ?_
        refine lv_istore_n (lv' := [(3, .int (0 : Int32)), (0, .ref (h_c 0)), (1, .int l1), (2, .int l2)]) hx hb dX2_respond_36 rfl hl (by decide) rfl (fun ls hl => ?_)
        refine lv_iconst (v := 0) hx hb dX2_respond_37 (by decide) ?_
        refine lv_istore (lv' := [(4, .int (0 : Int32)), (3, .int (0 : Int32)), (0, .ref (h_c 0)), (1, .int l1), (2, .int l2)]) hx hb dX2_respond_38 hl (by decide) rfl (fun ls hl => ?_)
        obtain ⟨n_, hvc⟩ := hvc
        exact w40 n_ n7 l1 (0 : Int32) (0 : Int32) _ _ _ hvc hP hD hS (lv_sub hl [2, 3, 1, 0] rfl)
      · have hvc := hvf hc
        refine lv_aload_n hx hb dX2_respond_10 rfl (lv_at hl 0 rfl) ?_
        refine va_get (D := D) (ci := 2) (C := RX2) (T := TX2) (N := 10) hx hb hts inX2 hown hK hP 0 rfl rfl 9 (by decide) f27 (fun _ h9 => h9) rfl dX2_respond_11 ?_
        refine lv_iload_n hx hb dX2_respond_14 rfl (lv_at hl 3 rfl) ?_
        refine lv_iload_n hx hb dX2_respond_15 rfl (lv_at hl 1 rfl) ?_
        refine lv_iload_n hx hb dX2_respond_16 rfl (lv_at hl 3 rfl) ?_
        refine lv_ishr hx hb dX2_respond_17 ?_
        refine lv_iconst (v := 1) hx hb dX2_respond_18 (by decide) ?_
        refine lv_iand hx hb dX2_respond_19 ?_
        refine lv_i2l hx hb dX2_respond_20 rfl ?_
        refine lv_lneg hx hb dX2_respond_21 ?_
        obtain ⟨hi, hvc⟩ := hvc
        refine va_last hx hb hK hP hD hS 1 1 rfl rfl hi dX2_respond_22 (fun H locs hP hD hS => ?_)
        have hP : va_P D vwCl [(h_c 0, .inr (2, [.int c_inputs, .int c_flops, .int c_nets, .int c_outputs, .ref (h_c 5), .ref (h_c 6), .ref (h_c 7), .ref (h_c 8), .ref (h_c 9), .ref (h_c 10)])), (h_c 10, .inl (cyJ, 60, .inr (.inl (vp_updL c_value l3.toNatClampNeg (-(((l1 >>> (l3 &&& 31)) &&& (1 : Int32)).toInt64)))))), (h_c 5, .inl (cyI, 60, .inl c_operation)), (h_c 7, .inl (cyI, 240, .inl c_looked)), (h_c 6, .inl (cyI, 60, .inl c_lookedCount)), (h_c 9, .inl (cyI, 10, .inl c_next)), (h_c 8, .inl (cyI, 8, .inl c_output))] H := hP
        have hD : va_D A [(h_c 0, .inr (2, [.int c_inputs, .int c_flops, .int c_nets, .int c_outputs, .ref (h_c 5), .ref (h_c 6), .ref (h_c 7), .ref (h_c 8), .ref (h_c 9), .ref (h_c 10)])), (h_c 10, .inl (cyJ, 60, .inr (.inl (vp_updL c_value l3.toNatClampNeg (-(((l1 >>> (l3 &&& 31)) &&& (1 : Int32)).toInt64)))))), (h_c 5, .inl (cyI, 60, .inl c_operation)), (h_c 7, .inl (cyI, 240, .inl c_looked)), (h_c 6, .inl (cyI, 60, .inl c_lookedCount)), (h_c 9, .inl (cyI, 10, .inl c_next)), (h_c 8, .inl (cyI, 8, .inl c_output))] := hD
        obtain ⟨v8, ev8⟩ : ∃ y : Int32, y = l3 + (1 : Int32) := ⟨_, rfl⟩
        have hvc := hvc v8 ev8
        refine lv_iinc (v := v8) (lv' := [(3, .int v8), (0, .ref (h_c 0)), (1, .int l1), (2, .int l2)]) hx hb dX2_respond_23 hl (k := 3) rfl (by rw [ev8]; rfl) (by decide) rfl (fun ls hl => ?_)
        refine lv_goto (tgt := 2) hx hb dX2_respond_26 (by decide) ?_
        exact ih2 (vp_updL c_value l3.toNatClampNeg (-(((l1 >>> (l3 &&& 31)) &&& (1 : Int32)).toInt64))) l1 l2 v8 _ _ _ hvc hP hD hS (lv_sub hl [1, 2, 3, 0] rfl)
  have hl : lv_has ls 5 [(0, .ref (h_c 0)), (1, .int p0), (2, .int p1)] := hl
  refine lv_iconst (v := 0) hx hb dX2_respond_0 (by decide) ?_
  refine lv_istore_n (lv' := [(3, .int (0 : Int32)), (0, .ref (h_c 0)), (1, .int p0), (2, .int p1)]) hx hb dX2_respond_1 rfl hl (by decide) rfl (fun ls hl => ?_)
  obtain ⟨n_, hvc⟩ := hvc
  exact w2 n_ c_value p0 p1 (0 : Int32) _ _ _ hvc hP hD hS (lv_sub hl [1, 2, 3, 0] rfl)
def v_X2_spread_b43 (c_inputs : Int32) (c_flops : Int32) (Q : (Nat → Int64) → Prop) (k2 : (Nat → Int64) → Int32 → Int32 → Prop) : (Nat → Int64) → Int32 → Int32 → Int64 → Int32 → Prop := fun (c_value : Nat → Int64) (l1 : Int32) (l2 : Int32) (s0 : Int64) (s1 : Int32) => vp_in s1 60 ∧ ∀ v1 : Int32, v1 = l2 + (1 : Int32) → k2 (vp_updL c_value s1.toNatClampNeg s0) l1 v1
def v_X2_spread_b2 (c_inputs : Int32) (c_flops : Int32) (Q : (Nat → Int64) → Prop)  : Nat → (Nat → Int64) → Int32 → Int32 → Prop
  | 0 => fun _ _ _ => False
  | z2_ + 1 => fun (c_value : Nat → Int64) (l1 : Int32) (l2 : Int32) => v_X2_sources  c_inputs c_flops (fun (r2 : Int32) => (r2 ≤ l2 → Q c_value) ∧ (¬ r2 ≤ l2 → ((6 : Int32) ≤ l2 → v_X2_spread_b43 c_inputs c_flops Q (v_X2_spread_b2 c_inputs c_flops Q  z2_) c_value l1 l2 (-(((l1 >>> ((l2 - (6 : Int32)) &&& 31)) &&& (1 : Int32)).toInt64)) l2) ∧ (¬ (6 : Int32) ≤ l2 → vp_in l2 6 ∧ v_X2_spread_b43 c_inputs c_flops Q (v_X2_spread_b2 c_inputs c_flops Q  z2_) c_value l1 l2 (tb_COLUMNS.getD l2.toNatClampNeg 0) l2)))
def v_X2_spread (c_inputs : Int32) (c_flops : Int32) (c_value : Nat → Int64) (p0 : Int32) (Q : (Nat → Int64) → Prop) : Prop := (∃ f2 : Nat, v_X2_spread_b2 c_inputs c_flops Q  f2 c_value p0 (0 : Int32))
theorem hd_X2_spread : yX2_spread.cls = RX2 ∧ yX2_spread.cls ≠ "java/lang/invoke/MethodHandle" ∧ yX2_spread.cls ≠ "java/lang/invoke/VarHandle" ∧ (parseMethodDescriptor yX2_spread.desc).map (fun d => d.parameters.length) = some 1 := by decide +kernel
abbrev rm_X2_spread : Room := { frames := 1, cells := 0, slots := 0, locals := 20 }
set_option maxHeartbeats 4000000 in
set_option maxRecDepth 100000 in
theorem c_X2_spread (l : Launch) (D : va_G) (ts : Nat → Nat) (cyI cyJ cyZ : ClassId) (h_c : Nat → Nat) (sz : Nat) (c_inputs : Int32) (c_flops : Int32) (c_nets : Int32) (c_outputs : Int32) (c_value : Nat → Int64) (p0 : Int32) (Q : (Nat → Int64) → Prop) (hvc : v_X2_spread c_inputs c_flops c_value p0 Q) : Met l yX2_spread wsX2_spread rm_X2_spread (va_Pc [.ref (h_c 0), .int p0] (cPre D ts [(cyI, .int), (cyJ, .long), (cyZ, .boolean)] [(h_c 0, .inr (2, [.int c_inputs, .int c_flops, .int c_nets, .int c_outputs, .ref (h_c 5), .ref (h_c 6), .ref (h_c 7), .ref (h_c 8), .ref (h_c 9), .ref (h_c 10)])), (h_c 10, .inl (cyJ, 60, .inr (.inl c_value)))] sz)) (va_Qv (fun (u : (Nat → Int64)) => Q u) (cPost D [(cyI, .int), (cyJ, .long), (cyZ, .boolean)] (fun (u : (Nat → Int64)) => [(h_c 0, .inr (2, [.int c_inputs, .int c_flops, .int c_nets, .int c_outputs, .ref (h_c 5), .ref (h_c 6), .ref (h_c 7), .ref (h_c 8), .ref (h_c 9), .ref (h_c 10)])), (h_c 10, .inl (cyJ, 60, .inr (.inl u)))]) (va_A [(h_c 0, .inr (2, [.int c_inputs, .int c_flops, .int c_nets, .int c_outputs, .ref (h_c 5), .ref (h_c 6), .ref (h_c 7), .ref (h_c 8), .ref (h_c 9), .ref (h_c 10)])), (h_c 10, .inl (cyJ, 60, .inr (.inl c_value)))] sz)) (va_A [(h_c 0, .inr (2, [.int c_inputs, .int c_flops, .int c_nets, .int c_outputs, .ref (h_c 5), .ref (h_c 6), .ref (h_c 7), .ref (h_c 8), .ref (h_c 9), .ref (h_c 10)])), (h_c 10, .inl (cyJ, 60, .inr (.inl c_value)))] sz)) 0 0 (va_A [(h_c 0, .inr (2, [.int c_inputs, .int c_flops, .int c_nets, .int c_outputs, .ref (h_c 5), .ref (h_c 6), .ref (h_c 7), .ref (h_c 8), .ref (h_c 9), .ref (h_c 10)])), (h_c 10, .inl (cyJ, 60, .inr (.inl c_value)))] sz) := by
  refine kEnter_v (cc := cX2_spread) (maxL := 3) (by decide) rfl (Nat.le_of_ble_eq_true rfl) ?_
  intro p e s m args below meth c A ls QQ hx hb hml hown hts hsz hA hP hD hK hE hS hl hret
  clear hsz
  have hown : s.vm.findClass RX2 = some m.cls := hown
  have inX2 : ∀ w ∈ wsX20, w ∈ wsX2_spread := fun _ h => List.mem_cons_of_mem _ (List.mem_append_right _ h)
  have f27 := hts (.fieldLink RX2 27 "ScanTester$Circuit" "value" "[J") (List.mem_of_getElem? (i := 1) rfl)
  have f68 := hts (.fieldLink RX2 68 "ScanTester$Circuit" "COLUMNS" "[J") (List.mem_of_getElem? (i := 2) rfl)
  have w2 : ∀ (n2_ : Nat) (c_value : Nat → Int64) (l1 : Int32) (l2 : Int32) (H : Heap) (locs : List Loc) (ls : Array Slot), v_X2_spread_b2 c_inputs c_flops Q  n2_ c_value l1 l2 → va_P D vwCl [(h_c 0, .inr (2, [.int c_inputs, .int c_flops, .int c_nets, .int c_outputs, .ref (h_c 5), .ref (h_c 6), .ref (h_c 7), .ref (h_c 8), .ref (h_c 9), .ref (h_c 10)])), (h_c 10, .inl (cyJ, 60, .inr (.inl c_value)))] H → va_D A [(h_c 0, .inr (2, [.int c_inputs, .int c_flops, .int c_nets, .int c_outputs, .ref (h_c 5), .ref (h_c 6), .ref (h_c 7), .ref (h_c 8), .ref (h_c 9), .ref (h_c 10)])), (h_c 10, .inl (cyJ, 60, .inr (.inl c_value)))] → va_S A s.heap H locs → lv_has ls 3 [(0, .ref (h_c 0)), (1, .int l1), (2, .int l2)] → W p l e rm_X2_spread s m args below meth c H locs 0 0 QQ (F0 m 2 ls []) := by
    intro n2_
    induction n2_ with
    | zero =>
      intro c_value l1 l2 H locs ls hvc hP hD hS hl
      exact False.elim hvc
    | succ n2_ ih2 =>
      have w43 : ∀ (c_value : Nat → Int64) (l1 : Int32) (l2 : Int32) (s0 : Int64) (s1 : Int32) (H : Heap) (locs : List Loc) (ls : Array Slot), v_X2_spread_b43 c_inputs c_flops Q (v_X2_spread_b2 c_inputs c_flops Q  n2_) c_value l1 l2 s0 s1 → va_P D vwCl [(h_c 0, .inr (2, [.int c_inputs, .int c_flops, .int c_nets, .int c_outputs, .ref (h_c 5), .ref (h_c 6), .ref (h_c 7), .ref (h_c 8), .ref (h_c 9), .ref (h_c 10)])), (h_c 10, .inl (cyJ, 60, .inr (.inl c_value)))] H → va_D A [(h_c 0, .inr (2, [.int c_inputs, .int c_flops, .int c_nets, .int c_outputs, .ref (h_c 5), .ref (h_c 6), .ref (h_c 7), .ref (h_c 8), .ref (h_c 9), .ref (h_c 10)])), (h_c 10, .inl (cyJ, 60, .inr (.inl c_value)))] → va_S A s.heap H locs → lv_has ls 3 [(0, .ref (h_c 0)), (1, .int l1), (2, .int l2)] → W p l e rm_X2_spread s m args below meth c H locs 0 0 QQ (F0 m 43 ls [.long s0, .int s1, .ref (h_c 10)]) := by
        intro c_value l1 l2 s0 s1 H locs ls hvc hP hD hS hl
        obtain ⟨hi, hvc⟩ := hvc
        refine va_last hx hb hK hP hD hS 1 1 rfl rfl hi dX2_spread_43 (fun H locs hP hD hS => ?_)
        have hP : va_P D vwCl [(h_c 0, .inr (2, [.int c_inputs, .int c_flops, .int c_nets, .int c_outputs, .ref (h_c 5), .ref (h_c 6), .ref (h_c 7), .ref (h_c 8), .ref (h_c 9), .ref (h_c 10)])), (h_c 10, .inl (cyJ, 60, .inr (.inl (vp_updL c_value s1.toNatClampNeg s0))))] H := hP
        have hD : va_D A [(h_c 0, .inr (2, [.int c_inputs, .int c_flops, .int c_nets, .int c_outputs, .ref (h_c 5), .ref (h_c 6), .ref (h_c 7), .ref (h_c 8), .ref (h_c 9), .ref (h_c 10)])), (h_c 10, .inl (cyJ, 60, .inr (.inl (vp_updL c_value s1.toNatClampNeg s0))))] := hD
        obtain ⟨v1, ev1⟩ : ∃ y : Int32, y = l2 + (1 : Int32) := ⟨_, rfl⟩
        have hvc := hvc v1 ev1
        refine lv_iinc (v := v1) (lv' := [(2, .int v1), (0, .ref (h_c 0)), (1, .int l1)]) hx hb dX2_spread_44 hl (k := 2) rfl (by rw [ev1]; rfl) (by decide) rfl (fun ls hl => ?_)
        refine lv_goto (tgt := 2) hx hb dX2_spread_47 (by decide) ?_
        exact ih2 (vp_updL c_value s1.toNatClampNeg s0) l1 v1 _ _ _ hvc hP hD hS (lv_sub hl [1, 2, 0] rfl)
      intro c_value l1 l2 H locs ls hvc hP hD hS hl
      rw [v_X2_spread_b2] at hvc
      refine lv_iload_n hx hb dX2_spread_2 rfl (lv_at hl 2 rfl) ?_
      refine lv_aload_n hx hb dX2_spread_3 rfl (lv_at hl 0 rfl) ?_
      refine kV_i (wc := [(h_c 0, .inr (2, [.int c_inputs, .int c_flops, .int c_nets, .int c_outputs, .ref (h_c 5), .ref (h_c 6), .ref (h_c 7), .ref (h_c 8), .ref (h_c 9), .ref (h_c 10)]))]) (wr := [(h_c 10, .inl (cyJ, 60, .inr (.inl c_value)))]) (As := []) (rest := [.int l2]) ⟨hx, hb, hml, hown, hts⟩ hP hD hK hE hS hA [0] [1] rfl rfl (by decide) (by decide) (by decide) (c_X2_sources l D ts cyI cyJ cyZ h_c _ c_inputs c_flops c_nets c_outputs _ hvc) (cwV 0 hts gX2_spread_X2_sources rfl rfl rfl hd_X2_sources ⟨Nat.le_of_ble_eq_true rfl, Nat.le_of_ble_eq_true rfl⟩) (ci := 2) rfl rfl rfl hl.1 rfl (Nat.zero_le _) (Nat.zero_le _) rfl (Nat.le_of_ble_eq_true rfl) dX2_spread_4 (fun r2 _u H locs hvc hP hD hS => ?_)
      try dsimp only at hvc
      have hP : va_P D vwCl [(h_c 0, .inr (2, [.int c_inputs, .int c_flops, .int c_nets, .int c_outputs, .ref (h_c 5), .ref (h_c 6), .ref (h_c 7), .ref (h_c 8), .ref (h_c 9), .ref (h_c 10)])), (h_c 10, .inl (cyJ, 60, .inr (.inl c_value)))] H := sub_P hP (isC := [1, 0]) rfl
      have hD : va_D A [(h_c 0, .inr (2, [.int c_inputs, .int c_flops, .int c_nets, .int c_outputs, .ref (h_c 5), .ref (h_c 6), .ref (h_c 7), .ref (h_c 8), .ref (h_c 9), .ref (h_c 10)])), (h_c 10, .inl (cyJ, 60, .inr (.inl c_value)))] := hD.sub [1, 0] (by decide) rfl
      obtain ⟨hvt, hvf⟩ := hvc
      refine lv_icmp_ge (tgt := 50) hx hb dX2_spread_7 (by decide) (fun hc => ?_) (fun hc => ?_)
      · have hvc := hvt hc
        exact hret c_value _ _ _ _ hvc hP hD hS dX2_spread_50
      · have hvc := hvf hc
        refine lv_aload_n hx hb dX2_spread_10 rfl (lv_at hl 0 rfl) ?_
        refine va_get (D := D) (ci := 2) (C := RX2) (T := TX2) (N := 10) hx hb hts inX2 hown hK hP 0 rfl rfl 9 (by decide) f27 (fun _ h9 => h9) rfl dX2_spread_11 ?_
        refine lv_iload_n hx hb dX2_spread_14 rfl (lv_at hl 2 rfl) ?_
        refine lv_iload_n hx hb dX2_spread_15 rfl (lv_at hl 2 rfl) ?_
        refine va_gets hx hb hE.COLUMNS.1 hS hown f68 (fun _ h9 => h9) dX2_spread_16 ?_
        refine va_tlen (v := 6) hx hb hE.COLUMNS.2 hS (by decide) dX2_spread_19 ?_
        obtain ⟨hvt, hvf⟩ := hvc
        refine lv_icmp_ge (tgt := 31) hx hb dX2_spread_20 (by decide) (fun hc => ?_) (fun hc => ?_)
        · have hvc := hvt hc
          refine lv_iload_n hx hb dX2_spread_31 rfl (lv_at hl 1 rfl) ?_
          refine lv_iload_n hx hb dX2_spread_32 rfl (lv_at hl 2 rfl) ?_
          refine va_gets hx hb hE.COLUMNS.1 hS hown f68 (fun _ h9 => h9) dX2_spread_33 ?_
          refine va_tlen (v := 6) hx hb hE.COLUMNS.2 hS (by decide) dX2_spread_36 ?_
          refine lv_isub hx hb dX2_spread_37 ?_
          refine lv_ishr hx hb dX2_spread_38 ?_
          refine lv_iconst (v := 1) hx hb dX2_spread_39 (by decide) ?_
          refine lv_iand hx hb dX2_spread_40 ?_
          refine lv_i2l hx hb dX2_spread_41 rfl ?_
          refine lv_lneg hx hb dX2_spread_42 ?_
          exact w43 c_value l1 l2 (-(((l1 >>> ((l2 - (6 : Int32)) &&& 31)) &&& (1 : Int32)).toInt64)) l2 _ _ _ hvc hP hD hS (lv_sub hl [0, 1, 2] rfl)
        · have hvc := hvf hc
          refine va_gets hx hb hE.COLUMNS.1 hS hown f68 (fun _ h9 => h9) dX2_spread_23 ?_
          refine lv_iload_n hx hb dX2_spread_26 rfl (lv_at hl 2 rfl) ?_
          obtain ⟨hi, hvc⟩ := hvc
          refine va_tl hx hb hE.COLUMNS.2 hS hi rfl dX2_spread_27 ?_
          refine lv_goto (tgt := 43) hx hb dX2_spread_28 (by decide) ?_
          exact w43 c_value l1 l2 (tb_COLUMNS.getD l2.toNatClampNeg 0) l2 _ _ _ hvc hP hD hS (lv_sub hl [0, 1, 2] rfl)
  have hl : lv_has ls 3 [(0, .ref (h_c 0)), (1, .int p0)] := hl
  refine lv_iconst (v := 0) hx hb dX2_spread_0 (by decide) ?_
  refine lv_istore_n (lv' := [(2, .int (0 : Int32)), (0, .ref (h_c 0)), (1, .int p0)]) hx hb dX2_spread_1 rfl hl (by decide) rfl (fun ls hl => ?_)
  obtain ⟨n_, hvc⟩ := hvc
  exact w2 n_ c_value p0 (0 : Int32) _ _ _ hvc hP hD hS (lv_sub hl [1, 2, 0] rfl)
def v_X2_differing_b93 (c_flops : Int32) (c_outputs : Int32) (y_arr : Nat → Int64) (c_next : Nat → Int32) (c_value : Nat → Int64) (c_output : Nat → Int32) (Q : Int64 → Prop) (k48 : Int64 → Int32 → Prop) : Int64 → Int32 → Prop := fun (l2 : Int64) (l4 : Int32) => ∀ v1 : Int32, v1 = l4 + (1 : Int32) → k48 l2 v1
def v_X2_differing_b48 (c_flops : Int32) (c_outputs : Int32) (y_arr : Nat → Int64) (c_next : Nat → Int32) (c_value : Nat → Int64) (c_output : Nat → Int32) (Q : Int64 → Prop)  : Nat → Int64 → Int32 → Prop
  | 0 => fun _ _ => False
  | z48_ + 1 => fun (l2 : Int64) (l4 : Int32) => (c_flops ≤ l4 → Q l2 ) ∧ (¬ c_flops ≤ l4 → vp_in l4 10 ∧ ((c_next l4.toNatClampNeg) = (-1 : Int32) → v_X2_differing_b93 c_flops c_outputs y_arr c_next c_value c_output Q (v_X2_differing_b48 c_flops c_outputs y_arr c_next c_value c_output Q  z48_) l2 l4) ∧ (¬ (c_next l4.toNatClampNeg) = (-1 : Int32) → vp_in l4 10 ∧ vp_in (c_next l4.toNatClampNeg) 60 ∧ vp_in l4 10 ∧ vp_in (c_next l4.toNatClampNeg) 60 ∧ ∀ v2 : Int64, v2 = l2 ||| ((c_value (c_next l4.toNatClampNeg).toNatClampNeg) ^^^ (y_arr (c_next l4.toNatClampNeg).toNatClampNeg)) → v_X2_differing_b93 c_flops c_outputs y_arr c_next c_value c_output Q (v_X2_differing_b48 c_flops c_outputs y_arr c_next c_value c_output Q  z48_) v2 l4))
def v_X2_differing_b5 (c_flops : Int32) (c_outputs : Int32) (y_arr : Nat → Int64) (c_next : Nat → Int32) (c_value : Nat → Int64) (c_output : Nat → Int32) (Q : Int64 → Prop)  : Nat → Int64 → Int32 → Prop
  | 0 => fun _ _ => False
  | z5_ + 1 => fun (l2 : Int64) (l4 : Int32) => (c_outputs ≤ l4 → (∃ f48 : Nat, v_X2_differing_b48 c_flops c_outputs y_arr c_next c_value c_output Q  f48 l2 (0 : Int32))) ∧ (¬ c_outputs ≤ l4 → vp_in l4 8 ∧ vp_in (c_output l4.toNatClampNeg) 60 ∧ vp_in l4 8 ∧ vp_in (c_output l4.toNatClampNeg) 60 ∧ ∀ v3 : Int64, v3 = l2 ||| ((c_value (c_output l4.toNatClampNeg).toNatClampNeg) ^^^ (y_arr (c_output l4.toNatClampNeg).toNatClampNeg)) → ∀ v4 : Int32, v4 = l4 + (1 : Int32) → (v_X2_differing_b5 c_flops c_outputs y_arr c_next c_value c_output Q  z5_) v3 v4)
def v_X2_differing (c_flops : Int32) (c_outputs : Int32) (y_arr : Nat → Int64) (c_next : Nat → Int32) (c_value : Nat → Int64) (c_output : Nat → Int32)  (Q : Int64 → Prop) : Prop := (∃ f5 : Nat, v_X2_differing_b5 c_flops c_outputs y_arr c_next c_value c_output Q  f5 (0 : Int64) (0 : Int32))
theorem hd_X2_differing : yX2_differing.cls = RX2 ∧ yX2_differing.cls ≠ "java/lang/invoke/MethodHandle" ∧ yX2_differing.cls ≠ "java/lang/invoke/VarHandle" ∧ (parseMethodDescriptor yX2_differing.desc).map (fun d => d.parameters.length) = some 1 := by decide +kernel
abbrev rm_X2_differing : Room := { frames := 0, cells := 0, slots := 0, locals := 0 }
set_option maxHeartbeats 4000000 in
set_option maxRecDepth 100000 in
theorem c_X2_differing (l : Launch) (D : va_G) (ts : Nat → Nat) (cyI cyJ cyZ : ClassId) (h_c : Nat → Nat) (h_y : Nat → Nat) (sz : Nat) (c_inputs : Int32) (c_flops : Int32) (c_nets : Int32) (c_outputs : Int32) (y_arr : Nat → Int64) (c_next : Nat → Int32) (c_value : Nat → Int64) (c_output : Nat → Int32)  (Q : Int64 → Prop) (hvc : v_X2_differing c_flops c_outputs y_arr c_next c_value c_output  Q) : Met l yX2_differing wsX2_differing rm_X2_differing (va_Pc [.ref (h_c 0), .ref (h_y 0)] (cPre D ts [(cyI, .int), (cyJ, .long), (cyZ, .boolean)] [(h_c 0, .inr (2, [.int c_inputs, .int c_flops, .int c_nets, .int c_outputs, .ref (h_c 5), .ref (h_c 6), .ref (h_c 7), .ref (h_c 8), .ref (h_c 9), .ref (h_c 10)])), (h_y 0, .inl (cyJ, 60, .inr (.inl y_arr))), (h_c 9, .inl (cyI, 10, .inl c_next)), (h_c 10, .inl (cyJ, 60, .inr (.inl c_value))), (h_c 8, .inl (cyI, 8, .inl c_output))] sz)) (va_Ql (fun (r : Int64) (u : Unit) => Q r ) (cPost D [(cyI, .int), (cyJ, .long), (cyZ, .boolean)] (fun (u : Unit) => [(h_c 0, .inr (2, [.int c_inputs, .int c_flops, .int c_nets, .int c_outputs, .ref (h_c 5), .ref (h_c 6), .ref (h_c 7), .ref (h_c 8), .ref (h_c 9), .ref (h_c 10)])), (h_y 0, .inl (cyJ, 60, .inr (.inl y_arr))), (h_c 9, .inl (cyI, 10, .inl c_next)), (h_c 10, .inl (cyJ, 60, .inr (.inl c_value))), (h_c 8, .inl (cyI, 8, .inl c_output))]) (va_A [(h_c 0, .inr (2, [.int c_inputs, .int c_flops, .int c_nets, .int c_outputs, .ref (h_c 5), .ref (h_c 6), .ref (h_c 7), .ref (h_c 8), .ref (h_c 9), .ref (h_c 10)])), (h_y 0, .inl (cyJ, 60, .inr (.inl y_arr))), (h_c 9, .inl (cyI, 10, .inl c_next)), (h_c 10, .inl (cyJ, 60, .inr (.inl c_value))), (h_c 8, .inl (cyI, 8, .inl c_output))] sz)) (va_A [(h_c 0, .inr (2, [.int c_inputs, .int c_flops, .int c_nets, .int c_outputs, .ref (h_c 5), .ref (h_c 6), .ref (h_c 7), .ref (h_c 8), .ref (h_c 9), .ref (h_c 10)])), (h_y 0, .inl (cyJ, 60, .inr (.inl y_arr))), (h_c 9, .inl (cyI, 10, .inl c_next)), (h_c 10, .inl (cyJ, 60, .inr (.inl c_value))), (h_c 8, .inl (cyI, 8, .inl c_output))] sz)) 0 0 (va_A [(h_c 0, .inr (2, [.int c_inputs, .int c_flops, .int c_nets, .int c_outputs, .ref (h_c 5), .ref (h_c 6), .ref (h_c 7), .ref (h_c 8), .ref (h_c 9), .ref (h_c 10)])), (h_y 0, .inl (cyJ, 60, .inr (.inl y_arr))), (h_c 9, .inl (cyI, 10, .inl c_next)), (h_c 10, .inl (cyJ, 60, .inr (.inl c_value))), (h_c 8, .inl (cyI, 8, .inl c_output))] sz) := by
  refine kEnter_l (cc := cX2_differing) (maxL := 5) (by decide) rfl (Nat.le_of_ble_eq_true rfl) ?_
  intro p e s m args below meth c A ls QQ hx hb hml hown hts hsz hA hP hD hK hE hS hl hret
  clear hsz
  have hown : s.vm.findClass RX2 = some m.cls := hown
  have inX2 : ∀ w ∈ wsX20, w ∈ wsX2_differing := fun _ h => List.mem_cons_of_mem _ (List.mem_append_right _ h)
  have f35 := hts (.fieldLink RX2 35 "ScanTester$Circuit" "flops" "I") (List.mem_of_getElem? (i := 4) rfl)
  have f24 := hts (.fieldLink RX2 24 "ScanTester$Circuit" "next" "[I") (List.mem_of_getElem? (i := 5) rfl)
  have f27 := hts (.fieldLink RX2 27 "ScanTester$Circuit" "value" "[J") (List.mem_of_getElem? (i := 2) rfl)
  have f41 := hts (.fieldLink RX2 41 "ScanTester$Circuit" "outputs" "I") (List.mem_of_getElem? (i := 1) rfl)
  have f21 := hts (.fieldLink RX2 21 "ScanTester$Circuit" "output" "[I") (List.mem_of_getElem? (i := 3) rfl)
  have w5 : ∀ (n5_ : Nat) (l2 : Int64) (l4 : Int32) (H : Heap) (locs : List Loc) (ls : Array Slot), v_X2_differing_b5 c_flops c_outputs y_arr c_next c_value c_output Q  n5_ l2 l4 → va_P D vwCl [(h_c 0, .inr (2, [.int c_inputs, .int c_flops, .int c_nets, .int c_outputs, .ref (h_c 5), .ref (h_c 6), .ref (h_c 7), .ref (h_c 8), .ref (h_c 9), .ref (h_c 10)])), (h_y 0, .inl (cyJ, 60, .inr (.inl y_arr))), (h_c 9, .inl (cyI, 10, .inl c_next)), (h_c 10, .inl (cyJ, 60, .inr (.inl c_value))), (h_c 8, .inl (cyI, 8, .inl c_output))] H → va_D A [(h_c 0, .inr (2, [.int c_inputs, .int c_flops, .int c_nets, .int c_outputs, .ref (h_c 5), .ref (h_c 6), .ref (h_c 7), .ref (h_c 8), .ref (h_c 9), .ref (h_c 10)])), (h_y 0, .inl (cyJ, 60, .inr (.inl y_arr))), (h_c 9, .inl (cyI, 10, .inl c_next)), (h_c 10, .inl (cyJ, 60, .inr (.inl c_value))), (h_c 8, .inl (cyI, 8, .inl c_output))] → va_S A s.heap H locs → lv_has ls 5 [(0, .ref (h_c 0)), (1, .ref (h_y 0)), (2, .long l2), (4, .int l4)] → W p l e rm_X2_differing s m args below meth c H locs 0 0 QQ (F0 m 5 ls []) := by
    intro n5_
    induction n5_ with
    | zero =>
      intro l2 l4 H locs ls hvc hP hD hS hl
      exact False.elim hvc
    | succ n5_ ih5 =>
      have w48 : ∀ (n48_ : Nat) (l2 : Int64) (l4 : Int32) (H : Heap) (locs : List Loc) (ls : Array Slot), v_X2_differing_b48 c_flops c_outputs y_arr c_next c_value c_output Q  n48_ l2 l4 → va_P D vwCl [(h_c 0, .inr (2, [.int c_inputs, .int c_flops, .int c_nets, .int c_outputs, .ref (h_c 5), .ref (h_c 6), .ref (h_c 7), .ref (h_c 8), .ref (h_c 9), .ref (h_c 10)])), (h_y 0, .inl (cyJ, 60, .inr (.inl y_arr))), (h_c 9, .inl (cyI, 10, .inl c_next)), (h_c 10, .inl (cyJ, 60, .inr (.inl c_value))), (h_c 8, .inl (cyI, 8, .inl c_output))] H → va_D A [(h_c 0, .inr (2, [.int c_inputs, .int c_flops, .int c_nets, .int c_outputs, .ref (h_c 5), .ref (h_c 6), .ref (h_c 7), .ref (h_c 8), .ref (h_c 9), .ref (h_c 10)])), (h_y 0, .inl (cyJ, 60, .inr (.inl y_arr))), (h_c 9, .inl (cyI, 10, .inl c_next)), (h_c 10, .inl (cyJ, 60, .inr (.inl c_value))), (h_c 8, .inl (cyI, 8, .inl c_output))] → va_S A s.heap H locs → lv_has ls 5 [(0, .ref (h_c 0)), (1, .ref (h_y 0)), (2, .long l2), (4, .int l4)] → W p l e rm_X2_differing s m args below meth c H locs 0 0 QQ (F0 m 48 ls []) := by
        intro n48_
        induction n48_ with
        | zero =>
          intro l2 l4 H locs ls hvc hP hD hS hl
          exact False.elim hvc
        | succ n48_ ih48 =>
          have w93 : ∀ (l2 : Int64) (l4 : Int32) (H : Heap) (locs : List Loc) (ls : Array Slot), v_X2_differing_b93 c_flops c_outputs y_arr c_next c_value c_output Q (v_X2_differing_b48 c_flops c_outputs y_arr c_next c_value c_output Q  n48_) l2 l4 → va_P D vwCl [(h_c 0, .inr (2, [.int c_inputs, .int c_flops, .int c_nets, .int c_outputs, .ref (h_c 5), .ref (h_c 6), .ref (h_c 7), .ref (h_c 8), .ref (h_c 9), .ref (h_c 10)])), (h_y 0, .inl (cyJ, 60, .inr (.inl y_arr))), (h_c 9, .inl (cyI, 10, .inl c_next)), (h_c 10, .inl (cyJ, 60, .inr (.inl c_value))), (h_c 8, .inl (cyI, 8, .inl c_output))] H → va_D A [(h_c 0, .inr (2, [.int c_inputs, .int c_flops, .int c_nets, .int c_outputs, .ref (h_c 5), .ref (h_c 6), .ref (h_c 7), .ref (h_c 8), .ref (h_c 9), .ref (h_c 10)])), (h_y 0, .inl (cyJ, 60, .inr (.inl y_arr))), (h_c 9, .inl (cyI, 10, .inl c_next)), (h_c 10, .inl (cyJ, 60, .inr (.inl c_value))), (h_c 8, .inl (cyI, 8, .inl c_output))] → va_S A s.heap H locs → lv_has ls 5 [(0, .ref (h_c 0)), (1, .ref (h_y 0)), (2, .long l2), (4, .int l4)] → W p l e rm_X2_differing s m args below meth c H locs 0 0 QQ (F0 m 93 ls []) := by
            intro l2 l4 H locs ls hvc hP hD hS hl
            obtain ⟨v1, ev1⟩ : ∃ y : Int32, y = l4 + (1 : Int32) := ⟨_, rfl⟩
            have hvc := hvc v1 ev1
            refine lv_iinc (v := v1) (lv' := [(4, .int v1), (0, .ref (h_c 0)), (1, .ref (h_y 0)), (2, .long l2)]) hx hb dX2_differing_93 hl (k := 3) rfl (by rw [ev1]; rfl) (by decide) rfl (fun ls hl => ?_)
            refine lv_goto (tgt := 48) hx hb dX2_differing_96 (by decide) ?_
            exact ih48 l2 v1 _ _ _ hvc hP hD hS (lv_sub hl [1, 2, 3, 0] rfl)
          intro l2 l4 H locs ls hvc hP hD hS hl
          refine lv_iload hx hb dX2_differing_48 (lv_at hl 3 rfl) ?_
          refine lv_aload_n hx hb dX2_differing_50 rfl (lv_at hl 0 rfl) ?_
          refine va_get (D := D) (ci := 2) (C := RX2) (T := TX2) (N := 10) hx hb hts inX2 hown hK hP 0 rfl rfl 1 (by decide) f35 (fun _ h9 => h9) rfl dX2_differing_51 ?_
          obtain ⟨hvt, hvf⟩ := hvc
          refine lv_icmp_ge (tgt := 99) hx hb dX2_differing_54 (by decide) (fun hc => ?_) (fun hc => ?_)
          · have hvc := hvt hc
            refine lv_lload_n hx hb dX2_differing_99 rfl (lv_at hl 2 rfl) ?_
            exact hret l2 () _ _ _ _ hvc hP hD hS dX2_differing_100
          · have hvc := hvf hc
            refine lv_aload_n hx hb dX2_differing_57 rfl (lv_at hl 0 rfl) ?_
            refine va_get (D := D) (ci := 2) (C := RX2) (T := TX2) (N := 10) hx hb hts inX2 hown hK hP 0 rfl rfl 8 (by decide) f24 (fun _ h9 => h9) rfl dX2_differing_58 ?_
            refine lv_iload hx hb dX2_differing_61 (lv_at hl 3 rfl) ?_
            obtain ⟨hi, hvc⟩ := hvc
            refine va_iald hx hb hK hP 2 0 rfl rfl hi dX2_differing_63 ?_
            refine lv_iconst (v := (-1)) hx hb dX2_differing_64 (by decide) ?_
            obtain ⟨hvt, hvf⟩ := hvc
            refine lv_icmp_eq (tgt := 93) hx hb dX2_differing_65 (by decide) (fun hc => ?_) (fun hc => ?_)
            · have hvc := hvt hc
              exact w93 l2 l4 _ _ _ hvc hP hD hS (lv_sub hl [0, 1, 2, 3] rfl)
            · have hvc := hvf hc
              refine lv_lload_n hx hb dX2_differing_68 rfl (lv_at hl 2 rfl) ?_
              refine lv_aload_n hx hb dX2_differing_69 rfl (lv_at hl 0 rfl) ?_
              refine va_get (D := D) (ci := 2) (C := RX2) (T := TX2) (N := 10) hx hb hts inX2 hown hK hP 0 rfl rfl 9 (by decide) f27 (fun _ h9 => h9) rfl dX2_differing_70 ?_
              refine lv_aload_n hx hb dX2_differing_73 rfl (lv_at hl 0 rfl) ?_
              refine va_get (D := D) (ci := 2) (C := RX2) (T := TX2) (N := 10) hx hb hts inX2 hown hK hP 0 rfl rfl 8 (by decide) f24 (fun _ h9 => h9) rfl dX2_differing_74 ?_
              refine lv_iload hx hb dX2_differing_77 (lv_at hl 3 rfl) ?_
              obtain ⟨hi, hvc⟩ := hvc
              refine va_iald hx hb hK hP 2 0 rfl rfl hi dX2_differing_79 ?_
              obtain ⟨hi, hvc⟩ := hvc
              refine va_lald hx hb hK hP 3 1 rfl rfl hi dX2_differing_80 ?_
              refine lv_aload_n hx hb dX2_differing_81 rfl (lv_at hl 1 rfl) ?_
              refine lv_aload_n hx hb dX2_differing_82 rfl (lv_at hl 0 rfl) ?_
              refine va_get (D := D) (ci := 2) (C := RX2) (T := TX2) (N := 10) hx hb hts inX2 hown hK hP 0 rfl rfl 8 (by decide) f24 (fun _ h9 => h9) rfl dX2_differing_83 ?_
              refine lv_iload hx hb dX2_differing_86 (lv_at hl 3 rfl) ?_
              obtain ⟨hi, hvc⟩ := hvc
              refine va_iald hx hb hK hP 2 0 rfl rfl hi dX2_differing_88 ?_
              obtain ⟨hi, hvc⟩ := hvc
              refine va_lald hx hb hK hP 1 1 rfl rfl hi dX2_differing_89 ?_
              refine lv_lxor hx hb dX2_differing_90 ?_
              refine lv_lor hx hb dX2_differing_91 ?_
              refine lv_topl (fun v2 ev2 => ?_)
              have hvc := hvc v2 ev2
              refine lv_lstore_n (lv' := [(2, .long v2), (0, .ref (h_c 0)), (1, .ref (h_y 0)), (4, .int l4)]) hx hb dX2_differing_92 rfl hl (by decide) rfl (fun ls hl => ?_)
              exact w93 v2 l4 _ _ _ hvc hP hD hS (lv_sub hl [1, 2, 0, 3] rfl)
      intro l2 l4 H locs ls hvc hP hD hS hl
      refine lv_iload hx hb dX2_differing_5 (lv_at hl 3 rfl) ?_
      refine lv_aload_n hx hb dX2_differing_7 rfl (lv_at hl 0 rfl) ?_
      refine va_get (D := D) (ci := 2) (C := RX2) (T := TX2) (N := 10) hx hb hts inX2 hown hK hP 0 rfl rfl 3 (by decide) f41 (fun _ h9 => h9) rfl dX2_differing_8 ?_
      obtain ⟨hvt, hvf⟩ := hvc
      refine lv_icmp_ge (tgt := 45) hx hb dX2_differing_11 (by decide) (fun hc => ?_) (fun hc => ?_)
      · have hvc := hvt hc
        refine lv_iconst (v := 0) hx hb dX2_differing_45 (by decide) ?_
        refine lv_istore (lv' := [(4, .int (0 : Int32)), (0, .ref (h_c 0)), (1, .ref (h_y 0)), (2, .long l2)]) hx hb dX2_differing_46 hl (by decide) rfl (fun ls hl => ?_)
        obtain ⟨n_, hvc⟩ := hvc
        exact w48 n_ l2 (0 : Int32) _ _ _ hvc hP hD hS (lv_sub hl [1, 2, 3, 0] rfl)
      · have hvc := hvf hc
        refine lv_lload_n hx hb dX2_differing_14 rfl (lv_at hl 2 rfl) ?_
        refine lv_aload_n hx hb dX2_differing_15 rfl (lv_at hl 0 rfl) ?_
        refine va_get (D := D) (ci := 2) (C := RX2) (T := TX2) (N := 10) hx hb hts inX2 hown hK hP 0 rfl rfl 9 (by decide) f27 (fun _ h9 => h9) rfl dX2_differing_16 ?_
        refine lv_aload_n hx hb dX2_differing_19 rfl (lv_at hl 0 rfl) ?_
        refine va_get (D := D) (ci := 2) (C := RX2) (T := TX2) (N := 10) hx hb hts inX2 hown hK hP 0 rfl rfl 7 (by decide) f21 (fun _ h9 => h9) rfl dX2_differing_20 ?_
        refine lv_iload hx hb dX2_differing_23 (lv_at hl 3 rfl) ?_
        obtain ⟨hi, hvc⟩ := hvc
        refine va_iald hx hb hK hP 4 0 rfl rfl hi dX2_differing_25 ?_
        obtain ⟨hi, hvc⟩ := hvc
        refine va_lald hx hb hK hP 3 1 rfl rfl hi dX2_differing_26 ?_
        refine lv_aload_n hx hb dX2_differing_27 rfl (lv_at hl 1 rfl) ?_
        refine lv_aload_n hx hb dX2_differing_28 rfl (lv_at hl 0 rfl) ?_
        refine va_get (D := D) (ci := 2) (C := RX2) (T := TX2) (N := 10) hx hb hts inX2 hown hK hP 0 rfl rfl 7 (by decide) f21 (fun _ h9 => h9) rfl dX2_differing_29 ?_
        refine lv_iload hx hb dX2_differing_32 (lv_at hl 3 rfl) ?_
        obtain ⟨hi, hvc⟩ := hvc
        refine va_iald hx hb hK hP 4 0 rfl rfl hi dX2_differing_34 ?_
        obtain ⟨hi, hvc⟩ := hvc
        refine va_lald hx hb hK hP 1 1 rfl rfl hi dX2_differing_35 ?_
        refine lv_lxor hx hb dX2_differing_36 ?_
        refine lv_lor hx hb dX2_differing_37 ?_
        refine lv_topl (fun v3 ev3 => ?_)
        have hvc := hvc v3 ev3
        refine lv_lstore_n (lv' := [(2, .long v3), (0, .ref (h_c 0)), (1, .ref (h_y 0)), (4, .int l4)]) hx hb dX2_differing_38 rfl hl (by decide) rfl (fun ls hl => ?_)
        obtain ⟨v4, ev4⟩ : ∃ y : Int32, y = l4 + (1 : Int32) := ⟨_, rfl⟩
        have hvc := hvc v4 ev4
        refine lv_iinc (v := v4) (lv' := [(4, .int v4), (2, .long v3), (0, .ref (h_c 0)), (1, .ref (h_y 0))]) hx hb dX2_differing_39 hl (k := 3) rfl (by rw [ev4]; rfl) (by decide) rfl (fun ls hl => ?_)
        refine lv_goto (tgt := 5) hx hb dX2_differing_42 (by decide) ?_
        exact ih5 v3 v4 _ _ _ hvc hP hD hS (lv_sub hl [2, 3, 1, 0] rfl)
  have hl : lv_has ls 5 [(0, .ref (h_c 0)), (1, .ref (h_y 0))] := hl
  refine lv_lconst (v := 0) hx hb dX2_differing_0 (by decide) ?_
  refine lv_lstore_n (lv' := [(2, .long (0 : Int64)), (0, .ref (h_c 0)), (1, .ref (h_y 0))]) hx hb dX2_differing_1 rfl hl (by decide) rfl (fun ls hl => ?_)
  refine lv_iconst (v := 0) hx hb dX2_differing_2 (by decide) ?_
  refine lv_istore (lv' := [(4, .int (0 : Int32)), (2, .long (0 : Int64)), (0, .ref (h_c 0)), (1, .ref (h_y 0))]) hx hb dX2_differing_3 hl (by decide) rfl (fun ls hl => ?_)
  obtain ⟨n_, hvc⟩ := hvc
  exact w5 n_ (0 : Int64) (0 : Int32) _ _ _ hvc hP hD hS (lv_sub hl [2, 3, 1, 0] rfl)
