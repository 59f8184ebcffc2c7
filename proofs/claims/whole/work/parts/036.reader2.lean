def v_X4_source_b78 (r_length : Int32) (r_tape : Nat → Int32) (Q : Int32 → Int32 → Int32 → Int32 → Int32 → Int32 → Int32 → Int32 → Int32 → (Nat → Int32) → Prop)  : Int32 → Int32 → Int32 → Int32 → Int32 → Int32 → Int32 → Int32 → (Nat → Int32) → Prop := fun (r_fault : Int32) (r_place : Int32) (r_at : Int32) (r_end : Int32) (r_name : Int32) (d_inputs : Int32) (d_flops : Int32) (d_nets : Int32) (r_netOfName : Nat → Int32) => v_X4_advance  r_length r_at r_end r_name r_tape (fun (n1 : Int32) (n2 : Int32) (n3 : Int32) => Q (1 : Int32) r_fault r_place n1 n2 n3 d_inputs d_flops d_nets r_netOfName)
def v_X4_source (r_length : Int32) (r_fault : Int32) (r_place : Int32) (r_at : Int32) (r_end : Int32) (r_name : Int32) (d_inputs : Int32) (d_flops : Int32) (d_nets : Int32) (r_netOfName : Nat → Int32) (r_tape : Nat → Int32) (p0 : Int32) (Q : Int32 → Int32 → Int32 → Int32 → Int32 → Int32 → Int32 → Int32 → Int32 → (Nat → Int32) → Prop) : Prop := (¬ r_name = (-1 : Int32) → v_X4_mayGive  r_fault r_place d_nets r_netOfName r_name r_at (10 : Int32) (fun (r6 : Int32) (n4 : Int32) (n5 : Int32) => (¬ r6 = (0) → v_X4_give  d_nets r_netOfName r_name (fun (n7 : Int32) (n8 : Nat → Int32) => (p0 = (0) → ∀ v9 : Int32, v9 = d_inputs + (1 : Int32) → v_X4_source_b78 r_length r_tape Q  n4 n5 r_at r_end r_name v9 d_flops n7 n8) ∧ (¬ p0 = (0) → ∀ v10 : Int32, v10 = d_flops + (1 : Int32) → v_X4_source_b78 r_length r_tape Q  n4 n5 r_at r_end r_name d_inputs v10 n7 n8))) ∧ (r6 = (0) → Q (0 : Int32) n4 n5 r_at r_end r_name d_inputs d_flops d_nets r_netOfName))) ∧ (r_name = (-1 : Int32) → v_X4_refuse  r_fault r_place (1 : Int32) r_at (fun (r13 : Int32) (n11 : Int32) (n12 : Int32) => (narrow .boolean (.int r13) = .int r13) ∧ Q r13 n11 n12 r_at r_end r_name d_inputs d_flops d_nets r_netOfName))
theorem hd_X4_source : yX4_source.cls = RX4 ∧ yX4_source.cls ≠ "java/lang/invoke/MethodHandle" ∧ yX4_source.cls ≠ "java/lang/invoke/VarHandle" ∧ (parseMethodDescriptor yX4_source.desc).map (fun d => d.parameters.length) = some 1 := by decide +kernel
abbrev rm_X4_source : Room := { frames := 2, cells := 0, slots := 0, locals := 45 }
set_option maxHeartbeats 4000000 in
set_option maxRecDepth 100000 in
theorem c_X4_source (l : Launch) (D : va_G) (ts : Nat → Nat) (cyI cyJ cyZ : ClassId) (h_d : Nat → Nat) (h_r : Nat → Nat) (sz : Nat) (r_length : Int32) (r_fault : Int32) (r_place : Int32) (r_at : Int32) (r_end : Int32) (r_name : Int32) (d_inputs : Int32) (d_flops : Int32) (d_nets : Int32) (d_outputs : Int32) (r_netOfName : Nat → Int32) (r_tape : Nat → Int32) (p0 : Int32) (Q : Int32 → Int32 → Int32 → Int32 → Int32 → Int32 → Int32 → Int32 → Int32 → (Nat → Int32) → Prop) (hvc : v_X4_source r_length r_fault r_place r_at r_end r_name d_inputs d_flops d_nets r_netOfName r_tape p0 Q) : Met l yX4_source wsX4_source rm_X4_source (va_Pc [.ref (h_r 0), .int p0] (cPre D ts [(cyI, .int), (cyJ, .long), (cyZ, .boolean)] [(h_r 0, .inr (4, [.ref (h_d 0), .ref (h_r 2), .ref (h_r 3), .int r_length, .int r_fault, .int r_place, .int r_at, .int r_end, .int r_name])), (h_d 0, .inr (2, [.int d_inputs, .int d_flops, .int d_nets, .int d_outputs, .ref (h_d 5), .ref (h_d 6), .ref (h_d 7), .ref (h_d 8), .ref (h_d 9), .ref (h_d 10)])), (h_r 3, .inl (cyI, 286, .inl r_netOfName)), (h_r 2, .inl (cyI, 900, .inl r_tape))] sz)) (va_Qi (fun (r : Int32) (u : Int32 × Int32 × Int32 × Int32 × Int32 × Int32 × Int32 × Int32 × (Nat → Int32)) => Q r u.1 u.2.1 u.2.2.1 u.2.2.2.1 u.2.2.2.2.1 u.2.2.2.2.2.1 u.2.2.2.2.2.2.1 u.2.2.2.2.2.2.2.1 u.2.2.2.2.2.2.2.2) (cPost D [(cyI, .int), (cyJ, .long), (cyZ, .boolean)] (fun (u : Int32 × Int32 × Int32 × Int32 × Int32 × Int32 × Int32 × Int32 × (Nat → Int32)) => [(h_r 0, .inr (4, [.ref (h_d 0), .ref (h_r 2), .ref (h_r 3), .int r_length, .int (u.1), .int (u.2.1), .int (u.2.2.1), .int (u.2.2.2.1), .int (u.2.2.2.2.1)])), (h_d 0, .inr (2, [.int (u.2.2.2.2.2.1), .int (u.2.2.2.2.2.2.1), .int (u.2.2.2.2.2.2.2.1), .int d_outputs, .ref (h_d 5), .ref (h_d 6), .ref (h_d 7), .ref (h_d 8), .ref (h_d 9), .ref (h_d 10)])), (h_r 3, .inl (cyI, 286, .inl (u.2.2.2.2.2.2.2.2))), (h_r 2, .inl (cyI, 900, .inl r_tape))]) (va_A [(h_r 0, .inr (4, [.ref (h_d 0), .ref (h_r 2), .ref (h_r 3), .int r_length, .int r_fault, .int r_place, .int r_at, .int r_end, .int r_name])), (h_d 0, .inr (2, [.int d_inputs, .int d_flops, .int d_nets, .int d_outputs, .ref (h_d 5), .ref (h_d 6), .ref (h_d 7), .ref (h_d 8), .ref (h_d 9), .ref (h_d 10)])), (h_r 3, .inl (cyI, 286, .inl r_netOfName)), (h_r 2, .inl (cyI, 900, .inl r_tape))] sz)) (va_A [(h_r 0, .inr (4, [.ref (h_d 0), .ref (h_r 2), .ref (h_r 3), .int r_length, .int r_fault, .int r_place, .int r_at, .int r_end, .int r_name])), (h_d 0, .inr (2, [.int d_inputs, .int d_flops, .int d_nets, .int d_outputs, .ref (h_d 5), .ref (h_d 6), .ref (h_d 7), .ref (h_d 8), .ref (h_d 9), .ref (h_d 10)])), (h_r 3, .inl (cyI, 286, .inl r_netOfName)), (h_r 2, .inl (cyI, 900, .inl r_tape))] sz)) 0 0 (va_A [(h_r 0, .inr (4, [.ref (h_d 0), .ref (h_r 2), .ref (h_r 3), .int r_length, .int r_fault, .int r_place, .int r_at, .int r_end, .int r_name])), (h_d 0, .inr (2, [.int d_inputs, .int d_flops, .int d_nets, .int d_outputs, .ref (h_d 5), .ref (h_d 6), .ref (h_d 7), .ref (h_d 8), .ref (h_d 9), .ref (h_d 10)])), (h_r 3, .inl (cyI, 286, .inl r_netOfName)), (h_r 2, .inl (cyI, 900, .inl r_tape))] sz) := by
  refine kEnter_z (cc := cX4_source) (maxL := 2) (ty := .boolean) (by decide) rfl (Nat.le_of_ble_eq_true rfl) ?_
  intro p e s m args below meth c A ls QQ hx hb hml hown hts hsz hA hP hD hK hE hS hl hret
  clear hsz
  have hown : s.vm.findClass RX4 = some m.cls := hown
  have inX2 : ∀ w ∈ wsX20, w ∈ wsX4_source := fun _ h => List.mem_cons_of_mem _ (List.mem_append_right _ h)
  have inX4 : ∀ w ∈ wsX40, w ∈ wsX4_source := fun _ h => List.mem_cons_of_mem _ (List.mem_append_left _ (List.mem_append_right _ h))
  have f86 := hts (.fieldLink RX4 86 "ScanTester$Reader" "name" "I") (List.mem_of_getElem? (i := 1) rfl)
  have f75 := hts (.fieldLink RX4 75 "ScanTester$Reader" "at" "I") (List.mem_of_getElem? (i := 2) rfl)
  have f22 := hts (.fieldLink RX4 22 "ScanTester$Reader" "circuit" "LScanTester$Circuit;") (List.mem_of_getElem? (i := 3) rfl)
  have w78 : ∀ (r_fault : Int32) (r_place : Int32) (r_at : Int32) (r_end : Int32) (r_name : Int32) (d_inputs : Int32) (d_flops : Int32) (d_nets : Int32) (r_netOfName : Nat → Int32) (H : Heap) (locs : List Loc) (ls : Array Slot), v_X4_source_b78 r_length r_tape Q  r_fault r_place r_at r_end r_name d_inputs d_flops d_nets r_netOfName → va_P D vwCl [(h_r 0, .inr (4, [.ref (h_d 0), .ref (h_r 2), .ref (h_r 3), .int r_length, .int r_fault, .int r_place, .int r_at, .int r_end, .int r_name])), (h_d 0, .inr (2, [.int d_inputs, .int d_flops, .int d_nets, .int d_outputs, .ref (h_d 5), .ref (h_d 6), .ref (h_d 7), .ref (h_d 8), .ref (h_d 9), .ref (h_d 10)])), (h_r 3, .inl (cyI, 286, .inl r_netOfName)), (h_r 2, .inl (cyI, 900, .inl r_tape))] H → va_D A [(h_r 0, .inr (4, [.ref (h_d 0), .ref (h_r 2), .ref (h_r 3), .int r_length, .int r_fault, .int r_place, .int r_at, .int r_end, .int r_name])), (h_d 0, .inr (2, [.int d_inputs, .int d_flops, .int d_nets, .int d_outputs, .ref (h_d 5), .ref (h_d 6), .ref (h_d 7), .ref (h_d 8), .ref (h_d 9), .ref (h_d 10)])), (h_r 3, .inl (cyI, 286, .inl r_netOfName)), (h_r 2, .inl (cyI, 900, .inl r_tape))] → va_S A s.heap H locs → lv_has ls 2 [(0, .ref (h_r 0))] → W p l e rm_X4_source s m args below meth c H locs 0 0 QQ (F0 m 78 ls []) := by
    intro r_fault r_place r_at r_end r_name d_inputs d_flops d_nets r_netOfName H locs ls hvc hP hD hS hl
    delta v_X4_source_b78 at hvc
    refine lv_aload_n hx hb dX4_source_78 rfl (lv_at hl 0 rfl) ?_
    refine kV_v (wc := [(h_r 0, .inr (4, [.ref (h_d 0), .ref (h_r 2), .ref (h_r 3), .int r_length, .int r_fault, .int r_place, .int r_at, .int r_end, .int r_name])), (h_r 2, .inl (cyI, 900, .inl r_tape))]) (wr := [(h_d 0, .inr (2, [.int d_inputs, .int d_flops, .int d_nets, .int d_outputs, .ref (h_d 5), .ref (h_d 6), .ref (h_d 7), .ref (h_d 8), .ref (h_d 9), .ref (h_d 10)])), (h_r 3, .inl (cyI, 286, .inl r_netOfName))]) (As := []) (rest := []) ⟨hx, hb, hml, hown, hts⟩ hP hD hK hE hS hA [0, 3] [1, 2] rfl rfl (by decide) (by decide) (by decide) (c_X4_advance l D ts cyI cyJ cyZ h_d h_r _ r_length r_fault r_place r_at r_end r_name r_tape _ hvc) (cwV 0 hts gX4_source_X4_advance rfl rfl rfl hd_X4_advance ⟨Nat.le_of_ble_eq_true rfl, Nat.le_of_ble_eq_true rfl⟩) (ci := 4) rfl rfl rfl hl.1 rfl (Nat.zero_le _) (Nat.zero_le _) rfl (Nat.le_of_ble_eq_true rfl) dX4_source_79 (fun u H locs hvc hP hD hS => ?_)
    obtain ⟨n1, n2, n3⟩ := u
    try dsimp only at hvc
    have hP : va_P D vwCl [(h_r 0, .inr (4, [.ref (h_d 0), .ref (h_r 2), .ref (h_r 3), .int r_length, .int r_fault, .int r_place, .int n1, .int n2, .int n3])), (h_d 0, .inr (2, [.int d_inputs, .int d_flops, .int d_nets, .int d_outputs, .ref (h_d 5), .ref (h_d 6), .ref (h_d 7), .ref (h_d 8), .ref (h_d 9), .ref (h_d 10)])), (h_r 3, .inl (cyI, 286, .inl r_netOfName)), (h_r 2, .inl (cyI, 900, .inl r_tape))] H := sub_P hP (isC := [2, 0, 1, 3]) rfl
    have hD : va_D A [(h_r 0, .inr (4, [.ref (h_d 0), .ref (h_r 2), .ref (h_r 3), .int r_length, .int r_fault, .int r_place, .int n1, .int n2, .int n3])), (h_d 0, .inr (2, [.int d_inputs, .int d_flops, .int d_nets, .int d_outputs, .ref (h_d 5), .ref (h_d 6), .ref (h_d 7), .ref (h_d 8), .ref (h_d 9), .ref (h_d 10)])), (h_r 3, .inl (cyI, 286, .inl r_netOfName)), (h_r 2, .inl (cyI, 900, .inl r_tape))] := hD.sub [2, 0, 1, 3] (by decide) rfl
    refine lv_iconst (v := 1) hx hb dX4_source_82 (by decide) ?_
    exact hret (1 : Int32) (r_fault, r_place, n1, n2, n3, d_inputs, d_flops, d_nets, r_netOfName) _ _ _ _ rfl hvc hP hD hS dX4_source_83
  have hl : lv_has ls 2 [(0, .ref (h_r 0)), (1, .int p0)] := hl
  refine lv_aload_n hx hb dX4_source_0 rfl (lv_at hl 0 rfl) ?_
  refine va_get (D := D) (ci := 4) (C := RX4) (T := TX4) (N := 9) hx hb hts inX4 hown hK hP 0 rfl rfl 8 (by decide) f86 (fun _ h9 => h9) rfl dX4_source_1 ?_
  refine lv_iconst (v := (-1)) hx hb dX4_source_4 (by decide) ?_
  obtain ⟨hvt, hvf⟩ := hvc
  refine lv_icmp_ne (tgt := 18) hx hb dX4_source_5 (by decide) (fun hc => ?_) (fun hc => ?_)
  · have hvc := hvt hc
    refine lv_aload_n hx hb dX4_source_18 rfl (lv_at hl 0 rfl) ?_
    refine lv_aload_n hx hb dX4_source_19 rfl (lv_at hl 0 rfl) ?_
    refine va_get (D := D) (ci := 4) (C := RX4) (T := TX4) (N := 9) hx hb hts inX4 hown hK hP 0 rfl rfl 8 (by decide) f86 (fun _ h9 => h9) rfl dX4_source_20 ?_
    refine lv_aload_n hx hb dX4_source_23 rfl (lv_at hl 0 rfl) ?_
    refine va_get (D := D) (ci := 4) (C := RX4) (T := TX4) (N := 9) hx hb hts inX4 hown hK hP 0 rfl rfl 6 (by decide) f75 (fun _ h9 => h9) rfl dX4_source_24 ?_
    refine lv_bipush (v := 10) hx hb dX4_source_27 (by decide) ?_
    refine kV_i (wc := [(h_r 0, .inr (4, [.ref (h_d 0), .ref (h_r 2), .ref (h_r 3), .int r_length, .int r_fault, .int r_place, .int r_at, .int r_end, .int r_name])), (h_d 0, .inr (2, [.int d_inputs, .int d_flops, .int d_nets, .int d_outputs, .ref (h_d 5), .ref (h_d 6), .ref (h_d 7), .ref (h_d 8), .ref (h_d 9), .ref (h_d 10)])), (h_r 3, .inl (cyI, 286, .inl r_netOfName))]) (wr := [(h_r 2, .inl (cyI, 900, .inl r_tape))]) (As := [.int r_name, .int r_at, .int (10 : Int32)]) (rest := []) ⟨hx, hb, hml, hown, hts⟩ hP hD hK hE hS hA [0, 1, 2] [3] rfl rfl (by decide) (by decide) (by decide) (c_X4_mayGive l D ts cyI cyJ cyZ h_d h_r _ r_length r_fault r_place r_at r_end r_name d_inputs d_flops d_nets d_outputs r_netOfName r_name r_at (10 : Int32) _ hvc) (cwV 3 hts gX4_source_X4_mayGive rfl rfl rfl hd_X4_mayGive ⟨Nat.le_of_ble_eq_true rfl, Nat.le_of_ble_eq_true rfl⟩) (ci := 4) rfl rfl rfl hl.1 rfl (Nat.zero_le _) (Nat.zero_le _) rfl (Nat.le_of_ble_eq_true rfl) dX4_source_29 (fun r6 u H locs hvc hP hD hS => ?_)
    obtain ⟨n4, n5⟩ := u
    try dsimp only at hvc
    have hP : va_P D vwCl [(h_r 0, .inr (4, [.ref (h_d 0), .ref (h_r 2), .ref (h_r 3), .int r_length, .int n4, .int n5, .int r_at, .int r_end, .int r_name])), (h_d 0, .inr (2, [.int d_inputs, .int d_flops, .int d_nets, .int d_outputs, .ref (h_d 5), .ref (h_d 6), .ref (h_d 7), .ref (h_d 8), .ref (h_d 9), .ref (h_d 10)])), (h_r 3, .inl (cyI, 286, .inl r_netOfName)), (h_r 2, .inl (cyI, 900, .inl r_tape))] H := sub_P hP (isC := [1, 2, 3, 0]) rfl
    have hD : va_D A [(h_r 0, .inr (4, [.ref (h_d 0), .ref (h_r 2), .ref (h_r 3), .int r_length, .int n4, .int n5, .int r_at, .int r_end, .int r_name])), (h_d 0, .inr (2, [.int d_inputs, .int d_flops, .int d_nets, .int d_outputs, .ref (h_d 5), .ref (h_d 6), .ref (h_d 7), .ref (h_d 8), .ref (h_d 9), .ref (h_d 10)])), (h_r 3, .inl (cyI, 286, .inl r_netOfName)), (h_r 2, .inl (cyI, 900, .inl r_tape))] := hD.sub [1, 2, 3, 0] (by decide) rfl
    obtain ⟨hvt, hvf⟩ := hvc
    refine lv_if_ne (tgt := 37) hx hb dX4_source_32 (by decide) (fun hc => ?_) (fun hc => ?_)
    · have hvc := hvt hc
      refine lv_aload_n hx hb dX4_source_37 rfl (lv_at hl 0 rfl) ?_
      refine lv_aload_n hx hb dX4_source_38 rfl (lv_at hl 0 rfl) ?_
      refine va_get (D := D) (ci := 4) (C := RX4) (T := TX4) (N := 9) hx hb hts inX4 hown hK hP 0 rfl rfl 8 (by decide) f86 (fun _ h9 => h9) rfl dX4_source_39 ?_
      refine kV_v (wc := [(h_r 0, .inr (4, [.ref (h_d 0), .ref (h_r 2), .ref (h_r 3), .int r_length, .int n4, .int n5, .int r_at, .int r_end, .int r_name])), (h_d 0, .inr (2, [.int d_inputs, .int d_flops, .int d_nets, .int d_outputs, .ref (h_d 5), .ref (h_d 6), .ref (h_d 7), .ref (h_d 8), .ref (h_d 9), .ref (h_d 10)])), (h_r 3, .inl (cyI, 286, .inl r_netOfName))]) (wr := [(h_r 2, .inl (cyI, 900, .inl r_tape))]) (As := [.int r_name]) (rest := []) ⟨hx, hb, hml, hown, hts⟩ hP hD hK hE hS hA [0, 1, 2] [3] rfl rfl (by decide) (by decide) (by decide) (c_X4_give l D ts cyI cyJ cyZ h_d h_r _ r_length n4 n5 r_at r_end r_name d_inputs d_flops d_nets d_outputs r_netOfName r_name _ hvc) (cwV 1 hts gX4_source_X4_give rfl rfl rfl hd_X4_give ⟨Nat.le_of_ble_eq_true rfl, Nat.le_of_ble_eq_true rfl⟩) (ci := 4) rfl rfl rfl hl.1 rfl (Nat.zero_le _) (Nat.zero_le _) rfl (Nat.le_of_ble_eq_true rfl) dX4_source_42 (fun u H locs hvc hP hD hS => ?_)
      obtain ⟨n7, n8⟩ := u
      try dsimp only at hvc
      have hP : va_P D vwCl [(h_r 0, .inr (4, [.ref (h_d 0), .ref (h_r 2), .ref (h_r 3), .int r_length, .int n4, .int n5, .int r_at, .int r_end, .int r_name])), (h_d 0, .inr (2, [.int d_inputs, .int d_flops, .int n7, .int d_outputs, .ref (h_d 5), .ref (h_d 6), .ref (h_d 7), .ref (h_d 8), .ref (h_d 9), .ref (h_d 10)])), (h_r 3, .inl (cyI, 286, .inl n8)), (h_r 2, .inl (cyI, 900, .inl r_tape))] H := sub_P hP (isC := [1, 2, 3, 0]) rfl
      have hD : va_D A [(h_r 0, .inr (4, [.ref (h_d 0), .ref (h_r 2), .ref (h_r 3), .int r_length, .int n4, .int n5, .int r_at, .int r_end, .int r_name])), (h_d 0, .inr (2, [.int d_inputs, .int d_flops, .int n7, .int d_outputs, .ref (h_d 5), .ref (h_d 6), .ref (h_d 7), .ref (h_d 8), .ref (h_d 9), .ref (h_d 10)])), (h_r 3, .inl (cyI, 286, .inl n8)), (h_r 2, .inl (cyI, 900, .inl r_tape))] := hD.sub [1, 2, 3, 0] (by decide) rfl
      refine lv_iload_n hx hb dX4_source_45 rfl (lv_at hl 1 rfl) ?_
      obtain ⟨hvt, hvf⟩ := hvc
      refine lv_if_eq (tgt := 65) hx hb dX4_source_46 (by decide) (fun hc => ?_) (fun hc => ?_)
      · have hvc := hvt hc
        refine lv_aload_n hx hb dX4_source_65 rfl (lv_at hl 0 rfl) ?_
        refine va_get (D := D) (ci := 4) (C := RX4) (T := TX4) (N := 9) hx hb hts inX4 hown hK hP 0 rfl rfl 0 (by decide) f22 (fun _ h9 => h9) rfl dX4_source_66 ?_
        refine lv_dup hx hb dX4_source_69 rfl ?_
        refine va_getN (D := D) (ci := 2) (C := RX2) (T := TX2) (N := 10) hx hb hts inX2 hown hK hP 1 rfl rfl 0 (by decide) hE.n3 (fun _ h9 => h9) rfl dX4_source_70 ?_
        refine lv_iconst (v := 1) hx hb dX4_source_73 (by decide) ?_
        refine lv_iadd hx hb dX4_source_74 ?_
        refine lv_topi (fun v9 ev9 => ?_)
        have hvc := hvc v9 ev9
        refine va_putN (D := D) (ci := 2) (ty := .int) (C := RX2) (T := TX2) (N := 10) hx hb hts inX2 tyX2 tyX2_ok nmX2 hown hK hP hD hS 1 rfl rfl 0 (by decide) hE.n3 (fun _ h9 => h9) rfl (by decide +kernel) rfl rfl (Nat.le_of_ble_eq_true rfl) dX4_source_75 (fun H locs hP hD hS => ?_)
        have hP : va_P D vwCl [(h_r 0, .inr (4, [.ref (h_d 0), .ref (h_r 2), .ref (h_r 3), .int r_length, .int n4, .int n5, .int r_at, .int r_end, .int r_name])), (h_d 0, .inr (2, [.int v9, .int d_flops, .int n7, .int d_outputs, .ref (h_d 5), .ref (h_d 6), .ref (h_d 7), .ref (h_d 8), .ref (h_d 9), .ref (h_d 10)])), (h_r 3, .inl (cyI, 286, .inl n8)), (h_r 2, .inl (cyI, 900, .inl r_tape))] H := hP
        have hD : va_D A [(h_r 0, .inr (4, [.ref (h_d 0), .ref (h_r 2), .ref (h_r 3), .int r_length, .int n4, .int n5, .int r_at, .int r_end, .int r_name])), (h_d 0, .inr (2, [.int v9, .int d_flops, .int n7, .int d_outputs, .ref (h_d 5), .ref (h_d 6), .ref (h_d 7), .ref (h_d 8), .ref (h_d 9), .ref (h_d 10)])), (h_r 3, .inl (cyI, 286, .inl n8)), (h_r 2, .inl (cyI, 900, .inl r_tape))] := hD
        exact w78 n4 n5 r_at r_end r_name v9 d_flops n7 n8 _ _ _ hvc hP hD hS (lv_sub hl [0] rfl)
      · have hvc := hvf hc
        refine lv_aload_n hx hb dX4_source_49 rfl (lv_at hl 0 rfl) ?_
        refine va_get (D := D) (ci := 4) (C := RX4) (T := TX4) (N := 9) hx hb hts inX4 hown hK hP 0 rfl rfl 0 (by decide) f22 (fun _ h9 => h9) rfl dX4_source_50 ?_
        refine lv_dup hx hb dX4_source_53 rfl ?_
        refine va_getN (D := D) (ci := 2) (C := RX2) (T := TX2) (N := 10) hx hb hts inX2 hown hK hP 1 rfl rfl 1 (by decide) hE.n7 (fun _ h9 => h9) rfl dX4_source_54 ?_
        refine lv_iconst (v := 1) hx hb dX4_source_57 (by decide) ?_
        refine lv_iadd hx hb dX4_source_58 ?_
        refine lv_topi (fun v10 ev10 => ?_)
        have hvc := hvc v10 ev10
        refine va_putN (D := D) (ci := 2) (ty := .int) (C := RX2) (T := TX2) (N := 10) hx hb hts inX2 tyX2 tyX2_ok nmX2 hown hK hP hD hS 1 rfl rfl 1 (by decide) hE.n7 (fun _ h9 => h9) rfl (by decide +kernel) rfl rfl (Nat.le_of_ble_eq_true rfl) dX4_source_59 (fun H locs hP hD hS => ?_)
        have hP : va_P D vwCl [(h_r 0, .inr (4, [.ref (h_d 0), .ref (h_r 2), .ref (h_r 3), .int r_length, .int n4, .int n5, .int r_at, .int r_end, .int r_name])), (h_d 0, .inr (2, [.int d_inputs, .int v10, .int n7, .int d_outputs, .ref (h_d 5), .ref (h_d 6), .ref (h_d 7), .ref (h_d 8), .ref (h_d 9), .ref (h_d 10)])), (h_r 3, .inl (cyI, 286, .inl n8)), (h_r 2, .inl (cyI, 900, .inl r_tape))] H := hP
        have hD : va_D A [(h_r 0, .inr (4, [.ref (h_d 0), .ref (h_r 2), .ref (h_r 3), .int r_length, .int n4, .int n5, .int r_at, .int r_end, .int r_name])), (h_d 0, .inr (2, [.int d_inputs, .int v10, .int n7, .int d_outputs, .ref (h_d 5), .ref (h_d 6), .ref (h_d 7), .ref (h_d 8), .ref (h_d 9), .ref (h_d 10)])), (h_r 3, .inl (cyI, 286, .inl n8)), (h_r 2, .inl (cyI, 900, .inl r_tape))] := hD
        refine lv_goto (tgt := 78) hx hb dX4_source_62 (by decide) ?_
        exact w78 n4 n5 r_at r_end r_name d_inputs v10 n7 n8 _ _ _ hvc hP hD hS (lv_sub hl [0] rfl)
    · have hvc := hvf hc
      refine lv_iconst (v := 0) hx hb dX4_source_35 (by decide) ?_
      exact hret (0 : Int32) (n4, n5, r_at, r_end, r_name, d_inputs, d_flops, d_nets, r_netOfName) _ _ _ _ rfl hvc hP hD hS dX4_source_36
  · have hvc := hvf hc
    refine lv_aload_n hx hb dX4_source_8 rfl (lv_at hl 0 rfl) ?_
    refine lv_iconst (v := 1) hx hb dX4_source_9 (by decide) ?_
    refine lv_aload_n hx hb dX4_source_10 rfl (lv_at hl 0 rfl) ?_
    refine va_get (D := D) (ci := 4) (C := RX4) (T := TX4) (N := 9) hx hb hts inX4 hown hK hP 0 rfl rfl 6 (by decide) f75 (fun _ h9 => h9) rfl dX4_source_11 ?_
    refine kV_i (wc := [(h_r 0, .inr (4, [.ref (h_d 0), .ref (h_r 2), .ref (h_r 3), .int r_length, .int r_fault, .int r_place, .int r_at, .int r_end, .int r_name]))]) (wr := [(h_d 0, .inr (2, [.int d_inputs, .int d_flops, .int d_nets, .int d_outputs, .ref (h_d 5), .ref (h_d 6), .ref (h_d 7), .ref (h_d 8), .ref (h_d 9), .ref (h_d 10)])), (h_r 3, .inl (cyI, 286, .inl r_netOfName)), (h_r 2, .inl (cyI, 900, .inl r_tape))]) (As := [.int (1 : Int32), .int r_at]) (rest := []) ⟨hx, hb, hml, hown, hts⟩ hP hD hK hE hS hA [0] [1, 2, 3] rfl rfl (by decide) (by decide) (by decide) (c_X4_refuse l D ts cyI cyJ cyZ h_d h_r _ r_length r_fault r_place r_at r_end r_name (1 : Int32) r_at _ hvc) (cwV 2 hts gX4_source_X4_refuse rfl rfl rfl hd_X4_refuse ⟨Nat.le_of_ble_eq_true rfl, Nat.le_of_ble_eq_true rfl⟩) (ci := 4) rfl rfl rfl hl.1 rfl (Nat.zero_le _) (Nat.zero_le _) rfl (Nat.le_of_ble_eq_true rfl) dX4_source_14 (fun r13 u H locs hvc hP hD hS => ?_)
    obtain ⟨n11, n12⟩ := u
    try dsimp only at hvc
    have hP : va_P D vwCl [(h_r 0, .inr (4, [.ref (h_d 0), .ref (h_r 2), .ref (h_r 3), .int r_length, .int n11, .int n12, .int r_at, .int r_end, .int r_name])), (h_d 0, .inr (2, [.int d_inputs, .int d_flops, .int d_nets, .int d_outputs, .ref (h_d 5), .ref (h_d 6), .ref (h_d 7), .ref (h_d 8), .ref (h_d 9), .ref (h_d 10)])), (h_r 3, .inl (cyI, 286, .inl r_netOfName)), (h_r 2, .inl (cyI, 900, .inl r_tape))] H := sub_P hP (isC := [3, 0, 1, 2]) rfl
    have hD : va_D A [(h_r 0, .inr (4, [.ref (h_d 0), .ref (h_r 2), .ref (h_r 3), .int r_length, .int n11, .int n12, .int r_at, .int r_end, .int r_name])), (h_d 0, .inr (2, [.int d_inputs, .int d_flops, .int d_nets, .int d_outputs, .ref (h_d 5), .ref (h_d 6), .ref (h_d 7), .ref (h_d 8), .ref (h_d 9), .ref (h_d 10)])), (h_r 3, .inl (cyI, 286, .inl r_netOfName)), (h_r 2, .inl (cyI, 900, .inl r_tape))] := hD.sub [3, 0, 1, 2] (by decide) rfl
    obtain ⟨hn, hvc⟩ := hvc
    exact hret r13 (n11, n12, r_at, r_end, r_name, d_inputs, d_flops, d_nets, r_netOfName) _ _ _ _ hn hvc hP hD hS dX4_source_17
def v_X4_sourceList_b13 (r_length : Int32) (r_tape : Nat → Int32) (Q : Int32 → Int32 → Int32 → Int32 → Int32 → Int32 → Int32 → Int32 → Int32 → (Nat → Int32) → Prop)  : Nat → Int32 → Int32 → Int32 → Int32 → Int32 → Int32 → Int32 → Int32 → (Nat → Int32) → Int32 → Int32 → Prop
  | 0 => fun _ _ _ _ _ _ _ _ _ _ _ => False
  | z13_ + 1 => fun (r_fault : Int32) (r_place : Int32) (r_at : Int32) (r_end : Int32) (r_name : Int32) (d_inputs : Int32) (d_flops : Int32) (d_nets : Int32) (r_netOfName : Nat → Int32) (l1 : Int32) (l2 : Int32) => ((10 : Int32) < l2 → Q (0 : Int32) r_fault r_place r_at r_end r_name d_inputs d_flops d_nets r_netOfName) ∧ (¬ (10 : Int32) < l2 → v_X4_source  r_length r_fault r_place r_at r_end r_name d_inputs d_flops d_nets r_netOfName r_tape l1 (fun (r10 : Int32) (n1 : Int32) (n2 : Int32) (n3 : Int32) (n4 : Int32) (n5 : Int32) (n6 : Int32) (n7 : Int32) (n8 : Int32) (n9 : Nat → Int32) => (¬ r10 = (0) → v_X4_takes  r_length n3 n4 n5 r_tape (44 : Int32) (fun (r14 : Int32) (n11 : Int32) (n12 : Int32) (n13 : Int32) => (¬ r14 = (0) → ∀ v15 : Int32, v15 = l2 + (1 : Int32) → (v_X4_sourceList_b13 r_length r_tape Q  z13_) n1 n2 n11 n12 n13 n6 n7 n8 n9 l1 v15) ∧ (r14 = (0) → v_X4_mark  r_length n1 n2 n11 n12 n13 r_tape (59 : Int32) (fun (r21 : Int32) (n16 : Int32) (n17 : Int32) (n18 : Int32) (n19 : Int32) (n20 : Int32) => (narrow .boolean (.int r21) = .int r21) ∧ Q r21 n16 n17 n18 n19 n20 n6 n7 n8 n9)))) ∧ (r10 = (0) → Q (0 : Int32) n1 n2 n3 n4 n5 n6 n7 n8 n9)))
def v_X4_sourceList (r_length : Int32) (r_fault : Int32) (r_place : Int32) (r_at : Int32) (r_end : Int32) (r_name : Int32) (d_inputs : Int32) (d_flops : Int32) (d_nets : Int32) (r_tape : Nat → Int32) (r_netOfName : Nat → Int32) (p0 : Int32) (Q : Int32 → Int32 → Int32 → Int32 → Int32 → Int32 → Int32 → Int32 → Int32 → (Nat → Int32) → Prop) : Prop := v_X4_takes  r_length r_at r_end r_name r_tape (59 : Int32) (fun (r25 : Int32) (n22 : Int32) (n23 : Int32) (n24 : Int32) => (r25 = (0) → (∃ f13 : Nat, v_X4_sourceList_b13 r_length r_tape Q  f13 r_fault r_place n22 n23 n24 d_inputs d_flops d_nets r_netOfName p0 (0 : Int32))) ∧ (¬ r25 = (0) → Q (1 : Int32) r_fault r_place n22 n23 n24 d_inputs d_flops d_nets r_netOfName))
theorem hd_X4_sourceList : yX4_sourceList.cls = RX4 ∧ yX4_sourceList.cls ≠ "java/lang/invoke/MethodHandle" ∧ yX4_sourceList.cls ≠ "java/lang/invoke/VarHandle" ∧ (parseMethodDescriptor yX4_sourceList.desc).map (fun d => d.parameters.length) = some 1 := by decide +kernel
abbrev rm_X4_sourceList : Room := { frames := 4, cells := 0, slots := 0, locals := 84 }
set_option maxHeartbeats 4000000 in
set_option maxRecDepth 100000 in
theorem c_X4_sourceList (l : Launch) (D : va_G) (ts : Nat → Nat) (cyI cyJ cyZ : ClassId) (h_d : Nat → Nat) (h_r : Nat → Nat) (sz : Nat) (r_length : Int32) (r_fault : Int32) (r_place : Int32) (r_at : Int32) (r_end : Int32) (r_name : Int32) (d_inputs : Int32) (d_flops : Int32) (d_nets : Int32) (d_outputs : Int32) (r_tape : Nat → Int32) (r_netOfName : Nat → Int32) (p0 : Int32) (Q : Int32 → Int32 → Int32 → Int32 → Int32 → Int32 → Int32 → Int32 → Int32 → (Nat → Int32) → Prop) (hvc : v_X4_sourceList r_length r_fault r_place r_at r_end r_name d_inputs d_flops d_nets r_tape r_netOfName p0 Q) : Met l yX4_sourceList wsX4_sourceList rm_X4_sourceList (va_Pc [.ref (h_r 0), .int p0] (cPre D ts [(cyI, .int), (cyJ, .long), (cyZ, .boolean)] [(h_r 0, .inr (4, [.ref (h_d 0), .ref (h_r 2), .ref (h_r 3), .int r_length, .int r_fault, .int r_place, .int r_at, .int r_end, .int r_name])), (h_d 0, .inr (2, [.int d_inputs, .int d_flops, .int d_nets, .int d_outputs, .ref (h_d 5), .ref (h_d 6), .ref (h_d 7), .ref (h_d 8), .ref (h_d 9), .ref (h_d 10)])), (h_r 2, .inl (cyI, 900, .inl r_tape)), (h_r 3, .inl (cyI, 286, .inl r_netOfName))] sz)) (va_Qi (fun (r : Int32) (u : Int32 × Int32 × Int32 × Int32 × Int32 × Int32 × Int32 × Int32 × (Nat → Int32)) => Q r u.1 u.2.1 u.2.2.1 u.2.2.2.1 u.2.2.2.2.1 u.2.2.2.2.2.1 u.2.2.2.2.2.2.1 u.2.2.2.2.2.2.2.1 u.2.2.2.2.2.2.2.2) (cPost D [(cyI, .int), (cyJ, .long), (cyZ, .boolean)] (fun (u : Int32 × Int32 × Int32 × Int32 × Int32 × Int32 × Int32 × Int32 × (Nat → Int32)) => [(h_r 0, .inr (4, [.ref (h_d 0), .ref (h_r 2), .ref (h_r 3), .int r_length, .int (u.1), .int (u.2.1), .int (u.2.2.1), .int (u.2.2.2.1), .int (u.2.2.2.2.1)])), (h_d 0, .inr (2, [.int (u.2.2.2.2.2.1), .int (u.2.2.2.2.2.2.1), .int (u.2.2.2.2.2.2.2.1), .int d_outputs, .ref (h_d 5), .ref (h_d 6), .ref (h_d 7), .ref (h_d 8), .ref (h_d 9), .ref (h_d 10)])), (h_r 2, .inl (cyI, 900, .inl r_tape)), (h_r 3, .inl (cyI, 286, .inl (u.2.2.2.2.2.2.2.2)))]) (va_A [(h_r 0, .inr (4, [.ref (h_d 0), .ref (h_r 2), .ref (h_r 3), .int r_length, .int r_fault, .int r_place, .int r_at, .int r_end, .int r_name])), (h_d 0, .inr (2, [.int d_inputs, .int d_flops, .int d_nets, .int d_outputs, .ref (h_d 5), .ref (h_d 6), .ref (h_d 7), .ref (h_d 8), .ref (h_d 9), .ref (h_d 10)])), (h_r 2, .inl (cyI, 900, .inl r_tape)), (h_r 3, .inl (cyI, 286, .inl r_netOfName))] sz)) (va_A [(h_r 0, .inr (4, [.ref (h_d 0), .ref (h_r 2), .ref (h_r 3), .int r_length, .int r_fault, .int r_place, .int r_at, .int r_end, .int r_name])), (h_d 0, .inr (2, [.int d_inputs, .int d_flops, .int d_nets, .int d_outputs, .ref (h_d 5), .ref (h_d 6), .ref (h_d 7), .ref (h_d 8), .ref (h_d 9), .ref (h_d 10)])), (h_r 2, .inl (cyI, 900, .inl r_tape)), (h_r 3, .inl (cyI, 286, .inl r_netOfName))] sz)) 0 0 (va_A [(h_r 0, .inr (4, [.ref (h_d 0), .ref (h_r 2), .ref (h_r 3), .int r_length, .int r_fault, .int r_place, .int r_at, .int r_end, .int r_name])), (h_d 0, .inr (2, [.int d_inputs, .int d_flops, .int d_nets, .int d_outputs, .ref (h_d 5), .ref (h_d 6), .ref (h_d 7), .ref (h_d 8), .ref (h_d 9), .ref (h_d 10)])), (h_r 2, .inl (cyI, 900, .inl r_tape)), (h_r 3, .inl (cyI, 286, .inl r_netOfName))] sz) := by
  refine kEnter_z (cc := cX4_sourceList) (maxL := 3) (ty := .boolean) (by decide) rfl (Nat.le_of_ble_eq_true rfl) ?_
  intro p e s m args below meth c A ls QQ hx hb hml hown hts hsz hA hP hD hK hE hS hl hret
  clear hsz
  have hown : s.vm.findClass RX4 = some m.cls := hown
  have w13 : ∀ (n13_ : Nat) (r_fault : Int32) (r_place : Int32) (r_at : Int32) (r_end : Int32) (r_name : Int32) (d_inputs : Int32) (d_flops : Int32) (d_nets : Int32) (r_netOfName : Nat → Int32) (l1 : Int32) (l2 : Int32) (H : Heap) (locs : List Loc) (ls : Array Slot), v_X4_sourceList_b13 r_length r_tape Q  n13_ r_fault r_place r_at r_end r_name d_inputs d_flops d_nets r_netOfName l1 l2 → va_P D vwCl [(h_r 0, .inr (4, [.ref (h_d 0), .ref (h_r 2), .ref (h_r 3), .int r_length, .int r_fault, .int r_place, .int r_at, .int r_end, .int r_name])), (h_d 0, .inr (2, [.int d_inputs, .int d_flops, .int d_nets, .int d_outputs, .ref (h_d 5), .ref (h_d 6), .ref (h_d 7), .ref (h_d 8), .ref (h_d 9), .ref (h_d 10)])), (h_r 2, .inl (cyI, 900, .inl r_tape)), (h_r 3, .inl (cyI, 286, .inl r_netOfName))] H → va_D A [(h_r 0, .inr (4, [.ref (h_d 0), .ref (h_r 2), .ref (h_r 3), .int r_length, .int r_fault, .int r_place, .int r_at, .int r_end, .int r_name])), (h_d 0, .inr (2, [.int d_inputs, .int d_flops, .int d_nets, .int d_outputs, .ref (h_d 5), .ref (h_d 6), .ref (h_d 7), .ref (h_d 8), .ref (h_d 9), .ref (h_d 10)])), (h_r 2, .inl (cyI, 900, .inl r_tape)), (h_r 3, .inl (cyI, 286, .inl r_netOfName))] → va_S A s.heap H locs → lv_has ls 3 [(0, .ref (h_r 0)), (1, .int l1), (2, .int l2)] → W p l e rm_X4_sourceList s m args below meth c H locs 0 0 QQ (F0 m 13 ls []) := by
    intro n13_
    induction n13_ with
    | zero =>
      intro r_fault r_place r_at r_end r_name d_inputs d_flops d_nets r_netOfName l1 l2 H locs ls hvc hP hD hS hl
      exact False.elim hvc
    | succ n13_ ih13 =>
      intro r_fault r_place r_at r_end r_name d_inputs d_flops d_nets r_netOfName l1 l2 H locs ls hvc hP hD hS hl
      refine lv_iload_n hx hb dX4_sourceList_13 rfl (lv_at hl 2 rfl) ?_
      refine lv_bipush (v := 10) hx hb dX4_sourceList_14 (by decide) ?_
      obtain ⟨hvt, hvf⟩ := hvc
      refine lv_icmp_gt (tgt := 51) hx hb dX4_sourceList_16 (by decide) (fun hc => ?_) (fun hc => ?_)
      · have hvc := hvt hc
        refine lv_iconst (v := 0) hx hb dX4_sourceList_51 (by decide) ?_
        exact hret (0 : Int32) (r_fault, r_place, r_at, r_end, r_name, d_inputs, d_flops, d_nets, r_netOfName) _ _ _ _ rfl hvc hP hD hS dX4_sourceList_52
      · have hvc := hvf hc
        refine lv_aload_n hx hb dX4_sourceList_19 rfl (lv_at hl 0 rfl) ?_
        refine lv_iload_n hx hb dX4_sourceList_20 rfl (lv_at hl 1 rfl) ?_
        refine kV_i (wc := [(h_r 0, .inr (4, [.ref (h_d 0), .ref (h_r 2), .ref (h_r 3), .int r_length, .int r_fault, .int r_place, .int r_at, .int r_end, .int r_name])), (h_d 0, .inr (2, [.int d_inputs, .int d_flops, .int d_nets, .int d_outputs, .ref (h_d 5), .ref (h_d 6), .ref (h_d 7), .ref (h_d 8), .ref (h_d 9), .ref (h_d 10)])), (h_r 3, .inl (cyI, 286, .inl r_netOfName)), (h_r 2, .inl (cyI, 900, .inl r_tape))]) (wr := []) (As := [.int l1]) (rest := []) ⟨hx, hb, hml, hown, hts⟩ hP hD hK hE hS hA [0, 1, 3, 2] [] rfl rfl (by decide) (by decide) (by decide) (c_X4_source l D ts cyI cyJ cyZ h_d h_r _ r_length r_fault r_place r_at r_end r_name d_inputs d_flops d_nets d_outputs r_netOfName r_tape l1 _ hvc) (cwV 1 hts gX4_sourceList_X4_source rfl rfl rfl hd_X4_source ⟨Nat.le_of_ble_eq_true rfl, Nat.le_of_ble_eq_true rfl⟩) (ci := 4) rfl rfl rfl hl.1 rfl (Nat.zero_le _) (Nat.zero_le _) rfl (Nat.le_of_ble_eq_true rfl) dX4_sourceList_21 (fun r10 u H locs hvc hP hD hS => ?_)
        obtain ⟨n1, n2, n3, n4, n5, n6, n7, n8, n9⟩ := u
        try dsimp only at hvc
        have hP : va_P D vwCl [(h_r 0, .inr (4, [.ref (h_d 0), .ref (h_r 2), .ref (h_r 3), .int r_length, .int n1, .int n2, .int n3, .int n4, .int n5])), (h_d 0, .inr (2, [.int n6, .int n7, .int n8, .int d_outputs, .ref (h_d 5), .ref (h_d 6), .ref (h_d 7), .ref (h_d 8), .ref (h_d 9), .ref (h_d 10)])), (h_r 2, .inl (cyI, 900, .inl r_tape)), (h_r 3, .inl (cyI, 286, .inl n9))] H := sub_P hP (isC := [0, 1, 3, 2]) rfl
        have hD : va_D A [(h_r 0, .inr (4, [.ref (h_d 0), .ref (h_r 2), .ref (h_r 3), .int r_length, .int n1, .int n2, .int n3, .int n4, .int n5])), (h_d 0, .inr (2, [.int n6, .int n7, .int n8, .int d_outputs, .ref (h_d 5), .ref (h_d 6), .ref (h_d 7), .ref (h_d 8), .ref (h_d 9), .ref (h_d 10)])), (h_r 2, .inl (cyI, 900, .inl r_tape)), (h_r 3, .inl (cyI, 286, .inl n9))] := hD.sub [0, 1, 3, 2] (by decide) rfl
        obtain ⟨hvt, hvf⟩ := hvc
        refine lv_if_ne (tgt := 29) hx hb dX4_sourceList_24 (by decide) (fun hc => ?_) (fun hc => ?_)
        · have hvc := hvt hc
          refine lv_aload_n hx hb dX4_sourceList_29 rfl (lv_at hl 0 rfl) ?_
          refine lv_bipush (v := 44) hx hb dX4_sourceList_30 (by decide) ?_
          refine kV_i (wc := [(h_r 0, .inr (4, [.ref (h_d 0), .ref (h_r 2), .ref (h_r 3), .int r_length, .int n1, .int n2, .int n3, .int n4, .int n5])), (h_r 2, .inl (cyI, 900, .inl r_tape))]) (wr := [(h_d 0, .inr (2, [.int n6, .int n7, .int n8, .int d_outputs, .ref (h_d 5), .ref (h_d 6), .ref (h_d 7), .ref (h_d 8), .ref (h_d 9), .ref (h_d 10)])), (h_r 3, .inl (cyI, 286, .inl n9))]) (As := [.int (44 : Int32)]) (rest := []) ⟨hx, hb, hml, hown, hts⟩ hP hD hK hE hS hA [0, 2] [1, 3] rfl rfl (by decide) (by decide) (by decide) (c_X4_takes l D ts cyI cyJ cyZ h_d h_r _ r_length n1 n2 n3 n4 n5 r_tape (44 : Int32) _ hvc) (cwV 1 hts gX4_sourceList_X4_takes rfl rfl rfl hd_X4_takes ⟨Nat.le_of_ble_eq_true rfl, Nat.le_of_ble_eq_true rfl⟩) (ci := 4) rfl rfl rfl hl.1 rfl (Nat.zero_le _) (Nat.zero_le _) rfl (Nat.le_of_ble_eq_true rfl) dX4_sourceList_32 (fun r14 u H locs hvc hP hD hS => ?_)
          obtain ⟨n11, n12, n13⟩ := u
          try dsimp only at hvc
          have hP : va_P D vwCl [(h_r 0, .inr (4, [.ref (h_d 0), .ref (h_r 2), .ref (h_r 3), .int r_length, .int n1, .int n2, .int n11, .int n12, .int n13])), (h_d 0, .inr (2, [.int n6, .int n7, .int n8, .int d_outputs, .ref (h_d 5), .ref (h_d 6), .ref (h_d 7), .ref (h_d 8), .ref (h_d 9), .ref (h_d 10)])), (h_r 2, .inl (cyI, 900, .inl r_tape)), (h_r 3, .inl (cyI, 286, .inl n9))] H := sub_P hP (isC := [2, 0, 3, 1]) rfl
          have hD : va_D A [(h_r 0, .inr (4, [.ref (h_d 0), .ref (h_r 2), .ref (h_r 3), .int r_length, .int n1, .int n2, .int n11, .int n12, .int n13])), (h_d 0, .inr (2, [.int n6, .int n7, .int n8, .int d_outputs, .ref (h_d 5), .ref (h_d 6), .ref (h_d 7), .ref (h_d 8), .ref (h_d 9), .ref (h_d 10)])), (h_r 2, .inl (cyI, 900, .inl r_tape)), (h_r 3, .inl (cyI, 286, .inl n9))] := hD.sub [2, 0, 3, 1] (by decide) rfl
          obtain ⟨hvt, hvf⟩ := hvc
          refine lv_if_ne (tgt := 45) hx hb dX4_sourceList_35 (by decide) (fun hc => ?_) (fun hc => ?_)
          · have hvc := hvt hc
            obtain ⟨v15, ev15⟩ : ∃ y : Int32, y = l2 + (1 : Int32) := ⟨_, rfl⟩
            have hvc := hvc v15 ev15
            refine lv_iinc (v := v15) (lv' := [(2, .int v15), (0, .ref (h_r 0)), (1, .int l1)]) hx hb dX4_sourceList_45 hl (k := 2) rfl (by rw [ev15]; rfl) (by decide) rfl (fun ls hl => ?_)
            refine lv_goto (tgt := 13) hx hb dX4_sourceList_48 (by decide) ?_
            exact ih13 n1 n2 n11 n12 n13 n6 n7 n8 n9 l1 v15 _ _ _ hvc hP hD hS (lv_sub hl [1, 2, 0] rfl)
          · have hvc := hvf hc
            refine lv_aload_n hx hb dX4_sourceList_38 rfl (lv_at hl 0 rfl) ?_
            refine lv_bipush (v := 59) hx hb dX4_sourceList_39 (by decide) ?_
            refine kV_i (wc := [(h_r 0, .inr (4, [.ref (h_d 0), .ref (h_r 2), .ref (h_r 3), .int r_length, .int n1, .int n2, .int n11, .int n12, .int n13])), (h_r 2, .inl (cyI, 900, .inl r_tape))]) (wr := [(h_d 0, .inr (2, [.int n6, .int n7, .int n8, .int d_outputs, .ref (h_d 5), .ref (h_d 6), .ref (h_d 7), .ref (h_d 8), .ref (h_d 9), .ref (h_d 10)])), (h_r 3, .inl (cyI, 286, .inl n9))]) (As := [.int (59 : Int32)]) (rest := []) ⟨hx, hb, hml, hown, hts⟩ hP hD hK hE hS hA [0, 2] [1, 3] rfl rfl (by decide) (by decide) (by decide) (c_X4_mark l D ts cyI cyJ cyZ h_d h_r _ r_length n1 n2 n11 n12 n13 r_tape (59 : Int32) _ hvc) (cwV 1 hts gX4_sourceList_X4_mark rfl rfl rfl hd_X4_mark ⟨Nat.le_of_ble_eq_true rfl, Nat.le_of_ble_eq_true rfl⟩) (ci := 4) rfl rfl rfl hl.1 rfl (Nat.zero_le _) (Nat.zero_le _) rfl (Nat.le_of_ble_eq_true rfl) dX4_sourceList_41 (fun r21 u H locs hvc hP hD hS => ?_)
            obtain ⟨n16, n17, n18, n19, n20⟩ := u
            try dsimp only at hvc
            have hP : va_P D vwCl [(h_r 0, .inr (4, [.ref (h_d 0), .ref (h_r 2), .ref (h_r 3), .int r_length, .int n16, .int n17, .int n18, .int n19, .int n20])), (h_d 0, .inr (2, [.int n6, .int n7, .int n8, .int d_outputs, .ref (h_d 5), .ref (h_d 6), .ref (h_d 7), .ref (h_d 8), .ref (h_d 9), .ref (h_d 10)])), (h_r 2, .inl (cyI, 900, .inl r_tape)), (h_r 3, .inl (cyI, 286, .inl n9))] H := sub_P hP (isC := [2, 0, 3, 1]) rfl
            have hD : va_D A [(h_r 0, .inr (4, [.ref (h_d 0), .ref (h_r 2), .ref (h_r 3), .int r_length, .int n16, .int n17, .int n18, .int n19, .int n20])), (h_d 0, .inr (2, [.int n6, .int n7, .int n8, .int d_outputs, .ref (h_d 5), .ref (h_d 6), .ref (h_d 7), .ref (h_d 8), .ref (h_d 9), .ref (h_d 10)])), (h_r 2, .inl (cyI, 900, .inl r_tape)), (h_r 3, .inl (cyI, 286, .inl n9))] := hD.sub [2, 0, 3, 1] (by decide) rfl
            obtain ⟨hn, hvc⟩ := hvc
            exact hret r21 (n16, n17, n18, n19, n20, n6, n7, n8, n9) _ _ _ _ hn hvc hP hD hS dX4_sourceList_44
        · have hvc := hvf hc
          refine lv_iconst (v := 0) hx hb dX4_sourceList_27 (by decide) ?_
          exact hret (0 : Int32) (n1, n2, n3, n4, n5, n6, n7, n8, n9) _ _ _ _ rfl hvc hP hD hS dX4_sourceList_28
  have hl : lv_has ls 3 [(0, .ref (h_r 0)), (1, .int p0)] := hl
  delta v_X4_sourceList at hvc
  refine lv_aload_n hx hb dX4_sourceList_0 rfl (lv_at hl 0 rfl) ?_
  refine lv_bipush (v := 59) hx hb dX4_sourceList_1 (by decide) ?_
  refine kV_i (wc := [(h_r 0, .inr (4, [.ref (h_d 0), .ref (h_r 2), .ref (h_r 3), .int r_length, .int r_fault, .int r_place, .int r_at, .int r_end, .int r_name])), (h_r 2, .inl (cyI, 900, .inl r_tape))]) (wr := [(h_d 0, .inr (2, [.int d_inputs, .int d_flops, .int d_nets, .int d_outputs, .ref (h_d 5), .ref (h_d 6), .ref (h_d 7), .ref (h_d 8), .ref (h_d 9), .ref (h_d 10)])), (h_r 3, .inl (cyI, 286, .inl r_netOfName))]) (As := [.int (59 : Int32)]) (rest := []) ⟨hx, hb, hml, hown, hts⟩ hP hD hK hE hS hA [0, 2] [1, 3] rfl rfl (by decide) (by decide) (by decide) (c_X4_takes l D ts cyI cyJ cyZ h_d h_r _ r_length r_fault r_place r_at r_end r_name r_tape (59 : Int32) _ hvc) (cwV 1 hts gX4_sourceList_X4_takes rfl rfl rfl hd_X4_takes ⟨Nat.le_of_ble_eq_true rfl, Nat.le_of_ble_eq_true rfl⟩) (ci := 4) rfl rfl rfl hl.1 rfl (Nat.zero_le _) (Nat.zero_le _) rfl (Nat.le_of_ble_eq_true rfl) dX4_sourceList_3 (fun r25 u H locs hvc hP hD hS => ?_)
  obtain ⟨n22, n23, n24⟩ := u
  try dsimp only at hvc
  have hP : va_P D vwCl [(h_r 0, .inr (4, [.ref (h_d 0), .ref (h_r 2), .ref (h_r 3), .int r_length, .int r_fault, .int r_place, .int n22, .int n23, .int n24])), (h_d 0, .inr (2, [.int d_inputs, .int d_flops, .int d_nets, .int d_outputs, .ref (h_d 5), .ref (h_d 6), .ref (h_d 7), .ref (h_d 8), .ref (h_d 9), .ref (h_d 10)])), (h_r 2, .inl (cyI, 900, .inl r_tape)), (h_r 3, .inl (cyI, 286, .inl r_netOfName))] H := sub_P hP (isC := [2, 0, 3, 1]) rfl
  have hD : va_D A [(h_r 0, .inr (4, [.ref (h_d 0), .ref (h_r 2), .ref (h_r 3), .int r_length, .int r_fault, .int r_place, .int n22, .int n23, .int n24])), (h_d 0, .inr (2, [.int d_inputs, .int d_flops, .int d_nets, .int d_outputs, .ref (h_d 5), .ref (h_d 6), .ref (h_d 7), .ref (h_d 8), .ref (h_d 9), .ref (h_d 10)])), (h_r 2, .inl (cyI, 900, .inl r_tape)), (h_r 3, .inl (cyI, 286, .inl r_netOfName))] := hD.sub [2, 0, 3, 1] (by decide) rfl
  obtain ⟨hvt, hvf⟩ := hvc
  refine lv_if_eq (tgt := 11) hx hb dX4_sourceList_6 (by decide) (fun hc => ?_) (fun hc => ?_)
  · have hvc := hvt hc
    refine lv_iconst (v := 0) hx hb dX4_sourceList_11 (by decide) ?_
    refine lv_istore_n (lv' := [(2, .int (0 : Int32)), (0, .ref (h_r 0)), (1, .int p0)]) hx hb dX4_sourceList_12 rfl hl (by decide) rfl (fun ls hl => ?_)
    obtain ⟨n_, hvc⟩ := hvc
    exact w13 n_ r_fault r_place n22 n23 n24 d_inputs d_flops d_nets r_netOfName p0 (0 : Int32) _ _ _ hvc hP hD hS (lv_sub hl [1, 2, 0] rfl)
  · have hvc := hvf hc
    refine lv_iconst (v := 1) hx hb dX4_sourceList_9 (by decide) ?_
    exact hret (1 : Int32) (r_fault, r_place, n22, n23, n24, d_inputs, d_flops, d_nets, r_netOfName) _ _ _ _ rfl hvc hP hD hS dX4_sourceList_10
def v_X4_isOperation_b45 (r_at : Int32) (r_end : Int32) (r_tape : Nat → Int32) (Q : Int32 → Prop) (k19 : Int32 → Int32 → Int32 → Prop) : Int32 → Int32 → Int32 → Int32 → Prop := fun (l1 : Int32) (l2 : Int32) (l3 : Int32) (s0 : Int32) => v_J0_charAt_5068e 3 ((l1 * (4 : Int32)) + l3) (fun (r1 : Int32) => (s0 = r1 → ∀ v2 : Int32, v2 = l3 + (1 : Int32) → k19 l1 l2 v2) ∧ (¬ s0 = r1 → Q (0 : Int32) ))
def v_X4_isOperation_b19 (r_at : Int32) (r_end : Int32) (r_tape : Nat → Int32) (Q : Int32 → Prop)  : Nat → Int32 → Int32 → Int32 → Prop
  | 0 => fun _ _ _ => False
  | z19_ + 1 => fun (l1 : Int32) (l2 : Int32) (l3 : Int32) => ((4 : Int32) ≤ l3 → Q (1 : Int32) ) ∧ (¬ (4 : Int32) ≤ l3 → (l2 ≤ l3 → v_X4_isOperation_b45 r_at r_end r_tape Q (v_X4_isOperation_b19 r_at r_end r_tape Q  z19_) l1 l2 l3 (32 : Int32)) ∧ (¬ l2 ≤ l3 → vp_in (r_at + l3) 900 ∧ v_X4_isOperation_b45 r_at r_end r_tape Q (v_X4_isOperation_b19 r_at r_end r_tape Q  z19_) l1 l2 l3 (r_tape (r_at + l3).toNatClampNeg)))
def v_X4_isOperation (r_at : Int32) (r_end : Int32) (r_tape : Nat → Int32) (p0 : Int32) (Q : Int32 → Prop) : Prop := ∀ v3 : Int32, v3 = r_end - r_at → (v3 ≤ (4 : Int32) → (∃ f19 : Nat, v_X4_isOperation_b19 r_at r_end r_tape Q  f19 p0 v3 (0 : Int32))) ∧ (¬ v3 ≤ (4 : Int32) → Q (0 : Int32) )
theorem hd_X4_isOperation : yX4_isOperation.cls = RX4 ∧ yX4_isOperation.cls ≠ "java/lang/invoke/MethodHandle" ∧ yX4_isOperation.cls ≠ "java/lang/invoke/VarHandle" ∧ (parseMethodDescriptor yX4_isOperation.desc).map (fun d => d.parameters.length) = some 1 := by decide +kernel
abbrev rm_X4_isOperation : Room := { frames := 4, cells := 0, slots := 0, locals := 93 }
set_option maxHeartbeats 4000000 in
set_option maxRecDepth 100000 in
theorem c_X4_isOperation (l : Launch) (D : va_G) (ts : Nat → Nat) (cyI cyJ cyZ : ClassId) (h_d : Nat → Nat) (h_r : Nat → Nat) (sz : Nat) (r_length : Int32) (r_fault : Int32) (r_place : Int32) (r_at : Int32) (r_end : Int32) (r_name : Int32) (r_tape : Nat → Int32) (p0 : Int32) (Q : Int32 → Prop) (hvc : v_X4_isOperation r_at r_end r_tape p0 Q) : Met l yX4_isOperation wsX4_isOperation rm_X4_isOperation (va_Pc [.ref (h_r 0), .int p0] (cPre D ts [(cyI, .int), (cyJ, .long), (cyZ, .boolean)] [(h_r 0, .inr (4, [.ref (h_d 0), .ref (h_r 2), .ref (h_r 3), .int r_length, .int r_fault, .int r_place, .int r_at, .int r_end, .int r_name])), (h_r 2, .inl (cyI, 900, .inl r_tape))] sz)) (va_Qi (fun (r : Int32) (u : Unit) => Q r ) (cPost D [(cyI, .int), (cyJ, .long), (cyZ, .boolean)] (fun (u : Unit) => [(h_r 0, .inr (4, [.ref (h_d 0), .ref (h_r 2), .ref (h_r 3), .int r_length, .int r_fault, .int r_place, .int r_at, .int r_end, .int r_name])), (h_r 2, .inl (cyI, 900, .inl r_tape))]) (va_A [(h_r 0, .inr (4, [.ref (h_d 0), .ref (h_r 2), .ref (h_r 3), .int r_length, .int r_fault, .int r_place, .int r_at, .int r_end, .int r_name])), (h_r 2, .inl (cyI, 900, .inl r_tape))] sz)) (va_A [(h_r 0, .inr (4, [.ref (h_d 0), .ref (h_r 2), .ref (h_r 3), .int r_length, .int r_fault, .int r_place, .int r_at, .int r_end, .int r_name])), (h_r 2, .inl (cyI, 900, .inl r_tape))] sz)) 0 0 (va_A [(h_r 0, .inr (4, [.ref (h_d 0), .ref (h_r 2), .ref (h_r 3), .int r_length, .int r_fault, .int r_place, .int r_at, .int r_end, .int r_name])), (h_r 2, .inl (cyI, 900, .inl r_tape))] sz) := by
  refine kEnter_z (cc := cX4_isOperation) (maxL := 5) (ty := .boolean) (by decide) rfl (Nat.le_of_ble_eq_true rfl) ?_
  intro p e s m args below meth c A ls QQ hx hb hml hown hts hsz hA hP hD hK hE hS hl hret
  clear hsz
  have hown : s.vm.findClass RX4 = some m.cls := hown
  have inX4 : ∀ w ∈ wsX40, w ∈ wsX4_isOperation := fun _ h => List.mem_cons_of_mem _ (List.mem_append_right _ h)
  have f11 := hts (.fieldLink RX4 11 "ScanTester$Reader" "tape" "[I") (List.mem_of_getElem? (i := 3) rfl)
  have f75 := hts (.fieldLink RX4 75 "ScanTester$Reader" "at" "I") (List.mem_of_getElem? (i := 2) rfl)
  have f45 := hts (.fieldLink RX4 45 "ScanTester$Reader" "end" "I") (List.mem_of_getElem? (i := 1) rfl)
  have w19 : ∀ (n19_ : Nat) (l1 : Int32) (l2 : Int32) (l3 : Int32) (H : Heap) (locs : List Loc) (ls : Array Slot), v_X4_isOperation_b19 r_at r_end r_tape Q  n19_ l1 l2 l3 → va_P D vwCl [(h_r 0, .inr (4, [.ref (h_d 0), .ref (h_r 2), .ref (h_r 3), .int r_length, .int r_fault, .int r_place, .int r_at, .int r_end, .int r_name])), (h_r 2, .inl (cyI, 900, .inl r_tape))] H → va_D A [(h_r 0, .inr (4, [.ref (h_d 0), .ref (h_r 2), .ref (h_r 3), .int r_length, .int r_fault, .int r_place, .int r_at, .int r_end, .int r_name])), (h_r 2, .inl (cyI, 900, .inl r_tape))] → va_S A s.heap H locs → lv_has ls 5 [(0, .ref (h_r 0)), (1, .int l1), (2, .int l2), (3, .int l3)] → W p l e rm_X4_isOperation s m args below meth c H locs 0 0 QQ (F0 m 19 ls []) := by
    intro n19_
    induction n19_ with
    | zero =>
      intro l1 l2 l3 H locs ls hvc hP hD hS hl
      exact False.elim hvc
    | succ n19_ ih19 =>
      have w45 : ∀ (l1 : Int32) (l2 : Int32) (l3 : Int32) (s0 : Int32) (H : Heap) (locs : List Loc) (ls : Array Slot), v_X4_isOperation_b45 r_at r_end r_tape Q (v_X4_isOperation_b19 r_at r_end r_tape Q  n19_) l1 l2 l3 s0 → va_P D vwCl [(h_r 0, .inr (4, [.ref (h_d 0), .ref (h_r 2), .ref (h_r 3), .int r_length, .int r_fault, .int r_place, .int r_at, .int r_end, .int r_name])), (h_r 2, .inl (cyI, 900, .inl r_tape))] H → va_D A [(h_r 0, .inr (4, [.ref (h_d 0), .ref (h_r 2), .ref (h_r 3), .int r_length, .int r_fault, .int r_place, .int r_at, .int r_end, .int r_name])), (h_r 2, .inl (cyI, 900, .inl r_tape))] → va_S A s.heap H locs → lv_has ls 5 [(0, .ref (h_r 0)), (1, .int l1), (2, .int l2), (3, .int l3)] → W p l e rm_X4_isOperation s m args below meth c H locs 0 0 QQ (F0 m 45 ls [.int s0]) := by
        intro l1 l2 l3 s0 H locs ls hvc hP hD hS hl
        delta v_X4_isOperation_b45 at hvc
        refine lv_istore (lv' := [(4, .int s0), (0, .ref (h_r 0)), (1, .int l1), (2, .int l2), (3, .int l3)]) hx hb dX4_isOperation_45 hl (by decide) rfl (fun ls hl => ?_)
        refine lv_iload hx hb dX4_isOperation_47 (lv_at hl 0 rfl) ?_
        refine va_ldcS hx hb hown hE.str.2.2.2.2.1 dX4_isOperation_49 ?_
        refine lv_iload_n hx hb dX4_isOperation_51 rfl (lv_at hl 2 rfl) ?_
        refine lv_iconst (v := 4) hx hb dX4_isOperation_52 (by decide) ?_
        refine lv_imul hx hb dX4_isOperation_53 ?_
        refine lv_iload_n hx hb dX4_isOperation_54 rfl (lv_at hl 4 rfl) ?_
        refine lv_iadd hx hb dX4_isOperation_55 ?_
        refine kT_i (wc := []) (wr := [(h_r 0, .inr (4, [.ref (h_d 0), .ref (h_r 2), .ref (h_r 3), .int r_length, .int r_fault, .int r_place, .int r_at, .int r_end, .int r_name])), (h_r 2, .inl (cyI, 900, .inl r_tape))]) (As := [.int ((l1 * (4 : Int32)) + l3)]) (rest := [.int s0]) ⟨hx, hb, hml, hown, hts⟩ hP hD hK hE hS hA [] [0, 1] rfl rfl (by decide) (by decide) (by decide) (c_J0_charAt_5068e l D ts cyI cyJ cyZ _ 3 ((l1 * (4 : Int32)) + l3) _ hvc) (cwV 1 hts gX4_isOperation_J0_charAt_5068e rfl rfl rfl hd_J0_charAt_5068e ⟨Nat.le_of_ble_eq_true rfl, Nat.le_of_ble_eq_true rfl⟩) (vk_recv (adK := fun i => ts (10 + i)) (i := 3) hE.str.1 (And.left hvc) hS) hl.1 rfl (Nat.zero_le _) (Nat.zero_le _) rfl (Nat.le_of_ble_eq_true rfl) dX4_isOperation_56 (fun r1 _u H locs hvc hP hD hS => ?_)
        try dsimp only at hvc
        have hP : va_P D vwCl [(h_r 0, .inr (4, [.ref (h_d 0), .ref (h_r 2), .ref (h_r 3), .int r_length, .int r_fault, .int r_place, .int r_at, .int r_end, .int r_name])), (h_r 2, .inl (cyI, 900, .inl r_tape))] H := sub_P hP (isC := [0, 1]) rfl
        have hD : va_D A [(h_r 0, .inr (4, [.ref (h_d 0), .ref (h_r 2), .ref (h_r 3), .int r_length, .int r_fault, .int r_place, .int r_at, .int r_end, .int r_name])), (h_r 2, .inl (cyI, 900, .inl r_tape))] := hD.sub [0, 1] (by decide) rfl
        obtain ⟨hvt, hvf⟩ := hvc
        refine lv_icmp_eq (tgt := 64) hx hb dX4_isOperation_59 (by decide) (fun hc => ?_) (fun hc => ?_)
        · have hvc := hvt hc
          obtain ⟨v2, ev2⟩ : ∃ y : Int32, y = l3 + (1 : Int32) := ⟨_, rfl⟩
          have hvc := hvc v2 ev2
          refine lv_iinc (v := v2) (lv' := [(3, .int v2), (4, .int s0), (0, .ref (h_r 0)), (1, .int l1), (2, .int l2)]) hx hb dX4_isOperation_64 hl (k := 4) rfl (by rw [ev2]; rfl) (by decide) rfl (fun ls hl => ?_)
          refine lv_goto (tgt := 19) hx hb dX4_isOperation_67 (by decide) ?_
          exact ih19 l1 l2 v2 _ _ _ hvc hP hD hS (lv_sub hl [2, 3, 4, 0] rfl)
        · have hvc := hvf hc
          refine lv_iconst (v := 0) hx hb dX4_isOperation_62 (by decide) ?_
          exact hret (0 : Int32) () _ _ _ _ rfl hvc hP hD hS dX4_isOperation_63
      intro l1 l2 l3 H locs ls hvc hP hD hS hl
      refine lv_iload_n hx hb dX4_isOperation_19 rfl (lv_at hl 3 rfl) ?_
      refine lv_iconst (v := 4) hx hb dX4_isOperation_20 (by decide) ?_
      obtain ⟨hvt, hvf⟩ := hvc
      refine lv_icmp_ge (tgt := 70) hx hb dX4_isOperation_21 (by decide) (fun hc => ?_) (fun hc => ?_)
      · have hvc := hvt hc
        refine lv_iconst (v := 1) hx hb dX4_isOperation_70 (by decide) ?_
        exact hret (1 : Int32) () _ _ _ _ rfl hvc hP hD hS dX4_isOperation_71
      · have hvc := hvf hc
        refine lv_iload_n hx hb dX4_isOperation_24 rfl (lv_at hl 3 rfl) ?_
        refine lv_iload_n hx hb dX4_isOperation_25 rfl (lv_at hl 2 rfl) ?_
        obtain ⟨hvt, hvf⟩ := hvc
        refine lv_icmp_ge (tgt := 43) hx hb dX4_isOperation_26 (by decide) (fun hc => ?_) (fun hc => ?_)
        · have hvc := hvt hc
          refine lv_bipush (v := 32) hx hb dX4_isOperation_43 (by decide) ?_
          exact w45 l1 l2 l3 (32 : Int32) _ _ _ hvc hP hD hS (lv_sub hl [0, 1, 2, 3] rfl)
        · have hvc := hvf hc
          refine lv_aload_n hx hb dX4_isOperation_29 rfl (lv_at hl 0 rfl) ?_
          refine va_get (D := D) (ci := 4) (C := RX4) (T := TX4) (N := 9) hx hb hts inX4 hown hK hP 0 rfl rfl 1 (by decide) f11 (fun _ h9 => h9) rfl dX4_isOperation_30 ?_
          refine lv_aload_n hx hb dX4_isOperation_33 rfl (lv_at hl 0 rfl) ?_
          refine va_get (D := D) (ci := 4) (C := RX4) (T := TX4) (N := 9) hx hb hts inX4 hown hK hP 0 rfl rfl 6 (by decide) f75 (fun _ h9 => h9) rfl dX4_isOperation_34 ?_
          refine lv_iload_n hx hb dX4_isOperation_37 rfl (lv_at hl 3 rfl) ?_
          refine lv_iadd hx hb dX4_isOperation_38 ?_
          obtain ⟨hi, hvc⟩ := hvc
          refine va_iald hx hb hK hP 1 0 rfl rfl hi dX4_isOperation_39 ?_
          refine lv_goto (tgt := 45) hx hb dX4_isOperation_40 (by decide) ?_
          exact w45 l1 l2 l3 (r_tape (r_at + l3).toNatClampNeg) _ _ _ hvc hP hD hS (lv_sub hl [0, 1, 2, 3] rfl)
  have hl : lv_has ls 5 [(0, .ref (h_r 0)), (1, .int p0)] := hl
  refine lv_aload_n hx hb dX4_isOperation_0 rfl (lv_at hl 0 rfl) ?_
  refine va_get (D := D) (ci := 4) (C := RX4) (T := TX4) (N := 9) hx hb hts inX4 hown hK hP 0 rfl rfl 7 (by decide) f45 (fun _ h9 => h9) rfl dX4_isOperation_1 ?_
  refine lv_aload_n hx hb dX4_isOperation_4 rfl (lv_at hl 0 rfl) ?_
  refine va_get (D := D) (ci := 4) (C := RX4) (T := TX4) (N := 9) hx hb hts inX4 hown hK hP 0 rfl rfl 6 (by decide) f75 (fun _ h9 => h9) rfl dX4_isOperation_5 ?_
  refine lv_isub hx hb dX4_isOperation_8 ?_
  refine lv_topi (fun v3 ev3 => ?_)
  have hvc := hvc v3 ev3
  refine lv_istore_n (lv' := [(2, .int v3), (0, .ref (h_r 0)), (1, .int p0)]) hx hb dX4_isOperation_9 rfl hl (by decide) rfl (fun ls hl => ?_)
  refine lv_iload_n hx hb dX4_isOperation_10 rfl (lv_at hl 0 rfl) ?_
  refine lv_iconst (v := 4) hx hb dX4_isOperation_11 (by decide) ?_
  obtain ⟨hvt, hvf⟩ := hvc
  refine lv_icmp_le (tgt := 17) hx hb dX4_isOperation_12 (by decide) (fun hc => ?_) (fun hc => ?_)
  · have hvc := hvt hc
    refine lv_iconst (v := 0) hx hb dX4_isOperation_17 (by decide) ?_
    refine lv_istore_n (lv' := [(3, .int (0 : Int32)), (2, .int v3), (0, .ref (h_r 0)), (1, .int p0)]) hx hb dX4_isOperation_18 rfl hl (by decide) rfl (fun ls hl => ?_)
    obtain ⟨n_, hvc⟩ := hvc
    exact w19 n_ p0 v3 (0 : Int32) _ _ _ hvc hP hD hS (lv_sub hl [2, 3, 1, 0] rfl)
  · have hvc := hvf hc
    refine lv_iconst (v := 0) hx hb dX4_isOperation_15 (by decide) ?_
    exact hret (0 : Int32) () _ _ _ _ rfl hvc hP hD hS dX4_isOperation_16
def v_X4_operationHere_b39 (r_length : Int32) (r_at : Int32) (r_end : Int32) (r_tape : Nat → Int32) (Q : Int32 → Int32 → Int32 → Prop)  : Int32 → Int32 → Prop := fun (r_fault : Int32) (r_place : Int32) => v_X4_refuse  r_fault r_place (1 : Int32) r_at (fun (r3 : Int32) (n1 : Int32) (n2 : Int32) => Q (-1 : Int32) n1 n2)
def v_X4_operationHere_b53 (r_length : Int32) (r_at : Int32) (r_end : Int32) (r_tape : Nat → Int32) (Q : Int32 → Int32 → Int32 → Prop)  : Nat → Int32 → Int32 → Int32 → Prop
  | 0 => fun _ _ _ => False
  | z53_ + 1 => fun (r_fault : Int32) (r_place : Int32) (l1 : Int32) => ((8 : Int32) ≤ l1 → v_X4_refuse  r_fault r_place (3 : Int32) r_at (fun (r6 : Int32) (n4 : Int32) (n5 : Int32) => Q (-1 : Int32) n4 n5)) ∧ (¬ (8 : Int32) ≤ l1 → v_X4_isOperation  r_at r_end r_tape l1 (fun (r7 : Int32) => (r7 = (0) → ∀ v8 : Int32, v8 = l1 + (1 : Int32) → (v_X4_operationHere_b53 r_length r_at r_end r_tape Q  z53_) r_fault r_place v8) ∧ (¬ r7 = (0) → Q l1 r_fault r_place)))
def v_X4_operationHere (r_length : Int32) (r_fault : Int32) (r_place : Int32) (r_at : Int32) (r_end : Int32) (r_tape : Nat → Int32)  (Q : Int32 → Int32 → Int32 → Prop) : Prop := (r_length ≤ r_at → v_X4_operationHere_b39 r_length r_at r_end r_tape Q  r_fault r_place) ∧ (¬ r_length ≤ r_at → vp_in r_at 900 ∧ ((r_tape r_at.toNatClampNeg) < (97 : Int32) → v_X4_operationHere_b39 r_length r_at r_end r_tape Q  r_fault r_place) ∧ (¬ (r_tape r_at.toNatClampNeg) < (97 : Int32) → vp_in r_at 900 ∧ ((r_tape r_at.toNatClampNeg) ≤ (122 : Int32) → (∃ f53 : Nat, v_X4_operationHere_b53 r_length r_at r_end r_tape Q  f53 r_fault r_place (0 : Int32))) ∧ (¬ (r_tape r_at.toNatClampNeg) ≤ (122 : Int32) → v_X4_operationHere_b39 r_length r_at r_end r_tape Q  r_fault r_place)))
theorem hd_X4_operationHere : yX4_operationHere.cls = RX4 ∧ yX4_operationHere.cls ≠ "java/lang/invoke/MethodHandle" ∧ yX4_operationHere.cls ≠ "java/lang/invoke/VarHandle" ∧ (parseMethodDescriptor yX4_operationHere.desc).map (fun d => d.parameters.length) = some 0 := by decide +kernel
abbrev rm_X4_operationHere : Room := { frames := 5, cells := 0, slots := 0, locals := 117 }
set_option maxHeartbeats 4000000 in
set_option maxRecDepth 100000 in
theorem c_X4_operationHere (l : Launch) (D : va_G) (ts : Nat → Nat) (cyI cyJ cyZ : ClassId) (h_d : Nat → Nat) (h_r : Nat → Nat) (sz : Nat) (r_length : Int32) (r_fault : Int32) (r_place : Int32) (r_at : Int32) (r_end : Int32) (r_name : Int32) (r_tape : Nat → Int32)  (Q : Int32 → Int32 → Int32 → Prop) (hvc : v_X4_operationHere r_length r_fault r_place r_at r_end r_tape  Q) : Met l yX4_operationHere wsX4_operationHere rm_X4_operationHere (va_Pc [.ref (h_r 0)] (cPre D ts [(cyI, .int), (cyJ, .long), (cyZ, .boolean)] [(h_r 0, .inr (4, [.ref (h_d 0), .ref (h_r 2), .ref (h_r 3), .int r_length, .int r_fault, .int r_place, .int r_at, .int r_end, .int r_name])), (h_r 2, .inl (cyI, 900, .inl r_tape))] sz)) (va_Qi (fun (r : Int32) (u : Int32 × Int32) => Q r u.1 u.2) (cPost D [(cyI, .int), (cyJ, .long), (cyZ, .boolean)] (fun (u : Int32 × Int32) => [(h_r 0, .inr (4, [.ref (h_d 0), .ref (h_r 2), .ref (h_r 3), .int r_length, .int (u.1), .int (u.2), .int r_at, .int r_end, .int r_name])), (h_r 2, .inl (cyI, 900, .inl r_tape))]) (va_A [(h_r 0, .inr (4, [.ref (h_d 0), .ref (h_r 2), .ref (h_r 3), .int r_length, .int r_fault, .int r_place, .int r_at, .int r_end, .int r_name])), (h_r 2, .inl (cyI, 900, .inl r_tape))] sz)) (va_A [(h_r 0, .inr (4, [.ref (h_d 0), .ref (h_r 2), .ref (h_r 3), .int r_length, .int r_fault, .int r_place, .int r_at, .int r_end, .int r_name])), (h_r 2, .inl (cyI, 900, .inl r_tape))] sz)) 0 0 (va_A [(h_r 0, .inr (4, [.ref (h_d 0), .ref (h_r 2), .ref (h_r 3), .int r_length, .int r_fault, .int r_place, .int r_at, .int r_end, .int r_name])), (h_r 2, .inl (cyI, 900, .inl r_tape))] sz) := by
  refine kEnter_i (cc := cX4_operationHere) (maxL := 2) (by decide) rfl (Nat.le_of_ble_eq_true rfl) ?_
  intro p e s m args below meth c A ls QQ hx hb hml hown hts hsz hA hP hD hK hE hS hl hret
  clear hsz
  have hown : s.vm.findClass RX4 = some m.cls := hown
  have inX4 : ∀ w ∈ wsX40, w ∈ wsX4_operationHere := fun _ h => List.mem_cons_of_mem _ (List.mem_append_right _ h)
  have f75 := hts (.fieldLink RX4 75 "ScanTester$Reader" "at" "I") (List.mem_of_getElem? (i := 1) rfl)
  have f149 := hts (.fieldLink RX4 149 "ScanTester$Reader" "LEAST_LOOKED" "[I") (List.mem_of_getElem? (i := 4) rfl)
  have f26 := hts (.fieldLink RX4 26 "ScanTester$Reader" "length" "I") (List.mem_of_getElem? (i := 2) rfl)
  have f11 := hts (.fieldLink RX4 11 "ScanTester$Reader" "tape" "[I") (List.mem_of_getElem? (i := 3) rfl)
  have w39 : ∀ (r_fault : Int32) (r_place : Int32) (H : Heap) (locs : List Loc) (ls : Array Slot), v_X4_operationHere_b39 r_length r_at r_end r_tape Q  r_fault r_place → va_P D vwCl [(h_r 0, .inr (4, [.ref (h_d 0), .ref (h_r 2), .ref (h_r 3), .int r_length, .int r_fault, .int r_place, .int r_at, .int r_end, .int r_name])), (h_r 2, .inl (cyI, 900, .inl r_tape))] H → va_D A [(h_r 0, .inr (4, [.ref (h_d 0), .ref (h_r 2), .ref (h_r 3), .int r_length, .int r_fault, .int r_place, .int r_at, .int r_end, .int r_name])), (h_r 2, .inl (cyI, 900, .inl r_tape))] → va_S A s.heap H locs → lv_has ls 2 [(0, .ref (h_r 0))] → W p l e rm_X4_operationHere s m args below meth c H locs 0 0 QQ (F0 m 39 ls []) := by
    intro r_fault r_place H locs ls hvc hP hD hS hl
    delta v_X4_operationHere_b39 at hvc
    refine lv_aload_n hx hb dX4_operationHere_39 rfl (lv_at hl 0 rfl) ?_
    refine lv_iconst (v := 1) hx hb dX4_operationHere_40 (by decide) ?_
    refine lv_aload_n hx hb dX4_operationHere_41 rfl (lv_at hl 0 rfl) ?_
    refine va_get (D := D) (ci := 4) (C := RX4) (T := TX4) (N := 9) hx hb hts inX4 hown hK hP 0 rfl rfl 6 (by decide) f75 (fun _ h9 => h9) rfl dX4_operationHere_42 ?_
    refine kV_i (wc := [(h_r 0, .inr (4, [.ref (h_d 0), .ref (h_r 2), .ref (h_r 3), .int r_length, .int r_fault, .int r_place, .int r_at, .int r_end, .int r_name]))]) (wr := [(h_r 2, .inl (cyI, 900, .inl r_tape))]) (As := [.int (1 : Int32), .int r_at]) (rest := []) ⟨hx, hb, hml, hown, hts⟩ hP hD hK hE hS hA [0] [1] rfl rfl (by decide) (by decide) (by decide) (c_X4_refuse l D ts cyI cyJ cyZ h_d h_r _ r_length r_fault r_place r_at r_end r_name (1 : Int32) r_at _ hvc) (cwV 2 hts gX4_operationHere_X4_refuse rfl rfl rfl hd_X4_refuse ⟨Nat.le_of_ble_eq_true rfl, Nat.le_of_ble_eq_true rfl⟩) (ci := 4) rfl rfl rfl hl.1 rfl (Nat.zero_le _) (Nat.zero_le _) rfl (Nat.le_of_ble_eq_true rfl) dX4_operationHere_45 (fun r3 u H locs hvc hP hD hS => ?_)
    obtain ⟨n1, n2⟩ := u
    try dsimp only at hvc
    have hP : va_P D vwCl [(h_r 0, .inr (4, [.ref (h_d 0), .ref (h_r 2), .ref (h_r 3), .int r_length, .int n1, .int n2, .int r_at, .int r_end, .int r_name])), (h_r 2, .inl (cyI, 900, .inl r_tape))] H := sub_P hP (isC := [1, 0]) rfl
    have hD : va_D A [(h_r 0, .inr (4, [.ref (h_d 0), .ref (h_r 2), .ref (h_r 3), .int r_length, .int n1, .int n2, .int r_at, .int r_end, .int r_name])), (h_r 2, .inl (cyI, 900, .inl r_tape))] := hD.sub [1, 0] (by decide) rfl
    refine lv_pop hx hb dX4_operationHere_48 rfl ?_
    refine lv_iconst (v := (-1)) hx hb dX4_operationHere_49 (by decide) ?_
    exact hret (-1 : Int32) (n1, n2) _ _ _ _ hvc hP hD hS dX4_operationHere_50
  have w53 : ∀ (n53_ : Nat) (r_fault : Int32) (r_place : Int32) (l1 : Int32) (H : Heap) (locs : List Loc) (ls : Array Slot), v_X4_operationHere_b53 r_length r_at r_end r_tape Q  n53_ r_fault r_place l1 → va_P D vwCl [(h_r 0, .inr (4, [.ref (h_d 0), .ref (h_r 2), .ref (h_r 3), .int r_length, .int r_fault, .int r_place, .int r_at, .int r_end, .int r_name])), (h_r 2, .inl (cyI, 900, .inl r_tape))] H → va_D A [(h_r 0, .inr (4, [.ref (h_d 0), .ref (h_r 2), .ref (h_r 3), .int r_length, .int r_fault, .int r_place, .int r_at, .int r_end, .int r_name])), (h_r 2, .inl (cyI, 900, .inl r_tape))] → va_S A s.heap H locs → lv_has ls 2 [(0, .ref (h_r 0)), (1, .int l1)] → W p l e rm_X4_operationHere s m args below meth c H locs 0 0 QQ (F0 m 53 ls []) := by
    intro n53_
    induction n53_ with
    | zero =>
      intro r_fault r_place l1 H locs ls hvc hP hD hS hl
      exact False.elim hvc
    | succ n53_ ih53 =>
      intro r_fault r_place l1 H locs ls hvc hP hD hS hl
      refine lv_iload_n hx hb dX4_operationHere_53 rfl (lv_at hl 1 rfl) ?_
      refine va_gets hx hb hE.LEAST_LOOKED.1 hS hown f149 (fun _ h9 => h9) dX4_operationHere_54 ?_
      refine va_tlen (v := 8) hx hb hE.LEAST_LOOKED.2 hS (by decide) dX4_operationHere_57 ?_
      obtain ⟨hvt, hvf⟩ := hvc
      refine lv_icmp_ge (tgt := 77) hx hb dX4_operationHere_58 (by decide) (fun hc => ?_) (fun hc => ?_)
      · have hvc := hvt hc
        refine lv_aload_n hx hb dX4_operationHere_77 rfl (lv_at hl 0 rfl) ?_
        refine lv_iconst (v := 3) hx hb dX4_operationHere_78 (by decide) ?_
        refine lv_aload_n hx hb dX4_operationHere_79 rfl (lv_at hl 0 rfl) ?_
        refine va_get (D := D) (ci := 4) (C := RX4) (T := TX4) (N := 9) hx hb hts inX4 hown hK hP 0 rfl rfl 6 (by decide) f75 (fun _ h9 => h9) rfl dX4_operationHere_80 ?_
        refine kV_i (wc := [(h_r 0, .inr (4, [.ref (h_d 0), .ref (h_r 2), .ref (h_r 3), .int r_length, .int r_fault, .int r_place, .int r_at, .int r_end, .int r_name]))]) (wr := [(h_r 2, .inl (cyI, 900, .inl r_tape))]) (As := [.int (3 : Int32), .int r_at]) (rest := []) ⟨hx, hb, hml, hown, hts⟩ hP hD hK hE hS hA [0] [1] rfl rfl (by decide) (by decide) (by decide) (c_X4_refuse l D ts cyI cyJ cyZ h_d h_r _ r_length r_fault r_place r_at r_end r_name (3 : Int32) r_at _ hvc) (cwV 2 hts gX4_operationHere_X4_refuse rfl rfl rfl hd_X4_refuse ⟨Nat.le_of_ble_eq_true rfl, Nat.le_of_ble_eq_true rfl⟩) (ci := 4) rfl rfl rfl hl.1 rfl (Nat.zero_le _) (Nat.zero_le _) rfl (Nat.le_of_ble_eq_true rfl) dX4_operationHere_83 (fun r6 u H locs hvc hP hD hS => ?_)
        obtain ⟨n4, n5⟩ := u
        try dsimp only at hvc
        have hP : va_P D vwCl [(h_r 0, .inr (4, [.ref (h_d 0), .ref (h_r 2), .ref (h_r 3), .int r_length, .int n4, .int n5, .int r_at, .int r_end, .int r_name])), (h_r 2, .inl (cyI, 900, .inl r_tape))] H := sub_P hP (isC := [1, 0]) rfl
        have hD : va_D A [(h_r 0, .inr (4, [.ref (h_d 0), .ref (h_r 2), .ref (h_r 3), .int r_length, .int n4, .int n5, .int r_at, .int r_end, .int r_name])), (h_r 2, .inl (cyI, 900, .inl r_tape))] := hD.sub [1, 0] (by decide) rfl
        refine lv_pop hx hb dX4_operationHere_86 rfl ?_
        refine lv_iconst (v := (-1)) hx hb dX4_operationHere_87 (by decide) ?_
        exact hret (-1 : Int32) (n4, n5) _ _ _ _ hvc hP hD hS dX4_operationHere_88
      · have hvc := hvf hc
        refine lv_aload_n hx hb dX4_operationHere_61 rfl (lv_at hl 0 rfl) ?_
        refine lv_iload_n hx hb dX4_operationHere_62 rfl (lv_at hl 1 rfl) ?_
        refine kV_i (wc := [(h_r 0, .inr (4, [.ref (h_d 0), .ref (h_r 2), .ref (h_r 3), .int r_length, .int r_fault, .int r_place, .int r_at, .int r_end, .int r_name])), (h_r 2, .inl (cyI, 900, .inl r_tape))]) (wr := []) (As := [.int l1]) (rest := []) ⟨hx, hb, hml, hown, hts⟩ hP hD hK hE hS hA [0, 1] [] rfl rfl (by decide) (by decide) (by decide) (c_X4_isOperation l D ts cyI cyJ cyZ h_d h_r _ r_length r_fault r_place r_at r_end r_name r_tape l1 _ hvc) (cwV 1 hts gX4_operationHere_X4_isOperation rfl rfl rfl hd_X4_isOperation ⟨Nat.le_of_ble_eq_true rfl, Nat.le_of_ble_eq_true rfl⟩) (ci := 4) rfl rfl rfl hl.1 rfl (Nat.zero_le _) (Nat.zero_le _) rfl (Nat.le_of_ble_eq_true rfl) dX4_operationHere_63 (fun r7 _u H locs hvc hP hD hS => ?_)
        try dsimp only at hvc
        have hP : va_P D vwCl [(h_r 0, .inr (4, [.ref (h_d 0), .ref (h_r 2), .ref (h_r 3), .int r_length, .int r_fault, .int r_place, .int r_at, .int r_end, .int r_name])), (h_r 2, .inl (cyI, 900, .inl r_tape))] H := sub_P hP (isC := [0, 1]) rfl
        have hD : va_D A [(h_r 0, .inr (4, [.ref (h_d 0), .ref (h_r 2), .ref (h_r 3), .int r_length, .int r_fault, .int r_place, .int r_at, .int r_end, .int r_name])), (h_r 2, .inl (cyI, 900, .inl r_tape))] := hD.sub [0, 1] (by decide) rfl
        obtain ⟨hvt, hvf⟩ := hvc
        refine lv_if_eq (tgt := 71) hx hb dX4_operationHere_66 (by decide) (fun hc => ?_) (fun hc => ?_)
        · have hvc := hvt hc
          obtain ⟨v8, ev8⟩ : ∃ y : Int32, y = l1 + (1 : Int32) := ⟨_, rfl⟩
          have hvc := hvc v8 ev8
          refine lv_iinc (v := v8) (lv' := [(1, .int v8), (0, .ref (h_r 0))]) hx hb dX4_operationHere_71 hl (k := 1) rfl (by rw [ev8]; rfl) (by decide) rfl (fun ls hl => ?_)
          refine lv_goto (tgt := 53) hx hb dX4_operationHere_74 (by decide) ?_
          exact ih53 r_fault r_place v8 _ _ _ hvc hP hD hS (lv_sub hl [1, 0] rfl)
        · have hvc := hvf hc
          refine lv_iload_n hx hb dX4_operationHere_69 rfl (lv_at hl 1 rfl) ?_
          exact hret l1 (r_fault, r_place) _ _ _ _ hvc hP hD hS dX4_operationHere_70
  have hl : lv_has ls 2 [(0, .ref (h_r 0))] := hl
  refine lv_aload_n hx hb dX4_operationHere_0 rfl (lv_at hl 0 rfl) ?_
  refine va_get (D := D) (ci := 4) (C := RX4) (T := TX4) (N := 9) hx hb hts inX4 hown hK hP 0 rfl rfl 6 (by decide) f75 (fun _ h9 => h9) rfl dX4_operationHere_1 ?_
  refine lv_aload_n hx hb dX4_operationHere_4 rfl (lv_at hl 0 rfl) ?_
  refine va_get (D := D) (ci := 4) (C := RX4) (T := TX4) (N := 9) hx hb hts inX4 hown hK hP 0 rfl rfl 3 (by decide) f26 (fun _ h9 => h9) rfl dX4_operationHere_5 ?_
  obtain ⟨hvt, hvf⟩ := hvc
  refine lv_icmp_ge (tgt := 39) hx hb dX4_operationHere_8 (by decide) (fun hc => ?_) (fun hc => ?_)
  · have hvc := hvt hc
    exact w39 r_fault r_place _ _ _ hvc hP hD hS (lv_sub hl [0] rfl)
  · have hvc := hvf hc
    refine lv_aload_n hx hb dX4_operationHere_11 rfl (lv_at hl 0 rfl) ?_
    refine va_get (D := D) (ci := 4) (C := RX4) (T := TX4) (N := 9) hx hb hts inX4 hown hK hP 0 rfl rfl 1 (by decide) f11 (fun _ h9 => h9) rfl dX4_operationHere_12 ?_
    refine lv_aload_n hx hb dX4_operationHere_15 rfl (lv_at hl 0 rfl) ?_
    refine va_get (D := D) (ci := 4) (C := RX4) (T := TX4) (N := 9) hx hb hts inX4 hown hK hP 0 rfl rfl 6 (by decide) f75 (fun _ h9 => h9) rfl dX4_operationHere_16 ?_
    obtain ⟨hi, hvc⟩ := hvc
    refine va_iald hx hb hK hP 1 0 rfl rfl hi dX4_operationHere_19 ?_
    refine lv_bipush (v := 97) hx hb dX4_operationHere_20 (by decide) ?_
    obtain ⟨hvt, hvf⟩ := hvc
    refine lv_icmp_lt (tgt := 39) hx hb dX4_operationHere_22 (by decide) (fun hc => ?_) (fun hc => ?_)
    · have hvc := hvt hc
      exact w39 r_fault r_place _ _ _ hvc hP hD hS (lv_sub hl [0] rfl)
    · have hvc := hvf hc
      refine lv_aload_n hx hb dX4_operationHere_25 rfl (lv_at hl 0 rfl) ?_
      refine va_get (D := D) (ci := 4) (C := RX4) (T := TX4) (N := 9) hx hb hts inX4 hown hK hP 0 rfl rfl 1 (by decide) f11 (fun _ h9 => h9) rfl dX4_operationHere_26 ?_
      refine lv_aload_n hx hb dX4_operationHere_29 rfl (lv_at hl 0 rfl) ?_
      refine va_get (D := D) (ci := 4) (C := RX4) (T := TX4) (N := 9) hx hb hts inX4 hown hK hP 0 rfl rfl 6 (by decide) f75 (fun _ h9 => h9) rfl dX4_operationHere_30 ?_
      obtain ⟨hi, hvc⟩ := hvc
      refine va_iald hx hb hK hP 1 0 rfl rfl hi dX4_operationHere_33 ?_
      refine lv_bipush (v := 122) hx hb dX4_operationHere_34 (by decide) ?_
      obtain ⟨hvt, hvf⟩ := hvc
      refine lv_icmp_le (tgt := 51) hx hb dX4_operationHere_36 (by decide) (fun hc => ?_) (fun hc => ?_)
      · have hvc := hvt hc
        refine lv_iconst (v := 0) hx hb dX4_operationHere_51 (by decide) ?_
        refine lv_istore_n (lv' := [(1, .int (0 : Int32)), (0, .ref (h_r 0))]) hx hb dX4_operationHere_52 rfl hl (by decide) rfl (fun ls hl => ?_)
        obtain ⟨n_, hvc⟩ := hvc
        exact w53 n_ r_fault r_place (0 : Int32) _ _ _ hvc hP hD hS (lv_sub hl [1, 0] rfl)
      · have hvc := hvf hc
        exact w39 r_fault r_place _ _ _ hvc hP hD hS (lv_sub hl [0] rfl)
def v_X4_lookedList_b151 (r_length : Int32) (d_nets : Int32) (r_netOfName : Nat → Int32) (r_tape : Nat → Int32) (Q : Int32 → Int32 → Int32 → Int32 → Int32 → Int32 → (Nat → Int32) → (Nat → Int32) → Prop)  : Int32 → Int32 → Int32 → Int32 → Int32 → (Nat → Int32) → (Nat → Int32) → Prop := fun (r_fault : Int32) (r_place : Int32) (r_at : Int32) (r_end : Int32) (r_name : Int32) (d_looked : Nat → Int32) (d_lookedCount : Nat → Int32) => v_X4_refuse  r_fault r_place (1 : Int32) r_at (fun (r3 : Int32) (n1 : Int32) (n2 : Int32) => (narrow .boolean (.int r3) = .int r3) ∧ Q r3 n1 n2 r_at r_end r_name d_looked d_lookedCount)
def v_X4_lookedList_b135 (r_length : Int32) (d_nets : Int32) (r_netOfName : Nat → Int32) (r_tape : Nat → Int32) (Q : Int32 → Int32 → Int32 → Int32 → Int32 → Int32 → (Nat → Int32) → (Nat → Int32) → Prop) (k15 : Int32 → Int32 → Int32 → Int32 → Int32 → (Nat → Int32) → (Nat → Int32) → Int32 → Int32 → Int32 → Prop) : Int32 → Int32 → Int32 → Int32 → Int32 → (Nat → Int32) → (Nat → Int32) → Int32 → Int32 → Int32 → Int32 → Prop := fun (r_fault : Int32) (r_place : Int32) (r_at : Int32) (r_end : Int32) (r_name : Int32) (d_looked : Nat → Int32) (d_lookedCount : Nat → Int32) (l2 : Int32) (l3 : Int32) (l4 : Int32) (s0 : Int32) => (s0 = (0) → v_X4_lookedList_b151 r_length d_nets r_netOfName r_tape Q  r_fault r_place r_at r_end r_name d_looked d_lookedCount) ∧ (¬ s0 = (0) → v_X4_takes  r_length r_at r_end r_name r_tape (44 : Int32) (fun (r7 : Int32) (n4 : Int32) (n5 : Int32) (n6 : Int32) => (¬ r7 = (0) → ∀ v8 : Int32, v8 = l4 + (1 : Int32) → k15 r_fault r_place n4 n5 n6 d_looked d_lookedCount l2 l3 v8) ∧ (r7 = (0) → v_X4_lookedList_b151 r_length d_nets r_netOfName r_tape Q  r_fault r_place n4 n5 n6 d_looked d_lookedCount)))
def v_X4_lookedList_b130 (r_length : Int32) (d_nets : Int32) (r_netOfName : Nat → Int32) (r_tape : Nat → Int32) (Q : Int32 → Int32 → Int32 → Int32 → Int32 → Int32 → (Nat → Int32) → (Nat → Int32) → Prop) (k15 : Int32 → Int32 → Int32 → Int32 → Int32 → (Nat → Int32) → (Nat → Int32) → Int32 → Int32 → Int32 → Prop) : Int32 → Int32 → Int32 → Int32 → Int32 → (Nat → Int32) → (Nat → Int32) → Int32 → Int32 → Int32 → Prop := fun (r_fault : Int32) (r_place : Int32) (r_at : Int32) (r_end : Int32) (r_name : Int32) (d_looked : Nat → Int32) (d_lookedCount : Nat → Int32) (l2 : Int32) (l3 : Int32) (l4 : Int32) => v_X4_lookedList_b135 r_length d_nets r_netOfName r_tape Q k15 r_fault r_place r_at r_end r_name d_looked d_lookedCount l2 l3 l4 (1 : Int32)
def v_X4_lookedList_b119 (r_length : Int32) (d_nets : Int32) (r_netOfName : Nat → Int32) (r_tape : Nat → Int32) (Q : Int32 → Int32 → Int32 → Int32 → Int32 → Int32 → (Nat → Int32) → (Nat → Int32) → Prop) (k15 : Int32 → Int32 → Int32 → Int32 → Int32 → (Nat → Int32) → (Nat → Int32) → Int32 → Int32 → Int32 → Prop) : Int32 → Int32 → Int32 → Int32 → Int32 → (Nat → Int32) → (Nat → Int32) → Int32 → Int32 → Int32 → Int32 → Prop := fun (r_fault : Int32) (r_place : Int32) (r_at : Int32) (r_end : Int32) (r_name : Int32) (d_looked : Nat → Int32) (d_lookedCount : Nat → Int32) (l2 : Int32) (l3 : Int32) (l4 : Int32) (l5 : Int32) => (l5 < l3 → v_X4_lookedList_b130 r_length d_nets r_netOfName r_tape Q k15 r_fault r_place r_at r_end r_name d_looked d_lookedCount l2 l3 l4) ∧ (¬ l5 < l3 → (¬ l3 = (4 : Int32) → v_X4_lookedList_b135 r_length d_nets r_netOfName r_tape Q k15 r_fault r_place r_at r_end r_name d_looked d_lookedCount l2 l3 l4 (0 : Int32)) ∧ (l3 = (4 : Int32) → v_X4_lookedList_b130 r_length d_nets r_netOfName r_tape Q k15 r_fault r_place r_at r_end r_name d_looked d_lookedCount l2 l3 l4))
def v_X4_lookedList_b15 (r_length : Int32) (d_nets : Int32) (r_netOfName : Nat → Int32) (r_tape : Nat → Int32) (Q : Int32 → Int32 → Int32 → Int32 → Int32 → Int32 → (Nat → Int32) → (Nat → Int32) → Prop)  : Nat → Int32 → Int32 → Int32 → Int32 → Int32 → (Nat → Int32) → (Nat → Int32) → Int32 → Int32 → Int32 → Prop
  | 0 => fun _ _ _ _ _ _ _ _ _ _ => False
  | z15_ + 1 => fun (r_fault : Int32) (r_place : Int32) (r_at : Int32) (r_end : Int32) (r_name : Int32) (d_looked : Nat → Int32) (d_lookedCount : Nat → Int32) (l2 : Int32) (l3 : Int32) (l4 : Int32) => ((4 : Int32) < l4 → Q (0 : Int32) r_fault r_place r_at r_end r_name d_looked d_lookedCount) ∧ (¬ (4 : Int32) < l4 → v_X4_isGiven  r_fault r_place r_at r_name r_netOfName (fun (r11 : Int32) (n9 : Int32) (n10 : Int32) => (¬ r11 = (0) → (¬ l4 = (4 : Int32) → vp_in r_name 286 ∧ vp_in ((d_nets * (4 : Int32)) + l4) 240 ∧ v_X4_advance  r_length r_at r_end r_name r_tape (fun (n12 : Int32) (n13 : Int32) (n14 : Int32) => ∀ v15 : Int32, v15 = l4 + (1 : Int32) → (v15 < l2 → v_X4_lookedList_b119 r_length d_nets r_netOfName r_tape Q (v_X4_lookedList_b15 r_length d_nets r_netOfName r_tape Q  z15_) n9 n10 n12 n13 n14 (upd d_looked ((d_nets * (4 : Int32)) + l4).toNatClampNeg (r_netOfName r_name.toNatClampNeg)) d_lookedCount l2 l3 l4 v15) ∧ (¬ v15 < l2 → v_X4_takes  r_length n12 n13 n14 r_tape (41 : Int32) (fun (r19 : Int32) (n16 : Int32) (n17 : Int32) (n18 : Int32) => (r19 = (0) → v_X4_lookedList_b119 r_length d_nets r_netOfName r_tape Q (v_X4_lookedList_b15 r_length d_nets r_netOfName r_tape Q  z15_) n9 n10 n16 n17 n18 (upd d_looked ((d_nets * (4 : Int32)) + l4).toNatClampNeg (r_netOfName r_name.toNatClampNeg)) d_lookedCount l2 l3 l4 v15) ∧ (¬ r19 = (0) → vp_in d_nets 60 ∧ Q (1 : Int32) n9 n10 n16 n17 n18 (upd d_looked ((d_nets * (4 : Int32)) + l4).toNatClampNeg (r_netOfName r_name.toNatClampNeg)) (upd d_lookedCount d_nets.toNatClampNeg v15)))))) ∧ (l4 = (4 : Int32) → v_X4_refuse  n9 n10 (4 : Int32) r_at (fun (r22 : Int32) (n20 : Int32) (n21 : Int32) => (narrow .boolean (.int r22) = .int r22) ∧ Q r22 n20 n21 r_at r_end r_name d_looked d_lookedCount))) ∧ (r11 = (0) → Q (0 : Int32) n9 n10 r_at r_end r_name d_looked d_lookedCount)))
def v_X4_lookedList (r_length : Int32) (r_fault : Int32) (r_place : Int32) (r_at : Int32) (r_end : Int32) (r_name : Int32) (d_nets : Int32) (r_netOfName : Nat → Int32) (d_looked : Nat → Int32) (r_tape : Nat → Int32) (d_lookedCount : Nat → Int32) (p0 : Int32) (Q : Int32 → Int32 → Int32 → Int32 → Int32 → Int32 → (Nat → Int32) → (Nat → Int32) → Prop) : Prop := vp_in p0 8 ∧ ∀ v23 : Int32, v23 = tb_LEAST_LOOKED.getD p0.toNatClampNeg 0 → vp_in p0 8 ∧ ∀ v24 : Int32, v24 = tb_MOST_OF_OPERATION.getD p0.toNatClampNeg 0 → (∃ f15 : Nat, v_X4_lookedList_b15 r_length d_nets r_netOfName r_tape Q  f15 r_fault r_place r_at r_end r_name d_looked d_lookedCount v23 v24 (0 : Int32))
theorem hd_X4_lookedList : yX4_lookedList.cls = RX4 ∧ yX4_lookedList.cls ≠ "java/lang/invoke/MethodHandle" ∧ yX4_lookedList.cls ≠ "java/lang/invoke/VarHandle" ∧ (parseMethodDescriptor yX4_lookedList.desc).map (fun d => d.parameters.length) = some 1 := by decide +kernel
abbrev rm_X4_lookedList : Room := { frames := 3, cells := 0, slots := 0, locals := 63 }
set_option maxHeartbeats 4000000 in
set_option maxRecDepth 100000 in
theorem c_X4_lookedList (l : Launch) (D : va_G) (ts : Nat → Nat) (cyI cyJ cyZ : ClassId) (h_d : Nat → Nat) (h_r : Nat → Nat) (sz : Nat) (r_length : Int32) (r_fault : Int32) (r_place : Int32) (r_at : Int32) (r_end : Int32) (r_name : Int32) (d_inputs : Int32) (d_flops : Int32) (d_nets : Int32) (d_outputs : Int32) (r_netOfName : Nat → Int32) (d_looked : Nat → Int32) (r_tape : Nat → Int32) (d_lookedCount : Nat → Int32) (p0 : Int32) (Q : Int32 → Int32 → Int32 → Int32 → Int32 → Int32 → (Nat → Int32) → (Nat → Int32) → Prop) (hvc : v_X4_lookedList r_length r_fault r_place r_at r_end r_name d_nets r_netOfName d_looked r_tape d_lookedCount p0 Q) : Met l yX4_lookedList wsX4_lookedList rm_X4_lookedList (va_Pc [.ref (h_r 0), .int p0] (cPre D ts [(cyI, .int), (cyJ, .long), (cyZ, .boolean)] [(h_r 0, .inr (4, [.ref (h_d 0), .ref (h_r 2), .ref (h_r 3), .int r_length, .int r_fault, .int r_place, .int r_at, .int r_end, .int r_name])), (h_d 0, .inr (2, [.int d_inputs, .int d_flops, .int d_nets, .int d_outputs, .ref (h_d 5), .ref (h_d 6), .ref (h_d 7), .ref (h_d 8), .ref (h_d 9), .ref (h_d 10)])), (h_r 3, .inl (cyI, 286, .inl r_netOfName)), (h_d 7, .inl (cyI, 240, .inl d_looked)), (h_r 2, .inl (cyI, 900, .inl r_tape)), (h_d 6, .inl (cyI, 60, .inl d_lookedCount))] sz)) (va_Qi (fun (r : Int32) (u : Int32 × Int32 × Int32 × Int32 × Int32 × (Nat → Int32) × (Nat → Int32)) => Q r u.1 u.2.1 u.2.2.1 u.2.2.2.1 u.2.2.2.2.1 u.2.2.2.2.2.1 u.2.2.2.2.2.2) (cPost D [(cyI, .int), (cyJ, .long), (cyZ, .boolean)] (fun (u : Int32 × Int32 × Int32 × Int32 × Int32 × (Nat → Int32) × (Nat → Int32)) => [(h_r 0, .inr (4, [.ref (h_d 0), .ref (h_r 2), .ref (h_r 3), .int r_length, .int (u.1), .int (u.2.1), .int (u.2.2.1), .int (u.2.2.2.1), .int (u.2.2.2.2.1)])), (h_d 0, .inr (2, [.int d_inputs, .int d_flops, .int d_nets, .int d_outputs, .ref (h_d 5), .ref (h_d 6), .ref (h_d 7), .ref (h_d 8), .ref (h_d 9), .ref (h_d 10)])), (h_r 3, .inl (cyI, 286, .inl r_netOfName)), (h_d 7, .inl (cyI, 240, .inl (u.2.2.2.2.2.1))), (h_r 2, .inl (cyI, 900, .inl r_tape)), (h_d 6, .inl (cyI, 60, .inl (u.2.2.2.2.2.2)))]) (va_A [(h_r 0, .inr (4, [.ref (h_d 0), .ref (h_r 2), .ref (h_r 3), .int r_length, .int r_fault, .int r_place, .int r_at, .int r_end, .int r_name])), (h_d 0, .inr (2, [.int d_inputs, .int d_flops, .int d_nets, .int d_outputs, .ref (h_d 5), .ref (h_d 6), .ref (h_d 7), .ref (h_d 8), .ref (h_d 9), .ref (h_d 10)])), (h_r 3, .inl (cyI, 286, .inl r_netOfName)), (h_d 7, .inl (cyI, 240, .inl d_looked)), (h_r 2, .inl (cyI, 900, .inl r_tape)), (h_d 6, .inl (cyI, 60, .inl d_lookedCount))] sz)) (va_A [(h_r 0, .inr (4, [.ref (h_d 0), .ref (h_r 2), .ref (h_r 3), .int r_length, .int r_fault, .int r_place, .int r_at, .int r_end, .int r_name])), (h_d 0, .inr (2, [.int d_inputs, .int d_flops, .int d_nets, .int d_outputs, .ref (h_d 5), .ref (h_d 6), .ref (h_d 7), .ref (h_d 8), .ref (h_d 9), .ref (h_d 10)])), (h_r 3, .inl (cyI, 286, .inl r_netOfName)), (h_d 7, .inl (cyI, 240, .inl d_looked)), (h_r 2, .inl (cyI, 900, .inl r_tape)), (h_d 6, .inl (cyI, 60, .inl d_lookedCount))] sz)) 0 0 (va_A [(h_r 0, .inr (4, [.ref (h_d 0), .ref (h_r 2), .ref (h_r 3), .int r_length, .int r_fault, .int r_place, .int r_at, .int r_end, .int r_name])), (h_d 0, .inr (2, [.int d_inputs, .int d_flops, .int d_nets, .int d_outputs, .ref (h_d 5), .ref (h_d 6), .ref (h_d 7), .ref (h_d 8), .ref (h_d 9), .ref (h_d 10)])), (h_r 3, .inl (cyI, 286, .inl r_netOfName)), (h_d 7, .inl (cyI, 240, .inl d_looked)), (h_r 2, .inl (cyI, 900, .inl r_tape)), (h_d 6, .inl (cyI, 60, .inl d_lookedCount))] sz) := by
  refine kEnter_z (cc := cX4_lookedList) (maxL := 7) (ty := .boolean) (by decide) rfl (Nat.le_of_ble_eq_true rfl) ?_
  intro p e s m args below meth c A ls QQ hx hb hml hown hts hsz hA hP hD hK hE hS hl hret
  clear hsz
  have hown : s.vm.findClass RX4 = some m.cls := hown
  have inX2 : ∀ w ∈ wsX20, w ∈ wsX4_lookedList := fun _ h => List.mem_cons_of_mem _ (List.mem_append_right _ h)
  have inX4 : ∀ w ∈ wsX40, w ∈ wsX4_lookedList := fun _ h => List.mem_cons_of_mem _ (List.mem_append_left _ (List.mem_append_right _ h))
  have f75 := hts (.fieldLink RX4 75 "ScanTester$Reader" "at" "I") (List.mem_of_getElem? (i := 3) rfl)
  have f22 := hts (.fieldLink RX4 22 "ScanTester$Reader" "circuit" "LScanTester$Circuit;") (List.mem_of_getElem? (i := 4) rfl)
  have f15 := hts (.fieldLink RX4 15 "ScanTester$Reader" "netOfName" "[I") (List.mem_of_getElem? (i := 5) rfl)
  have f86 := hts (.fieldLink RX4 86 "ScanTester$Reader" "name" "I") (List.mem_of_getElem? (i := 6) rfl)
  have f149 := hts (.fieldLink RX4 149 "ScanTester$Reader" "LEAST_LOOKED" "[I") (List.mem_of_getElem? (i := 1) rfl)
  have f157 := hts (.fieldLink RX4 157 "ScanTester$Reader" "MOST_OF_OPERATION" "[I") (List.mem_of_getElem? (i := 2) rfl)
  have w15 : ∀ (n15_ : Nat) (r_fault : Int32) (r_place : Int32) (r_at : Int32) (r_end : Int32) (r_name : Int32) (d_looked : Nat → Int32) (d_lookedCount : Nat → Int32) (l2 : Int32) (l3 : Int32) (l4 : Int32) (H : Heap) (locs : List Loc) (ls : Array Slot), v_X4_lookedList_b15 r_length d_nets r_netOfName r_tape Q  n15_ r_fault r_place r_at r_end r_name d_looked d_lookedCount l2 l3 l4 → va_P D vwCl [(h_r 0, .inr (4, [.ref (h_d 0), .ref (h_r 2), .ref (h_r 3), .int r_length, .int r_fault, .int r_place, .int r_at, .int r_end, .int r_name])), (h_d 0, .inr (2, [.int d_inputs, .int d_flops, .int d_nets, .int d_outputs, .ref (h_d 5), .ref (h_d 6), .ref (h_d 7), .ref (h_d 8), .ref (h_d 9), .ref (h_d 10)])), (h_r 3, .inl (cyI, 286, .inl r_netOfName)), (h_d 7, .inl (cyI, 240, .inl d_looked)), (h_r 2, .inl (cyI, 900, .inl r_tape)), (h_d 6, .inl (cyI, 60, .inl d_lookedCount))] H → va_D A [(h_r 0, .inr (4, [.ref (h_d 0), .ref (h_r 2), .ref (h_r 3), .int r_length, .int r_fault, .int r_place, .int r_at, .int r_end, .int r_name])), (h_d 0, .inr (2, [.int d_inputs, .int d_flops, .int d_nets, .int d_outputs, .ref (h_d 5), .ref (h_d 6), .ref (h_d 7), .ref (h_d 8), .ref (h_d 9), .ref (h_d 10)])), (h_r 3, .inl (cyI, 286, .inl r_netOfName)), (h_d 7, .inl (cyI, 240, .inl d_looked)), (h_r 2, .inl (cyI, 900, .inl r_tape)), (h_d 6, .inl (cyI, 60, .inl d_lookedCount))] → va_S A s.heap H locs → lv_has ls 7 [(0, .ref (h_r 0)), (2, .int l2), (3, .int l3), (4, .int l4)] → W p l e rm_X4_lookedList s m args below meth c H locs 0 0 QQ (F0 m 15 ls []) := by
    intro n15_
    induction n15_ with
    | zero =>
      intro r_fault r_place r_at r_end r_name d_looked d_lookedCount l2 l3 l4 H locs ls hvc hP hD hS hl
      exact False.elim hvc
    | succ n15_ ih15 =>
      have w119 : ∀ (r_fault : Int32) (r_place : Int32) (r_at : Int32) (r_end : Int32) (r_name : Int32) (d_looked : Nat → Int32) (d_lookedCount : Nat → Int32) (l2 : Int32) (l3 : Int32) (l4 : Int32) (l5 : Int32) (H : Heap) (locs : List Loc) (ls : Array Slot), v_X4_lookedList_b119 r_length d_nets r_netOfName r_tape Q (v_X4_lookedList_b15 r_length d_nets r_netOfName r_tape Q  n15_) r_fault r_place r_at r_end r_name d_looked d_lookedCount l2 l3 l4 l5 → va_P D vwCl [(h_r 0, .inr (4, [.ref (h_d 0), .ref (h_r 2), .ref (h_r 3), .int r_length, .int r_fault, .int r_place, .int r_at, .int r_end, .int r_name])), (h_d 0, .inr (2, [.int d_inputs, .int d_flops, .int d_nets, .int d_outputs, .ref (h_d 5), .ref (h_d 6), .ref (h_d 7), .ref (h_d 8), .ref (h_d 9), .ref (h_d 10)])), (h_r 3, .inl (cyI, 286, .inl r_netOfName)), (h_d 7, .inl (cyI, 240, .inl d_looked)), (h_r 2, .inl (cyI, 900, .inl r_tape)), (h_d 6, .inl (cyI, 60, .inl d_lookedCount))] H → va_D A [(h_r 0, .inr (4, [.ref (h_d 0), .ref (h_r 2), .ref (h_r 3), .int r_length, .int r_fault, .int r_place, .int r_at, .int r_end, .int r_name])), (h_d 0, .inr (2, [.int d_inputs, .int d_flops, .int d_nets, .int d_outputs, .ref (h_d 5), .ref (h_d 6), .ref (h_d 7), .ref (h_d 8), .ref (h_d 9), .ref (h_d 10)])), (h_r 3, .inl (cyI, 286, .inl r_netOfName)), (h_d 7, .inl (cyI, 240, .inl d_looked)), (h_r 2, .inl (cyI, 900, .inl r_tape)), (h_d 6, .inl (cyI, 60, .inl d_lookedCount))] → va_S A s.heap H locs → lv_has ls 7 [(0, .ref (h_r 0)), (2, .int l2), (3, .int l3), (4, .int l4), (5, .int l5)] → W p l e rm_X4_lookedList s m args below meth c H locs 0 0 QQ (F0 m 119 ls []) := by
        have w135 : ∀ (r_fault : Int32) (r_place : Int32) (r_at : Int32) (r_end : Int32) (r_name : Int32) (d_looked : Nat → Int32) (d_lookedCount : Nat → Int32) (l2 : Int32) (l3 : Int32) (l4 : Int32) (s0 : Int32) (H : Heap) (locs : List Loc) (ls : Array Slot), v_X4_lookedList_b135 r_length d_nets r_netOfName r_tape Q (v_X4_lookedList_b15 r_length d_nets r_netOfName r_tape Q  n15_) r_fault r_place r_at r_end r_name d_looked d_lookedCount l2 l3 l4 s0 → va_P D vwCl [(h_r 0, .inr (4, [.ref (h_d 0), .ref (h_r 2), .ref (h_r 3), .int r_length, .int r_fault, .int r_place, .int r_at, .int r_end, .int r_name])), (h_d 0, .inr (2, [.int d_inputs, .int d_flops, .int d_nets, .int d_outputs, .ref (h_d 5), .ref (h_d 6), .ref (h_d 7), .ref (h_d 8), .ref (h_d 9), .ref (h_d 10)])), (h_r 3, .inl (cyI, 286, .inl r_netOfName)), (h_d 7, .inl (cyI, 240, .inl d_looked)), (h_r 2, .inl (cyI, 900, .inl r_tape)), (h_d 6, .inl (cyI, 60, .inl d_lookedCount))] H → va_D A [(h_r 0, .inr (4, [.ref (h_d 0), .ref (h_r 2), .ref (h_r 3), .int r_length, .int r_fault, .int r_place, .int r_at, .int r_end, .int r_name])), (h_d 0, .inr (2, [.int d_inputs, .int d_flops, .int d_nets, .int d_outputs, .ref (h_d 5), .ref (h_d 6), .ref (h_d 7), .ref (h_d 8), .ref (h_d 9), .ref (h_d 10)])), (h_r 3, .inl (cyI, 286, .inl r_netOfName)), (h_d 7, .inl (cyI, 240, .inl d_looked)), (h_r 2, .inl (cyI, 900, .inl r_tape)), (h_d 6, .inl (cyI, 60, .inl d_lookedCount))] → va_S A s.heap H locs → lv_has ls 7 [(0, .ref (h_r 0)), (2, .int l2), (3, .int l3), (4, .int l4)] → W p l e rm_X4_lookedList s m args below meth c H locs 0 0 QQ (F0 m 135 ls [.int s0]) := by
          have w151 : ∀ (r_fault : Int32) (r_place : Int32) (r_at : Int32) (r_end : Int32) (r_name : Int32) (d_looked : Nat → Int32) (d_lookedCount : Nat → Int32) (H : Heap) (locs : List Loc) (ls : Array Slot), v_X4_lookedList_b151 r_length d_nets r_netOfName r_tape Q  r_fault r_place r_at r_end r_name d_looked d_lookedCount → va_P D vwCl [(h_r 0, .inr (4, [.ref (h_d 0), .ref (h_r 2), .ref (h_r 3), .int r_length, .int r_fault, .int r_place, .int r_at, .int r_end, .int r_name])), (h_d 0, .inr (2, [.int d_inputs, .int d_flops, .int d_nets, .int d_outputs, .ref (h_d 5), .ref (h_d 6), .ref (h_d 7), .ref (h_d 8), .ref (h_d 9), .ref (h_d 10)])), (h_r 3, .inl (cyI, 286, .inl r_netOfName)), (h_d 7, .inl (cyI, 240, .inl d_looked)), (h_r 2, .inl (cyI, 900, .inl r_tape)), (h_d 6, .inl (cyI, 60, .inl d_lookedCount))] H → va_D A [(h_r 0, .inr (4, [.ref (h_d 0), .ref (h_r 2), .ref (h_r 3), .int r_length, .int r_fault, .int r_place, .int r_at, .int r_end, .int r_name])), (h_d 0, .inr (2, [.int d_inputs, .int d_flops, .int d_nets, .int d_outputs, .ref (h_d 5), .ref (h_d 6), .ref (h_d 7), .ref (h_d 8), .ref (h_d 9), .ref (h_d 10)])), (h_r 3, .inl (cyI, 286, .inl r_netOfName)), (h_d 7, .inl (cyI, 240, .inl d_looked)), (h_r 2, .inl (cyI, 900, .inl r_tape)), (h_d 6, .inl (cyI, 60, .inl d_lookedCount))] → va_S A s.heap H locs → lv_has ls 7 [(0, .ref (h_r 0))] → W p l e rm_X4_lookedList s m args below meth c H locs 0 0 QQ (F0 m 151 ls []) := by
            intro r_fault r_place r_at r_end r_name d_looked d_lookedCount H locs ls hvc hP hD hS hl
            delta v_X4_lookedList_b151 at hvc
            refine lv_aload_n hx hb dX4_lookedList_151 rfl (lv_at hl 0 rfl) ?_
            refine lv_iconst (v := 1) hx hb dX4_lookedList_152 (by decide) ?_
            refine lv_aload_n hx hb dX4_lookedList_153 rfl (lv_at hl 0 rfl) ?_
            refine va_get (D := D) (ci := 4) (C := RX4) (T := TX4) (N := 9) hx hb hts inX4 hown hK hP 0 rfl rfl 6 (by decide) f75 (fun _ h9 => h9) rfl dX4_lookedList_154 ?_
            refine kV_i (wc := [(h_r 0, .inr (4, [.ref (h_d 0), .ref (h_r 2), .ref (h_r 3), .int r_length, .int r_fault, .int r_place, .int r_at, .int r_end, .int r_name]))]) (wr := [(h_d 0, .inr (2, [.int d_inputs, .int d_flops, .int d_nets, .int d_outputs, .ref (h_d 5), .ref (h_d 6), .ref (h_d 7), .ref (h_d 8), .ref (h_d 9), .ref (h_d 10)])), (h_r 3, .inl (cyI, 286, .inl r_netOfName)), (h_d 7, .inl (cyI, 240, .inl d_looked)), (h_r 2, .inl (cyI, 900, .inl r_tape)), (h_d 6, .inl (cyI, 60, .inl d_lookedCount))]) (As := [.int (1 : Int32), .int r_at]) (rest := []) ⟨hx, hb, hml, hown, hts⟩ hP hD hK hE hS hA [0] [1, 2, 3, 4, 5] rfl rfl (by decide) (by decide) (by decide) (c_X4_refuse l D ts cyI cyJ cyZ h_d h_r _ r_length r_fault r_place r_at r_end r_name (1 : Int32) r_at _ hvc) (cwV 2 hts gX4_lookedList_X4_refuse rfl rfl rfl hd_X4_refuse ⟨Nat.le_of_ble_eq_true rfl, Nat.le_of_ble_eq_true rfl⟩) (ci := 4) rfl rfl rfl hl.1 rfl (Nat.zero_le _) (Nat.zero_le _) rfl (Nat.le_of_ble_eq_true rfl) dX4_lookedList_157 (fun r3 u H locs hvc hP hD hS => ?_)
            obtain ⟨n1, n2⟩ := u
            try dsimp only at hvc
            have hP : va_P D vwCl [(h_r 0, .inr (4, [.ref (h_d 0), .ref (h_r 2), .ref (h_r 3), .int r_length, .int n1, .int n2, .int r_at, .int r_end, .int r_name])), (h_d 0, .inr (2, [.int d_inputs, .int d_flops, .int d_nets, .int d_outputs, .ref (h_d 5), .ref (h_d 6), .ref (h_d 7), .ref (h_d 8), .ref (h_d 9), .ref (h_d 10)])), (h_r 3, .inl (cyI, 286, .inl r_netOfName)), (h_d 7, .inl (cyI, 240, .inl d_looked)), (h_r 2, .inl (cyI, 900, .inl r_tape)), (h_d 6, .inl (cyI, 60, .inl d_lookedCount))] H := sub_P hP (isC := [5, 0, 1, 2, 3, 4]) rfl
            have hD : va_D A [(h_r 0, .inr (4, [.ref (h_d 0), .ref (h_r 2), .ref (h_r 3), .int r_length, .int n1, .int n2, .int r_at, .int r_end, .int r_name])), (h_d 0, .inr (2, [.int d_inputs, .int d_flops, .int d_nets, .int d_outputs, .ref (h_d 5), .ref (h_d 6), .ref (h_d 7), .ref (h_d 8), .ref (h_d 9), .ref (h_d 10)])), (h_r 3, .inl (cyI, 286, .inl r_netOfName)), (h_d 7, .inl (cyI, 240, .inl d_looked)), (h_r 2, .inl (cyI, 900, .inl r_tape)), (h_d 6, .inl (cyI, 60, .inl d_lookedCount))] := hD.sub [5, 0, 1, 2, 3, 4] (by decide) rfl
            obtain ⟨hn, hvc⟩ := hvc
            exact hret r3 (n1, n2, r_at, r_end, r_name, d_looked, d_lookedCount) _ _ _ _ hn hvc hP hD hS dX4_lookedList_160
          intro r_fault r_place r_at r_end r_name d_looked d_lookedCount l2 l3 l4 s0 H locs ls hvc hP hD hS hl
          refine lv_istore (lv' := [(6, .int s0), (0, .ref (h_r 0)), (2, .int l2), (3, .int l3), (4, .int l4)]) hx hb dX4_lookedList_135 hl (by decide) rfl (fun ls hl => ?_)
          refine lv_iload hx hb dX4_lookedList_137 (lv_at hl 0 rfl) ?_
          obtain ⟨hvt, hvf⟩ := hvc
          refine lv_if_eq (tgt := 151) hx hb dX4_lookedList_139 (by decide) (fun hc => ?_) (fun hc => ?_)
          · have hvc := hvt hc
            exact w151 r_fault r_place r_at r_end r_name d_looked d_lookedCount _ _ _ hvc hP hD hS (lv_sub hl [1] rfl)
          · have hvc := hvf hc
            refine lv_aload_n hx hb dX4_lookedList_142 rfl (lv_at hl 1 rfl) ?_
            refine lv_bipush (v := 44) hx hb dX4_lookedList_143 (by decide) ?_
            refine kV_i (wc := [(h_r 0, .inr (4, [.ref (h_d 0), .ref (h_r 2), .ref (h_r 3), .int r_length, .int r_fault, .int r_place, .int r_at, .int r_end, .int r_name])), (h_r 2, .inl (cyI, 900, .inl r_tape))]) (wr := [(h_d 0, .inr (2, [.int d_inputs, .int d_flops, .int d_nets, .int d_outputs, .ref (h_d 5), .ref (h_d 6), .ref (h_d 7), .ref (h_d 8), .ref (h_d 9), .ref (h_d 10)])), (h_r 3, .inl (cyI, 286, .inl r_netOfName)), (h_d 7, .inl (cyI, 240, .inl d_looked)), (h_d 6, .inl (cyI, 60, .inl d_lookedCount))]) (As := [.int (44 : Int32)]) (rest := []) ⟨hx, hb, hml, hown, hts⟩ hP hD hK hE hS hA [0, 4] [1, 2, 3, 5] rfl rfl (by decide) (by decide) (by decide) (c_X4_takes l D ts cyI cyJ cyZ h_d h_r _ r_length r_fault r_place r_at r_end r_name r_tape (44 : Int32) _ hvc) (cwV 1 hts gX4_lookedList_X4_takes rfl rfl rfl hd_X4_takes ⟨Nat.le_of_ble_eq_true rfl, Nat.le_of_ble_eq_true rfl⟩) (ci := 4) rfl rfl rfl hl.1 rfl (Nat.zero_le _) (Nat.zero_le _) rfl (Nat.le_of_ble_eq_true rfl) dX4_lookedList_145 (fun r7 u H locs hvc hP hD hS => ?_)
            obtain ⟨n4, n5, n6⟩ := u
            try dsimp only at hvc
            have hP : va_P D vwCl [(h_r 0, .inr (4, [.ref (h_d 0), .ref (h_r 2), .ref (h_r 3), .int r_length, .int r_fault, .int r_place, .int n4, .int n5, .int n6])), (h_d 0, .inr (2, [.int d_inputs, .int d_flops, .int d_nets, .int d_outputs, .ref (h_d 5), .ref (h_d 6), .ref (h_d 7), .ref (h_d 8), .ref (h_d 9), .ref (h_d 10)])), (h_r 3, .inl (cyI, 286, .inl r_netOfName)), (h_d 7, .inl (cyI, 240, .inl d_looked)), (h_r 2, .inl (cyI, 900, .inl r_tape)), (h_d 6, .inl (cyI, 60, .inl d_lookedCount))] H := sub_P hP (isC := [4, 0, 1, 2, 5, 3]) rfl
            have hD : va_D A [(h_r 0, .inr (4, [.ref (h_d 0), .ref (h_r 2), .ref (h_r 3), .int r_length, .int r_fault, .int r_place, .int n4, .int n5, .int n6])), (h_d 0, .inr (2, [.int d_inputs, .int d_flops, .int d_nets, .int d_outputs, .ref (h_d 5), .ref (h_d 6), .ref (h_d 7), .ref (h_d 8), .ref (h_d 9), .ref (h_d 10)])), (h_r 3, .inl (cyI, 286, .inl r_netOfName)), (h_d 7, .inl (cyI, 240, .inl d_looked)), (h_r 2, .inl (cyI, 900, .inl r_tape)), (h_d 6, .inl (cyI, 60, .inl d_lookedCount))] := hD.sub [4, 0, 1, 2, 5, 3] (by decide) rfl
            obtain ⟨hvt, hvf⟩ := hvc
            refine lv_if_ne (tgt := 161) hx hb dX4_lookedList_148 (by decide) (fun hc => ?_) (fun hc => ?_)
            · have hvc := hvt hc
              obtain ⟨v8, ev8⟩ : ∃ y : Int32, y = l4 + (1 : Int32) := ⟨_, rfl⟩
              have hvc := hvc v8 ev8
              refine lv_iinc (v := v8) (lv' := [(4, .int v8), (6, .int s0), (0, .ref (h_r 0)), (2, .int l2), (3, .int l3)]) hx hb dX4_lookedList_161 hl (k := 4) rfl (by rw [ev8]; rfl) (by decide) rfl (fun ls hl => ?_)
              refine lv_goto (tgt := 15) hx hb dX4_lookedList_164 (by decide) ?_
              exact ih15 r_fault r_place n4 n5 n6 d_looked d_lookedCount l2 l3 v8 _ _ _ hvc hP hD hS (lv_sub hl [2, 3, 4, 0] rfl)
            · have hvc := hvf hc
              exact w151 r_fault r_place n4 n5 n6 d_looked d_lookedCount _ _ _ hvc hP hD hS (lv_sub hl [1] rfl)
        have w130 : ∀ (r_fault : Int32) (r_place : Int32) (r_at : Int32) (r_end : Int32) (r_name : Int32) (d_looked : Nat → Int32) (d_lookedCount : Nat → Int32) (l2 : Int32) (l3 : Int32) (l4 : Int32) (H : Heap) (locs : List Loc) (ls : Array Slot), v_X4_lookedList_b130 r_length d_nets r_netOfName r_tape Q (v_X4_lookedList_b15 r_length d_nets r_netOfName r_tape Q  n15_) r_fault r_place r_at r_end r_name d_looked d_lookedCount l2 l3 l4 → va_P D vwCl [(h_r 0, .inr (4, [.ref (h_d 0), .ref (h_r 2), .ref (h_r 3), .int r_length, .int r_fault, .int r_place, .int r_at, .int r_end, .int r_name])), (h_d 0, .inr (2, [.int d_inputs, .int d_flops, .int d_nets, .int d_outputs, .ref (h_d 5), .ref (h_d 6), .ref (h_d 7), .ref (h_d 8), .ref (h_d 9), .ref (h_d 10)])), (h_r 3, .inl (cyI, 286, .inl r_netOfName)), (h_d 7, .inl (cyI, 240, .inl d_looked)), (h_r 2, .inl (cyI, 900, .inl r_tape)), (h_d 6, .inl (cyI, 60, .inl d_lookedCount))] H → va_D A [(h_r 0, .inr (4, [.ref (h_d 0), .ref (h_r 2), .ref (h_r 3), .int r_length, .int r_fault, .int r_place, .int r_at, .int r_end, .int r_name])), (h_d 0, .inr (2, [.int d_inputs, .int d_flops, .int d_nets, .int d_outputs, .ref (h_d 5), .ref (h_d 6), .ref (h_d 7), .ref (h_d 8), .ref (h_d 9), .ref (h_d 10)])), (h_r 3, .inl (cyI, 286, .inl r_netOfName)), (h_d 7, .inl (cyI, 240, .inl d_looked)), (h_r 2, .inl (cyI, 900, .inl r_tape)), (h_d 6, .inl (cyI, 60, .inl d_lookedCount))] → va_S A s.heap H locs → lv_has ls 7 [(0, .ref (h_r 0)), (2, .int l2), (3, .int l3), (4, .int l4)] → W p l e rm_X4_lookedList s m args below meth c H locs 0 0 QQ (F0 m 130 ls []) := by
          intro r_fault r_place r_at r_end r_name d_looked d_lookedCount l2 l3 l4 H locs ls hvc hP hD hS hl
          delta v_X4_lookedList_b130 at hvc
          refine lv_iconst (v := 1) hx hb dX4_lookedList_130 (by decide) ?_
          refine lv_goto (tgt := 135) hx hb dX4_lookedList_131 (by decide) ?_
          exact w135 r_fault r_place r_at r_end r_name d_looked d_lookedCount l2 l3 l4 (1 : Int32) _ _ _ hvc hP hD hS (lv_sub hl [0, 1, 2, 3] rfl)
        intro r_fault r_place r_at r_end r_name d_looked d_lookedCount l2 l3 l4 l5 H locs ls hvc hP hD hS hl
        refine lv_iload hx hb dX4_lookedList_119 (lv_at hl 4 rfl) ?_
        refine lv_iload_n hx hb dX4_lookedList_121 rfl (lv_at hl 2 rfl) ?_
        obtain ⟨hvt, hvf⟩ := hvc
        refine lv_icmp_lt (tgt := 130) hx hb dX4_lookedList_122 (by decide) (fun hc => ?_) (fun hc => ?_)
        · have hvc := hvt hc
          exact w130 r_fault r_place r_at r_end r_name d_looked d_lookedCount l2 l3 l4 _ _ _ hvc hP hD hS (lv_sub hl [0, 1, 2, 3] rfl)
        · have hvc := hvf hc
          refine lv_iload_n hx hb dX4_lookedList_125 rfl (lv_at hl 2 rfl) ?_
          refine lv_iconst (v := 4) hx hb dX4_lookedList_126 (by decide) ?_
          obtain ⟨hvt, hvf⟩ := hvc
          refine lv_icmp_ne (tgt := 134) hx hb dX4_lookedList_127 (by decide) (fun hc => ?_) (fun hc => ?_)
          · have hvc := hvt hc
            refine lv_iconst (v := 0) hx hb dX4_lookedList_134 (by decide) ?_
            exact w135 r_fault r_place r_at r_end r_name d_looked d_lookedCount l2 l3 l4 (0 : Int32) _ _ _ hvc hP hD hS (lv_sub hl [0, 1, 2, 3] rfl)
          · have hvc := hvf hc
            exact w130 r_fault r_place r_at r_end r_name d_looked d_lookedCount l2 l3 l4 _ _ _ hvc hP hD hS (lv_sub hl [0, 1, 2, 3] rfl)
      intro r_fault r_place r_at r_end r_name d_looked d_lookedCount l2 l3 l4 H locs ls hvc hP hD hS hl
      refine lv_iload hx hb dX4_lookedList_15 (lv_at hl 3 rfl) ?_
      refine lv_iconst (v := 4) hx hb dX4_lookedList_17 (by decide) ?_
      obtain ⟨hvt, hvf⟩ := hvc
      refine lv_icmp_gt (tgt := 167) hx hb dX4_lookedList_18 (by decide) (fun hc => ?_) (fun hc => ?_)
      · have hvc := hvt hc
        refine lv_iconst (v := 0) hx hb dX4_lookedList_167 (by decide) ?_
        exact hret (0 : Int32) (r_fault, r_place, r_at, r_end, r_name, d_looked, d_lookedCount) _ _ _ _ rfl hvc hP hD hS dX4_lookedList_168
      · have hvc := hvf hc
        refine lv_aload_n hx hb dX4_lookedList_21 rfl (lv_at hl 0 rfl) ?_
        refine kV_i (wc := [(h_r 0, .inr (4, [.ref (h_d 0), .ref (h_r 2), .ref (h_r 3), .int r_length, .int r_fault, .int r_place, .int r_at, .int r_end, .int r_name])), (h_r 3, .inl (cyI, 286, .inl r_netOfName))]) (wr := [(h_d 0, .inr (2, [.int d_inputs, .int d_flops, .int d_nets, .int d_outputs, .ref (h_d 5), .ref (h_d 6), .ref (h_d 7), .ref (h_d 8), .ref (h_d 9), .ref (h_d 10)])), (h_d 7, .inl (cyI, 240, .inl d_looked)), (h_r 2, .inl (cyI, 900, .inl r_tape)), (h_d 6, .inl (cyI, 60, .inl d_lookedCount))]) (As := []) (rest := []) ⟨hx, hb, hml, hown, hts⟩ hP hD hK hE hS hA [0, 2] [1, 3, 4, 5] rfl rfl (by decide) (by decide) (by decide) (c_X4_isGiven l D ts cyI cyJ cyZ h_d h_r _ r_length r_fault r_place r_at r_end r_name r_netOfName _ hvc) (cwV 0 hts gX4_lookedList_X4_isGiven rfl rfl rfl hd_X4_isGiven ⟨Nat.le_of_ble_eq_true rfl, Nat.le_of_ble_eq_true rfl⟩) (ci := 4) rfl rfl rfl hl.1 rfl (Nat.zero_le _) (Nat.zero_le _) rfl (Nat.le_of_ble_eq_true rfl) dX4_lookedList_22 (fun r11 u H locs hvc hP hD hS => ?_)
        obtain ⟨n9, n10⟩ := u
        try dsimp only at hvc
        have hP : va_P D vwCl [(h_r 0, .inr (4, [.ref (h_d 0), .ref (h_r 2), .ref (h_r 3), .int r_length, .int n9, .int n10, .int r_at, .int r_end, .int r_name])), (h_d 0, .inr (2, [.int d_inputs, .int d_flops, .int d_nets, .int d_outputs, .ref (h_d 5), .ref (h_d 6), .ref (h_d 7), .ref (h_d 8), .ref (h_d 9), .ref (h_d 10)])), (h_r 3, .inl (cyI, 286, .inl r_netOfName)), (h_d 7, .inl (cyI, 240, .inl d_looked)), (h_r 2, .inl (cyI, 900, .inl r_tape)), (h_d 6, .inl (cyI, 60, .inl d_lookedCount))] H := sub_P hP (isC := [4, 0, 5, 1, 2, 3]) rfl
        have hD : va_D A [(h_r 0, .inr (4, [.ref (h_d 0), .ref (h_r 2), .ref (h_r 3), .int r_length, .int n9, .int n10, .int r_at, .int r_end, .int r_name])), (h_d 0, .inr (2, [.int d_inputs, .int d_flops, .int d_nets, .int d_outputs, .ref (h_d 5), .ref (h_d 6), .ref (h_d 7), .ref (h_d 8), .ref (h_d 9), .ref (h_d 10)])), (h_r 3, .inl (cyI, 286, .inl r_netOfName)), (h_d 7, .inl (cyI, 240, .inl d_looked)), (h_r 2, .inl (cyI, 900, .inl r_tape)), (h_d 6, .inl (cyI, 60, .inl d_lookedCount))] := hD.sub [4, 0, 5, 1, 2, 3] (by decide) rfl
        obtain ⟨hvt, hvf⟩ := hvc
        refine lv_if_ne (tgt := 30) hx hb dX4_lookedList_25 (by decide) (fun hc => ?_) (fun hc => ?_)
        · have hvc := hvt hc
          refine lv_iload hx hb dX4_lookedList_30 (lv_at hl 3 rfl) ?_
          refine lv_iconst (v := 4) hx hb dX4_lookedList_32 (by decide) ?_
          obtain ⟨hvt, hvf⟩ := hvc
          refine lv_icmp_ne (tgt := 46) hx hb dX4_lookedList_33 (by decide) (fun hc => ?_) (fun hc => ?_)
          · have hvc := hvt hc
            refine lv_aload_n hx hb dX4_lookedList_46 rfl (lv_at hl 0 rfl) ?_
            refine va_get (D := D) (ci := 4) (C := RX4) (T := TX4) (N := 9) hx hb hts inX4 hown hK hP 0 rfl rfl 0 (by decide) f22 (fun _ h9 => h9) rfl dX4_lookedList_47 ?_
            refine va_getN (D := D) (ci := 2) (C := RX2) (T := TX2) (N := 10) hx hb hts inX2 hown hK hP 1 rfl rfl 6 (by decide) hE.n15 (fun _ h9 => h9) rfl dX4_lookedList_50 ?_
            refine lv_aload_n hx hb dX4_lookedList_53 rfl (lv_at hl 0 rfl) ?_
            refine va_get (D := D) (ci := 4) (C := RX4) (T := TX4) (N := 9) hx hb hts inX4 hown hK hP 0 rfl rfl 0 (by decide) f22 (fun _ h9 => h9) rfl dX4_lookedList_54 ?_
            refine va_getN (D := D) (ci := 2) (C := RX2) (T := TX2) (N := 10) hx hb hts inX2 hown hK hP 1 rfl rfl 2 (by decide) hE.n10 (fun _ h9 => h9) rfl dX4_lookedList_57 ?_
            refine lv_iconst (v := 4) hx hb dX4_lookedList_60 (by decide) ?_
            refine lv_imul hx hb dX4_lookedList_61 ?_
            refine lv_iload hx hb dX4_lookedList_62 (lv_at hl 3 rfl) ?_
            refine lv_iadd hx hb dX4_lookedList_64 ?_
            refine lv_aload_n hx hb dX4_lookedList_65 rfl (lv_at hl 0 rfl) ?_
            refine va_get (D := D) (ci := 4) (C := RX4) (T := TX4) (N := 9) hx hb hts inX4 hown hK hP 0 rfl rfl 2 (by decide) f15 (fun _ h9 => h9) rfl dX4_lookedList_66 ?_
            refine lv_aload_n hx hb dX4_lookedList_69 rfl (lv_at hl 0 rfl) ?_
            refine va_get (D := D) (ci := 4) (C := RX4) (T := TX4) (N := 9) hx hb hts inX4 hown hK hP 0 rfl rfl 8 (by decide) f86 (fun _ h9 => h9) rfl dX4_lookedList_70 ?_
            obtain ⟨hi, hvc⟩ := hvc
            refine va_iald hx hb hK hP 2 0 rfl rfl hi dX4_lookedList_73 ?_
            obtain ⟨hi, hvc⟩ := hvc
            refine va_iast hx hb hK hP hD hS 3 0 rfl rfl hi dX4_lookedList_74 (fun H locs hP hD hS => ?_)
            have hP : va_P D vwCl [(h_r 0, .inr (4, [.ref (h_d 0), .ref (h_r 2), .ref (h_r 3), .int r_length, .int n9, .int n10, .int r_at, .int r_end, .int r_name])), (h_d 0, .inr (2, [.int d_inputs, .int d_flops, .int d_nets, .int d_outputs, .ref (h_d 5), .ref (h_d 6), .ref (h_d 7), .ref (h_d 8), .ref (h_d 9), .ref (h_d 10)])), (h_r 3, .inl (cyI, 286, .inl r_netOfName)), (h_d 7, .inl (cyI, 240, .inl (upd d_looked ((d_nets * (4 : Int32)) + l4).toNatClampNeg (r_netOfName r_name.toNatClampNeg)))), (h_r 2, .inl (cyI, 900, .inl r_tape)), (h_d 6, .inl (cyI, 60, .inl d_lookedCount))] H := hP
            have hD : va_D A [(h_r 0, .inr (4, [.ref (h_d 0), .ref (h_r 2), .ref (h_r 3), .int r_length, .int n9, .int n10, .int r_at, .int r_end, .int r_name])), (h_d 0, .inr (2, [.int d_inputs, .int d_flops, .int d_nets, .int d_outputs, .ref (h_d 5), .ref (h_d 6), .ref (h_d 7), .ref (h_d 8), .ref (h_d 9), .ref (h_d 10)])), (h_r 3, .inl (cyI, 286, .inl r_netOfName)), (h_d 7, .inl (cyI, 240, .inl (upd d_looked ((d_nets * (4 : Int32)) + l4).toNatClampNeg (r_netOfName r_name.toNatClampNeg)))), (h_r 2, .inl (cyI, 900, .inl r_tape)), (h_d 6, .inl (cyI, 60, .inl d_lookedCount))] := hD
            refine lv_aload_n hx hb dX4_lookedList_75 rfl (lv_at hl 0 rfl) ?_
            refine kV_v (wc := [(h_r 0, .inr (4, [.ref (h_d 0), .ref (h_r 2), .ref (h_r 3), .int r_length, .int n9, .int n10, .int r_at, .int r_end, .int r_name])), (h_r 2, .inl (cyI, 900, .inl r_tape))]) (wr := [(h_d 0, .inr (2, [.int d_inputs, .int d_flops, .int d_nets, .int d_outputs, .ref (h_d 5), .ref (h_d 6), .ref (h_d 7), .ref (h_d 8), .ref (h_d 9), .ref (h_d 10)])), (h_r 3, .inl (cyI, 286, .inl r_netOfName)), (h_d 7, .inl (cyI, 240, .inl (upd d_looked ((d_nets * (4 : Int32)) + l4).toNatClampNeg (r_netOfName r_name.toNatClampNeg)))), (h_d 6, .inl (cyI, 60, .inl d_lookedCount))]) (As := []) (rest := []) ⟨hx, hb, hml, hown, hts⟩ hP hD hK hE hS hA [0, 4] [1, 2, 3, 5] rfl rfl (by decide) (by decide) (by decide) (c_X4_advance l D ts cyI cyJ cyZ h_d h_r _ r_length n9 n10 r_at r_end r_name r_tape _ hvc) (cwV 0 hts gX4_lookedList_X4_advance rfl rfl rfl hd_X4_advance ⟨Nat.le_of_ble_eq_true rfl, Nat.le_of_ble_eq_true rfl⟩) (ci := 4) rfl rfl rfl hl.1 rfl (Nat.zero_le _) (Nat.zero_le _) rfl (Nat.le_of_ble_eq_true rfl) dX4_lookedList_76 (fun u H locs hvc hP hD hS => ?_)
            obtain ⟨n12, n13, n14⟩ := u
            try dsimp only at hvc
            have hP : va_P D vwCl [(h_r 0, .inr (4, [.ref (h_d 0), .ref (h_r 2), .ref (h_r 3), .int r_length, .int n9, .int n10, .int n12, .int n13, .int n14])), (h_d 0, .inr (2, [.int d_inputs, .int d_flops, .int d_nets, .int d_outputs, .ref (h_d 5), .ref (h_d 6), .ref (h_d 7), .ref (h_d 8), .ref (h_d 9), .ref (h_d 10)])), (h_r 3, .inl (cyI, 286, .inl r_netOfName)), (h_d 7, .inl (cyI, 240, .inl (upd d_looked ((d_nets * (4 : Int32)) + l4).toNatClampNeg (r_netOfName r_name.toNatClampNeg)))), (h_r 2, .inl (cyI, 900, .inl r_tape)), (h_d 6, .inl (cyI, 60, .inl d_lookedCount))] H := sub_P hP (isC := [4, 0, 1, 2, 5, 3]) rfl
            have hD : va_D A [(h_r 0, .inr (4, [.ref (h_d 0), .ref (h_r 2), .ref (h_r 3), .int r_length, .int n9, .int n10, .int n12, .int n13, .int n14])), (h_d 0, .inr (2, [.int d_inputs, .int d_flops, .int d_nets, .int d_outputs, .ref (h_d 5), .ref (h_d 6), .ref (h_d 7), .ref (h_d 8), .ref (h_d 9), .ref (h_d 10)])), (h_r 3, .inl (cyI, 286, .inl r_netOfName)), (h_d 7, .inl (cyI, 240, .inl (upd d_looked ((d_nets * (4 : Int32)) + l4).toNatClampNeg (r_netOfName r_name.toNatClampNeg)))), (h_r 2, .inl (cyI, 900, .inl r_tape)), (h_d 6, .inl (cyI, 60, .inl d_lookedCount))] := hD.sub [4, 0, 1, 2, 5, 3] (by decide) rfl
            refine lv_iload hx hb dX4_lookedList_79 (lv_at hl 3 rfl) ?_
            refine lv_iconst (v := 1) hx hb dX4_lookedList_81 (by decide) ?_
            refine lv_iadd hx hb dX4_lookedList_82 ?_
            refine lv_topi (fun v15 ev15 => ?_)
            have hvc := hvc v15 ev15
            refine lv_istore (lv' := [(5, .int v15), (0, .ref (h_r 0)), (2, .int l2), (3, .int l3), (4, .int l4)]) hx hb dX4_lookedList_83 hl (by decide) rfl (fun ls hl => ?_)
            refine lv_iload hx hb dX4_lookedList_85 (lv_at hl 0 rfl) ?_
            refine lv_iload_n hx hb dX4_lookedList_87 rfl (lv_at hl 2 rfl) ?_
            obtain ⟨hvt, hvf⟩ := hvc
            refine lv_icmp_lt (tgt := 119) hx hb dX4_lookedList_88 (by decide) (fun hc => ?_) (fun hc => ?_)
            · have hvc := hvt hc
              exact w119 n9 n10 n12 n13 n14 (upd d_looked ((d_nets * (4 : Int32)) + l4).toNatClampNeg (r_netOfName r_name.toNatClampNeg)) d_lookedCount l2 l3 l4 v15 _ _ _ hvc hP hD hS (lv_sub hl [1, 2, 3, 4, 0] rfl)
            · have hvc := hvf hc
              refine lv_aload_n hx hb dX4_lookedList_91 rfl (lv_at hl 1 rfl) ?_
              refine lv_bipush (v := 41) hx hb dX4_lookedList_92 (by decide) ?_
              refine kV_i (wc := [(h_r 0, .inr (4, [.ref (h_d 0), .ref (h_r 2), .ref (h_r 3), .int r_length, .int n9, .int n10, .int n12, .int n13, .int n14])), (h_r 2, .inl (cyI, 900, .inl r_tape))]) (wr := [(h_d 0, .inr (2, [.int d_inputs, .int d_flops, .int d_nets, .int d_outputs, .ref (h_d 5), .ref (h_d 6), .ref (h_d 7), .ref (h_d 8), .ref (h_d 9), .ref (h_d 10)])), (h_r 3, .inl (cyI, 286, .inl r_netOfName)), (h_d 7, .inl (cyI, 240, .inl (upd d_looked ((d_nets * (4 : Int32)) + l4).toNatClampNeg (r_netOfName r_name.toNatClampNeg)))), (h_d 6, .inl (cyI, 60, .inl d_lookedCount))]) (As := [.int (41 : Int32)]) (rest := []) ⟨hx, hb, hml, hown, hts⟩ hP hD hK hE hS hA [0, 4] [1, 2, 3, 5] rfl rfl (by decide) (by decide) (by decide) (c_X4_takes l D ts cyI cyJ cyZ h_d h_r _ r_length n9 n10 n12 n13 n14 r_tape (41 : Int32) _ hvc) (cwV 1 hts gX4_lookedList_X4_takes rfl rfl rfl hd_X4_takes ⟨Nat.le_of_ble_eq_true rfl, Nat.le_of_ble_eq_true rfl⟩) (ci := 4) rfl rfl rfl hl.1 rfl (Nat.zero_le _) (Nat.zero_le _) rfl (Nat.le_of_ble_eq_true rfl) dX4_lookedList_94 (fun r19 u H locs hvc hP hD hS => ?_)
              obtain ⟨n16, n17, n18⟩ := u
              try dsimp only at hvc
              have hP : va_P D vwCl [(h_r 0, .inr (4, [.ref (h_d 0), .ref (h_r 2), .ref (h_r 3), .int r_length, .int n9, .int n10, .int n16, .int n17, .int n18])), (h_d 0, .inr (2, [.int d_inputs, .int d_flops, .int d_nets, .int d_outputs, .ref (h_d 5), .ref (h_d 6), .ref (h_d 7), .ref (h_d 8), .ref (h_d 9), .ref (h_d 10)])), (h_r 3, .inl (cyI, 286, .inl r_netOfName)), (h_d 7, .inl (cyI, 240, .inl (upd d_looked ((d_nets * (4 : Int32)) + l4).toNatClampNeg (r_netOfName r_name.toNatClampNeg)))), (h_r 2, .inl (cyI, 900, .inl r_tape)), (h_d 6, .inl (cyI, 60, .inl d_lookedCount))] H := sub_P hP (isC := [4, 0, 1, 2, 5, 3]) rfl
              have hD : va_D A [(h_r 0, .inr (4, [.ref (h_d 0), .ref (h_r 2), .ref (h_r 3), .int r_length, .int n9, .int n10, .int n16, .int n17, .int n18])), (h_d 0, .inr (2, [.int d_inputs, .int d_flops, .int d_nets, .int d_outputs, .ref (h_d 5), .ref (h_d 6), .ref (h_d 7), .ref (h_d 8), .ref (h_d 9), .ref (h_d 10)])), (h_r 3, .inl (cyI, 286, .inl r_netOfName)), (h_d 7, .inl (cyI, 240, .inl (upd d_looked ((d_nets * (4 : Int32)) + l4).toNatClampNeg (r_netOfName r_name.toNatClampNeg)))), (h_r 2, .inl (cyI, 900, .inl r_tape)), (h_d 6, .inl (cyI, 60, .inl d_lookedCount))] := hD.sub [4, 0, 1, 2, 5, 3] (by decide) rfl
              obtain ⟨hvt, hvf⟩ := hvc
              refine lv_if_eq (tgt := 119) hx hb dX4_lookedList_97 (by decide) (fun hc => ?_) (fun hc => ?_)
              · have hvc := hvt hc
                exact w119 n9 n10 n16 n17 n18 (upd d_looked ((d_nets * (4 : Int32)) + l4).toNatClampNeg (r_netOfName r_name.toNatClampNeg)) d_lookedCount l2 l3 l4 v15 _ _ _ hvc hP hD hS (lv_sub hl [1, 2, 3, 4, 0] rfl)
              · have hvc := hvf hc
                refine lv_aload_n hx hb dX4_lookedList_100 rfl (lv_at hl 1 rfl) ?_
                refine va_get (D := D) (ci := 4) (C := RX4) (T := TX4) (N := 9) hx hb hts inX4 hown hK hP 0 rfl rfl 0 (by decide) f22 (fun _ h9 => h9) rfl dX4_lookedList_101 ?_
                refine va_getN (D := D) (ci := 2) (C := RX2) (T := TX2) (N := 10) hx hb hts inX2 hown hK hP 1 rfl rfl 5 (by decide) hE.n14 (fun _ h9 => h9) rfl dX4_lookedList_104 ?_
                refine lv_aload_n hx hb dX4_lookedList_107 rfl (lv_at hl 1 rfl) ?_
                refine va_get (D := D) (ci := 4) (C := RX4) (T := TX4) (N := 9) hx hb hts inX4 hown hK hP 0 rfl rfl 0 (by decide) f22 (fun _ h9 => h9) rfl dX4_lookedList_108 ?_
                refine va_getN (D := D) (ci := 2) (C := RX2) (T := TX2) (N := 10) hx hb hts inX2 hown hK hP 1 rfl rfl 2 (by decide) hE.n10 (fun _ h9 => h9) rfl dX4_lookedList_111 ?_
                refine lv_iload hx hb dX4_lookedList_114 (lv_at hl 0 rfl) ?_
                obtain ⟨hi, hvc⟩ := hvc
                refine va_iast hx hb hK hP hD hS 5 0 rfl rfl hi dX4_lookedList_116 (fun H locs hP hD hS => ?_)
                have hP : va_P D vwCl [(h_r 0, .inr (4, [.ref (h_d 0), .ref (h_r 2), .ref (h_r 3), .int r_length, .int n9, .int n10, .int n16, .int n17, .int n18])), (h_d 0, .inr (2, [.int d_inputs, .int d_flops, .int d_nets, .int d_outputs, .ref (h_d 5), .ref (h_d 6), .ref (h_d 7), .ref (h_d 8), .ref (h_d 9), .ref (h_d 10)])), (h_r 3, .inl (cyI, 286, .inl r_netOfName)), (h_d 7, .inl (cyI, 240, .inl (upd d_looked ((d_nets * (4 : Int32)) + l4).toNatClampNeg (r_netOfName r_name.toNatClampNeg)))), (h_r 2, .inl (cyI, 900, .inl r_tape)), (h_d 6, .inl (cyI, 60, .inl (upd d_lookedCount d_nets.toNatClampNeg v15)))] H := hP
                have hD : va_D A [(h_r 0, .inr (4, [.ref (h_d 0), .ref (h_r 2), .ref (h_r 3), .int r_length, .int n9, .int n10, .int n16, .int n17, .int n18])), (h_d 0, .inr (2, [.int d_inputs, .int d_flops, .int d_nets, .int d_outputs, .ref (h_d 5), .ref (h_d 6), .ref (h_d 7), .ref (h_d 8), .ref (h_d 9), .ref (h_d 10)])), (h_r 3, .inl (cyI, 286, .inl r_netOfName)), (h_d 7, .inl (cyI, 240, .inl (upd d_looked ((d_nets * (4 : Int32)) + l4).toNatClampNeg (r_netOfName r_name.toNatClampNeg)))), (h_r 2, .inl (cyI, 900, .inl r_tape)), (h_d 6, .inl (cyI, 60, .inl (upd d_lookedCount d_nets.toNatClampNeg v15)))] := hD
                refine lv_iconst (v := 1) hx hb dX4_lookedList_117 (by decide) ?_
                exact hret (1 : Int32) (n9, n10, n16, n17, n18, upd d_looked ((d_nets * (4 : Int32)) + l4).toNatClampNeg (r_netOfName r_name.toNatClampNeg), upd d_lookedCount d_nets.toNatClampNeg v15) _ _ _ _ rfl hvc hP hD hS dX4_lookedList_118
          · have hvc := hvf hc
            refine lv_aload_n hx hb dX4_lookedList_36 rfl (lv_at hl 0 rfl) ?_
            refine lv_iconst (v := 4) hx hb dX4_lookedList_37 (by decide) ?_
            refine lv_aload_n hx hb dX4_lookedList_38 rfl (lv_at hl 0 rfl) ?_
            refine va_get (D := D) (ci := 4) (C := RX4) (T := TX4) (N := 9) hx hb hts inX4 hown hK hP 0 rfl rfl 6 (by decide) f75 (fun _ h9 => h9) rfl dX4_lookedList_39 ?_
            refine kV_i (wc := [(h_r 0, .inr (4, [.ref (h_d 0), .ref (h_r 2), .ref (h_r 3), .int r_length, .int n9, .int n10, .int r_at, .int r_end, .int r_name]))]) (wr := [(h_d 0, .inr (2, [.int d_inputs, .int d_flops, .int d_nets, .int d_outputs, .ref (h_d 5), .ref (h_d 6), .ref (h_d 7), .ref (h_d 8), .ref (h_d 9), .ref (h_d 10)])), (h_r 3, .inl (cyI, 286, .inl r_netOfName)), (h_d 7, .inl (cyI, 240, .inl d_looked)), (h_r 2, .inl (cyI, 900, .inl r_tape)), (h_d 6, .inl (cyI, 60, .inl d_lookedCount))]) (As := [.int (4 : Int32), .int r_at]) (rest := []) ⟨hx, hb, hml, hown, hts⟩ hP hD hK hE hS hA [0] [1, 2, 3, 4, 5] rfl rfl (by decide) (by decide) (by decide) (c_X4_refuse l D ts cyI cyJ cyZ h_d h_r _ r_length n9 n10 r_at r_end r_name (4 : Int32) r_at _ hvc) (cwV 2 hts gX4_lookedList_X4_refuse rfl rfl rfl hd_X4_refuse ⟨Nat.le_of_ble_eq_true rfl, Nat.le_of_ble_eq_true rfl⟩) (ci := 4) rfl rfl rfl hl.1 rfl (Nat.zero_le _) (Nat.zero_le _) rfl (Nat.le_of_ble_eq_true rfl) dX4_lookedList_42 (fun r22 u H locs hvc hP hD hS => ?_)
            obtain ⟨n20, n21⟩ := u
            try dsimp only at hvc
            have hP : va_P D vwCl [(h_r 0, .inr (4, [.ref (h_d 0), .ref (h_r 2), .ref (h_r 3), .int r_length, .int n20, .int n21, .int r_at, .int r_end, .int r_name])), (h_d 0, .inr (2, [.int d_inputs, .int d_flops, .int d_nets, .int d_outputs, .ref (h_d 5), .ref (h_d 6), .ref (h_d 7), .ref (h_d 8), .ref (h_d 9), .ref (h_d 10)])), (h_r 3, .inl (cyI, 286, .inl r_netOfName)), (h_d 7, .inl (cyI, 240, .inl d_looked)), (h_r 2, .inl (cyI, 900, .inl r_tape)), (h_d 6, .inl (cyI, 60, .inl d_lookedCount))] H := sub_P hP (isC := [5, 0, 1, 2, 3, 4]) rfl
            have hD : va_D A [(h_r 0, .inr (4, [.ref (h_d 0), .ref (h_r 2), .ref (h_r 3), .int r_length, .int n20, .int n21, .int r_at, .int r_end, .int r_name])), (h_d 0, .inr (2, [.int d_inputs, .int d_flops, .int d_nets, .int d_outputs, .ref (h_d 5), .ref (h_d 6), .ref (h_d 7), .ref (h_d 8), .ref (h_d 9), .ref (h_d 10)])), (h_r 3, .inl (cyI, 286, .inl r_netOfName)), (h_d 7, .inl (cyI, 240, .inl d_looked)), (h_r 2, .inl (cyI, 900, .inl r_tape)), (h_d 6, .inl (cyI, 60, .inl d_lookedCount))] := hD.sub [5, 0, 1, 2, 3, 4] (by decide) rfl
            obtain ⟨hn, hvc⟩ := hvc
            exact hret r22 (n20, n21, r_at, r_end, r_name, d_looked, d_lookedCount) _ _ _ _ hn hvc hP hD hS dX4_lookedList_45
        · have hvc := hvf hc
          refine lv_iconst (v := 0) hx hb dX4_lookedList_28 (by decide) ?_
          exact hret (0 : Int32) (n9, n10, r_at, r_end, r_name, d_looked, d_lookedCount) _ _ _ _ rfl hvc hP hD hS dX4_lookedList_29
  have hl : lv_has ls 7 [(0, .ref (h_r 0)), (1, .int p0)] := hl
  refine va_gets hx hb hE.LEAST_LOOKED.1 hS hown f149 (fun _ h9 => h9) dX4_lookedList_0 ?_
  refine lv_iload_n hx hb dX4_lookedList_3 rfl (lv_at hl 1 rfl) ?_
  obtain ⟨hi, hvc⟩ := hvc
  refine va_ti hx hb hE.LEAST_LOOKED.2 hS hi rfl dX4_lookedList_4 ?_
  refine lv_topi (fun v23 ev23 => ?_)
  have hvc := hvc v23 ev23
  refine lv_istore_n (lv' := [(2, .int v23), (0, .ref (h_r 0)), (1, .int p0)]) hx hb dX4_lookedList_5 rfl hl (by decide) rfl (fun ls hl => ?_)
  refine va_gets hx hb hE.MOST_OF_OPERATION.1 hS hown f157 (fun _ h9 => h9) dX4_lookedList_6 ?_
  refine lv_iload_n hx hb dX4_lookedList_9 rfl (lv_at hl 2 rfl) ?_
  obtain ⟨hi, hvc⟩ := hvc
  refine va_ti hx hb hE.MOST_OF_OPERATION.2 hS hi rfl dX4_lookedList_10 ?_
  refine lv_topi (fun v24 ev24 => ?_)
  have hvc := hvc v24 ev24
  refine lv_istore_n (lv' := [(3, .int v24), (2, .int v23), (0, .ref (h_r 0)), (1, .int p0)]) hx hb dX4_lookedList_11 rfl hl (by decide) rfl (fun ls hl => ?_)
  refine lv_iconst (v := 0) hx hb dX4_lookedList_12 (by decide) ?_
  refine lv_istore (lv' := [(4, .int (0 : Int32)), (3, .int v24), (2, .int v23), (0, .ref (h_r 0)), (1, .int p0)]) hx hb dX4_lookedList_13 hl (by decide) rfl (fun ls hl => ?_)
  obtain ⟨n_, hvc⟩ := hvc
  exact w15 n_ r_fault r_place r_at r_end r_name d_looked d_lookedCount v23 v24 (0 : Int32) _ _ _ hvc hP hD hS (lv_sub hl [3, 2, 1, 0] rfl)
