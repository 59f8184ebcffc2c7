def v_J7_fill_53178_b5 (y_len : Nat)  (Q : (Nat → Int32) → Prop)  : Nat → (Nat → Int32) → Int32 → Int32 → Int32 → Prop
  | 0 => fun _ _ _ _ => False
  | z5_ + 1 => fun (y_arr : Nat → Int32) (l1 : Int32) (l2 : Int32) (l3 : Int32) => (l3 ≤ l2 → Q y_arr) ∧ (¬ l3 ≤ l2 → vp_in l2 y_len ∧ ∀ v1 : Int32, v1 = l2 + (1 : Int32) → (v_J7_fill_53178_b5 y_len Q  z5_) (upd y_arr l2.toNatClampNeg l1) l1 v1 l3)
def v_J7_fill_53178 (y_len : Nat) (y_arr : Nat → Int32) (p1 : Int32) (Q : (Nat → Int32) → Prop) : Prop := ∀ v2 : Int32, v2 = nI y_len → (∃ f5 : Nat, v_J7_fill_53178_b5 y_len Q  f5 y_arr p1 (0 : Int32) v2)
theorem hd_J7_fill_53178 : yJ7_fill_53178.cls ≠ "java/lang/invoke/MethodHandle" ∧ yJ7_fill_53178.cls ≠ "java/lang/invoke/VarHandle" ∧ (parseMethodDescriptor yJ7_fill_53178.desc).map (fun d => d.parameters.length) = some 2 := by decide +kernel
abbrev rm_J7_fill_53178 : Room := { frames := 0, cells := 0, slots := 0, locals := 0 }
set_option maxHeartbeats 4000000 in
set_option maxRecDepth 100000 in
theorem c_J7_fill_53178 (l : Launch) (D : va_G) (ts : Nat → Nat) (cyI cyJ cyZ : ClassId) (h_y : Nat → Nat) (y_len : Nat) (sz : Nat) (y_arr : Nat → Int32) (p1 : Int32) (Q : (Nat → Int32) → Prop) (hvc : v_J7_fill_53178 y_len y_arr p1 Q) : Met l yJ7_fill_53178 wsJ7_fill_53178 rm_J7_fill_53178 (va_Pc [.ref (h_y 0), .int p1] (cPre D ts [(cyI, .int), (cyJ, .long), (cyZ, .boolean)] [(h_y 0, .inl (cyI, y_len, .inl y_arr))] sz)) (va_Qv (fun (u : (Nat → Int32)) => Q u) (cPost D [(cyI, .int), (cyJ, .long), (cyZ, .boolean)] (fun (u : (Nat → Int32)) => [(h_y 0, .inl (cyI, y_len, .inl u))]) (va_A [(h_y 0, .inl (cyI, y_len, .inl y_arr))] sz)) (va_A [(h_y 0, .inl (cyI, y_len, .inl y_arr))] sz)) 0 0 (va_A [(h_y 0, .inl (cyI, y_len, .inl y_arr))] sz) := by
  refine kEnter_v (cc := cJ7_fill_53178) (maxL := 4) (by decide) rfl (Nat.le_of_ble_eq_true rfl) ?_
  intro p e s m args below meth c A ls QQ hx hb hml hown hts hsz hA hP hD hK hE hS hl hret
  clear hsz
  have hown : s.vm.findClass RJ7 = some m.cls := hown
  have w5 : ∀ (n5_ : Nat) (y_arr : Nat → Int32) (l1 : Int32) (l2 : Int32) (l3 : Int32) (H : Heap) (locs : List Loc) (ls : Array Slot), v_J7_fill_53178_b5 y_len Q  n5_ y_arr l1 l2 l3 → va_P D vwCl [(h_y 0, .inl (cyI, y_len, .inl y_arr))] H → va_D A [(h_y 0, .inl (cyI, y_len, .inl y_arr))] → va_S A s.heap H locs → lv_has ls 4 [(0, .ref (h_y 0)), (1, .int l1), (2, .int l2), (3, .int l3)] → W p l e rm_J7_fill_53178 s m args below meth c H locs 0 0 QQ (F0 m 5 ls []) := by
    intro n5_
    induction n5_ with
    | zero =>
      intro y_arr l1 l2 l3 H locs ls hvc hP hD hS hl
      exact False.elim hvc
    | succ n5_ ih5 =>
      intro y_arr l1 l2 l3 H locs ls hvc hP hD hS hl
      refine lv_iload_n hx hb dJ7_fill_53178_5 rfl (lv_at hl 2 rfl) ?_
      refine lv_iload_n hx hb dJ7_fill_53178_6 rfl (lv_at hl 3 rfl) ?_
      obtain ⟨hvt, hvf⟩ := hvc
      refine lv_icmp_ge (tgt := 20) hx hb dJ7_fill_53178_7 (by decide) (fun hc => ?_) (fun hc => ?_)
      · have hvc := hvt hc
        exact hret y_arr _ _ _ _ hvc hP hD hS dJ7_fill_53178_20
      · have hvc := hvf hc
        refine lv_aload_n hx hb dJ7_fill_53178_10 rfl (lv_at hl 0 rfl) ?_
        refine lv_iload_n hx hb dJ7_fill_53178_11 rfl (lv_at hl 2 rfl) ?_
        refine lv_iload_n hx hb dJ7_fill_53178_12 rfl (lv_at hl 1 rfl) ?_
        obtain ⟨hi, hvc⟩ := hvc
        refine va_iast hx hb hK hP hD hS 0 0 rfl rfl hi dJ7_fill_53178_13 (fun H locs hP hD hS => ?_)
        have hP : va_P D vwCl [(h_y 0, .inl (cyI, y_len, .inl (upd y_arr l2.toNatClampNeg l1)))] H := hP
        have hD : va_D A [(h_y 0, .inl (cyI, y_len, .inl (upd y_arr l2.toNatClampNeg l1)))] := hD
        obtain ⟨v1, ev1⟩ : ∃ y : Int32, y = l2 + (1 : Int32) := ⟨_, rfl⟩
        have hvc := hvc v1 ev1
        refine lv_iinc (v := v1) (lv' := [(2, .int v1), (0, .ref (h_y 0)), (1, .int l1), (3, .int l3)]) hx hb dJ7_fill_53178_14 hl (k := 2) rfl (by rw [ev1]; rfl) (by decide) rfl (fun ls hl => ?_)
        refine lv_goto (tgt := 5) hx hb dJ7_fill_53178_17 (by decide) ?_
        exact ih5 (upd y_arr l2.toNatClampNeg l1) l1 v1 l3 _ _ _ hvc hP hD hS (lv_sub hl [1, 2, 0, 3] rfl)
  have hl : lv_has ls 4 [(0, .ref (h_y 0)), (1, .int p1)] := hl
  refine lv_iconst (v := 0) hx hb dJ7_fill_53178_0 (by decide) ?_
  refine lv_istore_n (lv' := [(2, .int (0 : Int32)), (0, .ref (h_y 0)), (1, .int p1)]) hx hb dJ7_fill_53178_1 rfl hl (by decide) rfl (fun ls hl => ?_)
  refine lv_aload_n hx hb dJ7_fill_53178_2 rfl (lv_at hl 1 rfl) ?_
  refine va_alen (v := nI y_len) hx hb hK hP 0 0 rfl rfl rfl dJ7_fill_53178_3 ?_
  refine lv_topi (fun v2 ev2 => ?_)
  have hvc := hvc v2 ev2
  refine lv_istore_n (lv' := [(3, .int v2), (2, .int (0 : Int32)), (0, .ref (h_y 0)), (1, .int p1)]) hx hb dJ7_fill_53178_4 rfl hl (by decide) rfl (fun ls hl => ?_)
  obtain ⟨n_, hvc⟩ := hvc
  exact w5 n_ y_arr p1 (0 : Int32) v2 _ _ _ hvc hP hD hS (lv_sub hl [2, 3, 1, 0] rfl)
def v_J13_bitCount_95d88  (p0 : Int64) (Q : Int32 → Prop) : Prop := ∀ v1 : Int64, v1 = p0 - (((p0.toUInt64 >>> ((1 : Int32).toInt64.toUInt64 &&& Int64.toUInt64 63)).toInt64) &&& (6148914691236517205 : Int64)) → ∀ v2 : Int64, v2 = (v1 &&& (3689348814741910323 : Int64)) + (((v1.toUInt64 >>> ((2 : Int32).toInt64.toUInt64 &&& Int64.toUInt64 63)).toInt64) &&& (3689348814741910323 : Int64)) → ∀ v3 : Int64, v3 = (v2 + ((v2.toUInt64 >>> ((4 : Int32).toInt64.toUInt64 &&& Int64.toUInt64 63)).toInt64)) &&& (1085102592571150095 : Int64) → ∀ v4 : Int64, v4 = v3 + ((v3.toUInt64 >>> ((8 : Int32).toInt64.toUInt64 &&& Int64.toUInt64 63)).toInt64) → ∀ v5 : Int64, v5 = v4 + ((v4.toUInt64 >>> ((16 : Int32).toInt64.toUInt64 &&& Int64.toUInt64 63)).toInt64) → ∀ v6 : Int64, v6 = v5 + ((v5.toUInt64 >>> ((32 : Int32).toInt64.toUInt64 &&& Int64.toUInt64 63)).toInt64) → Q ((v6.toInt32) &&& (127 : Int32)) 
theorem hd_J13_bitCount_95d88 : yJ13_bitCount_95d88.cls ≠ "java/lang/invoke/MethodHandle" ∧ yJ13_bitCount_95d88.cls ≠ "java/lang/invoke/VarHandle" ∧ (parseMethodDescriptor yJ13_bitCount_95d88.desc).map (fun d => d.parameters.length) = some 1 := by decide +kernel
abbrev rm_J13_bitCount_95d88 : Room := { frames := 0, cells := 0, slots := 0, locals := 0 }
set_option maxHeartbeats 4000000 in
set_option maxRecDepth 100000 in
theorem c_J13_bitCount_95d88 (l : Launch) (D : va_G) (ts : Nat → Nat) (cyI cyJ cyZ : ClassId)  (sz : Nat)  (p0 : Int64) (Q : Int32 → Prop) (hvc : v_J13_bitCount_95d88  p0 Q) : Met l yJ13_bitCount_95d88 wsJ13_bitCount_95d88 rm_J13_bitCount_95d88 (va_Pc [.long p0] (cPre D ts [(cyI, .int), (cyJ, .long), (cyZ, .boolean)] [] sz)) (va_Qi (fun (r : Int32) (u : Unit) => Q r ) (cPost D [(cyI, .int), (cyJ, .long), (cyZ, .boolean)] (fun (u : Unit) => []) (va_A [] sz)) (va_A [] sz)) 0 0 (va_A [] sz) := by
  refine kEnter_i (cc := cJ13_bitCount_95d88) (maxL := 2) (by decide) rfl (Nat.le_of_ble_eq_true rfl) ?_
  intro p e s m args below meth c A ls QQ hx hb hml hown hts hsz hA hP hD hK hE hS hl hret
  clear hsz
  have hown : s.vm.findClass RJ13 = some m.cls := hown
  have k314 := hts (.constantLong RJ13 314 (6148914691236517205)) (List.mem_of_getElem? (i := 1) rfl)
  have k316 := hts (.constantLong RJ13 316 (3689348814741910323)) (List.mem_of_getElem? (i := 2) rfl)
  have k318 := hts (.constantLong RJ13 318 (1085102592571150095)) (List.mem_of_getElem? (i := 3) rfl)
  have hl : lv_has ls 2 [(0, .long p0)] := hl
  refine lv_lload_n hx hb dJ13_bitCount_95d88_0 rfl (lv_at hl 0 rfl) ?_
  refine lv_lload_n hx hb dJ13_bitCount_95d88_1 rfl (lv_at hl 0 rfl) ?_
  refine lv_iconst (v := 1) hx hb dJ13_bitCount_95d88_2 (by decide) ?_
  refine lv_lushr hx hb dJ13_bitCount_95d88_3 rfl ?_
  refine lv_ldc2 hx hb hown k314 dJ13_bitCount_95d88_4 ?_
  refine lv_land hx hb dJ13_bitCount_95d88_7 ?_
  refine lv_lsub hx hb dJ13_bitCount_95d88_8 ?_
  refine lv_topl (fun v1 ev1 => ?_)
  have hvc := hvc v1 ev1
  refine lv_lstore_n (lv' := [(0, .long v1)]) hx hb dJ13_bitCount_95d88_9 rfl hl (by decide) rfl (fun ls hl => ?_)
  refine lv_lload_n hx hb dJ13_bitCount_95d88_10 rfl (lv_at hl 0 rfl) ?_
  refine lv_ldc2 hx hb hown k316 dJ13_bitCount_95d88_11 ?_
  refine lv_land hx hb dJ13_bitCount_95d88_14 ?_
  refine lv_lload_n hx hb dJ13_bitCount_95d88_15 rfl (lv_at hl 0 rfl) ?_
  refine lv_iconst (v := 2) hx hb dJ13_bitCount_95d88_16 (by decide) ?_
  refine lv_lushr hx hb dJ13_bitCount_95d88_17 rfl ?_
  refine lv_ldc2 hx hb hown k316 dJ13_bitCount_95d88_18 ?_
  refine lv_land hx hb dJ13_bitCount_95d88_21 ?_
  refine lv_ladd hx hb dJ13_bitCount_95d88_22 ?_
  refine lv_topl (fun v2 ev2 => ?_)
  have hvc := hvc v2 ev2
  refine lv_lstore_n (lv' := [(0, .long v2)]) hx hb dJ13_bitCount_95d88_23 rfl hl (by decide) rfl (fun ls hl => ?_)
  refine lv_lload_n hx hb dJ13_bitCount_95d88_24 rfl (lv_at hl 0 rfl) ?_
  refine lv_lload_n hx hb dJ13_bitCount_95d88_25 rfl (lv_at hl 0 rfl) ?_
  refine lv_iconst (v := 4) hx hb dJ13_bitCount_95d88_26 (by decide) ?_
  refine lv_lushr hx hb dJ13_bitCount_95d88_27 rfl ?_
  refine lv_ladd hx hb dJ13_bitCount_95d88_28 ?_
  refine lv_ldc2 hx hb hown k318 dJ13_bitCount_95d88_29 ?_
  refine lv_land hx hb dJ13_bitCount_95d88_32 ?_
  refine lv_topl (fun v3 ev3 => ?_)
  have hvc := hvc v3 ev3
  refine lv_lstore_n (lv' := [(0, .long v3)]) hx hb dJ13_bitCount_95d88_33 rfl hl (by decide) rfl (fun ls hl => ?_)
  refine lv_lload_n hx hb dJ13_bitCount_95d88_34 rfl (lv_at hl 0 rfl) ?_
  refine lv_lload_n hx hb dJ13_bitCount_95d88_35 rfl (lv_at hl 0 rfl) ?_
  refine lv_bipush (v := 8) hx hb dJ13_bitCount_95d88_36 (by decide) ?_
  refine lv_lushr hx hb dJ13_bitCount_95d88_38 rfl ?_
  refine lv_ladd hx hb dJ13_bitCount_95d88_39 ?_
  refine lv_topl (fun v4 ev4 => ?_)
  have hvc := hvc v4 ev4
  refine lv_lstore_n (lv' := [(0, .long v4)]) hx hb dJ13_bitCount_95d88_40 rfl hl (by decide) rfl (fun ls hl => ?_)
  refine lv_lload_n hx hb dJ13_bitCount_95d88_41 rfl (lv_at hl 0 rfl) ?_
  refine lv_lload_n hx hb dJ13_bitCount_95d88_42 rfl (lv_at hl 0 rfl) ?_
  refine lv_bipush (v := 16) hx hb dJ13_bitCount_95d88_43 (by decide) ?_
  refine lv_lushr hx hb dJ13_bitCount_95d88_45 rfl ?_
  refine lv_ladd hx hb dJ13_bitCount_95d88_46 ?_
  refine lv_topl (fun v5 ev5 => ?_)
  have hvc := hvc v5 ev5
  refine lv_lstore_n (lv' := [(0, .long v5)]) hx hb dJ13_bitCount_95d88_47 rfl hl (by decide) rfl (fun ls hl => ?_)
  refine lv_lload_n hx hb dJ13_bitCount_95d88_48 rfl (lv_at hl 0 rfl) ?_
  refine lv_lload_n hx hb dJ13_bitCount_95d88_49 rfl (lv_at hl 0 rfl) ?_
  refine lv_bipush (v := 32) hx hb dJ13_bitCount_95d88_50 (by decide) ?_
  refine lv_lushr hx hb dJ13_bitCount_95d88_52 rfl ?_
  refine lv_ladd hx hb dJ13_bitCount_95d88_53 ?_
  refine lv_topl (fun v6 ev6 => ?_)
  have hvc := hvc v6 ev6
  refine lv_lstore_n (lv' := [(0, .long v6)]) hx hb dJ13_bitCount_95d88_54 rfl hl (by decide) rfl (fun ls hl => ?_)
  refine lv_lload_n hx hb dJ13_bitCount_95d88_55 rfl (lv_at hl 0 rfl) ?_
  refine lv_l2i hx hb dJ13_bitCount_95d88_56 rfl ?_
  refine lv_bipush (v := 127) hx hb dJ13_bitCount_95d88_57 (by decide) ?_
  refine lv_iand hx hb dJ13_bitCount_95d88_59 ?_
  exact hret ((v6.toInt32) &&& (127 : Int32)) () _ _ _ _ hvc hP hD hS dJ13_bitCount_95d88_60
def v_X2_clear (c_inputs : Int32) (c_flops : Int32) (c_nets : Int32) (c_outputs : Int32) (c_next : Nat → Int32)  (Q : Int32 → Int32 → Int32 → Int32 → (Nat → Int32) → Prop) : Prop := v_J7_fill_53178 10  c_next (-1 : Int32) (fun (n1 : Nat → Int32) => Q (0 : Int32) (0 : Int32) (0 : Int32) (0 : Int32) n1)
theorem hd_X2_clear : yX2_clear.cls = RX2 ∧ yX2_clear.cls ≠ "java/lang/invoke/MethodHandle" ∧ yX2_clear.cls ≠ "java/lang/invoke/VarHandle" ∧ (parseMethodDescriptor yX2_clear.desc).map (fun d => d.parameters.length) = some 0 := by decide +kernel
abbrev rm_X2_clear : Room := { frames := 1, cells := 0, slots := 0, locals := 23 }
set_option maxHeartbeats 4000000 in
set_option maxRecDepth 100000 in
theorem c_X2_clear (l : Launch) (D : va_G) (ts : Nat → Nat) (cyI cyJ cyZ : ClassId) (h_c : Nat → Nat) (sz : Nat) (c_inputs : Int32) (c_flops : Int32) (c_nets : Int32) (c_outputs : Int32) (c_next : Nat → Int32)  (Q : Int32 → Int32 → Int32 → Int32 → (Nat → Int32) → Prop) (hvc : v_X2_clear c_inputs c_flops c_nets c_outputs c_next  Q) : Met l yX2_clear wsX2_clear rm_X2_clear (va_Pc [.ref (h_c 0)] (cPre D ts [(cyI, .int), (cyJ, .long), (cyZ, .boolean)] [(h_c 0, .inr (2, [.int c_inputs, .int c_flops, .int c_nets, .int c_outputs, .ref (h_c 5), .ref (h_c 6), .ref (h_c 7), .ref (h_c 8), .ref (h_c 9), .ref (h_c 10)])), (h_c 9, .inl (cyI, 10, .inl c_next))] sz)) (va_Qv (fun (u : Int32 × Int32 × Int32 × Int32 × (Nat → Int32)) => Q u.1 u.2.1 u.2.2.1 u.2.2.2.1 u.2.2.2.2) (cPost D [(cyI, .int), (cyJ, .long), (cyZ, .boolean)] (fun (u : Int32 × Int32 × Int32 × Int32 × (Nat → Int32)) => [(h_c 0, .inr (2, [.int (u.1), .int (u.2.1), .int (u.2.2.1), .int (u.2.2.2.1), .ref (h_c 5), .ref (h_c 6), .ref (h_c 7), .ref (h_c 8), .ref (h_c 9), .ref (h_c 10)])), (h_c 9, .inl (cyI, 10, .inl (u.2.2.2.2)))]) (va_A [(h_c 0, .inr (2, [.int c_inputs, .int c_flops, .int c_nets, .int c_outputs, .ref (h_c 5), .ref (h_c 6), .ref (h_c 7), .ref (h_c 8), .ref (h_c 9), .ref (h_c 10)])), (h_c 9, .inl (cyI, 10, .inl c_next))] sz)) (va_A [(h_c 0, .inr (2, [.int c_inputs, .int c_flops, .int c_nets, .int c_outputs, .ref (h_c 5), .ref (h_c 6), .ref (h_c 7), .ref (h_c 8), .ref (h_c 9), .ref (h_c 10)])), (h_c 9, .inl (cyI, 10, .inl c_next))] sz)) 0 0 (va_A [(h_c 0, .inr (2, [.int c_inputs, .int c_flops, .int c_nets, .int c_outputs, .ref (h_c 5), .ref (h_c 6), .ref (h_c 7), .ref (h_c 8), .ref (h_c 9), .ref (h_c 10)])), (h_c 9, .inl (cyI, 10, .inl c_next))] sz) := by
  refine kEnter_v (cc := cX2_clear) (maxL := 1) (by decide) rfl (Nat.le_of_ble_eq_true rfl) ?_
  intro p e s m args below meth c A ls QQ hx hb hml hown hts hsz hA hP hD hK hE hS hl hret
  clear hsz
  have hown : s.vm.findClass RX2 = some m.cls := hown
  have inX2 : ∀ w ∈ wsX20, w ∈ wsX2_clear := fun _ h => List.mem_cons_of_mem _ (List.mem_append_right _ h)
  have f31 := hts (.fieldLink RX2 31 "ScanTester$Circuit" "inputs" "I") (List.mem_of_getElem? (i := 1) rfl)
  have f35 := hts (.fieldLink RX2 35 "ScanTester$Circuit" "flops" "I") (List.mem_of_getElem? (i := 2) rfl)
  have f38 := hts (.fieldLink RX2 38 "ScanTester$Circuit" "nets" "I") (List.mem_of_getElem? (i := 3) rfl)
  have f41 := hts (.fieldLink RX2 41 "ScanTester$Circuit" "outputs" "I") (List.mem_of_getElem? (i := 4) rfl)
  have f24 := hts (.fieldLink RX2 24 "ScanTester$Circuit" "next" "[I") (List.mem_of_getElem? (i := 5) rfl)
  have hl : lv_has ls 1 [(0, .ref (h_c 0))] := hl
  delta v_X2_clear at hvc
  refine lv_aload_n hx hb dX2_clear_0 rfl (lv_at hl 0 rfl) ?_
  refine lv_iconst (v := 0) hx hb dX2_clear_1 (by decide) ?_
  refine va_put (D := D) (ci := 2) (ty := .int) (C := RX2) (T := TX2) (N := 10) hx hb hts inX2 tyX2 tyX2_ok nmX2 hown hK hP hD hS 0 rfl rfl 0 (by decide) f31 (fun _ h9 => h9) rfl (by decide +kernel) rfl rfl (Nat.le_of_ble_eq_true rfl) dX2_clear_2 (fun H locs hP hD hS => ?_)
  have hP : va_P D vwCl [(h_c 0, .inr (2, [.int (0 : Int32), .int c_flops, .int c_nets, .int c_outputs, .ref (h_c 5), .ref (h_c 6), .ref (h_c 7), .ref (h_c 8), .ref (h_c 9), .ref (h_c 10)])), (h_c 9, .inl (cyI, 10, .inl c_next))] H := hP
  have hD : va_D A [(h_c 0, .inr (2, [.int (0 : Int32), .int c_flops, .int c_nets, .int c_outputs, .ref (h_c 5), .ref (h_c 6), .ref (h_c 7), .ref (h_c 8), .ref (h_c 9), .ref (h_c 10)])), (h_c 9, .inl (cyI, 10, .inl c_next))] := hD
  refine lv_aload_n hx hb dX2_clear_5 rfl (lv_at hl 0 rfl) ?_
  refine lv_iconst (v := 0) hx hb dX2_clear_6 (by decide) ?_
  refine va_put (D := D) (ci := 2) (ty := .int) (C := RX2) (T := TX2) (N := 10) hx hb hts inX2 tyX2 tyX2_ok nmX2 hown hK hP hD hS 0 rfl rfl 1 (by decide) f35 (fun _ h9 => h9) rfl (by decide +kernel) rfl rfl (Nat.le_of_ble_eq_true rfl) dX2_clear_7 (fun H locs hP hD hS => ?_)
  have hP : va_P D vwCl [(h_c 0, .inr (2, [.int (0 : Int32), .int (0 : Int32), .int c_nets, .int c_outputs, .ref (h_c 5), .ref (h_c 6), .ref (h_c 7), .ref (h_c 8), .ref (h_c 9), .ref (h_c 10)])), (h_c 9, .inl (cyI, 10, .inl c_next))] H := hP
  have hD : va_D A [(h_c 0, .inr (2, [.int (0 : Int32), .int (0 : Int32), .int c_nets, .int c_outputs, .ref (h_c 5), .ref (h_c 6), .ref (h_c 7), .ref (h_c 8), .ref (h_c 9), .ref (h_c 10)])), (h_c 9, .inl (cyI, 10, .inl c_next))] := hD
  refine lv_aload_n hx hb dX2_clear_10 rfl (lv_at hl 0 rfl) ?_
  refine lv_iconst (v := 0) hx hb dX2_clear_11 (by decide) ?_
  refine va_put (D := D) (ci := 2) (ty := .int) (C := RX2) (T := TX2) (N := 10) hx hb hts inX2 tyX2 tyX2_ok nmX2 hown hK hP hD hS 0 rfl rfl 2 (by decide) f38 (fun _ h9 => h9) rfl (by decide +kernel) rfl rfl (Nat.le_of_ble_eq_true rfl) dX2_clear_12 (fun H locs hP hD hS => ?_)
  have hP : va_P D vwCl [(h_c 0, .inr (2, [.int (0 : Int32), .int (0 : Int32), .int (0 : Int32), .int c_outputs, .ref (h_c 5), .ref (h_c 6), .ref (h_c 7), .ref (h_c 8), .ref (h_c 9), .ref (h_c 10)])), (h_c 9, .inl (cyI, 10, .inl c_next))] H := hP
  have hD : va_D A [(h_c 0, .inr (2, [.int (0 : Int32), .int (0 : Int32), .int (0 : Int32), .int c_outputs, .ref (h_c 5), .ref (h_c 6), .ref (h_c 7), .ref (h_c 8), .ref (h_c 9), .ref (h_c 10)])), (h_c 9, .inl (cyI, 10, .inl c_next))] := hD
  refine lv_aload_n hx hb dX2_clear_15 rfl (lv_at hl 0 rfl) ?_
  refine lv_iconst (v := 0) hx hb dX2_clear_16 (by decide) ?_
  refine va_put (D := D) (ci := 2) (ty := .int) (C := RX2) (T := TX2) (N := 10) hx hb hts inX2 tyX2 tyX2_ok nmX2 hown hK hP hD hS 0 rfl rfl 3 (by decide) f41 (fun _ h9 => h9) rfl (by decide +kernel) rfl rfl (Nat.le_of_ble_eq_true rfl) dX2_clear_17 (fun H locs hP hD hS => ?_)
  have hP : va_P D vwCl [(h_c 0, .inr (2, [.int (0 : Int32), .int (0 : Int32), .int (0 : Int32), .int (0 : Int32), .ref (h_c 5), .ref (h_c 6), .ref (h_c 7), .ref (h_c 8), .ref (h_c 9), .ref (h_c 10)])), (h_c 9, .inl (cyI, 10, .inl c_next))] H := hP
  have hD : va_D A [(h_c 0, .inr (2, [.int (0 : Int32), .int (0 : Int32), .int (0 : Int32), .int (0 : Int32), .ref (h_c 5), .ref (h_c 6), .ref (h_c 7), .ref (h_c 8), .ref (h_c 9), .ref (h_c 10)])), (h_c 9, .inl (cyI, 10, .inl c_next))] := hD
  refine lv_aload_n hx hb dX2_clear_20 rfl (lv_at hl 0 rfl) ?_
  refine va_get (D := D) (ci := 2) (C := RX2) (T := TX2) (N := 10) hx hb hts inX2 hown hK hP 0 rfl rfl 8 (by decide) f24 (fun _ h9 => h9) rfl dX2_clear_21 ?_
  refine lv_iconst (v := (-1)) hx hb dX2_clear_24 (by decide) ?_
  refine kS_v (wc := [(h_c 9, .inl (cyI, 10, .inl c_next))]) (wr := [(h_c 0, .inr (2, [.int (0 : Int32), .int (0 : Int32), .int (0 : Int32), .int (0 : Int32), .ref (h_c 5), .ref (h_c 6), .ref (h_c 7), .ref (h_c 8), .ref (h_c 9), .ref (h_c 10)]))]) (As := [.ref (h_c 9), .int (-1 : Int32)]) (rest := []) ⟨hx, hb, hml, hown, hts⟩ hP hD hK hE hS hA [1] [0] rfl rfl (by decide) (by decide) (by decide) (c_J7_fill_53178 l D ts cyI cyJ cyZ (fun _ => h_c 9) 10 _ c_next (-1 : Int32) _ hvc) (va_cwS 2 hts gX2_clear_J7_fill_53178 rfl rfl rfl hd_J7_fill_53178 ⟨Nat.le_of_ble_eq_true rfl, Nat.le_of_ble_eq_true rfl⟩) hl.1 rfl (Nat.zero_le _) (Nat.zero_le _) rfl (Nat.le_of_ble_eq_true rfl) dX2_clear_25 (fun n1 H locs hvc hP hD hS => ?_)
  try dsimp only at hvc
  have hP : va_P D vwCl [(h_c 0, .inr (2, [.int (0 : Int32), .int (0 : Int32), .int (0 : Int32), .int (0 : Int32), .ref (h_c 5), .ref (h_c 6), .ref (h_c 7), .ref (h_c 8), .ref (h_c 9), .ref (h_c 10)])), (h_c 9, .inl (cyI, 10, .inl n1))] H := sub_P hP (isC := [0, 1]) rfl
  have hD : va_D A [(h_c 0, .inr (2, [.int (0 : Int32), .int (0 : Int32), .int (0 : Int32), .int (0 : Int32), .ref (h_c 5), .ref (h_c 6), .ref (h_c 7), .ref (h_c 8), .ref (h_c 9), .ref (h_c 10)])), (h_c 9, .inl (cyI, 10, .inl n1))] := hD.sub [0, 1] (by decide) rfl
  exact hret ((0 : Int32), (0 : Int32), (0 : Int32), (0 : Int32), n1) _ _ _ _ hvc hP hD hS dX2_clear_28
def v_X2_become (c_inputs : Int32) (c_flops : Int32) (c_nets : Int32) (c_outputs : Int32) (o_inputs : Int32) (o_flops : Int32) (o_nets : Int32) (o_outputs : Int32) (o_operation : Nat → Int32) (c_operation : Nat → Int32) (o_lookedCount : Nat → Int32) (c_lookedCount : Nat → Int32) (o_looked : Nat → Int32) (c_looked : Nat → Int32) (o_output : Nat → Int32) (c_output : Nat → Int32) (o_next : Nat → Int32) (c_next : Nat → Int32)  (Q : Int32 → Int32 → Int32 → Int32 → (Nat → Int32) → (Nat → Int32) → (Nat → Int32) → (Nat → Int32) → (Nat → Int32) → Prop) : Prop := (¬ (0 : Int32) < 0) ∧ (¬ (0 : Int32) < 0) ∧ (¬ (60 : Int32) < 0) ∧ ((0 : Int32).toNatClampNeg + (60 : Int32).toNatClampNeg ≤ 60) ∧ ((0 : Int32).toNatClampNeg + (60 : Int32).toNatClampNeg ≤ 60) ∧ (¬ (0 : Int32) < 0) ∧ (¬ (0 : Int32) < 0) ∧ (¬ (60 : Int32) < 0) ∧ ((0 : Int32).toNatClampNeg + (60 : Int32).toNatClampNeg ≤ 60) ∧ ((0 : Int32).toNatClampNeg + (60 : Int32).toNatClampNeg ≤ 60) ∧ (¬ (0 : Int32) < 0) ∧ (¬ (0 : Int32) < 0) ∧ (¬ (240 : Int32) < 0) ∧ ((0 : Int32).toNatClampNeg + (240 : Int32).toNatClampNeg ≤ 240) ∧ ((0 : Int32).toNatClampNeg + (240 : Int32).toNatClampNeg ≤ 240) ∧ (¬ (0 : Int32) < 0) ∧ (¬ (0 : Int32) < 0) ∧ (¬ (8 : Int32) < 0) ∧ ((0 : Int32).toNatClampNeg + (8 : Int32).toNatClampNeg ≤ 8) ∧ ((0 : Int32).toNatClampNeg + (8 : Int32).toNatClampNeg ≤ 8) ∧ (¬ (0 : Int32) < 0) ∧ (¬ (0 : Int32) < 0) ∧ (¬ (10 : Int32) < 0) ∧ ((0 : Int32).toNatClampNeg + (10 : Int32).toNatClampNeg ≤ 10) ∧ ((0 : Int32).toNatClampNeg + (10 : Int32).toNatClampNeg ≤ 10) ∧ Q o_inputs o_flops o_nets o_outputs (va_cpy o_operation c_operation (0 : Int32).toNatClampNeg (0 : Int32).toNatClampNeg (60 : Int32).toNatClampNeg) (va_cpy o_lookedCount c_lookedCount (0 : Int32).toNatClampNeg (0 : Int32).toNatClampNeg (60 : Int32).toNatClampNeg) (va_cpy o_looked c_looked (0 : Int32).toNatClampNeg (0 : Int32).toNatClampNeg (240 : Int32).toNatClampNeg) (va_cpy o_output c_output (0 : Int32).toNatClampNeg (0 : Int32).toNatClampNeg (8 : Int32).toNatClampNeg) (va_cpy o_next c_next (0 : Int32).toNatClampNeg (0 : Int32).toNatClampNeg (10 : Int32).toNatClampNeg)
theorem hd_X2_become : yX2_become.cls = RX2 ∧ yX2_become.cls ≠ "java/lang/invoke/MethodHandle" ∧ yX2_become.cls ≠ "java/lang/invoke/VarHandle" ∧ (parseMethodDescriptor yX2_become.desc).map (fun d => d.parameters.length) = some 1 := by decide +kernel
abbrev rm_X2_become : Room := { frames := 1, cells := 0, slots := 0, locals := 60 }
set_option maxHeartbeats 4000000 in
set_option maxRecDepth 100000 in
theorem c_X2_become (l : Launch) (D : va_G) (ts : Nat → Nat) (cyI cyJ cyZ : ClassId) (h_c : Nat → Nat) (h_o : Nat → Nat) (sz : Nat) (c_inputs : Int32) (c_flops : Int32) (c_nets : Int32) (c_outputs : Int32) (o_inputs : Int32) (o_flops : Int32) (o_nets : Int32) (o_outputs : Int32) (o_operation : Nat → Int32) (c_operation : Nat → Int32) (o_lookedCount : Nat → Int32) (c_lookedCount : Nat → Int32) (o_looked : Nat → Int32) (c_looked : Nat → Int32) (o_output : Nat → Int32) (c_output : Nat → Int32) (o_next : Nat → Int32) (c_next : Nat → Int32)  (Q : Int32 → Int32 → Int32 → Int32 → (Nat → Int32) → (Nat → Int32) → (Nat → Int32) → (Nat → Int32) → (Nat → Int32) → Prop) (hvc : v_X2_become c_inputs c_flops c_nets c_outputs o_inputs o_flops o_nets o_outputs o_operation c_operation o_lookedCount c_lookedCount o_looked c_looked o_output c_output o_next c_next  Q) : Met l yX2_become wsX2_become rm_X2_become (va_Pc [.ref (h_c 0), .ref (h_o 0)] (cPre D ts [(cyI, .int), (cyJ, .long), (cyZ, .boolean)] [(h_c 0, .inr (2, [.int c_inputs, .int c_flops, .int c_nets, .int c_outputs, .ref (h_c 5), .ref (h_c 6), .ref (h_c 7), .ref (h_c 8), .ref (h_c 9), .ref (h_c 10)])), (h_o 0, .inr (2, [.int o_inputs, .int o_flops, .int o_nets, .int o_outputs, .ref (h_o 5), .ref (h_o 6), .ref (h_o 7), .ref (h_o 8), .ref (h_o 9), .ref (h_o 10)])), (h_o 5, .inl (cyI, 60, .inl o_operation)), (h_c 5, .inl (cyI, 60, .inl c_operation)), (h_o 6, .inl (cyI, 60, .inl o_lookedCount)), (h_c 6, .inl (cyI, 60, .inl c_lookedCount)), (h_o 7, .inl (cyI, 240, .inl o_looked)), (h_c 7, .inl (cyI, 240, .inl c_looked)), (h_o 8, .inl (cyI, 8, .inl o_output)), (h_c 8, .inl (cyI, 8, .inl c_output)), (h_o 9, .inl (cyI, 10, .inl o_next)), (h_c 9, .inl (cyI, 10, .inl c_next))] sz)) (va_Qv (fun (u : Int32 × Int32 × Int32 × Int32 × (Nat → Int32) × (Nat → Int32) × (Nat → Int32) × (Nat → Int32) × (Nat → Int32)) => Q u.1 u.2.1 u.2.2.1 u.2.2.2.1 u.2.2.2.2.1 u.2.2.2.2.2.1 u.2.2.2.2.2.2.1 u.2.2.2.2.2.2.2.1 u.2.2.2.2.2.2.2.2) (cPost D [(cyI, .int), (cyJ, .long), (cyZ, .boolean)] (fun (u : Int32 × Int32 × Int32 × Int32 × (Nat → Int32) × (Nat → Int32) × (Nat → Int32) × (Nat → Int32) × (Nat → Int32)) => [(h_c 0, .inr (2, [.int (u.1), .int (u.2.1), .int (u.2.2.1), .int (u.2.2.2.1), .ref (h_c 5), .ref (h_c 6), .ref (h_c 7), .ref (h_c 8), .ref (h_c 9), .ref (h_c 10)])), (h_o 0, .inr (2, [.int o_inputs, .int o_flops, .int o_nets, .int o_outputs, .ref (h_o 5), .ref (h_o 6), .ref (h_o 7), .ref (h_o 8), .ref (h_o 9), .ref (h_o 10)])), (h_o 5, .inl (cyI, 60, .inl o_operation)), (h_c 5, .inl (cyI, 60, .inl (u.2.2.2.2.1))), (h_o 6, .inl (cyI, 60, .inl o_lookedCount)), (h_c 6, .inl (cyI, 60, .inl (u.2.2.2.2.2.1))), (h_o 7, .inl (cyI, 240, .inl o_looked)), (h_c 7, .inl (cyI, 240, .inl (u.2.2.2.2.2.2.1))), (h_o 8, .inl (cyI, 8, .inl o_output)), (h_c 8, .inl (cyI, 8, .inl (u.2.2.2.2.2.2.2.1))), (h_o 9, .inl (cyI, 10, .inl o_next)), (h_c 9, .inl (cyI, 10, .inl (u.2.2.2.2.2.2.2.2)))]) (va_A [(h_c 0, .inr (2, [.int c_inputs, .int c_flops, .int c_nets, .int c_outputs, .ref (h_c 5), .ref (h_c 6), .ref (h_c 7), .ref (h_c 8), .ref (h_c 9), .ref (h_c 10)])), (h_o 0, .inr (2, [.int o_inputs, .int o_flops, .int o_nets, .int o_outputs, .ref (h_o 5), .ref (h_o 6), .ref (h_o 7), .ref (h_o 8), .ref (h_o 9), .ref (h_o 10)])), (h_o 5, .inl (cyI, 60, .inl o_operation)), (h_c 5, .inl (cyI, 60, .inl c_operation)), (h_o 6, .inl (cyI, 60, .inl o_lookedCount)), (h_c 6, .inl (cyI, 60, .inl c_lookedCount)), (h_o 7, .inl (cyI, 240, .inl o_looked)), (h_c 7, .inl (cyI, 240, .inl c_looked)), (h_o 8, .inl (cyI, 8, .inl o_output)), (h_c 8, .inl (cyI, 8, .inl c_output)), (h_o 9, .inl (cyI, 10, .inl o_next)), (h_c 9, .inl (cyI, 10, .inl c_next))] sz)) (va_A [(h_c 0, .inr (2, [.int c_inputs, .int c_flops, .int c_nets, .int c_outputs, .ref (h_c 5), .ref (h_c 6), .ref (h_c 7), .ref (h_c 8), .ref (h_c 9), .ref (h_c 10)])), (h_o 0, .inr (2, [.int o_inputs, .int o_flops, .int o_nets, .int o_outputs, .ref (h_o 5), .ref (h_o 6), .ref (h_o 7), .ref (h_o 8), .ref (h_o 9), .ref (h_o 10)])), (h_o 5, .inl (cyI, 60, .inl o_operation)), (h_c 5, .inl (cyI, 60, .inl c_operation)), (h_o 6, .inl (cyI, 60, .inl o_lookedCount)), (h_c 6, .inl (cyI, 60, .inl c_lookedCount)), (h_o 7, .inl (cyI, 240, .inl o_looked)), (h_c 7, .inl (cyI, 240, .inl c_looked)), (h_o 8, .inl (cyI, 8, .inl o_output)), (h_c 8, .inl (cyI, 8, .inl c_output)), (h_o 9, .inl (cyI, 10, .inl o_next)), (h_c 9, .inl (cyI, 10, .inl c_next))] sz)) 0 0 (va_A [(h_c 0, .inr (2, [.int c_inputs, .int c_flops, .int c_nets, .int c_outputs, .ref (h_c 5), .ref (h_c 6), .ref (h_c 7), .ref (h_c 8), .ref (h_c 9), .ref (h_c 10)])), (h_o 0, .inr (2, [.int o_inputs, .int o_flops, .int o_nets, .int o_outputs, .ref (h_o 5), .ref (h_o 6), .ref (h_o 7), .ref (h_o 8), .ref (h_o 9), .ref (h_o 10)])), (h_o 5, .inl (cyI, 60, .inl o_operation)), (h_c 5, .inl (cyI, 60, .inl c_operation)), (h_o 6, .inl (cyI, 60, .inl o_lookedCount)), (h_c 6, .inl (cyI, 60, .inl c_lookedCount)), (h_o 7, .inl (cyI, 240, .inl o_looked)), (h_c 7, .inl (cyI, 240, .inl c_looked)), (h_o 8, .inl (cyI, 8, .inl o_output)), (h_c 8, .inl (cyI, 8, .inl c_output)), (h_o 9, .inl (cyI, 10, .inl o_next)), (h_c 9, .inl (cyI, 10, .inl c_next))] sz) := by
  refine kEnter_v (cc := cX2_become) (maxL := 2) (by decide) rfl (Nat.le_of_ble_eq_true rfl) ?_
  intro p e s m args below meth c A ls QQ hx hb hml hown hts hsz hA hP hD hK hE hS hl hret
  clear hsz
  have hown : s.vm.findClass RX2 = some m.cls := hown
  have inX2 : ∀ w ∈ wsX20, w ∈ wsX2_become := fun _ h => List.mem_cons_of_mem _ (List.mem_append_right _ h)
  have f31 := hts (.fieldLink RX2 31 "ScanTester$Circuit" "inputs" "I") (List.mem_of_getElem? (i := 1) rfl)
  have f35 := hts (.fieldLink RX2 35 "ScanTester$Circuit" "flops" "I") (List.mem_of_getElem? (i := 2) rfl)
  have f38 := hts (.fieldLink RX2 38 "ScanTester$Circuit" "nets" "I") (List.mem_of_getElem? (i := 3) rfl)
  have f41 := hts (.fieldLink RX2 41 "ScanTester$Circuit" "outputs" "I") (List.mem_of_getElem? (i := 4) rfl)
  have f9 := hts (.fieldLink RX2 9 "ScanTester$Circuit" "operation" "[I") (List.mem_of_getElem? (i := 5) rfl)
  have ac_l := hts (.methodLink RX2 50 arraycopyName) (by decide +kernel)
  have ac_n := hts (.native arraycopyName) (by decide +kernel)
  have ac_s := hts (.static arraycopyName) (by decide +kernel)
  have ac_i := hts (.initialized "java/lang/System") (by decide +kernel)
  have f15 := hts (.fieldLink RX2 15 "ScanTester$Circuit" "lookedCount" "[I") (List.mem_of_getElem? (i := 10) rfl)
  have f18 := hts (.fieldLink RX2 18 "ScanTester$Circuit" "looked" "[I") (List.mem_of_getElem? (i := 11) rfl)
  have f21 := hts (.fieldLink RX2 21 "ScanTester$Circuit" "output" "[I") (List.mem_of_getElem? (i := 12) rfl)
  have f24 := hts (.fieldLink RX2 24 "ScanTester$Circuit" "next" "[I") (List.mem_of_getElem? (i := 13) rfl)
  have hl : lv_has ls 2 [(0, .ref (h_c 0)), (1, .ref (h_o 0))] := hl
  refine lv_aload_n hx hb dX2_become_0 rfl (lv_at hl 0 rfl) ?_
  refine lv_aload_n hx hb dX2_become_1 rfl (lv_at hl 1 rfl) ?_
  refine va_get (D := D) (ci := 2) (C := RX2) (T := TX2) (N := 10) hx hb hts inX2 hown hK hP 1 rfl rfl 0 (by decide) f31 (fun _ h9 => h9) rfl dX2_become_2 ?_
  refine va_put (D := D) (ci := 2) (ty := .int) (C := RX2) (T := TX2) (N := 10) hx hb hts inX2 tyX2 tyX2_ok nmX2 hown hK hP hD hS 0 rfl rfl 0 (by decide) f31 (fun _ h9 => h9) rfl (by decide +kernel) rfl rfl (Nat.le_of_ble_eq_true rfl) dX2_become_5 (fun H locs hP hD hS => ?_)
  have hP : va_P D vwCl [(h_c 0, .inr (2, [.int o_inputs, .int c_flops, .int c_nets, .int c_outputs, .ref (h_c 5), .ref (h_c 6), .ref (h_c 7), .ref (h_c 8), .ref (h_c 9), .ref (h_c 10)])), (h_o 0, .inr (2, [.int o_inputs, .int o_flops, .int o_nets, .int o_outputs, .ref (h_o 5), .ref (h_o 6), .ref (h_o 7), .ref (h_o 8), .ref (h_o 9), .ref (h_o 10)])), (h_o 5, .inl (cyI, 60, .inl o_operation)), (h_c 5, .inl (cyI, 60, .inl c_operation)), (h_o 6, .inl (cyI, 60, .inl o_lookedCount)), (h_c 6, .inl (cyI, 60, .inl c_lookedCount)), (h_o 7, .inl (cyI, 240, .inl o_looked)), (h_c 7, .inl (cyI, 240, .inl c_looked)), (h_o 8, .inl (cyI, 8, .inl o_output)), (h_c 8, .inl (cyI, 8, .inl c_output)), (h_o 9, .inl (cyI, 10, .inl o_next)), (h_c 9, .inl (cyI, 10, .inl c_next))] H := hP
  have hD : va_D A [(h_c 0, .inr (2, [.int o_inputs, .int c_flops, .int c_nets, .int c_outputs, .ref (h_c 5), .ref (h_c 6), .ref (h_c 7), .ref (h_c 8), .ref (h_c 9), .ref (h_c 10)])), (h_o 0, .inr (2, [.int o_inputs, .int o_flops, .int o_nets, .int o_outputs, .ref (h_o 5), .ref (h_o 6), .ref (h_o 7), .ref (h_o 8), .ref (h_o 9), .ref (h_o 10)])), (h_o 5, .inl (cyI, 60, .inl o_operation)), (h_c 5, .inl (cyI, 60, .inl c_operation)), (h_o 6, .inl (cyI, 60, .inl o_lookedCount)), (h_c 6, .inl (cyI, 60, .inl c_lookedCount)), (h_o 7, .inl (cyI, 240, .inl o_looked)), (h_c 7, .inl (cyI, 240, .inl c_looked)), (h_o 8, .inl (cyI, 8, .inl o_output)), (h_c 8, .inl (cyI, 8, .inl c_output)), (h_o 9, .inl (cyI, 10, .inl o_next)), (h_c 9, .inl (cyI, 10, .inl c_next))] := hD
  refine lv_aload_n hx hb dX2_become_8 rfl (lv_at hl 0 rfl) ?_
  refine lv_aload_n hx hb dX2_become_9 rfl (lv_at hl 1 rfl) ?_
  refine va_get (D := D) (ci := 2) (C := RX2) (T := TX2) (N := 10) hx hb hts inX2 hown hK hP 1 rfl rfl 1 (by decide) f35 (fun _ h9 => h9) rfl dX2_become_10 ?_
  refine va_put (D := D) (ci := 2) (ty := .int) (C := RX2) (T := TX2) (N := 10) hx hb hts inX2 tyX2 tyX2_ok nmX2 hown hK hP hD hS 0 rfl rfl 1 (by decide) f35 (fun _ h9 => h9) rfl (by decide +kernel) rfl rfl (Nat.le_of_ble_eq_true rfl) dX2_become_13 (fun H locs hP hD hS => ?_)
  have hP : va_P D vwCl [(h_c 0, .inr (2, [.int o_inputs, .int o_flops, .int c_nets, .int c_outputs, .ref (h_c 5), .ref (h_c 6), .ref (h_c 7), .ref (h_c 8), .ref (h_c 9), .ref (h_c 10)])), (h_o 0, .inr (2, [.int o_inputs, .int o_flops, .int o_nets, .int o_outputs, .ref (h_o 5), .ref (h_o 6), .ref (h_o 7), .ref (h_o 8), .ref (h_o 9), .ref (h_o 10)])), (h_o 5, .inl (cyI, 60, .inl o_operation)), (h_c 5, .inl (cyI, 60, .inl c_operation)), (h_o 6, .inl (cyI, 60, .inl o_lookedCount)), (h_c 6, .inl (cyI, 60, .inl c_lookedCount)), (h_o 7, .inl (cyI, 240, .inl o_looked)), (h_c 7, .inl (cyI, 240, .inl c_looked)), (h_o 8, .inl (cyI, 8, .inl o_output)), (h_c 8, .inl (cyI, 8, .inl c_output)), (h_o 9, .inl (cyI, 10, .inl o_next)), (h_c 9, .inl (cyI, 10, .inl c_next))] H := hP
  have hD : va_D A [(h_c 0, .inr (2, [.int o_inputs, .int o_flops, .int c_nets, .int c_outputs, .ref (h_c 5), .ref (h_c 6), .ref (h_c 7), .ref (h_c 8), .ref (h_c 9), .ref (h_c 10)])), (h_o 0, .inr (2, [.int o_inputs, .int o_flops, .int o_nets, .int o_outputs, .ref (h_o 5), .ref (h_o 6), .ref (h_o 7), .ref (h_o 8), .ref (h_o 9), .ref (h_o 10)])), (h_o 5, .inl (cyI, 60, .inl o_operation)), (h_c 5, .inl (cyI, 60, .inl c_operation)), (h_o 6, .inl (cyI, 60, .inl o_lookedCount)), (h_c 6, .inl (cyI, 60, .inl c_lookedCount)), (h_o 7, .inl (cyI, 240, .inl o_looked)), (h_c 7, .inl (cyI, 240, .inl c_looked)), (h_o 8, .inl (cyI, 8, .inl o_output)), (h_c 8, .inl (cyI, 8, .inl c_output)), (h_o 9, .inl (cyI, 10, .inl o_next)), (h_c 9, .inl (cyI, 10, .inl c_next))] := hD
  refine lv_aload_n hx hb dX2_become_16 rfl (lv_at hl 0 rfl) ?_
  refine lv_aload_n hx hb dX2_become_17 rfl (lv_at hl 1 rfl) ?_
  refine va_get (D := D) (ci := 2) (C := RX2) (T := TX2) (N := 10) hx hb hts inX2 hown hK hP 1 rfl rfl 2 (by decide) f38 (fun _ h9 => h9) rfl dX2_become_18 ?_
  refine va_put (D := D) (ci := 2) (ty := .int) (C := RX2) (T := TX2) (N := 10) hx hb hts inX2 tyX2 tyX2_ok nmX2 hown hK hP hD hS 0 rfl rfl 2 (by decide) f38 (fun _ h9 => h9) rfl (by decide +kernel) rfl rfl (Nat.le_of_ble_eq_true rfl) dX2_become_21 (fun H locs hP hD hS => ?_)
  have hP : va_P D vwCl [(h_c 0, .inr (2, [.int o_inputs, .int o_flops, .int o_nets, .int c_outputs, .ref (h_c 5), .ref (h_c 6), .ref (h_c 7), .ref (h_c 8), .ref (h_c 9), .ref (h_c 10)])), (h_o 0, .inr (2, [.int o_inputs, .int o_flops, .int o_nets, .int o_outputs, .ref (h_o 5), .ref (h_o 6), .ref (h_o 7), .ref (h_o 8), .ref (h_o 9), .ref (h_o 10)])), (h_o 5, .inl (cyI, 60, .inl o_operation)), (h_c 5, .inl (cyI, 60, .inl c_operation)), (h_o 6, .inl (cyI, 60, .inl o_lookedCount)), (h_c 6, .inl (cyI, 60, .inl c_lookedCount)), (h_o 7, .inl (cyI, 240, .inl o_looked)), (h_c 7, .inl (cyI, 240, .inl c_looked)), (h_o 8, .inl (cyI, 8, .inl o_output)), (h_c 8, .inl (cyI, 8, .inl c_output)), (h_o 9, .inl (cyI, 10, .inl o_next)), (h_c 9, .inl (cyI, 10, .inl c_next))] H := hP
  have hD : va_D A [(h_c 0, .inr (2, [.int o_inputs, .int o_flops, .int o_nets, .int c_outputs, .ref (h_c 5), .ref (h_c 6), .ref (h_c 7), .ref (h_c 8), .ref (h_c 9), .ref (h_c 10)])), (h_o 0, .inr (2, [.int o_inputs, .int o_flops, .int o_nets, .int o_outputs, .ref (h_o 5), .ref (h_o 6), .ref (h_o 7), .ref (h_o 8), .ref (h_o 9), .ref (h_o 10)])), (h_o 5, .inl (cyI, 60, .inl o_operation)), (h_c 5, .inl (cyI, 60, .inl c_operation)), (h_o 6, .inl (cyI, 60, .inl o_lookedCount)), (h_c 6, .inl (cyI, 60, .inl c_lookedCount)), (h_o 7, .inl (cyI, 240, .inl o_looked)), (h_c 7, .inl (cyI, 240, .inl c_looked)), (h_o 8, .inl (cyI, 8, .inl o_output)), (h_c 8, .inl (cyI, 8, .inl c_output)), (h_o 9, .inl (cyI, 10, .inl o_next)), (h_c 9, .inl (cyI, 10, .inl c_next))] := hD
  refine lv_aload_n hx hb dX2_become_24 rfl (lv_at hl 0 rfl) ?_
  refine lv_aload_n hx hb dX2_become_25 rfl (lv_at hl 1 rfl) ?_
  refine va_get (D := D) (ci := 2) (C := RX2) (T := TX2) (N := 10) hx hb hts inX2 hown hK hP 1 rfl rfl 3 (by decide) f41 (fun _ h9 => h9) rfl dX2_become_26 ?_
  refine va_put (D := D) (ci := 2) (ty := .int) (C := RX2) (T := TX2) (N := 10) hx hb hts inX2 tyX2 tyX2_ok nmX2 hown hK hP hD hS 0 rfl rfl 3 (by decide) f41 (fun _ h9 => h9) rfl (by decide +kernel) rfl rfl (Nat.le_of_ble_eq_true rfl) dX2_become_29 (fun H locs hP hD hS => ?_)
  have hP : va_P D vwCl [(h_c 0, .inr (2, [.int o_inputs, .int o_flops, .int o_nets, .int o_outputs, .ref (h_c 5), .ref (h_c 6), .ref (h_c 7), .ref (h_c 8), .ref (h_c 9), .ref (h_c 10)])), (h_o 0, .inr (2, [.int o_inputs, .int o_flops, .int o_nets, .int o_outputs, .ref (h_o 5), .ref (h_o 6), .ref (h_o 7), .ref (h_o 8), .ref (h_o 9), .ref (h_o 10)])), (h_o 5, .inl (cyI, 60, .inl o_operation)), (h_c 5, .inl (cyI, 60, .inl c_operation)), (h_o 6, .inl (cyI, 60, .inl o_lookedCount)), (h_c 6, .inl (cyI, 60, .inl c_lookedCount)), (h_o 7, .inl (cyI, 240, .inl o_looked)), (h_c 7, .inl (cyI, 240, .inl c_looked)), (h_o 8, .inl (cyI, 8, .inl o_output)), (h_c 8, .inl (cyI, 8, .inl c_output)), (h_o 9, .inl (cyI, 10, .inl o_next)), (h_c 9, .inl (cyI, 10, .inl c_next))] H := hP
  have hD : va_D A [(h_c 0, .inr (2, [.int o_inputs, .int o_flops, .int o_nets, .int o_outputs, .ref (h_c 5), .ref (h_c 6), .ref (h_c 7), .ref (h_c 8), .ref (h_c 9), .ref (h_c 10)])), (h_o 0, .inr (2, [.int o_inputs, .int o_flops, .int o_nets, .int o_outputs, .ref (h_o 5), .ref (h_o 6), .ref (h_o 7), .ref (h_o 8), .ref (h_o 9), .ref (h_o 10)])), (h_o 5, .inl (cyI, 60, .inl o_operation)), (h_c 5, .inl (cyI, 60, .inl c_operation)), (h_o 6, .inl (cyI, 60, .inl o_lookedCount)), (h_c 6, .inl (cyI, 60, .inl c_lookedCount)), (h_o 7, .inl (cyI, 240, .inl o_looked)), (h_c 7, .inl (cyI, 240, .inl c_looked)), (h_o 8, .inl (cyI, 8, .inl o_output)), (h_c 8, .inl (cyI, 8, .inl c_output)), (h_o 9, .inl (cyI, 10, .inl o_next)), (h_c 9, .inl (cyI, 10, .inl c_next))] := hD
  refine lv_aload_n hx hb dX2_become_32 rfl (lv_at hl 1 rfl) ?_
  refine va_get (D := D) (ci := 2) (C := RX2) (T := TX2) (N := 10) hx hb hts inX2 hown hK hP 1 rfl rfl 4 (by decide) f9 (fun _ h9 => h9) rfl dX2_become_33 ?_
  refine lv_iconst (v := 0) hx hb dX2_become_36 (by decide) ?_
  refine lv_aload_n hx hb dX2_become_37 rfl (lv_at hl 0 rfl) ?_
  refine va_get (D := D) (ci := 2) (C := RX2) (T := TX2) (N := 10) hx hb hts inX2 hown hK hP 0 rfl rfl 4 (by decide) f9 (fun _ h9 => h9) rfl dX2_become_38 ?_
  refine lv_iconst (v := 0) hx hb dX2_become_41 (by decide) ?_
  refine lv_bipush (v := 60) hx hb dX2_become_42 (by decide) ?_
  obtain ⟨h1, h2, h3, h4, h5, hvc⟩ := hvc
  refine va_copyi hx hb (hml.trans hl.1.symm) hown ac_l ac_n ac_s ac_i hK hP hD hS 2 3 0 0 rfl rfl rfl rfl rfl h1 h2 h3 h4 h5 (fun _ _ => rfl) (Nat.le_of_ble_eq_true rfl) (Nat.le_of_ble_eq_true rfl) dX2_become_44 (fun H locs hP hD hS => ?_)
  have hP : va_P D vwCl [(h_c 0, .inr (2, [.int o_inputs, .int o_flops, .int o_nets, .int o_outputs, .ref (h_c 5), .ref (h_c 6), .ref (h_c 7), .ref (h_c 8), .ref (h_c 9), .ref (h_c 10)])), (h_o 0, .inr (2, [.int o_inputs, .int o_flops, .int o_nets, .int o_outputs, .ref (h_o 5), .ref (h_o 6), .ref (h_o 7), .ref (h_o 8), .ref (h_o 9), .ref (h_o 10)])), (h_o 5, .inl (cyI, 60, .inl o_operation)), (h_c 5, .inl (cyI, 60, .inl (va_cpy o_operation c_operation (0 : Int32).toNatClampNeg (0 : Int32).toNatClampNeg (60 : Int32).toNatClampNeg))), (h_o 6, .inl (cyI, 60, .inl o_lookedCount)), (h_c 6, .inl (cyI, 60, .inl c_lookedCount)), (h_o 7, .inl (cyI, 240, .inl o_looked)), (h_c 7, .inl (cyI, 240, .inl c_looked)), (h_o 8, .inl (cyI, 8, .inl o_output)), (h_c 8, .inl (cyI, 8, .inl c_output)), (h_o 9, .inl (cyI, 10, .inl o_next)), (h_c 9, .inl (cyI, 10, .inl c_next))] H := hP
  have hD : va_D A [(h_c 0, .inr (2, [.int o_inputs, .int o_flops, .int o_nets, .int o_outputs, .ref (h_c 5), .ref (h_c 6), .ref (h_c 7), .ref (h_c 8), .ref (h_c 9), .ref (h_c 10)])), (h_o 0, .inr (2, [.int o_inputs, .int o_flops, .int o_nets, .int o_outputs, .ref (h_o 5), .ref (h_o 6), .ref (h_o 7), .ref (h_o 8), .ref (h_o 9), .ref (h_o 10)])), (h_o 5, .inl (cyI, 60, .inl o_operation)), (h_c 5, .inl (cyI, 60, .inl (va_cpy o_operation c_operation (0 : Int32).toNatClampNeg (0 : Int32).toNatClampNeg (60 : Int32).toNatClampNeg))), (h_o 6, .inl (cyI, 60, .inl o_lookedCount)), (h_c 6, .inl (cyI, 60, .inl c_lookedCount)), (h_o 7, .inl (cyI, 240, .inl o_looked)), (h_c 7, .inl (cyI, 240, .inl c_looked)), (h_o 8, .inl (cyI, 8, .inl o_output)), (h_c 8, .inl (cyI, 8, .inl c_output)), (h_o 9, .inl (cyI, 10, .inl o_next)), (h_c 9, .inl (cyI, 10, .inl c_next))] := hD
  refine lv_aload_n hx hb dX2_become_47 rfl (lv_at hl 1 rfl) ?_
  refine va_get (D := D) (ci := 2) (C := RX2) (T := TX2) (N := 10) hx hb hts inX2 hown hK hP 1 rfl rfl 5 (by decide) f15 (fun _ h9 => h9) rfl dX2_become_48 ?_
  refine lv_iconst (v := 0) hx hb dX2_become_51 (by decide) ?_
  refine lv_aload_n hx hb dX2_become_52 rfl (lv_at hl 0 rfl) ?_
  refine va_get (D := D) (ci := 2) (C := RX2) (T := TX2) (N := 10) hx hb hts inX2 hown hK hP 0 rfl rfl 5 (by decide) f15 (fun _ h9 => h9) rfl dX2_become_53 ?_
  refine lv_iconst (v := 0) hx hb dX2_become_56 (by decide) ?_
  refine lv_bipush (v := 60) hx hb dX2_become_57 (by decide) ?_
  obtain ⟨h1, h2, h3, h4, h5, hvc⟩ := hvc
  refine va_copyi hx hb (hml.trans hl.1.symm) hown ac_l ac_n ac_s ac_i hK hP hD hS 4 5 0 0 rfl rfl rfl rfl rfl h1 h2 h3 h4 h5 (fun _ _ => rfl) (Nat.le_of_ble_eq_true rfl) (Nat.le_of_ble_eq_true rfl) dX2_become_59 (fun H locs hP hD hS => ?_)
  have hP : va_P D vwCl [(h_c 0, .inr (2, [.int o_inputs, .int o_flops, .int o_nets, .int o_outputs, .ref (h_c 5), .ref (h_c 6), .ref (h_c 7), .ref (h_c 8), .ref (h_c 9), .ref (h_c 10)])), (h_o 0, .inr (2, [.int o_inputs, .int o_flops, .int o_nets, .int o_outputs, .ref (h_o 5), .ref (h_o 6), .ref (h_o 7), .ref (h_o 8), .ref (h_o 9), .ref (h_o 10)])), (h_o 5, .inl (cyI, 60, .inl o_operation)), (h_c 5, .inl (cyI, 60, .inl (va_cpy o_operation c_operation (0 : Int32).toNatClampNeg (0 : Int32).toNatClampNeg (60 : Int32).toNatClampNeg))), (h_o 6, .inl (cyI, 60, .inl o_lookedCount)), (h_c 6, .inl (cyI, 60, .inl (va_cpy o_lookedCount c_lookedCount (0 : Int32).toNatClampNeg (0 : Int32).toNatClampNeg (60 : Int32).toNatClampNeg))), (h_o 7, .inl (cyI, 240, .inl o_looked)), (h_c 7, .inl (cyI, 240, .inl c_looked)), (h_o 8, .inl (cyI, 8, .inl o_output)), (h_c 8, .inl (cyI, 8, .inl c_output)), (h_o 9, .inl (cyI, 10, .inl o_next)), (h_c 9, .inl (cyI, 10, .inl c_next))] H := hP
  have hD : va_D A [(h_c 0, .inr (2, [.int o_inputs, .int o_flops, .int o_nets, .int o_outputs, .ref (h_c 5), .ref (h_c 6), .ref (h_c 7), .ref (h_c 8), .ref (h_c 9), .ref (h_c 10)])), (h_o 0, .inr (2, [.int o_inputs, .int o_flops, .int o_nets, .int o_outputs, .ref (h_o 5), .ref (h_o 6), .ref (h_o 7), .ref (h_o 8), .ref (h_o 9), .ref (h_o 10)])), (h_o 5, .inl (cyI, 60, .inl o_operation)), (h_c 5, .inl (cyI, 60, .inl (va_cpy o_operation c_operation (0 : Int32).toNatClampNeg (0 : Int32).toNatClampNeg (60 : Int32).toNatClampNeg))), (h_o 6, .inl (cyI, 60, .inl o_lookedCount)), (h_c 6, .inl (cyI, 60, .inl (va_cpy o_lookedCount c_lookedCount (0 : Int32).toNatClampNeg (0 : Int32).toNatClampNeg (60 : Int32).toNatClampNeg))), (h_o 7, .inl (cyI, 240, .inl o_looked)), (h_c 7, .inl (cyI, 240, .inl c_looked)), (h_o 8, .inl (cyI, 8, .inl o_output)), (h_c 8, .inl (cyI, 8, .inl c_output)), (h_o 9, .inl (cyI, 10, .inl o_next)), (h_c 9, .inl (cyI, 10, .inl c_next))] := hD
  refine lv_aload_n hx hb dX2_become_62 rfl (lv_at hl 1 rfl) ?_
  refine va_get (D := D) (ci := 2) (C := RX2) (T := TX2) (N := 10) hx hb hts inX2 hown hK hP 1 rfl rfl 6 (by decide) f18 (fun _ h9 => h9) rfl dX2_become_63 ?_
  refine lv_iconst (v := 0) hx hb dX2_become_66 (by decide) ?_
  refine lv_aload_n hx hb dX2_become_67 rfl (lv_at hl 0 rfl) ?_
  refine va_get (D := D) (ci := 2) (C := RX2) (T := TX2) (N := 10) hx hb hts inX2 hown hK hP 0 rfl rfl 6 (by decide) f18 (fun _ h9 => h9) rfl dX2_become_68 ?_
  refine lv_iconst (v := 0) hx hb dX2_become_71 (by decide) ?_
  refine lv_sipush (v := 240) hx hb dX2_become_72 (by decide) ?_
  obtain ⟨h1, h2, h3, h4, h5, hvc⟩ := hvc
  refine va_copyi hx hb (hml.trans hl.1.symm) hown ac_l ac_n ac_s ac_i hK hP hD hS 6 7 0 0 rfl rfl rfl rfl rfl h1 h2 h3 h4 h5 (fun _ _ => rfl) (Nat.le_of_ble_eq_true rfl) (Nat.le_of_ble_eq_true rfl) dX2_become_75 (fun H locs hP hD hS => ?_)
  have hP : va_P D vwCl [(h_c 0, .inr (2, [.int o_inputs, .int o_flops, .int o_nets, .int o_outputs, .ref (h_c 5), .ref (h_c 6), .ref (h_c 7), .ref (h_c 8), .ref (h_c 9), .ref (h_c 10)])), (h_o 0, .inr (2, [.int o_inputs, .int o_flops, .int o_nets, .int o_outputs, .ref (h_o 5), .ref (h_o 6), .ref (h_o 7), .ref (h_o 8), .ref (h_o 9), .ref (h_o 10)])), (h_o 5, .inl (cyI, 60, .inl o_operation)), (h_c 5, .inl (cyI, 60, .inl (va_cpy o_operation c_operation (0 : Int32).toNatClampNeg (0 : Int32).toNatClampNeg (60 : Int32).toNatClampNeg))), (h_o 6, .inl (cyI, 60, .inl o_lookedCount)), (h_c 6, .inl (cyI, 60, .inl (va_cpy o_lookedCount c_lookedCount (0 : Int32).toNatClampNeg (0 : Int32).toNatClampNeg (60 : Int32).toNatClampNeg))), (h_o 7, .inl (cyI, 240, .inl o_looked)), (h_c 7, .inl (cyI, 240, .inl (va_cpy o_looked c_looked (0 : Int32).toNatClampNeg (0 : Int32).toNatClampNeg (240 : Int32).toNatClampNeg))), (h_o 8, .inl (cyI, 8, .inl o_output)), (h_c 8, .inl (cyI, 8, .inl c_output)), (h_o 9, .inl (cyI, 10, .inl o_next)), (h_c 9, .inl (cyI, 10, .inl c_next))] H := hP
  have hD : va_D A [(h_c 0, .inr (2, [.int o_inputs, .int o_flops, .int o_nets, .int o_outputs, .ref (h_c 5), .ref (h_c 6), .ref (h_c 7), .ref (h_c 8), .ref (h_c 9), .ref (h_c 10)])), (h_o 0, .inr (2, [.int o_inputs, .int o_flops, .int o_nets, .int o_outputs, .ref (h_o 5), .ref (h_o 6), .ref (h_o 7), .ref (h_o 8), .ref (h_o 9), .ref (h_o 10)])), (h_o 5, .inl (cyI, 60, .inl o_operation)), (h_c 5, .inl (cyI, 60, .inl (va_cpy o_operation c_operation (0 : Int32).toNatClampNeg (0 : Int32).toNatClampNeg (60 : Int32).toNatClampNeg))), (h_o 6, .inl (cyI, 60, .inl o_lookedCount)), (h_c 6, .inl (cyI, 60, .inl (va_cpy o_lookedCount c_lookedCount (0 : Int32).toNatClampNeg (0 : Int32).toNatClampNeg (60 : Int32).toNatClampNeg))), (h_o 7, .inl (cyI, 240, .inl o_looked)), (h_c 7, .inl (cyI, 240, .inl (va_cpy o_looked c_looked (0 : Int32).toNatClampNeg (0 : Int32).toNatClampNeg (240 : Int32).toNatClampNeg))), (h_o 8, .inl (cyI, 8, .inl o_output)), (h_c 8, .inl (cyI, 8, .inl c_output)), (h_o 9, .inl (cyI, 10, .inl o_next)), (h_c 9, .inl (cyI, 10, .inl c_next))] := hD
  refine lv_aload_n hx hb dX2_become_78 rfl (lv_at hl 1 rfl) ?_
  refine va_get (D := D) (ci := 2) (C := RX2) (T := TX2) (N := 10) hx hb hts inX2 hown hK hP 1 rfl rfl 7 (by decide) f21 (fun _ h9 => h9) rfl dX2_become_79 ?_
  refine lv_iconst (v := 0) hx hb dX2_become_82 (by decide) ?_
  refine lv_aload_n hx hb dX2_become_83 rfl (lv_at hl 0 rfl) ?_
  refine va_get (D := D) (ci := 2) (C := RX2) (T := TX2) (N := 10) hx hb hts inX2 hown hK hP 0 rfl rfl 7 (by decide) f21 (fun _ h9 => h9) rfl dX2_become_84 ?_
  refine lv_iconst (v := 0) hx hb dX2_become_87 (by decide) ?_
  refine lv_bipush (v := 8) hx hb dX2_become_88 (by decide) ?_
  obtain ⟨h1, h2, h3, h4, h5, hvc⟩ := hvc
  refine va_copyi hx hb (hml.trans hl.1.symm) hown ac_l ac_n ac_s ac_i hK hP hD hS 8 9 0 0 rfl rfl rfl rfl rfl h1 h2 h3 h4 h5 (fun _ _ => rfl) (Nat.le_of_ble_eq_true rfl) (Nat.le_of_ble_eq_true rfl) dX2_become_90 (fun H locs hP hD hS => ?_)
  have hP : va_P D vwCl [(h_c 0, .inr (2, [.int o_inputs, .int o_flops, .int o_nets, .int o_outputs, .ref (h_c 5), .ref (h_c 6), .ref (h_c 7), .ref (h_c 8), .ref (h_c 9), .ref (h_c 10)])), (h_o 0, .inr (2, [.int o_inputs, .int o_flops, .int o_nets, .int o_outputs, .ref (h_o 5), .ref (h_o 6), .ref (h_o 7), .ref (h_o 8), .ref (h_o 9), .ref (h_o 10)])), (h_o 5, .inl (cyI, 60, .inl o_operation)), (h_c 5, .inl (cyI, 60, .inl (va_cpy o_operation c_operation (0 : Int32).toNatClampNeg (0 : Int32).toNatClampNeg (60 : Int32).toNatClampNeg))), (h_o 6, .inl (cyI, 60, .inl o_lookedCount)), (h_c 6, .inl (cyI, 60, .inl (va_cpy o_lookedCount c_lookedCount (0 : Int32).toNatClampNeg (0 : Int32).toNatClampNeg (60 : Int32).toNatClampNeg))), (h_o 7, .inl (cyI, 240, .inl o_looked)), (h_c 7, .inl (cyI, 240, .inl (va_cpy o_looked c_looked (0 : Int32).toNatClampNeg (0 : Int32).toNatClampNeg (240 : Int32).toNatClampNeg))), (h_o 8, .inl (cyI, 8, .inl o_output)), (h_c 8, .inl (cyI, 8, .inl (va_cpy o_output c_output (0 : Int32).toNatClampNeg (0 : Int32).toNatClampNeg (8 : Int32).toNatClampNeg))), (h_o 9, .inl (cyI, 10, .inl o_next)), (h_c 9, .inl (cyI, 10, .inl c_next))] H := hP
  have hD : va_D A [(h_c 0, .inr (2, [.int o_inputs, .int o_flops, .int o_nets, .int o_outputs, .ref (h_c 5), .ref (h_c 6), .ref (h_c 7), .ref (h_c 8), .ref (h_c 9), .ref (h_c 10)])), (h_o 0, .inr (2, [.int o_inputs, .int o_flops, .int o_nets, .int o_outputs, .ref (h_o 5), .ref (h_o 6), .ref (h_o 7), .ref (h_o 8), .ref (h_o 9), .ref (h_o 10)])), (h_o 5, .inl (cyI, 60, .inl o_operation)), (h_c 5, .inl (cyI, 60, .inl (va_cpy o_operation c_operation (0 : Int32).toNatClampNeg (0 : Int32).toNatClampNeg (60 : Int32).toNatClampNeg))), (h_o 6, .inl (cyI, 60, .inl o_lookedCount)), (h_c 6, .inl (cyI, 60, .inl (va_cpy o_lookedCount c_lookedCount (0 : Int32).toNatClampNeg (0 : Int32).toNatClampNeg (60 : Int32).toNatClampNeg))), (h_o 7, .inl (cyI, 240, .inl o_looked)), (h_c 7, .inl (cyI, 240, .inl (va_cpy o_looked c_looked (0 : Int32).toNatClampNeg (0 : Int32).toNatClampNeg (240 : Int32).toNatClampNeg))), (h_o 8, .inl (cyI, 8, .inl o_output)), (h_c 8, .inl (cyI, 8, .inl (va_cpy o_output c_output (0 : Int32).toNatClampNeg (0 : Int32).toNatClampNeg (8 : Int32).toNatClampNeg))), (h_o 9, .inl (cyI, 10, .inl o_next)), (h_c 9, .inl (cyI, 10, .inl c_next))] := hD
  refine lv_aload_n hx hb dX2_become_93 rfl (lv_at hl 1 rfl) ?_
  refine va_get (D := D) (ci := 2) (C := RX2) (T := TX2) (N := 10) hx hb hts inX2 hown hK hP 1 rfl rfl 8 (by decide) f24 (fun _ h9 => h9) rfl dX2_become_94 ?_
  refine lv_iconst (v := 0) hx hb dX2_become_97 (by decide) ?_
  refine lv_aload_n hx hb dX2_become_98 rfl (lv_at hl 0 rfl) ?_
  refine va_get (D := D) (ci := 2) (C := RX2) (T := TX2) (N := 10) hx hb hts inX2 hown hK hP 0 rfl rfl 8 (by decide) f24 (fun _ h9 => h9) rfl dX2_become_99 ?_
  refine lv_iconst (v := 0) hx hb dX2_become_102 (by decide) ?_
  refine lv_bipush (v := 10) hx hb dX2_become_103 (by decide) ?_
  obtain ⟨h1, h2, h3, h4, h5, hvc⟩ := hvc
  refine va_copyi hx hb (hml.trans hl.1.symm) hown ac_l ac_n ac_s ac_i hK hP hD hS 10 11 0 0 rfl rfl rfl rfl rfl h1 h2 h3 h4 h5 (fun _ _ => rfl) (Nat.le_of_ble_eq_true rfl) (Nat.le_of_ble_eq_true rfl) dX2_become_105 (fun H locs hP hD hS => ?_)
  have hP : va_P D vwCl [(h_c 0, .inr (2, [.int o_inputs, .int o_flops, .int o_nets, .int o_outputs, .ref (h_c 5), .ref (h_c 6), .ref (h_c 7), .ref (h_c 8), .ref (h_c 9), .ref (h_c 10)])), (h_o 0, .inr (2, [.int o_inputs, .int o_flops, .int o_nets, .int o_outputs, .ref (h_o 5), .ref (h_o 6), .ref (h_o 7), .ref (h_o 8), .ref (h_o 9), .ref (h_o 10)])), (h_o 5, .inl (cyI, 60, .inl o_operation)), (h_c 5, .inl (cyI, 60, .inl (va_cpy o_operation c_operation (0 : Int32).toNatClampNeg (0 : Int32).toNatClampNeg (60 : Int32).toNatClampNeg))), (h_o 6, .inl (cyI, 60, .inl o_lookedCount)), (h_c 6, .inl (cyI, 60, .inl (va_cpy o_lookedCount c_lookedCount (0 : Int32).toNatClampNeg (0 : Int32).toNatClampNeg (60 : Int32).toNatClampNeg))), (h_o 7, .inl (cyI, 240, .inl o_looked)), (h_c 7, .inl (cyI, 240, .inl (va_cpy o_looked c_looked (0 : Int32).toNatClampNeg (0 : Int32).toNatClampNeg (240 : Int32).toNatClampNeg))), (h_o 8, .inl (cyI, 8, .inl o_output)), (h_c 8, .inl (cyI, 8, .inl (va_cpy o_output c_output (0 : Int32).toNatClampNeg (0 : Int32).toNatClampNeg (8 : Int32).toNatClampNeg))), (h_o 9, .inl (cyI, 10, .inl o_next)), (h_c 9, .inl (cyI, 10, .inl (va_cpy o_next c_next (0 : Int32).toNatClampNeg (0 : Int32).toNatClampNeg (10 : Int32).toNatClampNeg)))] H := hP
  have hD : va_D A [(h_c 0, .inr (2, [.int o_inputs, .int o_flops, .int o_nets, .int o_outputs, .ref (h_c 5), .ref (h_c 6), .ref (h_c 7), .ref (h_c 8), .ref (h_c 9), .ref (h_c 10)])), (h_o 0, .inr (2, [.int o_inputs, .int o_flops, .int o_nets, .int o_outputs, .ref (h_o 5), .ref (h_o 6), .ref (h_o 7), .ref (h_o 8), .ref (h_o 9), .ref (h_o 10)])), (h_o 5, .inl (cyI, 60, .inl o_operation)), (h_c 5, .inl (cyI, 60, .inl (va_cpy o_operation c_operation (0 : Int32).toNatClampNeg (0 : Int32).toNatClampNeg (60 : Int32).toNatClampNeg))), (h_o 6, .inl (cyI, 60, .inl o_lookedCount)), (h_c 6, .inl (cyI, 60, .inl (va_cpy o_lookedCount c_lookedCount (0 : Int32).toNatClampNeg (0 : Int32).toNatClampNeg (60 : Int32).toNatClampNeg))), (h_o 7, .inl (cyI, 240, .inl o_looked)), (h_c 7, .inl (cyI, 240, .inl (va_cpy o_looked c_looked (0 : Int32).toNatClampNeg (0 : Int32).toNatClampNeg (240 : Int32).toNatClampNeg))), (h_o 8, .inl (cyI, 8, .inl o_output)), (h_c 8, .inl (cyI, 8, .inl (va_cpy o_output c_output (0 : Int32).toNatClampNeg (0 : Int32).toNatClampNeg (8 : Int32).toNatClampNeg))), (h_o 9, .inl (cyI, 10, .inl o_next)), (h_c 9, .inl (cyI, 10, .inl (va_cpy o_next c_next (0 : Int32).toNatClampNeg (0 : Int32).toNatClampNeg (10 : Int32).toNatClampNeg)))] := hD
  exact hret (o_inputs, o_flops, o_nets, o_outputs, va_cpy o_operation c_operation (0 : Int32).toNatClampNeg (0 : Int32).toNatClampNeg (60 : Int32).toNatClampNeg, va_cpy o_lookedCount c_lookedCount (0 : Int32).toNatClampNeg (0 : Int32).toNatClampNeg (60 : Int32).toNatClampNeg, va_cpy o_looked c_looked (0 : Int32).toNatClampNeg (0 : Int32).toNatClampNeg (240 : Int32).toNatClampNeg, va_cpy o_output c_output (0 : Int32).toNatClampNeg (0 : Int32).toNatClampNeg (8 : Int32).toNatClampNeg, va_cpy o_next c_next (0 : Int32).toNatClampNeg (0 : Int32).toNatClampNeg (10 : Int32).toNatClampNeg) _ _ _ _ hvc hP hD hS dX2_become_108
