def v_X4_append_b17  (Q : Int32 → Int32 → (Nat → Int32) → Prop)  : Nat → Int32 → (Nat → Int32) → Int32 → Int64 → Int32 → Prop
  | 0 => fun _ _ _ _ _ => False
  | z17_ + 1 => fun (r_length : Int32) (r_tape : Nat → Int32) (l1 : Int32) (l2 : Int64) (l4 : Int32) => (l1 ≤ l4 → ∀ v1 : Int32, v1 = r_length + l1 → Q v1 v1 r_tape) ∧ (¬ l1 ≤ l4 → vp_in (r_length + l4) 900 ∧ ∀ v2 : Int32, v2 = l4 + (1 : Int32) → (v_X4_append_b17 Q  z17_) r_length (upd r_tape (r_length + l4).toNatClampNeg (((l2 >>> (((8 : Int32) * l4).toInt64 &&& 63)) &&& (255 : Int64)).toInt32)) l1 l2 v2)
def v_X4_append (r_length : Int32) (r_tape : Nat → Int32) (p0 : Int32) (p1 : Int64) (Q : Int32 → Int32 → (Nat → Int32) → Prop) : Prop := ((r_length + p0) ≤ (900 : Int32) → (∃ f17 : Nat, v_X4_append_b17 Q  f17 r_length r_tape p0 p1 (0 : Int32))) ∧ (¬ (r_length + p0) ≤ (900 : Int32) → Q (-1 : Int32) r_length r_tape)
theorem hd_X4_append : yX4_append.cls = RX4 ∧ yX4_append.cls ≠ "java/lang/invoke/MethodHandle" ∧ yX4_append.cls ≠ "java/lang/invoke/VarHandle" ∧ (parseMethodDescriptor yX4_append.desc).map (fun d => d.parameters.length) = some 2 := by decide +kernel
abbrev rm_X4_append : Room := { frames := 0, cells := 0, slots := 0, locals := 0 }
set_option maxHeartbeats 4000000 in
set_option maxRecDepth 100000 in
theorem c_X4_append (l : Launch) (D : va_G) (ts : Nat → Nat) (cyI cyJ cyZ : ClassId) (h_d : Nat → Nat) (h_r : Nat → Nat) (sz : Nat) (r_length : Int32) (r_fault : Int32) (r_place : Int32) (r_at : Int32) (r_end : Int32) (r_name : Int32) (r_tape : Nat → Int32) (p0 : Int32) (p1 : Int64) (Q : Int32 → Int32 → (Nat → Int32) → Prop) (hvc : v_X4_append r_length r_tape p0 p1 Q) : Met l yX4_append wsX4_append rm_X4_append (va_Pc [.ref (h_r 0), .int p0, .long p1] (cPre D ts [(cyI, .int), (cyJ, .long), (cyZ, .boolean)] [(h_r 0, .inr (4, [.ref (h_d 0), .ref (h_r 2), .ref (h_r 3), .int r_length, .int r_fault, .int r_place, .int r_at, .int r_end, .int r_name])), (h_r 2, .inl (cyI, 900, .inl r_tape))] sz)) (va_Qi (fun (r : Int32) (u : Int32 × (Nat → Int32)) => Q r u.1 u.2) (cPost D [(cyI, .int), (cyJ, .long), (cyZ, .boolean)] (fun (u : Int32 × (Nat → Int32)) => [(h_r 0, .inr (4, [.ref (h_d 0), .ref (h_r 2), .ref (h_r 3), .int (u.1), .int r_fault, .int r_place, .int r_at, .int r_end, .int r_name])), (h_r 2, .inl (cyI, 900, .inl (u.2)))]) (va_A [(h_r 0, .inr (4, [.ref (h_d 0), .ref (h_r 2), .ref (h_r 3), .int r_length, .int r_fault, .int r_place, .int r_at, .int r_end, .int r_name])), (h_r 2, .inl (cyI, 900, .inl r_tape))] sz)) (va_A [(h_r 0, .inr (4, [.ref (h_d 0), .ref (h_r 2), .ref (h_r 3), .int r_length, .int r_fault, .int r_place, .int r_at, .int r_end, .int r_name])), (h_r 2, .inl (cyI, 900, .inl r_tape))] sz)) 0 0 (va_A [(h_r 0, .inr (4, [.ref (h_d 0), .ref (h_r 2), .ref (h_r 3), .int r_length, .int r_fault, .int r_place, .int r_at, .int r_end, .int r_name])), (h_r 2, .inl (cyI, 900, .inl r_tape))] sz) := by
  refine kEnter_i (cc := cX4_append) (maxL := 5) (by decide) rfl (Nat.le_of_ble_eq_true rfl) ?_
  intro p e s m args below meth c A ls QQ hx hb hml hown hts hsz hA hP hD hK hE hS hl hret
  clear hsz
  have hown : s.vm.findClass RX4 = some m.cls := hown
  have inX4 : ∀ w ∈ wsX40, w ∈ wsX4_append := fun _ h => List.mem_cons_of_mem _ (List.mem_append_right _ h)
  have f26 := hts (.fieldLink RX4 26 "ScanTester$Reader" "length" "I") (List.mem_of_getElem? (i := 1) rfl)
  have f11 := hts (.fieldLink RX4 11 "ScanTester$Reader" "tape" "[I") (List.mem_of_getElem? (i := 2) rfl)
  have k29 := hts (.constantLong RX4 29 (255)) (List.mem_of_getElem? (i := 3) rfl)
  have w17 : ∀ (n17_ : Nat) (r_length : Int32) (r_tape : Nat → Int32) (l1 : Int32) (l2 : Int64) (l4 : Int32) (H : Heap) (locs : List Loc) (ls : Array Slot), v_X4_append_b17 Q  n17_ r_length r_tape l1 l2 l4 → va_P D vwCl [(h_r 0, .inr (4, [.ref (h_d 0), .ref (h_r 2), .ref (h_r 3), .int r_length, .int r_fault, .int r_place, .int r_at, .int r_end, .int r_name])), (h_r 2, .inl (cyI, 900, .inl r_tape))] H → va_D A [(h_r 0, .inr (4, [.ref (h_d 0), .ref (h_r 2), .ref (h_r 3), .int r_length, .int r_fault, .int r_place, .int r_at, .int r_end, .int r_name])), (h_r 2, .inl (cyI, 900, .inl r_tape))] → va_S A s.heap H locs → lv_has ls 5 [(0, .ref (h_r 0)), (1, .int l1), (2, .long l2), (4, .int l4)] → W p l e rm_X4_append s m args below meth c H locs 0 0 QQ (F0 m 17 ls []) := by
    intro n17_
    induction n17_ with
    | zero =>
      intro r_length r_tape l1 l2 l4 H locs ls hvc hP hD hS hl
      exact False.elim hvc
    | succ n17_ ih17 =>
      intro r_length r_tape l1 l2 l4 H locs ls hvc hP hD hS hl
      refine lv_iload hx hb dX4_append_17 (lv_at hl 3 rfl) ?_
      refine lv_iload_n hx hb dX4_append_19 rfl (lv_at hl 1 rfl) ?_
      obtain ⟨hvt, hvf⟩ := hvc
      refine lv_icmp_ge (tgt := 53) hx hb dX4_append_20 (by decide) (fun hc => ?_) (fun hc => ?_)
      · have hvc := hvt hc
        refine lv_aload_n hx hb dX4_append_53 rfl (lv_at hl 0 rfl) ?_
        refine lv_dup hx hb dX4_append_54 rfl ?_
        refine va_get (D := D) (ci := 4) (C := RX4) (T := TX4) (N := 9) hx hb hts inX4 hown hK hP 0 rfl rfl 3 (by decide) f26 (fun _ h9 => h9) rfl dX4_append_55 ?_
        refine lv_iload_n hx hb dX4_append_58 rfl (lv_at hl 1 rfl) ?_
        refine lv_iadd hx hb dX4_append_59 ?_
        refine lv_topi (fun v1 ev1 => ?_)
        have hvc := hvc v1 ev1
        refine va_put (D := D) (ci := 4) (ty := .int) (C := RX4) (T := TX4) (N := 9) hx hb hts inX4 tyX4 tyX4_ok nmX4 hown hK hP hD hS 0 rfl rfl 3 (by decide) f26 (fun _ h9 => h9) rfl (by decide +kernel) rfl rfl (Nat.le_of_ble_eq_true rfl) dX4_append_60 (fun H locs hP hD hS => ?_)
        have hP : va_P D vwCl [(h_r 0, .inr (4, [.ref (h_d 0), .ref (h_r 2), .ref (h_r 3), .int v1, .int r_fault, .int r_place, .int r_at, .int r_end, .int r_name])), (h_r 2, .inl (cyI, 900, .inl r_tape))] H := hP
        have hD : va_D A [(h_r 0, .inr (4, [.ref (h_d 0), .ref (h_r 2), .ref (h_r 3), .int v1, .int r_fault, .int r_place, .int r_at, .int r_end, .int r_name])), (h_r 2, .inl (cyI, 900, .inl r_tape))] := hD
        refine lv_aload_n hx hb dX4_append_63 rfl (lv_at hl 0 rfl) ?_
        refine va_get (D := D) (ci := 4) (C := RX4) (T := TX4) (N := 9) hx hb hts inX4 hown hK hP 0 rfl rfl 3 (by decide) f26 (fun _ h9 => h9) rfl dX4_append_64 ?_
        exact hret v1 (v1, r_tape) _ _ _ _ hvc hP hD hS dX4_append_67
      · have hvc := hvf hc
        refine lv_aload_n hx hb dX4_append_23 rfl (lv_at hl 0 rfl) ?_
        refine va_get (D := D) (ci := 4) (C := RX4) (T := TX4) (N := 9) hx hb hts inX4 hown hK hP 0 rfl rfl 1 (by decide) f11 (fun _ h9 => h9) rfl dX4_append_24 ?_
        refine lv_aload_n hx hb dX4_append_27 rfl (lv_at hl 0 rfl) ?_
        refine va_get (D := D) (ci := 4) (C := RX4) (T := TX4) (N := 9) hx hb hts inX4 hown hK hP 0 rfl rfl 3 (by decide) f26 (fun _ h9 => h9) rfl dX4_append_28 ?_
        refine lv_iload hx hb dX4_append_31 (lv_at hl 3 rfl) ?_
        refine lv_iadd hx hb dX4_append_33 ?_
        refine lv_lload_n hx hb dX4_append_34 rfl (lv_at hl 2 rfl) ?_
        refine lv_bipush (v := 8) hx hb dX4_append_35 (by decide) ?_
        refine lv_iload hx hb dX4_append_37 (lv_at hl 3 rfl) ?_
        refine lv_imul hx hb dX4_append_39 ?_
        refine lv_lshr hx hb dX4_append_40 rfl ?_
        refine lv_ldc2 hx hb hown k29 dX4_append_41 ?_
        refine lv_land hx hb dX4_append_44 ?_
        refine lv_l2i hx hb dX4_append_45 rfl ?_
        obtain ⟨hi, hvc⟩ := hvc
        refine va_iast hx hb hK hP hD hS 1 0 rfl rfl hi dX4_append_46 (fun H locs hP hD hS => ?_)
        have hP : va_P D vwCl [(h_r 0, .inr (4, [.ref (h_d 0), .ref (h_r 2), .ref (h_r 3), .int r_length, .int r_fault, .int r_place, .int r_at, .int r_end, .int r_name])), (h_r 2, .inl (cyI, 900, .inl (upd r_tape (r_length + l4).toNatClampNeg (((l2 >>> (((8 : Int32) * l4).toInt64 &&& 63)) &&& (255 : Int64)).toInt32))))] H := hP
        have hD : va_D A [(h_r 0, .inr (4, [.ref (h_d 0), .ref (h_r 2), .ref (h_r 3), .int r_length, .int r_fault, .int r_place, .int r_at, .int r_end, .int r_name])), (h_r 2, .inl (cyI, 900, .inl (upd r_tape (r_length + l4).toNatClampNeg (((l2 >>> (((8 : Int32) * l4).toInt64 &&& 63)) &&& (255 : Int64)).toInt32))))] := hD
        obtain ⟨v2, ev2⟩ : ∃ y : Int32, y = l4 + (1 : Int32) := ⟨_, rfl⟩
        have hvc := hvc v2 ev2
        refine lv_iinc (v := v2) (lv' := [(4, .int v2), (0, .ref (h_r 0)), (1, .int l1), (2, .long l2)]) hx hb dX4_append_47 hl (k := 3) rfl (by rw [ev2]; rfl) (by decide) rfl (fun ls hl => ?_)
        refine lv_goto (tgt := 17) hx hb dX4_append_50 (by decide) ?_
        exact ih17 r_length (upd r_tape (r_length + l4).toNatClampNeg (((l2 >>> (((8 : Int32) * l4).toInt64 &&& 63)) &&& (255 : Int64)).toInt32)) l1 l2 v2 _ _ _ hvc hP hD hS (lv_sub hl [1, 2, 3, 0] rfl)
  have hl : lv_has ls 5 [(0, .ref (h_r 0)), (1, .int p0), (2, .long p1)] := hl
  refine lv_aload_n hx hb dX4_append_0 rfl (lv_at hl 0 rfl) ?_
  refine va_get (D := D) (ci := 4) (C := RX4) (T := TX4) (N := 9) hx hb hts inX4 hown hK hP 0 rfl rfl 3 (by decide) f26 (fun _ h9 => h9) rfl dX4_append_1 ?_
  refine lv_iload_n hx hb dX4_append_4 rfl (lv_at hl 1 rfl) ?_
  refine lv_iadd hx hb dX4_append_5 ?_
  refine lv_sipush (v := 900) hx hb dX4_append_6 (by decide) ?_
  obtain ⟨hvt, hvf⟩ := hvc
  refine lv_icmp_le (tgt := 14) hx hb dX4_append_9 (by decide) (fun hc => ?_) (fun hc => ?_)
  · have hvc := hvt hc
    refine lv_iconst (v := 0) hx hb dX4_append_14 (by decide) ?_
    refine lv_istore (lv' := [(4, .int (0 : Int32)), (0, .ref (h_r 0)), (1, .int p0), (2, .long p1)]) hx hb dX4_append_15 hl (by decide) rfl (fun ls hl => ?_)
    obtain ⟨n_, hvc⟩ := hvc
    exact w17 n_ r_length r_tape p0 p1 (0 : Int32) _ _ _ hvc hP hD hS (lv_sub hl [1, 2, 3, 0] rfl)
  · have hvc := hvf hc
    refine lv_iconst (v := (-1)) hx hb dX4_append_12 (by decide) ?_
    exact hret (-1 : Int32) (r_length, r_tape) _ _ _ _ hvc hP hD hS dX4_append_13
def v_X4_empty (r_length : Int32)  (Q : Int32 → Int32 → Prop) : Prop := Q r_length (0 : Int32)
theorem hd_X4_empty : yX4_empty.cls = RX4 ∧ yX4_empty.cls ≠ "java/lang/invoke/MethodHandle" ∧ yX4_empty.cls ≠ "java/lang/invoke/VarHandle" ∧ (parseMethodDescriptor yX4_empty.desc).map (fun d => d.parameters.length) = some 0 := by decide +kernel
abbrev rm_X4_empty : Room := { frames := 0, cells := 0, slots := 0, locals := 0 }
set_option maxHeartbeats 4000000 in
set_option maxRecDepth 100000 in
theorem c_X4_empty (l : Launch) (D : va_G) (ts : Nat → Nat) (cyI cyJ cyZ : ClassId) (h_d : Nat → Nat) (h_r : Nat → Nat) (sz : Nat) (r_length : Int32) (r_fault : Int32) (r_place : Int32) (r_at : Int32) (r_end : Int32) (r_name : Int32)  (Q : Int32 → Int32 → Prop) (hvc : v_X4_empty r_length  Q) : Met l yX4_empty wsX4_empty rm_X4_empty (va_Pc [.ref (h_r 0)] (cPre D ts [(cyI, .int), (cyJ, .long), (cyZ, .boolean)] [(h_r 0, .inr (4, [.ref (h_d 0), .ref (h_r 2), .ref (h_r 3), .int r_length, .int r_fault, .int r_place, .int r_at, .int r_end, .int r_name]))] sz)) (va_Qi (fun (r : Int32) (u : Int32) => Q r u) (cPost D [(cyI, .int), (cyJ, .long), (cyZ, .boolean)] (fun (u : Int32) => [(h_r 0, .inr (4, [.ref (h_d 0), .ref (h_r 2), .ref (h_r 3), .int u, .int r_fault, .int r_place, .int r_at, .int r_end, .int r_name]))]) (va_A [(h_r 0, .inr (4, [.ref (h_d 0), .ref (h_r 2), .ref (h_r 3), .int r_length, .int r_fault, .int r_place, .int r_at, .int r_end, .int r_name]))] sz)) (va_A [(h_r 0, .inr (4, [.ref (h_d 0), .ref (h_r 2), .ref (h_r 3), .int r_length, .int r_fault, .int r_place, .int r_at, .int r_end, .int r_name]))] sz)) 0 0 (va_A [(h_r 0, .inr (4, [.ref (h_d 0), .ref (h_r 2), .ref (h_r 3), .int r_length, .int r_fault, .int r_place, .int r_at, .int r_end, .int r_name]))] sz) := by
  refine kEnter_i (cc := cX4_empty) (maxL := 2) (by decide) rfl (Nat.le_of_ble_eq_true rfl) ?_
  intro p e s m args below meth c A ls QQ hx hb hml hown hts hsz hA hP hD hK hE hS hl hret
  clear hsz
  have hown : s.vm.findClass RX4 = some m.cls := hown
  have inX4 : ∀ w ∈ wsX40, w ∈ wsX4_empty := fun _ h => List.mem_cons_of_mem _ (List.mem_append_right _ h)
  have f26 := hts (.fieldLink RX4 26 "ScanTester$Reader" "length" "I") (List.mem_of_getElem? (i := 1) rfl)
  have hl : lv_has ls 2 [(0, .ref (h_r 0))] := hl
  refine lv_aload_n hx hb dX4_empty_0 rfl (lv_at hl 0 rfl) ?_
  refine va_get (D := D) (ci := 4) (C := RX4) (T := TX4) (N := 9) hx hb hts inX4 hown hK hP 0 rfl rfl 3 (by decide) f26 (fun _ h9 => h9) rfl dX4_empty_1 ?_
  refine lv_istore_n (lv' := [(1, .int r_length), (0, .ref (h_r 0))]) hx hb dX4_empty_4 rfl hl (by decide) rfl (fun ls hl => ?_)
  refine lv_aload_n hx hb dX4_empty_5 rfl (lv_at hl 1 rfl) ?_
  refine lv_iconst (v := 0) hx hb dX4_empty_6 (by decide) ?_
  refine va_put (D := D) (ci := 4) (ty := .int) (C := RX4) (T := TX4) (N := 9) hx hb hts inX4 tyX4 tyX4_ok nmX4 hown hK hP hD hS 0 rfl rfl 3 (by decide) f26 (fun _ h9 => h9) rfl (by decide +kernel) rfl rfl (Nat.le_of_ble_eq_true rfl) dX4_empty_7 (fun H locs hP hD hS => ?_)
  have hP : va_P D vwCl [(h_r 0, .inr (4, [.ref (h_d 0), .ref (h_r 2), .ref (h_r 3), .int (0 : Int32), .int r_fault, .int r_place, .int r_at, .int r_end, .int r_name]))] H := hP
  have hD : va_D A [(h_r 0, .inr (4, [.ref (h_d 0), .ref (h_r 2), .ref (h_r 3), .int (0 : Int32), .int r_fault, .int r_place, .int r_at, .int r_end, .int r_name]))] := hD
  refine lv_iload_n hx hb dX4_empty_10 rfl (lv_at hl 0 rfl) ?_
  exact hret r_length (0 : Int32) _ _ _ _ hvc hP hD hS dX4_empty_11
def v_X4_refuse (r_fault : Int32) (r_place : Int32) (p0 : Int32) (p1 : Int32) (Q : Int32 → Int32 → Int32 → Prop) : Prop := Q (0 : Int32) p0 p1
theorem hd_X4_refuse : yX4_refuse.cls = RX4 ∧ yX4_refuse.cls ≠ "java/lang/invoke/MethodHandle" ∧ yX4_refuse.cls ≠ "java/lang/invoke/VarHandle" ∧ (parseMethodDescriptor yX4_refuse.desc).map (fun d => d.parameters.length) = some 2 := by decide +kernel
abbrev rm_X4_refuse : Room := { frames := 0, cells := 0, slots := 0, locals := 0 }
set_option maxHeartbeats 4000000 in
set_option maxRecDepth 100000 in
theorem c_X4_refuse (l : Launch) (D : va_G) (ts : Nat → Nat) (cyI cyJ cyZ : ClassId) (h_d : Nat → Nat) (h_r : Nat → Nat) (sz : Nat) (r_length : Int32) (r_fault : Int32) (r_place : Int32) (r_at : Int32) (r_end : Int32) (r_name : Int32) (p0 : Int32) (p1 : Int32) (Q : Int32 → Int32 → Int32 → Prop) (hvc : v_X4_refuse r_fault r_place p0 p1 Q) : Met l yX4_refuse wsX4_refuse rm_X4_refuse (va_Pc [.ref (h_r 0), .int p0, .int p1] (cPre D ts [(cyI, .int), (cyJ, .long), (cyZ, .boolean)] [(h_r 0, .inr (4, [.ref (h_d 0), .ref (h_r 2), .ref (h_r 3), .int r_length, .int r_fault, .int r_place, .int r_at, .int r_end, .int r_name]))] sz)) (va_Qi (fun (r : Int32) (u : Int32 × Int32) => Q r u.1 u.2) (cPost D [(cyI, .int), (cyJ, .long), (cyZ, .boolean)] (fun (u : Int32 × Int32) => [(h_r 0, .inr (4, [.ref (h_d 0), .ref (h_r 2), .ref (h_r 3), .int r_length, .int (u.1), .int (u.2), .int r_at, .int r_end, .int r_name]))]) (va_A [(h_r 0, .inr (4, [.ref (h_d 0), .ref (h_r 2), .ref (h_r 3), .int r_length, .int r_fault, .int r_place, .int r_at, .int r_end, .int r_name]))] sz)) (va_A [(h_r 0, .inr (4, [.ref (h_d 0), .ref (h_r 2), .ref (h_r 3), .int r_length, .int r_fault, .int r_place, .int r_at, .int r_end, .int r_name]))] sz)) 0 0 (va_A [(h_r 0, .inr (4, [.ref (h_d 0), .ref (h_r 2), .ref (h_r 3), .int r_length, .int r_fault, .int r_place, .int r_at, .int r_end, .int r_name]))] sz) := by
  refine kEnter_z (cc := cX4_refuse) (maxL := 3) (ty := .boolean) (by decide) rfl (Nat.le_of_ble_eq_true rfl) ?_
  intro p e s m args below meth c A ls QQ hx hb hml hown hts hsz hA hP hD hK hE hS hl hret
  clear hsz
  have hown : s.vm.findClass RX4 = some m.cls := hown
  have inX4 : ∀ w ∈ wsX40, w ∈ wsX4_refuse := fun _ h => List.mem_cons_of_mem _ (List.mem_append_right _ h)
  have f42 := hts (.fieldLink RX4 42 "ScanTester$Reader" "fault" "I") (List.mem_of_getElem? (i := 1) rfl)
  have f18 := hts (.fieldLink RX4 18 "ScanTester$Reader" "place" "I") (List.mem_of_getElem? (i := 2) rfl)
  have hl : lv_has ls 3 [(0, .ref (h_r 0)), (1, .int p0), (2, .int p1)] := hl
  refine lv_aload_n hx hb dX4_refuse_0 rfl (lv_at hl 0 rfl) ?_
  refine lv_iload_n hx hb dX4_refuse_1 rfl (lv_at hl 1 rfl) ?_
  refine va_put (D := D) (ci := 4) (ty := .int) (C := RX4) (T := TX4) (N := 9) hx hb hts inX4 tyX4 tyX4_ok nmX4 hown hK hP hD hS 0 rfl rfl 4 (by decide) f42 (fun _ h9 => h9) rfl (by decide +kernel) rfl rfl (Nat.le_of_ble_eq_true rfl) dX4_refuse_2 (fun H locs hP hD hS => ?_)
  have hP : va_P D vwCl [(h_r 0, .inr (4, [.ref (h_d 0), .ref (h_r 2), .ref (h_r 3), .int r_length, .int p0, .int r_place, .int r_at, .int r_end, .int r_name]))] H := hP
  have hD : va_D A [(h_r 0, .inr (4, [.ref (h_d 0), .ref (h_r 2), .ref (h_r 3), .int r_length, .int p0, .int r_place, .int r_at, .int r_end, .int r_name]))] := hD
  refine lv_aload_n hx hb dX4_refuse_5 rfl (lv_at hl 0 rfl) ?_
  refine lv_iload_n hx hb dX4_refuse_6 rfl (lv_at hl 2 rfl) ?_
  refine va_put (D := D) (ci := 4) (ty := .int) (C := RX4) (T := TX4) (N := 9) hx hb hts inX4 tyX4 tyX4_ok nmX4 hown hK hP hD hS 0 rfl rfl 5 (by decide) f18 (fun _ h9 => h9) rfl (by decide +kernel) rfl rfl (Nat.le_of_ble_eq_true rfl) dX4_refuse_7 (fun H locs hP hD hS => ?_)
  have hP : va_P D vwCl [(h_r 0, .inr (4, [.ref (h_d 0), .ref (h_r 2), .ref (h_r 3), .int r_length, .int p0, .int p1, .int r_at, .int r_end, .int r_name]))] H := hP
  have hD : va_D A [(h_r 0, .inr (4, [.ref (h_d 0), .ref (h_r 2), .ref (h_r 3), .int r_length, .int p0, .int p1, .int r_at, .int r_end, .int r_name]))] := hD
  refine lv_iconst (v := 0) hx hb dX4_refuse_10 (by decide) ?_
  exact hret (0 : Int32) (p0, p1) _ _ _ _ rfl hvc hP hD hS dX4_refuse_11
def v_X4_isWordByte_b24  (Q : Int32 → Prop)  : Prop := Q (1 : Int32) 
def v_X4_isWordByte_b12  (Q : Int32 → Prop)  : Int32 → Prop := fun (l0 : Int32) => (l0 < (48 : Int32) → Q (0 : Int32) ) ∧ (¬ l0 < (48 : Int32) → ((57 : Int32) < l0 → Q (0 : Int32) ) ∧ (¬ (57 : Int32) < l0 → v_X4_isWordByte_b24 Q  ))
def v_X4_isWordByte  (p0 : Int32) (Q : Int32 → Prop) : Prop := (p0 < (97 : Int32) → v_X4_isWordByte_b12 Q  p0) ∧ (¬ p0 < (97 : Int32) → (p0 ≤ (122 : Int32) → v_X4_isWordByte_b24 Q  ) ∧ (¬ p0 ≤ (122 : Int32) → v_X4_isWordByte_b12 Q  p0))
theorem hd_X4_isWordByte : yX4_isWordByte.cls ≠ "java/lang/invoke/MethodHandle" ∧ yX4_isWordByte.cls ≠ "java/lang/invoke/VarHandle" ∧ (parseMethodDescriptor yX4_isWordByte.desc).map (fun d => d.parameters.length) = some 1 := by decide +kernel
abbrev rm_X4_isWordByte : Room := { frames := 0, cells := 0, slots := 0, locals := 0 }
set_option maxHeartbeats 4000000 in
set_option maxRecDepth 100000 in
theorem c_X4_isWordByte (l : Launch) (D : va_G) (ts : Nat → Nat) (cyI cyJ cyZ : ClassId)  (sz : Nat)  (p0 : Int32) (Q : Int32 → Prop) (hvc : v_X4_isWordByte  p0 Q) : Met l yX4_isWordByte wsX4_isWordByte rm_X4_isWordByte (va_Pc [.int p0] (cPre D ts [(cyI, .int), (cyJ, .long), (cyZ, .boolean)] [] sz)) (va_Qi (fun (r : Int32) (u : Unit) => Q r ) (cPost D [(cyI, .int), (cyJ, .long), (cyZ, .boolean)] (fun (u : Unit) => []) (va_A [] sz)) (va_A [] sz)) 0 0 (va_A [] sz) := by
  refine kEnter_z (cc := cX4_isWordByte) (maxL := 1) (ty := .boolean) (by decide) rfl (Nat.le_of_ble_eq_true rfl) ?_
  intro p e s m args below meth c A ls QQ hx hb hml hown hts hsz hA hP hD hK hE hS hl hret
  clear hsz
  have hown : s.vm.findClass RX4 = some m.cls := hown
  have w24 : ∀  (H : Heap) (locs : List Loc) (ls : Array Slot), v_X4_isWordByte_b24 Q   → va_P D vwCl [] H → va_D A [] → va_S A s.heap H locs → lv_has ls 1 [] → W p l e rm_X4_isWordByte s m args below meth c H locs 0 0 QQ (F0 m 24 ls []) := by
    intro  H locs ls hvc hP hD hS hl
    refine lv_iconst (v := 1) hx hb dX4_isWordByte_24 (by decide) ?_
    refine lv_goto (tgt := 29) hx hb dX4_isWordByte_25 (by decide) ?_
    exact hret (1 : Int32) () _ _ _ _ rfl hvc hP hD hS dX4_isWordByte_29
  have w12 : ∀ (l0 : Int32) (H : Heap) (locs : List Loc) (ls : Array Slot), v_X4_isWordByte_b12 Q  l0 → va_P D vwCl [] H → va_D A [] → va_S A s.heap H locs → lv_has ls 1 [(0, .int l0)] → W p l e rm_X4_isWordByte s m args below meth c H locs 0 0 QQ (F0 m 12 ls []) := by
    intro l0 H locs ls hvc hP hD hS hl
    refine lv_iload_n hx hb dX4_isWordByte_12 rfl (lv_at hl 0 rfl) ?_
    refine lv_bipush (v := 48) hx hb dX4_isWordByte_13 (by decide) ?_
    obtain ⟨hvt, hvf⟩ := hvc
    refine lv_icmp_lt (tgt := 28) hx hb dX4_isWordByte_15 (by decide) (fun hc => ?_) (fun hc => ?_)
    · have hvc := hvt hc
      refine lv_iconst (v := 0) hx hb dX4_isWordByte_28 (by decide) ?_
      exact hret (0 : Int32) () _ _ _ _ rfl hvc hP hD hS dX4_isWordByte_29
    · have hvc := hvf hc
      refine lv_iload_n hx hb dX4_isWordByte_18 rfl (lv_at hl 0 rfl) ?_
      refine lv_bipush (v := 57) hx hb dX4_isWordByte_19 (by decide) ?_
      obtain ⟨hvt, hvf⟩ := hvc
      refine lv_icmp_gt (tgt := 28) hx hb dX4_isWordByte_21 (by decide) (fun hc => ?_) (fun hc => ?_)
      · have hvc := hvt hc
        refine lv_iconst (v := 0) hx hb dX4_isWordByte_28 (by decide) ?_
        exact hret (0 : Int32) () _ _ _ _ rfl hvc hP hD hS dX4_isWordByte_29
      · have hvc := hvf hc
        exact w24  _ _ _ hvc hP hD hS (lv_sub hl [] rfl)
  have hl : lv_has ls 1 [(0, .int p0)] := hl
  refine lv_iload_n hx hb dX4_isWordByte_0 rfl (lv_at hl 0 rfl) ?_
  refine lv_bipush (v := 97) hx hb dX4_isWordByte_1 (by decide) ?_
  obtain ⟨hvt, hvf⟩ := hvc
  refine lv_icmp_lt (tgt := 12) hx hb dX4_isWordByte_3 (by decide) (fun hc => ?_) (fun hc => ?_)
  · have hvc := hvt hc
    exact w12 p0 _ _ _ hvc hP hD hS (lv_sub hl [0] rfl)
  · have hvc := hvf hc
    refine lv_iload_n hx hb dX4_isWordByte_6 rfl (lv_at hl 0 rfl) ?_
    refine lv_bipush (v := 122) hx hb dX4_isWordByte_7 (by decide) ?_
    obtain ⟨hvt, hvf⟩ := hvc
    refine lv_icmp_le (tgt := 24) hx hb dX4_isWordByte_9 (by decide) (fun hc => ?_) (fun hc => ?_)
    · have hvc := hvt hc
      exact w24  _ _ _ hvc hP hD hS (lv_sub hl [] rfl)
    · have hvc := hvf hc
      exact w12 p0 _ _ _ hvc hP hD hS (lv_sub hl [0] rfl)
def v_X4_nameHere (r_at : Int32) (r_end : Int32) (r_tape : Nat → Int32)  (Q : Int32 → Prop) : Prop := ∀ v1 : Int32, v1 = r_end - r_at → (v1 < (1 : Int32) → Q (-1 : Int32) ) ∧ (¬ v1 < (1 : Int32) → ((2 : Int32) < v1 → Q (-1 : Int32) ) ∧ (¬ (2 : Int32) < v1 → vp_in r_at 900 ∧ ((97 : Int32) ≤ (r_tape r_at.toNatClampNeg) → vp_in r_at 900 ∧ ∀ v2 : Int32, v2 = ((r_tape r_at.toNatClampNeg) - (97 : Int32)) * (11 : Int32) → (¬ v1 = (1 : Int32) → vp_in (r_at + (1 : Int32)) 900 ∧ ((97 : Int32) ≤ (r_tape (r_at + (1 : Int32)).toNatClampNeg) → Q (-1 : Int32) ) ∧ (¬ (97 : Int32) ≤ (r_tape (r_at + (1 : Int32)).toNatClampNeg) → vp_in (r_at + (1 : Int32)) 900 ∧ Q (((v2 + (1 : Int32)) + (r_tape (r_at + (1 : Int32)).toNatClampNeg)) - (48 : Int32)) )) ∧ (v1 = (1 : Int32) → Q v2 )) ∧ (¬ (97 : Int32) ≤ (r_tape r_at.toNatClampNeg) → Q (-1 : Int32) )))
theorem hd_X4_nameHere : yX4_nameHere.cls = RX4 ∧ yX4_nameHere.cls ≠ "java/lang/invoke/MethodHandle" ∧ yX4_nameHere.cls ≠ "java/lang/invoke/VarHandle" ∧ (parseMethodDescriptor yX4_nameHere.desc).map (fun d => d.parameters.length) = some 0 := by decide +kernel
abbrev rm_X4_nameHere : Room := { frames := 0, cells := 0, slots := 0, locals := 0 }
set_option maxHeartbeats 4000000 in
set_option maxRecDepth 100000 in
theorem c_X4_nameHere (l : Launch) (D : va_G) (ts : Nat → Nat) (cyI cyJ cyZ : ClassId) (h_d : Nat → Nat) (h_r : Nat → Nat) (sz : Nat) (r_length : Int32) (r_fault : Int32) (r_place : Int32) (r_at : Int32) (r_end : Int32) (r_name : Int32) (r_tape : Nat → Int32)  (Q : Int32 → Prop) (hvc : v_X4_nameHere r_at r_end r_tape  Q) : Met l yX4_nameHere wsX4_nameHere rm_X4_nameHere (va_Pc [.ref (h_r 0)] (cPre D ts [(cyI, .int), (cyJ, .long), (cyZ, .boolean)] [(h_r 0, .inr (4, [.ref (h_d 0), .ref (h_r 2), .ref (h_r 3), .int r_length, .int r_fault, .int r_place, .int r_at, .int r_end, .int r_name])), (h_r 2, .inl (cyI, 900, .inl r_tape))] sz)) (va_Qi (fun (r : Int32) (u : Unit) => Q r ) (cPost D [(cyI, .int), (cyJ, .long), (cyZ, .boolean)] (fun (u : Unit) => [(h_r 0, .inr (4, [.ref (h_d 0), .ref (h_r 2), .ref (h_r 3), .int r_length, .int r_fault, .int r_place, .int r_at, .int r_end, .int r_name])), (h_r 2, .inl (cyI, 900, .inl r_tape))]) (va_A [(h_r 0, .inr (4, [.ref (h_d 0), .ref (h_r 2), .ref (h_r 3), .int r_length, .int r_fault, .int r_place, .int r_at, .int r_end, .int r_name])), (h_r 2, .inl (cyI, 900, .inl r_tape))] sz)) (va_A [(h_r 0, .inr (4, [.ref (h_d 0), .ref (h_r 2), .ref (h_r 3), .int r_length, .int r_fault, .int r_place, .int r_at, .int r_end, .int r_name])), (h_r 2, .inl (cyI, 900, .inl r_tape))] sz)) 0 0 (va_A [(h_r 0, .inr (4, [.ref (h_d 0), .ref (h_r 2), .ref (h_r 3), .int r_length, .int r_fault, .int r_place, .int r_at, .int r_end, .int r_name])), (h_r 2, .inl (cyI, 900, .inl r_tape))] sz) := by
  refine kEnter_i (cc := cX4_nameHere) (maxL := 3) (by decide) rfl (Nat.le_of_ble_eq_true rfl) ?_
  intro p e s m args below meth c A ls QQ hx hb hml hown hts hsz hA hP hD hK hE hS hl hret
  clear hsz
  have hown : s.vm.findClass RX4 = some m.cls := hown
  have inX4 : ∀ w ∈ wsX40, w ∈ wsX4_nameHere := fun _ h => List.mem_cons_of_mem _ (List.mem_append_right _ h)
  have f45 := hts (.fieldLink RX4 45 "ScanTester$Reader" "end" "I") (List.mem_of_getElem? (i := 1) rfl)
  have f75 := hts (.fieldLink RX4 75 "ScanTester$Reader" "at" "I") (List.mem_of_getElem? (i := 2) rfl)
  have f11 := hts (.fieldLink RX4 11 "ScanTester$Reader" "tape" "[I") (List.mem_of_getElem? (i := 3) rfl)
  have hl : lv_has ls 3 [(0, .ref (h_r 0))] := hl
  refine lv_aload_n hx hb dX4_nameHere_0 rfl (lv_at hl 0 rfl) ?_
  refine va_get (D := D) (ci := 4) (C := RX4) (T := TX4) (N := 9) hx hb hts inX4 hown hK hP 0 rfl rfl 7 (by decide) f45 (fun _ h9 => h9) rfl dX4_nameHere_1 ?_
  refine lv_aload_n hx hb dX4_nameHere_4 rfl (lv_at hl 0 rfl) ?_
  refine va_get (D := D) (ci := 4) (C := RX4) (T := TX4) (N := 9) hx hb hts inX4 hown hK hP 0 rfl rfl 6 (by decide) f75 (fun _ h9 => h9) rfl dX4_nameHere_5 ?_
  refine lv_isub hx hb dX4_nameHere_8 ?_
  refine lv_topi (fun v1 ev1 => ?_)
  have hvc := hvc v1 ev1
  refine lv_istore_n (lv' := [(1, .int v1), (0, .ref (h_r 0))]) hx hb dX4_nameHere_9 rfl hl (by decide) rfl (fun ls hl => ?_)
  refine lv_iload_n hx hb dX4_nameHere_10 rfl (lv_at hl 0 rfl) ?_
  refine lv_iconst (v := 1) hx hb dX4_nameHere_11 (by decide) ?_
  obtain ⟨hvt, hvf⟩ := hvc
  refine lv_icmp_lt (tgt := 34) hx hb dX4_nameHere_12 (by decide) (fun hc => ?_) (fun hc => ?_)
  · have hvc := hvt hc
    refine lv_iconst (v := (-1)) hx hb dX4_nameHere_34 (by decide) ?_
    exact hret (-1 : Int32) () _ _ _ _ hvc hP hD hS dX4_nameHere_35
  · have hvc := hvf hc
    refine lv_iload_n hx hb dX4_nameHere_15 rfl (lv_at hl 0 rfl) ?_
    refine lv_iconst (v := 2) hx hb dX4_nameHere_16 (by decide) ?_
    obtain ⟨hvt, hvf⟩ := hvc
    refine lv_icmp_gt (tgt := 34) hx hb dX4_nameHere_17 (by decide) (fun hc => ?_) (fun hc => ?_)
    · have hvc := hvt hc
      refine lv_iconst (v := (-1)) hx hb dX4_nameHere_34 (by decide) ?_
      exact hret (-1 : Int32) () _ _ _ _ hvc hP hD hS dX4_nameHere_35
    · have hvc := hvf hc
      refine lv_aload_n hx hb dX4_nameHere_20 rfl (lv_at hl 1 rfl) ?_
      refine va_get (D := D) (ci := 4) (C := RX4) (T := TX4) (N := 9) hx hb hts inX4 hown hK hP 0 rfl rfl 1 (by decide) f11 (fun _ h9 => h9) rfl dX4_nameHere_21 ?_
      refine lv_aload_n hx hb dX4_nameHere_24 rfl (lv_at hl 1 rfl) ?_
      refine va_get (D := D) (ci := 4) (C := RX4) (T := TX4) (N := 9) hx hb hts inX4 hown hK hP 0 rfl rfl 6 (by decide) f75 (fun _ h9 => h9) rfl dX4_nameHere_25 ?_
      obtain ⟨hi, hvc⟩ := hvc
      refine va_iald hx hb hK hP 1 0 rfl rfl hi dX4_nameHere_28 ?_
      refine lv_bipush (v := 97) hx hb dX4_nameHere_29 (by decide) ?_
      obtain ⟨hvt, hvf⟩ := hvc
      refine lv_icmp_ge (tgt := 36) hx hb dX4_nameHere_31 (by decide) (fun hc => ?_) (fun hc => ?_)
      · have hvc := hvt hc
        refine lv_aload_n hx hb dX4_nameHere_36 rfl (lv_at hl 1 rfl) ?_
        refine va_get (D := D) (ci := 4) (C := RX4) (T := TX4) (N := 9) hx hb hts inX4 hown hK hP 0 rfl rfl 1 (by decide) f11 (fun _ h9 => h9) rfl dX4_nameHere_37 ?_
        refine lv_aload_n hx hb dX4_nameHere_40 rfl (lv_at hl 1 rfl) ?_
        refine va_get (D := D) (ci := 4) (C := RX4) (T := TX4) (N := 9) hx hb hts inX4 hown hK hP 0 rfl rfl 6 (by decide) f75 (fun _ h9 => h9) rfl dX4_nameHere_41 ?_
        obtain ⟨hi, hvc⟩ := hvc
        refine va_iald hx hb hK hP 1 0 rfl rfl hi dX4_nameHere_44 ?_
        refine lv_bipush (v := 97) hx hb dX4_nameHere_45 (by decide) ?_
        refine lv_isub hx hb dX4_nameHere_47 ?_
        refine lv_bipush (v := 11) hx hb dX4_nameHere_48 (by decide) ?_
        refine lv_imul hx hb dX4_nameHere_50 ?_
        refine lv_topi (fun v2 ev2 => ?_)
        have hvc := hvc v2 ev2
        refine lv_istore_n (lv' := [(2, .int v2), (1, .int v1), (0, .ref (h_r 0))]) hx hb dX4_nameHere_51 rfl hl (by decide) rfl (fun ls hl => ?_)
        refine lv_iload_n hx hb dX4_nameHere_52 rfl (lv_at hl 1 rfl) ?_
        refine lv_iconst (v := 1) hx hb dX4_nameHere_53 (by decide) ?_
        obtain ⟨hvt, hvf⟩ := hvc
        refine lv_icmp_ne (tgt := 59) hx hb dX4_nameHere_54 (by decide) (fun hc => ?_) (fun hc => ?_)
        · have hvc := hvt hc
          refine lv_aload_n hx hb dX4_nameHere_59 rfl (lv_at hl 2 rfl) ?_
          refine va_get (D := D) (ci := 4) (C := RX4) (T := TX4) (N := 9) hx hb hts inX4 hown hK hP 0 rfl rfl 1 (by decide) f11 (fun _ h9 => h9) rfl dX4_nameHere_60 ?_
          refine lv_aload_n hx hb dX4_nameHere_63 rfl (lv_at hl 2 rfl) ?_
          refine va_get (D := D) (ci := 4) (C := RX4) (T := TX4) (N := 9) hx hb hts inX4 hown hK hP 0 rfl rfl 6 (by decide) f75 (fun _ h9 => h9) rfl dX4_nameHere_64 ?_
          refine lv_iconst (v := 1) hx hb dX4_nameHere_67 (by decide) ?_
          refine lv_iadd hx hb dX4_nameHere_68 ?_
          obtain ⟨hi, hvc⟩ := hvc
          refine va_iald hx hb hK hP 1 0 rfl rfl hi dX4_nameHere_69 ?_
          refine lv_bipush (v := 97) hx hb dX4_nameHere_70 (by decide) ?_
          obtain ⟨hvt, hvf⟩ := hvc
          refine lv_icmp_ge (tgt := 96) hx hb dX4_nameHere_72 (by decide) (fun hc => ?_) (fun hc => ?_)
          · have hvc := hvt hc
            refine lv_iconst (v := (-1)) hx hb dX4_nameHere_96 (by decide) ?_
            exact hret (-1 : Int32) () _ _ _ _ hvc hP hD hS dX4_nameHere_97
          · have hvc := hvf hc
            refine lv_iload_n hx hb dX4_nameHere_75 rfl (lv_at hl 0 rfl) ?_
            refine lv_iconst (v := 1) hx hb dX4_nameHere_76 (by decide) ?_
            refine lv_iadd hx hb dX4_nameHere_77 ?_
            refine lv_aload_n hx hb dX4_nameHere_78 rfl (lv_at hl 2 rfl) ?_
            refine va_get (D := D) (ci := 4) (C := RX4) (T := TX4) (N := 9) hx hb hts inX4 hown hK hP 0 rfl rfl 1 (by decide) f11 (fun _ h9 => h9) rfl dX4_nameHere_79 ?_
            refine lv_aload_n hx hb dX4_nameHere_82 rfl (lv_at hl 2 rfl) ?_
            refine va_get (D := D) (ci := 4) (C := RX4) (T := TX4) (N := 9) hx hb hts inX4 hown hK hP 0 rfl rfl 6 (by decide) f75 (fun _ h9 => h9) rfl dX4_nameHere_83 ?_
            refine lv_iconst (v := 1) hx hb dX4_nameHere_86 (by decide) ?_
            refine lv_iadd hx hb dX4_nameHere_87 ?_
            obtain ⟨hi, hvc⟩ := hvc
            refine va_iald hx hb hK hP 1 0 rfl rfl hi dX4_nameHere_88 ?_
            refine lv_iadd hx hb dX4_nameHere_89 ?_
            refine lv_bipush (v := 48) hx hb dX4_nameHere_90 (by decide) ?_
            refine lv_isub hx hb dX4_nameHere_92 ?_
            refine lv_goto (tgt := 97) hx hb dX4_nameHere_93 (by decide) ?_
            exact hret (((v2 + (1 : Int32)) + (r_tape (r_at + (1 : Int32)).toNatClampNeg)) - (48 : Int32)) () _ _ _ _ hvc hP hD hS dX4_nameHere_97
        · have hvc := hvf hc
          refine lv_iload_n hx hb dX4_nameHere_57 rfl (lv_at hl 0 rfl) ?_
          exact hret v2 () _ _ _ _ hvc hP hD hS dX4_nameHere_58
      · have hvc := hvf hc
        refine lv_iconst (v := (-1)) hx hb dX4_nameHere_34 (by decide) ?_
        exact hret (-1 : Int32) () _ _ _ _ hvc hP hD hS dX4_nameHere_35
def v_X4_advance_b93 (r_length : Int32) (r_tape : Nat → Int32) (Q : Int32 → Int32 → Int32 → Prop)  : Int32 → Int32 → Int32 → Prop := fun (r_at : Int32) (r_end : Int32) (r_name : Int32) => v_X4_nameHere  r_at r_end r_tape (fun (r1 : Int32) => (¬ r_end = r_at → Q r_at r_end r1) ∧ (r_end = r_at → (r_length ≤ r_at → Q r_at r_end r1) ∧ (¬ r_length ≤ r_at → ∀ v2 : Int32, v2 = r_end + (1 : Int32) → Q r_at v2 r1)))
def v_X4_advance_b54 (r_length : Int32) (r_tape : Nat → Int32) (Q : Int32 → Int32 → Int32 → Prop)  : Nat → Int32 → Int32 → Int32 → Prop
  | 0 => fun _ _ _ => False
  | z54_ + 1 => fun (r_at : Int32) (r_end : Int32) (r_name : Int32) => (r_length ≤ r_end → v_X4_advance_b93 r_length r_tape Q  r_at r_end r_name) ∧ (¬ r_length ≤ r_end → vp_in r_end 900 ∧ v_X4_isWordByte   (r_tape r_end.toNatClampNeg) (fun (r3 : Int32) => (r3 = (0) → v_X4_advance_b93 r_length r_tape Q  r_at r_end r_name) ∧ (¬ r3 = (0) → ∀ v4 : Int32, v4 = r_end + (1 : Int32) → (v_X4_advance_b54 r_length r_tape Q  z54_) r_at v4 r_name)))
def v_X4_advance_b46 (r_length : Int32) (r_tape : Nat → Int32) (Q : Int32 → Int32 → Int32 → Prop)  : Int32 → Int32 → Int32 → Prop := fun (r_at : Int32) (r_end : Int32) (r_name : Int32) => (∃ f54 : Nat, v_X4_advance_b54 r_length r_tape Q  f54 r_at r_at r_name)
def v_X4_advance_b8 (r_length : Int32) (r_tape : Nat → Int32) (Q : Int32 → Int32 → Int32 → Prop)  : Nat → Int32 → Int32 → Int32 → Prop
  | 0 => fun _ _ _ => False
  | z8_ + 1 => fun (r_at : Int32) (r_end : Int32) (r_name : Int32) => (r_length ≤ r_at → v_X4_advance_b46 r_length r_tape Q  r_at r_end r_name) ∧ (¬ r_length ≤ r_at → vp_in r_at 900 ∧ ((32 : Int32) < (r_tape r_at.toNatClampNeg) → v_X4_advance_b46 r_length r_tape Q  r_at r_end r_name) ∧ (¬ (32 : Int32) < (r_tape r_at.toNatClampNeg) → ∀ v5 : Int32, v5 = r_at + (1 : Int32) → (v_X4_advance_b8 r_length r_tape Q  z8_) v5 r_end r_name))
def v_X4_advance (r_length : Int32) (r_at : Int32) (r_end : Int32) (r_name : Int32) (r_tape : Nat → Int32)  (Q : Int32 → Int32 → Int32 → Prop) : Prop := (∃ f8 : Nat, v_X4_advance_b8 r_length r_tape Q  f8 r_end r_end r_name)
theorem hd_X4_advance : yX4_advance.cls = RX4 ∧ yX4_advance.cls ≠ "java/lang/invoke/MethodHandle" ∧ yX4_advance.cls ≠ "java/lang/invoke/VarHandle" ∧ (parseMethodDescriptor yX4_advance.desc).map (fun d => d.parameters.length) = some 0 := by decide +kernel
abbrev rm_X4_advance : Room := { frames := 1, cells := 0, slots := 0, locals := 22 }
set_option maxHeartbeats 4000000 in
set_option maxRecDepth 100000 in
theorem c_X4_advance (l : Launch) (D : va_G) (ts : Nat → Nat) (cyI cyJ cyZ : ClassId) (h_d : Nat → Nat) (h_r : Nat → Nat) (sz : Nat) (r_length : Int32) (r_fault : Int32) (r_place : Int32) (r_at : Int32) (r_end : Int32) (r_name : Int32) (r_tape : Nat → Int32)  (Q : Int32 → Int32 → Int32 → Prop) (hvc : v_X4_advance r_length r_at r_end r_name r_tape  Q) : Met l yX4_advance wsX4_advance rm_X4_advance (va_Pc [.ref (h_r 0)] (cPre D ts [(cyI, .int), (cyJ, .long), (cyZ, .boolean)] [(h_r 0, .inr (4, [.ref (h_d 0), .ref (h_r 2), .ref (h_r 3), .int r_length, .int r_fault, .int r_place, .int r_at, .int r_end, .int r_name])), (h_r 2, .inl (cyI, 900, .inl r_tape))] sz)) (va_Qv (fun (u : Int32 × Int32 × Int32) => Q u.1 u.2.1 u.2.2) (cPost D [(cyI, .int), (cyJ, .long), (cyZ, .boolean)] (fun (u : Int32 × Int32 × Int32) => [(h_r 0, .inr (4, [.ref (h_d 0), .ref (h_r 2), .ref (h_r 3), .int r_length, .int r_fault, .int r_place, .int (u.1), .int (u.2.1), .int (u.2.2)])), (h_r 2, .inl (cyI, 900, .inl r_tape))]) (va_A [(h_r 0, .inr (4, [.ref (h_d 0), .ref (h_r 2), .ref (h_r 3), .int r_length, .int r_fault, .int r_place, .int r_at, .int r_end, .int r_name])), (h_r 2, .inl (cyI, 900, .inl r_tape))] sz)) (va_A [(h_r 0, .inr (4, [.ref (h_d 0), .ref (h_r 2), .ref (h_r 3), .int r_length, .int r_fault, .int r_place, .int r_at, .int r_end, .int r_name])), (h_r 2, .inl (cyI, 900, .inl r_tape))] sz)) 0 0 (va_A [(h_r 0, .inr (4, [.ref (h_d 0), .ref (h_r 2), .ref (h_r 3), .int r_length, .int r_fault, .int r_place, .int r_at, .int r_end, .int r_name])), (h_r 2, .inl (cyI, 900, .inl r_tape))] sz) := by
  refine kEnter_v (cc := cX4_advance) (maxL := 1) (by decide) rfl (Nat.le_of_ble_eq_true rfl) ?_
  intro p e s m args below meth c A ls QQ hx hb hml hown hts hsz hA hP hD hK hE hS hl hret
  clear hsz
  have hown : s.vm.findClass RX4 = some m.cls := hown
  have inX4 : ∀ w ∈ wsX40, w ∈ wsX4_advance := fun _ h => List.mem_cons_of_mem _ (List.mem_append_right _ h)
  have f86 := hts (.fieldLink RX4 86 "ScanTester$Reader" "name" "I") (List.mem_of_getElem? (i := 5) rfl)
  have f45 := hts (.fieldLink RX4 45 "ScanTester$Reader" "end" "I") (List.mem_of_getElem? (i := 1) rfl)
  have f75 := hts (.fieldLink RX4 75 "ScanTester$Reader" "at" "I") (List.mem_of_getElem? (i := 2) rfl)
  have f26 := hts (.fieldLink RX4 26 "ScanTester$Reader" "length" "I") (List.mem_of_getElem? (i := 3) rfl)
  have f11 := hts (.fieldLink RX4 11 "ScanTester$Reader" "tape" "[I") (List.mem_of_getElem? (i := 4) rfl)
  have w8 : ∀ (n8_ : Nat) (r_at : Int32) (r_end : Int32) (r_name : Int32) (H : Heap) (locs : List Loc) (ls : Array Slot), v_X4_advance_b8 r_length r_tape Q  n8_ r_at r_end r_name → va_P D vwCl [(h_r 0, .inr (4, [.ref (h_d 0), .ref (h_r 2), .ref (h_r 3), .int r_length, .int r_fault, .int r_place, .int r_at, .int r_end, .int r_name])), (h_r 2, .inl (cyI, 900, .inl r_tape))] H → va_D A [(h_r 0, .inr (4, [.ref (h_d 0), .ref (h_r 2), .ref (h_r 3), .int r_length, .int r_fault, .int r_place, .int r_at, .int r_end, .int r_name])), (h_r 2, .inl (cyI, 900, .inl r_tape))] → va_S A s.heap H locs → lv_has ls 1 [(0, .ref (h_r 0))] → W p l e rm_X4_advance s m args below meth c H locs 0 0 QQ (F0 m 8 ls []) := by
    intro n8_
    induction n8_ with
    | zero =>
      intro r_at r_end r_name H locs ls hvc hP hD hS hl
      exact False.elim hvc
    | succ n8_ ih8 =>
      have w46 : ∀ (r_at : Int32) (r_end : Int32) (r_name : Int32) (H : Heap) (locs : List Loc) (ls : Array Slot), v_X4_advance_b46 r_length r_tape Q  r_at r_end r_name → va_P D vwCl [(h_r 0, .inr (4, [.ref (h_d 0), .ref (h_r 2), .ref (h_r 3), .int r_length, .int r_fault, .int r_place, .int r_at, .int r_end, .int r_name])), (h_r 2, .inl (cyI, 900, .inl r_tape))] H → va_D A [(h_r 0, .inr (4, [.ref (h_d 0), .ref (h_r 2), .ref (h_r 3), .int r_length, .int r_fault, .int r_place, .int r_at, .int r_end, .int r_name])), (h_r 2, .inl (cyI, 900, .inl r_tape))] → va_S A s.heap H locs → lv_has ls 1 [(0, .ref (h_r 0))] → W p l e rm_X4_advance s m args below meth c H locs 0 0 QQ (F0 m 46 ls []) := by
        have w54 : ∀ (n54_ : Nat) (r_at : Int32) (r_end : Int32) (r_name : Int32) (H : Heap) (locs : List Loc) (ls : Array Slot), v_X4_advance_b54 r_length r_tape Q  n54_ r_at r_end r_name → va_P D vwCl [(h_r 0, .inr (4, [.ref (h_d 0), .ref (h_r 2), .ref (h_r 3), .int r_length, .int r_fault, .int r_place, .int r_at, .int r_end, .int r_name])), (h_r 2, .inl (cyI, 900, .inl r_tape))] H → va_D A [(h_r 0, .inr (4, [.ref (h_d 0), .ref (h_r 2), .ref (h_r 3), .int r_length, .int r_fault, .int r_place, .int r_at, .int r_end, .int r_name])), (h_r 2, .inl (cyI, 900, .inl r_tape))] → va_S A s.heap H locs → lv_has ls 1 [(0, .ref (h_r 0))] → W p l e rm_X4_advance s m args below meth c H locs 0 0 QQ (F0 m 54 ls []) := by
          intro n54_
          induction n54_ with
          | zero =>
            intro r_at r_end r_name H locs ls hvc hP hD hS hl
            exact False.elim hvc
          | succ n54_ ih54 =>
            have w93 : ∀ (r_at : Int32) (r_end : Int32) (r_name : Int32) (H : Heap) (locs : List Loc) (ls : Array Slot), v_X4_advance_b93 r_length r_tape Q  r_at r_end r_name → va_P D vwCl [(h_r 0, .inr (4, [.ref (h_d 0), .ref (h_r 2), .ref (h_r 3), .int r_length, .int r_fault, .int r_place, .int r_at, .int r_end, .int r_name])), (h_r 2, .inl (cyI, 900, .inl r_tape))] H → va_D A [(h_r 0, .inr (4, [.ref (h_d 0), .ref (h_r 2), .ref (h_r 3), .int r_length, .int r_fault, .int r_place, .int r_at, .int r_end, .int r_name])), (h_r 2, .inl (cyI, 900, .inl r_tape))] → va_S A s.heap H locs → lv_has ls 1 [(0, .ref (h_r 0))] → W p l e rm_X4_advance s m args below meth c H locs 0 0 QQ (F0 m 93 ls []) := by
              intro r_at r_end r_name H locs ls hvc hP hD hS hl
              delta v_X4_advance_b93 at hvc
              refine lv_aload_n hx hb dX4_advance_93 rfl (lv_at hl 0 rfl) ?_
              refine lv_aload_n hx hb dX4_advance_94 rfl (lv_at hl 0 rfl) ?_
              refine kV_i (wc := [(h_r 0, .inr (4, [.ref (h_d 0), .ref (h_r 2), .ref (h_r 3), .int r_length, .int r_fault, .int r_place, .int r_at, .int r_end, .int r_name])), (h_r 2, .inl (cyI, 900, .inl r_tape))]) (wr := []) (As := []) (rest := [.ref (h_r 0)]) ⟨hx, hb, hml, hown, hts⟩ hP hD hK hE hS hA [0, 1] [] rfl rfl (by decide) (by decide) (by decide) (c_X4_nameHere l D ts cyI cyJ cyZ h_d h_r _ r_length r_fault r_place r_at r_end r_name r_tape _ hvc) (cwV 0 hts gX4_advance_X4_nameHere rfl rfl rfl hd_X4_nameHere ⟨Nat.le_of_ble_eq_true rfl, Nat.le_of_ble_eq_true rfl⟩) (ci := 4) rfl rfl rfl hl.1 rfl (Nat.zero_le _) (Nat.zero_le _) rfl (Nat.le_of_ble_eq_true rfl) dX4_advance_95 (fun r1 _u H locs hvc hP hD hS => ?_)
              try dsimp only at hvc
              have hP : va_P D vwCl [(h_r 0, .inr (4, [.ref (h_d 0), .ref (h_r 2), .ref (h_r 3), .int r_length, .int r_fault, .int r_place, .int r_at, .int r_end, .int r_name])), (h_r 2, .inl (cyI, 900, .inl r_tape))] H := sub_P hP (isC := [0, 1]) rfl
              have hD : va_D A [(h_r 0, .inr (4, [.ref (h_d 0), .ref (h_r 2), .ref (h_r 3), .int r_length, .int r_fault, .int r_place, .int r_at, .int r_end, .int r_name])), (h_r 2, .inl (cyI, 900, .inl r_tape))] := hD.sub [0, 1] (by decide) rfl
              refine va_put (D := D) (ci := 4) (ty := .int) (C := RX4) (T := TX4) (N := 9) hx hb hts inX4 tyX4 tyX4_ok nmX4 hown hK hP hD hS 0 rfl rfl 8 (by decide) f86 (fun _ h9 => h9) rfl (by decide +kernel) rfl rfl (Nat.le_of_ble_eq_true rfl) dX4_advance_98 (fun H locs hP hD hS => ?_)
              have hP : va_P D vwCl [(h_r 0, .inr (4, [.ref (h_d 0), .ref (h_r 2), .ref (h_r 3), .int r_length, .int r_fault, .int r_place, .int r_at, .int r_end, .int r1])), (h_r 2, .inl (cyI, 900, .inl r_tape))] H := hP
              have hD : va_D A [(h_r 0, .inr (4, [.ref (h_d 0), .ref (h_r 2), .ref (h_r 3), .int r_length, .int r_fault, .int r_place, .int r_at, .int r_end, .int r1])), (h_r 2, .inl (cyI, 900, .inl r_tape))] := hD
              refine lv_aload_n hx hb dX4_advance_101 rfl (lv_at hl 0 rfl) ?_
              refine va_get (D := D) (ci := 4) (C := RX4) (T := TX4) (N := 9) hx hb hts inX4 hown hK hP 0 rfl rfl 7 (by decide) f45 (fun _ h9 => h9) rfl dX4_advance_102 ?_
              refine lv_aload_n hx hb dX4_advance_105 rfl (lv_at hl 0 rfl) ?_
              refine va_get (D := D) (ci := 4) (C := RX4) (T := TX4) (N := 9) hx hb hts inX4 hown hK hP 0 rfl rfl 6 (by decide) f75 (fun _ h9 => h9) rfl dX4_advance_106 ?_
              obtain ⟨hvt, hvf⟩ := hvc
              refine lv_icmp_ne (tgt := 133) hx hb dX4_advance_109 (by decide) (fun hc => ?_) (fun hc => ?_)
              · have hvc := hvt hc
                exact hret (r_at, r_end, r1) _ _ _ _ hvc hP hD hS dX4_advance_133
              · have hvc := hvf hc
                refine lv_aload_n hx hb dX4_advance_112 rfl (lv_at hl 0 rfl) ?_
                refine va_get (D := D) (ci := 4) (C := RX4) (T := TX4) (N := 9) hx hb hts inX4 hown hK hP 0 rfl rfl 6 (by decide) f75 (fun _ h9 => h9) rfl dX4_advance_113 ?_
                refine lv_aload_n hx hb dX4_advance_116 rfl (lv_at hl 0 rfl) ?_
                refine va_get (D := D) (ci := 4) (C := RX4) (T := TX4) (N := 9) hx hb hts inX4 hown hK hP 0 rfl rfl 3 (by decide) f26 (fun _ h9 => h9) rfl dX4_advance_117 ?_
                obtain ⟨hvt, hvf⟩ := hvc
                refine lv_icmp_ge (tgt := 133) hx hb dX4_advance_120 (by decide) (fun hc => ?_) (fun hc => ?_)
                · have hvc := hvt hc
                  exact hret (r_at, r_end, r1) _ _ _ _ hvc hP hD hS dX4_advance_133
                · have hvc := hvf hc
                  refine lv_aload_n hx hb dX4_advance_123 rfl (lv_at hl 0 rfl) ?_
                  refine lv_dup hx hb dX4_advance_124 rfl ?_
                  refine va_get (D := D) (ci := 4) (C := RX4) (T := TX4) (N := 9) hx hb hts inX4 hown hK hP 0 rfl rfl 7 (by decide) f45 (fun _ h9 => h9) rfl dX4_advance_125 ?_
                  refine lv_iconst (v := 1) hx hb dX4_advance_128 (by decide) ?_
                  refine lv_iadd hx hb dX4_advance_129 ?_
                  refine lv_topi (fun v2 ev2 => ?_)
                  have hvc := hvc v2 ev2
                  refine va_put (D := D) (ci := 4) (ty := .int) (C := RX4) (T := TX4) (N := 9) hx hb hts inX4 tyX4 tyX4_ok nmX4 hown hK hP hD hS 0 rfl rfl 7 (by decide) f45 (fun _ h9 => h9) rfl (by decide +kernel) rfl rfl (Nat.le_of_ble_eq_true rfl) dX4_advance_130 (fun H locs hP hD hS => ?_)
                  have hP : va_P D vwCl [(h_r 0, .inr (4, [.ref (h_d 0), .ref (h_r 2), .ref (h_r 3), .int r_length, .int r_fault, .int r_place, .int r_at, .int v2, .int r1])), (h_r 2, .inl (cyI, 900, .inl r_tape))] H := hP
                  have hD : va_D A [(h_r 0, .inr (4, [.ref (h_d 0), .ref (h_r 2), .ref (h_r 3), .int r_length, .int r_fault, .int r_place, .int r_at, .int v2, .int r1])), (h_r 2, .inl (cyI, 900, .inl r_tape))] := hD
                  exact hret (r_at, v2, r1) _ _ _ _ hvc hP hD hS dX4_advance_133
            intro r_at r_end r_name H locs ls hvc hP hD hS hl
            refine lv_aload_n hx hb dX4_advance_54 rfl (lv_at hl 0 rfl) ?_
            refine va_get (D := D) (ci := 4) (C := RX4) (T := TX4) (N := 9) hx hb hts inX4 hown hK hP 0 rfl rfl 7 (by decide) f45 (fun _ h9 => h9) rfl dX4_advance_55 ?_
            refine lv_aload_n hx hb dX4_advance_58 rfl (lv_at hl 0 rfl) ?_
            refine va_get (D := D) (ci := 4) (C := RX4) (T := TX4) (N := 9) hx hb hts inX4 hown hK hP 0 rfl rfl 3 (by decide) f26 (fun _ h9 => h9) rfl dX4_advance_59 ?_
            obtain ⟨hvt, hvf⟩ := hvc
            refine lv_icmp_ge (tgt := 93) hx hb dX4_advance_62 (by decide) (fun hc => ?_) (fun hc => ?_)
            · have hvc := hvt hc
              exact w93 r_at r_end r_name _ _ _ hvc hP hD hS (lv_sub hl [0] rfl)
            · have hvc := hvf hc
              refine lv_aload_n hx hb dX4_advance_65 rfl (lv_at hl 0 rfl) ?_
              refine va_get (D := D) (ci := 4) (C := RX4) (T := TX4) (N := 9) hx hb hts inX4 hown hK hP 0 rfl rfl 1 (by decide) f11 (fun _ h9 => h9) rfl dX4_advance_66 ?_
              refine lv_aload_n hx hb dX4_advance_69 rfl (lv_at hl 0 rfl) ?_
              refine va_get (D := D) (ci := 4) (C := RX4) (T := TX4) (N := 9) hx hb hts inX4 hown hK hP 0 rfl rfl 7 (by decide) f45 (fun _ h9 => h9) rfl dX4_advance_70 ?_
              obtain ⟨hi, hvc⟩ := hvc
              refine va_iald hx hb hK hP 1 0 rfl rfl hi dX4_advance_73 ?_
              refine kS_i (wc := []) (wr := [(h_r 0, .inr (4, [.ref (h_d 0), .ref (h_r 2), .ref (h_r 3), .int r_length, .int r_fault, .int r_place, .int r_at, .int r_end, .int r_name])), (h_r 2, .inl (cyI, 900, .inl r_tape))]) (As := [.int (r_tape r_end.toNatClampNeg)]) (rest := []) ⟨hx, hb, hml, hown, hts⟩ hP hD hK hE hS hA [] [0, 1] rfl rfl (by decide) (by decide) (by decide) (c_X4_isWordByte l D ts cyI cyJ cyZ  _  (r_tape r_end.toNatClampNeg) _ hvc) (va_cwS 1 hts gX4_advance_X4_isWordByte rfl rfl rfl hd_X4_isWordByte ⟨Nat.le_of_ble_eq_true rfl, Nat.le_of_ble_eq_true rfl⟩) hl.1 rfl (Nat.zero_le _) (Nat.zero_le _) rfl (Nat.le_of_ble_eq_true rfl) dX4_advance_74 (fun r3 _u H locs hvc hP hD hS => ?_)
              try dsimp only at hvc
              have hP : va_P D vwCl [(h_r 0, .inr (4, [.ref (h_d 0), .ref (h_r 2), .ref (h_r 3), .int r_length, .int r_fault, .int r_place, .int r_at, .int r_end, .int r_name])), (h_r 2, .inl (cyI, 900, .inl r_tape))] H := sub_P hP (isC := [0, 1]) rfl
              have hD : va_D A [(h_r 0, .inr (4, [.ref (h_d 0), .ref (h_r 2), .ref (h_r 3), .int r_length, .int r_fault, .int r_place, .int r_at, .int r_end, .int r_name])), (h_r 2, .inl (cyI, 900, .inl r_tape))] := hD.sub [0, 1] (by decide) rfl
              obtain ⟨hvt, hvf⟩ := hvc
              refine lv_if_eq (tgt := 93) hx hb dX4_advance_77 (by decide) (fun hc => ?_) (fun hc => ?_)
              · have hvc := hvt hc
                exact w93 r_at r_end r_name _ _ _ hvc hP hD hS (lv_sub hl [0] rfl)
              · have hvc := hvf hc
                refine lv_aload_n hx hb dX4_advance_80 rfl (lv_at hl 0 rfl) ?_
                refine lv_dup hx hb dX4_advance_81 rfl ?_
                refine va_get (D := D) (ci := 4) (C := RX4) (T := TX4) (N := 9) hx hb hts inX4 hown hK hP 0 rfl rfl 7 (by decide) f45 (fun _ h9 => h9) rfl dX4_advance_82 ?_
                refine lv_iconst (v := 1) hx hb dX4_advance_85 (by decide) ?_
                refine lv_iadd hx hb dX4_advance_86 ?_
                refine lv_topi (fun v4 ev4 => ?_)
                have hvc := hvc v4 ev4
                refine va_put (D := D) (ci := 4) (ty := .int) (C := RX4) (T := TX4) (N := 9) hx hb hts inX4 tyX4 tyX4_ok nmX4 hown hK hP hD hS 0 rfl rfl 7 (by decide) f45 (fun _ h9 => h9) rfl (by decide +kernel) rfl rfl (Nat.le_of_ble_eq_true rfl) dX4_advance_87 (fun H locs hP hD hS => ?_)
                have hP : va_P D vwCl [(h_r 0, .inr (4, [.ref (h_d 0), .ref (h_r 2), .ref (h_r 3), .int r_length, .int r_fault, .int r_place, .int r_at, .int v4, .int r_name])), (h_r 2, .inl (cyI, 900, .inl r_tape))] H := hP
                have hD : va_D A [(h_r 0, .inr (4, [.ref (h_d 0), .ref (h_r 2), .ref (h_r 3), .int r_length, .int r_fault, .int r_place, .int r_at, .int v4, .int r_name])), (h_r 2, .inl (cyI, 900, .inl r_tape))] := hD
                refine lv_goto (tgt := 54) hx hb dX4_advance_90 (by decide) ?_
                exact ih54 r_at v4 r_name _ _ _ hvc hP hD hS (lv_sub hl [0] rfl)
        intro r_at r_end r_name H locs ls hvc hP hD hS hl
        refine lv_aload_n hx hb dX4_advance_46 rfl (lv_at hl 0 rfl) ?_
        refine lv_aload_n hx hb dX4_advance_47 rfl (lv_at hl 0 rfl) ?_
        refine va_get (D := D) (ci := 4) (C := RX4) (T := TX4) (N := 9) hx hb hts inX4 hown hK hP 0 rfl rfl 6 (by decide) f75 (fun _ h9 => h9) rfl dX4_advance_48 ?_
        refine va_put (D := D) (ci := 4) (ty := .int) (C := RX4) (T := TX4) (N := 9) hx hb hts inX4 tyX4 tyX4_ok nmX4 hown hK hP hD hS 0 rfl rfl 7 (by decide) f45 (fun _ h9 => h9) rfl (by decide +kernel) rfl rfl (Nat.le_of_ble_eq_true rfl) dX4_advance_51 (fun H locs hP hD hS => ?_)
        have hP : va_P D vwCl [(h_r 0, .inr (4, [.ref (h_d 0), .ref (h_r 2), .ref (h_r 3), .int r_length, .int r_fault, .int r_place, .int r_at, .int r_at, .int r_name])), (h_r 2, .inl (cyI, 900, .inl r_tape))] H := hP
        have hD : va_D A [(h_r 0, .inr (4, [.ref (h_d 0), .ref (h_r 2), .ref (h_r 3), .int r_length, .int r_fault, .int r_place, .int r_at, .int r_at, .int r_name])), (h_r 2, .inl (cyI, 900, .inl r_tape))] := hD
        obtain ⟨n_, hvc⟩ := hvc
        exact w54 n_ r_at r_at r_name _ _ _ hvc hP hD hS (lv_sub hl [0] rfl)
      intro r_at r_end r_name H locs ls hvc hP hD hS hl
      refine lv_aload_n hx hb dX4_advance_8 rfl (lv_at hl 0 rfl) ?_
      refine va_get (D := D) (ci := 4) (C := RX4) (T := TX4) (N := 9) hx hb hts inX4 hown hK hP 0 rfl rfl 6 (by decide) f75 (fun _ h9 => h9) rfl dX4_advance_9 ?_
      refine lv_aload_n hx hb dX4_advance_12 rfl (lv_at hl 0 rfl) ?_
      refine va_get (D := D) (ci := 4) (C := RX4) (T := TX4) (N := 9) hx hb hts inX4 hown hK hP 0 rfl rfl 3 (by decide) f26 (fun _ h9 => h9) rfl dX4_advance_13 ?_
      obtain ⟨hvt, hvf⟩ := hvc
      refine lv_icmp_ge (tgt := 46) hx hb dX4_advance_16 (by decide) (fun hc => ?_) (fun hc => ?_)
      · have hvc := hvt hc
        exact w46 r_at r_end r_name _ _ _ hvc hP hD hS (lv_sub hl [0] rfl)
      · have hvc := hvf hc
        refine lv_aload_n hx hb dX4_advance_19 rfl (lv_at hl 0 rfl) ?_
        refine va_get (D := D) (ci := 4) (C := RX4) (T := TX4) (N := 9) hx hb hts inX4 hown hK hP 0 rfl rfl 1 (by decide) f11 (fun _ h9 => h9) rfl dX4_advance_20 ?_
        refine lv_aload_n hx hb dX4_advance_23 rfl (lv_at hl 0 rfl) ?_
        refine va_get (D := D) (ci := 4) (C := RX4) (T := TX4) (N := 9) hx hb hts inX4 hown hK hP 0 rfl rfl 6 (by decide) f75 (fun _ h9 => h9) rfl dX4_advance_24 ?_
        obtain ⟨hi, hvc⟩ := hvc
        refine va_iald hx hb hK hP 1 0 rfl rfl hi dX4_advance_27 ?_
        refine lv_bipush (v := 32) hx hb dX4_advance_28 (by decide) ?_
        obtain ⟨hvt, hvf⟩ := hvc
        refine lv_icmp_gt (tgt := 46) hx hb dX4_advance_30 (by decide) (fun hc => ?_) (fun hc => ?_)
        · have hvc := hvt hc
          exact w46 r_at r_end r_name _ _ _ hvc hP hD hS (lv_sub hl [0] rfl)
        · have hvc := hvf hc
          refine lv_aload_n hx hb dX4_advance_33 rfl (lv_at hl 0 rfl) ?_
          refine lv_dup hx hb dX4_advance_34 rfl ?_
          refine va_get (D := D) (ci := 4) (C := RX4) (T := TX4) (N := 9) hx hb hts inX4 hown hK hP 0 rfl rfl 6 (by decide) f75 (fun _ h9 => h9) rfl dX4_advance_35 ?_
          refine lv_iconst (v := 1) hx hb dX4_advance_38 (by decide) ?_
          refine lv_iadd hx hb dX4_advance_39 ?_
          refine lv_topi (fun v5 ev5 => ?_)
          have hvc := hvc v5 ev5
          refine va_put (D := D) (ci := 4) (ty := .int) (C := RX4) (T := TX4) (N := 9) hx hb hts inX4 tyX4 tyX4_ok nmX4 hown hK hP hD hS 0 rfl rfl 6 (by decide) f75 (fun _ h9 => h9) rfl (by decide +kernel) rfl rfl (Nat.le_of_ble_eq_true rfl) dX4_advance_40 (fun H locs hP hD hS => ?_)
          have hP : va_P D vwCl [(h_r 0, .inr (4, [.ref (h_d 0), .ref (h_r 2), .ref (h_r 3), .int r_length, .int r_fault, .int r_place, .int v5, .int r_end, .int r_name])), (h_r 2, .inl (cyI, 900, .inl r_tape))] H := hP
          have hD : va_D A [(h_r 0, .inr (4, [.ref (h_d 0), .ref (h_r 2), .ref (h_r 3), .int r_length, .int r_fault, .int r_place, .int v5, .int r_end, .int r_name])), (h_r 2, .inl (cyI, 900, .inl r_tape))] := hD
          refine lv_goto (tgt := 8) hx hb dX4_advance_43 (by decide) ?_
          exact ih8 v5 r_end r_name _ _ _ hvc hP hD hS (lv_sub hl [0] rfl)
  have hl : lv_has ls 1 [(0, .ref (h_r 0))] := hl
  refine lv_aload_n hx hb dX4_advance_0 rfl (lv_at hl 0 rfl) ?_
  refine lv_aload_n hx hb dX4_advance_1 rfl (lv_at hl 0 rfl) ?_
  refine va_get (D := D) (ci := 4) (C := RX4) (T := TX4) (N := 9) hx hb hts inX4 hown hK hP 0 rfl rfl 7 (by decide) f45 (fun _ h9 => h9) rfl dX4_advance_2 ?_
  refine va_put (D := D) (ci := 4) (ty := .int) (C := RX4) (T := TX4) (N := 9) hx hb hts inX4 tyX4 tyX4_ok nmX4 hown hK hP hD hS 0 rfl rfl 6 (by decide) f75 (fun _ h9 => h9) rfl (by decide +kernel) rfl rfl (Nat.le_of_ble_eq_true rfl) dX4_advance_5 (fun H locs hP hD hS => ?_)
  have hP : va_P D vwCl [(h_r 0, .inr (4, [.ref (h_d 0), .ref (h_r 2), .ref (h_r 3), .int r_length, .int r_fault, .int r_place, .int r_end, .int r_end, .int r_name])), (h_r 2, .inl (cyI, 900, .inl r_tape))] H := hP
  have hD : va_D A [(h_r 0, .inr (4, [.ref (h_d 0), .ref (h_r 2), .ref (h_r 3), .int r_length, .int r_fault, .int r_place, .int r_end, .int r_end, .int r_name])), (h_r 2, .inl (cyI, 900, .inl r_tape))] := hD
  obtain ⟨n_, hvc⟩ := hvc
  exact w8 n_ r_end r_end r_name _ _ _ hvc hP hD hS (lv_sub hl [0] rfl)
def v_X4_isWord_b20 (r_length : Int32) (r_at : Int32) (r_end : Int32) (r_tape : Nat → Int32) (Q : Int32 → Prop)  : Nat → Nat → Int32 → Prop
  | 0 => fun _ _ => False
  | z20_ + 1 => fun (l1 : Nat) (l2 : Int32) => v_J0_length_8abf5 l1 (fun (r1 : Int32) => (r1 ≤ l2 → Q (1 : Int32) ) ∧ (¬ r1 ≤ l2 → (r_length ≤ (r_at + l2) → Q (0 : Int32) ) ∧ (¬ r_length ≤ (r_at + l2) → vp_in (r_at + l2) 900 ∧ v_J0_charAt_5068e l1 l2 (fun (r2 : Int32) => ((r_tape (r_at + l2).toNatClampNeg) = r2 → ∀ v3 : Int32, v3 = l2 + (1 : Int32) → (v_X4_isWord_b20 r_length r_at r_end r_tape Q  z20_) l1 v3) ∧ (¬ (r_tape (r_at + l2).toNatClampNeg) = r2 → Q (0 : Int32) )))))
def v_X4_isWord (r_length : Int32) (r_at : Int32) (r_end : Int32) (r_tape : Nat → Int32) (p0 : Nat) (Q : Int32 → Prop) : Prop := v_J0_length_8abf5 p0 (fun (r4 : Int32) => ((r_end - r_at) = r4 → (∃ f20 : Nat, v_X4_isWord_b20 r_length r_at r_end r_tape Q  f20 p0 (0 : Int32))) ∧ (¬ (r_end - r_at) = r4 → Q (0 : Int32) ))
theorem hd_X4_isWord : yX4_isWord.cls = RX4 ∧ yX4_isWord.cls ≠ "java/lang/invoke/MethodHandle" ∧ yX4_isWord.cls ≠ "java/lang/invoke/VarHandle" ∧ (parseMethodDescriptor yX4_isWord.desc).map (fun d => d.parameters.length) = some 1 := by decide +kernel
abbrev rm_X4_isWord : Room := { frames := 4, cells := 0, slots := 0, locals := 93 }
set_option maxHeartbeats 4000000 in
set_option maxRecDepth 100000 in
theorem c_X4_isWord (l : Launch) (D : va_G) (ts : Nat → Nat) (cyI cyJ cyZ : ClassId) (h_d : Nat → Nat) (h_r : Nat → Nat) (sz : Nat) (r_length : Int32) (r_fault : Int32) (r_place : Int32) (r_at : Int32) (r_end : Int32) (r_name : Int32) (r_tape : Nat → Int32) (p0 : Nat) (Q : Int32 → Prop) (hvc : v_X4_isWord r_length r_at r_end r_tape p0 Q) : Met l yX4_isWord wsX4_isWord rm_X4_isWord (va_Pc [.ref (h_r 0), .ref (ts (10 + p0))] (cPre D ts [(cyI, .int), (cyJ, .long), (cyZ, .boolean)] [(h_r 0, .inr (4, [.ref (h_d 0), .ref (h_r 2), .ref (h_r 3), .int r_length, .int r_fault, .int r_place, .int r_at, .int r_end, .int r_name])), (h_r 2, .inl (cyI, 900, .inl r_tape))] sz)) (va_Qi (fun (r : Int32) (u : Unit) => Q r ) (cPost D [(cyI, .int), (cyJ, .long), (cyZ, .boolean)] (fun (u : Unit) => [(h_r 0, .inr (4, [.ref (h_d 0), .ref (h_r 2), .ref (h_r 3), .int r_length, .int r_fault, .int r_place, .int r_at, .int r_end, .int r_name])), (h_r 2, .inl (cyI, 900, .inl r_tape))]) (va_A [(h_r 0, .inr (4, [.ref (h_d 0), .ref (h_r 2), .ref (h_r 3), .int r_length, .int r_fault, .int r_place, .int r_at, .int r_end, .int r_name])), (h_r 2, .inl (cyI, 900, .inl r_tape))] sz)) (va_A [(h_r 0, .inr (4, [.ref (h_d 0), .ref (h_r 2), .ref (h_r 3), .int r_length, .int r_fault, .int r_place, .int r_at, .int r_end, .int r_name])), (h_r 2, .inl (cyI, 900, .inl r_tape))] sz)) 0 0 (va_A [(h_r 0, .inr (4, [.ref (h_d 0), .ref (h_r 2), .ref (h_r 3), .int r_length, .int r_fault, .int r_place, .int r_at, .int r_end, .int r_name])), (h_r 2, .inl (cyI, 900, .inl r_tape))] sz) := by
  refine kEnter_z (cc := cX4_isWord) (maxL := 3) (ty := .boolean) (by decide) rfl (Nat.le_of_ble_eq_true rfl) ?_
  intro p e s m args below meth c A ls QQ hx hb hml hown hts hsz hA hP hD hK hE hS hl hret
  clear hsz
  have hown : s.vm.findClass RX4 = some m.cls := hown
  have inX4 : ∀ w ∈ wsX40, w ∈ wsX4_isWord := fun _ h => List.mem_cons_of_mem _ (List.mem_append_right _ h)
  have f75 := hts (.fieldLink RX4 75 "ScanTester$Reader" "at" "I") (List.mem_of_getElem? (i := 2) rfl)
  have f26 := hts (.fieldLink RX4 26 "ScanTester$Reader" "length" "I") (List.mem_of_getElem? (i := 3) rfl)
  have f11 := hts (.fieldLink RX4 11 "ScanTester$Reader" "tape" "[I") (List.mem_of_getElem? (i := 4) rfl)
  have f45 := hts (.fieldLink RX4 45 "ScanTester$Reader" "end" "I") (List.mem_of_getElem? (i := 1) rfl)
  have w20 : ∀ (n20_ : Nat) (l1 : Nat) (l2 : Int32) (H : Heap) (locs : List Loc) (ls : Array Slot), v_X4_isWord_b20 r_length r_at r_end r_tape Q  n20_ l1 l2 → va_P D vwCl [(h_r 0, .inr (4, [.ref (h_d 0), .ref (h_r 2), .ref (h_r 3), .int r_length, .int r_fault, .int r_place, .int r_at, .int r_end, .int r_name])), (h_r 2, .inl (cyI, 900, .inl r_tape))] H → va_D A [(h_r 0, .inr (4, [.ref (h_d 0), .ref (h_r 2), .ref (h_r 3), .int r_length, .int r_fault, .int r_place, .int r_at, .int r_end, .int r_name])), (h_r 2, .inl (cyI, 900, .inl r_tape))] → va_S A s.heap H locs → lv_has ls 3 [(0, .ref (h_r 0)), (1, .ref (ts (10 + l1))), (2, .int l2)] → W p l e rm_X4_isWord s m args below meth c H locs 0 0 QQ (F0 m 20 ls []) := by
    intro n20_
    induction n20_ with
    | zero =>
      intro l1 l2 H locs ls hvc hP hD hS hl
      exact False.elim hvc
    | succ n20_ ih20 =>
      intro l1 l2 H locs ls hvc hP hD hS hl
      rw [v_X4_isWord_b20] at hvc
      refine lv_iload_n hx hb dX4_isWord_20 rfl (lv_at hl 2 rfl) ?_
      refine lv_aload_n hx hb dX4_isWord_21 rfl (lv_at hl 1 rfl) ?_
      refine kT_i (wc := []) (wr := [(h_r 0, .inr (4, [.ref (h_d 0), .ref (h_r 2), .ref (h_r 3), .int r_length, .int r_fault, .int r_place, .int r_at, .int r_end, .int r_name])), (h_r 2, .inl (cyI, 900, .inl r_tape))]) (As := []) (rest := [.int l2]) ⟨hx, hb, hml, hown, hts⟩ hP hD hK hE hS hA [] [0, 1] rfl rfl (by decide) (by decide) (by decide) (c_J0_length_8abf5 l D ts cyI cyJ cyZ _ l1 _ hvc) (cwV 0 hts gX4_isWord_J0_length_8abf5 rfl rfl rfl hd_J0_length_8abf5 ⟨Nat.le_of_ble_eq_true rfl, Nat.le_of_ble_eq_true rfl⟩) (vk_recv (adK := fun i => ts (10 + i)) (i := l1) hE.str.1 (And.left hvc) hS) hl.1 rfl (Nat.zero_le _) (Nat.zero_le _) rfl (Nat.le_of_ble_eq_true rfl) dX4_isWord_22 (fun r1 _u H locs hvc hP hD hS => ?_)
      try dsimp only at hvc
      have hP : va_P D vwCl [(h_r 0, .inr (4, [.ref (h_d 0), .ref (h_r 2), .ref (h_r 3), .int r_length, .int r_fault, .int r_place, .int r_at, .int r_end, .int r_name])), (h_r 2, .inl (cyI, 900, .inl r_tape))] H := sub_P hP (isC := [0, 1]) rfl
      have hD : va_D A [(h_r 0, .inr (4, [.ref (h_d 0), .ref (h_r 2), .ref (h_r 3), .int r_length, .int r_fault, .int r_place, .int r_at, .int r_end, .int r_name])), (h_r 2, .inl (cyI, 900, .inl r_tape))] := hD.sub [0, 1] (by decide) rfl
      obtain ⟨hvt, hvf⟩ := hvc
      refine lv_icmp_ge (tgt := 68) hx hb dX4_isWord_25 (by decide) (fun hc => ?_) (fun hc => ?_)
      · have hvc := hvt hc
        refine lv_iconst (v := 1) hx hb dX4_isWord_68 (by decide) ?_
        exact hret (1 : Int32) () _ _ _ _ rfl hvc hP hD hS dX4_isWord_69
      · have hvc := hvf hc
        refine lv_aload_n hx hb dX4_isWord_28 rfl (lv_at hl 0 rfl) ?_
        refine va_get (D := D) (ci := 4) (C := RX4) (T := TX4) (N := 9) hx hb hts inX4 hown hK hP 0 rfl rfl 6 (by decide) f75 (fun _ h9 => h9) rfl dX4_isWord_29 ?_
        refine lv_iload_n hx hb dX4_isWord_32 rfl (lv_at hl 2 rfl) ?_
        refine lv_iadd hx hb dX4_isWord_33 ?_
        refine lv_aload_n hx hb dX4_isWord_34 rfl (lv_at hl 0 rfl) ?_
        refine va_get (D := D) (ci := 4) (C := RX4) (T := TX4) (N := 9) hx hb hts inX4 hown hK hP 0 rfl rfl 3 (by decide) f26 (fun _ h9 => h9) rfl dX4_isWord_35 ?_
        obtain ⟨hvt, hvf⟩ := hvc
        refine lv_icmp_ge (tgt := 60) hx hb dX4_isWord_38 (by decide) (fun hc => ?_) (fun hc => ?_)
        · have hvc := hvt hc
          refine lv_iconst (v := 0) hx hb dX4_isWord_60 (by decide) ?_
          exact hret (0 : Int32) () _ _ _ _ rfl hvc hP hD hS dX4_isWord_61
        · have hvc := hvf hc
          refine lv_aload_n hx hb dX4_isWord_41 rfl (lv_at hl 0 rfl) ?_
          refine va_get (D := D) (ci := 4) (C := RX4) (T := TX4) (N := 9) hx hb hts inX4 hown hK hP 0 rfl rfl 1 (by decide) f11 (fun _ h9 => h9) rfl dX4_isWord_42 ?_
          refine lv_aload_n hx hb dX4_isWord_45 rfl (lv_at hl 0 rfl) ?_
          refine va_get (D := D) (ci := 4) (C := RX4) (T := TX4) (N := 9) hx hb hts inX4 hown hK hP 0 rfl rfl 6 (by decide) f75 (fun _ h9 => h9) rfl dX4_isWord_46 ?_
          refine lv_iload_n hx hb dX4_isWord_49 rfl (lv_at hl 2 rfl) ?_
          refine lv_iadd hx hb dX4_isWord_50 ?_
          obtain ⟨hi, hvc⟩ := hvc
          refine va_iald hx hb hK hP 1 0 rfl rfl hi dX4_isWord_51 ?_
          refine lv_aload_n hx hb dX4_isWord_52 rfl (lv_at hl 1 rfl) ?_
          refine lv_iload_n hx hb dX4_isWord_53 rfl (lv_at hl 2 rfl) ?_
          refine kT_i (wc := []) (wr := [(h_r 0, .inr (4, [.ref (h_d 0), .ref (h_r 2), .ref (h_r 3), .int r_length, .int r_fault, .int r_place, .int r_at, .int r_end, .int r_name])), (h_r 2, .inl (cyI, 900, .inl r_tape))]) (As := [.int l2]) (rest := [.int (r_tape (r_at + l2).toNatClampNeg)]) ⟨hx, hb, hml, hown, hts⟩ hP hD hK hE hS hA [] [0, 1] rfl rfl (by decide) (by decide) (by decide) (c_J0_charAt_5068e l D ts cyI cyJ cyZ _ l1 l2 _ hvc) (cwV 1 hts gX4_isWord_J0_charAt_5068e rfl rfl rfl hd_J0_charAt_5068e ⟨Nat.le_of_ble_eq_true rfl, Nat.le_of_ble_eq_true rfl⟩) (vk_recv (adK := fun i => ts (10 + i)) (i := l1) hE.str.1 (And.left hvc) hS) hl.1 rfl (Nat.zero_le _) (Nat.zero_le _) rfl (Nat.le_of_ble_eq_true rfl) dX4_isWord_54 (fun r2 _u H locs hvc hP hD hS => ?_)
          try dsimp only at hvc
          have hP : va_P D vwCl [(h_r 0, .inr (4, [.ref (h_d 0), .ref (h_r 2), .ref (h_r 3), .int r_length, .int r_fault, .int r_place, .int r_at, .int r_end, .int r_name])), (h_r 2, .inl (cyI, 900, .inl r_tape))] H := sub_P hP (isC := [0, 1]) rfl
          have hD : va_D A [(h_r 0, .inr (4, [.ref (h_d 0), .ref (h_r 2), .ref (h_r 3), .int r_length, .int r_fault, .int r_place, .int r_at, .int r_end, .int r_name])), (h_r 2, .inl (cyI, 900, .inl r_tape))] := hD.sub [0, 1] (by decide) rfl
          obtain ⟨hvt, hvf⟩ := hvc
          refine lv_icmp_eq (tgt := 62) hx hb dX4_isWord_57 (by decide) (fun hc => ?_) (fun hc => ?_)
          · have hvc := hvt hc
            obtain ⟨v3, ev3⟩ : ∃ y : Int32, y = l2 + (1 : Int32) := ⟨_, rfl⟩
            have hvc := hvc v3 ev3
            refine lv_iinc (v := v3) (lv' := [(2, .int v3), (0, .ref (h_r 0)), (1, .ref (ts (10 + l1)))]) hx hb dX4_isWord_62 hl (k := 2) rfl (by rw [ev3]; rfl) (by decide) rfl (fun ls hl => ?_)
            refine lv_goto (tgt := 20) hx hb dX4_isWord_65 (by decide) ?_
            exact ih20 l1 v3 _ _ _ hvc hP hD hS (lv_sub hl [1, 2, 0] rfl)
          · have hvc := hvf hc
            refine lv_iconst (v := 0) hx hb dX4_isWord_60 (by decide) ?_
            exact hret (0 : Int32) () _ _ _ _ rfl hvc hP hD hS dX4_isWord_61
  have hl : lv_has ls 3 [(0, .ref (h_r 0)), (1, .ref (ts (10 + p0)))] := hl
  delta v_X4_isWord at hvc
  refine lv_aload_n hx hb dX4_isWord_0 rfl (lv_at hl 0 rfl) ?_
  refine va_get (D := D) (ci := 4) (C := RX4) (T := TX4) (N := 9) hx hb hts inX4 hown hK hP 0 rfl rfl 7 (by decide) f45 (fun _ h9 => h9) rfl dX4_isWord_1 ?_
  refine lv_aload_n hx hb dX4_isWord_4 rfl (lv_at hl 0 rfl) ?_
  refine va_get (D := D) (ci := 4) (C := RX4) (T := TX4) (N := 9) hx hb hts inX4 hown hK hP 0 rfl rfl 6 (by decide) f75 (fun _ h9 => h9) rfl dX4_isWord_5 ?_
  refine lv_isub hx hb dX4_isWord_8 ?_
  refine lv_aload_n hx hb dX4_isWord_9 rfl (lv_at hl 1 rfl) ?_
  refine kT_i (wc := []) (wr := [(h_r 0, .inr (4, [.ref (h_d 0), .ref (h_r 2), .ref (h_r 3), .int r_length, .int r_fault, .int r_place, .int r_at, .int r_end, .int r_name])), (h_r 2, .inl (cyI, 900, .inl r_tape))]) (As := []) (rest := [.int (r_end - r_at)]) ⟨hx, hb, hml, hown, hts⟩ hP hD hK hE hS hA [] [0, 1] rfl rfl (by decide) (by decide) (by decide) (c_J0_length_8abf5 l D ts cyI cyJ cyZ _ p0 _ hvc) (cwV 0 hts gX4_isWord_J0_length_8abf5 rfl rfl rfl hd_J0_length_8abf5 ⟨Nat.le_of_ble_eq_true rfl, Nat.le_of_ble_eq_true rfl⟩) (vk_recv (adK := fun i => ts (10 + i)) (i := p0) hE.str.1 (And.left hvc) hS) hl.1 rfl (Nat.zero_le _) (Nat.zero_le _) rfl (Nat.le_of_ble_eq_true rfl) dX4_isWord_10 (fun r4 _u H locs hvc hP hD hS => ?_)
  try dsimp only at hvc
  have hP : va_P D vwCl [(h_r 0, .inr (4, [.ref (h_d 0), .ref (h_r 2), .ref (h_r 3), .int r_length, .int r_fault, .int r_place, .int r_at, .int r_end, .int r_name])), (h_r 2, .inl (cyI, 900, .inl r_tape))] H := sub_P hP (isC := [0, 1]) rfl
  have hD : va_D A [(h_r 0, .inr (4, [.ref (h_d 0), .ref (h_r 2), .ref (h_r 3), .int r_length, .int r_fault, .int r_place, .int r_at, .int r_end, .int r_name])), (h_r 2, .inl (cyI, 900, .inl r_tape))] := hD.sub [0, 1] (by decide) rfl
  obtain ⟨hvt, hvf⟩ := hvc
  refine lv_icmp_eq (tgt := 18) hx hb dX4_isWord_13 (by decide) (fun hc => ?_) (fun hc => ?_)
  · have hvc := hvt hc
    refine lv_iconst (v := 0) hx hb dX4_isWord_18 (by decide) ?_
    refine lv_istore_n (lv' := [(2, .int (0 : Int32)), (0, .ref (h_r 0)), (1, .ref (ts (10 + p0)))]) hx hb dX4_isWord_19 rfl hl (by decide) rfl (fun ls hl => ?_)
    obtain ⟨n_, hvc⟩ := hvc
    exact w20 n_ p0 (0 : Int32) _ _ _ hvc hP hD hS (lv_sub hl [1, 2, 0] rfl)
  · have hvc := hvf hc
    refine lv_iconst (v := 0) hx hb dX4_isWord_16 (by decide) ?_
    exact hret (0 : Int32) () _ _ _ _ rfl hvc hP hD hS dX4_isWord_17
def v_X4_word (r_length : Int32) (r_fault : Int32) (r_place : Int32) (r_at : Int32) (r_end : Int32) (r_name : Int32) (r_tape : Nat → Int32) (p0 : Nat) (Q : Int32 → Int32 → Int32 → Int32 → Int32 → Int32 → Prop) : Prop := v_X4_isWord  r_length r_at r_end r_tape p0 (fun (r1 : Int32) => (¬ r1 = (0) → v_X4_advance  r_length r_at r_end r_name r_tape (fun (n2 : Int32) (n3 : Int32) (n4 : Int32) => Q (1 : Int32) r_fault r_place n2 n3 n4)) ∧ (r1 = (0) → v_X4_refuse  r_fault r_place (1 : Int32) r_at (fun (r7 : Int32) (n5 : Int32) (n6 : Int32) => (narrow .boolean (.int r7) = .int r7) ∧ Q r7 n5 n6 r_at r_end r_name)))
theorem hd_X4_word : yX4_word.cls = RX4 ∧ yX4_word.cls ≠ "java/lang/invoke/MethodHandle" ∧ yX4_word.cls ≠ "java/lang/invoke/VarHandle" ∧ (parseMethodDescriptor yX4_word.desc).map (fun d => d.parameters.length) = some 1 := by decide +kernel
abbrev rm_X4_word : Room := { frames := 5, cells := 0, slots := 0, locals := 115 }
set_option maxHeartbeats 4000000 in
set_option maxRecDepth 100000 in
theorem c_X4_word (l : Launch) (D : va_G) (ts : Nat → Nat) (cyI cyJ cyZ : ClassId) (h_d : Nat → Nat) (h_r : Nat → Nat) (sz : Nat) (r_length : Int32) (r_fault : Int32) (r_place : Int32) (r_at : Int32) (r_end : Int32) (r_name : Int32) (r_tape : Nat → Int32) (p0 : Nat) (Q : Int32 → Int32 → Int32 → Int32 → Int32 → Int32 → Prop) (hvc : v_X4_word r_length r_fault r_place r_at r_end r_name r_tape p0 Q) : Met l yX4_word wsX4_word rm_X4_word (va_Pc [.ref (h_r 0), .ref (ts (10 + p0))] (cPre D ts [(cyI, .int), (cyJ, .long), (cyZ, .boolean)] [(h_r 0, .inr (4, [.ref (h_d 0), .ref (h_r 2), .ref (h_r 3), .int r_length, .int r_fault, .int r_place, .int r_at, .int r_end, .int r_name])), (h_r 2, .inl (cyI, 900, .inl r_tape))] sz)) (va_Qi (fun (r : Int32) (u : Int32 × Int32 × Int32 × Int32 × Int32) => Q r u.1 u.2.1 u.2.2.1 u.2.2.2.1 u.2.2.2.2) (cPost D [(cyI, .int), (cyJ, .long), (cyZ, .boolean)] (fun (u : Int32 × Int32 × Int32 × Int32 × Int32) => [(h_r 0, .inr (4, [.ref (h_d 0), .ref (h_r 2), .ref (h_r 3), .int r_length, .int (u.1), .int (u.2.1), .int (u.2.2.1), .int (u.2.2.2.1), .int (u.2.2.2.2)])), (h_r 2, .inl (cyI, 900, .inl r_tape))]) (va_A [(h_r 0, .inr (4, [.ref (h_d 0), .ref (h_r 2), .ref (h_r 3), .int r_length, .int r_fault, .int r_place, .int r_at, .int r_end, .int r_name])), (h_r 2, .inl (cyI, 900, .inl r_tape))] sz)) (va_A [(h_r 0, .inr (4, [.ref (h_d 0), .ref (h_r 2), .ref (h_r 3), .int r_length, .int r_fault, .int r_place, .int r_at, .int r_end, .int r_name])), (h_r 2, .inl (cyI, 900, .inl r_tape))] sz)) 0 0 (va_A [(h_r 0, .inr (4, [.ref (h_d 0), .ref (h_r 2), .ref (h_r 3), .int r_length, .int r_fault, .int r_place, .int r_at, .int r_end, .int r_name])), (h_r 2, .inl (cyI, 900, .inl r_tape))] sz) := by
  refine kEnter_z (cc := cX4_word) (maxL := 2) (ty := .boolean) (by decide) rfl (Nat.le_of_ble_eq_true rfl) ?_
  intro p e s m args below meth c A ls QQ hx hb hml hown hts hsz hA hP hD hK hE hS hl hret
  clear hsz
  have hown : s.vm.findClass RX4 = some m.cls := hown
  have inX4 : ∀ w ∈ wsX40, w ∈ wsX4_word := fun _ h => List.mem_cons_of_mem _ (List.mem_append_right _ h)
  have f75 := hts (.fieldLink RX4 75 "ScanTester$Reader" "at" "I") (List.mem_of_getElem? (i := 1) rfl)
  have hl : lv_has ls 2 [(0, .ref (h_r 0)), (1, .ref (ts (10 + p0)))] := hl
  delta v_X4_word at hvc
  refine lv_aload_n hx hb dX4_word_0 rfl (lv_at hl 0 rfl) ?_
  refine lv_aload_n hx hb dX4_word_1 rfl (lv_at hl 1 rfl) ?_
  refine kV_i (wc := [(h_r 0, .inr (4, [.ref (h_d 0), .ref (h_r 2), .ref (h_r 3), .int r_length, .int r_fault, .int r_place, .int r_at, .int r_end, .int r_name])), (h_r 2, .inl (cyI, 900, .inl r_tape))]) (wr := []) (As := [.ref (ts (10 + p0))]) (rest := []) ⟨hx, hb, hml, hown, hts⟩ hP hD hK hE hS hA [0, 1] [] rfl rfl (by decide) (by decide) (by decide) (c_X4_isWord l D ts cyI cyJ cyZ h_d h_r _ r_length r_fault r_place r_at r_end r_name r_tape p0 _ hvc) (cwV 1 hts gX4_word_X4_isWord rfl rfl rfl hd_X4_isWord ⟨Nat.le_of_ble_eq_true rfl, Nat.le_of_ble_eq_true rfl⟩) (ci := 4) rfl rfl rfl hl.1 rfl (Nat.zero_le _) (Nat.zero_le _) rfl (Nat.le_of_ble_eq_true rfl) dX4_word_2 (fun r1 _u H locs hvc hP hD hS => ?_)
  try dsimp only at hvc
  have hP : va_P D vwCl [(h_r 0, .inr (4, [.ref (h_d 0), .ref (h_r 2), .ref (h_r 3), .int r_length, .int r_fault, .int r_place, .int r_at, .int r_end, .int r_name])), (h_r 2, .inl (cyI, 900, .inl r_tape))] H := sub_P hP (isC := [0, 1]) rfl
  have hD : va_D A [(h_r 0, .inr (4, [.ref (h_d 0), .ref (h_r 2), .ref (h_r 3), .int r_length, .int r_fault, .int r_place, .int r_at, .int r_end, .int r_name])), (h_r 2, .inl (cyI, 900, .inl r_tape))] := hD.sub [0, 1] (by decide) rfl
  obtain ⟨hvt, hvf⟩ := hvc
  refine lv_if_ne (tgt := 18) hx hb dX4_word_5 (by decide) (fun hc => ?_) (fun hc => ?_)
  · have hvc := hvt hc
    refine lv_aload_n hx hb dX4_word_18 rfl (lv_at hl 0 rfl) ?_
    refine kV_v (wc := [(h_r 0, .inr (4, [.ref (h_d 0), .ref (h_r 2), .ref (h_r 3), .int r_length, .int r_fault, .int r_place, .int r_at, .int r_end, .int r_name])), (h_r 2, .inl (cyI, 900, .inl r_tape))]) (wr := []) (As := []) (rest := []) ⟨hx, hb, hml, hown, hts⟩ hP hD hK hE hS hA [0, 1] [] rfl rfl (by decide) (by decide) (by decide) (c_X4_advance l D ts cyI cyJ cyZ h_d h_r _ r_length r_fault r_place r_at r_end r_name r_tape _ hvc) (cwV 0 hts gX4_word_X4_advance rfl rfl rfl hd_X4_advance ⟨Nat.le_of_ble_eq_true rfl, Nat.le_of_ble_eq_true rfl⟩) (ci := 4) rfl rfl rfl hl.1 rfl (Nat.zero_le _) (Nat.zero_le _) rfl (Nat.le_of_ble_eq_true rfl) dX4_word_19 (fun u H locs hvc hP hD hS => ?_)
    obtain ⟨n2, n3, n4⟩ := u
    try dsimp only at hvc
    have hP : va_P D vwCl [(h_r 0, .inr (4, [.ref (h_d 0), .ref (h_r 2), .ref (h_r 3), .int r_length, .int r_fault, .int r_place, .int n2, .int n3, .int n4])), (h_r 2, .inl (cyI, 900, .inl r_tape))] H := sub_P hP (isC := [0, 1]) rfl
    have hD : va_D A [(h_r 0, .inr (4, [.ref (h_d 0), .ref (h_r 2), .ref (h_r 3), .int r_length, .int r_fault, .int r_place, .int n2, .int n3, .int n4])), (h_r 2, .inl (cyI, 900, .inl r_tape))] := hD.sub [0, 1] (by decide) rfl
    refine lv_iconst (v := 1) hx hb dX4_word_22 (by decide) ?_
    exact hret (1 : Int32) (r_fault, r_place, n2, n3, n4) _ _ _ _ rfl hvc hP hD hS dX4_word_23
  · have hvc := hvf hc
    refine lv_aload_n hx hb dX4_word_8 rfl (lv_at hl 0 rfl) ?_
    refine lv_iconst (v := 1) hx hb dX4_word_9 (by decide) ?_
    refine lv_aload_n hx hb dX4_word_10 rfl (lv_at hl 0 rfl) ?_
    refine va_get (D := D) (ci := 4) (C := RX4) (T := TX4) (N := 9) hx hb hts inX4 hown hK hP 0 rfl rfl 6 (by decide) f75 (fun _ h9 => h9) rfl dX4_word_11 ?_
    refine kV_i (wc := [(h_r 0, .inr (4, [.ref (h_d 0), .ref (h_r 2), .ref (h_r 3), .int r_length, .int r_fault, .int r_place, .int r_at, .int r_end, .int r_name]))]) (wr := [(h_r 2, .inl (cyI, 900, .inl r_tape))]) (As := [.int (1 : Int32), .int r_at]) (rest := []) ⟨hx, hb, hml, hown, hts⟩ hP hD hK hE hS hA [0] [1] rfl rfl (by decide) (by decide) (by decide) (c_X4_refuse l D ts cyI cyJ cyZ h_d h_r _ r_length r_fault r_place r_at r_end r_name (1 : Int32) r_at _ hvc) (cwV 2 hts gX4_word_X4_refuse rfl rfl rfl hd_X4_refuse ⟨Nat.le_of_ble_eq_true rfl, Nat.le_of_ble_eq_true rfl⟩) (ci := 4) rfl rfl rfl hl.1 rfl (Nat.zero_le _) (Nat.zero_le _) rfl (Nat.le_of_ble_eq_true rfl) dX4_word_14 (fun r7 u H locs hvc hP hD hS => ?_)
    obtain ⟨n5, n6⟩ := u
    try dsimp only at hvc
    have hP : va_P D vwCl [(h_r 0, .inr (4, [.ref (h_d 0), .ref (h_r 2), .ref (h_r 3), .int r_length, .int n5, .int n6, .int r_at, .int r_end, .int r_name])), (h_r 2, .inl (cyI, 900, .inl r_tape))] H := sub_P hP (isC := [1, 0]) rfl
    have hD : va_D A [(h_r 0, .inr (4, [.ref (h_d 0), .ref (h_r 2), .ref (h_r 3), .int r_length, .int n5, .int n6, .int r_at, .int r_end, .int r_name])), (h_r 2, .inl (cyI, 900, .inl r_tape))] := hD.sub [1, 0] (by decide) rfl
    obtain ⟨hn, hvc⟩ := hvc
    exact hret r7 (n5, n6, r_at, r_end, r_name) _ _ _ _ hn hvc hP hD hS dX4_word_17
def v_X4_isMark (r_length : Int32) (r_at : Int32) (r_tape : Nat → Int32) (p0 : Int32) (Q : Int32 → Prop) : Prop := (r_length ≤ r_at → Q (0 : Int32) ) ∧ (¬ r_length ≤ r_at → vp_in r_at 900 ∧ (¬ (r_tape r_at.toNatClampNeg) = p0 → Q (0 : Int32) ) ∧ ((r_tape r_at.toNatClampNeg) = p0 → Q (1 : Int32) ))
theorem hd_X4_isMark : yX4_isMark.cls = RX4 ∧ yX4_isMark.cls ≠ "java/lang/invoke/MethodHandle" ∧ yX4_isMark.cls ≠ "java/lang/invoke/VarHandle" ∧ (parseMethodDescriptor yX4_isMark.desc).map (fun d => d.parameters.length) = some 1 := by decide +kernel
abbrev rm_X4_isMark : Room := { frames := 0, cells := 0, slots := 0, locals := 0 }
set_option maxHeartbeats 4000000 in
set_option maxRecDepth 100000 in
theorem c_X4_isMark (l : Launch) (D : va_G) (ts : Nat → Nat) (cyI cyJ cyZ : ClassId) (h_d : Nat → Nat) (h_r : Nat → Nat) (sz : Nat) (r_length : Int32) (r_fault : Int32) (r_place : Int32) (r_at : Int32) (r_end : Int32) (r_name : Int32) (r_tape : Nat → Int32) (p0 : Int32) (Q : Int32 → Prop) (hvc : v_X4_isMark r_length r_at r_tape p0 Q) : Met l yX4_isMark wsX4_isMark rm_X4_isMark (va_Pc [.ref (h_r 0), .int p0] (cPre D ts [(cyI, .int), (cyJ, .long), (cyZ, .boolean)] [(h_r 0, .inr (4, [.ref (h_d 0), .ref (h_r 2), .ref (h_r 3), .int r_length, .int r_fault, .int r_place, .int r_at, .int r_end, .int r_name])), (h_r 2, .inl (cyI, 900, .inl r_tape))] sz)) (va_Qi (fun (r : Int32) (u : Unit) => Q r ) (cPost D [(cyI, .int), (cyJ, .long), (cyZ, .boolean)] (fun (u : Unit) => [(h_r 0, .inr (4, [.ref (h_d 0), .ref (h_r 2), .ref (h_r 3), .int r_length, .int r_fault, .int r_place, .int r_at, .int r_end, .int r_name])), (h_r 2, .inl (cyI, 900, .inl r_tape))]) (va_A [(h_r 0, .inr (4, [.ref (h_d 0), .ref (h_r 2), .ref (h_r 3), .int r_length, .int r_fault, .int r_place, .int r_at, .int r_end, .int r_name])), (h_r 2, .inl (cyI, 900, .inl r_tape))] sz)) (va_A [(h_r 0, .inr (4, [.ref (h_d 0), .ref (h_r 2), .ref (h_r 3), .int r_length, .int r_fault, .int r_place, .int r_at, .int r_end, .int r_name])), (h_r 2, .inl (cyI, 900, .inl r_tape))] sz)) 0 0 (va_A [(h_r 0, .inr (4, [.ref (h_d 0), .ref (h_r 2), .ref (h_r 3), .int r_length, .int r_fault, .int r_place, .int r_at, .int r_end, .int r_name])), (h_r 2, .inl (cyI, 900, .inl r_tape))] sz) := by
  refine kEnter_z (cc := cX4_isMark) (maxL := 2) (ty := .boolean) (by decide) rfl (Nat.le_of_ble_eq_true rfl) ?_
  intro p e s m args below meth c A ls QQ hx hb hml hown hts hsz hA hP hD hK hE hS hl hret
  clear hsz
  have hown : s.vm.findClass RX4 = some m.cls := hown
  have inX4 : ∀ w ∈ wsX40, w ∈ wsX4_isMark := fun _ h => List.mem_cons_of_mem _ (List.mem_append_right _ h)
  have f75 := hts (.fieldLink RX4 75 "ScanTester$Reader" "at" "I") (List.mem_of_getElem? (i := 1) rfl)
  have f26 := hts (.fieldLink RX4 26 "ScanTester$Reader" "length" "I") (List.mem_of_getElem? (i := 2) rfl)
  have f11 := hts (.fieldLink RX4 11 "ScanTester$Reader" "tape" "[I") (List.mem_of_getElem? (i := 3) rfl)
  have hl : lv_has ls 2 [(0, .ref (h_r 0)), (1, .int p0)] := hl
  refine lv_aload_n hx hb dX4_isMark_0 rfl (lv_at hl 0 rfl) ?_
  refine va_get (D := D) (ci := 4) (C := RX4) (T := TX4) (N := 9) hx hb hts inX4 hown hK hP 0 rfl rfl 6 (by decide) f75 (fun _ h9 => h9) rfl dX4_isMark_1 ?_
  refine lv_aload_n hx hb dX4_isMark_4 rfl (lv_at hl 0 rfl) ?_
  refine va_get (D := D) (ci := 4) (C := RX4) (T := TX4) (N := 9) hx hb hts inX4 hown hK hP 0 rfl rfl 3 (by decide) f26 (fun _ h9 => h9) rfl dX4_isMark_5 ?_
  obtain ⟨hvt, hvf⟩ := hvc
  refine lv_icmp_ge (tgt := 28) hx hb dX4_isMark_8 (by decide) (fun hc => ?_) (fun hc => ?_)
  · have hvc := hvt hc
    refine lv_iconst (v := 0) hx hb dX4_isMark_28 (by decide) ?_
    exact hret (0 : Int32) () _ _ _ _ rfl hvc hP hD hS dX4_isMark_29
  · have hvc := hvf hc
    refine lv_aload_n hx hb dX4_isMark_11 rfl (lv_at hl 0 rfl) ?_
    refine va_get (D := D) (ci := 4) (C := RX4) (T := TX4) (N := 9) hx hb hts inX4 hown hK hP 0 rfl rfl 1 (by decide) f11 (fun _ h9 => h9) rfl dX4_isMark_12 ?_
    refine lv_aload_n hx hb dX4_isMark_15 rfl (lv_at hl 0 rfl) ?_
    refine va_get (D := D) (ci := 4) (C := RX4) (T := TX4) (N := 9) hx hb hts inX4 hown hK hP 0 rfl rfl 6 (by decide) f75 (fun _ h9 => h9) rfl dX4_isMark_16 ?_
    obtain ⟨hi, hvc⟩ := hvc
    refine va_iald hx hb hK hP 1 0 rfl rfl hi dX4_isMark_19 ?_
    refine lv_iload_n hx hb dX4_isMark_20 rfl (lv_at hl 1 rfl) ?_
    obtain ⟨hvt, hvf⟩ := hvc
    refine lv_icmp_ne (tgt := 28) hx hb dX4_isMark_21 (by decide) (fun hc => ?_) (fun hc => ?_)
    · have hvc := hvt hc
      refine lv_iconst (v := 0) hx hb dX4_isMark_28 (by decide) ?_
      exact hret (0 : Int32) () _ _ _ _ rfl hvc hP hD hS dX4_isMark_29
    · have hvc := hvf hc
      refine lv_iconst (v := 1) hx hb dX4_isMark_24 (by decide) ?_
      refine lv_goto (tgt := 29) hx hb dX4_isMark_25 (by decide) ?_
      exact hret (1 : Int32) () _ _ _ _ rfl hvc hP hD hS dX4_isMark_29
def v_X4_takes (r_length : Int32) (r_at : Int32) (r_end : Int32) (r_name : Int32) (r_tape : Nat → Int32) (p0 : Int32) (Q : Int32 → Int32 → Int32 → Int32 → Prop) : Prop := v_X4_isMark  r_length r_at r_tape p0 (fun (r1 : Int32) => (¬ r1 = (0) → v_X4_advance  r_length r_at r_end r_name r_tape (fun (n2 : Int32) (n3 : Int32) (n4 : Int32) => Q (1 : Int32) n2 n3 n4)) ∧ (r1 = (0) → Q (0 : Int32) r_at r_end r_name))
theorem hd_X4_takes : yX4_takes.cls = RX4 ∧ yX4_takes.cls ≠ "java/lang/invoke/MethodHandle" ∧ yX4_takes.cls ≠ "java/lang/invoke/VarHandle" ∧ (parseMethodDescriptor yX4_takes.desc).map (fun d => d.parameters.length) = some 1 := by decide +kernel
abbrev rm_X4_takes : Room := { frames := 2, cells := 0, slots := 0, locals := 42 }
set_option maxHeartbeats 4000000 in
set_option maxRecDepth 100000 in
theorem c_X4_takes (l : Launch) (D : va_G) (ts : Nat → Nat) (cyI cyJ cyZ : ClassId) (h_d : Nat → Nat) (h_r : Nat → Nat) (sz : Nat) (r_length : Int32) (r_fault : Int32) (r_place : Int32) (r_at : Int32) (r_end : Int32) (r_name : Int32) (r_tape : Nat → Int32) (p0 : Int32) (Q : Int32 → Int32 → Int32 → Int32 → Prop) (hvc : v_X4_takes r_length r_at r_end r_name r_tape p0 Q) : Met l yX4_takes wsX4_takes rm_X4_takes (va_Pc [.ref (h_r 0), .int p0] (cPre D ts [(cyI, .int), (cyJ, .long), (cyZ, .boolean)] [(h_r 0, .inr (4, [.ref (h_d 0), .ref (h_r 2), .ref (h_r 3), .int r_length, .int r_fault, .int r_place, .int r_at, .int r_end, .int r_name])), (h_r 2, .inl (cyI, 900, .inl r_tape))] sz)) (va_Qi (fun (r : Int32) (u : Int32 × Int32 × Int32) => Q r u.1 u.2.1 u.2.2) (cPost D [(cyI, .int), (cyJ, .long), (cyZ, .boolean)] (fun (u : Int32 × Int32 × Int32) => [(h_r 0, .inr (4, [.ref (h_d 0), .ref (h_r 2), .ref (h_r 3), .int r_length, .int r_fault, .int r_place, .int (u.1), .int (u.2.1), .int (u.2.2)])), (h_r 2, .inl (cyI, 900, .inl r_tape))]) (va_A [(h_r 0, .inr (4, [.ref (h_d 0), .ref (h_r 2), .ref (h_r 3), .int r_length, .int r_fault, .int r_place, .int r_at, .int r_end, .int r_name])), (h_r 2, .inl (cyI, 900, .inl r_tape))] sz)) (va_A [(h_r 0, .inr (4, [.ref (h_d 0), .ref (h_r 2), .ref (h_r 3), .int r_length, .int r_fault, .int r_place, .int r_at, .int r_end, .int r_name])), (h_r 2, .inl (cyI, 900, .inl r_tape))] sz)) 0 0 (va_A [(h_r 0, .inr (4, [.ref (h_d 0), .ref (h_r 2), .ref (h_r 3), .int r_length, .int r_fault, .int r_place, .int r_at, .int r_end, .int r_name])), (h_r 2, .inl (cyI, 900, .inl r_tape))] sz) := by
  refine kEnter_z (cc := cX4_takes) (maxL := 2) (ty := .boolean) (by decide) rfl (Nat.le_of_ble_eq_true rfl) ?_
  intro p e s m args below meth c A ls QQ hx hb hml hown hts hsz hA hP hD hK hE hS hl hret
  clear hsz
  have hown : s.vm.findClass RX4 = some m.cls := hown
  have hl : lv_has ls 2 [(0, .ref (h_r 0)), (1, .int p0)] := hl
  delta v_X4_takes at hvc
  refine lv_aload_n hx hb dX4_takes_0 rfl (lv_at hl 0 rfl) ?_
  refine lv_iload_n hx hb dX4_takes_1 rfl (lv_at hl 1 rfl) ?_
  refine kV_i (wc := [(h_r 0, .inr (4, [.ref (h_d 0), .ref (h_r 2), .ref (h_r 3), .int r_length, .int r_fault, .int r_place, .int r_at, .int r_end, .int r_name])), (h_r 2, .inl (cyI, 900, .inl r_tape))]) (wr := []) (As := [.int p0]) (rest := []) ⟨hx, hb, hml, hown, hts⟩ hP hD hK hE hS hA [0, 1] [] rfl rfl (by decide) (by decide) (by decide) (c_X4_isMark l D ts cyI cyJ cyZ h_d h_r _ r_length r_fault r_place r_at r_end r_name r_tape p0 _ hvc) (cwV 1 hts gX4_takes_X4_isMark rfl rfl rfl hd_X4_isMark ⟨Nat.le_of_ble_eq_true rfl, Nat.le_of_ble_eq_true rfl⟩) (ci := 4) rfl rfl rfl hl.1 rfl (Nat.zero_le _) (Nat.zero_le _) rfl (Nat.le_of_ble_eq_true rfl) dX4_takes_2 (fun r1 _u H locs hvc hP hD hS => ?_)
  try dsimp only at hvc
  have hP : va_P D vwCl [(h_r 0, .inr (4, [.ref (h_d 0), .ref (h_r 2), .ref (h_r 3), .int r_length, .int r_fault, .int r_place, .int r_at, .int r_end, .int r_name])), (h_r 2, .inl (cyI, 900, .inl r_tape))] H := sub_P hP (isC := [0, 1]) rfl
  have hD : va_D A [(h_r 0, .inr (4, [.ref (h_d 0), .ref (h_r 2), .ref (h_r 3), .int r_length, .int r_fault, .int r_place, .int r_at, .int r_end, .int r_name])), (h_r 2, .inl (cyI, 900, .inl r_tape))] := hD.sub [0, 1] (by decide) rfl
  obtain ⟨hvt, hvf⟩ := hvc
  refine lv_if_ne (tgt := 10) hx hb dX4_takes_5 (by decide) (fun hc => ?_) (fun hc => ?_)
  · have hvc := hvt hc
    refine lv_aload_n hx hb dX4_takes_10 rfl (lv_at hl 0 rfl) ?_
    refine kV_v (wc := [(h_r 0, .inr (4, [.ref (h_d 0), .ref (h_r 2), .ref (h_r 3), .int r_length, .int r_fault, .int r_place, .int r_at, .int r_end, .int r_name])), (h_r 2, .inl (cyI, 900, .inl r_tape))]) (wr := []) (As := []) (rest := []) ⟨hx, hb, hml, hown, hts⟩ hP hD hK hE hS hA [0, 1] [] rfl rfl (by decide) (by decide) (by decide) (c_X4_advance l D ts cyI cyJ cyZ h_d h_r _ r_length r_fault r_place r_at r_end r_name r_tape _ hvc) (cwV 0 hts gX4_takes_X4_advance rfl rfl rfl hd_X4_advance ⟨Nat.le_of_ble_eq_true rfl, Nat.le_of_ble_eq_true rfl⟩) (ci := 4) rfl rfl rfl hl.1 rfl (Nat.zero_le _) (Nat.zero_le _) rfl (Nat.le_of_ble_eq_true rfl) dX4_takes_11 (fun u H locs hvc hP hD hS => ?_)
    obtain ⟨n2, n3, n4⟩ := u
    try dsimp only at hvc
    have hP : va_P D vwCl [(h_r 0, .inr (4, [.ref (h_d 0), .ref (h_r 2), .ref (h_r 3), .int r_length, .int r_fault, .int r_place, .int n2, .int n3, .int n4])), (h_r 2, .inl (cyI, 900, .inl r_tape))] H := sub_P hP (isC := [0, 1]) rfl
    have hD : va_D A [(h_r 0, .inr (4, [.ref (h_d 0), .ref (h_r 2), .ref (h_r 3), .int r_length, .int r_fault, .int r_place, .int n2, .int n3, .int n4])), (h_r 2, .inl (cyI, 900, .inl r_tape))] := hD.sub [0, 1] (by decide) rfl
    refine lv_iconst (v := 1) hx hb dX4_takes_14 (by decide) ?_
    exact hret (1 : Int32) (n2, n3, n4) _ _ _ _ rfl hvc hP hD hS dX4_takes_15
  · have hvc := hvf hc
    refine lv_iconst (v := 0) hx hb dX4_takes_8 (by decide) ?_
    exact hret (0 : Int32) (r_at, r_end, r_name) _ _ _ _ rfl hvc hP hD hS dX4_takes_9
def v_X4_mark_b20 (r_length : Int32) (r_tape : Nat → Int32) (Q : Int32 → Int32 → Int32 → Int32 → Int32 → Int32 → Prop)  : Int32 → Int32 → Int32 → Int32 → Int32 → Prop := fun (r_fault : Int32) (r_place : Int32) (r_at : Int32) (r_end : Int32) (r_name : Int32) => Q (1 : Int32) r_fault r_place r_at r_end r_name
def v_X4_mark (r_length : Int32) (r_fault : Int32) (r_place : Int32) (r_at : Int32) (r_end : Int32) (r_name : Int32) (r_tape : Nat → Int32) (p0 : Int32) (Q : Int32 → Int32 → Int32 → Int32 → Int32 → Int32 → Prop) : Prop := v_X4_takes  r_length r_at r_end r_name r_tape p0 (fun (r4 : Int32) (n1 : Int32) (n2 : Int32) (n3 : Int32) => (¬ r4 = (0) → v_X4_mark_b20 r_length r_tape Q  r_fault r_place n1 n2 n3) ∧ (r4 = (0) → v_X4_refuse  r_fault r_place (1 : Int32) n1 (fun (r7 : Int32) (n5 : Int32) (n6 : Int32) => (r7 = (0) → Q (0 : Int32) n5 n6 n1 n2 n3) ∧ (¬ r7 = (0) → v_X4_mark_b20 r_length r_tape Q  n5 n6 n1 n2 n3))))
theorem hd_X4_mark : yX4_mark.cls = RX4 ∧ yX4_mark.cls ≠ "java/lang/invoke/MethodHandle" ∧ yX4_mark.cls ≠ "java/lang/invoke/VarHandle" ∧ (parseMethodDescriptor yX4_mark.desc).map (fun d => d.parameters.length) = some 1 := by decide +kernel
abbrev rm_X4_mark : Room := { frames := 3, cells := 0, slots := 0, locals := 63 }
set_option maxHeartbeats 4000000 in
set_option maxRecDepth 100000 in
theorem c_X4_mark (l : Launch) (D : va_G) (ts : Nat → Nat) (cyI cyJ cyZ : ClassId) (h_d : Nat → Nat) (h_r : Nat → Nat) (sz : Nat) (r_length : Int32) (r_fault : Int32) (r_place : Int32) (r_at : Int32) (r_end : Int32) (r_name : Int32) (r_tape : Nat → Int32) (p0 : Int32) (Q : Int32 → Int32 → Int32 → Int32 → Int32 → Int32 → Prop) (hvc : v_X4_mark r_length r_fault r_place r_at r_end r_name r_tape p0 Q) : Met l yX4_mark wsX4_mark rm_X4_mark (va_Pc [.ref (h_r 0), .int p0] (cPre D ts [(cyI, .int), (cyJ, .long), (cyZ, .boolean)] [(h_r 0, .inr (4, [.ref (h_d 0), .ref (h_r 2), .ref (h_r 3), .int r_length, .int r_fault, .int r_place, .int r_at, .int r_end, .int r_name])), (h_r 2, .inl (cyI, 900, .inl r_tape))] sz)) (va_Qi (fun (r : Int32) (u : Int32 × Int32 × Int32 × Int32 × Int32) => Q r u.1 u.2.1 u.2.2.1 u.2.2.2.1 u.2.2.2.2) (cPost D [(cyI, .int), (cyJ, .long), (cyZ, .boolean)] (fun (u : Int32 × Int32 × Int32 × Int32 × Int32) => [(h_r 0, .inr (4, [.ref (h_d 0), .ref (h_r 2), .ref (h_r 3), .int r_length, .int (u.1), .int (u.2.1), .int (u.2.2.1), .int (u.2.2.2.1), .int (u.2.2.2.2)])), (h_r 2, .inl (cyI, 900, .inl r_tape))]) (va_A [(h_r 0, .inr (4, [.ref (h_d 0), .ref (h_r 2), .ref (h_r 3), .int r_length, .int r_fault, .int r_place, .int r_at, .int r_end, .int r_name])), (h_r 2, .inl (cyI, 900, .inl r_tape))] sz)) (va_A [(h_r 0, .inr (4, [.ref (h_d 0), .ref (h_r 2), .ref (h_r 3), .int r_length, .int r_fault, .int r_place, .int r_at, .int r_end, .int r_name])), (h_r 2, .inl (cyI, 900, .inl r_tape))] sz)) 0 0 (va_A [(h_r 0, .inr (4, [.ref (h_d 0), .ref (h_r 2), .ref (h_r 3), .int r_length, .int r_fault, .int r_place, .int r_at, .int r_end, .int r_name])), (h_r 2, .inl (cyI, 900, .inl r_tape))] sz) := by
  refine kEnter_z (cc := cX4_mark) (maxL := 2) (ty := .boolean) (by decide) rfl (Nat.le_of_ble_eq_true rfl) ?_
  intro p e s m args below meth c A ls QQ hx hb hml hown hts hsz hA hP hD hK hE hS hl hret
  clear hsz
  have hown : s.vm.findClass RX4 = some m.cls := hown
  have inX4 : ∀ w ∈ wsX40, w ∈ wsX4_mark := fun _ h => List.mem_cons_of_mem _ (List.mem_append_right _ h)
  have f75 := hts (.fieldLink RX4 75 "ScanTester$Reader" "at" "I") (List.mem_of_getElem? (i := 1) rfl)
  have w20 : ∀ (r_fault : Int32) (r_place : Int32) (r_at : Int32) (r_end : Int32) (r_name : Int32) (H : Heap) (locs : List Loc) (ls : Array Slot), v_X4_mark_b20 r_length r_tape Q  r_fault r_place r_at r_end r_name → va_P D vwCl [(h_r 0, .inr (4, [.ref (h_d 0), .ref (h_r 2), .ref (h_r 3), .int r_length, .int r_fault, .int r_place, .int r_at, .int r_end, .int r_name])), (h_r 2, .inl (cyI, 900, .inl r_tape))] H → va_D A [(h_r 0, .inr (4, [.ref (h_d 0), .ref (h_r 2), .ref (h_r 3), .int r_length, .int r_fault, .int r_place, .int r_at, .int r_end, .int r_name])), (h_r 2, .inl (cyI, 900, .inl r_tape))] → va_S A s.heap H locs → lv_has ls 2 [] → W p l e rm_X4_mark s m args below meth c H locs 0 0 QQ (F0 m 20 ls []) := by
    intro r_fault r_place r_at r_end r_name H locs ls hvc hP hD hS hl
    refine lv_iconst (v := 1) hx hb dX4_mark_20 (by decide) ?_
    refine lv_goto (tgt := 25) hx hb dX4_mark_21 (by decide) ?_
    exact hret (1 : Int32) (r_fault, r_place, r_at, r_end, r_name) _ _ _ _ rfl hvc hP hD hS dX4_mark_25
  have hl : lv_has ls 2 [(0, .ref (h_r 0)), (1, .int p0)] := hl
  delta v_X4_mark at hvc
  refine lv_aload_n hx hb dX4_mark_0 rfl (lv_at hl 0 rfl) ?_
  refine lv_iload_n hx hb dX4_mark_1 rfl (lv_at hl 1 rfl) ?_
  refine kV_i (wc := [(h_r 0, .inr (4, [.ref (h_d 0), .ref (h_r 2), .ref (h_r 3), .int r_length, .int r_fault, .int r_place, .int r_at, .int r_end, .int r_name])), (h_r 2, .inl (cyI, 900, .inl r_tape))]) (wr := []) (As := [.int p0]) (rest := []) ⟨hx, hb, hml, hown, hts⟩ hP hD hK hE hS hA [0, 1] [] rfl rfl (by decide) (by decide) (by decide) (c_X4_takes l D ts cyI cyJ cyZ h_d h_r _ r_length r_fault r_place r_at r_end r_name r_tape p0 _ hvc) (cwV 1 hts gX4_mark_X4_takes rfl rfl rfl hd_X4_takes ⟨Nat.le_of_ble_eq_true rfl, Nat.le_of_ble_eq_true rfl⟩) (ci := 4) rfl rfl rfl hl.1 rfl (Nat.zero_le _) (Nat.zero_le _) rfl (Nat.le_of_ble_eq_true rfl) dX4_mark_2 (fun r4 u H locs hvc hP hD hS => ?_)
  obtain ⟨n1, n2, n3⟩ := u
  try dsimp only at hvc
  have hP : va_P D vwCl [(h_r 0, .inr (4, [.ref (h_d 0), .ref (h_r 2), .ref (h_r 3), .int r_length, .int r_fault, .int r_place, .int n1, .int n2, .int n3])), (h_r 2, .inl (cyI, 900, .inl r_tape))] H := sub_P hP (isC := [0, 1]) rfl
  have hD : va_D A [(h_r 0, .inr (4, [.ref (h_d 0), .ref (h_r 2), .ref (h_r 3), .int r_length, .int r_fault, .int r_place, .int n1, .int n2, .int n3])), (h_r 2, .inl (cyI, 900, .inl r_tape))] := hD.sub [0, 1] (by decide) rfl
  obtain ⟨hvt, hvf⟩ := hvc
  refine lv_if_ne (tgt := 20) hx hb dX4_mark_5 (by decide) (fun hc => ?_) (fun hc => ?_)
  · have hvc := hvt hc
    exact w20 r_fault r_place n1 n2 n3 _ _ _ hvc hP hD hS (lv_sub hl [] rfl)
  · have hvc := hvf hc
    refine lv_aload_n hx hb dX4_mark_8 rfl (lv_at hl 0 rfl) ?_
    refine lv_iconst (v := 1) hx hb dX4_mark_9 (by decide) ?_
    refine lv_aload_n hx hb dX4_mark_10 rfl (lv_at hl 0 rfl) ?_
    refine va_get (D := D) (ci := 4) (C := RX4) (T := TX4) (N := 9) hx hb hts inX4 hown hK hP 0 rfl rfl 6 (by decide) f75 (fun _ h9 => h9) rfl dX4_mark_11 ?_
    refine kV_i (wc := [(h_r 0, .inr (4, [.ref (h_d 0), .ref (h_r 2), .ref (h_r 3), .int r_length, .int r_fault, .int r_place, .int n1, .int n2, .int n3]))]) (wr := [(h_r 2, .inl (cyI, 900, .inl r_tape))]) (As := [.int (1 : Int32), .int n1]) (rest := []) ⟨hx, hb, hml, hown, hts⟩ hP hD hK hE hS hA [0] [1] rfl rfl (by decide) (by decide) (by decide) (c_X4_refuse l D ts cyI cyJ cyZ h_d h_r _ r_length r_fault r_place n1 n2 n3 (1 : Int32) n1 _ hvc) (cwV 2 hts gX4_mark_X4_refuse rfl rfl rfl hd_X4_refuse ⟨Nat.le_of_ble_eq_true rfl, Nat.le_of_ble_eq_true rfl⟩) (ci := 4) rfl rfl rfl hl.1 rfl (Nat.zero_le _) (Nat.zero_le _) rfl (Nat.le_of_ble_eq_true rfl) dX4_mark_14 (fun r7 u H locs hvc hP hD hS => ?_)
    obtain ⟨n5, n6⟩ := u
    try dsimp only at hvc
    have hP : va_P D vwCl [(h_r 0, .inr (4, [.ref (h_d 0), .ref (h_r 2), .ref (h_r 3), .int r_length, .int n5, .int n6, .int n1, .int n2, .int n3])), (h_r 2, .inl (cyI, 900, .inl r_tape))] H := sub_P hP (isC := [1, 0]) rfl
    have hD : va_D A [(h_r 0, .inr (4, [.ref (h_d 0), .ref (h_r 2), .ref (h_r 3), .int r_length, .int n5, .int n6, .int n1, .int n2, .int n3])), (h_r 2, .inl (cyI, 900, .inl r_tape))] := hD.sub [1, 0] (by decide) rfl
    obtain ⟨hvt, hvf⟩ := hvc
    refine lv_if_eq (tgt := 24) hx hb dX4_mark_17 (by decide) (fun hc => ?_) (fun hc => ?_)
    · have hvc := hvt hc
      refine lv_iconst (v := 0) hx hb dX4_mark_24 (by decide) ?_
      exact hret (0 : Int32) (n5, n6, n1, n2, n3) _ _ _ _ rfl hvc hP hD hS dX4_mark_25
    · have hvc := hvf hc
      exact w20 n5 n6 n1 n2 n3 _ _ _ hvc hP hD hS (lv_sub hl [] rfl)
def v_X4_tapeEnd_b23 (r_length : Int32) (r_at : Int32) (Q : Int32 → Int32 → Int32 → Prop)  : Int32 → Int32 → Prop := fun (r_fault : Int32) (r_place : Int32) => Q (1 : Int32) r_fault r_place
def v_X4_tapeEnd (r_length : Int32) (r_fault : Int32) (r_place : Int32) (r_at : Int32)  (Q : Int32 → Int32 → Int32 → Prop) : Prop := (r_at = r_length → v_X4_tapeEnd_b23 r_length r_at Q  r_fault r_place) ∧ (¬ r_at = r_length → v_X4_refuse  r_fault r_place (1 : Int32) r_at (fun (r3 : Int32) (n1 : Int32) (n2 : Int32) => (r3 = (0) → Q (0 : Int32) n1 n2) ∧ (¬ r3 = (0) → v_X4_tapeEnd_b23 r_length r_at Q  n1 n2)))
theorem hd_X4_tapeEnd : yX4_tapeEnd.cls = RX4 ∧ yX4_tapeEnd.cls ≠ "java/lang/invoke/MethodHandle" ∧ yX4_tapeEnd.cls ≠ "java/lang/invoke/VarHandle" ∧ (parseMethodDescriptor yX4_tapeEnd.desc).map (fun d => d.parameters.length) = some 0 := by decide +kernel
abbrev rm_X4_tapeEnd : Room := { frames := 1, cells := 0, slots := 0, locals := 22 }
set_option maxHeartbeats 4000000 in
set_option maxRecDepth 100000 in
theorem c_X4_tapeEnd (l : Launch) (D : va_G) (ts : Nat → Nat) (cyI cyJ cyZ : ClassId) (h_d : Nat → Nat) (h_r : Nat → Nat) (sz : Nat) (r_length : Int32) (r_fault : Int32) (r_place : Int32) (r_at : Int32) (r_end : Int32) (r_name : Int32)  (Q : Int32 → Int32 → Int32 → Prop) (hvc : v_X4_tapeEnd r_length r_fault r_place r_at  Q) : Met l yX4_tapeEnd wsX4_tapeEnd rm_X4_tapeEnd (va_Pc [.ref (h_r 0)] (cPre D ts [(cyI, .int), (cyJ, .long), (cyZ, .boolean)] [(h_r 0, .inr (4, [.ref (h_d 0), .ref (h_r 2), .ref (h_r 3), .int r_length, .int r_fault, .int r_place, .int r_at, .int r_end, .int r_name]))] sz)) (va_Qi (fun (r : Int32) (u : Int32 × Int32) => Q r u.1 u.2) (cPost D [(cyI, .int), (cyJ, .long), (cyZ, .boolean)] (fun (u : Int32 × Int32) => [(h_r 0, .inr (4, [.ref (h_d 0), .ref (h_r 2), .ref (h_r 3), .int r_length, .int (u.1), .int (u.2), .int r_at, .int r_end, .int r_name]))]) (va_A [(h_r 0, .inr (4, [.ref (h_d 0), .ref (h_r 2), .ref (h_r 3), .int r_length, .int r_fault, .int r_place, .int r_at, .int r_end, .int r_name]))] sz)) (va_A [(h_r 0, .inr (4, [.ref (h_d 0), .ref (h_r 2), .ref (h_r 3), .int r_length, .int r_fault, .int r_place, .int r_at, .int r_end, .int r_name]))] sz)) 0 0 (va_A [(h_r 0, .inr (4, [.ref (h_d 0), .ref (h_r 2), .ref (h_r 3), .int r_length, .int r_fault, .int r_place, .int r_at, .int r_end, .int r_name]))] sz) := by
  refine kEnter_z (cc := cX4_tapeEnd) (maxL := 1) (ty := .boolean) (by decide) rfl (Nat.le_of_ble_eq_true rfl) ?_
  intro p e s m args below meth c A ls QQ hx hb hml hown hts hsz hA hP hD hK hE hS hl hret
  clear hsz
  have hown : s.vm.findClass RX4 = some m.cls := hown
  have inX4 : ∀ w ∈ wsX40, w ∈ wsX4_tapeEnd := fun _ h => List.mem_cons_of_mem _ (List.mem_append_right _ h)
  have f75 := hts (.fieldLink RX4 75 "ScanTester$Reader" "at" "I") (List.mem_of_getElem? (i := 1) rfl)
  have f26 := hts (.fieldLink RX4 26 "ScanTester$Reader" "length" "I") (List.mem_of_getElem? (i := 2) rfl)
  have w23 : ∀ (r_fault : Int32) (r_place : Int32) (H : Heap) (locs : List Loc) (ls : Array Slot), v_X4_tapeEnd_b23 r_length r_at Q  r_fault r_place → va_P D vwCl [(h_r 0, .inr (4, [.ref (h_d 0), .ref (h_r 2), .ref (h_r 3), .int r_length, .int r_fault, .int r_place, .int r_at, .int r_end, .int r_name]))] H → va_D A [(h_r 0, .inr (4, [.ref (h_d 0), .ref (h_r 2), .ref (h_r 3), .int r_length, .int r_fault, .int r_place, .int r_at, .int r_end, .int r_name]))] → va_S A s.heap H locs → lv_has ls 1 [] → W p l e rm_X4_tapeEnd s m args below meth c H locs 0 0 QQ (F0 m 23 ls []) := by
    intro r_fault r_place H locs ls hvc hP hD hS hl
    refine lv_iconst (v := 1) hx hb dX4_tapeEnd_23 (by decide) ?_
    refine lv_goto (tgt := 28) hx hb dX4_tapeEnd_24 (by decide) ?_
    exact hret (1 : Int32) (r_fault, r_place) _ _ _ _ rfl hvc hP hD hS dX4_tapeEnd_28
  have hl : lv_has ls 1 [(0, .ref (h_r 0))] := hl
  refine lv_aload_n hx hb dX4_tapeEnd_0 rfl (lv_at hl 0 rfl) ?_
  refine va_get (D := D) (ci := 4) (C := RX4) (T := TX4) (N := 9) hx hb hts inX4 hown hK hP 0 rfl rfl 6 (by decide) f75 (fun _ h9 => h9) rfl dX4_tapeEnd_1 ?_
  refine lv_aload_n hx hb dX4_tapeEnd_4 rfl (lv_at hl 0 rfl) ?_
  refine va_get (D := D) (ci := 4) (C := RX4) (T := TX4) (N := 9) hx hb hts inX4 hown hK hP 0 rfl rfl 3 (by decide) f26 (fun _ h9 => h9) rfl dX4_tapeEnd_5 ?_
  obtain ⟨hvt, hvf⟩ := hvc
  refine lv_icmp_eq (tgt := 23) hx hb dX4_tapeEnd_8 (by decide) (fun hc => ?_) (fun hc => ?_)
  · have hvc := hvt hc
    exact w23 r_fault r_place _ _ _ hvc hP hD hS (lv_sub hl [] rfl)
  · have hvc := hvf hc
    refine lv_aload_n hx hb dX4_tapeEnd_11 rfl (lv_at hl 0 rfl) ?_
    refine lv_iconst (v := 1) hx hb dX4_tapeEnd_12 (by decide) ?_
    refine lv_aload_n hx hb dX4_tapeEnd_13 rfl (lv_at hl 0 rfl) ?_
    refine va_get (D := D) (ci := 4) (C := RX4) (T := TX4) (N := 9) hx hb hts inX4 hown hK hP 0 rfl rfl 6 (by decide) f75 (fun _ h9 => h9) rfl dX4_tapeEnd_14 ?_
    refine kV_i (wc := [(h_r 0, .inr (4, [.ref (h_d 0), .ref (h_r 2), .ref (h_r 3), .int r_length, .int r_fault, .int r_place, .int r_at, .int r_end, .int r_name]))]) (wr := []) (As := [.int (1 : Int32), .int r_at]) (rest := []) ⟨hx, hb, hml, hown, hts⟩ hP hD hK hE hS hA [0] [] rfl rfl (by decide) (by decide) (by decide) (c_X4_refuse l D ts cyI cyJ cyZ h_d h_r _ r_length r_fault r_place r_at r_end r_name (1 : Int32) r_at _ hvc) (cwV 2 hts gX4_tapeEnd_X4_refuse rfl rfl rfl hd_X4_refuse ⟨Nat.le_of_ble_eq_true rfl, Nat.le_of_ble_eq_true rfl⟩) (ci := 4) rfl rfl rfl hl.1 rfl (Nat.zero_le _) (Nat.zero_le _) rfl (Nat.le_of_ble_eq_true rfl) dX4_tapeEnd_17 (fun r3 u H locs hvc hP hD hS => ?_)
    obtain ⟨n1, n2⟩ := u
    try dsimp only at hvc
    have hP : va_P D vwCl [(h_r 0, .inr (4, [.ref (h_d 0), .ref (h_r 2), .ref (h_r 3), .int r_length, .int n1, .int n2, .int r_at, .int r_end, .int r_name]))] H := sub_P hP (isC := [0]) rfl
    have hD : va_D A [(h_r 0, .inr (4, [.ref (h_d 0), .ref (h_r 2), .ref (h_r 3), .int r_length, .int n1, .int n2, .int r_at, .int r_end, .int r_name]))] := hD.sub [0] (by decide) rfl
    obtain ⟨hvt, hvf⟩ := hvc
    refine lv_if_eq (tgt := 27) hx hb dX4_tapeEnd_20 (by decide) (fun hc => ?_) (fun hc => ?_)
    · have hvc := hvt hc
      refine lv_iconst (v := 0) hx hb dX4_tapeEnd_27 (by decide) ?_
      exact hret (0 : Int32) (n1, n2) _ _ _ _ rfl hvc hP hD hS dX4_tapeEnd_28
    · have hvc := hvf hc
      exact w23 n1 n2 _ _ _ hvc hP hD hS (lv_sub hl [] rfl)
def v_X4_isGiven_b43 (r_at : Int32) (r_name : Int32) (r_netOfName : Nat → Int32) (Q : Int32 → Int32 → Int32 → Prop)  : Int32 → Int32 → Prop := fun (r_fault : Int32) (r_place : Int32) => Q (1 : Int32) r_fault r_place
def v_X4_isGiven (r_fault : Int32) (r_place : Int32) (r_at : Int32) (r_name : Int32) (r_netOfName : Nat → Int32)  (Q : Int32 → Int32 → Int32 → Prop) : Prop := (¬ r_name = (-1 : Int32) → vp_in r_name 286 ∧ (¬ (r_netOfName r_name.toNatClampNeg) = (-1 : Int32) → v_X4_isGiven_b43 r_at r_name r_netOfName Q  r_fault r_place) ∧ ((r_netOfName r_name.toNatClampNeg) = (-1 : Int32) → v_X4_refuse  r_fault r_place (2 : Int32) r_at (fun (r3 : Int32) (n1 : Int32) (n2 : Int32) => (r3 = (0) → Q (0 : Int32) n1 n2) ∧ (¬ r3 = (0) → v_X4_isGiven_b43 r_at r_name r_netOfName Q  n1 n2)))) ∧ (r_name = (-1 : Int32) → v_X4_refuse  r_fault r_place (1 : Int32) r_at (fun (r6 : Int32) (n4 : Int32) (n5 : Int32) => (narrow .boolean (.int r6) = .int r6) ∧ Q r6 n4 n5))
theorem hd_X4_isGiven : yX4_isGiven.cls = RX4 ∧ yX4_isGiven.cls ≠ "java/lang/invoke/MethodHandle" ∧ yX4_isGiven.cls ≠ "java/lang/invoke/VarHandle" ∧ (parseMethodDescriptor yX4_isGiven.desc).map (fun d => d.parameters.length) = some 0 := by decide +kernel
abbrev rm_X4_isGiven : Room := { frames := 1, cells := 0, slots := 0, locals := 22 }
set_option maxHeartbeats 4000000 in
set_option maxRecDepth 100000 in
theorem c_X4_isGiven (l : Launch) (D : va_G) (ts : Nat → Nat) (cyI cyJ cyZ : ClassId) (h_d : Nat → Nat) (h_r : Nat → Nat) (sz : Nat) (r_length : Int32) (r_fault : Int32) (r_place : Int32) (r_at : Int32) (r_end : Int32) (r_name : Int32) (r_netOfName : Nat → Int32)  (Q : Int32 → Int32 → Int32 → Prop) (hvc : v_X4_isGiven r_fault r_place r_at r_name r_netOfName  Q) : Met l yX4_isGiven wsX4_isGiven rm_X4_isGiven (va_Pc [.ref (h_r 0)] (cPre D ts [(cyI, .int), (cyJ, .long), (cyZ, .boolean)] [(h_r 0, .inr (4, [.ref (h_d 0), .ref (h_r 2), .ref (h_r 3), .int r_length, .int r_fault, .int r_place, .int r_at, .int r_end, .int r_name])), (h_r 3, .inl (cyI, 286, .inl r_netOfName))] sz)) (va_Qi (fun (r : Int32) (u : Int32 × Int32) => Q r u.1 u.2) (cPost D [(cyI, .int), (cyJ, .long), (cyZ, .boolean)] (fun (u : Int32 × Int32) => [(h_r 0, .inr (4, [.ref (h_d 0), .ref (h_r 2), .ref (h_r 3), .int r_length, .int (u.1), .int (u.2), .int r_at, .int r_end, .int r_name])), (h_r 3, .inl (cyI, 286, .inl r_netOfName))]) (va_A [(h_r 0, .inr (4, [.ref (h_d 0), .ref (h_r 2), .ref (h_r 3), .int r_length, .int r_fault, .int r_place, .int r_at, .int r_end, .int r_name])), (h_r 3, .inl (cyI, 286, .inl r_netOfName))] sz)) (va_A [(h_r 0, .inr (4, [.ref (h_d 0), .ref (h_r 2), .ref (h_r 3), .int r_length, .int r_fault, .int r_place, .int r_at, .int r_end, .int r_name])), (h_r 3, .inl (cyI, 286, .inl r_netOfName))] sz)) 0 0 (va_A [(h_r 0, .inr (4, [.ref (h_d 0), .ref (h_r 2), .ref (h_r 3), .int r_length, .int r_fault, .int r_place, .int r_at, .int r_end, .int r_name])), (h_r 3, .inl (cyI, 286, .inl r_netOfName))] sz) := by
  refine kEnter_z (cc := cX4_isGiven) (maxL := 1) (ty := .boolean) (by decide) rfl (Nat.le_of_ble_eq_true rfl) ?_
  intro p e s m args below meth c A ls QQ hx hb hml hown hts hsz hA hP hD hK hE hS hl hret
  clear hsz
  have hown : s.vm.findClass RX4 = some m.cls := hown
  have inX4 : ∀ w ∈ wsX40, w ∈ wsX4_isGiven := fun _ h => List.mem_cons_of_mem _ (List.mem_append_right _ h)
  have f86 := hts (.fieldLink RX4 86 "ScanTester$Reader" "name" "I") (List.mem_of_getElem? (i := 1) rfl)
  have f15 := hts (.fieldLink RX4 15 "ScanTester$Reader" "netOfName" "[I") (List.mem_of_getElem? (i := 3) rfl)
  have f75 := hts (.fieldLink RX4 75 "ScanTester$Reader" "at" "I") (List.mem_of_getElem? (i := 2) rfl)
  have w43 : ∀ (r_fault : Int32) (r_place : Int32) (H : Heap) (locs : List Loc) (ls : Array Slot), v_X4_isGiven_b43 r_at r_name r_netOfName Q  r_fault r_place → va_P D vwCl [(h_r 0, .inr (4, [.ref (h_d 0), .ref (h_r 2), .ref (h_r 3), .int r_length, .int r_fault, .int r_place, .int r_at, .int r_end, .int r_name])), (h_r 3, .inl (cyI, 286, .inl r_netOfName))] H → va_D A [(h_r 0, .inr (4, [.ref (h_d 0), .ref (h_r 2), .ref (h_r 3), .int r_length, .int r_fault, .int r_place, .int r_at, .int r_end, .int r_name])), (h_r 3, .inl (cyI, 286, .inl r_netOfName))] → va_S A s.heap H locs → lv_has ls 1 [] → W p l e rm_X4_isGiven s m args below meth c H locs 0 0 QQ (F0 m 43 ls []) := by
    intro r_fault r_place H locs ls hvc hP hD hS hl
    refine lv_iconst (v := 1) hx hb dX4_isGiven_43 (by decide) ?_
    refine lv_goto (tgt := 48) hx hb dX4_isGiven_44 (by decide) ?_
    exact hret (1 : Int32) (r_fault, r_place) _ _ _ _ rfl hvc hP hD hS dX4_isGiven_48
  have hl : lv_has ls 1 [(0, .ref (h_r 0))] := hl
  refine lv_aload_n hx hb dX4_isGiven_0 rfl (lv_at hl 0 rfl) ?_
  refine va_get (D := D) (ci := 4) (C := RX4) (T := TX4) (N := 9) hx hb hts inX4 hown hK hP 0 rfl rfl 8 (by decide) f86 (fun _ h9 => h9) rfl dX4_isGiven_1 ?_
  refine lv_iconst (v := (-1)) hx hb dX4_isGiven_4 (by decide) ?_
  obtain ⟨hvt, hvf⟩ := hvc
  refine lv_icmp_ne (tgt := 18) hx hb dX4_isGiven_5 (by decide) (fun hc => ?_) (fun hc => ?_)
  · have hvc := hvt hc
    refine lv_aload_n hx hb dX4_isGiven_18 rfl (lv_at hl 0 rfl) ?_
    refine va_get (D := D) (ci := 4) (C := RX4) (T := TX4) (N := 9) hx hb hts inX4 hown hK hP 0 rfl rfl 2 (by decide) f15 (fun _ h9 => h9) rfl dX4_isGiven_19 ?_
    refine lv_aload_n hx hb dX4_isGiven_22 rfl (lv_at hl 0 rfl) ?_
    refine va_get (D := D) (ci := 4) (C := RX4) (T := TX4) (N := 9) hx hb hts inX4 hown hK hP 0 rfl rfl 8 (by decide) f86 (fun _ h9 => h9) rfl dX4_isGiven_23 ?_
    obtain ⟨hi, hvc⟩ := hvc
    refine va_iald hx hb hK hP 1 0 rfl rfl hi dX4_isGiven_26 ?_
    refine lv_iconst (v := (-1)) hx hb dX4_isGiven_27 (by decide) ?_
    obtain ⟨hvt, hvf⟩ := hvc
    refine lv_icmp_ne (tgt := 43) hx hb dX4_isGiven_28 (by decide) (fun hc => ?_) (fun hc => ?_)
    · have hvc := hvt hc
      exact w43 r_fault r_place _ _ _ hvc hP hD hS (lv_sub hl [] rfl)
    · have hvc := hvf hc
      refine lv_aload_n hx hb dX4_isGiven_31 rfl (lv_at hl 0 rfl) ?_
      refine lv_iconst (v := 2) hx hb dX4_isGiven_32 (by decide) ?_
      refine lv_aload_n hx hb dX4_isGiven_33 rfl (lv_at hl 0 rfl) ?_
      refine va_get (D := D) (ci := 4) (C := RX4) (T := TX4) (N := 9) hx hb hts inX4 hown hK hP 0 rfl rfl 6 (by decide) f75 (fun _ h9 => h9) rfl dX4_isGiven_34 ?_
      refine kV_i (wc := [(h_r 0, .inr (4, [.ref (h_d 0), .ref (h_r 2), .ref (h_r 3), .int r_length, .int r_fault, .int r_place, .int r_at, .int r_end, .int r_name]))]) (wr := [(h_r 3, .inl (cyI, 286, .inl r_netOfName))]) (As := [.int (2 : Int32), .int r_at]) (rest := []) ⟨hx, hb, hml, hown, hts⟩ hP hD hK hE hS hA [0] [1] rfl rfl (by decide) (by decide) (by decide) (c_X4_refuse l D ts cyI cyJ cyZ h_d h_r _ r_length r_fault r_place r_at r_end r_name (2 : Int32) r_at _ hvc) (cwV 2 hts gX4_isGiven_X4_refuse rfl rfl rfl hd_X4_refuse ⟨Nat.le_of_ble_eq_true rfl, Nat.le_of_ble_eq_true rfl⟩) (ci := 4) rfl rfl rfl hl.1 rfl (Nat.zero_le _) (Nat.zero_le _) rfl (Nat.le_of_ble_eq_true rfl) dX4_isGiven_37 (fun r3 u H locs hvc hP hD hS => ?_)
      obtain ⟨n1, n2⟩ := u
      try dsimp only at hvc
      have hP : va_P D vwCl [(h_r 0, .inr (4, [.ref (h_d 0), .ref (h_r 2), .ref (h_r 3), .int r_length, .int n1, .int n2, .int r_at, .int r_end, .int r_name])), (h_r 3, .inl (cyI, 286, .inl r_netOfName))] H := sub_P hP (isC := [1, 0]) rfl
      have hD : va_D A [(h_r 0, .inr (4, [.ref (h_d 0), .ref (h_r 2), .ref (h_r 3), .int r_length, .int n1, .int n2, .int r_at, .int r_end, .int r_name])), (h_r 3, .inl (cyI, 286, .inl r_netOfName))] := hD.sub [1, 0] (by decide) rfl
      obtain ⟨hvt, hvf⟩ := hvc
      refine lv_if_eq (tgt := 47) hx hb dX4_isGiven_40 (by decide) (fun hc => ?_) (fun hc => ?_)
      · have hvc := hvt hc
        refine lv_iconst (v := 0) hx hb dX4_isGiven_47 (by decide) ?_
        exact hret (0 : Int32) (n1, n2) _ _ _ _ rfl hvc hP hD hS dX4_isGiven_48
      · have hvc := hvf hc
        exact w43 n1 n2 _ _ _ hvc hP hD hS (lv_sub hl [] rfl)
  · have hvc := hvf hc
    refine lv_aload_n hx hb dX4_isGiven_8 rfl (lv_at hl 0 rfl) ?_
    refine lv_iconst (v := 1) hx hb dX4_isGiven_9 (by decide) ?_
    refine lv_aload_n hx hb dX4_isGiven_10 rfl (lv_at hl 0 rfl) ?_
    refine va_get (D := D) (ci := 4) (C := RX4) (T := TX4) (N := 9) hx hb hts inX4 hown hK hP 0 rfl rfl 6 (by decide) f75 (fun _ h9 => h9) rfl dX4_isGiven_11 ?_
    refine kV_i (wc := [(h_r 0, .inr (4, [.ref (h_d 0), .ref (h_r 2), .ref (h_r 3), .int r_length, .int r_fault, .int r_place, .int r_at, .int r_end, .int r_name]))]) (wr := [(h_r 3, .inl (cyI, 286, .inl r_netOfName))]) (As := [.int (1 : Int32), .int r_at]) (rest := []) ⟨hx, hb, hml, hown, hts⟩ hP hD hK hE hS hA [0] [1] rfl rfl (by decide) (by decide) (by decide) (c_X4_refuse l D ts cyI cyJ cyZ h_d h_r _ r_length r_fault r_place r_at r_end r_name (1 : Int32) r_at _ hvc) (cwV 2 hts gX4_isGiven_X4_refuse rfl rfl rfl hd_X4_refuse ⟨Nat.le_of_ble_eq_true rfl, Nat.le_of_ble_eq_true rfl⟩) (ci := 4) rfl rfl rfl hl.1 rfl (Nat.zero_le _) (Nat.zero_le _) rfl (Nat.le_of_ble_eq_true rfl) dX4_isGiven_14 (fun r6 u H locs hvc hP hD hS => ?_)
    obtain ⟨n4, n5⟩ := u
    try dsimp only at hvc
    have hP : va_P D vwCl [(h_r 0, .inr (4, [.ref (h_d 0), .ref (h_r 2), .ref (h_r 3), .int r_length, .int n4, .int n5, .int r_at, .int r_end, .int r_name])), (h_r 3, .inl (cyI, 286, .inl r_netOfName))] H := sub_P hP (isC := [1, 0]) rfl
    have hD : va_D A [(h_r 0, .inr (4, [.ref (h_d 0), .ref (h_r 2), .ref (h_r 3), .int r_length, .int n4, .int n5, .int r_at, .int r_end, .int r_name])), (h_r 3, .inl (cyI, 286, .inl r_netOfName))] := hD.sub [1, 0] (by decide) rfl
    obtain ⟨hn, hvc⟩ := hvc
    exact hret r6 (n4, n5) _ _ _ _ hn hvc hP hD hS dX4_isGiven_17
def v_X4_mayGive_b37 (d_nets : Int32) (r_netOfName : Nat → Int32) (Q : Int32 → Int32 → Int32 → Prop)  : Int32 → Int32 → Prop := fun (r_fault : Int32) (r_place : Int32) => Q (1 : Int32) r_fault r_place
def v_X4_mayGive (r_fault : Int32) (r_place : Int32) (d_nets : Int32) (r_netOfName : Nat → Int32) (p0 : Int32) (p1 : Int32) (p2 : Int32) (Q : Int32 → Int32 → Int32 → Prop) : Prop := vp_in p0 286 ∧ ((r_netOfName p0.toNatClampNeg) = (-1 : Int32) → (d_nets < p2 → v_X4_mayGive_b37 d_nets r_netOfName Q  r_fault r_place) ∧ (¬ d_nets < p2 → v_X4_refuse  r_fault r_place (4 : Int32) p1 (fun (r3 : Int32) (n1 : Int32) (n2 : Int32) => (r3 = (0) → Q (0 : Int32) n1 n2) ∧ (¬ r3 = (0) → v_X4_mayGive_b37 d_nets r_netOfName Q  n1 n2)))) ∧ (¬ (r_netOfName p0.toNatClampNeg) = (-1 : Int32) → v_X4_refuse  r_fault r_place (3 : Int32) p1 (fun (r6 : Int32) (n4 : Int32) (n5 : Int32) => (narrow .boolean (.int r6) = .int r6) ∧ Q r6 n4 n5))
theorem hd_X4_mayGive : yX4_mayGive.cls = RX4 ∧ yX4_mayGive.cls ≠ "java/lang/invoke/MethodHandle" ∧ yX4_mayGive.cls ≠ "java/lang/invoke/VarHandle" ∧ (parseMethodDescriptor yX4_mayGive.desc).map (fun d => d.parameters.length) = some 3 := by decide +kernel
abbrev rm_X4_mayGive : Room := { frames := 1, cells := 0, slots := 0, locals := 22 }
set_option maxHeartbeats 4000000 in
set_option maxRecDepth 100000 in
theorem c_X4_mayGive (l : Launch) (D : va_G) (ts : Nat → Nat) (cyI cyJ cyZ : ClassId) (h_d : Nat → Nat) (h_r : Nat → Nat) (sz : Nat) (r_length : Int32) (r_fault : Int32) (r_place : Int32) (r_at : Int32) (r_end : Int32) (r_name : Int32) (d_inputs : Int32) (d_flops : Int32) (d_nets : Int32) (d_outputs : Int32) (r_netOfName : Nat → Int32) (p0 : Int32) (p1 : Int32) (p2 : Int32) (Q : Int32 → Int32 → Int32 → Prop) (hvc : v_X4_mayGive r_fault r_place d_nets r_netOfName p0 p1 p2 Q) : Met l yX4_mayGive wsX4_mayGive rm_X4_mayGive (va_Pc [.ref (h_r 0), .int p0, .int p1, .int p2] (cPre D ts [(cyI, .int), (cyJ, .long), (cyZ, .boolean)] [(h_r 0, .inr (4, [.ref (h_d 0), .ref (h_r 2), .ref (h_r 3), .int r_length, .int r_fault, .int r_place, .int r_at, .int r_end, .int r_name])), (h_d 0, .inr (2, [.int d_inputs, .int d_flops, .int d_nets, .int d_outputs, .ref (h_d 5), .ref (h_d 6), .ref (h_d 7), .ref (h_d 8), .ref (h_d 9), .ref (h_d 10)])), (h_r 3, .inl (cyI, 286, .inl r_netOfName))] sz)) (va_Qi (fun (r : Int32) (u : Int32 × Int32) => Q r u.1 u.2) (cPost D [(cyI, .int), (cyJ, .long), (cyZ, .boolean)] (fun (u : Int32 × Int32) => [(h_r 0, .inr (4, [.ref (h_d 0), .ref (h_r 2), .ref (h_r 3), .int r_length, .int (u.1), .int (u.2), .int r_at, .int r_end, .int r_name])), (h_d 0, .inr (2, [.int d_inputs, .int d_flops, .int d_nets, .int d_outputs, .ref (h_d 5), .ref (h_d 6), .ref (h_d 7), .ref (h_d 8), .ref (h_d 9), .ref (h_d 10)])), (h_r 3, .inl (cyI, 286, .inl r_netOfName))]) (va_A [(h_r 0, .inr (4, [.ref (h_d 0), .ref (h_r 2), .ref (h_r 3), .int r_length, .int r_fault, .int r_place, .int r_at, .int r_end, .int r_name])), (h_d 0, .inr (2, [.int d_inputs, .int d_flops, .int d_nets, .int d_outputs, .ref (h_d 5), .ref (h_d 6), .ref (h_d 7), .ref (h_d 8), .ref (h_d 9), .ref (h_d 10)])), (h_r 3, .inl (cyI, 286, .inl r_netOfName))] sz)) (va_A [(h_r 0, .inr (4, [.ref (h_d 0), .ref (h_r 2), .ref (h_r 3), .int r_length, .int r_fault, .int r_place, .int r_at, .int r_end, .int r_name])), (h_d 0, .inr (2, [.int d_inputs, .int d_flops, .int d_nets, .int d_outputs, .ref (h_d 5), .ref (h_d 6), .ref (h_d 7), .ref (h_d 8), .ref (h_d 9), .ref (h_d 10)])), (h_r 3, .inl (cyI, 286, .inl r_netOfName))] sz)) 0 0 (va_A [(h_r 0, .inr (4, [.ref (h_d 0), .ref (h_r 2), .ref (h_r 3), .int r_length, .int r_fault, .int r_place, .int r_at, .int r_end, .int r_name])), (h_d 0, .inr (2, [.int d_inputs, .int d_flops, .int d_nets, .int d_outputs, .ref (h_d 5), .ref (h_d 6), .ref (h_d 7), .ref (h_d 8), .ref (h_d 9), .ref (h_d 10)])), (h_r 3, .inl (cyI, 286, .inl r_netOfName))] sz) := by
  refine kEnter_z (cc := cX4_mayGive) (maxL := 4) (ty := .boolean) (by decide) rfl (Nat.le_of_ble_eq_true rfl) ?_
  intro p e s m args below meth c A ls QQ hx hb hml hown hts hsz hA hP hD hK hE hS hl hret
  clear hsz
  have hown : s.vm.findClass RX4 = some m.cls := hown
  have inX2 : ∀ w ∈ wsX20, w ∈ wsX4_mayGive := fun _ h => List.mem_cons_of_mem _ (List.mem_append_right _ h)
  have inX4 : ∀ w ∈ wsX40, w ∈ wsX4_mayGive := fun _ h => List.mem_cons_of_mem _ (List.mem_append_left _ (List.mem_append_right _ h))
  have f15 := hts (.fieldLink RX4 15 "ScanTester$Reader" "netOfName" "[I") (List.mem_of_getElem? (i := 1) rfl)
  have f22 := hts (.fieldLink RX4 22 "ScanTester$Reader" "circuit" "LScanTester$Circuit;") (List.mem_of_getElem? (i := 2) rfl)
  have w37 : ∀ (r_fault : Int32) (r_place : Int32) (H : Heap) (locs : List Loc) (ls : Array Slot), v_X4_mayGive_b37 d_nets r_netOfName Q  r_fault r_place → va_P D vwCl [(h_r 0, .inr (4, [.ref (h_d 0), .ref (h_r 2), .ref (h_r 3), .int r_length, .int r_fault, .int r_place, .int r_at, .int r_end, .int r_name])), (h_d 0, .inr (2, [.int d_inputs, .int d_flops, .int d_nets, .int d_outputs, .ref (h_d 5), .ref (h_d 6), .ref (h_d 7), .ref (h_d 8), .ref (h_d 9), .ref (h_d 10)])), (h_r 3, .inl (cyI, 286, .inl r_netOfName))] H → va_D A [(h_r 0, .inr (4, [.ref (h_d 0), .ref (h_r 2), .ref (h_r 3), .int r_length, .int r_fault, .int r_place, .int r_at, .int r_end, .int r_name])), (h_d 0, .inr (2, [.int d_inputs, .int d_flops, .int d_nets, .int d_outputs, .ref (h_d 5), .ref (h_d 6), .ref (h_d 7), .ref (h_d 8), .ref (h_d 9), .ref (h_d 10)])), (h_r 3, .inl (cyI, 286, .inl r_netOfName))] → va_S A s.heap H locs → lv_has ls 4 [] → W p l e rm_X4_mayGive s m args below meth c H locs 0 0 QQ (F0 m 37 ls []) := by
    intro r_fault r_place H locs ls hvc hP hD hS hl
    refine lv_iconst (v := 1) hx hb dX4_mayGive_37 (by decide) ?_
    refine lv_goto (tgt := 42) hx hb dX4_mayGive_38 (by decide) ?_
    exact hret (1 : Int32) (r_fault, r_place) _ _ _ _ rfl hvc hP hD hS dX4_mayGive_42
  have hl : lv_has ls 4 [(0, .ref (h_r 0)), (1, .int p0), (2, .int p1), (3, .int p2)] := hl
  refine lv_aload_n hx hb dX4_mayGive_0 rfl (lv_at hl 0 rfl) ?_
  refine va_get (D := D) (ci := 4) (C := RX4) (T := TX4) (N := 9) hx hb hts inX4 hown hK hP 0 rfl rfl 2 (by decide) f15 (fun _ h9 => h9) rfl dX4_mayGive_1 ?_
  refine lv_iload_n hx hb dX4_mayGive_4 rfl (lv_at hl 1 rfl) ?_
  obtain ⟨hi, hvc⟩ := hvc
  refine va_iald hx hb hK hP 2 0 rfl rfl hi dX4_mayGive_5 ?_
  refine lv_iconst (v := (-1)) hx hb dX4_mayGive_6 (by decide) ?_
  obtain ⟨hvt, hvf⟩ := hvc
  refine lv_icmp_eq (tgt := 17) hx hb dX4_mayGive_7 (by decide) (fun hc => ?_) (fun hc => ?_)
  · have hvc := hvt hc
    refine lv_aload_n hx hb dX4_mayGive_17 rfl (lv_at hl 0 rfl) ?_
    refine va_get (D := D) (ci := 4) (C := RX4) (T := TX4) (N := 9) hx hb hts inX4 hown hK hP 0 rfl rfl 0 (by decide) f22 (fun _ h9 => h9) rfl dX4_mayGive_18 ?_
    refine va_getN (D := D) (ci := 2) (C := RX2) (T := TX2) (N := 10) hx hb hts inX2 hown hK hP 1 rfl rfl 2 (by decide) hE.n10 (fun _ h9 => h9) rfl dX4_mayGive_21 ?_
    refine lv_iload_n hx hb dX4_mayGive_24 rfl (lv_at hl 3 rfl) ?_
    obtain ⟨hvt, hvf⟩ := hvc
    refine lv_icmp_lt (tgt := 37) hx hb dX4_mayGive_25 (by decide) (fun hc => ?_) (fun hc => ?_)
    · have hvc := hvt hc
      exact w37 r_fault r_place _ _ _ hvc hP hD hS (lv_sub hl [] rfl)
    · have hvc := hvf hc
      refine lv_aload_n hx hb dX4_mayGive_28 rfl (lv_at hl 0 rfl) ?_
      refine lv_iconst (v := 4) hx hb dX4_mayGive_29 (by decide) ?_
      refine lv_iload_n hx hb dX4_mayGive_30 rfl (lv_at hl 2 rfl) ?_
      refine kV_i (wc := [(h_r 0, .inr (4, [.ref (h_d 0), .ref (h_r 2), .ref (h_r 3), .int r_length, .int r_fault, .int r_place, .int r_at, .int r_end, .int r_name]))]) (wr := [(h_d 0, .inr (2, [.int d_inputs, .int d_flops, .int d_nets, .int d_outputs, .ref (h_d 5), .ref (h_d 6), .ref (h_d 7), .ref (h_d 8), .ref (h_d 9), .ref (h_d 10)])), (h_r 3, .inl (cyI, 286, .inl r_netOfName))]) (As := [.int (4 : Int32), .int p1]) (rest := []) ⟨hx, hb, hml, hown, hts⟩ hP hD hK hE hS hA [0] [1, 2] rfl rfl (by decide) (by decide) (by decide) (c_X4_refuse l D ts cyI cyJ cyZ h_d h_r _ r_length r_fault r_place r_at r_end r_name (4 : Int32) p1 _ hvc) (cwV 2 hts gX4_mayGive_X4_refuse rfl rfl rfl hd_X4_refuse ⟨Nat.le_of_ble_eq_true rfl, Nat.le_of_ble_eq_true rfl⟩) (ci := 4) rfl rfl rfl hl.1 rfl (Nat.zero_le _) (Nat.zero_le _) rfl (Nat.le_of_ble_eq_true rfl) dX4_mayGive_31 (fun r3 u H locs hvc hP hD hS => ?_)
      obtain ⟨n1, n2⟩ := u
      try dsimp only at hvc
      have hP : va_P D vwCl [(h_r 0, .inr (4, [.ref (h_d 0), .ref (h_r 2), .ref (h_r 3), .int r_length, .int n1, .int n2, .int r_at, .int r_end, .int r_name])), (h_d 0, .inr (2, [.int d_inputs, .int d_flops, .int d_nets, .int d_outputs, .ref (h_d 5), .ref (h_d 6), .ref (h_d 7), .ref (h_d 8), .ref (h_d 9), .ref (h_d 10)])), (h_r 3, .inl (cyI, 286, .inl r_netOfName))] H := sub_P hP (isC := [2, 0, 1]) rfl
      have hD : va_D A [(h_r 0, .inr (4, [.ref (h_d 0), .ref (h_r 2), .ref (h_r 3), .int r_length, .int n1, .int n2, .int r_at, .int r_end, .int r_name])), (h_d 0, .inr (2, [.int d_inputs, .int d_flops, .int d_nets, .int d_outputs, .ref (h_d 5), .ref (h_d 6), .ref (h_d 7), .ref (h_d 8), .ref (h_d 9), .ref (h_d 10)])), (h_r 3, .inl (cyI, 286, .inl r_netOfName))] := hD.sub [2, 0, 1] (by decide) rfl
      obtain ⟨hvt, hvf⟩ := hvc
      refine lv_if_eq (tgt := 41) hx hb dX4_mayGive_34 (by decide) (fun hc => ?_) (fun hc => ?_)
      · have hvc := hvt hc
        refine lv_iconst (v := 0) hx hb dX4_mayGive_41 (by decide) ?_
        exact hret (0 : Int32) (n1, n2) _ _ _ _ rfl hvc hP hD hS dX4_mayGive_42
      · have hvc := hvf hc
        exact w37 n1 n2 _ _ _ hvc hP hD hS (lv_sub hl [] rfl)
  · have hvc := hvf hc
    refine lv_aload_n hx hb dX4_mayGive_10 rfl (lv_at hl 0 rfl) ?_
    refine lv_iconst (v := 3) hx hb dX4_mayGive_11 (by decide) ?_
    refine lv_iload_n hx hb dX4_mayGive_12 rfl (lv_at hl 2 rfl) ?_
    refine kV_i (wc := [(h_r 0, .inr (4, [.ref (h_d 0), .ref (h_r 2), .ref (h_r 3), .int r_length, .int r_fault, .int r_place, .int r_at, .int r_end, .int r_name]))]) (wr := [(h_d 0, .inr (2, [.int d_inputs, .int d_flops, .int d_nets, .int d_outputs, .ref (h_d 5), .ref (h_d 6), .ref (h_d 7), .ref (h_d 8), .ref (h_d 9), .ref (h_d 10)])), (h_r 3, .inl (cyI, 286, .inl r_netOfName))]) (As := [.int (3 : Int32), .int p1]) (rest := []) ⟨hx, hb, hml, hown, hts⟩ hP hD hK hE hS hA [0] [1, 2] rfl rfl (by decide) (by decide) (by decide) (c_X4_refuse l D ts cyI cyJ cyZ h_d h_r _ r_length r_fault r_place r_at r_end r_name (3 : Int32) p1 _ hvc) (cwV 2 hts gX4_mayGive_X4_refuse rfl rfl rfl hd_X4_refuse ⟨Nat.le_of_ble_eq_true rfl, Nat.le_of_ble_eq_true rfl⟩) (ci := 4) rfl rfl rfl hl.1 rfl (Nat.zero_le _) (Nat.zero_le _) rfl (Nat.le_of_ble_eq_true rfl) dX4_mayGive_13 (fun r6 u H locs hvc hP hD hS => ?_)
    obtain ⟨n4, n5⟩ := u
    try dsimp only at hvc
    have hP : va_P D vwCl [(h_r 0, .inr (4, [.ref (h_d 0), .ref (h_r 2), .ref (h_r 3), .int r_length, .int n4, .int n5, .int r_at, .int r_end, .int r_name])), (h_d 0, .inr (2, [.int d_inputs, .int d_flops, .int d_nets, .int d_outputs, .ref (h_d 5), .ref (h_d 6), .ref (h_d 7), .ref (h_d 8), .ref (h_d 9), .ref (h_d 10)])), (h_r 3, .inl (cyI, 286, .inl r_netOfName))] H := sub_P hP (isC := [2, 0, 1]) rfl
    have hD : va_D A [(h_r 0, .inr (4, [.ref (h_d 0), .ref (h_r 2), .ref (h_r 3), .int r_length, .int n4, .int n5, .int r_at, .int r_end, .int r_name])), (h_d 0, .inr (2, [.int d_inputs, .int d_flops, .int d_nets, .int d_outputs, .ref (h_d 5), .ref (h_d 6), .ref (h_d 7), .ref (h_d 8), .ref (h_d 9), .ref (h_d 10)])), (h_r 3, .inl (cyI, 286, .inl r_netOfName))] := hD.sub [2, 0, 1] (by decide) rfl
    obtain ⟨hn, hvc⟩ := hvc
    exact hret r6 (n4, n5) _ _ _ _ hn hvc hP hD hS dX4_mayGive_16
def v_X4_give (d_nets : Int32) (r_netOfName : Nat → Int32) (p0 : Int32) (Q : Int32 → (Nat → Int32) → Prop) : Prop := vp_in p0 286 ∧ ∀ v1 : Int32, v1 = d_nets + (1 : Int32) → Q v1 (upd r_netOfName p0.toNatClampNeg d_nets)
theorem hd_X4_give : yX4_give.cls = RX4 ∧ yX4_give.cls ≠ "java/lang/invoke/MethodHandle" ∧ yX4_give.cls ≠ "java/lang/invoke/VarHandle" ∧ (parseMethodDescriptor yX4_give.desc).map (fun d => d.parameters.length) = some 1 := by decide +kernel
abbrev rm_X4_give : Room := { frames := 0, cells := 0, slots := 0, locals := 0 }
set_option maxHeartbeats 4000000 in
set_option maxRecDepth 100000 in
theorem c_X4_give (l : Launch) (D : va_G) (ts : Nat → Nat) (cyI cyJ cyZ : ClassId) (h_d : Nat → Nat) (h_r : Nat → Nat) (sz : Nat) (r_length : Int32) (r_fault : Int32) (r_place : Int32) (r_at : Int32) (r_end : Int32) (r_name : Int32) (d_inputs : Int32) (d_flops : Int32) (d_nets : Int32) (d_outputs : Int32) (r_netOfName : Nat → Int32) (p0 : Int32) (Q : Int32 → (Nat → Int32) → Prop) (hvc : v_X4_give d_nets r_netOfName p0 Q) : Met l yX4_give wsX4_give rm_X4_give (va_Pc [.ref (h_r 0), .int p0] (cPre D ts [(cyI, .int), (cyJ, .long), (cyZ, .boolean)] [(h_r 0, .inr (4, [.ref (h_d 0), .ref (h_r 2), .ref (h_r 3), .int r_length, .int r_fault, .int r_place, .int r_at, .int r_end, .int r_name])), (h_d 0, .inr (2, [.int d_inputs, .int d_flops, .int d_nets, .int d_outputs, .ref (h_d 5), .ref (h_d 6), .ref (h_d 7), .ref (h_d 8), .ref (h_d 9), .ref (h_d 10)])), (h_r 3, .inl (cyI, 286, .inl r_netOfName))] sz)) (va_Qv (fun (u : Int32 × (Nat → Int32)) => Q u.1 u.2) (cPost D [(cyI, .int), (cyJ, .long), (cyZ, .boolean)] (fun (u : Int32 × (Nat → Int32)) => [(h_r 0, .inr (4, [.ref (h_d 0), .ref (h_r 2), .ref (h_r 3), .int r_length, .int r_fault, .int r_place, .int r_at, .int r_end, .int r_name])), (h_d 0, .inr (2, [.int d_inputs, .int d_flops, .int (u.1), .int d_outputs, .ref (h_d 5), .ref (h_d 6), .ref (h_d 7), .ref (h_d 8), .ref (h_d 9), .ref (h_d 10)])), (h_r 3, .inl (cyI, 286, .inl (u.2)))]) (va_A [(h_r 0, .inr (4, [.ref (h_d 0), .ref (h_r 2), .ref (h_r 3), .int r_length, .int r_fault, .int r_place, .int r_at, .int r_end, .int r_name])), (h_d 0, .inr (2, [.int d_inputs, .int d_flops, .int d_nets, .int d_outputs, .ref (h_d 5), .ref (h_d 6), .ref (h_d 7), .ref (h_d 8), .ref (h_d 9), .ref (h_d 10)])), (h_r 3, .inl (cyI, 286, .inl r_netOfName))] sz)) (va_A [(h_r 0, .inr (4, [.ref (h_d 0), .ref (h_r 2), .ref (h_r 3), .int r_length, .int r_fault, .int r_place, .int r_at, .int r_end, .int r_name])), (h_d 0, .inr (2, [.int d_inputs, .int d_flops, .int d_nets, .int d_outputs, .ref (h_d 5), .ref (h_d 6), .ref (h_d 7), .ref (h_d 8), .ref (h_d 9), .ref (h_d 10)])), (h_r 3, .inl (cyI, 286, .inl r_netOfName))] sz)) 0 0 (va_A [(h_r 0, .inr (4, [.ref (h_d 0), .ref (h_r 2), .ref (h_r 3), .int r_length, .int r_fault, .int r_place, .int r_at, .int r_end, .int r_name])), (h_d 0, .inr (2, [.int d_inputs, .int d_flops, .int d_nets, .int d_outputs, .ref (h_d 5), .ref (h_d 6), .ref (h_d 7), .ref (h_d 8), .ref (h_d 9), .ref (h_d 10)])), (h_r 3, .inl (cyI, 286, .inl r_netOfName))] sz) := by
  refine kEnter_v (cc := cX4_give) (maxL := 2) (by decide) rfl (Nat.le_of_ble_eq_true rfl) ?_
  intro p e s m args below meth c A ls QQ hx hb hml hown hts hsz hA hP hD hK hE hS hl hret
  clear hsz
  have hown : s.vm.findClass RX4 = some m.cls := hown
  have inX2 : ∀ w ∈ wsX20, w ∈ wsX4_give := fun _ h => List.mem_cons_of_mem _ (List.mem_append_right _ h)
  have inX4 : ∀ w ∈ wsX40, w ∈ wsX4_give := fun _ h => List.mem_cons_of_mem _ (List.mem_append_left _ (List.mem_append_right _ h))
  have f15 := hts (.fieldLink RX4 15 "ScanTester$Reader" "netOfName" "[I") (List.mem_of_getElem? (i := 1) rfl)
  have f22 := hts (.fieldLink RX4 22 "ScanTester$Reader" "circuit" "LScanTester$Circuit;") (List.mem_of_getElem? (i := 2) rfl)
  have hl : lv_has ls 2 [(0, .ref (h_r 0)), (1, .int p0)] := hl
  refine lv_aload_n hx hb dX4_give_0 rfl (lv_at hl 0 rfl) ?_
  refine va_get (D := D) (ci := 4) (C := RX4) (T := TX4) (N := 9) hx hb hts inX4 hown hK hP 0 rfl rfl 2 (by decide) f15 (fun _ h9 => h9) rfl dX4_give_1 ?_
  refine lv_iload_n hx hb dX4_give_4 rfl (lv_at hl 1 rfl) ?_
  refine lv_aload_n hx hb dX4_give_5 rfl (lv_at hl 0 rfl) ?_
  refine va_get (D := D) (ci := 4) (C := RX4) (T := TX4) (N := 9) hx hb hts inX4 hown hK hP 0 rfl rfl 0 (by decide) f22 (fun _ h9 => h9) rfl dX4_give_6 ?_
  refine va_getN (D := D) (ci := 2) (C := RX2) (T := TX2) (N := 10) hx hb hts inX2 hown hK hP 1 rfl rfl 2 (by decide) hE.n10 (fun _ h9 => h9) rfl dX4_give_9 ?_
  obtain ⟨hi, hvc⟩ := hvc
  refine va_iast hx hb hK hP hD hS 2 0 rfl rfl hi dX4_give_12 (fun H locs hP hD hS => ?_)
  have hP : va_P D vwCl [(h_r 0, .inr (4, [.ref (h_d 0), .ref (h_r 2), .ref (h_r 3), .int r_length, .int r_fault, .int r_place, .int r_at, .int r_end, .int r_name])), (h_d 0, .inr (2, [.int d_inputs, .int d_flops, .int d_nets, .int d_outputs, .ref (h_d 5), .ref (h_d 6), .ref (h_d 7), .ref (h_d 8), .ref (h_d 9), .ref (h_d 10)])), (h_r 3, .inl (cyI, 286, .inl (upd r_netOfName p0.toNatClampNeg d_nets)))] H := hP
  have hD : va_D A [(h_r 0, .inr (4, [.ref (h_d 0), .ref (h_r 2), .ref (h_r 3), .int r_length, .int r_fault, .int r_place, .int r_at, .int r_end, .int r_name])), (h_d 0, .inr (2, [.int d_inputs, .int d_flops, .int d_nets, .int d_outputs, .ref (h_d 5), .ref (h_d 6), .ref (h_d 7), .ref (h_d 8), .ref (h_d 9), .ref (h_d 10)])), (h_r 3, .inl (cyI, 286, .inl (upd r_netOfName p0.toNatClampNeg d_nets)))] := hD
  refine lv_aload_n hx hb dX4_give_13 rfl (lv_at hl 0 rfl) ?_
  refine va_get (D := D) (ci := 4) (C := RX4) (T := TX4) (N := 9) hx hb hts inX4 hown hK hP 0 rfl rfl 0 (by decide) f22 (fun _ h9 => h9) rfl dX4_give_14 ?_
  refine lv_dup hx hb dX4_give_17 rfl ?_
  refine va_getN (D := D) (ci := 2) (C := RX2) (T := TX2) (N := 10) hx hb hts inX2 hown hK hP 1 rfl rfl 2 (by decide) hE.n10 (fun _ h9 => h9) rfl dX4_give_18 ?_
  refine lv_iconst (v := 1) hx hb dX4_give_21 (by decide) ?_
  refine lv_iadd hx hb dX4_give_22 ?_
  refine lv_topi (fun v1 ev1 => ?_)
  have hvc := hvc v1 ev1
  refine va_putN (D := D) (ci := 2) (ty := .int) (C := RX2) (T := TX2) (N := 10) hx hb hts inX2 tyX2 tyX2_ok nmX2 hown hK hP hD hS 1 rfl rfl 2 (by decide) hE.n10 (fun _ h9 => h9) rfl (by decide +kernel) rfl rfl (Nat.le_of_ble_eq_true rfl) dX4_give_23 (fun H locs hP hD hS => ?_)
  have hP : va_P D vwCl [(h_r 0, .inr (4, [.ref (h_d 0), .ref (h_r 2), .ref (h_r 3), .int r_length, .int r_fault, .int r_place, .int r_at, .int r_end, .int r_name])), (h_d 0, .inr (2, [.int d_inputs, .int d_flops, .int v1, .int d_outputs, .ref (h_d 5), .ref (h_d 6), .ref (h_d 7), .ref (h_d 8), .ref (h_d 9), .ref (h_d 10)])), (h_r 3, .inl (cyI, 286, .inl (upd r_netOfName p0.toNatClampNeg d_nets)))] H := hP
  have hD : va_D A [(h_r 0, .inr (4, [.ref (h_d 0), .ref (h_r 2), .ref (h_r 3), .int r_length, .int r_fault, .int r_place, .int r_at, .int r_end, .int r_name])), (h_d 0, .inr (2, [.int d_inputs, .int d_flops, .int v1, .int d_outputs, .ref (h_d 5), .ref (h_d 6), .ref (h_d 7), .ref (h_d 8), .ref (h_d 9), .ref (h_d 10)])), (h_r 3, .inl (cyI, 286, .inl (upd r_netOfName p0.toNatClampNeg d_nets)))] := hD
  exact hret (v1, upd r_netOfName p0.toNatClampNeg d_nets) _ _ _ _ hvc hP hD hS dX4_give_26
