def v_X6_operation (m_size : Int32) (m_at : Int32) (m_tape : Nat → Int32)  (Q : Int32 → Int32 → Prop) : Prop := v_X6_token  m_size m_at m_tape (fun (r2 : Int32) (n1 : Int32) => (r2 = (28530 : Int32) → Q (1 : Int32) n1) ∧ (¬ r2 = (28530 : Int32) → (r2 = (6385252 : Int32) → Q (0 : Int32) n1) ∧ (¬ r2 = (6385252 : Int32) → (r2 = (6452582 : Int32) → Q (6 : Int32) n1) ∧ (¬ r2 = (6452582 : Int32) → (r2 = (7173496 : Int32) → Q (7 : Int32) n1) ∧ (¬ r2 = (7173496 : Int32) → (r2 = (7237490 : Int32) → Q (4 : Int32) n1) ∧ (¬ r2 = (7237490 : Int32) → (r2 = (7237492 : Int32) → Q (5 : Int32) n1) ∧ (¬ r2 = (7237492 : Int32) → (r2 = (7892850 : Int32) → Q (2 : Int32) n1) ∧ (¬ r2 = (7892850 : Int32) → (r2 = (1851879012 : Int32) → Q (3 : Int32) n1) ∧ (¬ r2 = (1851879012 : Int32) → Q (-1 : Int32) n1)))))))))
theorem hd_X6_operation : yX6_operation.cls = RX6 ∧ yX6_operation.cls ≠ "java/lang/invoke/MethodHandle" ∧ yX6_operation.cls ≠ "java/lang/invoke/VarHandle" ∧ (parseMethodDescriptor yX6_operation.desc).map (fun d => d.parameters.length) = some 0 := by decide +kernel
abbrev rm_X6_operation : Room := { frames := 3, cells := 0, slots := 0, locals := 66 }
set_option maxHeartbeats 4000000 in
set_option maxRecDepth 100000 in
theorem c_X6_operation (l : Launch) (D : va_G) (ts : Nat → Nat) (cyI cyJ cyZ : ClassId) (h_m : Nat → Nat) (sz : Nat) (m_thrown : Int32) (m_size : Int32) (m_fault : Int32) (m_place : Int32) (m_at : Int32) (m_count : Int32) (m_inputs : Int32) (m_flips : Int32) (m_outs : Int32) (m_nets : Int32) (m_nIn : Int32) (m_nFlip : Int32) (m_nOut : Int32) (m_known : Int32) (m_chosen : Int32) (m_testable : Int32) (m_rows : Int32) (m_stuck : Int32) (m_state : Int32) (m_code : Int32) (m_bits : Int32) (m_beside : Int32) (m_shifter : Int32) (m_tape : Nat → Int32)  (Q : Int32 → Int32 → Prop) (hvc : v_X6_operation m_size m_at m_tape  Q) : Met l yX6_operation wsX6_operation rm_X6_operation (va_Pc [.ref (h_m 0)] (cPre D ts [(cyI, .int), (cyJ, .long), (cyZ, .boolean)] [(h_m 0, .inr (6, [.int m_thrown, .ref (h_m 2), .int m_size, .int m_fault, .int m_place, .int m_at, .int m_count, .int m_inputs, .int m_flips, .int m_outs, .ref (h_m 11), .ref (h_m 12), .ref (h_m 13), .ref (h_m 14), .ref (h_m 15), .ref (h_m 16), .int m_nets, .int m_nIn, .int m_nFlip, .int m_nOut, .ref (h_m 21), .ref (h_m 22), .ref (h_m 23), .ref (h_m 24), .ref (h_m 25), .int m_known, .ref (h_m 27), .ref (h_m 28), .ref (h_m 29), .ref (h_m 30), .ref (h_m 31), .int m_chosen, .int m_testable, .int m_rows, .ref (h_m 35), .int m_stuck, .int m_state, .int m_code, .int m_bits, .int m_beside, .int m_shifter])), (h_m 2, .inl (cyI, 900, .inl m_tape))] sz)) (va_Qi (fun (r : Int32) (u : Int32) => Q r u) (cPost D [(cyI, .int), (cyJ, .long), (cyZ, .boolean)] (fun (u : Int32) => [(h_m 0, .inr (6, [.int m_thrown, .ref (h_m 2), .int m_size, .int m_fault, .int m_place, .int u, .int m_count, .int m_inputs, .int m_flips, .int m_outs, .ref (h_m 11), .ref (h_m 12), .ref (h_m 13), .ref (h_m 14), .ref (h_m 15), .ref (h_m 16), .int m_nets, .int m_nIn, .int m_nFlip, .int m_nOut, .ref (h_m 21), .ref (h_m 22), .ref (h_m 23), .ref (h_m 24), .ref (h_m 25), .int m_known, .ref (h_m 27), .ref (h_m 28), .ref (h_m 29), .ref (h_m 30), .ref (h_m 31), .int m_chosen, .int m_testable, .int m_rows, .ref (h_m 35), .int m_stuck, .int m_state, .int m_code, .int m_bits, .int m_beside, .int m_shifter])), (h_m 2, .inl (cyI, 900, .inl m_tape))]) (va_A [(h_m 0, .inr (6, [.int m_thrown, .ref (h_m 2), .int m_size, .int m_fault, .int m_place, .int m_at, .int m_count, .int m_inputs, .int m_flips, .int m_outs, .ref (h_m 11), .ref (h_m 12), .ref (h_m 13), .ref (h_m 14), .ref (h_m 15), .ref (h_m 16), .int m_nets, .int m_nIn, .int m_nFlip, .int m_nOut, .ref (h_m 21), .ref (h_m 22), .ref (h_m 23), .ref (h_m 24), .ref (h_m 25), .int m_known, .ref (h_m 27), .ref (h_m 28), .ref (h_m 29), .ref (h_m 30), .ref (h_m 31), .int m_chosen, .int m_testable, .int m_rows, .ref (h_m 35), .int m_stuck, .int m_state, .int m_code, .int m_bits, .int m_beside, .int m_shifter])), (h_m 2, .inl (cyI, 900, .inl m_tape))] sz)) (va_A [(h_m 0, .inr (6, [.int m_thrown, .ref (h_m 2), .int m_size, .int m_fault, .int m_place, .int m_at, .int m_count, .int m_inputs, .int m_flips, .int m_outs, .ref (h_m 11), .ref (h_m 12), .ref (h_m 13), .ref (h_m 14), .ref (h_m 15), .ref (h_m 16), .int m_nets, .int m_nIn, .int m_nFlip, .int m_nOut, .ref (h_m 21), .ref (h_m 22), .ref (h_m 23), .ref (h_m 24), .ref (h_m 25), .int m_known, .ref (h_m 27), .ref (h_m 28), .ref (h_m 29), .ref (h_m 30), .ref (h_m 31), .int m_chosen, .int m_testable, .int m_rows, .ref (h_m 35), .int m_stuck, .int m_state, .int m_code, .int m_bits, .int m_beside, .int m_shifter])), (h_m 2, .inl (cyI, 900, .inl m_tape))] sz)) 0 0 (va_A [(h_m 0, .inr (6, [.int m_thrown, .ref (h_m 2), .int m_size, .int m_fault, .int m_place, .int m_at, .int m_count, .int m_inputs, .int m_flips, .int m_outs, .ref (h_m 11), .ref (h_m 12), .ref (h_m 13), .ref (h_m 14), .ref (h_m 15), .ref (h_m 16), .int m_nets, .int m_nIn, .int m_nFlip, .int m_nOut, .ref (h_m 21), .ref (h_m 22), .ref (h_m 23), .ref (h_m 24), .ref (h_m 25), .int m_known, .ref (h_m 27), .ref (h_m 28), .ref (h_m 29), .ref (h_m 30), .ref (h_m 31), .int m_chosen, .int m_testable, .int m_rows, .ref (h_m 35), .int m_stuck, .int m_state, .int m_code, .int m_bits, .int m_beside, .int m_shifter])), (h_m 2, .inl (cyI, 900, .inl m_tape))] sz) := by
  refine kEnter_i (cc := cX6_operation) (maxL := 2) (by decide) rfl (Nat.le_of_ble_eq_true rfl) ?_
  intro p e s m args below meth c A ls QQ hx hb hml hown hts hsz hA hP hD hK hE hS hl hret
  clear hsz
  have hown : s.vm.findClass RX6 = some m.cls := hown
  have hl : lv_has ls 2 [(0, .ref (h_m 0))] := hl
  delta v_X6_operation at hvc
  refine lv_aload_n hx hb dX6_operation_0 rfl (lv_at hl 0 rfl) ?_
  refine kV_i (wc := [(h_m 0, .inr (6, [.int m_thrown, .ref (h_m 2), .int m_size, .int m_fault, .int m_place, .int m_at, .int m_count, .int m_inputs, .int m_flips, .int m_outs, .ref (h_m 11), .ref (h_m 12), .ref (h_m 13), .ref (h_m 14), .ref (h_m 15), .ref (h_m 16), .int m_nets, .int m_nIn, .int m_nFlip, .int m_nOut, .ref (h_m 21), .ref (h_m 22), .ref (h_m 23), .ref (h_m 24), .ref (h_m 25), .int m_known, .ref (h_m 27), .ref (h_m 28), .ref (h_m 29), .ref (h_m 30), .ref (h_m 31), .int m_chosen, .int m_testable, .int m_rows, .ref (h_m 35), .int m_stuck, .int m_state, .int m_code, .int m_bits, .int m_beside, .int m_shifter])), (h_m 2, .inl (cyI, 900, .inl m_tape))]) (wr := []) (As := []) (rest := []) ⟨hx, hb, hml, hown, hts⟩ hP hD hK hE hS hA [0, 1] [] rfl rfl (by decide) (by decide) (by decide) (c_X6_token l D ts cyI cyJ cyZ h_m _ m_thrown m_size m_fault m_place m_at m_count m_inputs m_flips m_outs m_nets m_nIn m_nFlip m_nOut m_known m_chosen m_testable m_rows m_stuck m_state m_code m_bits m_beside m_shifter m_tape _ hvc) (cwV 0 hts gX6_operation_X6_token rfl rfl rfl hd_X6_token ⟨Nat.le_of_ble_eq_true rfl, Nat.le_of_ble_eq_true rfl⟩) (ci := 6) rfl rfl rfl hl.1 rfl (Nat.zero_le _) (Nat.zero_le _) rfl (Nat.le_of_ble_eq_true rfl) dX6_operation_1 (fun r2 n1 H locs hvc hP hD hS => ?_)
  try dsimp only at hvc
  have hP : va_P D vwCl [(h_m 0, .inr (6, [.int m_thrown, .ref (h_m 2), .int m_size, .int m_fault, .int m_place, .int n1, .int m_count, .int m_inputs, .int m_flips, .int m_outs, .ref (h_m 11), .ref (h_m 12), .ref (h_m 13), .ref (h_m 14), .ref (h_m 15), .ref (h_m 16), .int m_nets, .int m_nIn, .int m_nFlip, .int m_nOut, .ref (h_m 21), .ref (h_m 22), .ref (h_m 23), .ref (h_m 24), .ref (h_m 25), .int m_known, .ref (h_m 27), .ref (h_m 28), .ref (h_m 29), .ref (h_m 30), .ref (h_m 31), .int m_chosen, .int m_testable, .int m_rows, .ref (h_m 35), .int m_stuck, .int m_state, .int m_code, .int m_bits, .int m_beside, .int m_shifter])), (h_m 2, .inl (cyI, 900, .inl m_tape))] H := sub_P hP (isC := [0, 1]) rfl
  have hD : va_D A [(h_m 0, .inr (6, [.int m_thrown, .ref (h_m 2), .int m_size, .int m_fault, .int m_place, .int n1, .int m_count, .int m_inputs, .int m_flips, .int m_outs, .ref (h_m 11), .ref (h_m 12), .ref (h_m 13), .ref (h_m 14), .ref (h_m 15), .ref (h_m 16), .int m_nets, .int m_nIn, .int m_nFlip, .int m_nOut, .ref (h_m 21), .ref (h_m 22), .ref (h_m 23), .ref (h_m 24), .ref (h_m 25), .int m_known, .ref (h_m 27), .ref (h_m 28), .ref (h_m 29), .ref (h_m 30), .ref (h_m 31), .int m_chosen, .int m_testable, .int m_rows, .ref (h_m 35), .int m_stuck, .int m_state, .int m_code, .int m_bits, .int m_beside, .int m_shifter])), (h_m 2, .inl (cyI, 900, .inl m_tape))] := hD.sub [0, 1] (by decide) rfl
  refine lv_istore_n (lv' := [(1, .int r2), (0, .ref (h_m 0))]) hx hb dX6_operation_4 rfl hl (by decide) rfl (fun ls hl => ?_)
  refine lv_iload_n hx hb dX6_operation_5 rfl (lv_at hl 0 rfl) ?_
  obtain ⟨hvt, hvf⟩ := hvc
  by_cases hc : r2 = (28530 : Int32)
  · have hvc := hvt hc
    refine lv_lookup (tgt := 82) (off := 76) hx hb dX6_operation_6 (by decide) (by rw [hc]; rfl) (by decide) ?_
    refine lv_iconst (v := 1) hx hb dX6_operation_82 (by decide) ?_
    exact hret (1 : Int32) n1 _ _ _ _ hvc hP hD hS dX6_operation_83
  · have hvc := hvf hc
    have sw_28530 := hc
    obtain ⟨hvt, hvf⟩ := hvc
    by_cases hc : r2 = (6385252 : Int32)
    · have hvc := hvt hc
      refine lv_lookup (tgt := 80) (off := 74) hx hb dX6_operation_6 (by decide) (by rw [hc]; rfl) (by decide) ?_
      refine lv_iconst (v := 0) hx hb dX6_operation_80 (by decide) ?_
      exact hret (0 : Int32) n1 _ _ _ _ hvc hP hD hS dX6_operation_81
    · have hvc := hvf hc
      have sw_6385252 := hc
      obtain ⟨hvt, hvf⟩ := hvc
      by_cases hc : r2 = (6452582 : Int32)
      · have hvc := hvt hc
        refine lv_lookup (tgt := 92) (off := 86) hx hb dX6_operation_6 (by decide) (by rw [hc]; rfl) (by decide) ?_
        refine lv_bipush (v := 6) hx hb dX6_operation_92 (by decide) ?_
        exact hret (6 : Int32) n1 _ _ _ _ hvc hP hD hS dX6_operation_94
      · have hvc := hvf hc
        have sw_6452582 := hc
        obtain ⟨hvt, hvf⟩ := hvc
        by_cases hc : r2 = (7173496 : Int32)
        · have hvc := hvt hc
          refine lv_lookup (tgt := 95) (off := 89) hx hb dX6_operation_6 (by decide) (by rw [hc]; rfl) (by decide) ?_
          refine lv_bipush (v := 7) hx hb dX6_operation_95 (by decide) ?_
          exact hret (7 : Int32) n1 _ _ _ _ hvc hP hD hS dX6_operation_97
        · have hvc := hvf hc
          have sw_7173496 := hc
          obtain ⟨hvt, hvf⟩ := hvc
          by_cases hc : r2 = (7237490 : Int32)
          · have hvc := hvt hc
            refine lv_lookup (tgt := 88) (off := 82) hx hb dX6_operation_6 (by decide) (by rw [hc]; rfl) (by decide) ?_
            refine lv_iconst (v := 4) hx hb dX6_operation_88 (by decide) ?_
            exact hret (4 : Int32) n1 _ _ _ _ hvc hP hD hS dX6_operation_89
          · have hvc := hvf hc
            have sw_7237490 := hc
            obtain ⟨hvt, hvf⟩ := hvc
            by_cases hc : r2 = (7237492 : Int32)
            · have hvc := hvt hc
              refine lv_lookup (tgt := 90) (off := 84) hx hb dX6_operation_6 (by decide) (by rw [hc]; rfl) (by decide) ?_
              refine lv_iconst (v := 5) hx hb dX6_operation_90 (by decide) ?_
              exact hret (5 : Int32) n1 _ _ _ _ hvc hP hD hS dX6_operation_91
            · have hvc := hvf hc
              have sw_7237492 := hc
              obtain ⟨hvt, hvf⟩ := hvc
              by_cases hc : r2 = (7892850 : Int32)
              · have hvc := hvt hc
                refine lv_lookup (tgt := 84) (off := 78) hx hb dX6_operation_6 (by decide) (by rw [hc]; rfl) (by decide) ?_
                refine lv_iconst (v := 2) hx hb dX6_operation_84 (by decide) ?_
                exact hret (2 : Int32) n1 _ _ _ _ hvc hP hD hS dX6_operation_85
              · have hvc := hvf hc
                have sw_7892850 := hc
                obtain ⟨hvt, hvf⟩ := hvc
                by_cases hc : r2 = (1851879012 : Int32)
                · have hvc := hvt hc
                  refine lv_lookup (tgt := 86) (off := 80) hx hb dX6_operation_6 (by decide) (by rw [hc]; rfl) (by decide) ?_
                  refine lv_iconst (v := 3) hx hb dX6_operation_86 (by decide) ?_
                  exact hret (3 : Int32) n1 _ _ _ _ hvc hP hD hS dX6_operation_87
                · have hvc := hvf hc
                  have sw_1851879012 := hc
                  refine lv_lookup (tgt := 98) (off := 92) hx hb dX6_operation_6 (by decide) (by show Op.lookupswitch.offset ([(28530, 76), (6385252, 74), (6452582, 86), (7173496, 89), (7237490, 82), (7237492, 84), (7892850, 78), (1851879012, 80)] : List (Int × Int)) 92 _ = 92; rw [lv_osw sw_28530 (by decide), lv_osw sw_6385252 (by decide), lv_osw sw_6452582 (by decide), lv_osw sw_7173496 (by decide), lv_osw sw_7237490 (by decide), lv_osw sw_7237492 (by decide), lv_osw sw_7892850 (by decide), lv_osw sw_1851879012 (by decide)]; rfl) (by decide) ?_
                  refine lv_iconst (v := (-1)) hx hb dX6_operation_98 (by decide) ?_
                  exact hret (-1 : Int32) n1 _ _ _ _ hvc hP hD hS dX6_operation_99
def v_X6_least_b21  (Q : Int32 → Prop)  : Prop := Q (1 : Int32) 
def v_X6_least  (p0 : Int32) (Q : Int32 → Prop) : Prop := (¬ p0 = (7 : Int32) → (p0 = (5 : Int32) → v_X6_least_b21 Q  ) ∧ (¬ p0 = (5 : Int32) → (¬ p0 = (6 : Int32) → Q (2 : Int32) ) ∧ (p0 = (6 : Int32) → v_X6_least_b21 Q  ))) ∧ (p0 = (7 : Int32) → Q (3 : Int32) )
theorem hd_X6_least : yX6_least.cls ≠ "java/lang/invoke/MethodHandle" ∧ yX6_least.cls ≠ "java/lang/invoke/VarHandle" ∧ (parseMethodDescriptor yX6_least.desc).map (fun d => d.parameters.length) = some 1 := by decide +kernel
abbrev rm_X6_least : Room := { frames := 0, cells := 0, slots := 0, locals := 0 }
set_option maxHeartbeats 4000000 in
set_option maxRecDepth 100000 in
theorem c_X6_least (l : Launch) (D : va_G) (ts : Nat → Nat) (cyI cyJ cyZ : ClassId)  (sz : Nat)  (p0 : Int32) (Q : Int32 → Prop) (hvc : v_X6_least  p0 Q) : Met l yX6_least wsX6_least rm_X6_least (va_Pc [.int p0] (cPre D ts [(cyI, .int), (cyJ, .long), (cyZ, .boolean)] [] sz)) (va_Qi (fun (r : Int32) (u : Unit) => Q r ) (cPost D [(cyI, .int), (cyJ, .long), (cyZ, .boolean)] (fun (u : Unit) => []) (va_A [] sz)) (va_A [] sz)) 0 0 (va_A [] sz) := by
  refine kEnter_i (cc := cX6_least) (maxL := 1) (by decide) rfl (Nat.le_of_ble_eq_true rfl) ?_
  intro p e s m args below meth c A ls QQ hx hb hml hown hts hsz hA hP hD hK hE hS hl hret
  clear hsz
  have hown : s.vm.findClass RX6 = some m.cls := hown
  have w21 : ∀  (H : Heap) (locs : List Loc) (ls : Array Slot), v_X6_least_b21 Q   → va_P D vwCl [] H → va_D A [] → va_S A s.heap H locs → lv_has ls 1 [] → W p l e rm_X6_least s m args below meth c H locs 0 0 QQ (F0 m 21 ls []) := by
    intro  H locs ls hvc hP hD hS hl
    refine lv_iconst (v := 1) hx hb dX6_least_21 (by decide) ?_
    refine lv_goto (tgt := 26) hx hb dX6_least_22 (by decide) ?_
    exact hret (1 : Int32) () _ _ _ _ hvc hP hD hS dX6_least_26
  have hl : lv_has ls 1 [(0, .int p0)] := hl
  refine lv_iload_n hx hb dX6_least_0 rfl (lv_at hl 0 rfl) ?_
  refine lv_bipush (v := 7) hx hb dX6_least_1 (by decide) ?_
  obtain ⟨hvt, hvf⟩ := hvc
  refine lv_icmp_ne (tgt := 10) hx hb dX6_least_3 (by decide) (fun hc => ?_) (fun hc => ?_)
  · have hvc := hvt hc
    refine lv_iload_n hx hb dX6_least_10 rfl (lv_at hl 0 rfl) ?_
    refine lv_iconst (v := 5) hx hb dX6_least_11 (by decide) ?_
    obtain ⟨hvt, hvf⟩ := hvc
    refine lv_icmp_eq (tgt := 21) hx hb dX6_least_12 (by decide) (fun hc => ?_) (fun hc => ?_)
    · have hvc := hvt hc
      exact w21  _ _ _ hvc hP hD hS (lv_sub hl [] rfl)
    · have hvc := hvf hc
      refine lv_iload_n hx hb dX6_least_15 rfl (lv_at hl 0 rfl) ?_
      refine lv_bipush (v := 6) hx hb dX6_least_16 (by decide) ?_
      obtain ⟨hvt, hvf⟩ := hvc
      refine lv_icmp_ne (tgt := 25) hx hb dX6_least_18 (by decide) (fun hc => ?_) (fun hc => ?_)
      · have hvc := hvt hc
        refine lv_iconst (v := 2) hx hb dX6_least_25 (by decide) ?_
        exact hret (2 : Int32) () _ _ _ _ hvc hP hD hS dX6_least_26
      · have hvc := hvf hc
        exact w21  _ _ _ hvc hP hD hS (lv_sub hl [] rfl)
  · have hvc := hvf hc
    refine lv_iconst (v := 3) hx hb dX6_least_6 (by decide) ?_
    refine lv_goto (tgt := 26) hx hb dX6_least_7 (by decide) ?_
    exact hret (3 : Int32) () _ _ _ _ hvc hP hD hS dX6_least_26
def v_X6_givenName (m_size : Int32) (m_fault : Int32) (m_place : Int32) (m_at : Int32) (m_count : Int32) (m_tape : Nat → Int32) (m_names : Nat → Int32)  (Q : Int32 → Int32 → Int32 → Int32 → Prop) : Prop := (m_fault ≤ (0) → v_X6_isName  m_size m_at m_tape (fun (r2 : Int32) (n1 : Int32) => (¬ r2 = (0) → v_X6_token  m_size n1 m_tape (fun (r4 : Int32) (n3 : Int32) => v_X6_find  m_count m_names r4 (fun (r5 : Int32) => ((0) ≤ r5 → Q r5 m_fault m_place n3) ∧ (¬ (0) ≤ r5 → v_X6_fail  m_fault m_place (2 : Int32) n3 (fun (n6 : Int32) (n7 : Int32) => Q r5 n6 n7 n3))))) ∧ (r2 = (0) → v_X6_fail  m_fault m_place (1 : Int32) n1 (fun (n8 : Int32) (n9 : Int32) => Q (0 : Int32) n8 n9 n1)))) ∧ (¬ m_fault ≤ (0) → Q (0 : Int32) m_fault m_place m_at)
theorem hd_X6_givenName : yX6_givenName.cls = RX6 ∧ yX6_givenName.cls ≠ "java/lang/invoke/MethodHandle" ∧ yX6_givenName.cls ≠ "java/lang/invoke/VarHandle" ∧ (parseMethodDescriptor yX6_givenName.desc).map (fun d => d.parameters.length) = some 0 := by decide +kernel
abbrev rm_X6_givenName : Room := { frames := 3, cells := 0, slots := 0, locals := 66 }
set_option maxHeartbeats 4000000 in
set_option maxRecDepth 100000 in
theorem c_X6_givenName (l : Launch) (D : va_G) (ts : Nat → Nat) (cyI cyJ cyZ : ClassId) (h_m : Nat → Nat) (sz : Nat) (m_thrown : Int32) (m_size : Int32) (m_fault : Int32) (m_place : Int32) (m_at : Int32) (m_count : Int32) (m_inputs : Int32) (m_flips : Int32) (m_outs : Int32) (m_nets : Int32) (m_nIn : Int32) (m_nFlip : Int32) (m_nOut : Int32) (m_known : Int32) (m_chosen : Int32) (m_testable : Int32) (m_rows : Int32) (m_stuck : Int32) (m_state : Int32) (m_code : Int32) (m_bits : Int32) (m_beside : Int32) (m_shifter : Int32) (m_tape : Nat → Int32) (m_names : Nat → Int32)  (Q : Int32 → Int32 → Int32 → Int32 → Prop) (hvc : v_X6_givenName m_size m_fault m_place m_at m_count m_tape m_names  Q) : Met l yX6_givenName wsX6_givenName rm_X6_givenName (va_Pc [.ref (h_m 0)] (cPre D ts [(cyI, .int), (cyJ, .long), (cyZ, .boolean)] [(h_m 0, .inr (6, [.int m_thrown, .ref (h_m 2), .int m_size, .int m_fault, .int m_place, .int m_at, .int m_count, .int m_inputs, .int m_flips, .int m_outs, .ref (h_m 11), .ref (h_m 12), .ref (h_m 13), .ref (h_m 14), .ref (h_m 15), .ref (h_m 16), .int m_nets, .int m_nIn, .int m_nFlip, .int m_nOut, .ref (h_m 21), .ref (h_m 22), .ref (h_m 23), .ref (h_m 24), .ref (h_m 25), .int m_known, .ref (h_m 27), .ref (h_m 28), .ref (h_m 29), .ref (h_m 30), .ref (h_m 31), .int m_chosen, .int m_testable, .int m_rows, .ref (h_m 35), .int m_stuck, .int m_state, .int m_code, .int m_bits, .int m_beside, .int m_shifter])), (h_m 2, .inl (cyI, 900, .inl m_tape)), (h_m 11, .inl (cyI, 60, .inl m_names))] sz)) (va_Qi (fun (r : Int32) (u : Int32 × Int32 × Int32) => Q r u.1 u.2.1 u.2.2) (cPost D [(cyI, .int), (cyJ, .long), (cyZ, .boolean)] (fun (u : Int32 × Int32 × Int32) => [(h_m 0, .inr (6, [.int m_thrown, .ref (h_m 2), .int m_size, .int (u.1), .int (u.2.1), .int (u.2.2), .int m_count, .int m_inputs, .int m_flips, .int m_outs, .ref (h_m 11), .ref (h_m 12), .ref (h_m 13), .ref (h_m 14), .ref (h_m 15), .ref (h_m 16), .int m_nets, .int m_nIn, .int m_nFlip, .int m_nOut, .ref (h_m 21), .ref (h_m 22), .ref (h_m 23), .ref (h_m 24), .ref (h_m 25), .int m_known, .ref (h_m 27), .ref (h_m 28), .ref (h_m 29), .ref (h_m 30), .ref (h_m 31), .int m_chosen, .int m_testable, .int m_rows, .ref (h_m 35), .int m_stuck, .int m_state, .int m_code, .int m_bits, .int m_beside, .int m_shifter])), (h_m 2, .inl (cyI, 900, .inl m_tape)), (h_m 11, .inl (cyI, 60, .inl m_names))]) (va_A [(h_m 0, .inr (6, [.int m_thrown, .ref (h_m 2), .int m_size, .int m_fault, .int m_place, .int m_at, .int m_count, .int m_inputs, .int m_flips, .int m_outs, .ref (h_m 11), .ref (h_m 12), .ref (h_m 13), .ref (h_m 14), .ref (h_m 15), .ref (h_m 16), .int m_nets, .int m_nIn, .int m_nFlip, .int m_nOut, .ref (h_m 21), .ref (h_m 22), .ref (h_m 23), .ref (h_m 24), .ref (h_m 25), .int m_known, .ref (h_m 27), .ref (h_m 28), .ref (h_m 29), .ref (h_m 30), .ref (h_m 31), .int m_chosen, .int m_testable, .int m_rows, .ref (h_m 35), .int m_stuck, .int m_state, .int m_code, .int m_bits, .int m_beside, .int m_shifter])), (h_m 2, .inl (cyI, 900, .inl m_tape)), (h_m 11, .inl (cyI, 60, .inl m_names))] sz)) (va_A [(h_m 0, .inr (6, [.int m_thrown, .ref (h_m 2), .int m_size, .int m_fault, .int m_place, .int m_at, .int m_count, .int m_inputs, .int m_flips, .int m_outs, .ref (h_m 11), .ref (h_m 12), .ref (h_m 13), .ref (h_m 14), .ref (h_m 15), .ref (h_m 16), .int m_nets, .int m_nIn, .int m_nFlip, .int m_nOut, .ref (h_m 21), .ref (h_m 22), .ref (h_m 23), .ref (h_m 24), .ref (h_m 25), .int m_known, .ref (h_m 27), .ref (h_m 28), .ref (h_m 29), .ref (h_m 30), .ref (h_m 31), .int m_chosen, .int m_testable, .int m_rows, .ref (h_m 35), .int m_stuck, .int m_state, .int m_code, .int m_bits, .int m_beside, .int m_shifter])), (h_m 2, .inl (cyI, 900, .inl m_tape)), (h_m 11, .inl (cyI, 60, .inl m_names))] sz)) 0 0 (va_A [(h_m 0, .inr (6, [.int m_thrown, .ref (h_m 2), .int m_size, .int m_fault, .int m_place, .int m_at, .int m_count, .int m_inputs, .int m_flips, .int m_outs, .ref (h_m 11), .ref (h_m 12), .ref (h_m 13), .ref (h_m 14), .ref (h_m 15), .ref (h_m 16), .int m_nets, .int m_nIn, .int m_nFlip, .int m_nOut, .ref (h_m 21), .ref (h_m 22), .ref (h_m 23), .ref (h_m 24), .ref (h_m 25), .int m_known, .ref (h_m 27), .ref (h_m 28), .ref (h_m 29), .ref (h_m 30), .ref (h_m 31), .int m_chosen, .int m_testable, .int m_rows, .ref (h_m 35), .int m_stuck, .int m_state, .int m_code, .int m_bits, .int m_beside, .int m_shifter])), (h_m 2, .inl (cyI, 900, .inl m_tape)), (h_m 11, .inl (cyI, 60, .inl m_names))] sz) := by
  refine kEnter_i (cc := cX6_givenName) (maxL := 2) (by decide) rfl (Nat.le_of_ble_eq_true rfl) ?_
  intro p e s m args below meth c A ls QQ hx hb hml hown hts hsz hA hP hD hK hE hS hl hret
  clear hsz
  have hown : s.vm.findClass RX6 = some m.cls := hown
  have inX6 : ∀ w ∈ wsX60, w ∈ wsX6_givenName := fun _ h => List.mem_cons_of_mem _ (List.mem_append_right _ h)
  have f84 := hts (.fieldLink RX6 84 "ScanTesterModel" "fault" "I") (List.mem_of_getElem? (i := 1) rfl)
  have f87 := hts (.fieldLink RX6 87 "ScanTesterModel" "at" "I") (List.mem_of_getElem? (i := 2) rfl)
  have hl : lv_has ls 2 [(0, .ref (h_m 0))] := hl
  refine lv_aload_n hx hb dX6_givenName_0 rfl (lv_at hl 0 rfl) ?_
  refine va_get (D := D) (ci := 6) (C := RX6) (T := TX6) (N := 41) hx hb hts inX6 hown hK hP 0 rfl rfl 3 (by decide) f84 (fun _ h9 => h9) rfl dX6_givenName_1 ?_
  obtain ⟨hvt, hvf⟩ := hvc
  refine lv_if_le (tgt := 9) hx hb dX6_givenName_4 (by decide) (fun hc => ?_) (fun hc => ?_)
  · have hvc := hvt hc
    refine lv_aload_n hx hb dX6_givenName_9 rfl (lv_at hl 0 rfl) ?_
    refine kV_i (wc := [(h_m 0, .inr (6, [.int m_thrown, .ref (h_m 2), .int m_size, .int m_fault, .int m_place, .int m_at, .int m_count, .int m_inputs, .int m_flips, .int m_outs, .ref (h_m 11), .ref (h_m 12), .ref (h_m 13), .ref (h_m 14), .ref (h_m 15), .ref (h_m 16), .int m_nets, .int m_nIn, .int m_nFlip, .int m_nOut, .ref (h_m 21), .ref (h_m 22), .ref (h_m 23), .ref (h_m 24), .ref (h_m 25), .int m_known, .ref (h_m 27), .ref (h_m 28), .ref (h_m 29), .ref (h_m 30), .ref (h_m 31), .int m_chosen, .int m_testable, .int m_rows, .ref (h_m 35), .int m_stuck, .int m_state, .int m_code, .int m_bits, .int m_beside, .int m_shifter])), (h_m 2, .inl (cyI, 900, .inl m_tape))]) (wr := [(h_m 11, .inl (cyI, 60, .inl m_names))]) (As := []) (rest := []) ⟨hx, hb, hml, hown, hts⟩ hP hD hK hE hS hA [0, 1] [2] rfl rfl (by decide) (by decide) (by decide) (c_X6_isName l D ts cyI cyJ cyZ h_m _ m_thrown m_size m_fault m_place m_at m_count m_inputs m_flips m_outs m_nets m_nIn m_nFlip m_nOut m_known m_chosen m_testable m_rows m_stuck m_state m_code m_bits m_beside m_shifter m_tape _ hvc) (cwV 0 hts gX6_givenName_X6_isName rfl rfl rfl hd_X6_isName ⟨Nat.le_of_ble_eq_true rfl, Nat.le_of_ble_eq_true rfl⟩) (ci := 6) rfl rfl rfl hl.1 rfl (Nat.zero_le _) (Nat.zero_le _) rfl (Nat.le_of_ble_eq_true rfl) dX6_givenName_10 (fun r2 n1 H locs hvc hP hD hS => ?_)
    try dsimp only at hvc
    have hP : va_P D vwCl [(h_m 0, .inr (6, [.int m_thrown, .ref (h_m 2), .int m_size, .int m_fault, .int m_place, .int n1, .int m_count, .int m_inputs, .int m_flips, .int m_outs, .ref (h_m 11), .ref (h_m 12), .ref (h_m 13), .ref (h_m 14), .ref (h_m 15), .ref (h_m 16), .int m_nets, .int m_nIn, .int m_nFlip, .int m_nOut, .ref (h_m 21), .ref (h_m 22), .ref (h_m 23), .ref (h_m 24), .ref (h_m 25), .int m_known, .ref (h_m 27), .ref (h_m 28), .ref (h_m 29), .ref (h_m 30), .ref (h_m 31), .int m_chosen, .int m_testable, .int m_rows, .ref (h_m 35), .int m_stuck, .int m_state, .int m_code, .int m_bits, .int m_beside, .int m_shifter])), (h_m 2, .inl (cyI, 900, .inl m_tape)), (h_m 11, .inl (cyI, 60, .inl m_names))] H := sub_P hP (isC := [1, 2, 0]) rfl
    have hD : va_D A [(h_m 0, .inr (6, [.int m_thrown, .ref (h_m 2), .int m_size, .int m_fault, .int m_place, .int n1, .int m_count, .int m_inputs, .int m_flips, .int m_outs, .ref (h_m 11), .ref (h_m 12), .ref (h_m 13), .ref (h_m 14), .ref (h_m 15), .ref (h_m 16), .int m_nets, .int m_nIn, .int m_nFlip, .int m_nOut, .ref (h_m 21), .ref (h_m 22), .ref (h_m 23), .ref (h_m 24), .ref (h_m 25), .int m_known, .ref (h_m 27), .ref (h_m 28), .ref (h_m 29), .ref (h_m 30), .ref (h_m 31), .int m_chosen, .int m_testable, .int m_rows, .ref (h_m 35), .int m_stuck, .int m_state, .int m_code, .int m_bits, .int m_beside, .int m_shifter])), (h_m 2, .inl (cyI, 900, .inl m_tape)), (h_m 11, .inl (cyI, 60, .inl m_names))] := hD.sub [1, 2, 0] (by decide) rfl
    obtain ⟨hvt, hvf⟩ := hvc
    refine lv_if_ne (tgt := 27) hx hb dX6_givenName_13 (by decide) (fun hc => ?_) (fun hc => ?_)
    · have hvc := hvt hc
      refine lv_aload_n hx hb dX6_givenName_27 rfl (lv_at hl 0 rfl) ?_
      refine lv_aload_n hx hb dX6_givenName_28 rfl (lv_at hl 0 rfl) ?_
      refine kV_i (wc := [(h_m 0, .inr (6, [.int m_thrown, .ref (h_m 2), .int m_size, .int m_fault, .int m_place, .int n1, .int m_count, .int m_inputs, .int m_flips, .int m_outs, .ref (h_m 11), .ref (h_m 12), .ref (h_m 13), .ref (h_m 14), .ref (h_m 15), .ref (h_m 16), .int m_nets, .int m_nIn, .int m_nFlip, .int m_nOut, .ref (h_m 21), .ref (h_m 22), .ref (h_m 23), .ref (h_m 24), .ref (h_m 25), .int m_known, .ref (h_m 27), .ref (h_m 28), .ref (h_m 29), .ref (h_m 30), .ref (h_m 31), .int m_chosen, .int m_testable, .int m_rows, .ref (h_m 35), .int m_stuck, .int m_state, .int m_code, .int m_bits, .int m_beside, .int m_shifter])), (h_m 2, .inl (cyI, 900, .inl m_tape))]) (wr := [(h_m 11, .inl (cyI, 60, .inl m_names))]) (As := []) (rest := [.ref (h_m 0)]) ⟨hx, hb, hml, hown, hts⟩ hP hD hK hE hS hA [0, 1] [2] rfl rfl (by decide) (by decide) (by decide) (c_X6_token l D ts cyI cyJ cyZ h_m _ m_thrown m_size m_fault m_place n1 m_count m_inputs m_flips m_outs m_nets m_nIn m_nFlip m_nOut m_known m_chosen m_testable m_rows m_stuck m_state m_code m_bits m_beside m_shifter m_tape _ hvc) (cwV 0 hts gX6_givenName_X6_token rfl rfl rfl hd_X6_token ⟨Nat.le_of_ble_eq_true rfl, Nat.le_of_ble_eq_true rfl⟩) (ci := 6) rfl rfl rfl hl.1 rfl (Nat.zero_le _) (Nat.zero_le _) rfl (Nat.le_of_ble_eq_true rfl) dX6_givenName_29 (fun r4 n3 H locs hvc hP hD hS => ?_)
      try dsimp only at hvc
      have hP : va_P D vwCl [(h_m 0, .inr (6, [.int m_thrown, .ref (h_m 2), .int m_size, .int m_fault, .int m_place, .int n3, .int m_count, .int m_inputs, .int m_flips, .int m_outs, .ref (h_m 11), .ref (h_m 12), .ref (h_m 13), .ref (h_m 14), .ref (h_m 15), .ref (h_m 16), .int m_nets, .int m_nIn, .int m_nFlip, .int m_nOut, .ref (h_m 21), .ref (h_m 22), .ref (h_m 23), .ref (h_m 24), .ref (h_m 25), .int m_known, .ref (h_m 27), .ref (h_m 28), .ref (h_m 29), .ref (h_m 30), .ref (h_m 31), .int m_chosen, .int m_testable, .int m_rows, .ref (h_m 35), .int m_stuck, .int m_state, .int m_code, .int m_bits, .int m_beside, .int m_shifter])), (h_m 2, .inl (cyI, 900, .inl m_tape)), (h_m 11, .inl (cyI, 60, .inl m_names))] H := sub_P hP (isC := [1, 2, 0]) rfl
      have hD : va_D A [(h_m 0, .inr (6, [.int m_thrown, .ref (h_m 2), .int m_size, .int m_fault, .int m_place, .int n3, .int m_count, .int m_inputs, .int m_flips, .int m_outs, .ref (h_m 11), .ref (h_m 12), .ref (h_m 13), .ref (h_m 14), .ref (h_m 15), .ref (h_m 16), .int m_nets, .int m_nIn, .int m_nFlip, .int m_nOut, .ref (h_m 21), .ref (h_m 22), .ref (h_m 23), .ref (h_m 24), .ref (h_m 25), .int m_known, .ref (h_m 27), .ref (h_m 28), .ref (h_m 29), .ref (h_m 30), .ref (h_m 31), .int m_chosen, .int m_testable, .int m_rows, .ref (h_m 35), .int m_stuck, .int m_state, .int m_code, .int m_bits, .int m_beside, .int m_shifter])), (h_m 2, .inl (cyI, 900, .inl m_tape)), (h_m 11, .inl (cyI, 60, .inl m_names))] := hD.sub [1, 2, 0] (by decide) rfl
      refine kV_i (wc := [(h_m 0, .inr (6, [.int m_thrown, .ref (h_m 2), .int m_size, .int m_fault, .int m_place, .int n3, .int m_count, .int m_inputs, .int m_flips, .int m_outs, .ref (h_m 11), .ref (h_m 12), .ref (h_m 13), .ref (h_m 14), .ref (h_m 15), .ref (h_m 16), .int m_nets, .int m_nIn, .int m_nFlip, .int m_nOut, .ref (h_m 21), .ref (h_m 22), .ref (h_m 23), .ref (h_m 24), .ref (h_m 25), .int m_known, .ref (h_m 27), .ref (h_m 28), .ref (h_m 29), .ref (h_m 30), .ref (h_m 31), .int m_chosen, .int m_testable, .int m_rows, .ref (h_m 35), .int m_stuck, .int m_state, .int m_code, .int m_bits, .int m_beside, .int m_shifter])), (h_m 11, .inl (cyI, 60, .inl m_names))]) (wr := [(h_m 2, .inl (cyI, 900, .inl m_tape))]) (As := [.int r4]) (rest := []) ⟨hx, hb, hml, hown, hts⟩ hP hD hK hE hS hA [0, 2] [1] rfl rfl (by decide) (by decide) (by decide) (c_X6_find l D ts cyI cyJ cyZ h_m _ m_thrown m_size m_fault m_place n3 m_count m_inputs m_flips m_outs m_nets m_nIn m_nFlip m_nOut m_known m_chosen m_testable m_rows m_stuck m_state m_code m_bits m_beside m_shifter m_names r4 _ hvc) (cwV 1 hts gX6_givenName_X6_find rfl rfl rfl hd_X6_find ⟨Nat.le_of_ble_eq_true rfl, Nat.le_of_ble_eq_true rfl⟩) (ci := 6) rfl rfl rfl hl.1 rfl (Nat.zero_le _) (Nat.zero_le _) rfl (Nat.le_of_ble_eq_true rfl) dX6_givenName_32 (fun r5 _u H locs hvc hP hD hS => ?_)
      try dsimp only at hvc
      have hP : va_P D vwCl [(h_m 0, .inr (6, [.int m_thrown, .ref (h_m 2), .int m_size, .int m_fault, .int m_place, .int n3, .int m_count, .int m_inputs, .int m_flips, .int m_outs, .ref (h_m 11), .ref (h_m 12), .ref (h_m 13), .ref (h_m 14), .ref (h_m 15), .ref (h_m 16), .int m_nets, .int m_nIn, .int m_nFlip, .int m_nOut, .ref (h_m 21), .ref (h_m 22), .ref (h_m 23), .ref (h_m 24), .ref (h_m 25), .int m_known, .ref (h_m 27), .ref (h_m 28), .ref (h_m 29), .ref (h_m 30), .ref (h_m 31), .int m_chosen, .int m_testable, .int m_rows, .ref (h_m 35), .int m_stuck, .int m_state, .int m_code, .int m_bits, .int m_beside, .int m_shifter])), (h_m 2, .inl (cyI, 900, .inl m_tape)), (h_m 11, .inl (cyI, 60, .inl m_names))] H := sub_P hP (isC := [1, 0, 2]) rfl
      have hD : va_D A [(h_m 0, .inr (6, [.int m_thrown, .ref (h_m 2), .int m_size, .int m_fault, .int m_place, .int n3, .int m_count, .int m_inputs, .int m_flips, .int m_outs, .ref (h_m 11), .ref (h_m 12), .ref (h_m 13), .ref (h_m 14), .ref (h_m 15), .ref (h_m 16), .int m_nets, .int m_nIn, .int m_nFlip, .int m_nOut, .ref (h_m 21), .ref (h_m 22), .ref (h_m 23), .ref (h_m 24), .ref (h_m 25), .int m_known, .ref (h_m 27), .ref (h_m 28), .ref (h_m 29), .ref (h_m 30), .ref (h_m 31), .int m_chosen, .int m_testable, .int m_rows, .ref (h_m 35), .int m_stuck, .int m_state, .int m_code, .int m_bits, .int m_beside, .int m_shifter])), (h_m 2, .inl (cyI, 900, .inl m_tape)), (h_m 11, .inl (cyI, 60, .inl m_names))] := hD.sub [1, 0, 2] (by decide) rfl
      refine lv_istore_n (lv' := [(1, .int r5), (0, .ref (h_m 0))]) hx hb dX6_givenName_35 rfl hl (by decide) rfl (fun ls hl => ?_)
      refine lv_iload_n hx hb dX6_givenName_36 rfl (lv_at hl 0 rfl) ?_
      obtain ⟨hvt, hvf⟩ := hvc
      refine lv_if_ge (tgt := 49) hx hb dX6_givenName_37 (by decide) (fun hc => ?_) (fun hc => ?_)
      · have hvc := hvt hc
        refine lv_iload_n hx hb dX6_givenName_49 rfl (lv_at hl 0 rfl) ?_
        exact hret r5 (m_fault, m_place, n3) _ _ _ _ hvc hP hD hS dX6_givenName_50
      · have hvc := hvf hc
        refine lv_aload_n hx hb dX6_givenName_40 rfl (lv_at hl 1 rfl) ?_
        refine lv_iconst (v := 2) hx hb dX6_givenName_41 (by decide) ?_
        refine lv_aload_n hx hb dX6_givenName_42 rfl (lv_at hl 1 rfl) ?_
        refine va_get (D := D) (ci := 6) (C := RX6) (T := TX6) (N := 41) hx hb hts inX6 hown hK hP 0 rfl rfl 5 (by decide) f87 (fun _ h9 => h9) rfl dX6_givenName_43 ?_
        refine kV_v (wc := [(h_m 0, .inr (6, [.int m_thrown, .ref (h_m 2), .int m_size, .int m_fault, .int m_place, .int n3, .int m_count, .int m_inputs, .int m_flips, .int m_outs, .ref (h_m 11), .ref (h_m 12), .ref (h_m 13), .ref (h_m 14), .ref (h_m 15), .ref (h_m 16), .int m_nets, .int m_nIn, .int m_nFlip, .int m_nOut, .ref (h_m 21), .ref (h_m 22), .ref (h_m 23), .ref (h_m 24), .ref (h_m 25), .int m_known, .ref (h_m 27), .ref (h_m 28), .ref (h_m 29), .ref (h_m 30), .ref (h_m 31), .int m_chosen, .int m_testable, .int m_rows, .ref (h_m 35), .int m_stuck, .int m_state, .int m_code, .int m_bits, .int m_beside, .int m_shifter]))]) (wr := [(h_m 2, .inl (cyI, 900, .inl m_tape)), (h_m 11, .inl (cyI, 60, .inl m_names))]) (As := [.int (2 : Int32), .int n3]) (rest := []) ⟨hx, hb, hml, hown, hts⟩ hP hD hK hE hS hA [0] [1, 2] rfl rfl (by decide) (by decide) (by decide) (c_X6_fail l D ts cyI cyJ cyZ h_m _ m_thrown m_size m_fault m_place n3 m_count m_inputs m_flips m_outs m_nets m_nIn m_nFlip m_nOut m_known m_chosen m_testable m_rows m_stuck m_state m_code m_bits m_beside m_shifter (2 : Int32) n3 _ hvc) (cwV 2 hts gX6_givenName_X6_fail rfl rfl rfl hd_X6_fail ⟨Nat.le_of_ble_eq_true rfl, Nat.le_of_ble_eq_true rfl⟩) (ci := 6) rfl rfl rfl hl.1 rfl (Nat.zero_le _) (Nat.zero_le _) rfl (Nat.le_of_ble_eq_true rfl) dX6_givenName_46 (fun u H locs hvc hP hD hS => ?_)
        obtain ⟨n6, n7⟩ := u
        try dsimp only at hvc
        have hP : va_P D vwCl [(h_m 0, .inr (6, [.int m_thrown, .ref (h_m 2), .int m_size, .int n6, .int n7, .int n3, .int m_count, .int m_inputs, .int m_flips, .int m_outs, .ref (h_m 11), .ref (h_m 12), .ref (h_m 13), .ref (h_m 14), .ref (h_m 15), .ref (h_m 16), .int m_nets, .int m_nIn, .int m_nFlip, .int m_nOut, .ref (h_m 21), .ref (h_m 22), .ref (h_m 23), .ref (h_m 24), .ref (h_m 25), .int m_known, .ref (h_m 27), .ref (h_m 28), .ref (h_m 29), .ref (h_m 30), .ref (h_m 31), .int m_chosen, .int m_testable, .int m_rows, .ref (h_m 35), .int m_stuck, .int m_state, .int m_code, .int m_bits, .int m_beside, .int m_shifter])), (h_m 2, .inl (cyI, 900, .inl m_tape)), (h_m 11, .inl (cyI, 60, .inl m_names))] H := sub_P hP (isC := [2, 0, 1]) rfl
        have hD : va_D A [(h_m 0, .inr (6, [.int m_thrown, .ref (h_m 2), .int m_size, .int n6, .int n7, .int n3, .int m_count, .int m_inputs, .int m_flips, .int m_outs, .ref (h_m 11), .ref (h_m 12), .ref (h_m 13), .ref (h_m 14), .ref (h_m 15), .ref (h_m 16), .int m_nets, .int m_nIn, .int m_nFlip, .int m_nOut, .ref (h_m 21), .ref (h_m 22), .ref (h_m 23), .ref (h_m 24), .ref (h_m 25), .int m_known, .ref (h_m 27), .ref (h_m 28), .ref (h_m 29), .ref (h_m 30), .ref (h_m 31), .int m_chosen, .int m_testable, .int m_rows, .ref (h_m 35), .int m_stuck, .int m_state, .int m_code, .int m_bits, .int m_beside, .int m_shifter])), (h_m 2, .inl (cyI, 900, .inl m_tape)), (h_m 11, .inl (cyI, 60, .inl m_names))] := hD.sub [2, 0, 1] (by decide) rfl
        refine lv_iload_n hx hb dX6_givenName_49 rfl (lv_at hl 0 rfl) ?_
        exact hret r5 (n6, n7, n3) _ _ _ _ hvc hP hD hS dX6_givenName_50
    · have hvc := hvf hc
      refine lv_aload_n hx hb dX6_givenName_16 rfl (lv_at hl 0 rfl) ?_
      refine lv_iconst (v := 1) hx hb dX6_givenName_17 (by decide) ?_
      refine lv_aload_n hx hb dX6_givenName_18 rfl (lv_at hl 0 rfl) ?_
      refine va_get (D := D) (ci := 6) (C := RX6) (T := TX6) (N := 41) hx hb hts inX6 hown hK hP 0 rfl rfl 5 (by decide) f87 (fun _ h9 => h9) rfl dX6_givenName_19 ?_
      refine kV_v (wc := [(h_m 0, .inr (6, [.int m_thrown, .ref (h_m 2), .int m_size, .int m_fault, .int m_place, .int n1, .int m_count, .int m_inputs, .int m_flips, .int m_outs, .ref (h_m 11), .ref (h_m 12), .ref (h_m 13), .ref (h_m 14), .ref (h_m 15), .ref (h_m 16), .int m_nets, .int m_nIn, .int m_nFlip, .int m_nOut, .ref (h_m 21), .ref (h_m 22), .ref (h_m 23), .ref (h_m 24), .ref (h_m 25), .int m_known, .ref (h_m 27), .ref (h_m 28), .ref (h_m 29), .ref (h_m 30), .ref (h_m 31), .int m_chosen, .int m_testable, .int m_rows, .ref (h_m 35), .int m_stuck, .int m_state, .int m_code, .int m_bits, .int m_beside, .int m_shifter]))]) (wr := [(h_m 2, .inl (cyI, 900, .inl m_tape)), (h_m 11, .inl (cyI, 60, .inl m_names))]) (As := [.int (1 : Int32), .int n1]) (rest := []) ⟨hx, hb, hml, hown, hts⟩ hP hD hK hE hS hA [0] [1, 2] rfl rfl (by decide) (by decide) (by decide) (c_X6_fail l D ts cyI cyJ cyZ h_m _ m_thrown m_size m_fault m_place n1 m_count m_inputs m_flips m_outs m_nets m_nIn m_nFlip m_nOut m_known m_chosen m_testable m_rows m_stuck m_state m_code m_bits m_beside m_shifter (1 : Int32) n1 _ hvc) (cwV 2 hts gX6_givenName_X6_fail rfl rfl rfl hd_X6_fail ⟨Nat.le_of_ble_eq_true rfl, Nat.le_of_ble_eq_true rfl⟩) (ci := 6) rfl rfl rfl hl.1 rfl (Nat.zero_le _) (Nat.zero_le _) rfl (Nat.le_of_ble_eq_true rfl) dX6_givenName_22 (fun u H locs hvc hP hD hS => ?_)
      obtain ⟨n8, n9⟩ := u
      try dsimp only at hvc
      have hP : va_P D vwCl [(h_m 0, .inr (6, [.int m_thrown, .ref (h_m 2), .int m_size, .int n8, .int n9, .int n1, .int m_count, .int m_inputs, .int m_flips, .int m_outs, .ref (h_m 11), .ref (h_m 12), .ref (h_m 13), .ref (h_m 14), .ref (h_m 15), .ref (h_m 16), .int m_nets, .int m_nIn, .int m_nFlip, .int m_nOut, .ref (h_m 21), .ref (h_m 22), .ref (h_m 23), .ref (h_m 24), .ref (h_m 25), .int m_known, .ref (h_m 27), .ref (h_m 28), .ref (h_m 29), .ref (h_m 30), .ref (h_m 31), .int m_chosen, .int m_testable, .int m_rows, .ref (h_m 35), .int m_stuck, .int m_state, .int m_code, .int m_bits, .int m_beside, .int m_shifter])), (h_m 2, .inl (cyI, 900, .inl m_tape)), (h_m 11, .inl (cyI, 60, .inl m_names))] H := sub_P hP (isC := [2, 0, 1]) rfl
      have hD : va_D A [(h_m 0, .inr (6, [.int m_thrown, .ref (h_m 2), .int m_size, .int n8, .int n9, .int n1, .int m_count, .int m_inputs, .int m_flips, .int m_outs, .ref (h_m 11), .ref (h_m 12), .ref (h_m 13), .ref (h_m 14), .ref (h_m 15), .ref (h_m 16), .int m_nets, .int m_nIn, .int m_nFlip, .int m_nOut, .ref (h_m 21), .ref (h_m 22), .ref (h_m 23), .ref (h_m 24), .ref (h_m 25), .int m_known, .ref (h_m 27), .ref (h_m 28), .ref (h_m 29), .ref (h_m 30), .ref (h_m 31), .int m_chosen, .int m_testable, .int m_rows, .ref (h_m 35), .int m_stuck, .int m_state, .int m_code, .int m_bits, .int m_beside, .int m_shifter])), (h_m 2, .inl (cyI, 900, .inl m_tape)), (h_m 11, .inl (cyI, 60, .inl m_names))] := hD.sub [2, 0, 1] (by decide) rfl
      refine lv_iconst (v := 0) hx hb dX6_givenName_25 (by decide) ?_
      exact hret (0 : Int32) (n8, n9, n1) _ _ _ _ hvc hP hD hS dX6_givenName_26
  · have hvc := hvf hc
    refine lv_iconst (v := 0) hx hb dX6_givenName_7 (by decide) ?_
    exact hret (0 : Int32) (m_fault, m_place, m_at) _ _ _ _ hvc hP hD hS dX6_givenName_8
