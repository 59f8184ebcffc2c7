/-! TEXTS: the JDK's members that the reader reaches over its four literals -/
section KTEXT
variable {p : Program} {l : Launch} {e : Env} {R : Room} {s : State} {m : MethodId} {args : Array Value} {below : List Frame} {meth : Method} {c : Code} {H : Heap} {locs : List Loc} {cells slots : Nat} {Q : State → Prop}
variable {D : va_G} {ts : Nat → Nat} {tys : List (ClassId × FieldType)} {A : Nat → Prop} {ws wc wr : va_W} {pc : Nat} {ls : Array Slot} {cc : ByteArray} {nL : Nat} {own C : String} {Ts wsc : List Cond} {index maxL n b : Nat} {y : MethodName} {bytes : ByteArray} {ret : Option FieldType} {rm : Room} {As rest st0 : List Value}
/-- a virtual call whose receiver is no cell of the world -/
theorem kT_i {S : Type} {post : Int32 → S → Prop} {wf : S → va_W} (F : CallFix p m c cc nL s args Ts own) (hP : va_P D vwCl ws H) (hD : va_D A ws) (hK : va_K D vwCl tys s) (hE : En ts A s s.heap) (hS : va_S A s.heap H locs) (hA : ∀ q, s.heap.size ≤ q → A q) (isC isR : List Nat) (hC : isC.map (fun i => ws[i]?) = wc.map some) (hR : isR.map (fun i => ws[i]?) = wr.map some) (hnC : va_nd isC = true) (hn : va_nd isR = true) (hdis : ∀ i ∈ isR, i ∉ isC)
    (hM : Met l y wsc rm (va_Pc (.ref b :: As) (cPre D ts tys wc H.size)) (va_Qi post (cPost D tys wf (va_A wc H.size)) (va_A wc H.size)) 0 0 (va_A wc H.size)) (cw : CallW R s args own C index y bytes maxL ret wsc rm 0 0 n) (hrec : ∃ cell : Cell, H[b]? = some cell ∧ cell.vm.isStatics = false ∧ s.vm.findClass C = some cell.cls) (hsz : ls.size = nL) (hnn : As.length = n) (hcells : cells ≤ R.cells) (hslots : slots ≤ R.slots) (hst : st0 = As.reverse ++ .ref b :: rest) (hroom : (rest.map fun v => v.category).sum ≤ 8) (hdg : decode cc pc = .ok (.invokevirtual index, 3))
    (kk : ∀ (r : Int32) (u : S) (H1 : Heap) (locs1 : List Loc), post r u → va_P D vwCl (wr ++ wf u) H1 → va_D A (wr ++ wf u) → va_S A s.heap H1 locs1 → W p l e R s m args below meth c H1 locs1 cells slots Q (F0 m (pc + 3) ls (.int r :: rest))) : W p l e R s m args below meth c H locs cells slots Q (F0 m pc ls st0) := by
  have hPc := sub_P hP hC
  have hDc := hD.sub isC hnC hC
  have hFc := va_free hD hS hA isC hC
  refine va_calli (va_runV (As := As) (rest := rest) F hM cw ⟨cPre_blind, hrec, cPre_at (.ref b :: As) hPc hK hDc hE hS hFc⟩ rfl hnn hsz hst (lv_room hroom) hdg ⟨hcells, hslots⟩) hS (fun q _ h => hFc q h) hFc (fun r u t H1 locs1 ht hvm hw hB hz1 hk1 hS1 => ?_)
  obtain ⟨hP1, hK1, hD1⟩ := hB
  rw [ht] at hP1
  obtain ⟨hP2, hD2⟩ := va_join hP hD isC isR hC hR hn hdis hk1 hFc hP1 hD1
  exact kk r u H1 locs1 hw hP2 hD2 hS1
end KTEXT
def lit_ch (i k : Nat) : Int32 := (lit_byt.getD i []).getD k 0 &&& 255
def v_J0_length_8abf5 (i : Nat) (Q : Int32 → Prop) : Prop := i < 4 ∧ Q (nI (lit_len.getD i 0))
def v_J0_charAt_5068e (i : Nat) (k : Int32) (Q : Int32 → Prop) : Prop := i < 4 ∧ vp_in k (lit_len.getD i 0) ∧ Q (lit_ch i k.toNatClampNeg)
theorem hd_J0_coder_7d493 : yJ0_coder_7d493.cls = RJ0 ∧ yJ0_coder_7d493.cls ≠ "java/lang/invoke/MethodHandle" ∧ yJ0_coder_7d493.cls ≠ "java/lang/invoke/VarHandle" ∧ (parseMethodDescriptor yJ0_coder_7d493.desc).map (fun d => d.parameters.length) = some 0 := by decide +kernel
theorem hd_J0_isLatin1_aae02 : yJ0_isLatin1_aae02.cls = RJ0 ∧ yJ0_isLatin1_aae02.cls ≠ "java/lang/invoke/MethodHandle" ∧ yJ0_isLatin1_aae02.cls ≠ "java/lang/invoke/VarHandle" ∧ (parseMethodDescriptor yJ0_isLatin1_aae02.desc).map (fun d => d.parameters.length) = some 0 := by decide +kernel
theorem hd_J0_length_8abf5 : yJ0_length_8abf5.cls = RJ0 ∧ yJ0_length_8abf5.cls ≠ "java/lang/invoke/MethodHandle" ∧ yJ0_length_8abf5.cls ≠ "java/lang/invoke/VarHandle" ∧ (parseMethodDescriptor yJ0_length_8abf5.desc).map (fun d => d.parameters.length) = some 0 := by decide +kernel
theorem hd_J0_charAt_5068e : yJ0_charAt_5068e.cls = RJ0 ∧ yJ0_charAt_5068e.cls ≠ "java/lang/invoke/MethodHandle" ∧ yJ0_charAt_5068e.cls ≠ "java/lang/invoke/VarHandle" ∧ (parseMethodDescriptor yJ0_charAt_5068e.desc).map (fun d => d.parameters.length) = some 1 := by decide +kernel
theorem hd_J3_checkIndex_8e157 : yJ3_checkIndex_8e157.cls ≠ "java/lang/invoke/MethodHandle" ∧ yJ3_checkIndex_8e157.cls ≠ "java/lang/invoke/VarHandle" ∧ (parseMethodDescriptor yJ3_checkIndex_8e157.desc).map (fun d => d.parameters.length) = some 3 := by decide +kernel
theorem hd_J0_checkIndex_df160 : yJ0_checkIndex_df160.cls ≠ "java/lang/invoke/MethodHandle" ∧ yJ0_checkIndex_df160.cls ≠ "java/lang/invoke/VarHandle" ∧ (parseMethodDescriptor yJ0_checkIndex_df160.desc).map (fun d => d.parameters.length) = some 2 := by decide +kernel
theorem hd_J1_charAt_3b067 : yJ1_charAt_3b067.cls ≠ "java/lang/invoke/MethodHandle" ∧ yJ1_charAt_3b067.cls ≠ "java/lang/invoke/VarHandle" ∧ (parseMethodDescriptor yJ1_charAt_3b067.desc).map (fun d => d.parameters.length) = some 2 := by decide +kernel
abbrev rm_t0 : Room := { frames := 0, cells := 0, slots := 0, locals := 0 }
abbrev rm_t1 : Room := { frames := 1, cells := 0, slots := 0, locals := 24 }
abbrev rm_t2 : Room := { frames := 2, cells := 0, slots := 0, locals := 48 }
abbrev rm_t3 : Room := { frames := 3, cells := 0, slots := 0, locals := 72 }
set_option maxHeartbeats 4000000 in
set_option maxRecDepth 100000 in
theorem c_J0_coder_7d493 (l : Launch) (D : va_G) (ts : Nat → Nat) (tys : List (ClassId × FieldType)) (sz i : Nat) (hi : i < 4) : Met l yJ0_coder_7d493 wsJ0_coder_7d493 rm_t0 (va_Pc [.ref (ts (10 + i))] (cPre D ts tys [] sz)) (va_Qi (fun (r : Int32) (_ : Unit) => r = 0) (cPost D tys (fun (_ : Unit) => []) (va_A [] sz)) (va_A [] sz)) 0 0 (va_A [] sz) := by
  refine kEnter_z (cc := cJ0_coder_7d493) (maxL := 1) (ty := .byte) (by decide) rfl (Nat.le_of_ble_eq_true rfl) ?_
  intro p e s m args below meth c A ls QQ hx hb hml hown hts hsz hA hP hD hK hE hS hl hret
  have hown : s.vm.findClass RJ0 = some m.cls := hown
  have f38 := hts (.fieldLink RJ0 38 "java/lang/String" "COMPACT_STRINGS" "Z") (List.mem_of_getElem? (i := 1) rfl)
  have f15 := hts (.fieldLink RJ0 15 "java/lang/String" "coder" "B") (List.mem_of_getElem? (i := 2) rfl)
  have hl : lv_has ls 1 [(0, .ref (ts (10 + i)))] := hl
  refine va_gets hx hb hE.str.2.2.2.2.2.1 hS hown f38 (fun _ h9 => h9) dJ0_coder_7d493_0 ?_
  refine lv_if_eq (tgt := 13) hx hb dJ0_coder_7d493_3 (by decide) (fun hc => absurd hc (by decide)) (fun _ => ?_)
  refine lv_aload_n hx hb dJ0_coder_7d493_6 rfl (lv_at hl 0 rfl) ?_
  refine vk_getf hx hb (hE.str.1.1 i hi).2.1 hS hown f15 (fun _ h9 => h9) dJ0_coder_7d493_7 ?_
  refine lv_goto (tgt := 14) hx hb dJ0_coder_7d493_10 (by decide) ?_
  exact hret 0 () _ _ _ _ rfl rfl hP hD hS dJ0_coder_7d493_14
set_option maxHeartbeats 4000000 in
set_option maxRecDepth 100000 in
theorem c_J0_isLatin1_aae02 (l : Launch) (D : va_G) (ts : Nat → Nat) (tys : List (ClassId × FieldType)) (sz i : Nat) (hi : i < 4) : Met l yJ0_isLatin1_aae02 wsJ0_isLatin1_aae02 rm_t0 (va_Pc [.ref (ts (10 + i))] (cPre D ts tys [] sz)) (va_Qi (fun (r : Int32) (_ : Unit) => r = 1) (cPost D tys (fun (_ : Unit) => []) (va_A [] sz)) (va_A [] sz)) 0 0 (va_A [] sz) := by
  refine kEnter_z (cc := cJ0_isLatin1_aae02) (maxL := 1) (ty := .boolean) (by decide) rfl (Nat.le_of_ble_eq_true rfl) ?_
  intro p e s m args below meth c A ls QQ hx hb hml hown hts hsz hA hP hD hK hE hS hl hret
  have hown : s.vm.findClass RJ0 = some m.cls := hown
  have f38 := hts (.fieldLink RJ0 38 "java/lang/String" "COMPACT_STRINGS" "Z") (List.mem_of_getElem? (i := 1) rfl)
  have f15 := hts (.fieldLink RJ0 15 "java/lang/String" "coder" "B") (List.mem_of_getElem? (i := 2) rfl)
  have hl : lv_has ls 1 [(0, .ref (ts (10 + i)))] := hl
  refine va_gets hx hb hE.str.2.2.2.2.2.1 hS hown f38 (fun _ h9 => h9) dJ0_isLatin1_aae02_0 ?_
  refine lv_if_eq (tgt := 17) hx hb dJ0_isLatin1_aae02_3 (by decide) (fun hc => absurd hc (by decide)) (fun _ => ?_)
  refine lv_aload_n hx hb dJ0_isLatin1_aae02_6 rfl (lv_at hl 0 rfl) ?_
  refine vk_getf hx hb (hE.str.1.1 i hi).2.1 hS hown f15 (fun _ h9 => h9) dJ0_isLatin1_aae02_7 ?_
  refine lv_if_ne (tgt := 17) hx hb dJ0_isLatin1_aae02_10 (by decide) (fun hc => absurd rfl hc) (fun _ => ?_)
  refine lv_iconst (v := 1) hx hb dJ0_isLatin1_aae02_13 (by decide) ?_
  refine lv_goto (tgt := 18) hx hb dJ0_isLatin1_aae02_14 (by decide) ?_
  exact hret 1 () _ _ _ _ rfl rfl hP hD hS dJ0_isLatin1_aae02_18
set_option maxHeartbeats 4000000 in
set_option maxRecDepth 100000 in
theorem c_J0_length_8abf5 (l : Launch) (D : va_G) (ts : Nat → Nat) (cyI cyJ cyZ : ClassId) (sz i : Nat) (Q : Int32 → Prop) (hvc : v_J0_length_8abf5 i Q) : Met l yJ0_length_8abf5 wsJ0_length_8abf5 rm_t1 (va_Pc [.ref (ts (10 + i))] (cPre D ts [(cyI, .int), (cyJ, .long), (cyZ, .boolean)] [] sz)) (va_Qi (fun (r : Int32) (_ : Unit) => Q r) (cPost D [(cyI, .int), (cyJ, .long), (cyZ, .boolean)] (fun (_ : Unit) => []) (va_A [] sz)) (va_A [] sz)) 0 0 (va_A [] sz) := by
  obtain ⟨hi, hvc⟩ := hvc
  refine kEnter_i (cc := cJ0_length_8abf5) (maxL := 1) (by decide) rfl (Nat.le_of_ble_eq_true rfl) ?_
  intro p e s m args below meth c A ls QQ hx hb hml hown hts hsz hA hP hD hK hE hS hl hret
  have hown : s.vm.findClass RJ0 = some m.cls := hown
  have f9 := hts (.fieldLink RJ0 9 "java/lang/String" "value" "[B") (List.mem_of_getElem? (i := 1) rfl)
  have hl : lv_has ls 1 [(0, .ref (ts (10 + i)))] := hl
  refine lv_aload_n hx hb dJ0_length_8abf5_0 rfl (lv_at hl 0 rfl) ?_
  refine vk_getf hx hb (hE.str.1.1 i hi).2.2.1 hS hown f9 (fun _ h9 => h9) dJ0_length_8abf5_1 ?_
  refine va_tlen (v := nI (lit_len.getD i 0)) hx hb (hE.str.1.1 i hi).2.2.2 hS rfl dJ0_length_8abf5_4 ?_
  refine lv_aload_n hx hb dJ0_length_8abf5_5 rfl (lv_at hl 0 rfl) ?_
  refine kT_i (wc := []) (wr := []) (As := []) (rest := [.int (nI (lit_len.getD i 0))]) ⟨hx, hb, hml, hown, hts⟩ hP hD hK hE hS hA [] [] rfl rfl (by decide) (by decide) (by decide) (c_J0_coder_7d493 l D ts _ _ i hi) (cwV 0 hts gJ0_length_8abf5_J0_coder_7d493 rfl rfl rfl hd_J0_coder_7d493 ⟨Nat.le_of_ble_eq_true rfl, Nat.le_of_ble_eq_true rfl⟩) (vk_recv (adK := fun i => ts (10 + i)) (i := i) hE.str.1 hi hS) hl.1 rfl (Nat.zero_le _) (Nat.zero_le _) rfl (Nat.le_of_ble_eq_true rfl) dJ0_length_8abf5_6 (fun r _u H locs hr hP hD hS => ?_)
  refine lv_ishr hx hb dJ0_length_8abf5_9 ?_
  have hr : r = 0 := hr
  rw [hr, sb_shr0]
  exact hret _ () _ _ _ _ hvc hP hD hS dJ0_length_8abf5_10
set_option maxHeartbeats 4000000 in
set_option maxRecDepth 100000 in
theorem c_J3_checkIndex_8e157 (l : Launch) (D : va_G) (ts : Nat → Nat) (tys : List (ClassId × FieldType)) (sz : Nat) (k n : Int32) (o : Option Nat) (h1 : ¬ k < 0) (h2 : k < n) : Met l yJ3_checkIndex_8e157 wsJ3_checkIndex_8e157 rm_t0 (va_Pc [.int k, .int n, va_rf o] (cPre D ts tys [] sz)) (va_Qi (fun (r : Int32) (_ : Unit) => True) (cPost D tys (fun (_ : Unit) => []) (va_A [] sz)) (va_A [] sz)) 0 0 (va_A [] sz) := by
  refine kEnter_i (cc := cJ3_checkIndex_8e157) (maxL := 3) (by decide) rfl (by cases o <;> exact Nat.le_of_ble_eq_true rfl) ?_
  intro p e s m args below meth c A ls QQ hx hb hml hown hts hsz hA hP hD hK hE hS hl hret
  have hl : lv_has ls 3 [(0, .int k), (1, .int n)] := by cases o <;> exact lv_sub hl [0, 1] rfl
  refine lv_iload_n hx hb dJ3_checkIndex_8e157_0 rfl (lv_at hl 0 rfl) ?_
  refine lv_if_lt (tgt := 9) hx hb dJ3_checkIndex_8e157_1 (by decide) (fun hc => absurd hc h1) (fun _ => ?_)
  refine lv_iload_n hx hb dJ3_checkIndex_8e157_4 rfl (lv_at hl 0 rfl) ?_
  refine lv_iload_n hx hb dJ3_checkIndex_8e157_5 rfl (lv_at hl 1 rfl) ?_
  refine lv_icmp_lt (tgt := 16) hx hb dJ3_checkIndex_8e157_6 (by decide) (fun _ => ?_) (fun hc => absurd h2 hc)
  refine lv_iload_n hx hb dJ3_checkIndex_8e157_16 rfl (lv_at hl 0 rfl) ?_
  exact hret _ () _ _ _ _ trivial hP hD hS dJ3_checkIndex_8e157_17
set_option maxHeartbeats 4000000 in
set_option maxRecDepth 100000 in
theorem c_J0_checkIndex_df160 (l : Launch) (D : va_G) (ts : Nat → Nat) (tys : List (ClassId × FieldType)) (sz : Nat) (k n : Int32) (h1 : ¬ k < 0) (h2 : k < n) : Met l yJ0_checkIndex_df160 wsJ0_checkIndex_df160 rm_t1 (va_Pc [.int k, .int n] (cPre D ts tys [] sz)) (va_Qv (fun (_ : Unit) => True) (cPost D tys (fun (_ : Unit) => []) (va_A [] sz)) (va_A [] sz)) 0 0 (va_A [] sz) := by
  refine kEnter_v (cc := cJ0_checkIndex_df160) (maxL := 2) (by decide) rfl (Nat.le_of_ble_eq_true rfl) ?_
  intro p e s m args below meth c A ls QQ hx hb hml hown hts hsz hA hP hD hK hE hS hl hret
  have hown : s.vm.findClass RJ0 = some m.cls := hown
  have f1 := hts (.fieldLink RJ0 1053 "jdk/internal/util/Preconditions" "SIOOBE_FORMATTER" "Ljava/util/function/BiFunction;") (List.mem_of_getElem? (i := 1) rfl)
  have hl : lv_has ls 2 [(0, .int k), (1, .int n)] := hl
  refine lv_iload_n hx hb dJ0_checkIndex_df160_0 rfl (lv_at hl 0 rfl) ?_
  refine lv_iload_n hx hb dJ0_checkIndex_df160_1 rfl (lv_at hl 1 rfl) ?_
  have hz : ∃ o : Option Nat, va_Z "jdk/internal/util/Preconditions" "SIOOBE_FORMATTER" "Ljava/util/function/BiFunction;" (va_rf o) A s s.heap := by
    rcases hE.str.2.2.2.2.2.2 with h | ⟨t, h⟩
    · exact ⟨none, h⟩
    · exact ⟨some t, h⟩
  obtain ⟨o, hz⟩ := hz
  refine va_gets hx hb hz hS hown f1 (fun _ h9 => h9) dJ0_checkIndex_df160_2 ?_
  refine kS_i (wc := []) (wr := []) (As := [.int k, .int n, va_rf o]) (rest := []) ⟨hx, hb, hml, hown, hts⟩ hP hD hK hE hS hA [] [] rfl rfl (by decide) (by decide) (by decide) (c_J3_checkIndex_8e157 l D ts _ _ k n o h1 h2) (va_cwS 3 hts gJ0_checkIndex_df160_J3_checkIndex_8e157 rfl rfl rfl hd_J3_checkIndex_8e157 ⟨Nat.le_of_ble_eq_true rfl, Nat.le_of_ble_eq_true rfl⟩) hl.1 rfl (Nat.zero_le _) (Nat.zero_le _) rfl (Nat.le_of_ble_eq_true rfl) dJ0_checkIndex_df160_5 (fun r _u H locs hr hP hD hS => ?_)
  refine lv_pop hx hb dJ0_checkIndex_df160_8 rfl ?_
  exact hret () _ _ _ _ trivial hP hD hS dJ0_checkIndex_df160_9
set_option maxHeartbeats 4000000 in
set_option maxRecDepth 100000 in
theorem c_J1_charAt_3b067 (l : Launch) (D : va_G) (ts : Nat → Nat) (tys : List (ClassId × FieldType)) (sz i : Nat) (k : Int32) (hi : i < 4) (hk : vp_in k (lit_len.getD i 0)) : Met l yJ1_charAt_3b067 wsJ1_charAt_3b067 rm_t2 (va_Pc [.ref (ts (20 + i)), .int k] (cPre D ts tys [] sz)) (va_Qi (fun (r : Int32) (_ : Unit) => r = lit_ch i k.toNatClampNeg) (cPost D tys (fun (_ : Unit) => []) (va_A [] sz)) (va_A [] sz)) 0 0 (va_A [] sz) := by
  have h31 : ∀ i, i < 4 → lit_len.getD i 0 < 2 ^ 31 := by decide
  have hj := vp_in_of hk (h31 i hi)
  refine kEnter_z (cc := cJ1_charAt_3b067) (maxL := 2) (ty := .char) (by decide) rfl (Nat.le_of_ble_eq_true rfl) ?_
  intro p e s m args below meth c A ls QQ hx hb hml hown hts hsz hA hP hD hK hE hS hl hret
  have hown : s.vm.findClass RJ1 = some m.cls := hown
  have hl : lv_has ls 2 [(0, .ref (ts (20 + i))), (1, .int k)] := hl
  refine lv_iload_n hx hb dJ1_charAt_3b067_0 rfl (lv_at hl 1 rfl) ?_
  refine lv_aload_n hx hb dJ1_charAt_3b067_1 rfl (lv_at hl 0 rfl) ?_
  refine va_tlen (v := nI (lit_len.getD i 0)) hx hb (hE.str.1.1 i hi).2.2.2 hS rfl dJ1_charAt_3b067_2 ?_
  have h1 : ¬ k < 0 := fun h => hk (Or.inl h)
  have h2 : k < nI (lit_len.getD i 0) := by
    obtain ⟨j, hj, rfl⟩ := hj
    exact nI_lt hj (h31 i hi)
  refine kS_v (wc := []) (wr := []) (As := [.int k, .int (nI (lit_len.getD i 0))]) (rest := []) ⟨hx, hb, hml, hown, hts⟩ hP hD hK hE hS hA [] [] rfl rfl (by decide) (by decide) (by decide) (c_J0_checkIndex_df160 l D ts _ _ k _ h1 h2) (va_cwS 2 hts gJ1_charAt_3b067_J0_checkIndex_df160 rfl rfl rfl hd_J0_checkIndex_df160 ⟨Nat.le_of_ble_eq_true rfl, Nat.le_of_ble_eq_true rfl⟩) hl.1 rfl (Nat.zero_le _) (Nat.zero_le _) rfl (Nat.le_of_ble_eq_true rfl) dJ1_charAt_3b067_3 (fun _u H locs hr hP hD hS => ?_)
  refine lv_aload_n hx hb dJ1_charAt_3b067_6 rfl (lv_at hl 0 rfl) ?_
  refine lv_iload_n hx hb dJ1_charAt_3b067_7 rfl (lv_at hl 1 rfl) ?_
  refine va_tb hx hb (hE.str.1.1 i hi).2.2.2 hS hk rfl dJ1_charAt_3b067_8 ?_
  refine lv_sipush (v := 255) hx hb dJ1_charAt_3b067_9 (by decide) ?_
  refine lv_iand hx hb dJ1_charAt_3b067_12 ?_
  refine lv_i2c hx hb dJ1_charAt_3b067_13 rfl ?_
  rw [sc_c2]
  exact hret _ () _ _ _ _ (sc_nar _) rfl hP hD hS dJ1_charAt_3b067_14
set_option maxHeartbeats 4000000 in
set_option maxRecDepth 100000 in
theorem c_J0_charAt_5068e (l : Launch) (D : va_G) (ts : Nat → Nat) (cyI cyJ cyZ : ClassId) (sz i : Nat) (k : Int32) (Q : Int32 → Prop) (hvc : v_J0_charAt_5068e i k Q) : Met l yJ0_charAt_5068e wsJ0_charAt_5068e rm_t3 (va_Pc [.ref (ts (10 + i)), .int k] (cPre D ts [(cyI, .int), (cyJ, .long), (cyZ, .boolean)] [] sz)) (va_Qi (fun (r : Int32) (_ : Unit) => Q r) (cPost D [(cyI, .int), (cyJ, .long), (cyZ, .boolean)] (fun (_ : Unit) => []) (va_A [] sz)) (va_A [] sz)) 0 0 (va_A [] sz) := by
  obtain ⟨hi, hk, hvc⟩ := hvc
  refine kEnter_z (cc := cJ0_charAt_5068e) (maxL := 2) (ty := .char) (by decide) rfl (Nat.le_of_ble_eq_true rfl) ?_
  intro p e s m args below meth c A ls QQ hx hb hml hown hts hsz hA hP hD hK hE hS hl hret
  have hown : s.vm.findClass RJ0 = some m.cls := hown
  have f9 := hts (.fieldLink RJ0 9 "java/lang/String" "value" "[B") (List.mem_of_getElem? (i := 1) rfl)
  have hl : lv_has ls 2 [(0, .ref (ts (10 + i))), (1, .int k)] := hl
  refine lv_aload_n hx hb dJ0_charAt_5068e_0 rfl (lv_at hl 0 rfl) ?_
  refine kT_i (wc := []) (wr := []) (As := []) (rest := []) ⟨hx, hb, hml, hown, hts⟩ hP hD hK hE hS hA [] [] rfl rfl (by decide) (by decide) (by decide) (c_J0_isLatin1_aae02 l D ts _ _ i hi) (cwV 0 hts gJ0_charAt_5068e_J0_isLatin1_aae02 rfl rfl rfl hd_J0_isLatin1_aae02 ⟨Nat.le_of_ble_eq_true rfl, Nat.le_of_ble_eq_true rfl⟩) (vk_recv (adK := fun i => ts (10 + i)) (i := i) hE.str.1 hi hS) hl.1 rfl (Nat.zero_le _) (Nat.zero_le _) rfl (Nat.le_of_ble_eq_true rfl) dJ0_charAt_5068e_1 (fun r _u H locs hr hP hD hS => ?_)
  have hr : r = 1 := hr
  subst hr
  refine lv_if_eq (tgt := 16) hx hb dJ0_charAt_5068e_4 (by decide) (fun hc => absurd hc (by decide)) (fun _ => ?_)
  refine lv_aload_n hx hb dJ0_charAt_5068e_7 rfl (lv_at hl 0 rfl) ?_
  refine vk_getf hx hb (hE.str.1.1 i hi).2.2.1 hS hown f9 (fun _ h9 => h9) dJ0_charAt_5068e_8 ?_
  refine lv_iload_n hx hb dJ0_charAt_5068e_11 rfl (lv_at hl 1 rfl) ?_
  refine kS_i (wc := []) (wr := []) (As := [.ref (ts (20 + i)), .int k]) (rest := []) ⟨hx, hb, hml, hown, hts⟩ hP hD hK hE hS hA [] [] rfl rfl (by decide) (by decide) (by decide) (c_J1_charAt_3b067 l D ts _ _ i k hi hk) (va_cwS 2 hts gJ0_charAt_5068e_J1_charAt_3b067 rfl rfl rfl hd_J1_charAt_3b067 ⟨Nat.le_of_ble_eq_true rfl, Nat.le_of_ble_eq_true rfl⟩) hl.1 rfl (Nat.zero_le _) (Nat.zero_le _) rfl (Nat.le_of_ble_eq_true rfl) dJ0_charAt_5068e_12 (fun r _u H locs hr hP hD hS => ?_)
  have hr : r = lit_ch i k.toNatClampNeg := hr
  rw [hr]
  exact hret _ () _ _ _ _ (sc_nar _) hvc hP hD hS dJ0_charAt_5068e_15
