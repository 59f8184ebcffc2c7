/-! THE LAW'S WRAPPERS: static methods with handlers -/
def En3 (ts : Nat → Nat) (A : Nat → Prop) (U : State) (H : Heap) : Prop := En2 ts A U H ∧ va_Nc "java/lang/IllegalArgumentException" "java/lang/IndexOutOfBoundsException" U ∧ va_Nc "java/lang/IndexOutOfBoundsException" "java/lang/IllegalArgumentException" U
theorem En3.step {ts : Nat → Nat} {A B : Nat → Prop} {s U : State} {H : Heap} {locs : List Loc} (h : En3 ts A s s.heap) (hS : va_S A s.heap H locs) (hF : ∀ q, B q → A q) (hW : s.WarmedH U.vm) : En3 ts B U H := ⟨h.1.step hS hF hW, h.2.1.moved hW.alike, h.2.2.moved hW.alike⟩
theorem En3.same {ts : Nat → Nat} {A : Nat → Prop} {u U : State} {H : Heap} (h : En3 ts A u H) (hv : u.vm = U.vm) : En3 ts A U H :=
  have hr : u.vm.Alike U.vm := by rw [hv]; exact Vm.Alike.refl _
  ⟨h.1.same hv, h.2.1.moved hr, h.2.2.moved hr⟩
abbrev cPre3 (D : va_G) (ts : Nat → Nat) (tys : List (ClassId × FieldType)) (ws : va_W) (sz : Nat) : State → Prop := fun U => U.heap.size = sz ∧ va_P D vwCl ws U.heap ∧ va_K D vwCl tys U ∧ va_D (fun _ => True) ws ∧ En3 ts (va_A ws sz) U U.heap
theorem cPre3_blind {D : va_G} {ts : Nat → Nat} {tys : List (ClassId × FieldType)} {ws : va_W} {sz : Nat} {av : List Value} : FrameBlind (va_Pc av (cPre3 D ts tys ws sz)) := fun a U g mk q => by
  obtain ⟨q0, q1, qP, qK, qD, qE⟩ := q
  exact ⟨q0, q1, qP, va_K.moved (u := U) (U := U.calling g mk a) (Vm.Alike.refl U.vm) qK, qD, qE.same (U := U.calling g mk a) rfl⟩
theorem cPre3_at {D : va_G} {ts : Nat → Nat} {tys : List (ClassId × FieldType)} {wc : va_W} {A A0 : Nat → Prop} {s : State} {H : Heap} {locs : List Loc} (av : List Value) (hP : va_P D vwCl wc H) (hK : va_K D vwCl tys s) (hD : va_D A0 wc) (hE : En3 ts A s s.heap) (hS : va_S A s.heap H locs) (hF : ∀ q, va_A wc H.size q → A q) :
    ∀ U : State, U.heap = H → s.WarmedH U.vm → va_Pc av (cPre3 D ts tys wc H.size) av.toArray U := fun U hU hW => ⟨rfl, by rw [hU], by rw [hU]; exact hP, va_K.moved hW.alike hK, hD.weaken (fun _ _ _ _ => trivial), by rw [hU]; exact hE.step hS hF hW⟩
theorem kEnterW_i {l : Launch} {y : MethodName} {ws ws' : List Cond} {rm : Room} {D : va_G} {ts : Nat → Nat} {tys : List (ClassId × FieldType)} {w0 : va_W} {sz : Nat} {av : List Value} {cc : ByteArray} {maxL : Nat} {hh : List (Nat × Nat × Nat × Nat)} {S : Type} {post : Int32 → S → Prop} {wf : S → va_W} (hy : plainName y.cls = true) (hw : ws = Cond.codeWith y cc maxL (some .int) hh :: ws') (hle : (lg_sl av).length ≤ maxL)
    (body : ∀ (p : Program) (e : Env) (s : State) (m : MethodId) (args : Array Value) (below : List Frame) (meth : Method) (c : Code) (A : Nat → Prop) (ls : Array Slot) (QQ : State → Prop), p.tables.exec = Jvm.exec → c.code = cc → c.maxLocals = maxL → s.vm.findClass y.cls = some m.cls → (∀ w ∈ ws, w.before args s = true) → c.exceptionTable.toList = tableOf hh → (∀ q, s.heap.size ≤ q → A q) → va_P D vwCl w0 s.heap → va_D A w0 → va_K D vwCl tys s → En3 ts A s s.heap → va_S A s.heap s.heap [] → lv_has ls maxL (lv_args 0 av) →
      (∀ (v : Int32) (u : S) (H : Heap) (locs : List Loc) (ls : Array Slot) (pc : Nat), post v u → va_P D vwCl (wf u) H → va_D A (wf u) → va_S A s.heap H locs → decode cc pc = .ok (.ireturn, 1) → W p l e rm s m args below meth c H locs 1 6 QQ (F0 m pc ls [.int v])) →
      W p l e rm s m args below meth c s.heap [] 0 0 QQ (F0 m 0 ls [])) :
    Met l y ws rm (va_Pc av (cPre3 D ts tys w0 sz)) (va_Qi post (cPost D tys wf (va_A w0 sz)) (va_A w0 sz)) 1 6 (va_A w0 sz) := by
  refine va_MetW (cc := cc) (maxL := maxL) (ret := some .int) hy hw ?_
  intro p e s m args below meth c s₁ B hml hv
  obtain ⟨hargs, hsz, hP, hK, hD0, hE⟩ := hv
  have hx := B.exec
  have hb := B.bytes
  have hr := B.returns
  have hts := atoms_spec (ws := ws) B.pre
  have htb : c.exceptionTable.toList = tableOf hh := vx_table (x := y) B (hts _ (by rw [hw]; exact List.mem_cons_self))
  have hown : s.vm.findClass y.cls = some m.cls := findClass_of_methodNamed B.named
  have hlocks := B.notSynchronized
  subst hsz
  have hD := hD0.self (sz := s.heap.size)
  generalize hAe : va_A w0 s.heap.size = A at hD hE ⊢
  have hA : ∀ q : Nat, s.heap.size ≤ q → A q := fun q h => by rw [← hAe]; exact Or.inr h
  have hl := lv_entry av (n := maxL) hle
  have hent : entryFrame m args maxL = entryFrame m av.toArray maxL := by rw [hargs]
  rw [hent, lg_entry_eq]
  exact body p e s m args below meth c A _ _ hx hb hml hown hts htb hA hP hD hK hE va_S.rf hl (fun v u H locs ls pc hq hP hD hS hdg => W.iret hx hb hr (fun t ht hW => ⟨⟨v , u, rfl, hq, by rw [ht]; exact hP, va_K.moved hW.alike hK, hD⟩, hS.F ht⟩) hS.2.2 hdg)
section KX
variable {p : Program} {l : Launch} {e : Env} {R : Room} {s : State} {m : MethodId} {args : Array Value} {below : List Frame} {meth : Method} {c : Code} {H : Heap} {locs : List Loc} {cells slots : Nat} {Q : State → Prop}
variable {D : va_G} {ts : Nat → Nat} {tys : List (ClassId × FieldType)} {A : Nat → Prop} {ws wc wr : va_W} {pc : Nat} {ls : Array Slot} {cc : ByteArray} {nL : Nat} {own C : String} {Ts wsc : List Cond} {index maxL n b : Nat} {y : MethodName} {bytes : ByteArray} {ret : Option FieldType} {rm : Room} {As rest st0 : List Value}
theorem kX_i {S : Type} {post : Int32 → S → Prop} {px : String → S → Prop} {wf : S → va_W} (F : CallFix p m c cc nL s args Ts own) (hP : va_P D vwCl ws H) (hD : va_D A ws) (hK : va_K D vwCl tys s) (hE : En2 ts A s s.heap) (hS : va_S A s.heap H locs) (hA : ∀ q, s.heap.size ≤ q → A q) (isC isR : List Nat) (hC : isC.map (fun i => ws[i]?) = wc.map some) (hR : isR.map (fun i => ws[i]?) = wr.map some) (hnC : va_nd isC = true) (hn : va_nd isR = true) (hdis : ∀ i ∈ isR, i ∉ isC)
    (hM : vx_Met l y wsc rm (va_Pc (.ref b :: As) (cPre2 D ts tys wc H.size)) (va_Qi post (cPost D tys wf (va_A wc H.size)) (va_A wc H.size)) (vx_X (fun (q : String × S) => px q.1 q.2) (xPost D tys wf (va_A wc H.size)) (va_A wc H.size)) 1 6 (va_A wc H.size)) (cw : CallW R s args own C index y bytes maxL ret wsc rm 1 6 n) {ci : Nat} {fs : List Value} {qc : vw_C} (hci : vwCl[ci]? = some qc) (hqc : qc.1 = C) (he : wc[0]? = some (b, .inr (ci, fs))) (hsz : ls.size = nL) (hnn : As.length = n) (hcells : cells + 1 ≤ R.cells) (hslots : slots + 6 ≤ R.slots) (hst : st0 = As.reverse ++ .ref b :: rest) (hroom : (rest.map fun v => v.category).sum ≤ 8) (hdg : decode cc pc = .ok (.invokevirtual index, 3))
    (kx : ∀ (E : String) (u : S) (H1 : Heap) (locs1 : List Loc) (q9 : Addr) (ce : Cell), px E u → va_P D vwCl (wr ++ wf u) H1 → va_D A (wr ++ wf u) → va_S A s.heap H1 locs1 → H1[q9]? = some ce → ce.vm = .none → s.vm.findClass E = some ce.cls → vx_W p l e R s m args below meth c H1 locs1 (cells + 1) (slots + 6) Q (F0 m pc ls rest) q9)
    (kk : ∀ (r : Int32) (u : S) (H1 : Heap) (locs1 : List Loc), post r u → va_P D vwCl (wr ++ wf u) H1 → va_D A (wr ++ wf u) → va_S A s.heap H1 locs1 → W p l e R s m args below meth c H1 locs1 (cells + 1) (slots + 6) Q (F0 m (pc + 3) ls (.int r :: rest))) : W p l e R s m args below meth c H locs cells slots Q (F0 m pc ls st0) := by
  have hPc := sub_P hP hC
  have hDc := hD.sub isC hnC hC
  have hFc := va_free hD hS hA isC hC
  refine vx_calli (vx_runV (As := As) (rest := rest) F hM cw ⟨cPre2_blind, hqc ▸ va_recv hK hPc hci he, cPre2_at (.ref b :: As) hPc hK hDc hE hS hFc⟩ rfl hnn hsz hst (lv_room hroom) hdg ⟨hcells, hslots⟩) hS (fun q _ h => hFc q h) hFc (fun q _ h => hFc q h) (fun E ce q9 u t H1 locs1 ht hvm hw hB hz1 hk1 hS1 hce hcv hcl => ?_) (fun r u t H1 locs1 ht hvm hw hB hz1 hk1 hS1 => ?_)
  · obtain ⟨hE', hP1, hK1, hD1⟩ := hB
    rw [ht] at hP1
    obtain ⟨hP2, hD2⟩ := va_join hP hD isC isR hC hR hn hdis hk1 hFc hP1 hD1
    exact kx E u.2 H1 locs1 q9 ce (by rw [hE']; exact hw) hP2 hD2 hS1 hce hcv hcl
  · obtain ⟨hP1, hK1, hD1⟩ := hB
    rw [ht] at hP1
    obtain ⟨hP2, hD2⟩ := va_join hP hD isC isR hC hR hn hdis hk1 hFc hP1 hD1
    exact kk r u H1 locs1 hw hP2 hD2 hS1
theorem kX_v {S : Type} {post : S → Prop} {px : String → S → Prop} {wf : S → va_W} (F : CallFix p m c cc nL s args Ts own) (hP : va_P D vwCl ws H) (hD : va_D A ws) (hK : va_K D vwCl tys s) (hE : En2 ts A s s.heap) (hS : va_S A s.heap H locs) (hA : ∀ q, s.heap.size ≤ q → A q) (isC isR : List Nat) (hC : isC.map (fun i => ws[i]?) = wc.map some) (hR : isR.map (fun i => ws[i]?) = wr.map some) (hnC : va_nd isC = true) (hn : va_nd isR = true) (hdis : ∀ i ∈ isR, i ∉ isC)
    (hM : vx_Met l y wsc rm (va_Pc (.ref b :: As) (cPre2 D ts tys wc H.size)) (va_Qv post (cPost D tys wf (va_A wc H.size)) (va_A wc H.size)) (vx_X (fun (q : String × S) => px q.1 q.2) (xPost D tys wf (va_A wc H.size)) (va_A wc H.size)) 1 6 (va_A wc H.size)) (cw : CallW R s args own C index y bytes maxL ret wsc rm 1 6 n) {ci : Nat} {fs : List Value} {qc : vw_C} (hci : vwCl[ci]? = some qc) (hqc : qc.1 = C) (he : wc[0]? = some (b, .inr (ci, fs))) (hsz : ls.size = nL) (hnn : As.length = n) (hcells : cells + 1 ≤ R.cells) (hslots : slots + 6 ≤ R.slots) (hst : st0 = As.reverse ++ .ref b :: rest) (hroom : (rest.map fun v => v.category).sum ≤ 8) (hdg : decode cc pc = .ok (.invokevirtual index, 3))
    (kx : ∀ (E : String) (u : S) (H1 : Heap) (locs1 : List Loc) (q9 : Addr) (ce : Cell), px E u → va_P D vwCl (wr ++ wf u) H1 → va_D A (wr ++ wf u) → va_S A s.heap H1 locs1 → H1[q9]? = some ce → ce.vm = .none → s.vm.findClass E = some ce.cls → vx_W p l e R s m args below meth c H1 locs1 (cells + 1) (slots + 6) Q (F0 m pc ls rest) q9)
    (kk : ∀ (u : S) (H1 : Heap) (locs1 : List Loc), post u → va_P D vwCl (wr ++ wf u) H1 → va_D A (wr ++ wf u) → va_S A s.heap H1 locs1 → W p l e R s m args below meth c H1 locs1 (cells + 1) (slots + 6) Q (F0 m (pc + 3) ls rest)) : W p l e R s m args below meth c H locs cells slots Q (F0 m pc ls st0) := by
  have hPc := sub_P hP hC
  have hDc := hD.sub isC hnC hC
  have hFc := va_free hD hS hA isC hC
  refine vx_callv (vx_runV (As := As) (rest := rest) F hM cw ⟨cPre2_blind, hqc ▸ va_recv hK hPc hci he, cPre2_at (.ref b :: As) hPc hK hDc hE hS hFc⟩ rfl hnn hsz hst (lv_room hroom) hdg ⟨hcells, hslots⟩) hS (fun q _ h => hFc q h) hFc (fun q _ h => hFc q h) (fun E ce q9 u t H1 locs1 ht hvm hw hB hz1 hk1 hS1 hce hcv hcl => ?_) (fun u t H1 locs1 ht hvm hw hB hz1 hk1 hS1 => ?_)
  · obtain ⟨hE', hP1, hK1, hD1⟩ := hB
    rw [ht] at hP1
    obtain ⟨hP2, hD2⟩ := va_join hP hD isC isR hC hR hn hdis hk1 hFc hP1 hD1
    exact kx E u.2 H1 locs1 q9 ce (by rw [hE']; exact hw) hP2 hD2 hS1 hce hcv hcl
  · obtain ⟨hP1, hK1, hD1⟩ := hB
    rw [ht] at hP1
    obtain ⟨hP2, hD2⟩ := va_join hP hD isC isR hC hR hn hdis hk1 hFc hP1 hD1
    exact kk u H1 locs1 hw hP2 hD2 hS1
end KX
