/-! THROWS: contracts of methods that return or throw (launches without stack traces) -/
abbrev xnms : List String := ["java/lang/RuntimeException", "java/lang/Exception"]
def En2 (ts : Nat → Nat) (A : Nat → Prop) (U : State) (H : Heap) : Prop := En ts A U H ∧ vx_Zq Bundle.tN "UNASSIGNED_STACK" Bundle.steD A U H ∧ vx_Zq Bundle.tN "SUPPRESSED_SENTINEL" Bundle.listD A U H ∧ va_Nw (.castable "java/lang/IllegalArgumentException" "java/lang/IllegalArgumentException") U ∧ va_Nw (.castable "java/lang/IndexOutOfBoundsException" "java/lang/IndexOutOfBoundsException") U ∧ va_Nw (.declares (Bundle.init0 "java/lang/RuntimeException")) U ∧ va_Nw (.declares (Bundle.init0 "java/lang/Exception")) U ∧ va_Nw (.declares (Bundle.init0 Bundle.tN)) U
theorem En2.step {ts : Nat → Nat} {A B : Nat → Prop} {s U : State} {H : Heap} {locs : List Loc} (h : En2 ts A s s.heap) (hS : va_S A s.heap H locs) (hF : ∀ q, B q → A q) (hW : s.WarmedH U.vm) : En2 ts B U H := ⟨h.1.step hS hF hW, vx_Zq.narrow (vx_Zq.kept (vx_Zq.moved hW.alike h.2.1) hS.2.1) hF, vx_Zq.narrow (vx_Zq.kept (vx_Zq.moved hW.alike h.2.2.1) hS.2.1) hF, h.2.2.2.1.warmC hW, h.2.2.2.2.1.warmC hW, h.2.2.2.2.2.1.warmD hW, h.2.2.2.2.2.2.1.warmD hW, h.2.2.2.2.2.2.2.warmD hW⟩
theorem En2.same {ts : Nat → Nat} {A : Nat → Prop} {u U : State} {H : Heap} (h : En2 ts A u H) (hv : u.vm = U.vm) : En2 ts A U H :=
  have hr : u.vm.Alike U.vm := by rw [hv]; exact Vm.Alike.refl _
  ⟨h.1.same hv, vx_Zq.moved hr h.2.1, vx_Zq.moved hr h.2.2.1, h.2.2.2.1.same rfl hv, h.2.2.2.2.1.same rfl hv, h.2.2.2.2.2.1.same rfl hv, h.2.2.2.2.2.2.1.same rfl hv, h.2.2.2.2.2.2.2.same rfl hv⟩
abbrev cPre2 (D : va_G) (ts : Nat → Nat) (tys : List (ClassId × FieldType)) (ws : va_W) (sz : Nat) : State → Prop := fun U => U.heap.size = sz ∧ va_P D vwCl ws U.heap ∧ va_K D vwCl tys U ∧ va_D (fun _ => True) ws ∧ En2 ts (va_A ws sz) U U.heap
theorem cPre2_blind {D : va_G} {ts : Nat → Nat} {tys : List (ClassId × FieldType)} {ws : va_W} {sz : Nat} {av : List Value} : FrameBlind (va_Pc av (cPre2 D ts tys ws sz)) := fun a U g mk q => by
  obtain ⟨q0, q1, qP, qK, qD, qE⟩ := q
  exact ⟨q0, q1, qP, va_K.moved (u := U) (U := U.calling g mk a) (Vm.Alike.refl U.vm) qK, qD, qE.same (U := U.calling g mk a) rfl⟩
theorem cPre2_at {D : va_G} {ts : Nat → Nat} {tys : List (ClassId × FieldType)} {wc : va_W} {A A0 : Nat → Prop} {s : State} {H : Heap} {locs : List Loc} (av : List Value) (hP : va_P D vwCl wc H) (hK : va_K D vwCl tys s) (hD : va_D A0 wc) (hE : En2 ts A s s.heap) (hS : va_S A s.heap H locs) (hF : ∀ q, va_A wc H.size q → A q) :
    ∀ U : State, U.heap = H → s.WarmedH U.vm → va_Pc av (cPre2 D ts tys wc H.size) av.toArray U := fun U hU hW => ⟨rfl, by rw [hU], by rw [hU]; exact hP, va_K.moved hW.alike hK, hD.weaken (fun _ _ _ _ => trivial), by rw [hU]; exact hE.step hS hF hW⟩
abbrev xPost {S : Type} (D : va_G) (tys : List (ClassId × FieldType)) (wf : S → va_W) (A : Nat → Prop) : String → String × S → State → Prop := fun E q t => E = q.1 ∧ cPost D tys wf A q.2 t
theorem kEnterX_i {l : Launch} (htr : l.stackTraces = false) {y : MethodName} {ws ws' : List Cond} {rm : Room} {D : va_G} {ts : Nat → Nat} {tys : List (ClassId × FieldType)} {w0 : va_W} {sz : Nat} {av : List Value} {cc : ByteArray} {maxL : Nat} {S : Type} {post : Int32 → S → Prop} {px : String → S → Prop} {wf : S → va_W} (hy : plainName y.cls = true) (hw : ws = Cond.code y cc maxL (some .int) :: ws') (hle : (lg_sl av).length ≤ maxL) (hrF : 5 < rm.frames) (hrL : 89 ≤ rm.locals) (hrC : rm.cells = 1) (hrS : rm.slots = 6)
    (body : ∀ (p : Program) (e : Env) (s : State) (m : MethodId) (args : Array Value) (below : List Frame) (meth : Method) (c : Code) (A : Nat → Prop) (ls : Array Slot) (QQ : State → Prop), p.tables.exec = Jvm.exec → c.code = cc → c.maxLocals = maxL → s.vm.findClass y.cls = some m.cls → (∀ w ∈ ws, w.before args s = true) → s.heap.size = sz → (∀ q, s.heap.size ≤ q → A q) → va_P D vwCl w0 s.heap → va_D A w0 → va_K D vwCl tys s → En2 ts A s s.heap → va_S A s.heap s.heap [] → lv_has ls maxL (lv_args 0 av) →
      (∀ (v : Int32) (u : S) (H : Heap) (locs : List Loc) (ls : Array Slot) (pc : Nat), post v u → va_P D vwCl (wf u) H → va_D A (wf u) → va_S A s.heap H locs → decode cc pc = .ok (.ireturn, 1) → W p l e rm s m args below meth c H locs 0 0 QQ (F0 m pc ls [.int v])) →
      (∀ (cls : String) (ik ic pc : Nat) (u : S) (H : Heap) (locs : List Loc) (ls : Array Slot), px cls u → Bundle.fit cls = true → (Cond.classLink y.cls ik cls).before args s = true → (Cond.initialized cls).before args s = true → (∀ w ∈ vx_at0 y.cls ic cls xnms, w.before args s = true) → (∀ w ∈ Cond.classLink y.cls ik cls :: Cond.initialized cls :: vx_at0 y.cls ic cls xnms, vx_ot w = true) → va_P D vwCl (wf u) H → va_D A (wf u) → va_S A s.heap H locs → ls.size = maxL → decode cc pc = .ok (.new ik, 3) → decode cc (pc + 3) = .ok (.dup, 1) → decode cc (pc + 4) = .ok (.invokespecial ic, 3) → decode cc (pc + 7) = .ok (.athrow, 1) → W p l e rm s m args below meth c H locs 0 0 QQ (F0 m pc ls [])) →
      W p l e rm s m args below meth c s.heap [] 0 0 QQ (F0 m 0 ls [])) :
    vx_Met l y ws rm (va_Pc av (cPre2 D ts tys w0 sz)) (va_Qi post (cPost D tys wf (va_A w0 sz)) (va_A w0 sz)) (vx_X (fun (q : String × S) => px q.1 q.2) (xPost D tys wf (va_A w0 sz)) (va_A w0 sz)) 1 6 (va_A w0 sz) := by
  refine vx_ofW (cc := cc) (maxL := maxL) (ret := some .int) hy hw ?_
  intro p e s m args below meth c s₁ B hml htb hv
  obtain ⟨hargs, hsz, hP, hK, hD0, hE⟩ := hv
  have hx := B.exec
  have hb := B.bytes
  have hr := B.returns
  have hts := atoms_spec (ws := ws) B.pre
  have hown : s.vm.findClass y.cls = some m.cls := findClass_of_methodNamed B.named
  have hlocks := B.notSynchronized
  subst hsz
  have hD := hD0.self (sz := s.heap.size)
  generalize hAe : va_A w0 s.heap.size = A at hD hE ⊢
  have hA : ∀ q : Nat, s.heap.size ≤ q → A q := fun q h => by rw [← hAe]; exact Or.inr h
  have hl := lv_entry av (n := maxL) hle
  have hent : entryFrame m args maxL = entryFrame m av.toArray maxL := by rw [hargs]
  rw [hent, lg_entry_eq]
  refine body p e s m args below meth c A _ _ hx hb hml hown hts rfl hA hP hD hK hE va_S.rf hl (fun v u H locs ls pc hq hP hD hS hdg => ?_) (fun cls ik ic pc u H locs ls hq hfit hk hini hat hgood hP hD hS hsz d0 d3 d4 d7 => ?_)
  · refine W.widen (k := 1) (n := 6) (Nat.zero_le _) (Nat.zero_le _) ?_
    exact vx_ret (W.iret hx hb hr (fun t ht hW => ⟨⟨v , u, rfl, hq, by rw [ht]; exact hP, va_K.moved hW.alike hK, hD⟩, hS.F ht⟩) hS.2.2 hdg)
  · refine vx_throw0 (names := xnms) hx hb htr hown hfit (by decide +kernel) hk hini hat hgood hE.2.1 hE.2.2.1 hS (hsz.trans hml.symm) d0 d3 d4 d7 (fun x hx9 => (htb x hx9).elim) hrF (by show 0 + (13 * 3 + 42) ≤ rm.locals; omega) (by show 0 + 1 ≤ rm.cells; omega) (by show 0 + 6 ≤ rm.slots; omega) hlocks ?_ hS.2.2 (Nat.le_refl _) (Nat.le_refl _)
    intro t hvm hz hq9
    exact ⟨(cls, u), hq, ⟨rfl, hP.kept (fun k q hk9 => hq9 _ (hP k q hk9).lt), va_K.moved hvm hK, hD⟩, ⟨Nat.le_trans hS.1 hz, fun q h1 h2 => (hq9 q (Nat.lt_of_lt_of_le h1 hS.1)).trans (hS.2.1 q h1 h2)⟩⟩
theorem kEnterX_v {l : Launch} (htr : l.stackTraces = false) {y : MethodName} {ws ws' : List Cond} {rm : Room} {D : va_G} {ts : Nat → Nat} {tys : List (ClassId × FieldType)} {w0 : va_W} {sz : Nat} {av : List Value} {cc : ByteArray} {maxL : Nat} {S : Type} {post : S → Prop} {px : String → S → Prop} {wf : S → va_W} (hy : plainName y.cls = true) (hw : ws = Cond.code y cc maxL (none) :: ws') (hle : (lg_sl av).length ≤ maxL) (hrF : 5 < rm.frames) (hrL : 89 ≤ rm.locals) (hrC : rm.cells = 1) (hrS : rm.slots = 6)
    (body : ∀ (p : Program) (e : Env) (s : State) (m : MethodId) (args : Array Value) (below : List Frame) (meth : Method) (c : Code) (A : Nat → Prop) (ls : Array Slot) (QQ : State → Prop), p.tables.exec = Jvm.exec → c.code = cc → c.maxLocals = maxL → s.vm.findClass y.cls = some m.cls → (∀ w ∈ ws, w.before args s = true) → s.heap.size = sz → (∀ q, s.heap.size ≤ q → A q) → va_P D vwCl w0 s.heap → va_D A w0 → va_K D vwCl tys s → En2 ts A s s.heap → va_S A s.heap s.heap [] → lv_has ls maxL (lv_args 0 av) →
      (∀ (u : S) (H : Heap) (locs : List Loc) (ls : Array Slot) (pc : Nat), post u → va_P D vwCl (wf u) H → va_D A (wf u) → va_S A s.heap H locs → decode cc pc = .ok (.return_, 1) → W p l e rm s m args below meth c H locs 0 0 QQ (F0 m pc ls [])) →
      (∀ (cls : String) (ik ic pc : Nat) (u : S) (H : Heap) (locs : List Loc) (ls : Array Slot), px cls u → Bundle.fit cls = true → (Cond.classLink y.cls ik cls).before args s = true → (Cond.initialized cls).before args s = true → (∀ w ∈ vx_at0 y.cls ic cls xnms, w.before args s = true) → (∀ w ∈ Cond.classLink y.cls ik cls :: Cond.initialized cls :: vx_at0 y.cls ic cls xnms, vx_ot w = true) → va_P D vwCl (wf u) H → va_D A (wf u) → va_S A s.heap H locs → ls.size = maxL → decode cc pc = .ok (.new ik, 3) → decode cc (pc + 3) = .ok (.dup, 1) → decode cc (pc + 4) = .ok (.invokespecial ic, 3) → decode cc (pc + 7) = .ok (.athrow, 1) → W p l e rm s m args below meth c H locs 0 0 QQ (F0 m pc ls [])) →
      W p l e rm s m args below meth c s.heap [] 0 0 QQ (F0 m 0 ls [])) :
    vx_Met l y ws rm (va_Pc av (cPre2 D ts tys w0 sz)) (va_Qv post (cPost D tys wf (va_A w0 sz)) (va_A w0 sz)) (vx_X (fun (q : String × S) => px q.1 q.2) (xPost D tys wf (va_A w0 sz)) (va_A w0 sz)) 1 6 (va_A w0 sz) := by
  refine vx_ofW (cc := cc) (maxL := maxL) (ret := none) hy hw ?_
  intro p e s m args below meth c s₁ B hml htb hv
  obtain ⟨hargs, hsz, hP, hK, hD0, hE⟩ := hv
  have hx := B.exec
  have hb := B.bytes
  have hr := B.returns
  have hts := atoms_spec (ws := ws) B.pre
  have hown : s.vm.findClass y.cls = some m.cls := findClass_of_methodNamed B.named
  have hlocks := B.notSynchronized
  subst hsz
  have hD := hD0.self (sz := s.heap.size)
  generalize hAe : va_A w0 s.heap.size = A at hD hE ⊢
  have hA : ∀ q : Nat, s.heap.size ≤ q → A q := fun q h => by rw [← hAe]; exact Or.inr h
  have hl := lv_entry av (n := maxL) hle
  have hent : entryFrame m args maxL = entryFrame m av.toArray maxL := by rw [hargs]
  rw [hent, lg_entry_eq]
  refine body p e s m args below meth c A _ _ hx hb hml hown hts rfl hA hP hD hK hE va_S.rf hl (fun u H locs ls pc hq hP hD hS hdg => ?_) (fun cls ik ic pc u H locs ls hq hfit hk hini hat hgood hP hD hS hsz d0 d3 d4 d7 => ?_)
  · refine W.widen (k := 1) (n := 6) (Nat.zero_le _) (Nat.zero_le _) ?_
    exact vx_ret (W.vret hx hb hr (fun t ht hW => ⟨⟨u, rfl, hq, by rw [ht]; exact hP, va_K.moved hW.alike hK, hD⟩, hS.F ht⟩) hS.2.2 hdg)
  · refine vx_throw0 (names := xnms) hx hb htr hown hfit (by decide +kernel) hk hini hat hgood hE.2.1 hE.2.2.1 hS (hsz.trans hml.symm) d0 d3 d4 d7 (fun x hx9 => (htb x hx9).elim) hrF (by show 0 + (13 * 3 + 42) ≤ rm.locals; omega) (by show 0 + 1 ≤ rm.cells; omega) (by show 0 + 6 ≤ rm.slots; omega) hlocks ?_ hS.2.2 (Nat.le_refl _) (Nat.le_refl _)
    intro t hvm hz hq9
    exact ⟨(cls, u), hq, ⟨rfl, hP.kept (fun k q hk9 => hq9 _ (hP k q hk9).lt), va_K.moved hvm hK, hD⟩, ⟨Nat.le_trans hS.1 hz, fun q h1 h2 => (hq9 q (Nat.lt_of_lt_of_le h1 hS.1)).trans (hS.2.1 q h1 h2)⟩⟩
theorem xf_IAE : Bundle.fit "java/lang/IllegalArgumentException" = true := by decide +kernel
theorem xf_IOB : Bundle.fit "java/lang/IndexOutOfBoundsException" = true := by decide +kernel
theorem xh_IAE : ∀ w ∈ (vx_at0 RX5 57 "java/lang/IllegalArgumentException" xnms).filter (fun w => !goodWord w), w ∈ [Cond.castable "java/lang/IllegalArgumentException" "java/lang/IllegalArgumentException", Cond.declares (Bundle.init0 "java/lang/RuntimeException"), Cond.declares (Bundle.init0 "java/lang/Exception"), Cond.declares (Bundle.init0 Bundle.tN)] := by decide +kernel
theorem xh_IOB : ∀ w ∈ (vx_at0 RX5 123 "java/lang/IndexOutOfBoundsException" xnms).filter (fun w => !goodWord w), w ∈ [Cond.castable "java/lang/IndexOutOfBoundsException" "java/lang/IndexOutOfBoundsException", Cond.declares (Bundle.init0 "java/lang/RuntimeException"), Cond.declares (Bundle.init0 "java/lang/Exception"), Cond.declares (Bundle.init0 Bundle.tN)] := by decide +kernel
theorem xg_IAE : ∀ w ∈ Cond.classLink RX5 55 "java/lang/IllegalArgumentException" :: Cond.initialized "java/lang/IllegalArgumentException" :: vx_at0 RX5 57 "java/lang/IllegalArgumentException" xnms, vx_ot w = true := by decide +kernel
theorem xg_IOB : ∀ w ∈ Cond.classLink RX5 121 "java/lang/IndexOutOfBoundsException" :: Cond.initialized "java/lang/IndexOutOfBoundsException" :: vx_at0 RX5 123 "java/lang/IndexOutOfBoundsException" xnms, vx_ot w = true := by decide +kernel
