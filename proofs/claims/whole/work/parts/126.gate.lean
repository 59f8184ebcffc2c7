/-! A LINE THAT GIVES A GATE -/
/-- both readers between two lines -/
def lnR (I F N : Nat) (nO names oper looked lcount ops frm many dnext mnext : Nat → Int32) : Prop := I + F ≤ 10 ∧ I + F ≤ N ∧ N ≤ 60 ∧ nmR N nO names ∧ (∃ (op cn : Nat → Nat) (ar : Nat → Nat → Nat), gates (I + F) N op cn ar ∧ cHolds (I + F) N op cn ar oper looked lcount ∧ mHolds (I + F) N op cn ar ops frm many) ∧ ∃ nxt : Nat → Option Nat, ∀ k, k < F → dnext k = sti (nxt k) ∧ mnext k = sti (nxt k) ∧ ∀ m, nxt k = some m → m < N
theorem lnR_gate {I F N y o c : Nat} {l : Nat → Nat} {nO names oper looked lcount ops frm many dnext mnext lk fr : Nat → Int32} (h : lnR I F N nO names oper looked lcount ops frm many dnext mnext) (hN : N < 60) (hy : y < 286) (hg : nO y = -1) (ho : o < 8) (c1 : 1 ≤ c) (c4 : c ≤ 4) (c2 : lst o ≤ c) (c5 : 5 ≤ o → c = lst o) (hl : ∀ i, i < c → lk (4 * N + i) = nI (l i) ∧ fr (4 * N + i) = nI (l i) ∧ l i < N) (hlk : ∀ j, j < 4 * N → lk j = looked j) (hfr : ∀ j, j < 4 * N → fr j = frm j) :
    lnR I F (N + 1) (upd nO y (nI N)) (upd names N (nI (tk y))) (upd oper N (nI o)) lk (upd lcount N (nI c)) (upd ops N (nI o)) fr (upd many N (nI c)) dnext mnext := by
  obtain ⟨h1, h2, h3, h4, ⟨op, cn, ar, g1, g2, g3⟩, nxt, h5⟩ := h
  refine ⟨h1, by omega, by omega, nmR_give h4 (by omega) hy hg, ⟨fun k => if k = N then o else op k, fun k => if k = N then c else cn k, fun k i => if k = N then l i else ar k i, ?_, ?_, ?_, ?_⟩, nxt, fun k hk => ⟨(h5 k hk).1, (h5 k hk).2.1, fun m hm => by have := (h5 k hk).2.2 m hm; omega⟩⟩
  · intro k hk1 hk2
    by_cases e : k = N
    · subst e
      simp only [if_true]
      refine ⟨ho, c1, c4, fun q => ?_, fun q => ?_, fun i hi => (hl i hi).2.2⟩
      · rw [c5 (by omega), q]; rfl
      · rw [c5 (by omega)]; rcases q with q | q <;> rw [q] <;> rfl
    · simp only [if_neg e]
      exact g1 k hk1 (by omega)
  · intro k hk1 hk2
    by_cases e : k = N
    · subst e
      simp only [if_true]
      exact ⟨pk_us, pk_us, fun i hi => (hl i hi).1⟩
    · simp only [if_neg e]
      rw [pk_un e, pk_un e]
      obtain ⟨q1, q2, q3⟩ := g2 k hk1 (by omega)
      refine ⟨q1, q2, fun i hi => ?_⟩
      have := (g1 k hk1 (by omega)).2.2.1
      rw [hlk _ (by omega)]
      exact q3 i hi
  · intro k hk
    rw [pk_un (by omega)]
    exact g3.1 k hk
  · intro k hk1 hk2
    by_cases e : k = N
    · subst e
      simp only [if_true]
      exact ⟨pk_us, pk_us, fun i hi => (hl i hi).2.1⟩
    · simp only [if_neg e]
      rw [pk_un e, pk_un e]
      obtain ⟨q1, q2, q3⟩ := g3.2 k hk1 (by omega)
      refine ⟨q1, q2, fun i hi => ?_⟩
      have := (g1 k hk1 (by omega)).2.2.1
      rw [hfr _ (by omega)]
      exact q3 i hi
abbrev PCg : Type := Int32 → Int32 → Int32 → Int32 → Int32 → Int32 → Int32 → (Nat → Int32) → (Nat → Int32) → (Nat → Int32) → (Nat → Int32) → Prop
section GLINE
variable {B : Nat → Nat} {T nO names oper looked lcount ops frm many dnext mnext : Nat → Int32} {n I F N y lo : Nat}
def gtY (B : Nat → Nat) (n I F lo : Nat) (dnext mnext : Nat → Int32) (c : PCg → Prop) (r : PRl → Prop) : Prop := (∃ (e a w N : Nat) (nO names oper looked lcount ops frm many : Nat → Int32), At B n e a w ∧ lo < e ∧ lnR I F N nO names oper looked lcount ops frm many dnext mnext ∧ c = (fun Q => Q 1 0 (-1) (nI a) (nI (eN n a w)) (sti (nmN B a w)) (nI N) nO looked lcount oper) ∧ r = (fun Q => Q 0 (-1) (nI e) (nI N) names ops many frm)) ∨ ∃ f p, bdF f ∧ c = (fun Q => ∀ x1 x2 x3 x4 z1 z2 z3 z4, Q 0 f p x1 x2 x3 x4 z1 z2 z3 z4) ∧ r = (fun Q => ∀ y1 y2 z1 z2 z3 z4, Q f p y1 y2 z1 z2 z3 z4)
theorem gtY_yes {e a w N : Nat} {nO names oper looked lcount ops frm many : Nat → Int32} {C : PCg → Prop} {R : PRl → Prop} (h1 : At B n e a w) (h0 : lo < e) (h2 : lnR I F N nO names oper looked lcount ops frm many dnext mnext) (hC : ∀ Q : PCg, Q 1 0 (-1) (nI a) (nI (eN n a w)) (sti (nmN B a w)) (nI N) nO looked lcount oper → C Q) (hR : ∀ Q : PRl, Q 0 (-1) (nI e) (nI N) names ops many frm → R Q) : JJ (gtY B n I F lo dnext mnext) C R :=
  ⟨_, _, Or.inl ⟨e, a, w, N, nO, names, oper, looked, lcount, ops, frm, many, h1, h0, h2, rfl, rfl⟩, hC, hR⟩
theorem gtY_bad {f p : Int32} {C : PCg → Prop} {R : PRl → Prop} (h1 : bdF f) (hC : ∀ Q : PCg, (∀ x1 x2 x3 x4 z1 z2 z3 z4, Q 0 f p x1 x2 x3 x4 z1 z2 z3 z4) → C Q) (hR : ∀ Q : PRl, (∀ y1 y2 z1 z2 z3 z4, Q f p y1 y2 z1 z2 z3 z4) → R Q) : JJ (gtY B n I F lo dnext mnext) C R :=
  ⟨_, _, Or.inr ⟨f, p, h1, rfl, rfl⟩, hC, hR⟩
/-- from the operation to the line's end -/
theorem j_gate {e a w : Nat} {wh : Int32} (ht : tp B T n) (hr : lnR I F N nO names oper looked lcount ops frm many dnext mnext) (hN : N < 60) (hy : y < 286) (hg : nO y = -1)
    (hlo : lo ≤ e) (hA : At B n e a w) (h1 : a < n) (h2 : B a = 61) :
    JJ (gtY B n I F lo dnext mnext) (fun QC => v_X4_gateLine (nI n) 0 (-1) (nI a) (nI (eN n a w)) (sti (nmN B a w)) (nI N) nO T looked lcount oper (nI y) wh QC) (fun QR => v_X6_gate (nI n) 0 (-1) (nI (a + 1)) (nI N) T names ops many frm (nI (tk y)) QR) := by
  have h9 := ht.1
  obtain ⟨r1, r2, r3, r4, r5, r6⟩ := hr
  have hr : lnR I F N nO names oper looked lcount ops frm many dnext mnext := ⟨r1, r2, r3, r4, r5, r6⟩
  obtain ⟨a2, w2, hA2⟩ := at_ex (B := B) (n := n) (e := a + 1) (by omega)
  have hw2 := hA2.aw
  have hC0 : ∀ QC : PCg, v_X4_operationHere (nI n) 0 (-1) (nI a2) (nI (eN n a2 w2)) T (fun r9 n7 n8 => (¬ r9 = (-1 : Int32) → v_X4_advance (nI n) (nI a2) (nI (eN n a2 w2)) (sti (nmN B a2 w2)) T (fun n10 n11 n12 => v_X4_mark (nI n) n7 n8 n10 n11 n12 T 40 (fun r18 n13 n14 n15 n16 n17 => (r18 = 0 → QC 0 n13 n14 n15 n16 n17 (nI N) nO looked lcount oper) ∧ (¬ r18 = 0 → v_X4_lookedList (nI n) n13 n14 n15 n16 n17 (nI N) nO looked T lcount r9 (fun r26 n19 n20 n21 n22 n23 n24 n25 => (r26 = 0 → QC 0 n19 n20 n21 n22 n23 (nI N) nO n24 n25 oper) ∧ (¬ r26 = 0 → v_X4_mark (nI n) n19 n20 n21 n22 n23 T 59 (fun r32 n27 n28 n29 n30 n31 => (¬ r32 = 0 → vp_in (nI N) 60 ∧ v_X4_give (nI N) nO (nI y) (fun n33 n34 => QC 1 n27 n28 n29 n30 n31 n33 n34 n24 n25 (upd oper (nI N).toNatClampNeg r9))) ∧ (r32 = 0 → QC 0 n27 n28 n29 n30 n31 (nI N) nO n24 n25 oper)))))))) ∧ (r9 = (-1 : Int32) → QC 0 n7 n8 (nI a2) (nI (eN n a2 w2)) (sti (nmN B a2 w2)) (nI N) nO looked lcount oper)) → v_X4_gateLine (nI n) 0 (-1) (nI a) (nI (eN n a w)) (sti (nmN B a w)) (nI N) nO T looked lcount oper (nI y) wh QC := by
    intro QC z
    refine may_y hy hg (M := 60) hN (by decide) rfl (nb_f (by decide) ?_)
    rw [eN_mark hA h1 h2 (by decide)]
    exact ok_advance ht hA2 z
  by_cases hop : ∃ o, o < 8 ∧ tkN B a2 w2 = opc o
  · obtain ⟨o, ho, hto⟩ := hop
    obtain ⟨p1, p2, p3, p4⟩ := op_letter hA2 ho hto
    have huniq : ∀ k, k < 8 → tkN B a2 w2 = opc k → k = o := by
      intro k hk q
      rw [hto] at q
      have : ∀ o, o < 8 → ∀ k, k < 8 → opc o = opc k → k = o := by decide
      exact this o ho k hk q
    obtain ⟨o1, o2, o3, o4, o5, o6⟩ := lst_is o ho
    obtain ⟨a3, w3, hA3⟩ := at_ex (B := B) (n := n) (e := a2 + w2) (by omega)
    have ha3 := hA3.2.1
    have om1 : ¬ nI o = (-1 : Int32) := sti_ne (n := o) (by omega)
    have hK : ∀ (QR : PRl) f p t, (∃ f76 : Nat, v_X6_gate_b76 (nI n) T QR f76 f p t (nI N) names ops many frm (nI (tk y)) (nI o) 0 1 (nI (mxN o))) → ((4 : Int32) < nI o → v_X6_least (nI o) (fun r35 => v_X6_gate_b74 (nI n) T QR f p t (nI N) names ops many frm (nI (tk y)) (nI o) 0 1 r35)) ∧ (¬ (4 : Int32) < nI o → v_X6_gate_b74 (nI n) T QR f p t (nI N) names ops many frm (nI (tk y)) (nI o) 0 1 5) := by
      intro QR f p t z
      refine pk_lt 4 o (fun q => ok_least ho ?_) (fun q => ?_)
      · rw [← (o6 (by omega)).2]; exact z
      · rw [(o5 q).2] at z; exact z
    have hR0 : ∀ QR : PRl, v_X6_want (nI n) 0 (-1) (nI (a2 + w2)) T 40 (fun f p t => ((4 : Int32) < nI o → v_X6_least (nI o) (fun r35 => v_X6_gate_b74 (nI n) T QR f p t (nI N) names ops many frm (nI (tk y)) (nI o) 0 1 r35)) ∧ (¬ (4 : Int32) < nI o → v_X6_gate_b74 (nI n) T QR f p t (nI N) names ops many frm (nI (tk y)) (nI o) 0 1 5)) → v_X6_gate (nI n) 0 (-1) (nI (a + 1)) (nI N) T names ops many frm (nI (tk y)) QR := by
      intro QR z
      refine ok_peek ht hA2 ?_
      rw [gt_y p2]
      refine ok_isLetter (fun b hb b1 b2 => ?_) (fun hl => absurd ⟨p3, p4⟩ (hl _ rfl)) (fun b hb => by cases hb; exact (ht.2 a2).2)
      refine ok_operation ht hA2.at (fun k hk q => ?_) (fun q => absurd hto (q o ho))
      rw [huniq k hk q]
      refine nb_f om1 (ok_tokenSize ht hA2 (lt_v ?_))
      rw [nI_add]
      exact z
    have hC1 : ∀ QC : PCg, v_X4_mark (nI n) 0 (-1) (nI a3) (nI (eN n a3 w3)) (sti (nmN B a3 w3)) T 40 (fun r18 n13 n14 n15 n16 n17 => (r18 = 0 → QC 0 n13 n14 n15 n16 n17 (nI N) nO looked lcount oper) ∧ (¬ r18 = 0 → v_X4_lookedList (nI n) n13 n14 n15 n16 n17 (nI N) nO looked T lcount (nI o) (fun r26 n19 n20 n21 n22 n23 n24 n25 => (r26 = 0 → QC 0 n19 n20 n21 n22 n23 (nI N) nO n24 n25 oper) ∧ (¬ r26 = 0 → v_X4_mark (nI n) n19 n20 n21 n22 n23 T 59 (fun r32 n27 n28 n29 n30 n31 => (¬ r32 = 0 → vp_in (nI N) 60 ∧ v_X4_give (nI N) nO (nI y) (fun n33 n34 => QC 1 n27 n28 n29 n30 n31 n33 n34 n24 n25 (upd oper (nI N).toNatClampNeg (nI o)))) ∧ (r32 = 0 → QC 0 n27 n28 n29 n30 n31 (nI N) nO n24 n25 oper)))))) → v_X4_gateLine (nI n) 0 (-1) (nI a) (nI (eN n a w)) (sti (nmN B a w)) (nI N) nO T looked lcount oper (nI y) wh QC := by
      intro QC z
      refine hC0 QC (ok_operationHere ht hA2 (fun q => absurd ⟨p2, p3, p4⟩ q) (fun _ _ _ q => absurd hto (q o ho)) (fun k hk q => ?_))
      rw [huniq k hk q]
      refine nb_f om1 ?_
      rw [eN_word p1]
      exact ok_advance ht hA3 z
    by_cases hm : a3 < n ∧ B a3 = 40
    · obtain ⟨a4, w4, hA4⟩ := at_ex (B := B) (n := n) (e := a3 + 1) (by omega)
      have hc60 : (nI N).toNatClampNeg = N := nI_clamp (by omega)
      rcases j_looked_loop (looked0 := looked) (from0 := frm) (lcount := lcount) (names := names) (ops := ops) (many := many) (y := y) ht hN ho r4 (lo := lo) 5 0 (a3 + 1) a4 w4 looked frm (fun _ => 0) (by omega) (by omega) (by have := hA3.1; have := hA2.1; have := hA.1; omega) hA4 (by omega) (fun i hi => by omega) (fun _ _ => rfl) (fun _ _ => rfl) with ⟨c, r, ⟨e5, a5, w5, cc, lk, fr, l, hA5, hlo5, c1, c4, c2, c5, hl, hlk, hfr, ec, er⟩ | ⟨f, p, hf, ec, er⟩, hc, hr'⟩
      · have cl : ∀ QC : PCg, v_X4_mark (nI n) 0 (-1) (nI a5) (nI (eN n a5 w5)) (sti (nmN B a5 w5)) T 59 (fun r32 n27 n28 n29 n30 n31 => (¬ r32 = 0 → vp_in (nI N) 60 ∧ v_X4_give (nI N) nO (nI y) (fun n33 n34 => QC 1 n27 n28 n29 n30 n31 n33 n34 lk (upd lcount N (nI cc)) (upd oper (nI N).toNatClampNeg (nI o)))) ∧ (r32 = 0 → QC 0 n27 n28 n29 n30 n31 (nI N) nO lk (upd lcount N (nI cc)) oper)) → v_X4_gateLine (nI n) 0 (-1) (nI a) (nI (eN n a w)) (sti (nmN B a w)) (nI N) nO T looked lcount oper (nI y) wh QC := by
          intro QC z
          refine hC1 QC (mark_y ht hA3 40 hm.1 hm.2 hA4 (br_f (by decide) ⟨vp_in_nI ho (by decide), lt_v ⟨vp_in_nI ho (by decide), lt_v ⟨5, ?_⟩⟩⟩))
          rw [nI_clamp (show o < 2 ^ 31 by omega), (tb_lst o ho).1, (tb_lst o ho).2]
          refine hc _ ?_
          rw [ec]
          exact br_f (by decide) z
        have rl : ∀ QR : PRl, gTail n N T names ops many QR y o cc e5 fr → v_X6_gate (nI n) 0 (-1) (nI (a + 1)) (nI N) T names ops many frm (nI (tk y)) QR := by
          intro QR z
          refine hR0 QR (want_y ht hA3 40 hm.1 hm.2 (hK QR _ _ _ ⟨6, hr' _ ?_⟩))
          rw [er]
          exact z
        have ha5 := hA5.2.1
        by_cases h59 : a5 < n ∧ B a5 = 59
        · obtain ⟨a6, w6, hA6⟩ := at_ex (B := B) (n := n) (e := a5 + 1) (by omega)
          refine gtY_yes hA6 (by have := hA5.1; omega) (lnR_gate hr hN hy hg ho c1 c4 c2 c5 hl hlk hfr) (fun QC z => ?_) (fun QR z => ?_)
          · refine cl QC (mark_y ht hA5 59 h59.1 h59.2 hA6 (nb_f (by decide) ⟨vp_in_nI hN (by decide), ok_give hy ?_⟩))
            rw [hc60]
            exact z
          · refine rl QR (want_y ht hA5 59 h59.1 h59.2 (nb_t rfl ⟨vp_in_nI hN (by decide), vp_in_nI hN (by decide), vp_in_nI hN (by decide), lt_v ?_⟩))
            rw [nI_1, hc60]
            exact z
        · exact gtY_bad (p := nI a5) bd1 (fun QC z => cl QC (mark_n ht hA5 59 h59 (nb_t rfl (z _ _ _ _ _ _ _ _)))) (fun QR z => rl QR (want_n ht hA5 59 h59 (nb_f (by decide) (z _ _ _ _ _ _))))
      · refine gtY_bad (p := p) hf (fun QC z => ?_) (fun QR z => ?_)
        · refine hC1 QC (mark_y ht hA3 40 hm.1 hm.2 hA4 (br_f (by decide) ⟨vp_in_nI ho (by decide), lt_v ⟨vp_in_nI ho (by decide), lt_v ⟨5, ?_⟩⟩⟩))
          rw [nI_clamp (show o < 2 ^ 31 by omega), (tb_lst o ho).1, (tb_lst o ho).2]
          refine hc _ ?_
          rw [ec]
          exact fun x1 x2 x3 z1 z2 => br_t rfl (z _ _ _ _ _ _ _ _)
        · refine hR0 QR (want_y ht hA3 40 hm.1 hm.2 (hK QR _ _ _ ⟨6, hr' _ ?_⟩))
          rw [er]
          exact z
    · refine gtY_bad (p := nI a3) bd1 (fun QC z => hC1 QC (mark_n ht hA3 40 hm (br_t rfl (z _ _ _ _ _ _ _ _)))) (fun QR z => hR0 QR (want_n ht hA3 40 hm (hK QR _ _ _ ⟨1, ?_⟩)))
      rw [v_X6_gate_b76]
      exact br_f (by decide) (nb_f (by decide) (b221_f bd1 z))
  · by_cases hlt : a2 < n ∧ 97 ≤ B a2 ∧ B a2 ≤ 122
    · refine gtY_bad (p := nI a2) bd3 (fun QC z => hC0 QC (ok_operationHere ht hA2 (fun q => absurd hlt q) (fun _ _ _ q => nb_t rfl (z _ _ _ _ _ _ _ _)) (fun k hk q => absurd ⟨k, hk, q⟩ hop))) (fun QR z => ?_)
      refine ok_peek ht hA2 (ok_isLetter (fun b hb b1 b2 => ?_) (fun hl => absurd hlt.2 (hl _ (gt_y hlt.1))) (fun b hb => (gt_lt ht hb).1))
      exact ok_operation ht hA2.at (fun k hk q => absurd ⟨k, hk, q⟩ hop) (fun q => nb_t rfl (br_f (by decide) (nb_t rfl (z _ _ _ _ _ _))))
    · refine gtY_bad (p := nI a2) bd1 (fun QC z => hC0 QC (ok_operationHere ht hA2 (fun q => nb_t rfl (z _ _ _ _ _ _ _ _)) (fun q1 q2 q3 q => absurd ⟨q1, q2, q3⟩ hlt) (fun k hk q => absurd ⟨k, hk, q⟩ hop))) (fun QR z => ?_)
      refine ok_peek ht hA2 (ok_isLetter (fun b hb b1 b2 => ?_) (fun hl => ?_) (fun b hb => (gt_lt ht hb).1))
      · obtain ⟨k1, k2, k3⟩ := gt_lt ht hb
        exact absurd ⟨k2, by omega, by omega⟩ hlt
      · exact ok_operation ht hA2.at (fun k hk q => absurd ⟨k, hk, q⟩ hop) (fun q => nb_t rfl (br_t rfl (nb_t rfl (z _ _ _ _ _ _))))
end GLINE
