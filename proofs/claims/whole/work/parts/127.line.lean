/-! ONE LINE -/
abbrev PCn : Type := Int32 → Int32 → Int32 → Int32 → Int32 → Int32 → Int32 → (Nat → Int32) → (Nat → Int32) → (Nat → Int32) → (Nat → Int32) → (Nat → Int32) → Prop
abbrev PRn : Type := Int32 → Int32 → Int32 → Int32 → (Nat → Int32) → (Nat → Int32) → (Nat → Int32) → (Nat → Int32) → (Nat → Int32) → Prop
theorem sti_neg1 {o : Option Nat} (h : sti o = -1) (hb : ∀ m, o = some m → m < 2 ^ 31) : o = none := by
  cases o with
  | none => rfl
  | some m => exact absurd h (sti_ne (hb m rfl))
theorem lnR_next {I F N j m : Nat} {nO names oper looked lcount ops frm many dnext mnext : Nat → Int32} (h : lnR I F N nO names oper looked lcount ops frm many dnext mnext) (hm : m < N) : lnR I F N nO names oper looked lcount ops frm many (upd dnext j (nI m)) (upd mnext j (nI m)) := by
  obtain ⟨h1, h2, h3, h4, h6, nxt, h5⟩ := h
  refine ⟨h1, h2, h3, h4, h6, fun k => if k = j then some m else nxt k, fun k hk => ?_⟩
  by_cases e : k = j
  · subst e
    dsimp only
    rw [pk_us, pk_us, if_pos rfl]
    exact ⟨rfl, rfl, fun q hq => by cases hq; exact hm⟩
  · dsimp only
    rw [pk_un e, pk_un e, if_neg e]
    exact h5 k hk
section LINE
variable {B : Nat → Nat} {T nO names oper looked lcount ops frm many dnext mnext : Nat → Int32} {n I F N y lo : Nat}
def lnY (B : Nat → Nat) (n I F lo : Nat) (c : PCn → Prop) (r : PRn → Prop) : Prop := (∃ (e a w N : Nat) (nO names oper looked lcount ops frm many dnext mnext : Nat → Int32), At B n e a w ∧ lo < e ∧ lnR I F N nO names oper looked lcount ops frm many dnext mnext ∧ c = (fun Q => Q 1 0 (-1) (nI a) (nI (eN n a w)) (sti (nmN B a w)) (nI N) nO dnext looked lcount oper) ∧ r = (fun Q => Q 0 (-1) (nI e) (nI N) names mnext ops many frm)) ∨ ∃ f p, bdF f ∧ c = (fun Q => ∀ x1 x2 x3 x4 z1 z2 z3 z4 z5, Q 0 f p x1 x2 x3 x4 z1 z2 z3 z4 z5) ∧ r = (fun Q => ∀ y1 y2 z1 z2 z3 z4 z5, Q f p y1 y2 z1 z2 z3 z4 z5)
theorem lnY_yes {e a w N : Nat} {nO names oper looked lcount ops frm many dnext mnext : Nat → Int32} {C : PCn → Prop} {R : PRn → Prop} (h1 : At B n e a w) (h0 : lo < e) (h2 : lnR I F N nO names oper looked lcount ops frm many dnext mnext) (hC : ∀ Q : PCn, Q 1 0 (-1) (nI a) (nI (eN n a w)) (sti (nmN B a w)) (nI N) nO dnext looked lcount oper → C Q) (hR : ∀ Q : PRn, Q 0 (-1) (nI e) (nI N) names mnext ops many frm → R Q) : JJ (lnY B n I F lo) C R :=
  ⟨_, _, Or.inl ⟨e, a, w, N, nO, names, oper, looked, lcount, ops, frm, many, dnext, mnext, h1, h0, h2, rfl, rfl⟩, hC, hR⟩
theorem lnY_bad {f p : Int32} {C : PCn → Prop} {R : PRn → Prop} (h1 : bdF f) (hC : ∀ Q : PCn, (∀ x1 x2 x3 x4 z1 z2 z3 z4 z5, Q 0 f p x1 x2 x3 x4 z1 z2 z3 z4 z5) → C Q) (hR : ∀ Q : PRn, (∀ y1 y2 z1 z2 z3 z4 z5, Q f p y1 y2 z1 z2 z3 z4 z5) → R Q) : JJ (lnY B n I F lo) C R :=
  ⟨_, _, Or.inr ⟨f, p, h1, rfl, rfl⟩, hC, hR⟩
/-- what the class does with a line, behind its name's word -/
def cLine (n I F N : Nat) (T nO oper looked lcount dnext : Nat → Int32) (ra re rn : Int32) (QC : PCn) : Prop :=
  v_X4_advance (nI n) ra re rn T (fun n3 n4 n5 => v_X4_isMark (nI n) n3 T 61 (fun r6 => (r6 = 0 → vp_in rn 286 ∧ v_X4_nextLine (nI n) 0 (-1) n3 n4 n5 (nI I) (nI F) T dnext nO (nO rn.toNatClampNeg) ra (fun r13 n7 n8 n9 n10 n11 n12 => QC r13 n7 n8 n9 n10 n11 (nI N) nO n12 looked lcount oper)) ∧ (¬ r6 = 0 → v_X4_gateLine (nI n) 0 (-1) n3 n4 n5 (nI N) nO T looked lcount oper rn ra (fun r24 n14 n15 n16 n17 n18 n19 n20 n21 n22 n23 => QC r24 n14 n15 n16 n17 n18 n19 n20 dnext n21 n22 n23))))
theorem b183_f {rf rp at0 l4 mi mf mc : Int32} {QR : PRn} (h : bdF rf) (z : ∀ y1 y2 z1 z2 z3 z4 z5, QR rf rp y1 y2 z1 z2 z3 z4 z5) : v_X6_line_b183 (nI n) mi mf T QR rf rp at0 mc names mnext ops many frm l4 :=
  lt_v (want_f h (gn_f h (nb_f h.ne (want_f h (z _ _ _ _ _ _ _)))))
theorem ok_isFlop {k : Nat} {Q : Int32 → Prop} (hk : k < 2 ^ 30) (hI : I + F < 2 ^ 30) (hy : I ≤ k → k < I + F → Q 1) (hn : ¬ (I ≤ k ∧ k < I + F) → Q 0) : v_X2_isFlop (nI I) (nI F) (nI k) Q := by
  refine pk_lt k I (fun q => hn (by omega)) (fun q => ok_sources ?_)
  exact pk_le (I + F) k (fun q1 => hn (by omega)) (fun q1 => hy q q1)
theorem j_line {e a w : Nat} (ht : tp B T n) (hr : lnR I F N nO names oper looked lcount ops frm many dnext mnext) (hlo : lo ≤ e) (hA : At B n e a w) (hm : nmN B a w = some y) :
    JJ (lnY B n I F lo) (fun QC => cLine n I F N T nO oper looked lcount dnext (nI a) (nI (eN n a w)) (nI y) QC) (fun QR => v_X6_line (nI n) 0 (-1) (nI e) (nI N) (nI I) (nI F) T names mnext ops many frm QR) := by
  have h9 := ht.1
  have haw := hA.aw
  obtain ⟨r1, r2, r3, r4, r5, nxt, r6⟩ := hr
  have hr : lnR I F N nO names oper looked lcount ops frm many dnext mnext := ⟨r1, r2, r3, r4, r5, nxt, r6⟩
  obtain ⟨hy, htk, hw1, hw2⟩ := nmN_some hA hm
  obtain ⟨a1, w1, hA1⟩ := at_ex (B := B) (n := n) (e := a + w) (by omega)
  have ha1 := hA1.2.1
  have hea1 : e < a1 := by have := hA1.1; have := hA.1; omega
  have ycl : (nI y).toNatClampNeg = y := nI_clamp (by omega)
  have hR : ∀ QR : PRn, ((¬ sti (gt B n a1) = (61 : Int32) → (¬ sti (gt B n a1) = (60 : Int32) → v_X6_fail 0 (-1) 1 (nI a1) (fun n36 n37 => QR n36 n37 (nI a1) (nI N) names mnext ops many frm)) ∧ (sti (gt B n a1) = (60 : Int32) → (nO y < nI I → v_X6_line_b145 (nI n) (nI I) (nI F) T QR 0 (-1) (nI a1) (nI N) names mnext ops many frm (nI a) (nO y)) ∧ (¬ nO y < nI I → ((nI I + nI F) ≤ nO y → v_X6_line_b145 (nI n) (nI I) (nI F) T QR 0 (-1) (nI a1) (nI N) names mnext ops many frm (nI a) (nO y)) ∧ (¬ (nI I + nI F) ≤ nO y → v_X6_line_b146 (nI n) (nI I) (nI F) T QR 0 (-1) (nI a1) (nI N) names mnext ops many frm (nI a) (nO y) 1)))) ∧ (sti (gt B n a1) = (61 : Int32) → (nO y < 0 → (¬ nI N = (60 : Int32) → v_X6_line_b87 (nI n) (nI I) (nI F) T QR 0 (-1) (nI a1) (nI N) names mnext ops many frm (nI (tk y))) ∧ (nI N = (60 : Int32) → v_X6_fail 0 (-1) 4 (nI a) (fun n38 n39 => v_X6_line_b87 (nI n) (nI I) (nI F) T QR n38 n39 (nI a1) (nI N) names mnext ops many frm (nI (tk y))))) ∧ (¬ nO y < 0 → v_X6_fail 0 (-1) 3 (nI a) (fun n40 n41 => v_X6_line_b87 (nI n) (nI I) (nI F) T QR n40 n41 (nI a1) (nI N) names mnext ops many frm (nI (tk y)))))) → v_X6_line (nI n) 0 (-1) (nI e) (nI N) (nI I) (nI F) T names mnext ops many frm QR := by
    intro QR z
    refine ok_isName ht hA ?_
    rw [hm]
    refine nb_f (show ¬ bI true = 0 by decide) (ok_token ht hA.at (ok_tokenSize ht hA (lt_v ?_)))
    rw [nI_add, htk]
    exact ok_peek ht hA1 (ok_find r4 r3 hy z)
  have hC : ∀ QC : PCn, v_X4_isMark (nI n) (nI a1) T 61 (fun r6 => (r6 = 0 → vp_in (nI y) 286 ∧ v_X4_nextLine (nI n) 0 (-1) (nI a1) (nI (eN n a1 w1)) (sti (nmN B a1 w1)) (nI I) (nI F) T dnext nO (nO (nI y).toNatClampNeg) (nI a) (fun r13 n7 n8 n9 n10 n11 n12 => QC r13 n7 n8 n9 n10 n11 (nI N) nO n12 looked lcount oper)) ∧ (¬ r6 = 0 → v_X4_gateLine (nI n) 0 (-1) (nI a1) (nI (eN n a1 w1)) (sti (nmN B a1 w1)) (nI N) nO T looked lcount oper (nI y) (nI a) (fun r24 n14 n15 n16 n17 n18 n19 n20 n21 n22 n23 => QC r24 n14 n15 n16 n17 n18 n19 n20 dnext n21 n22 n23))) → cLine n I F N T nO oper looked lcount dnext (nI a) (nI (eN n a w)) (nI y) QC := by
    intro QC z
    unfold cLine
    rw [eN_word hw1]
    exact ok_advance ht hA1 z
  by_cases h61 : a1 < n ∧ B a1 = 61
  · have g61 : sti (gt B n a1) = (61 : Int32) := (gt_is ht (by decide)).mpr h61
    have hC2 : ∀ QC : PCn, v_X4_gateLine (nI n) 0 (-1) (nI a1) (nI (eN n a1 w1)) (sti (nmN B a1 w1)) (nI N) nO T looked lcount oper (nI y) (nI a) (fun r24 n14 n15 n16 n17 n18 n19 n20 n21 n22 n23 => QC r24 n14 n15 n16 n17 n18 n19 n20 dnext n21 n22 n23) → cLine n I F N T nO oper looked lcount dnext (nI a) (nI (eN n a w)) (nI y) QC :=
      fun QC z => hC QC (ok_isMark ht hA1 61 (fun _ _ => br_f (by decide) z) (fun q => absurd h61 q))
    rcases nmR_val r4 hy with hg | ⟨k', hk', hg⟩
    · by_cases h60 : N = 60
      · refine lnY_bad (p := nI a) bd4 (fun QC z => hC2 QC (may_4 hy hg (M := 60) (by omega) (by omega) rfl (nb_t rfl (z _ _ _ _ _ _ _ _ _)))) (fun QR z => ?_)
        refine hR QR (nb_t g61 ?_)
        rw [hg]
        exact br_t (by decide) (nb_t (by rw [h60]; rfl) (nb_t rfl (lt_v (nb_f (by decide) (z _ _ _ _ _ _ _)))))
      · rcases j_gate (wh := nI a) ht hr (by omega) hy hg (lo := lo) (by have := hA.1; omega) hA1 h61.1 h61.2 with ⟨c, r, ⟨e5, a5, w5, N5, nO5, names5, oper5, looked5, lcount5, ops5, frm5, many5, q1, q2, q3, ec, er⟩ | ⟨f, p, hf, ec, er⟩, hc, hr'⟩
        · refine lnY_yes q1 q2 q3 (fun QC z => hC2 QC (hc _ ?_)) (fun QR z => ?_)
          · rw [ec]; exact z
          · refine hR QR (nb_t g61 ?_)
            rw [hg]
            refine br_t (by decide) (nb_f (fun q => h60 ((nI_eq (b := 60) (by omega) (by decide)).mp q)) (lt_v (nb_t rfl ?_)))
            rw [nI_1]
            refine hr' _ ?_
            rw [er]; exact z
        · refine lnY_bad (p := p) hf (fun QC z => hC2 QC (hc _ ?_)) (fun QR z => ?_)
          · rw [ec]; exact fun x1 x2 x3 x4 z1 z2 z3 z4 => z _ _ _ _ _ _ _ _ _
          · refine hR QR (nb_t g61 ?_)
            rw [hg]
            refine br_t (by decide) (nb_f (fun q => h60 ((nI_eq (b := 60) (by omega) (by decide)).mp q)) (lt_v (nb_t rfl ?_)))
            rw [nI_1]
            refine hr' _ ?_
            rw [er]; exact fun y1 y2 z1 z2 z3 z4 => z _ _ _ _ _ _ _
    · refine lnY_bad (p := nI a) bd3 (fun QC z => hC2 QC (may_3 hy (by omega) hg (nb_t rfl (z _ _ _ _ _ _ _ _ _)))) (fun QR z => ?_)
      refine hR QR (nb_t g61 ?_)
      rw [hg]
      exact br_f (nI_pos (by omega)) (nb_t rfl (lt_v (nb_f (by decide) (z _ _ _ _ _ _ _))))
  · have g61 : ¬ sti (gt B n a1) = (61 : Int32) := fun q => h61 ((gt_is ht (by decide)).mp q)
    have hC2 : ∀ QC : PCn, v_X4_nextLine (nI n) 0 (-1) (nI a1) (nI (eN n a1 w1)) (sti (nmN B a1 w1)) (nI I) (nI F) T dnext nO (nO y) (nI a) (fun r13 n7 n8 n9 n10 n11 n12 => QC r13 n7 n8 n9 n10 n11 (nI N) nO n12 looked lcount oper) → cLine n I F N T nO oper looked lcount dnext (nI a) (nI (eN n a w)) (nI y) QC := by
      intro QC z
      refine hC QC (ok_isMark ht hA1 61 (fun q1 q2 => absurd ⟨q1, q2⟩ h61) (fun _ => br_t rfl ⟨vp_in_nI hy (by decide), ?_⟩))
      rw [ycl]
      exact z
    by_cases h60 : a1 < n ∧ B a1 = 60
    · have g60 : sti (gt B n a1) = (60 : Int32) := (gt_is ht (by decide)).mpr h60
      rcases nmR_val r4 hy with hg | ⟨k, hk, hg⟩
      · refine lnY_bad (p := nI a) bd2 (fun QC z => hC2 QC ?_) (fun QR z => ?_)
        · rw [hg]
          exact ok_isMark ht hA1 60 (fun _ _ => nb_f (by decide) (br_t rfl ⟨nar0, z _ _ _ _ _ _ _ _ _⟩)) (fun q => absurd h60 q)
        · refine hR QR (nb_f g61 (nb_t g60 ?_))
          rw [hg]
          exact br_t (Int32.lt_of_lt_of_le (b := 0) (by decide) (nI_pos' (by omega))) (nb_t rfl (nb_t rfl (b183_f bd2 z)))
      · have kcl : nI k - nI I = nI (k - I) ∨ k < I := by
          by_cases q : k < I
          · exact Or.inr q
          · exact Or.inl (pk_sub (by omega))
        by_cases hfl : I ≤ k ∧ k < I + F
        · have ej : nI k - nI I = nI (k - I) := pk_sub hfl.1
          have jcl : (nI (k - I)).toNatClampNeg = k - I := nI_clamp (by omega)
          obtain ⟨d1, d2, d3⟩ := r6 (k - I) (by omega)
          have hC3 : ∀ QC : PCn, ((dnext (k - I)) = (-1 : Int32) → v_X4_advance (nI n) (nI a1) (nI (eN n a1 w1)) (sti (nmN B a1 w1)) T (fun n7 n8 n9 => v_X4_mark (nI n) 0 (-1) n7 n8 n9 T 45 (fun r15 n10 n11 n12 n13 n14 => (r15 = 0 → QC 0 n10 n11 n12 n13 n14 (nI N) nO dnext looked lcount oper) ∧ (¬ r15 = 0 → v_X4_isGiven n10 n11 n12 n14 nO (fun r18 n16 n17 => (¬ r18 = 0 → vp_in n14 286 ∧ vp_in (nI (k - I)) 10 ∧ v_X4_advance (nI n) n12 n13 n14 T (fun n19 n20 n21 => v_X4_mark (nI n) n16 n17 n19 n20 n21 T 59 (fun r27 n22 n23 n24 n25 n26 => (narrow .boolean (.int r27) = .int r27) ∧ QC r27 n22 n23 n24 n25 n26 (nI N) nO (upd dnext (k - I) (nO n14.toNatClampNeg)) looked lcount oper))) ∧ (r18 = 0 → QC 0 n16 n17 n12 n13 n14 (nI N) nO dnext looked lcount oper)))))) ∧ (¬ (dnext (k - I)) = (-1 : Int32) → v_X4_refuse 0 (-1) 3 (nI a) (fun r30 n28 n29 => (narrow .boolean (.int r30) = .int r30) ∧ QC r30 n28 n29 (nI a1) (nI (eN n a1 w1)) (sti (nmN B a1 w1)) (nI N) nO dnext looked lcount oper)) → cLine n I F N T nO oper looked lcount dnext (nI a) (nI (eN n a w)) (nI y) QC := by
            intro QC z
            refine hC2 QC ?_
            rw [hg]
            refine ok_isMark ht hA1 60 (fun _ _ => nb_f (by decide) (br_f (sti_ne (n := k) (by omega)) ?_)) (fun q => absurd h60 q)
            refine ok_isFlop (by omega) (by omega) (fun _ _ => nb_f (by decide) (lt_v ⟨?_, ?_⟩)) (fun q => absurd hfl q)
            · rw [ej]; exact vp_in_nI (by omega) (by decide)
            · rw [ej, jcl]; exact z
          have hR3 : ∀ QR : PRn, ((mnext (k - I)) < 0 → v_X6_line_b183 (nI n) (nI I) (nI F) T QR 0 (-1) (nI a1) (nI N) names mnext ops many frm (nI k)) ∧ (¬ (mnext (k - I)) < 0 → v_X6_fail 0 (-1) 3 (nI a) (fun n23 n24 => v_X6_line_b183 (nI n) (nI I) (nI F) T QR n23 n24 (nI a1) (nI N) names mnext ops many frm (nI k))) → v_X6_line (nI n) 0 (-1) (nI e) (nI N) (nI I) (nI F) T names mnext ops many frm QR := by
            intro QR z
            refine hR QR (nb_f g61 (nb_t g60 ?_))
            rw [hg, nI_add]
            refine br_f (nI_nlt hfl.1 (by omega)) (br_f (nI_ge hfl.2 (by omega)) (nb_f (by decide) ⟨?_, ?_⟩))
            · rw [ej]; exact vp_in_nI (by omega) (by decide)
            · rw [ej, jcl]; exact z
          cases hnx : nxt (k - I) with
          | some m =>
            rw [hnx] at d1 d2
            refine lnY_bad (p := nI a) bd3 (fun QC z => hC3 QC ?_) (fun QR z => hR3 QR ?_)
            · rw [d1]
              exact br_f (sti_ne (n := m) (by have := d3 m hnx; omega)) ⟨nar0, z _ _ _ _ _ _ _ _ _⟩
            · rw [d2]
              exact br_f (nI_pos (by have := d3 m hnx; omega)) (nb_t rfl (b183_f bd3 z))
          | none =>
            rw [hnx] at d1 d2
            obtain ⟨a2, w2, hA2⟩ := at_ex (B := B) (n := n) (e := a1 + 1) (by omega)
            have ha2 := hA2.2.1
            have hC4 : ∀ QC : PCn, v_X4_mark (nI n) 0 (-1) (nI a2) (nI (eN n a2 w2)) (sti (nmN B a2 w2)) T 45 (fun r15 n10 n11 n12 n13 n14 => (r15 = 0 → QC 0 n10 n11 n12 n13 n14 (nI N) nO dnext looked lcount oper) ∧ (¬ r15 = 0 → v_X4_isGiven n10 n11 n12 n14 nO (fun r18 n16 n17 => (¬ r18 = 0 → vp_in n14 286 ∧ vp_in (nI (k - I)) 10 ∧ v_X4_advance (nI n) n12 n13 n14 T (fun n19 n20 n21 => v_X4_mark (nI n) n16 n17 n19 n20 n21 T 59 (fun r27 n22 n23 n24 n25 n26 => (narrow .boolean (.int r27) = .int r27) ∧ QC r27 n22 n23 n24 n25 n26 (nI N) nO (upd dnext (k - I) (nO n14.toNatClampNeg)) looked lcount oper))) ∧ (r18 = 0 → QC 0 n16 n17 n12 n13 n14 (nI N) nO dnext looked lcount oper)))) → cLine n I F N T nO oper looked lcount dnext (nI a) (nI (eN n a w)) (nI y) QC := by
              intro QC z
              refine hC3 QC (br_t d1 ?_)
              rw [eN_mark hA1 h60.1 h60.2 (by decide)]
              exact ok_advance ht hA2 z
            have hR4 : ∀ QR : PRn, v_X6_want (nI n) 0 (-1) (nI (a1 + 1)) T 45 (fun n14 n15 n16 => v_X6_givenName (nI n) n14 n15 n16 (nI N) T names (fun r20 n17 n18 n19 => (¬ n17 = 0 → v_X6_line_b239 (nI n) (nI I) (nI F) T QR n17 n18 n19 (nI N) names mnext ops many frm) ∧ (n17 = 0 → vp_in (nI k - nI I) 10 ∧ v_X6_tokenSize (nI n) n19 T (fun r21 => ∀ v22 : Int32, v22 = n19 + r21 → v_X6_line_b239 (nI n) (nI I) (nI F) T QR n17 n18 v22 (nI N) names (upd mnext (nI k - nI I).toNatClampNeg r20) ops many frm)))) → v_X6_line (nI n) 0 (-1) (nI e) (nI N) (nI I) (nI F) T names mnext ops many frm QR := by
              intro QR z
              refine hR3 QR (br_t (by rw [d2]; decide) (lt_v ?_))
              rw [nI_1]
              exact z
            by_cases h45 : a2 < n ∧ B a2 = 45
            · obtain ⟨a3, w3, hA3⟩ := at_ex (B := B) (n := n) (e := a2 + 1) (by omega)
              have ha3 := hA3.2.1
              have hC5 : ∀ QC : PCn, v_X4_isGiven 0 (-1) (nI a3) (sti (nmN B a3 w3)) nO (fun r18 n16 n17 => (¬ r18 = 0 → vp_in (sti (nmN B a3 w3)) 286 ∧ vp_in (nI (k - I)) 10 ∧ v_X4_advance (nI n) (nI a3) (nI (eN n a3 w3)) (sti (nmN B a3 w3)) T (fun n19 n20 n21 => v_X4_mark (nI n) n16 n17 n19 n20 n21 T 59 (fun r27 n22 n23 n24 n25 n26 => (narrow .boolean (.int r27) = .int r27) ∧ QC r27 n22 n23 n24 n25 n26 (nI N) nO (upd dnext (k - I) (nO (sti (nmN B a3 w3)).toNatClampNeg)) looked lcount oper))) ∧ (r18 = 0 → QC 0 n16 n17 (nI a3) (nI (eN n a3 w3)) (sti (nmN B a3 w3)) (nI N) nO dnext looked lcount oper)) → cLine n I F N T nO oper looked lcount dnext (nI a) (nI (eN n a w)) (nI y) QC :=
                fun QC z => hC4 QC (mark_y ht hA2 45 h45.1 h45.2 hA3 (br_f (by decide) z))
              have hR5 : ∀ QR : PRn, v_X6_givenName (nI n) 0 (-1) (nI (a2 + 1)) (nI N) T names (fun r20 n17 n18 n19 => (¬ n17 = 0 → v_X6_line_b239 (nI n) (nI I) (nI F) T QR n17 n18 n19 (nI N) names mnext ops many frm) ∧ (n17 = 0 → vp_in (nI k - nI I) 10 ∧ v_X6_tokenSize (nI n) n19 T (fun r21 => ∀ v22 : Int32, v22 = n19 + r21 → v_X6_line_b239 (nI n) (nI I) (nI F) T QR n17 n18 v22 (nI N) names (upd mnext (nI k - nI I).toNatClampNeg r20) ops many frm))) → v_X6_line (nI n) 0 (-1) (nI e) (nI N) (nI I) (nI F) T names mnext ops many frm QR :=
                fun QR z => hR4 QR (want_y ht hA2 45 h45.1 h45.2 z)
              cases hm3 : nmN B a3 w3 with
              | none =>
                refine lnY_bad (p := nI a3) bd1 (fun QC z => hC5 QC ?_) (fun QR z => hR5 QR (gn_1 ht hA3 hm3 (nb_f (by decide) (want_f bd1 (z _ _ _ _ _ _ _)))))
                rw [hm3]
                exact giv_1 (nb_t rfl (z _ _ _ _ _ _ _ _ _))
              | some x =>
                obtain ⟨hx, htx, hx1, hx2⟩ := nmN_some hA3 hm3
                rcases nmR_val r4 hx with hgx | ⟨m, hmN, hgx⟩
                · refine lnY_bad (p := nI a3) bd2 (fun QC z => hC5 QC ?_) (fun QR z => hR5 QR (gn_2 ht hA3 r4 r3 hm3 hgx (nb_f (by decide) (want_f bd2 (z _ _ _ _ _ _ _)))))
                  rw [hm3]
                  exact giv_2 hx hgx (nb_t rfl (z _ _ _ _ _ _ _ _ _))
                · have haw3 := hA3.aw
                  obtain ⟨a4, w4, hA4⟩ := at_ex (B := B) (n := n) (e := a3 + w3) (by omega)
                  have ha4 := hA4.2.1
                  have hC6 : ∀ QC : PCn, v_X4_mark (nI n) 0 (-1) (nI a4) (nI (eN n a4 w4)) (sti (nmN B a4 w4)) T 59 (fun r27 n22 n23 n24 n25 n26 => (narrow .boolean (.int r27) = .int r27) ∧ QC r27 n22 n23 n24 n25 n26 (nI N) nO (upd dnext (k - I) (nI m)) looked lcount oper) → cLine n I F N T nO oper looked lcount dnext (nI a) (nI (eN n a w)) (nI y) QC := by
                    intro QC z
                    refine hC5 QC ?_
                    rw [hm3]
                    refine giv_y hx (by omega) hgx (nb_f (by decide) ⟨vp_in_nI hx (by decide), vp_in_nI (by omega) (by decide), ?_⟩)
                    rw [show (sti (some x)).toNatClampNeg = x from nI_clamp (by omega), hgx, eN_word hx1]
                    exact ok_advance ht hA4 z
                  have hR6 : ∀ QR : PRn, v_X6_want (nI n) 0 (-1) (nI (a3 + w3)) T 59 (fun n10 n11 n12 => QR n10 n11 n12 (nI N) names (upd mnext (k - I) (nI m)) ops many frm) → v_X6_line (nI n) 0 (-1) (nI e) (nI N) (nI I) (nI F) T names mnext ops many frm QR := by
                    intro QR z
                    refine hR5 QR (gn_y ht hA3 r4 r3 hm3 (by omega) hgx (nb_t rfl ⟨?_, ok_tokenSize ht hA3 (lt_v ?_)⟩))
                    · rw [ej]; exact vp_in_nI (by omega) (by decide)
                    · rw [ej, jcl, nI_add]; exact z
                  by_cases h59 : a4 < n ∧ B a4 = 59
                  · obtain ⟨a5, w5, hA5⟩ := at_ex (B := B) (n := n) (e := a4 + 1) (by omega)
                    refine lnY_yes hA5 (by have := hA4.1; have := hA3.1; have := hA2.1; omega) (lnR_next hr hmN) (fun QC z => hC6 QC (mark_y ht hA4 59 h59.1 h59.2 hA5 ⟨nar1, z⟩)) (fun QR z => hR6 QR (want_y ht hA4 59 h59.1 h59.2 z))
                  · exact lnY_bad (p := nI a4) bd1 (fun QC z => hC6 QC (mark_n ht hA4 59 h59 ⟨nar0, z _ _ _ _ _ _ _ _ _⟩)) (fun QR z => hR6 QR (want_n ht hA4 59 h59 (z _ _ _ _ _ _ _)))
            · exact lnY_bad (p := nI a2) bd1 (fun QC z => hC4 QC (mark_n ht hA2 45 h45 (br_t rfl (z _ _ _ _ _ _ _ _ _)))) (fun QR z => hR4 QR (want_n ht hA2 45 h45 (gn_f bd1 (nb_f (by decide) (want_f bd1 (z _ _ _ _ _ _ _))))))
        · refine lnY_bad (p := nI a) bd2 (fun QC z => hC2 QC ?_) (fun QR z => ?_)
          · rw [hg]
            refine ok_isMark ht hA1 60 (fun _ _ => nb_f (by decide) (br_f (sti_ne (n := k) (by omega)) ?_)) (fun q => absurd h60 q)
            exact ok_isFlop (by omega) (by omega) (fun q1 q2 => absurd ⟨q1, q2⟩ hfl) (fun _ => nb_t rfl ⟨nar0, z _ _ _ _ _ _ _ _ _⟩)
          · refine hR QR (nb_f g61 (nb_t g60 ?_))
            rw [hg, nI_add]
            refine pk_lt k I (fun q => nb_t rfl (nb_t rfl (b183_f bd2 z))) (fun q => br_t (nI_le (by omega) (by omega)) (nb_t rfl (nb_t rfl (b183_f bd2 z))))
    · have g60 : ¬ sti (gt B n a1) = (60 : Int32) := fun q => h60 ((gt_is ht (by decide)).mp q)
      exact lnY_bad (p := nI a1) bd1 (fun QC z => hC2 QC (ok_isMark ht hA1 60 (fun q1 q2 => absurd ⟨q1, q2⟩ h60) (fun _ => nb_t rfl ⟨nar0, z _ _ _ _ _ _ _ _ _⟩))) (fun QR z => hR QR (nb_f g61 (nb_f g60 (nb_t rfl (z _ _ _ _ _ _ _)))))
end LINE
