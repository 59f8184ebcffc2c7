/-! THE NAMES THAT A GATE LOOKS AT -/
def lst (o : Nat) : Nat := if o = 7 then 3 else if o = 5 ∨ o = 6 then 1 else 2
def mst (o : Nat) : Nat := if o ≤ 4 then 4 else lst o
def mxN (o : Nat) : Nat := if o ≤ 4 then 5 else lst o
theorem lst_is : ∀ o, o < 8 → lst o ≤ mst o ∧ lst o ≤ mxN o ∧ 1 ≤ lst o ∧ lst o ≤ 3 ∧ (o ≤ 4 → mst o = 4 ∧ mxN o = 5) ∧ (5 ≤ o → mst o = lst o ∧ mxN o = lst o) := by decide
theorem ok_least {o : Nat} {Q : Int32 → Prop} (ho : o < 8) (hQ : Q (nI (lst o))) : v_X6_least (nI o) Q := by
  rcases i8 ho with q | q | q | q | q | q | q | q <;> subst q
  · exact nb_f (by decide) (br_f (by decide) (nb_f (by decide) hQ))
  · exact nb_f (by decide) (br_f (by decide) (nb_f (by decide) hQ))
  · exact nb_f (by decide) (br_f (by decide) (nb_f (by decide) hQ))
  · exact nb_f (by decide) (br_f (by decide) (nb_f (by decide) hQ))
  · exact nb_f (by decide) (br_f (by decide) (nb_f (by decide) hQ))
  · exact nb_f (by decide) (br_t rfl hQ)
  · exact nb_f (by decide) (br_f (by decide) (nb_t rfl hQ))
  · exact nb_t rfl hQ
theorem tb_lst : ∀ o, o < 8 → tb_LEAST_LOOKED.getD o 0 = nI (lst o) ∧ tb_MOST_OF_OPERATION.getD o 0 = nI (mst o) := by decide
abbrev PCl : Type := Int32 → Int32 → Int32 → Int32 → Int32 → Int32 → (Nat → Int32) → (Nat → Int32) → Prop
abbrev PRl : Type := Int32 → Int32 → Int32 → Int32 → (Nat → Int32) → (Nat → Int32) → (Nat → Int32) → (Nat → Int32) → Prop
section LOOKED
variable {B : Nat → Nat} {T nO names ops many lcount looked0 from0 : Nat → Int32} {n N o y lo : Nat} {QC : PCl} {QR : PRl}
/-- what the reference does behind the closing mark -/
def gTail (n N : Nat) (T names ops many : Nat → Int32) (QR : PRl) (y o c e : Nat) (frm : Nat → Int32) : Prop :=
  v_X6_want (nI n) 0 (-1) (nI e) T 59 (fun n15 n16 n17 => (¬ n15 = 0 → QR n15 n16 n17 (nI N) names ops many frm) ∧ (n15 = 0 → vp_in (nI N) 60 ∧ vp_in (nI N) 60 ∧ vp_in (nI N) 60 ∧ ∀ v18 : Int32, v18 = nI N + 1 → QR n15 n16 n17 v18 (upd names (nI N).toNatClampNeg (nI (tk y))) (upd ops (nI N).toNatClampNeg (nI o)) (upd many (nI N).toNatClampNeg (nI c)) frm))
theorem b221_f {rf rp at0 l1 l3 l4 : Int32} {frm : Nat → Int32} (h : bdF rf) (badR : ∀ y1 y2 z1 z2 z3 z4, QR rf rp y1 y2 z1 z2 z3 z4) : v_X6_gate_b221 (nI n) T QR rf rp at0 (nI N) names ops many frm l1 l3 l4 :=
  want_f h (want_f h (nb_f h.ne (badR _ _ _ _ _ _)))
theorem c119_y {c M : Nat} {rf rp ra re rn l2 l4 : Int32} {lk lc : Nat → Int32} {k15 : Int32 → Int32 → Int32 → Int32 → Int32 → (Nat → Int32) → (Nat → Int32) → Int32 → Int32 → Int32 → Prop} (h : c < M ∨ M = 4) (hc : c < 2 ^ 31) (hM : M < 2 ^ 31) (z : v_X4_lookedList_b135 (nI n) (nI N) nO T QC k15 rf rp ra re rn lk lc l2 (nI M) l4 1) : v_X4_lookedList_b119 (nI n) (nI N) nO T QC k15 rf rp ra re rn lk lc l2 (nI M) l4 (nI c) := by
  refine pk_lt c M (fun _ => z) (fun q => nb_t ?_ z)
  have : M = 4 := by omega
  rw [this]; rfl
theorem c119_n {c M : Nat} {rf rp ra re rn l2 l4 : Int32} {lk lc : Nat → Int32} {k15 : Int32 → Int32 → Int32 → Int32 → Int32 → (Nat → Int32) → (Nat → Int32) → Int32 → Int32 → Int32 → Prop} (h : ¬ (c < M ∨ M = 4)) (hc : c < 2 ^ 31) (hM : M < 2 ^ 31) (z : v_X4_lookedList_b135 (nI n) (nI N) nO T QC k15 rf rp ra re rn lk lc l2 (nI M) l4 0) : v_X4_lookedList_b119 (nI n) (nI N) nO T QC k15 rf rp ra re rn lk lc l2 (nI M) l4 (nI c) :=
  br_f (nI_nlt (by omega) hc) (nb_f (fun q => h (Or.inr ((nI_eq (b := 4) hM (by decide)).mp q))) z)
theorem upd_low {f g : Nat → Int32} {M j : Nat} {v : Int32} (hj : M ≤ j) (h : ∀ i, i < M → f i = g i) : ∀ i, i < M → upd f j v i = g i := fun i hi => by rw [pk_un (by omega)]; exact h i hi
def lkY (B : Nat → Nat) (T names ops many lcount looked0 from0 : Nat → Int32) (n N o y lo : Nat) (c : PCl → Prop) (r : PRl → Prop) : Prop := (∃ (e a w cc : Nat) (lk frm : Nat → Int32) (l : Nat → Nat), At B n e a w ∧ lo ≤ e ∧ 1 ≤ cc ∧ cc ≤ 4 ∧ lst o ≤ cc ∧ (5 ≤ o → cc = lst o) ∧ (∀ i, i < cc → lk (4 * N + i) = nI (l i) ∧ frm (4 * N + i) = nI (l i) ∧ l i < N) ∧ (∀ j, j < 4 * N → lk j = looked0 j) ∧ (∀ j, j < 4 * N → frm j = from0 j) ∧ c = (fun Q => Q 1 0 (-1) (nI a) (nI (eN n a w)) (sti (nmN B a w)) lk (upd lcount N (nI cc))) ∧ r = (fun Q => gTail n N T names ops many Q y o cc e frm)) ∨ ∃ f p, bdF f ∧ c = (fun Q => ∀ x1 x2 x3 z1 z2, Q 0 f p x1 x2 x3 z1 z2) ∧ r = (fun Q => ∀ y1 y2 z1 z2 z3 z4, Q f p y1 y2 z1 z2 z3 z4)
theorem lkY_yes {e a w cc : Nat} {lk frm : Nat → Int32} {l : Nat → Nat} {C : PCl → Prop} {R : PRl → Prop} (h1 : At B n e a w) (h0 : lo ≤ e) (h2 : 1 ≤ cc) (h3 : cc ≤ 4) (h4 : lst o ≤ cc) (h5 : 5 ≤ o → cc = lst o) (h6 : ∀ i, i < cc → lk (4 * N + i) = nI (l i) ∧ frm (4 * N + i) = nI (l i) ∧ l i < N) (h7 : ∀ j, j < 4 * N → lk j = looked0 j) (h8 : ∀ j, j < 4 * N → frm j = from0 j) (hC : ∀ Q : PCl, Q 1 0 (-1) (nI a) (nI (eN n a w)) (sti (nmN B a w)) lk (upd lcount N (nI cc)) → C Q) (hR : ∀ Q : PRl, gTail n N T names ops many Q y o cc e frm → R Q) : JJ (lkY B T names ops many lcount looked0 from0 n N o y lo) C R :=
  ⟨_, _, Or.inl ⟨e, a, w, cc, lk, frm, l, h1, h0, h2, h3, h4, h5, h6, h7, h8, rfl, rfl⟩, hC, hR⟩
theorem lkY_bad {f p : Int32} {C : PCl → Prop} {R : PRl → Prop} (h1 : bdF f) (hC : ∀ Q : PCl, (∀ x1 x2 x3 z1 z2, Q 0 f p x1 x2 x3 z1 z2) → C Q) (hR : ∀ Q : PRl, (∀ y1 y2 z1 z2 z3 z4, Q f p y1 y2 z1 z2 z3 z4) → R Q) : JJ (lkY B T names ops many lcount looked0 from0 n N o y lo) C R :=
  ⟨_, _, Or.inr ⟨f, p, h1, rfl, rfl⟩, hC, hR⟩
theorem j_looked_loop (ht : tp B T n) (hN : N < 60) (ho : o < 8) (hr : nmR N nO names) :
    ∀ (d k e a w : Nat) (lk frm : Nat → Int32) (l : Nat → Nat), 4 < k + d → k ≤ 4 → lo ≤ e → At B n e a w → (5 ≤ o → k < lst o) → (∀ i, i < k → lk (4 * N + i) = nI (l i) ∧ frm (4 * N + i) = nI (l i) ∧ l i < N) → (∀ j, j < 4 * N → lk j = looked0 j) → (∀ j, j < 4 * N → frm j = from0 j) → JJ (lkY B T names ops many lcount looked0 from0 n N o y lo) (fun QC => v_X4_lookedList_b15 (nI n) (nI N) nO T QC d 0 (-1) (nI a) (nI (eN n a w)) (sti (nmN B a w)) lk lcount (nI (lst o)) (nI (mst o)) (nI k)) (fun QR => v_X6_gate_b76 (nI n) T QR (d + 1) 0 (-1) (nI e) (nI N) names ops many frm (nI (tk y)) (nI o) (nI k) 1 (nI (mxN o))) := by
  intro d
  induction d with
  | zero => intro k e a w lk frm l h1 h2; omega
  | succ d ih =>
    intro k e a w lk frm l h1 hk4 hlo h2 hk5 hl hlk hfr
    have h9 := ht.1
    have haw := h2.aw
    obtain ⟨o1, o2, o3, o4, o5, o6⟩ := lst_is o ho
    have k4 : ¬ (4 : Int32) < nI k := nI_nlt (b := k) (a := 4) hk4 (by decide)
    cases hm : nmN B a w with
    | none =>
      refine lkY_bad (p := nI a) bd1 (fun QC z => ?_) (fun QR z => ?_)
      · rw [v_X4_lookedList_b15]
        exact br_f k4 (giv_1 (nb_t rfl (z _ _ _ _ _)))
      · rw [v_X6_gate_b76]
        exact br_f (by decide) (nb_t rfl (gn_1 ht h2 hm (nb_f (by decide) (br_f (by decide) (z _ _ _ _ _ _)))))
    | some x =>
      obtain ⟨hx, htk, hw1, hw2⟩ := nmN_some h2 hm
      rcases nmR_val hr hx with hg | ⟨k', hk', hg⟩
      · refine lkY_bad (p := nI a) bd2 (fun QC z => ?_) (fun QR z => ?_)
        · rw [v_X4_lookedList_b15]
          exact br_f k4 (giv_2 hx hg (nb_t rfl (z _ _ _ _ _)))
        · rw [v_X6_gate_b76]
          exact br_f (by decide) (nb_t rfl (gn_2 ht h2 hr (by omega) hm hg (nb_f (by decide) (br_f (by decide) (z _ _ _ _ _ _)))))
      · by_cases hk : k = 4
        · subst hk
          refine lkY_bad (p := nI a) bd4 (fun QC z => ?_) (fun QR z => ?_)
          · rw [v_X4_lookedList_b15]
            exact br_f k4 (giv_y hx (by omega) hg (nb_f (by decide) (nb_t rfl ⟨nar0, z _ _ _ _ _⟩)))
          · rw [v_X6_gate_b76]
            exact br_f (by decide) (nb_t rfl (gn_y ht h2 hr (by omega) hm (by omega) hg (nb_t rfl (nb_t rfl (nb_t rfl (br_f (by decide) (z _ _ _ _ _ _)))))))
        · obtain ⟨a1, w1, hA1⟩ := at_ex (B := B) (n := n) (e := a + w) (by omega)
          have ha1 := hA1.2.1
          have nk4 : ¬ nI k = (4 : Int32) := fun q => hk ((nI_eq (b := 4) (by omega) (by decide)).mp q)
          have l' : ∀ i, i < k + 1 → upd lk (4 * N + k) (nI k') (4 * N + i) = nI (if i = k then k' else l i) ∧ upd frm (4 * N + k) (nI k') (4 * N + i) = nI (if i = k then k' else l i) ∧ (if i = k then k' else l i) < N := by
            intro i hi
            by_cases ei : i = k
            · subst ei; rw [pk_us, pk_us, if_pos rfl]; exact ⟨rfl, rfl, hk'⟩
            · rw [pk_un (by omega), pk_un (by omega), if_neg ei]; exact hl i (by omega)
          have lk' := upd_low (v := nI k') (show 4 * N ≤ 4 * N + k by omega) hlk
          have fr' := upd_low (v := nI k') (show 4 * N ≤ 4 * N + k by omega) hfr
          have hC1 : ∀ QC : PCl, ((nI (k + 1) < nI (lst o) → v_X4_lookedList_b119 (nI n) (nI N) nO T QC (v_X4_lookedList_b15 (nI n) (nI N) nO T QC d) 0 (-1) (nI a1) (nI (eN n a1 w1)) (sti (nmN B a1 w1)) (upd lk (4 * N + k) (nI k')) lcount (nI (lst o)) (nI (mst o)) (nI k) (nI (k + 1))) ∧ (¬ nI (k + 1) < nI (lst o) → v_X4_takes (nI n) (nI a1) (nI (eN n a1 w1)) (sti (nmN B a1 w1)) T 41 (fun r19 n16 n17 n18 => (r19 = 0 → v_X4_lookedList_b119 (nI n) (nI N) nO T QC (v_X4_lookedList_b15 (nI n) (nI N) nO T QC d) 0 (-1) n16 n17 n18 (upd lk (4 * N + k) (nI k')) lcount (nI (lst o)) (nI (mst o)) (nI k) (nI (k + 1))) ∧ (¬ r19 = 0 → vp_in (nI N) 60 ∧ QC 1 0 (-1) n16 n17 n18 (upd lk (4 * N + k) (nI k')) (upd lcount N (nI (k + 1))))))) → v_X4_lookedList_b15 (nI n) (nI N) nO T QC (d + 1) 0 (-1) (nI a) (nI (eN n a w)) (sti (some x)) lk lcount (nI (lst o)) (nI (mst o)) (nI k) := by
            intro QC z
            rw [v_X4_lookedList_b15]
            refine br_f k4 (giv_y hx (by omega) hg (nb_f (by decide) (nb_f nk4 ⟨vp_in_nI hx (by decide), ?_, ?_⟩)))
            · rw [nI_mul4, nI_add]; exact vp_in_nI (by omega) (by decide)
            · rw [eN_word hw1]
              refine ok_advance ht hA1 (lt_v ?_)
              rw [nI_mul4, nI_add, nI_clamp (show 4 * N + k < 2 ^ 31 by omega), show (sti (some x)).toNatClampNeg = x from nI_clamp (by omega), hg, nI_1, nI_clamp (show N < 2 ^ 31 by omega)]
              exact z
          have hR1 : ∀ QR : PRl, ((¬ sti (gt B n a1) = (44 : Int32) → v_X6_gate_b176 (nI n) T QR (v_X6_gate_b76 (nI n) T QR (d + 1)) 0 (-1) (nI a1) (nI N) names ops many (upd frm (4 * N + k) (nI k')) (nI (tk y)) (nI o) (nI (k + 1)) (nI (mxN o))) ∧ (sti (gt B n a1) = (44 : Int32) → (nI (mxN o) ≤ nI (k + 1) → v_X6_gate_b176 (nI n) T QR (v_X6_gate_b76 (nI n) T QR (d + 1)) 0 (-1) (nI a1) (nI N) names ops many (upd frm (4 * N + k) (nI k')) (nI (tk y)) (nI o) (nI (k + 1)) (nI (mxN o))) ∧ (¬ nI (mxN o) ≤ nI (k + 1) → v_X6_gate_b177 (nI n) T QR (v_X6_gate_b76 (nI n) T QR (d + 1)) 0 (-1) (nI a1) (nI N) names ops many (upd frm (4 * N + k) (nI k')) (nI (tk y)) (nI o) (nI (k + 1)) (nI (mxN o)) 1))) → v_X6_gate_b76 (nI n) T QR (d + 1 + 1) 0 (-1) (nI e) (nI N) names ops many frm (nI (tk y)) (nI o) (nI k) 1 (nI (mxN o)) := by
            intro QR z
            rw [v_X6_gate_b76]
            refine br_f (by decide) (nb_t rfl (gn_y ht h2 hr (by omega) hm (by omega) hg (nb_t rfl (nb_f nk4 (br_t (by decide) ⟨?_, lt_v (ok_tokenSize ht h2 (lt_v ?_))⟩)))))
            · rw [four_mul_nI, nI_add]; exact vp_in_nI (by omega) (by decide)
            · rw [nI_add a w, four_mul_nI, nI_add, nI_clamp (show 4 * N + k < 2 ^ 31 by omega), nI_1]
              exact ok_peek ht hA1 z
          -- the reference stops here, more = 0
          have hR0 : ∀ QR : PRl, lst o ≤ k + 1 → ¬ (a1 < n ∧ B a1 = 44 ∧ k + 1 < mxN o) → v_X6_gate_b221 (nI n) T QR 0 (-1) (nI a1) (nI N) names ops many (upd frm (4 * N + k) (nI k')) (nI (tk y)) (nI o) (nI (k + 1)) → v_X6_gate_b76 (nI n) T QR (d + 1 + 1) 0 (-1) (nI e) (nI N) names ops many frm (nI (tk y)) (nI o) (nI k) 1 (nI (mxN o)) := by
            intro QR q1 q2 z
            have z1 : v_X6_gate_b176 (nI n) T QR (v_X6_gate_b76 (nI n) T QR (d + 1)) 0 (-1) (nI a1) (nI N) names ops many (upd frm (4 * N + k) (nI k')) (nI (tk y)) (nI o) (nI (k + 1)) (nI (mxN o)) := by
              refine nb_t rfl (nb_t rfl (ok_least ho (br_t (nI_le q1 (by omega)) (br_t rfl ?_))))
              show v_X6_gate_b76 (nI n) T QR (d + 1) 0 (-1) (nI a1) (nI N) names ops many (upd frm (4 * N + k) (nI k')) (nI (tk y)) (nI o) (nI (k + 1)) 0 (nI (mxN o))
              rw [v_X6_gate_b76]
              exact br_t rfl z
            refine hR1 QR ⟨fun _ => z1, fun q3 => ?_⟩
            have q4 := (gt_is ht (c := 44) (by decide)).mp q3
            exact br_t (nI_le (by omega) (by omega)) z1
          by_cases hcm : a1 < n ∧ B a1 = 44
          · have hc44 : sti (gt B n a1) = (44 : Int32) := (gt_is ht (by decide)).mpr hcm
            have hn41 : ¬ (a1 < n ∧ B a1 = 41) := by omega
            by_cases hgo : k + 1 < mxN o
            · obtain ⟨a2, w2, hA2⟩ := at_ex (B := B) (n := n) (e := a1 + 1) (by omega)
              have hMG : k + 1 < mst o ∨ mst o = 4 := by omega
              refine JJ.imp (fun QC z => ?_) (fun QR z => ?_) (ih (k + 1) (a1 + 1) a2 w2 _ _ _ (by omega) (by omega) (by have := hA1.1; have := h2.1; omega) hA2 (by omega) l' lk' fr')
              · have z2 : v_X4_lookedList_b119 (nI n) (nI N) nO T QC (v_X4_lookedList_b15 (nI n) (nI N) nO T QC d) 0 (-1) (nI a1) (nI (eN n a1 w1)) (sti (nmN B a1 w1)) (upd lk (4 * N + k) (nI k')) lcount (nI (lst o)) (nI (mst o)) (nI k) (nI (k + 1)) := by
                  refine c119_y hMG (by omega) (by omega) (br_f (by decide) (takes_y ht hA1 44 hcm.1 hcm.2 hA2 (nb_f (by decide) (lt_v ?_))))
                  rw [nI_1]; exact z
                exact hC1 QC ⟨fun _ => z2, fun _ => takes_n ht hA1 41 hn41 (br_t rfl z2)⟩
              · refine hR1 QR (nb_t hc44 (br_f (nI_ge hgo (by omega)) (nb_f (by decide) (br_f (by decide) ?_))))
                exact want_y ht hA1.at 44 hcm.1 hcm.2 z
            · have hMG : ¬ (k + 1 < mst o ∨ mst o = 4) := by omega
              refine lkY_bad (p := nI a1) bd1 (fun QC z => ?_) (fun QR z => ?_)
              · exact hC1 QC (br_f (nI_nlt (by omega) (by omega)) (takes_n ht hA1 41 hn41 (br_t rfl (c119_n hMG (by omega) (by omega) (br_t rfl ⟨nar0, z _ _ _ _ _⟩)))))
              · exact hR0 QR (by omega) (by omega) (want_n ht hA1.at 41 hn41 (want_f bd1 (nb_f (by decide) (z _ _ _ _ _ _))))
          · have hc44 : ¬ sti (gt B n a1) = (44 : Int32) := fun q => hcm ((gt_is ht (by decide)).mp q)
            have z2 : ∀ QC : PCl, (∀ x1 x2 x3 z1 z2, QC 0 1 (nI a1) x1 x2 x3 z1 z2) → v_X4_lookedList_b119 (nI n) (nI N) nO T QC (v_X4_lookedList_b15 (nI n) (nI N) nO T QC d) 0 (-1) (nI a1) (nI (eN n a1 w1)) (sti (nmN B a1 w1)) (upd lk (4 * N + k) (nI k')) lcount (nI (lst o)) (nI (mst o)) (nI k) (nI (k + 1)) := by
              intro QC z
              by_cases hMG : k + 1 < mst o ∨ mst o = 4
              · exact c119_y hMG (by omega) (by omega) (br_f (by decide) (takes_n ht hA1 44 hcm (nb_t rfl ⟨nar0, z _ _ _ _ _⟩)))
              · exact c119_n hMG (by omega) (by omega) (br_t rfl ⟨nar0, z _ _ _ _ _⟩)
            by_cases hls : k + 1 < lst o
            · refine lkY_bad (p := nI a1) bd1 (fun QC z => hC1 QC (br_t (nI_lt hls (by omega)) (z2 QC z))) (fun QR z => ?_)
              refine hR1 QR (nb_f hc44 (nb_t rfl (nb_t rfl (ok_least ho (br_f (nI_ge hls (by omega)) (br_f (by decide) (want_n ht hA1.at 44 hcm ?_)))))))
              show v_X6_gate_b76 (nI n) T QR (d + 1) 1 (nI a1) (nI a1) (nI N) names ops many (upd frm (4 * N + k) (nI k')) (nI (tk y)) (nI o) (nI (k + 1)) 1 (nI (mxN o))
              rw [v_X6_gate_b76]
              exact br_f (by decide) (nb_f (by decide) (b221_f bd1 z))
            · by_cases h41 : a1 < n ∧ B a1 = 41
              · obtain ⟨a2, w2, hA2⟩ := at_ex (B := B) (n := n) (e := a1 + 1) (by omega)
                refine lkY_yes hA2 (by have := hA1.1; have := h2.1; omega) (by omega) (by omega) (by omega) (by omega) l' lk' fr' (fun QC z => ?_) (fun QR z => ?_)
                · exact hC1 QC (br_f (nI_nlt (by omega) (by omega)) (takes_y ht hA1 41 h41.1 h41.2 hA2 (br_f (by decide) ⟨vp_in_nI (by omega) (by decide), z⟩)))
                · exact hR0 QR (by omega) (by omega) (want_y ht hA1.at 41 h41.1 h41.2 z)
              · refine lkY_bad (p := nI a1) bd1 (fun QC z => hC1 QC (br_f (nI_nlt (by omega) (by omega)) (takes_n ht hA1 41 h41 (br_t rfl (z2 QC z))))) (fun QR z => ?_)
                exact hR0 QR (by omega) (by omega) (want_n ht hA1.at 41 h41 (want_f bd1 (nb_f (by decide) (z _ _ _ _ _ _))))
end LOOKED
