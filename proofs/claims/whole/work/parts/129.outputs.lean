/-! THE OUTPUTS, AND WHAT THE REFERENCE KEEPS -/
theorem cp_step {f g : Nat → Int32} {j : Nat} (h : ∀ i, i < j → f i = g i) : ∀ i, i < j + 1 → upd f j (g j) i = g i := fun i hi => by
  by_cases e : i = j
  · rw [e, pk_us]
  · rw [pk_un e]; exact h i (by omega)
theorem ok_keep {N I F O : Nat} {k1 k2 k3 k4 k5 k6 k7 k8 k9 k10 k11 : Int32} {outNet output next nextNet frm taken ops op many takes : Nat → Int32} {Q : Int32 → Int32 → Int32 → Int32 → Int32 → Int32 → Int32 → Int32 → Int32 → Int32 → Int32 → (Nat → Int32) → (Nat → Int32) → (Nat → Int32) → (Nat → Int32) → (Nat → Int32) → Prop} (hN : N ≤ 60) (hF : F ≤ 10) (hO : O ≤ 8)
    (hQ : ∀ output' nextNet' taken' op' takes' : Nat → Int32, (∀ k, k < O → output' k = outNet k) → (∀ k, k < F → nextNet' k = next k) → (∀ k, k < 4 * N → taken' k = frm k) → (∀ k, k < N → op' k = ops k) → (∀ k, k < N → takes' k = many k) → Q (nI N) (nI I) (nI F) (nI O) 0 (-1) 0 3 0 0 0 output' nextNet' taken' op' takes') :
    v_X6_keep (nI N) (nI I) (nI F) (nI O) k1 k2 k3 k4 k5 k6 k7 k8 k9 k10 k11 outNet output next nextNet frm taken ops op many takes Q := by
  have l4 : ∀ (d j : Nat) (o' n' t' p' m' : Nat → Int32), j ≤ O → O < j + d → (∀ k, k < j → o' k = outNet k) → (∀ k, k < F → n' k = next k) → (∀ k, k < 4 * N → t' k = frm k) → (∀ k, k < N → p' k = ops k) → (∀ k, k < N → m' k = many k) → v_X6_keep_b132 (nI N) (nI I) (nI F) (nI O) outNet next frm ops many Q d (nI N) (nI I) (nI F) (nI O) k5 k6 k7 k8 k9 k10 k11 o' n' t' p' m' (nI j) := by
    intro d
    induction d with
    | zero => intro j o' n' t' p' m' h1 h2; omega
    | succ d ih =>
      intro j o' n' t' p' m' h1 h2 c1 c2 c3 c4 c5
      rw [v_X6_keep_b132]
      dsimp only
      refine pk_le O j (fun q => ?_) (fun q => ⟨vp_in_nI (by omega) (by decide), vp_in_nI (by omega) (by decide), lt_v ?_⟩)
      · exact hQ o' n' t' p' m' (fun k hk => c1 k (by omega)) c2 c3 c4 c5
      · rw [nI_1, nI_clamp (by omega)]
        exact ih (j + 1) _ _ _ _ _ (by omega) (by omega) (cp_step c1) c2 c3 c4 c5
  have l3 : ∀ (d j : Nat) (o' n' t' p' m' : Nat → Int32), j ≤ F → F < j + d → (∀ k, k < j → n' k = next k) → (∀ k, k < 4 * N → t' k = frm k) → (∀ k, k < N → p' k = ops k) → (∀ k, k < N → m' k = many k) → v_X6_keep_b104 (nI N) (nI I) (nI F) (nI O) outNet next frm ops many Q d (nI N) (nI I) (nI F) (nI O) k5 k6 k7 k8 k9 k10 k11 o' n' t' p' m' (nI j) := by
    intro d
    induction d with
    | zero => intro j o' n' t' p' m' h1 h2; omega
    | succ d ih =>
      intro j o' n' t' p' m' h1 h2 c2 c3 c4 c5
      rw [v_X6_keep_b104]
      dsimp only
      refine pk_le F j (fun q => ?_) (fun q => ⟨vp_in_nI (by omega) (by decide), vp_in_nI (by omega) (by decide), lt_v ?_⟩)
      · exact ⟨O + 1, l4 (O + 1) 0 o' n' t' p' m' (by omega) (by omega) (fun k hk => by omega) (fun k hk => c2 k (by omega)) c3 c4 c5⟩
      · rw [nI_1, nI_clamp (by omega)]
        exact ih (j + 1) _ _ _ _ _ (by omega) (by omega) (cp_step c2) c3 c4 c5
  have l2 : ∀ (d j : Nat) (o' n' t' p' m' : Nat → Int32), j ≤ 4 * N → 4 * N < j + d → (∀ k, k < j → t' k = frm k) → (∀ k, k < N → p' k = ops k) → (∀ k, k < N → m' k = many k) → v_X6_keep_b74 (nI N) (nI I) (nI F) (nI O) outNet next frm ops many Q d (nI N) (nI I) (nI F) (nI O) k5 k6 k7 k8 k9 k10 k11 o' n' t' p' m' (nI j) := by
    intro d
    induction d with
    | zero => intro j o' n' t' p' m' h1 h2; omega
    | succ d ih =>
      intro j o' n' t' p' m' h1 h2 c3 c4 c5
      rw [v_X6_keep_b74]
      dsimp only
      rw [four_mul_nI]
      refine pk_le (4 * N) j (fun q => ?_) (fun q => ⟨vp_in_nI (by omega) (by decide), vp_in_nI (by omega) (by decide), lt_v ?_⟩)
      · exact ⟨F + 1, l3 (F + 1) 0 o' n' t' p' m' (by omega) (by omega) (fun k hk => by omega) (fun k hk => c3 k (by omega)) c4 c5⟩
      · rw [nI_1, nI_clamp (by omega)]
        exact ih (j + 1) _ _ _ _ _ (by omega) (by omega) (cp_step c3) c4 c5
  have l1 : ∀ (d j : Nat) (o' n' t' p' m' : Nat → Int32), j ≤ N → N < j + d → (∀ k, k < j → p' k = ops k) → (∀ k, k < j → m' k = many k) → v_X6_keep_b34 (nI N) (nI I) (nI F) (nI O) outNet next frm ops many Q d (nI N) (nI I) (nI F) (nI O) k5 k6 k7 k8 k9 k10 k11 o' n' t' p' m' (nI j) := by
    intro d
    induction d with
    | zero => intro j o' n' t' p' m' h1 h2; omega
    | succ d ih =>
      intro j o' n' t' p' m' h1 h2 c4 c5
      rw [v_X6_keep_b34]
      dsimp only
      refine pk_le N j (fun q => ?_) (fun q => ⟨vp_in_nI (by omega) (by decide), vp_in_nI (by omega) (by decide), vp_in_nI (by omega) (by decide), vp_in_nI (by omega) (by decide), lt_v ?_⟩)
      · exact ⟨4 * N + 1, l2 (4 * N + 1) 0 o' n' t' p' m' (by omega) (by omega) (fun k hk => by omega) (fun k hk => c4 k (by omega)) (fun k hk => c5 k (by omega))⟩
      · rw [nI_1, nI_clamp (by omega)]
        exact ih (j + 1) _ _ _ _ _ (by omega) (by omega) (cp_step c4) (cp_step c5)
  exact ⟨N + 1, l1 (N + 1) 0 output nextNet taken op takes (by omega) (by omega) (fun k hk => by omega) (fun k hk => by omega)⟩
abbrev PCo : Type := Int32 → Int32 → Int32 → Int32 → Int32 → Int32 → Int32 → (Nat → Int32) → Prop
abbrev PRo : Type := Int32 → Int32 → Int32 → Int32 → (Nat → Int32) → Prop
/-- both readers have the same outputs -/
def ouR (N O : Nat) (output outNet : Nat → Int32) : Prop := O ≤ 8 ∧ ∃ out : Nat → Nat, ∀ k, k < O → output k = nI (out k) ∧ outNet k = nI (out k) ∧ out k < N
theorem ouR_more {N O m : Nat} {output outNet : Nat → Int32} (h : ouR N O output outNet) (hO : O < 8) (hm : m < N) : ouR N (O + 1) (upd output O (nI m)) (upd outNet O (nI m)) := by
  obtain ⟨h1, out, h2⟩ := h
  refine ⟨by omega, fun k => if k = O then m else out k, fun k hk => ?_⟩
  dsimp only
  by_cases e : k = O
  · subst e
    rw [pk_us, pk_us, if_pos rfl]
    exact ⟨rfl, rfl, hm⟩
  · rw [pk_un e, pk_un e, if_neg e]
    exact h2 k (by omega)
section OUTS
variable {B : Nat → Nat} {T nO names : Nat → Int32} {n N : Nat}
def ouY (B : Nat → Nat) (n N : Nat) (c : PCo → Prop) (r : PRo → Prop) : Prop := (∃ (e a w O : Nat) (output outNet : Nat → Int32), At B n e a w ∧ ouR N O output outNet ∧ c = (fun Q => Q 1 0 (-1) (nI a) (nI (eN n a w)) (sti (nmN B a w)) (nI O) output) ∧ r = (fun Q => Q 0 (-1) (nI e) (nI O) outNet)) ∨ ∃ f p, bdF f ∧ c = (fun Q => ∀ x1 x2 x3 x4 z1, Q 0 f p x1 x2 x3 x4 z1) ∧ r = (fun Q => ∀ y1 y2 z1, Q f p y1 y2 z1)
theorem ouY_yes {e a w O : Nat} {output outNet : Nat → Int32} {C : PCo → Prop} {R : PRo → Prop} (h1 : At B n e a w) (h2 : ouR N O output outNet) (hC : ∀ Q : PCo, Q 1 0 (-1) (nI a) (nI (eN n a w)) (sti (nmN B a w)) (nI O) output → C Q) (hR : ∀ Q : PRo, Q 0 (-1) (nI e) (nI O) outNet → R Q) : JJ (ouY B n N) C R :=
  ⟨_, _, Or.inl ⟨e, a, w, O, output, outNet, h1, h2, rfl, rfl⟩, hC, hR⟩
theorem ouY_bad {f p : Int32} {C : PCo → Prop} {R : PRo → Prop} (h1 : bdF f) (hC : ∀ Q : PCo, (∀ x1 x2 x3 x4 z1, Q 0 f p x1 x2 x3 x4 z1) → C Q) (hR : ∀ Q : PRo, (∀ y1 y2 z1, Q f p y1 y2 z1) → R Q) : JJ (ouY B n N) C R :=
  ⟨_, _, Or.inr ⟨f, p, h1, rfl, rfl⟩, hC, hR⟩
theorem j_outs_loop (ht : tp B T n) (hr : nmR N nO names) (hN : N ≤ 60) :
    ∀ (d O e a w : Nat) (dd : Int32) (output outNet : Nat → Int32), 8 < O + d → At B n e a w → ouR N O output outNet → JJ (ouY B n N) (fun QC => v_X4_outputList_b13 (nI n) T nO QC d 0 (-1) (nI a) (nI (eN n a w)) (sti (nmN B a w)) dd output (nI O)) (fun QR => v_X6_outputs_b22 (nI n) (nI N) T names QR (d + 1) 0 (-1) (nI e) (nI O) outNet 1) := by
  intro d
  induction d with
  | zero => intro O e a w dd output outNet h1 h2 h3; have := h3.1; omega
  | succ d ih =>
    intro O e a w dd output outNet h1 h2 hs
    have h9 := ht.1
    have haw := h2.aw
    have hO8 := hs.1
    have k8 : ¬ (8 : Int32) < nI O := nI_nlt (b := O) (a := 8) (by omega) (by decide)
    cases hm : nmN B a w with
    | none =>
      refine ouY_bad (p := nI a) bd1 (fun QC z => ?_) (fun QR z => ?_)
      · rw [v_X4_outputList_b13]
        exact br_f k8 (giv_1 (nb_t rfl (z _ _ _ _ _)))
      · rw [v_X6_outputs_b22]
        exact br_f (by decide) (nb_t rfl (gn_1 ht h2 hm (nb_f (by decide) (br_f (by decide) (z _ _ _)))))
    | some y =>
      obtain ⟨hy, htk, hw1, hw2⟩ := nmN_some h2 hm
      rcases nmR_val hr hy with hg | ⟨m, hmN, hg⟩
      · refine ouY_bad (p := nI a) bd2 (fun QC z => ?_) (fun QR z => ?_)
        · rw [v_X4_outputList_b13]
          exact br_f k8 (giv_2 hy hg (nb_t rfl (z _ _ _ _ _)))
        · rw [v_X6_outputs_b22]
          exact br_f (by decide) (nb_t rfl (gn_2 ht h2 hr hN hm hg (nb_f (by decide) (br_f (by decide) (z _ _ _)))))
      · by_cases h8 : O = 8
        · refine ouY_bad (p := nI a) bd4 (fun QC z => ?_) (fun QR z => ?_)
          · rw [v_X4_outputList_b13]
            exact br_f k8 (giv_y hy (by omega) hg (nb_f (by decide) (nb_t (by rw [h8]; rfl) ⟨nar0, z _ _ _ _ _⟩)))
          · rw [v_X6_outputs_b22]
            exact br_f (by decide) (nb_t rfl (gn_y ht h2 hr hN hm (by omega) hg (nb_t rfl (nb_t (by rw [h8]; rfl) (nb_t rfl (br_f (by decide) (z _ _ _)))))))
        · have n8 : ¬ nI O = (8 : Int32) := fun q => h8 ((nI_eq (b := 8) (by omega) (by decide)).mp q)
          have hs' := ouR_more hs (by omega) hmN
          obtain ⟨a1, w1, hA1⟩ := at_ex (B := B) (n := n) (e := a + w) (by omega)
          have ha1 := hA1.2.1
          have hC1 : ∀ QC : PCo, v_X4_takes (nI n) (nI a1) (nI (eN n a1 w1)) (sti (nmN B a1 w1)) T 44 (fun r11 n8 n9 n10 => (¬ r11 = 0 → ∀ v12 : Int32, v12 = nI O + 1 → (v_X4_outputList_b13 (nI n) T nO QC d) 0 (-1) n8 n9 n10 (nI (O + 1)) (upd output O (nI m)) v12) ∧ (r11 = 0 → v_X4_mark (nI n) 0 (-1) n8 n9 n10 T 59 (fun r18 n13 n14 n15 n16 n17 => (narrow .boolean (.int r18) = .int r18) ∧ QC r18 n13 n14 n15 n16 n17 (nI (O + 1)) (upd output O (nI m))))) → v_X4_outputList_b13 (nI n) T nO QC (d + 1) 0 (-1) (nI a) (nI (eN n a w)) (sti (some y)) dd output (nI O) := by
            intro QC z
            rw [v_X4_outputList_b13]
            refine br_f k8 (giv_y hy (by omega) hg (nb_f (by decide) (nb_f n8 ⟨vp_in_nI hy (by decide), vp_in_nI (by omega) (by decide), lt_v ?_⟩)))
            rw [eN_word hw1]
            refine ok_advance ht hA1 ?_
            rw [nI_clamp (show O < 2 ^ 31 by omega), show (sti (some y)).toNatClampNeg = y from nI_clamp (by omega), hg, nI_1]
            rw [nI_1] at z
            exact z
          have hR1 : ∀ QR : PRo, ((¬ sti (gt B n a1) = (44 : Int32) → v_X6_outputs_b118 (nI n) (nI N) T names QR (v_X6_outputs_b22 (nI n) (nI N) T names QR (d + 1)) 0 (-1) (nI a1) (nI (O + 1)) (upd outNet O (nI m)) 0) ∧ (sti (gt B n a1) = (44 : Int32) → v_X6_outputs_b118 (nI n) (nI N) T names QR (v_X6_outputs_b22 (nI n) (nI N) T names QR (d + 1)) 0 (-1) (nI a1) (nI (O + 1)) (upd outNet O (nI m)) 1)) → v_X6_outputs_b22 (nI n) (nI N) T names QR (d + 1 + 1) 0 (-1) (nI e) (nI O) outNet 1 := by
            intro QR z
            rw [v_X6_outputs_b22]
            refine br_f (by decide) (nb_t rfl (gn_y ht h2 hr hN hm (by omega) hg (nb_t rfl (nb_f n8 (br_t (by decide) ⟨vp_in_nI (by omega) (by decide), lt_v (ok_tokenSize ht h2 (lt_v ?_))⟩)))))
            rw [nI_add a w, nI_clamp (show O < 2 ^ 31 by omega), nI_1]
            exact ok_peek ht hA1 z
          by_cases hc : a1 < n ∧ B a1 = 44
          · obtain ⟨a2, w2, hA2⟩ := at_ex (B := B) (n := n) (e := a1 + 1) (by omega)
            refine JJ.imp (fun QC z => ?_) (fun QR z => ?_) (ih (O + 1) (a1 + 1) a2 w2 (nI (O + 1)) _ _ (by omega) hA2 hs')
            · refine hC1 QC (takes_y ht hA1 44 hc.1 hc.2 hA2 (nb_f (by decide) (lt_v ?_)))
              rw [nI_1]; exact z
            · refine hR1 QR (nb_t ((gt_is ht (by decide)).mpr hc) (br_f (by decide) (lt_v ?_)))
              rw [nI_1]; exact z
          · have hR2 : ∀ QR : PRo, v_X6_want (nI n) 0 (-1) (nI a1) T 59 (fun n7 n8 n9 => QR n7 n8 n9 (nI (O + 1)) (upd outNet O (nI m))) → v_X6_outputs_b22 (nI n) (nI N) T names QR (d + 1 + 1) 0 (-1) (nI e) (nI O) outNet 1 := by
              intro QR z
              refine hR1 QR (nb_f (fun q => hc ((gt_is ht (c := 44) (by decide)).mp q)) (br_t rfl ?_))
              show v_X6_outputs_b22 (nI n) (nI N) T names QR (d + 1) 0 (-1) (nI a1) (nI (O + 1)) (upd outNet O (nI m)) 0
              rw [v_X6_outputs_b22]
              exact br_t rfl z
            by_cases hc2 : a1 < n ∧ B a1 = 59
            · obtain ⟨a2, w2, hA2⟩ := at_ex (B := B) (n := n) (e := a1 + 1) (by omega)
              exact ouY_yes hA2 hs' (fun QC z => hC1 QC (takes_n ht hA1 44 hc (nb_t rfl (mark_y ht hA1 59 hc2.1 hc2.2 hA2 ⟨nar1, z⟩)))) (fun QR z => hR2 QR (want_y ht hA1.at 59 hc2.1 hc2.2 z))
            · exact ouY_bad (p := nI a1) bd1 (fun QC z => hC1 QC (takes_n ht hA1 44 hc (nb_t rfl (mark_n ht hA1 59 hc2 ⟨nar0, z _ _ _ _ _⟩)))) (fun QR z => hR2 QR (want_n ht hA1.at 59 hc2 (z _ _ _)))
theorem j_outs {e a w : Nat} {output outNet : Nat → Int32} (ht : tp B T n) (hr : nmR N nO names) (hN : N ≤ 60) (h2 : At B n e a w) :
    JJ (ouY B n N) (fun QC => v_X4_outputList (nI n) 0 (-1) (nI a) (nI (eN n a w)) (sti (nmN B a w)) 0 T nO output QC) (fun QR => v_X6_outputs (nI n) 0 (-1) (nI e) (nI N) 0 T names outNet QR) := by
  have ha := h2.2.1
  have h0 : ouR N 0 output outNet := ⟨by omega, fun _ => 0, fun k hk => by omega⟩
  by_cases hc : a < n ∧ B a = 59
  · obtain ⟨a2, w2, hA2⟩ := at_ex (B := B) (n := n) (e := a + 1) (by omega)
    refine ouY_yes hA2 h0 (fun QC z => ?_) (fun QR z => ?_)
    · exact takes_y ht h2 59 hc.1 hc.2 hA2 (br_f (by decide) z)
    · refine nb_t rfl (ok_peek ht h2 (br_t ((gt_is ht (by decide)).mpr hc) ⟨1, ?_⟩))
      rw [v_X6_outputs_b22]
      exact br_t rfl (want_y ht h2.at 59 hc.1 hc.2 z)
  · refine JJ.imp (fun QC z => ?_) (fun QR z => ?_) (j_outs_loop ht hr hN 9 0 a a w 0 output outNet (by omega) h2.at h0)
    · exact takes_n ht h2 59 hc (br_t rfl ⟨9, z⟩)
    · exact nb_t rfl (ok_peek ht h2 (br_f (fun q => hc ((gt_is ht (c := 59) (by decide)).mp q)) ⟨10, z⟩))
end OUTS
