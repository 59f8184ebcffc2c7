/-- both readers behind a list of sources -/
def srcR (I F : Nat) (nO names ops next : Nat → Int32) : Prop := nmR (I + F) nO names ∧ (∀ k, k < I + F → ops k = -1) ∧ ∀ k, k < F → next k = -1
theorem srcR_in {I F y : Nat} {nO names ops next : Nat → Int32} (h : srcR I F nO names ops next) (hN : I + F ≤ 60) (hy : y < 286) (hg : nO y = -1) : srcR (I + 1) F (upd nO y (nI (I + F))) (upd names (I + F) (nI (tk y))) (upd ops (I + F) (-1)) next := by
  have e : I + 1 + F = I + F + 1 := by omega
  refine ⟨?_, ?_, h.2.2⟩
  · rw [e]; exact nmR_give h.1 (by omega) hy hg
  · rw [e]; intro k hk
    by_cases ek : k = I + F
    · rw [ek, pk_us]
    · rw [pk_un ek]; exact h.2.1 k (by omega)
theorem srcR_fl {I F y : Nat} {nO names ops next : Nat → Int32} (h : srcR I F nO names ops next) (hN : I + F ≤ 60) (hy : y < 286) (hg : nO y = -1) : srcR I (F + 1) (upd nO y (nI (I + F))) (upd names (I + F) (nI (tk y))) (upd ops (I + F) (-1)) (upd next F (-1)) := by
  have e : I + (F + 1) = I + F + 1 := by omega
  refine ⟨?_, ?_, ?_⟩
  · rw [e]; exact nmR_give h.1 (by omega) hy hg
  · rw [e]; intro k hk
    by_cases ek : k = I + F
    · rw [ek, pk_us]
    · rw [pk_un ek]; exact h.2.1 k (by omega)
  · intro k hk
    by_cases ek : k = F
    · rw [ek, pk_us]
    · rw [pk_un ek]; exact h.2.2 k (by omega)
/-- two runs that end alike: what the one asks of its end, what the other -/
def JJ {PC PR : Type} (Y : (PC → Prop) → (PR → Prop) → Prop) (C : PC → Prop) (R : PR → Prop) : Prop := ∃ (c : PC → Prop) (r : PR → Prop), Y c r ∧ (∀ Q, c Q → C Q) ∧ ∀ Q, r Q → R Q
theorem JJ.imp {PC PR : Type} {Y : (PC → Prop) → (PR → Prop) → Prop} {C C' : PC → Prop} {R R' : PR → Prop} (hC : ∀ Q, C' Q → C Q) (hR : ∀ Q, R' Q → R Q) (h : JJ Y C' R') : JJ Y C R := by
  obtain ⟨c, r, h1, h2, h3⟩ := h
  exact ⟨c, r, h1, fun Q z => hC Q (h2 Q z), fun Q z => hR Q (h3 Q z)⟩
abbrev PCs : Type := Int32 → Int32 → Int32 → Int32 → Int32 → Int32 → Int32 → Int32 → Int32 → (Nat → Int32) → Prop
abbrev PRs : Type := Int32 → Int32 → Int32 → Int32 → Int32 → Int32 → (Nat → Int32) → (Nat → Int32) → (Nat → Int32) → Prop
def srcY (B : Nat → Nat) (n : Nat) (c : PCs → Prop) (r : PRs → Prop) : Prop := (∃ (e a w I F : Nat) (nO names ops next : Nat → Int32), At B n e a w ∧ 0 < e ∧ I + F ≤ 10 ∧ srcR I F nO names ops next ∧ c = (fun Q => Q 1 0 (-1) (nI a) (nI (eN n a w)) (sti (nmN B a w)) (nI I) (nI F) (nI (I + F)) nO) ∧ r = (fun Q => Q 0 (-1) (nI e) (nI (I + F)) (nI I) (nI F) names ops next)) ∨ ∃ f p, bdF f ∧ c = (fun Q => ∀ x1 x2 x3 x4 x5 x6 z1, Q 0 f p x1 x2 x3 x4 x5 x6 z1) ∧ r = (fun Q => ∀ y1 y2 y3 y4 z1 z2 z3, Q f p y1 y2 y3 y4 z1 z2 z3)
theorem srcY_yes {B : Nat → Nat} {n e a w I F : Nat} {nO names ops next : Nat → Int32} {C : PCs → Prop} {R : PRs → Prop} (h1 : At B n e a w) (h0 : 0 < e) (h2 : I + F ≤ 10) (h3 : srcR I F nO names ops next) (hC : ∀ Q : PCs, Q 1 0 (-1) (nI a) (nI (eN n a w)) (sti (nmN B a w)) (nI I) (nI F) (nI (I + F)) nO → C Q) (hR : ∀ Q : PRs, Q 0 (-1) (nI e) (nI (I + F)) (nI I) (nI F) names ops next → R Q) : JJ (srcY B n) C R :=
  ⟨_, _, Or.inl ⟨e, a, w, I, F, nO, names, ops, next, h1, h0, h2, h3, rfl, rfl⟩, hC, hR⟩
theorem srcY_bad {B : Nat → Nat} {n : Nat} {f p : Int32} {C : PCs → Prop} {R : PRs → Prop} (h1 : bdF f) (hC : ∀ Q : PCs, (∀ x1 x2 x3 x4 x5 x6 z1, Q 0 f p x1 x2 x3 x4 x5 x6 z1) → C Q) (hR : ∀ Q : PRs, (∀ y1 y2 y3 y4 z1 z2 z3, Q f p y1 y2 y3 y4 z1 z2 z3) → R Q) : JJ (srcY B n) C R :=
  ⟨_, _, Or.inr ⟨f, p, h1, rfl, rfl⟩, hC, hR⟩
theorem bd1 : bdF 1 := Or.inl rfl
theorem bd2 : bdF 2 := Or.inr (Or.inl rfl)
theorem bd3 : bdF 3 := Or.inr (Or.inr (Or.inl rfl))
theorem bd4 : bdF 4 := Or.inr (Or.inr (Or.inr rfl))
theorem j_ins_loop {B : Nat → Nat} {T : Nat → Int32} {n : Nat} (ht : tp B T n) :
    ∀ d k e a w I F nO names ops next, 11 < k + d → At B n e a w → I + F ≤ 10 → k ≤ I + F → srcR I F nO names ops next → JJ (srcY B n) (fun QC => v_X4_sourceList_b13 (nI n) T QC d 0 (-1) (nI a) (nI (eN n a w)) (sti (nmN B a w)) (nI I) (nI F) (nI (I + F)) nO 0 (nI k)) (fun QR => v_X6_sources_b22 (nI n) T QR (d + 1) 0 (-1) (nI e) (nI (I + F)) (nI I) (nI F) names ops next 1 1) := by
  intro d
  induction d with
  | zero => intro k e a w I F nO names ops next h1 h2 h3 h4; omega
  | succ d ih =>
    intro k e a w I F nO names ops next h1 h2 h3 h4 hs
    have h9 := ht.1
    have haw := h2.aw
    have k10 : ¬ (10 : Int32) < nI k := nI_nlt (b := k) (a := 10) (by omega) (by decide)
    cases hm : nmN B a w with
    | none =>
      refine srcY_bad (p := nI a) bd1 (fun QC z => ?_) (fun QR z => ?_)
      · rw [v_X4_sourceList_b13]
        exact br_f k10 (nb_t rfl ⟨nar0, nb_t rfl (z _ _ _ _ _ _ _)⟩)
      · rw [v_X6_sources_b22]
        refine br_f (by decide) (nb_t rfl (ok_isName ht h2 ?_))
        rw [hm]
        exact nb_t rfl (nb_t rfl (z _ _ _ _ _ _ _))
    | some y =>
      obtain ⟨hy, htk, hw1, hw2⟩ := nmN_some h2 hm
      rcases nmR_val hs.1 hy with hg | ⟨k', hk', hg⟩
      · by_cases hten : I + F = 10
        · refine srcY_bad (p := nI a) bd4 (fun QC z => ?_) (fun QR z => ?_)
          · rw [v_X4_sourceList_b13]
            refine br_f k10 (nb_f (sti_ne (n := y) (by omega)) (may_4 hy hg (M := 10) (by omega) (by omega) rfl ?_))
            exact nb_t rfl (nb_t rfl (z _ _ _ _ _ _ _))
          · rw [v_X6_sources_b22]
            refine br_f (by decide) (nb_t rfl (ok_isName ht h2 ?_))
            rw [hm]
            refine nb_f (show ¬ bI true = 0 by decide) (ok_token ht h2.at ?_)
            rw [htk]
            refine ok_find hs.1 (by omega) hy ?_
            rw [hg]
            refine br_t (by decide) (nb_t (by rw [nI_add, hten]; rfl) (nb_t rfl ?_))
            exact br_f (by decide) (z _ _ _ _ _ _ _)
        · obtain ⟨a1, w1, hA1⟩ := at_ex (B := B) (n := n) (e := a + w) (by omega)
          have ha1 := hA1.2.1
          have n10 : ¬ nI I + nI F = (10 : Int32) := by
            rw [nI_add]
            exact fun q => hten ((nI_eq (b := 10) (by omega) (by decide)).mp q)
          have es : (I + 1) + F = I + F + 1 := by omega
          have hs' : srcR (I + 1) F (upd nO y (nI (I + F))) (upd names (I + F) (nI (tk y))) (upd ops (I + F) (-1)) next := srcR_in hs (by omega) hy hg
          by_cases hc : a1 < n ∧ B a1 = 44
          · obtain ⟨a2, w2, hA2⟩ := at_ex (B := B) (n := n) (e := a1 + 1) (by omega)
            refine JJ.imp (fun QC z => ?_) (fun QR z => ?_) (ih (k + 1) (a1 + 1) a2 w2 (I + 1) F _ _ _ _ (by omega) hA2 (by omega) (by omega) hs')
            · rw [es] at z
              rw [v_X4_sourceList_b13]
              refine br_f k10 (nb_f (sti_ne (n := y) (by omega)) (may_y hy hg (M := 10) (by omega) (by decide) rfl ?_))
              refine nb_f (by decide) (ok_give hy (br_t rfl (lt_v ?_)))
              rw [nI_1 I, eN_word hw1]
              refine ok_advance ht hA1 (nb_f (by decide) (takes_y ht hA1 44 hc.1 hc.2 hA2 (nb_f (by decide) (lt_v ?_))))
              rw [nI_1 k]
              exact z
            · rw [es] at z
              rw [v_X6_sources_b22]
              refine br_f (by decide) (nb_t rfl (ok_isName ht h2 ?_))
              rw [hm]
              refine nb_f (show ¬ bI true = 0 by decide) (ok_token ht h2.at ?_)
              rw [htk]
              refine ok_find hs.1 (by omega) hy ?_
              rw [hg]
              refine br_t (by decide) (nb_f n10 ?_)
              refine br_t (by decide) ⟨vp_in_nI (by omega) (by decide), vp_in_nI (by omega) (by decide), lt_v (ok_tokenSize ht h2 (lt_v ?_))⟩
              rw [nI_clamp (show I + F < 2 ^ 31 by omega), nI_add a w, nI_1 (I + F)]
              refine br_f (by decide) (lt_v ?_)
              rw [nI_1 I]
              refine ok_peek ht hA1 (nb_t ((gt_is ht (by decide)).mpr hc) (br_f (by decide) (lt_v ?_)))
              rw [nI_1 a1]
              exact z
          · have hR : ∀ QR : PRs, v_X6_sources_b22 (nI n) T QR (d + 1) 0 (-1) (nI a1) (nI (I + F + 1)) (nI (I + 1)) (nI F) (upd names (I + F) (nI (tk y))) (upd ops (I + F) (-1)) next 1 0 → v_X6_sources_b22 (nI n) T QR (d + 1 + 1) 0 (-1) (nI e) (nI (I + F)) (nI I) (nI F) names ops next 1 1 := by
              intro QR z
              rw [v_X6_sources_b22]
              refine br_f (by decide) (nb_t rfl (ok_isName ht h2 ?_))
              rw [hm]
              refine nb_f (show ¬ bI true = 0 by decide) (ok_token ht h2.at ?_)
              rw [htk]
              refine ok_find hs.1 (by omega) hy ?_
              rw [hg]
              refine br_t (by decide) (nb_f n10 ?_)
              refine br_t (by decide) ⟨vp_in_nI (by omega) (by decide), vp_in_nI (by omega) (by decide), lt_v (ok_tokenSize ht h2 (lt_v ?_))⟩
              rw [nI_clamp (show I + F < 2 ^ 31 by omega), nI_add a w, nI_1 (I + F)]
              refine br_f (by decide) (lt_v ?_)
              rw [nI_1 I]
              exact ok_peek ht hA1 (nb_f (fun q => hc ((gt_is ht (c := 44) (by decide)).mp q)) (br_t rfl z))
            by_cases hc2 : a1 < n ∧ B a1 = 59
            · obtain ⟨a2, w2, hA2⟩ := at_ex (B := B) (n := n) (e := a1 + 1) (by omega)
              refine srcY_yes hA2 (Nat.succ_pos _) (by omega) hs' (fun QC z => ?_) (fun QR z => ?_)
              · rw [es] at z
                rw [v_X4_sourceList_b13]
                refine br_f k10 (nb_f (sti_ne (n := y) (by omega)) (may_y hy hg (M := 10) (by omega) (by decide) rfl ?_))
                refine nb_f (by decide) (ok_give hy (br_t rfl (lt_v ?_)))
                rw [nI_1 I, eN_word hw1]
                exact ok_advance ht hA1 (nb_f (by decide) (takes_n ht hA1 44 hc (nb_t rfl (mark_y ht hA1 59 hc2.1 hc2.2 hA2 ⟨nar1, z⟩))))
              · rw [es] at z
                refine hR QR ?_
                rw [v_X6_sources_b22]
                exact br_t rfl (want_y ht hA1.at 59 hc2.1 hc2.2 z)
            · refine srcY_bad (p := nI a1) bd1 (fun QC z => ?_) (fun QR z => ?_)
              · rw [v_X4_sourceList_b13]
                refine br_f k10 (nb_f (sti_ne (n := y) (by omega)) (may_y hy hg (M := 10) (by omega) (by decide) rfl ?_))
                refine nb_f (by decide) (ok_give hy (br_t rfl (lt_v ?_)))
                rw [nI_1 I, eN_word hw1]
                exact ok_advance ht hA1 (nb_f (by decide) (takes_n ht hA1 44 hc (nb_t rfl (mark_n ht hA1 59 hc2 ⟨nar0, z _ _ _ _ _ _ _⟩))))
              · refine hR QR ?_
                rw [v_X6_sources_b22]
                exact br_t rfl (want_n ht hA1.at 59 hc2 (z _ _ _ _ _ _ _))
      · refine srcY_bad (p := nI a) bd3 (fun QC z => ?_) (fun QR z => ?_)
        · rw [v_X4_sourceList_b13]
          refine br_f k10 (nb_f (sti_ne (n := y) (by omega)) (may_3 hy (by omega) hg ?_))
          exact nb_t rfl (nb_t rfl (z _ _ _ _ _ _ _))
        · rw [v_X6_sources_b22]
          refine br_f (by decide) (nb_t rfl (ok_isName ht h2 ?_))
          rw [hm]
          refine nb_f (show ¬ bI true = 0 by decide) (ok_token ht h2.at ?_)
          rw [htk]
          refine ok_find hs.1 (by omega) hy ?_
          rw [hg]
          refine br_f (nI_pos (by omega)) (nb_t rfl ?_)
          exact br_f (by decide) (z _ _ _ _ _ _ _)
theorem j_ins {B : Nat → Nat} {T : Nat → Int32} {n e a w I F : Nat} {nO names ops next : Nat → Int32} (ht : tp B T n)
    (h2 : At B n e a w) (h3 : I + F ≤ 10) (hs : srcR I F nO names ops next) : JJ (srcY B n) (fun QC => v_X4_sourceList (nI n) 0 (-1) (nI a) (nI (eN n a w)) (sti (nmN B a w)) (nI I) (nI F) (nI (I + F)) T nO 0 QC) (fun QR => v_X6_sources (nI n) 0 (-1) (nI e) (nI (I + F)) (nI I) (nI F) T names ops next 1 QR) := by
  have ha := h2.2.1
  by_cases hc : a < n ∧ B a = 59
  · obtain ⟨a2, w2, hA2⟩ := at_ex (B := B) (n := n) (e := a + 1) (by omega)
    refine srcY_yes hA2 (Nat.succ_pos _) h3 hs (fun QC z => ?_) (fun QR z => ?_)
    · exact takes_y ht h2 59 hc.1 hc.2 hA2 (br_f (by decide) z)
    · refine nb_t rfl (ok_peek ht h2 (br_t ((gt_is ht (by decide)).mpr hc) ⟨1, ?_⟩))
      rw [v_X6_sources_b22]
      exact br_t rfl (want_y ht h2.at 59 hc.1 hc.2 z)
  · refine JJ.imp (fun QC z => ?_) (fun QR z => ?_) (j_ins_loop ht 12 0 a a w I F nO names ops next (by omega) h2.at h3 (by omega) hs)
    · exact takes_n ht h2 59 hc (br_t rfl ⟨12, z⟩)
    · exact nb_t rfl (ok_peek ht h2 (br_f (fun q => hc ((gt_is ht (c := 59) (by decide)).mp q)) ⟨13, z⟩))
theorem j_ffs_loop {B : Nat → Nat} {T : Nat → Int32} {n : Nat} (ht : tp B T n) :
    ∀ d k e a w I F nO names ops next, 11 < k + d → At B n e a w → I + F ≤ 10 → k ≤ I + F → srcR I F nO names ops next → JJ (srcY B n) (fun QC => v_X4_sourceList_b13 (nI n) T QC d 0 (-1) (nI a) (nI (eN n a w)) (sti (nmN B a w)) (nI I) (nI F) (nI (I + F)) nO 1 (nI k)) (fun QR => v_X6_sources_b22 (nI n) T QR (d + 1) 0 (-1) (nI e) (nI (I + F)) (nI I) (nI F) names ops next 0 1) := by
  intro d
  induction d with
  | zero => intro k e a w I F nO names ops next h1 h2 h3 h4; omega
  | succ d ih =>
    intro k e a w I F nO names ops next h1 h2 h3 h4 hs
    have h9 := ht.1
    have haw := h2.aw
    have k10 : ¬ (10 : Int32) < nI k := nI_nlt (b := k) (a := 10) (by omega) (by decide)
    cases hm : nmN B a w with
    | none =>
      refine srcY_bad (p := nI a) bd1 (fun QC z => ?_) (fun QR z => ?_)
      · rw [v_X4_sourceList_b13]
        exact br_f k10 (nb_t rfl ⟨nar0, nb_t rfl (z _ _ _ _ _ _ _)⟩)
      · rw [v_X6_sources_b22]
        refine br_f (by decide) (nb_t rfl (ok_isName ht h2 ?_))
        rw [hm]
        exact nb_t rfl (nb_t rfl (z _ _ _ _ _ _ _))
    | some y =>
      obtain ⟨hy, htk, hw1, hw2⟩ := nmN_some h2 hm
      rcases nmR_val hs.1 hy with hg | ⟨k', hk', hg⟩
      · by_cases hten : I + F = 10
        · refine srcY_bad (p := nI a) bd4 (fun QC z => ?_) (fun QR z => ?_)
          · rw [v_X4_sourceList_b13]
            refine br_f k10 (nb_f (sti_ne (n := y) (by omega)) (may_4 hy hg (M := 10) (by omega) (by omega) rfl ?_))
            exact nb_t rfl (nb_t rfl (z _ _ _ _ _ _ _))
          · rw [v_X6_sources_b22]
            refine br_f (by decide) (nb_t rfl (ok_isName ht h2 ?_))
            rw [hm]
            refine nb_f (show ¬ bI true = 0 by decide) (ok_token ht h2.at ?_)
            rw [htk]
            refine ok_find hs.1 (by omega) hy ?_
            rw [hg]
            refine br_t (by decide) (nb_t (by rw [nI_add, hten]; rfl) (nb_t rfl ?_))
            exact br_f (by decide) (z _ _ _ _ _ _ _)
        · obtain ⟨a1, w1, hA1⟩ := at_ex (B := B) (n := n) (e := a + w) (by omega)
          have ha1 := hA1.2.1
          have n10 : ¬ nI I + nI F = (10 : Int32) := by
            rw [nI_add]
            exact fun q => hten ((nI_eq (b := 10) (by omega) (by decide)).mp q)
          have es : I + (F + 1) = I + F + 1 := by omega
          have hs' : srcR I (F + 1) (upd nO y (nI (I + F))) (upd names (I + F) (nI (tk y))) (upd ops (I + F) (-1)) (upd next F (-1)) := srcR_fl hs (by omega) hy hg
          by_cases hc : a1 < n ∧ B a1 = 44
          · obtain ⟨a2, w2, hA2⟩ := at_ex (B := B) (n := n) (e := a1 + 1) (by omega)
            refine JJ.imp (fun QC z => ?_) (fun QR z => ?_) (ih (k + 1) (a1 + 1) a2 w2 I (F + 1) _ _ _ _ (by omega) hA2 (by omega) (by omega) hs')
            · rw [es] at z
              rw [v_X4_sourceList_b13]
              refine br_f k10 (nb_f (sti_ne (n := y) (by omega)) (may_y hy hg (M := 10) (by omega) (by decide) rfl ?_))
              refine nb_f (by decide) (ok_give hy (br_f (by decide) (lt_v ?_)))
              rw [nI_1 F, eN_word hw1]
              refine ok_advance ht hA1 (nb_f (by decide) (takes_y ht hA1 44 hc.1 hc.2 hA2 (nb_f (by decide) (lt_v ?_))))
              rw [nI_1 k]
              exact z
            · rw [es] at z
              rw [v_X6_sources_b22]
              refine br_f (by decide) (nb_t rfl (ok_isName ht h2 ?_))
              rw [hm]
              refine nb_f (show ¬ bI true = 0 by decide) (ok_token ht h2.at ?_)
              rw [htk]
              refine ok_find hs.1 (by omega) hy ?_
              rw [hg]
              refine br_t (by decide) (nb_f n10 ?_)
              refine br_t (by decide) ⟨vp_in_nI (by omega) (by decide), vp_in_nI (by omega) (by decide), lt_v (ok_tokenSize ht h2 (lt_v ?_))⟩
              rw [nI_clamp (show I + F < 2 ^ 31 by omega), nI_add a w, nI_1 (I + F)]
              refine br_t rfl ⟨vp_in_nI (by omega) (by decide), lt_v ?_⟩
              rw [nI_1 F, nI_clamp (show F < 2 ^ 31 by omega)]
              refine ok_peek ht hA1 (nb_t ((gt_is ht (by decide)).mpr hc) (br_f (by decide) (lt_v ?_)))
              rw [nI_1 a1]
              exact z
          · have hR : ∀ QR : PRs, v_X6_sources_b22 (nI n) T QR (d + 1) 0 (-1) (nI a1) (nI (I + F + 1)) (nI I) (nI (F + 1)) (upd names (I + F) (nI (tk y))) (upd ops (I + F) (-1)) (upd next F (-1)) 0 0 → v_X6_sources_b22 (nI n) T QR (d + 1 + 1) 0 (-1) (nI e) (nI (I + F)) (nI I) (nI F) names ops next 0 1 := by
              intro QR z
              rw [v_X6_sources_b22]
              refine br_f (by decide) (nb_t rfl (ok_isName ht h2 ?_))
              rw [hm]
              refine nb_f (show ¬ bI true = 0 by decide) (ok_token ht h2.at ?_)
              rw [htk]
              refine ok_find hs.1 (by omega) hy ?_
              rw [hg]
              refine br_t (by decide) (nb_f n10 ?_)
              refine br_t (by decide) ⟨vp_in_nI (by omega) (by decide), vp_in_nI (by omega) (by decide), lt_v (ok_tokenSize ht h2 (lt_v ?_))⟩
              rw [nI_clamp (show I + F < 2 ^ 31 by omega), nI_add a w, nI_1 (I + F)]
              refine br_t rfl ⟨vp_in_nI (by omega) (by decide), lt_v ?_⟩
              rw [nI_1 F, nI_clamp (show F < 2 ^ 31 by omega)]
              exact ok_peek ht hA1 (nb_f (fun q => hc ((gt_is ht (c := 44) (by decide)).mp q)) (br_t rfl z))
            by_cases hc2 : a1 < n ∧ B a1 = 59
            · obtain ⟨a2, w2, hA2⟩ := at_ex (B := B) (n := n) (e := a1 + 1) (by omega)
              refine srcY_yes hA2 (Nat.succ_pos _) (by omega) hs' (fun QC z => ?_) (fun QR z => ?_)
              · rw [es] at z
                rw [v_X4_sourceList_b13]
                refine br_f k10 (nb_f (sti_ne (n := y) (by omega)) (may_y hy hg (M := 10) (by omega) (by decide) rfl ?_))
                refine nb_f (by decide) (ok_give hy (br_f (by decide) (lt_v ?_)))
                rw [nI_1 F, eN_word hw1]
                exact ok_advance ht hA1 (nb_f (by decide) (takes_n ht hA1 44 hc (nb_t rfl (mark_y ht hA1 59 hc2.1 hc2.2 hA2 ⟨nar1, z⟩))))
              · rw [es] at z
                refine hR QR ?_
                rw [v_X6_sources_b22]
                exact br_t rfl (want_y ht hA1.at 59 hc2.1 hc2.2 z)
            · refine srcY_bad (p := nI a1) bd1 (fun QC z => ?_) (fun QR z => ?_)
              · rw [v_X4_sourceList_b13]
                refine br_f k10 (nb_f (sti_ne (n := y) (by omega)) (may_y hy hg (M := 10) (by omega) (by decide) rfl ?_))
                refine nb_f (by decide) (ok_give hy (br_f (by decide) (lt_v ?_)))
                rw [nI_1 F, eN_word hw1]
                exact ok_advance ht hA1 (nb_f (by decide) (takes_n ht hA1 44 hc (nb_t rfl (mark_n ht hA1 59 hc2 ⟨nar0, z _ _ _ _ _ _ _⟩))))
              · refine hR QR ?_
                rw [v_X6_sources_b22]
                exact br_t rfl (want_n ht hA1.at 59 hc2 (z _ _ _ _ _ _ _))
      · refine srcY_bad (p := nI a) bd3 (fun QC z => ?_) (fun QR z => ?_)
        · rw [v_X4_sourceList_b13]
          refine br_f k10 (nb_f (sti_ne (n := y) (by omega)) (may_3 hy (by omega) hg ?_))
          exact nb_t rfl (nb_t rfl (z _ _ _ _ _ _ _))
        · rw [v_X6_sources_b22]
          refine br_f (by decide) (nb_t rfl (ok_isName ht h2 ?_))
          rw [hm]
          refine nb_f (show ¬ bI true = 0 by decide) (ok_token ht h2.at ?_)
          rw [htk]
          refine ok_find hs.1 (by omega) hy ?_
          rw [hg]
          refine br_f (nI_pos (by omega)) (nb_t rfl ?_)
          exact br_f (by decide) (z _ _ _ _ _ _ _)
theorem j_ffs {B : Nat → Nat} {T : Nat → Int32} {n e a w I F : Nat} {nO names ops next : Nat → Int32} (ht : tp B T n)
    (h2 : At B n e a w) (h3 : I + F ≤ 10) (hs : srcR I F nO names ops next) : JJ (srcY B n) (fun QC => v_X4_sourceList (nI n) 0 (-1) (nI a) (nI (eN n a w)) (sti (nmN B a w)) (nI I) (nI F) (nI (I + F)) T nO 1 QC) (fun QR => v_X6_sources (nI n) 0 (-1) (nI e) (nI (I + F)) (nI I) (nI F) T names ops next 0 QR) := by
  have ha := h2.2.1
  by_cases hc : a < n ∧ B a = 59
  · obtain ⟨a2, w2, hA2⟩ := at_ex (B := B) (n := n) (e := a + 1) (by omega)
    refine srcY_yes hA2 (Nat.succ_pos _) h3 hs (fun QC z => ?_) (fun QR z => ?_)
    · exact takes_y ht h2 59 hc.1 hc.2 hA2 (br_f (by decide) z)
    · refine nb_t rfl (ok_peek ht h2 (br_t ((gt_is ht (by decide)).mpr hc) ⟨1, ?_⟩))
      rw [v_X6_sources_b22]
      exact br_t rfl (want_y ht h2.at 59 hc.1 hc.2 z)
  · refine JJ.imp (fun QC z => ?_) (fun QR z => ?_) (j_ffs_loop ht 12 0 a a w I F nO names ops next (by omega) h2.at h3 (by omega) hs)
    · exact takes_n ht h2 59 hc (br_t rfl ⟨12, z⟩)
    · exact nb_t rfl (ok_peek ht h2 (br_f (fun q => hc ((gt_is ht (c := 59) (by decide)).mp q)) ⟨13, z⟩))
