/-! THE WHOLE TAPE -/
abbrev PRr : Type := Int32 → Int32 → Int32 → Int32 → Int32 → Int32 → Int32 → Int32 → Int32 → Int32 → Int32 → Int32 → Int32 → Int32 → Int32 → Int32 → Int32 → Int32 → Int32 → Int32 → (Nat → Int32) → (Nat → Int32) → (Nat → Int32) → (Nat → Int32) → (Nat → Int32) → (Nat → Int32) → (Nat → Int32) → (Nat → Int32) → (Nat → Int32) → (Nat → Int32) → (Nat → Int32) → Prop
/-- a circuit in the class -/
def crC (I F N O : Nat) (op cn : Nat → Nat) (ar : Nat → Nat → Nat) (out : Nat → Nat) (nxt : Nat → Option Nat) (oper looked lcount cout cnext : Nat → Int32) : Prop := I + F ≤ 10 ∧ I + F ≤ N ∧ N ≤ 60 ∧ O ≤ 8 ∧ gates (I + F) N op cn ar ∧ cHolds (I + F) N op cn ar oper looked lcount ∧ oHolds F N O out nxt cout cnext
section READ
variable {B : Nat → Nat} {T : Nat → Int32} {n : Nat} {q1 q2 q3 q4 q5 q6 q7 q8 q9 q10 q11 : Int32} {moutput mnextNet mtaken mop mtakes : Nat → Int32}
def rdY (q1 q2 q3 q4 q5 q6 q7 q8 q9 q10 q11 : Int32) (moutput mnextNet mtaken mop mtakes : Nat → Int32) (c : PCa → Prop) (r : PRr → Prop) : Prop := (∃ (I F N O : Nat) (op cn : Nat → Nat) (ar : Nat → Nat → Nat) (out : Nat → Nat) (nxt : Nat → Option Nat) (oper looked lcount cout cnext : Nat → Int32), crC I F N O op cn ar out nxt oper looked lcount cout cnext ∧ c = (fun Q => ∀ x1 x2 x3 z1, Q 1 0 (-1) x1 x2 x3 (nI I) (nI F) (nI N) (nI O) cnext z1 looked lcount oper cout) ∧ r = (fun Q => ∀ y1 y2 y3 y4 y5 z1 z2 z3 z4 z5 z6 mop' taken' takes' mout' mnext', mHolds (I + F) N op cn ar mop' taken' takes' → oHolds F N O out nxt mout' mnext' → Q (nI N) 0 0 (-1) y1 y2 y3 y4 y5 (nI N) (nI I) (nI F) (nI O) 0 (-1) 0 3 0 0 0 z1 z2 z3 z4 mout' mnext' z5 taken' mop' z6 takes')) ∨ ∃ f p, bdF f ∧ c = (fun Q => ∀ x1 x2 x3 x4 x5 x6 x7 z1 z2 z3 z4 z5 z6, Q 0 f p x1 x2 x3 x4 x5 x6 x7 z1 z2 z3 z4 z5 z6) ∧ r = (fun Q => ∀ y1 y2 y3 y4 y5 z1 z2 z3 z4 z5 z6, Q (-1) 0 f p y1 y2 y3 y4 y5 q1 q2 q3 q4 q5 q6 q7 q8 q9 q10 q11 z1 z2 z3 z4 moutput mnextNet z5 mtaken mop z6 mtakes)
theorem rdY_bad {f p : Int32} {C : PCa → Prop} {R : PRr → Prop} (h1 : bdF f) (hC : ∀ Q : PCa, (∀ x1 x2 x3 x4 x5 x6 x7 z1 z2 z3 z4 z5 z6, Q 0 f p x1 x2 x3 x4 x5 x6 x7 z1 z2 z3 z4 z5 z6) → C Q) (hR : ∀ Q : PRr, (∀ y1 y2 y3 y4 y5 z1 z2 z3 z4 z5 z6, Q (-1) 0 f p y1 y2 y3 y4 y5 q1 q2 q3 q4 q5 q6 q7 q8 q9 q10 q11 z1 z2 z3 z4 moutput mnextNet z5 mtaken mop z6 mtakes) → R Q) : JJ (rdY q1 q2 q3 q4 q5 q6 q7 q8 q9 q10 q11 moutput mnextNet mtaken mop mtakes) C R :=
  ⟨_, _, Or.inr ⟨f, p, h1, rfl, rfl⟩, hC, hR⟩
theorem outs_f {sz rf rp at0 cn os : Int32} {names outNet : Nat → Int32} {Q : PRo} (h : bdF rf) (hQ : Q rf rp at0 os outNet) : v_X6_outputs sz rf rp at0 cn os T names outNet Q := by
  refine nb_f h.ne ⟨1, ?_⟩
  rw [v_X6_outputs_b22]
  exact br_t rfl (want_f h hQ)
theorem srcs_f {sz rf rp at0 cn si sf p0 : Int32} {names ops next : Nat → Int32} {Q : PRs} (h : bdF rf) (hQ : Q rf rp at0 cn si sf names ops next) : v_X6_sources sz rf rp at0 cn si sf T names ops next p0 Q := by
  refine nb_f h.ne ⟨1, ?_⟩
  rw [v_X6_sources_b22]
  exact br_t rfl (want_f h hQ)
theorem b89_f {f p y1 y2 y3 y4 y5 : Int32} {z1 z2 z3 z4 z5 z6 : Nat → Int32} {QR : PRr} (h : bdF f) (z : ∀ y1 y2 y3 y4 y5 z1 z2 z3 z4 z5 z6, QR (-1) 0 f p y1 y2 y3 y4 y5 q1 q2 q3 q4 q5 q6 q7 q8 q9 q10 q11 z1 z2 z3 z4 moutput mnextNet z5 mtaken mop z6 mtakes) : v_X6_read_b89 (nI n) T QR 0 f p y1 y2 y3 y4 y5 q1 q2 q3 q4 q5 q6 q7 q8 q9 q10 q11 z1 z2 z3 z4 moutput mnextNet z5 mtaken mop z6 mtakes :=
  wtok_f h (outs_f h (nb_f h.ne (br_f h.nle (z _ _ _ _ _ _ _ _ _ _ _))))
/-- from the word out to the tape's end -/
theorem j_tail {e a w I F N : Nat} {nO names oper looked lcount ops frm many dnext mnext dout outNet : Nat → Int32} (ht : tp B T n) (hA : At B n e a w) (hw : tkN B a w = cdN 2) (hr : lnR I F N nO names oper looked lcount ops frm many dnext mnext) :
    JJ (rdY q1 q2 q3 q4 q5 q6 q7 q8 q9 q10 q11 moutput mnextNet mtaken mop mtakes) (fun QC => aOut (nI n) 0 (-1) (nI a) (nI (eN n a w)) (sti (nmN B a w)) (nI I) (nI F) (nI N) 0 T nO dnext looked lcount oper dout QC) (fun QR => v_X6_read_b89 (nI n) T QR 0 0 (-1) (nI e) (nI N) (nI I) (nI F) 0 q1 q2 q3 q4 q5 q6 q7 q8 q9 q10 q11 names ops mnext outNet moutput mnextNet frm mtaken mop many mtakes) := by
  have h9 := ht.1
  have haw := hA.aw
  obtain ⟨r1, r2, r3, r4, ⟨op, cn, ar, g1, g2, g3⟩, nxt, r6⟩ := hr
  have hw3 : w = 3 := ((word_iff hA (by decide)).mpr hw).1
  obtain ⟨a2, w2, hA2⟩ := at_ex (B := B) (n := n) (e := a + 3) (by omega)
  have ha2 := hA2.2.1
  rcases j_outs (output := dout) (outNet := outNet) ht r4 r3 hA2 with ⟨c, r, ⟨e3, a3, w3, O, dout', outNet', hA3, ⟨hO, out, hout⟩, ec, er⟩ | ⟨f, p, hf, ec, er⟩, hc, hr'⟩
  · have ha3 := hA3.2.1
    have hC : ∀ QC : PCa, v_X4_tapeEnd (nI n) 0 (-1) (nI a3) (fun r70 n68 n69 => (r70 = 0 → QC 0 n68 n69 (nI a3) (nI (eN n a3 w3)) (sti (nmN B a3 w3)) (nI I) (nI F) (nI N) (nI O) dnext nO looked lcount oper dout') ∧ (¬ r70 = 0 → QC 1 n68 n69 (nI a3) (nI (eN n a3 w3)) (sti (nmN B a3 w3)) (nI I) (nI F) (nI N) (nI O) dnext nO looked lcount oper dout')) → aOut (nI n) 0 (-1) (nI a) (nI (eN n a w)) (sti (nmN B a w)) (nI I) (nI F) (nI N) 0 T nO dnext looked lcount oper dout QC := by
      intro QC z
      refine word_y (i := 2) ht hA (by decide) hw hA2 (br_f (by decide) (hc _ ?_))
      rw [ec]
      exact br_f (by decide) z
    have hR : ∀ QR : PRr, v_X6_peek (nI n) (nI e3) T (fun r26 n25 => (r26 < 0 → v_X6_read_b123 (nI n) T QR 0 0 (-1) n25 (nI N) (nI I) (nI F) (nI O) q1 q2 q3 q4 q5 q6 q7 q8 q9 q10 q11 names ops mnext outNet' moutput mnextNet frm mtaken mop many mtakes) ∧ (¬ r26 < 0 → v_X6_fail 0 (-1) 1 n25 (fun n27 n28 => v_X6_read_b123 (nI n) T QR 0 n27 n28 n25 (nI N) (nI I) (nI F) (nI O) q1 q2 q3 q4 q5 q6 q7 q8 q9 q10 q11 names ops mnext outNet' moutput mnextNet frm mtaken mop many mtakes))) → v_X6_read_b89 (nI n) T QR 0 0 (-1) (nI e) (nI N) (nI I) (nI F) 0 q1 q2 q3 q4 q5 q6 q7 q8 q9 q10 q11 names ops mnext outNet moutput mnextNet frm mtaken mop many mtakes := by
      intro QR z
      refine wtok_y (i := 2) (L := 3) ht hA hw rfl rfl (hr' _ ?_)
      rw [er]
      exact nb_t rfl z
    by_cases hend : a3 = n
    · refine ⟨_, _, Or.inl ⟨I, F, N, O, op, cn, ar, out, nxt, oper, looked, lcount, dout', dnext, ⟨r1, r2, r3, hO, g1, g2, fun k hk => ⟨(hout k hk).1, (hout k hk).2.2⟩, fun k hk => ⟨(r6 k hk).1, (r6 k hk).2.2⟩⟩, rfl, rfl⟩, fun QC z => ?_, fun QR z => ?_⟩
      · exact hC QC (br_t (by rw [hend]) (br_f (by decide) (z _ _ _ _)))
      · refine hR QR (ok_peek ht hA3 ?_)
        rw [gt_n (by omega)]
        refine br_t (by decide) (br_t (by decide) (ok_keep r3 (by omega) hO (fun o' n' t' p' m' c1 c2 c3 c4 c5 => z _ _ _ _ _ _ _ _ _ _ _ p' t' m' o' n' ⟨fun k hk => ?_, fun k hk1 hk2 => ?_⟩ ⟨fun k hk => ?_, fun k hk => ?_⟩)))
        · rw [c4 k (by omega)]; exact g3.1 k hk
        · obtain ⟨s1, s2, s3⟩ := g3.2 k hk1 hk2
          have s4 := (g1 k hk1 hk2).2.2.1
          exact ⟨by rw [c4 k hk2]; exact s1, by rw [c5 k hk2]; exact s2, fun i hi => by rw [c3 _ (by omega)]; exact s3 i hi⟩
        · rw [c1 k hk]; exact ⟨(hout k hk).2.1, (hout k hk).2.2⟩
        · rw [c2 k hk]; exact ⟨(r6 k hk).2.1, (r6 k hk).2.2⟩
    · refine rdY_bad (p := nI a3) bd1 (fun QC z => ?_) (fun QR z => ?_)
      · exact hC QC (br_f (fun q => hend ((nI_eq (by omega) (by omega)).mp q)) (br_t rfl (br_t rfl (z _ _ _ _ _ _ _ _ _ _ _ _ _))))
      · refine hR QR (ok_peek ht hA3 ?_)
        rw [gt_y (by omega)]
        exact br_f (nI_pos (by have := (ht.2 a3).2; omega)) (nb_t rfl (br_f (by decide) (z _ _ _ _ _ _ _ _ _ _ _)))
  · refine rdY_bad (p := p) hf (fun QC z => ?_) (fun QR z => ?_)
    · refine word_y (i := 2) ht hA (by decide) hw hA2 (br_f (by decide) (hc _ ?_))
      rw [ec]
      exact fun x1 x2 x3 x4 z1 => br_t rfl (z _ _ _ _ _ _ _ _ _ _ _ _ _)
    · refine wtok_y (i := 2) (L := 3) ht hA hw rfl rfl (hr' _ ?_)
      rw [er]
      exact fun y1 y2 z1 => nb_f hf.ne (br_f hf.nle (z _ _ _ _ _ _ _ _ _ _ _))
/-- the lines, and what comes behind them -/
theorem j_lines {I F : Nat} {dout outNet : Nat → Int32} (ht : tp B T n) :
    ∀ (d k e a w N : Nat) (nO names oper looked lcount ops frm many dnext mnext : Nat → Int32), 900 < k + d → k < e → At B n e a w → lnR I F N nO names oper looked lcount ops frm many dnext mnext →
    JJ (rdY q1 q2 q3 q4 q5 q6 q7 q8 q9 q10 q11 moutput mnextNet mtaken mop mtakes) (fun QC => v_X4_lines_b2 (nI n) (nI I) (nI F) T (fun r53 n42 n43 n44 n45 n46 n47 n48 n49 n50 n51 n52 => (r53 = 0 → QC 0 n42 n43 n44 n45 n46 (nI I) (nI F) n47 0 n49 n48 n50 n51 n52 dout) ∧ (¬ r53 = 0 → aOut (nI n) n42 n43 n44 n45 n46 (nI I) (nI F) n47 0 T n48 n49 n50 n51 n52 dout QC)) d 0 (-1) (nI a) (nI (eN n a w)) (sti (nmN B a w)) (nI N) nO dnext looked lcount oper (nI k)) (fun QR => v_X6_read_b66 (nI n) T QR d 0 0 (-1) (nI e) (nI N) (nI I) (nI F) 0 q1 q2 q3 q4 q5 q6 q7 q8 q9 q10 q11 names ops mnext outNet moutput mnextNet frm mtaken mop many mtakes) := by
  intro d
  induction d with
  | zero => intro k e a w N nO names oper looked lcount ops frm many dnext mnext h1 h2 h3; have := h3.1; have := h3.2.1; have := ht.1; omega
  | succ d ih =>
    intro k e a w N nO names oper looked lcount ops frm many dnext mnext h1 h2 hA hr
    have h9 := ht.1
    have haw := hA.aw
    have hea := hA.1
    have k900 : ¬ (900 : Int32) ≤ nI k := nI_ge (b := 900) (by omega) (by decide)
    by_cases hw : tkN B a w = cdN 2
    · refine JJ.imp (fun QC z => ?_) (fun QR z => ?_) (j_tail (dout := dout) (outNet := outNet) ht hA.at hw hr)
      · rw [v_X4_lines_b2]
        exact br_f k900 (ok_isWord ht hA (by decide) (fun _ => br_f (by decide) (br_f (by decide) z)) (fun q => absurd hw q))
      · rw [v_X6_read_b66]
        refine nb_t rfl (ok_token ht hA (br_t (by rw [hw]; rfl) z))
    · have n30 : ¬ nI (tkN B a w) = (7304564 : Int32) := fun q => hw ((nI_eq (b := 7304564) (tkN_lt hA) (by decide)).mp q)
      cases hm : nmN B a w with
      | none =>
        refine rdY_bad (p := nI a) bd1 (fun QC z => ?_) (fun QR z => ?_)
        · rw [v_X4_lines_b2]
          exact br_f k900 (ok_isWord ht hA (by decide) (fun q => absurd q hw) (fun _ => br_t rfl (nb_t rfl ⟨nar0, br_t rfl (z _ _ _ _ _ _ _ _ _ _ _ _ _)⟩)))
        · rw [v_X6_read_b66]
          refine nb_t rfl (ok_token ht hA (br_f n30 (ok_isName ht hA.at ?_)))
          rw [hm]
          refine nb_t rfl (nb_t rfl ?_)
          cases d with
          | zero => have := ht.1; omega
          | succ d =>
            rw [v_X6_read_b66]
            exact nb_f (by decide) (b89_f bd1 z)
      | some y =>
        have hd : ∃ d', d = d' + 1 := ⟨d - 1, by omega⟩
        rcases j_line (lo := e) ht hr (by omega) hA.at hm with ⟨c, r, ⟨e5, a5, w5, N5, nO5, names5, oper5, looked5, lcount5, ops5, frm5, many5, dnext5, mnext5, p1, p2, p3, ec, er⟩ | ⟨f, p, hf, ec, er⟩, hc, hr'⟩
        · refine JJ.imp (fun QC z => ?_) (fun QR z => ?_) (ih (k + 1) e5 a5 w5 N5 _ _ _ _ _ _ _ _ _ _ (by omega) (by omega) p1 p3)
          · rw [v_X4_lines_b2]
            refine br_f k900 (ok_isWord ht hA (by decide) (fun q => absurd q hw) (fun _ => br_t rfl (nb_f (sti_ne (n := y) (by have := (nmN_some hA hm).1; omega)) ?_)))
            refine hc (fun r f p at0 en nm nets nO nx lk lc op => v_X4_lines_b78 (nI n) (nI I) (nI F) T _ (v_X4_lines_b2 (nI n) (nI I) (nI F) T _ d) f p at0 en nm nets nO nx lk lc op (nI k) r) ?_
            rw [ec]
            refine nb_f (by decide) (lt_v ?_)
            rw [nI_1]
            exact z
          · rw [v_X6_read_b66]
            refine nb_t rfl (ok_token ht hA (br_f n30 (hr' _ ?_)))
            rw [er]
            exact z
        · refine rdY_bad (p := p) hf (fun QC z => ?_) (fun QR z => ?_)
          · rw [v_X4_lines_b2]
            refine br_f k900 (ok_isWord ht hA (by decide) (fun q => absurd q hw) (fun _ => br_t rfl (nb_f (sti_ne (n := y) (by have := (nmN_some hA hm).1; omega)) ?_)))
            refine hc (fun r f p at0 en nm nets nO nx lk lc op => v_X4_lines_b78 (nI n) (nI I) (nI F) T _ (v_X4_lines_b2 (nI n) (nI I) (nI F) T _ d) f p at0 en nm nets nO nx lk lc op (nI k) r) ?_
            rw [ec]
            exact fun x1 x2 x3 x4 z1 z2 z3 z4 z5 => nb_t rfl (br_t rfl (z _ _ _ _ _ _ _ _ _ _ _ _ _))
          · rw [v_X6_read_b66]
            refine nb_t rfl (ok_token ht hA (br_f n30 (hr' _ ?_)))
            rw [er]
            intro y1 y2 z1 z2 z3 z4 z5
            obtain ⟨d', hd'⟩ := hd
            rw [hd', v_X6_read_b66]
            exact nb_f hf.ne (b89_f hf z)
end READ
