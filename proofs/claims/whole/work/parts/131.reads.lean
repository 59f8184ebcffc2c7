theorem ok_fillD {len : Nat} {arr : Nat → Int32} {v : Int32} {Q : (Nat → Int32) → Prop} (hl : len < 2 ^ 31) (hQ : Q (fun k => if k < len then v else arr k)) : v_J7_fill_53178 len arr v Q := by
  have loop : ∀ (d j : Nat), j ≤ len → len < j + d → v_J7_fill_53178_b5 len Q d (fun k => if k < j then v else arr k) v (nI j) (nI len) := by
    intro d
    induction d with
    | zero => intro j h1 h2; omega
    | succ d ih =>
      intro j h1 h2
      rw [v_J7_fill_53178_b5]
      dsimp only
      refine pk_le len j (fun q => ?_) (fun q => ⟨vp_in_nI q hl, lt_v ?_⟩)
      · rw [show j = len by omega]; exact hQ
      · rw [nI_1, nI_clamp (by omega)]
        rw [show upd (fun k => if k < j then v else arr k) j v = (fun k => if k < j + 1 then v else arr k) from ?_]
        · exact ih (j + 1) (by omega) (by omega)
        · funext k
          by_cases e : k = j
          · rw [e, pk_us, if_pos (by omega)]
          · rw [pk_un e]
            by_cases q2 : k < j
            · rw [if_pos q2, if_pos (by omega)]
            · rw [if_neg q2, if_neg (by omega)]
  have h0 := loop (len + 1) 0 (by omega) (by omega)
  rw [show (fun k => if k < 0 then v else arr k) = arr from funext (fun k => if_neg (by omega))] at h0
  exact lt_v ⟨len + 1, h0⟩
theorem j_read {B : Nat → Nat} {T : Nat → Int32} {n : Nat} {q1 q2 q3 q4 q5 q6 q7 q8 q9 q10 q11 : Int32} {moutput mnextNet mtaken mop mtakes : Nat → Int32} {c1 c2 c3 c4 c5 c6 c7 c8 c9 : Int32} {dnext nO looked lcount oper dout : Nat → Int32} {t0 f0 p0 s1 s2 s3 s4 s5 : Int32} {names ops next outNet frm many : Nat → Int32} (ht : tp B T n) :
    JJ (rdY q1 q2 q3 q4 q5 q6 q7 q8 q9 q10 q11 moutput mnextNet mtaken mop mtakes) (fun QC => v_X4_accept (nI n) c1 c2 c3 c4 c5 c6 c7 c8 c9 dnext nO T looked lcount oper dout QC) (fun QR => v_X6_read t0 (nI n) f0 p0 s1 s2 s3 s4 s5 q1 q2 q3 q4 q5 q6 q7 q8 q9 q10 q11 T names ops next outNet moutput mnextNet frm mtaken mop many mtakes QR) := by
  have h9 := ht.1
  obtain ⟨a0, w0, hA0⟩ := at_ex (B := B) (n := n) (e := 0) (by omega)
  have haw0 := hA0.aw
  have hC0 : ∀ QC : PCa, aIn (nI n) (nI a0) (nI (eN n a0 w0)) (sti (nmN B a0 w0)) 0 0 0 0 T (fun k => if k < 286 then -1 else nO k) (fun k => if k < 10 then -1 else dnext k) looked lcount oper dout QC → v_X4_accept (nI n) c1 c2 c3 c4 c5 c6 c7 c8 c9 dnext nO T looked lcount oper dout QC :=
    fun QC z => acc_in (ok_fillD (by decide) (ok_fillD (by decide) (ok_advance (e := 0) ht hA0 z)))
  by_cases hin : tkN B a0 w0 = cdN 0
  · have hw0 : w0 = 2 := ((word_iff hA0 (by decide)).mpr hin).1
    obtain ⟨a1, w1, hA1⟩ := at_ex (B := B) (n := n) (e := a0 + 2) (by omega)
    rcases j_ins (I := 0) (F := 0) (names := names) (ops := ops) (next := next) (nO := fun k => if k < 286 then -1 else nO k) ht hA1 (by omega) ⟨nmR_0 (fun x hx => if_pos hx), fun k hk => by omega, fun k hk => by omega⟩ with ⟨c, r, ⟨e2, a2, w2, I, F, nO2, names2, ops2, next2, hA2, he2, hIF, hs2, ec, er⟩ | ⟨f, p, hf, ec, er⟩, hc, hr'⟩
    · have hC1 : ∀ QC : PCa, aFf (nI n) 0 (-1) (nI a2) (nI (eN n a2 w2)) (sti (nmN B a2 w2)) (nI I) (nI F) (nI (I + F)) 0 T nO2 (fun k => if k < 10 then -1 else dnext k) looked lcount oper dout QC → v_X4_accept (nI n) c1 c2 c3 c4 c5 c6 c7 c8 c9 dnext nO T looked lcount oper dout QC := by
        intro QC z
        refine hC0 QC (word_y (i := 0) ht hA0 (by decide) hin hA1 (br_f (by decide) (hc _ ?_)))
        rw [ec]
        exact br_f (by decide) z
      have hR1 : ∀ QR : PRr, v_X6_wantToken (nI n) 0 (-1) (nI e2) T 26214 2 (fun n52 n53 n54 => v_X6_sources (nI n) n52 n53 n54 (nI (I + F)) (nI I) (nI F) T names2 ops2 next2 0 (fun n55 n56 n57 n58 n59 n60 n61 n62 n63 => ∃ f66 : Nat, v_X6_read_b66 (nI n) T QR f66 0 n55 n56 n57 n58 n59 n60 0 q1 q2 q3 q4 q5 q6 q7 q8 q9 q10 q11 n61 n62 n63 outNet moutput mnextNet frm mtaken mop many mtakes)) → v_X6_read t0 (nI n) f0 p0 s1 s2 s3 s4 s5 q1 q2 q3 q4 q5 q6 q7 q8 q9 q10 q11 T names ops next outNet moutput mnextNet frm mtaken mop many mtakes QR := by
        intro QR z
        refine wtok_y (i := 0) (L := 2) (e := 0) ht hA0 hin rfl rfl (hr' _ ?_)
        rw [er]
        exact z
      have haw2 := hA2.aw
      by_cases hff : tkN B a2 w2 = cdN 1
      · have hw2 : w2 = 2 := ((word_iff hA2 (by decide)).mpr hff).1
        obtain ⟨a3, w3, hA3⟩ := at_ex (B := B) (n := n) (e := a2 + 2) (by omega)
        rcases j_ffs ht hA3 hIF hs2 with ⟨c', r', ⟨e4, a4, w4, I4, F4, nO4, names4, ops4, next4, hA4, he4, hIF4, hs4, ec', er'⟩ | ⟨f, p, hf, ec', er'⟩, hc', hr''⟩
        · have hl : lnR I4 F4 (I4 + F4) nO4 names4 oper looked lcount ops4 frm many (fun k => if k < 10 then -1 else dnext k) next4 := by
            refine ⟨hIF4, Nat.le_refl _, by omega, hs4.1, ⟨fun _ => 0, fun _ => 0, fun _ _ => 0, fun k k1 k2 => by omega, fun k k1 k2 => by omega, hs4.2.1, fun k k1 k2 => by omega⟩, fun _ => none, fun k hk => ⟨?_, hs4.2.2 k hk, fun m hm => by cases hm⟩⟩
            exact if_pos (by omega)
          refine JJ.imp (fun QC z => ?_) (fun QR z => ?_) (j_lines (dout := dout) (outNet := outNet) ht 901 0 e4 a4 w4 (I4 + F4) nO4 names4 oper looked lcount ops4 frm many _ next4 (by omega) he4 hA4 hl)
          · refine hC1 QC (word_y (i := 1) ht hA2 (by decide) hff hA3 (br_f (by decide) (hc' _ ?_)))
            rw [ec']
            exact br_f (by decide) ⟨901, z⟩
          · refine hR1 QR (wtok_y (i := 1) (L := 2) ht hA2 hff rfl rfl (hr'' _ ?_))
            rw [er']
            exact ⟨901, z⟩
        · refine rdY_bad (p := p) hf (fun QC z => ?_) (fun QR z => ?_)
          · refine hC1 QC (word_y (i := 1) ht hA2 (by decide) hff hA3 (br_f (by decide) (hc' _ ?_)))
            rw [ec']
            exact fun x1 x2 x3 x4 x5 x6 z1 => br_t rfl (z _ _ _ _ _ _ _ _ _ _ _ _ _)
          · refine hR1 QR (wtok_y (i := 1) (L := 2) ht hA2 hff rfl rfl (hr'' _ ?_))
            rw [er']
            refine fun y1 y2 y3 y4 z1 z2 z3 => ⟨1, ?_⟩
            rw [v_X6_read_b66]
            exact nb_f hf.ne (b89_f hf z)
      · refine rdY_bad (p := nI a2) bd1 (fun QC z => hC1 QC (word_n (i := 1) ht hA2 (by decide) hff (br_t rfl (z _ _ _ _ _ _ _ _ _ _ _ _ _)))) (fun QR z => hR1 QR (wtok_n (i := 1) ht hA2 (by decide) hff rfl (srcs_f bd1 ⟨1, ?_⟩)))
        rw [v_X6_read_b66]
        exact nb_f (by decide) (b89_f bd1 z)
    · refine rdY_bad (p := p) hf (fun QC z => ?_) (fun QR z => ?_)
      · refine hC0 QC (word_y (i := 0) ht hA0 (by decide) hin hA1 (br_f (by decide) (hc _ ?_)))
        rw [ec]
        exact fun x1 x2 x3 x4 x5 x6 z1 => br_t rfl (z _ _ _ _ _ _ _ _ _ _ _ _ _)
      · refine wtok_y (i := 0) (L := 2) (e := 0) ht hA0 hin rfl rfl (hr' _ ?_)
        rw [er]
        refine fun y1 y2 y3 y4 z1 z2 z3 => wtok_f hf (srcs_f hf ⟨1, ?_⟩)
        rw [v_X6_read_b66]
        exact nb_f hf.ne (b89_f hf z)
  · refine rdY_bad (p := nI a0) bd1 (fun QC z => hC0 QC (word_n (i := 0) ht hA0 (by decide) hin (br_t rfl (z _ _ _ _ _ _ _ _ _ _ _ _ _)))) (fun QR z => wtok_n (i := 0) (e := 0) ht hA0 (by decide) hin rfl (srcs_f bd1 (wtok_f bd1 (srcs_f bd1 ⟨1, ?_⟩))))
    rw [v_X6_read_b66]
    exact nb_f (by decide) (b89_f bd1 z)
