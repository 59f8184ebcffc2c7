/-! WORDS AND OPERATIONS -/
def lit_bytN : List (List Nat) := [[105, 110], [102, 102], [111, 117, 116], [97, 110, 100, 32, 111, 114, 32, 32, 120, 111, 114, 32, 110, 97, 110, 100, 110, 111, 114, 32, 110, 111, 116, 32, 98, 117, 102, 32, 109, 117, 120, 32]]
def lcN (i j : Nat) : Nat := (lit_bytN.getD i []).getD j 0
theorem lit_lcN : ∀ i, i < 4 → ∀ j, j < lit_len.getD i 0 → lit_ch i j = nI (lcN i j) ∧ lcN i j < 256 := by decide +kernel
theorem lit_l3 : ∀ i, i < 3 → 2 ≤ lit_len.getD i 0 ∧ lit_len.getD i 0 ≤ 3 := by decide
def cdN (i : Nat) : Nat := [26990, 26214, 7304564].getD i 0
theorem word_iff {B : Nat → Nat} {n e a w i : Nat} (h : At B n e a w) (hi : i < 3) : (w = lit_len.getD i 0 ∧ ∀ j, j < w → B (a + j) = lcN i j) ↔ tkN B a w = cdN i := by
  have b0 : 0 < w → 48 ≤ B (a + 0) ∧ B (a + 0) ≤ 122 := fun q => h.by q
  have b1 : 1 < w → 48 ≤ B (a + 1) ∧ B (a + 1) ≤ 122 := fun q => h.by q
  have b2 : 2 < w → 48 ≤ B (a + 2) ∧ B (a + 2) ≤ 122 := fun q => h.by q
  have b3 : 3 < w → 48 ≤ B (a + 3) ∧ B (a + 3) ≤ 122 := fun q => h.by q
  have hi3 : i = 0 ∨ i = 1 ∨ i = 2 := by omega
  constructor
  · rintro ⟨hw, hb⟩
    rcases hi3 with q | q | q <;> subst q
    · have e1 : w = 2 := hw
      have q0 : B (a + 0) = 105 := hb 0 (by omega)
      have q1 : B (a + 1) = 110 := hb 1 (by omega)
      rw [tkN, if_pos (by omega), e1]
      simp only [pkN, q0, q1]
      rfl
    · have e1 : w = 2 := hw
      have q0 : B (a + 0) = 102 := hb 0 (by omega)
      have q1 : B (a + 1) = 102 := hb 1 (by omega)
      rw [tkN, if_pos (by omega), e1]
      simp only [pkN, q0, q1]
      rfl
    · have e1 : w = 3 := hw
      have q0 : B (a + 0) = 111 := hb 0 (by omega)
      have q1 : B (a + 1) = 117 := hb 1 (by omega)
      have q2 : B (a + 2) = 116 := hb 2 (by omega)
      rw [tkN, if_pos (by omega), e1]
      simp only [pkN, q0, q1, q2]
      rfl
  · intro hk
    by_cases hw : w ≤ 4
    · rw [tkN, if_pos hw] at hk
      have hw5 : w = 0 ∨ w = 1 ∨ w = 2 ∨ w = 3 ∨ w = 4 := by omega
      rcases hi3 with q | q | q <;> subst q
      · rw [show cdN 0 = 26990 from rfl] at hk
        have e1 : w = 2 ∧ B (a + 0) = 105 ∧ B (a + 1) = 110 := by
          rcases hw5 with q | q | q | q | q <;> subst q <;> simp only [pkN] at hk <;> omega
        refine ⟨e1.1, fun j hj => ?_⟩
        have : j = 0 ∨ j = 1 := by omega
        rcases this with q | q <;> subst q
        · exact e1.2.1
        · exact e1.2.2
      · rw [show cdN 1 = 26214 from rfl] at hk
        have e1 : w = 2 ∧ B (a + 0) = 102 ∧ B (a + 1) = 102 := by
          rcases hw5 with q | q | q | q | q <;> subst q <;> simp only [pkN] at hk <;> omega
        refine ⟨e1.1, fun j hj => ?_⟩
        have : j = 0 ∨ j = 1 := by omega
        rcases this with q | q <;> subst q
        · exact e1.2.1
        · exact e1.2.2
      · rw [show cdN 2 = 7304564 from rfl] at hk
        have e1 : w = 3 ∧ B (a + 0) = 111 ∧ B (a + 1) = 117 ∧ B (a + 2) = 116 := by
          rcases hw5 with q | q | q | q | q <;> subst q <;> simp only [pkN] at hk <;> omega
        refine ⟨e1.1, fun j hj => ?_⟩
        have : j = 0 ∨ j = 1 ∨ j = 2 := by omega
        rcases this with q | q | q <;> subst q
        · exact e1.2.1
        · exact e1.2.2.1
        · exact e1.2.2.2
    · rw [tkN, if_neg hw] at hk
      rcases hi3 with q | q | q <;> subst q <;> exact absurd hk (by decide)
theorem ok_isWord {B : Nat → Nat} {T : Nat → Int32} {n e a w i : Nat} {Q : Int32 → Prop} (ht : tp B T n) (h : At B n e a w) (hi : i < 3) (hy : tkN B a w = cdN i → Q 1) (hn : tkN B a w ≠ cdN i → Q 0) : v_X4_isWord (nI n) (nI a) (nI (eN n a w)) T i Q := by
  have h9 := ht.1
  have haw := h.aw
  have hl := lit_l3 i hi
  have hE := eN_le h
  refine ⟨by omega, ?_⟩
  rw [pk_sub hE.1]
  refine pk_eq (eN n a w - a) (lit_len.getD i 0) (fun he => ?_) (fun he => hn (fun q => he ?_))
  · have hw : w = lit_len.getD i 0 := by
      unfold eN at he
      by_cases h0 : w = 0
      · rw [if_pos h0] at he
        by_cases h1 : a < n
        · rw [if_pos h1] at he; omega
        · rw [if_neg h1] at he; omega
      · rw [if_neg h0] at he; omega
    have loop : ∀ (d j : Nat), j ≤ w → w < j + d → (∀ k, k < j → B (a + k) = lcN i k) → v_X4_isWord_b20 (nI n) (nI a) (nI (eN n a w)) T Q d i (nI j) := by
      intro d
      induction d with
      | zero => intro j h1 h2; omega
      | succ d ih =>
        intro j g1 g2 g3
        rw [v_X4_isWord_b20]
        dsimp only
        rw [nI_add, nI_clamp (by omega), (ht.2 (a + j)).1]
        refine ⟨by omega, ?_⟩
        rw [← hw]
        refine pk_le w j (fun q => ?_) (fun q => ?_)
        · exact hy ((word_iff h hi).mp ⟨hw, fun k hk => g3 k (by omega)⟩)
        · refine br_f (nI_ge (by omega) (by omega)) ⟨vp_in_nI (by omega) (by omega), by omega, ?_, ?_⟩
          · rw [← hw]; exact vp_in_nI q (by omega)
          · rw [nI_clamp (by omega), (lit_lcN i (by omega) j (by omega)).1]
            have hc := (lit_lcN i (by omega) j (by omega)).2
            have hb := (ht.2 (a + j)).2
            refine pk_eq (B (a + j)) (lcN i j) (fun e1 => lt_v ?_) (fun e1 => hn (fun q1 => e1 (((word_iff h hi).mpr q1).2 j q)))
            rw [nI_1]
            refine ih (j + 1) (by omega) (by omega) (fun k hk => ?_)
            by_cases ek : k = j
            · rw [ek]; exact e1
            · exact g3 k (by omega)
    exact ⟨w + 1, loop (w + 1) 0 (by omega) (by omega) (fun k hk => by omega)⟩
  · have hw := ((word_iff h hi).mpr q).1
    rw [eN, if_neg (by omega)]; omega
/-- the operations' words as the reference has them -/
def opc (k : Nat) : Nat := [6385252, 28530, 7892850, 1851879012, 7237490, 7237492, 6452582, 7173496].getD k 0
theorem i8 {k : Nat} (h : k < 8) : k = 0 ∨ k = 1 ∨ k = 2 ∨ k = 3 ∨ k = 4 ∨ k = 5 ∨ k = 6 ∨ k = 7 := by omega
/-- byte j of a word, blanks behind it -/
def padN (B : Nat → Nat) (a w j : Nat) : Nat := if j < w then B (a + j) else 32
theorem pad_or (B : Nat → Nat) (a w j : Nat) : (j < w ∧ padN B a w j = B (a + j)) ∨ (w ≤ j ∧ padN B a w j = 32) := by
  unfold padN
  by_cases h : j < w
  · rw [if_pos h]; exact Or.inl ⟨h, rfl⟩
  · rw [if_neg h]; exact Or.inr ⟨by omega, rfl⟩
theorem op_iff {B : Nat → Nat} {n e a w k : Nat} (h : At B n e a w) (hw1 : 1 ≤ w) (hk : k < 8) : (w ≤ 4 ∧ ∀ j, j < 4 → padN B a w j = lcN 3 (4 * k + j)) ↔ tkN B a w = opc k := by
  have b0 : 0 < w → 48 ≤ B (a + 0) ∧ B (a + 0) ≤ 122 := fun q => h.by q
  have b1 : 1 < w → 48 ≤ B (a + 1) ∧ B (a + 1) ≤ 122 := fun q => h.by q
  have b2 : 2 < w → 48 ≤ B (a + 2) ∧ B (a + 2) ≤ 122 := fun q => h.by q
  have b3 : 3 < w → 48 ≤ B (a + 3) ∧ B (a + 3) ≤ 122 := fun q => h.by q
  have p0 := pad_or B a w 0
  have p1 := pad_or B a w 1
  have p2 := pad_or B a w 2
  have p3 := pad_or B a w 3
  have four : (∀ j, j < 4 → padN B a w j = lcN 3 (4 * k + j)) ↔ (padN B a w 0 = lcN 3 (4 * k) ∧ padN B a w 1 = lcN 3 (4 * k + 1) ∧ padN B a w 2 = lcN 3 (4 * k + 2) ∧ padN B a w 3 = lcN 3 (4 * k + 3)) := by
    constructor
    · intro q; exact ⟨q 0 (by decide), q 1 (by decide), q 2 (by decide), q 3 (by decide)⟩
    · rintro ⟨q0, q1, q2, q3⟩ j hj
      have : j = 0 ∨ j = 1 ∨ j = 2 ∨ j = 3 := by omega
      rcases this with q | q | q | q <;> subst q
      · exact q0
      · exact q1
      · exact q2
      · exact q3
  rw [four]
  by_cases hw : w ≤ 4
  · have hw5 : w = 1 ∨ w = 2 ∨ w = 3 ∨ w = 4 := by omega
    rw [tkN, if_pos hw]
    rcases i8 hk with q | q | q | q | q | q | q | q <;> subst q
    · rw [show lcN 3 (4 * 0) = 97 from rfl, show lcN 3 (4 * 0 + 1) = 110 from rfl, show lcN 3 (4 * 0 + 2) = 100 from rfl, show lcN 3 (4 * 0 + 3) = 32 from rfl, show opc 0 = 6385252 from rfl]
      rcases hw5 with q | q | q | q <;> subst q <;> simp only [pkN] <;> omega
    · rw [show lcN 3 (4 * 1) = 111 from rfl, show lcN 3 (4 * 1 + 1) = 114 from rfl, show lcN 3 (4 * 1 + 2) = 32 from rfl, show lcN 3 (4 * 1 + 3) = 32 from rfl, show opc 1 = 28530 from rfl]
      rcases hw5 with q | q | q | q <;> subst q <;> simp only [pkN] <;> omega
    · rw [show lcN 3 (4 * 2) = 120 from rfl, show lcN 3 (4 * 2 + 1) = 111 from rfl, show lcN 3 (4 * 2 + 2) = 114 from rfl, show lcN 3 (4 * 2 + 3) = 32 from rfl, show opc 2 = 7892850 from rfl]
      rcases hw5 with q | q | q | q <;> subst q <;> simp only [pkN] <;> omega
    · rw [show lcN 3 (4 * 3) = 110 from rfl, show lcN 3 (4 * 3 + 1) = 97 from rfl, show lcN 3 (4 * 3 + 2) = 110 from rfl, show lcN 3 (4 * 3 + 3) = 100 from rfl, show opc 3 = 1851879012 from rfl]
      rcases hw5 with q | q | q | q <;> subst q <;> simp only [pkN] <;> omega
    · rw [show lcN 3 (4 * 4) = 110 from rfl, show lcN 3 (4 * 4 + 1) = 111 from rfl, show lcN 3 (4 * 4 + 2) = 114 from rfl, show lcN 3 (4 * 4 + 3) = 32 from rfl, show opc 4 = 7237490 from rfl]
      rcases hw5 with q | q | q | q <;> subst q <;> simp only [pkN] <;> omega
    · rw [show lcN 3 (4 * 5) = 110 from rfl, show lcN 3 (4 * 5 + 1) = 111 from rfl, show lcN 3 (4 * 5 + 2) = 116 from rfl, show lcN 3 (4 * 5 + 3) = 32 from rfl, show opc 5 = 7237492 from rfl]
      rcases hw5 with q | q | q | q <;> subst q <;> simp only [pkN] <;> omega
    · rw [show lcN 3 (4 * 6) = 98 from rfl, show lcN 3 (4 * 6 + 1) = 117 from rfl, show lcN 3 (4 * 6 + 2) = 102 from rfl, show lcN 3 (4 * 6 + 3) = 32 from rfl, show opc 6 = 6452582 from rfl]
      rcases hw5 with q | q | q | q <;> subst q <;> simp only [pkN] <;> omega
    · rw [show lcN 3 (4 * 7) = 109 from rfl, show lcN 3 (4 * 7 + 1) = 117 from rfl, show lcN 3 (4 * 7 + 2) = 120 from rfl, show lcN 3 (4 * 7 + 3) = 32 from rfl, show opc 7 = 7173496 from rfl]
      rcases hw5 with q | q | q | q <;> subst q <;> simp only [pkN] <;> omega
  · rw [tkN, if_neg hw]
    constructor
    · rintro ⟨q, _⟩; exact absurd q hw
    · intro q
      rcases i8 hk with q1 | q1 | q1 | q1 | q1 | q1 | q1 | q1 <;> subst q1 <;> exact absurd q (by decide)
/-- an operation's word begins with a letter -/
theorem op_letter {B : Nat → Nat} {n e a w k : Nat} (h : At B n e a w) (hk : k < 8) (q : tkN B a w = opc k) : 1 ≤ w ∧ a < n ∧ 97 ≤ B a ∧ B a ≤ 122 := by
  have hw : 1 ≤ w := by
    by_cases h0 : w = 0
    · subst h0
      rw [show tkN B a 0 = 0 from rfl] at q
      rcases i8 hk with q1 | q1 | q1 | q1 | q1 | q1 | q1 | q1 <;> subst q1 <;> exact absurd q (by decide)
    · omega
  have h1 := h.2.2.2.2.1 0 (by omega)
  have h2 := ((op_iff h hw hk).mpr q).2 0 (by decide)
  rw [padN, if_pos (by omega)] at h2
  rw [Nat.add_zero] at h1 h2
  refine ⟨hw, h1.1, ?_⟩
  rw [h2]
  rcases i8 hk with q1 | q1 | q1 | q1 | q1 | q1 | q1 | q1 <;> subst q1 <;> decide
theorem ok_operation {B : Nat → Nat} {T : Nat → Int32} {n e a w : Nat} {Q : Int32 → Int32 → Prop} (ht : tp B T n) (h : At B n e a w) (hy : ∀ k, k < 8 → tkN B a w = opc k → Q (nI k) (nI a)) (hn : (∀ k, k < 8 → tkN B a w ≠ opc k) → Q (-1) (nI a)) : v_X6_operation (nI n) (nI e) T Q := by
  refine ok_token ht h ?_
  have hl := tkN_lt h
  refine pk_eq (tkN B a w) 28530 (fun q => hy 1 (by decide) q) (fun q1 => ?_) rfl rfl hl (by decide)
  refine pk_eq (tkN B a w) 6385252 (fun q => hy 0 (by decide) q) (fun q0 => ?_) rfl rfl hl (by decide)
  refine pk_eq (tkN B a w) 6452582 (fun q => hy 6 (by decide) q) (fun q6 => ?_) rfl rfl hl (by decide)
  refine pk_eq (tkN B a w) 7173496 (fun q => hy 7 (by decide) q) (fun q7 => ?_) rfl rfl hl (by decide)
  refine pk_eq (tkN B a w) 7237490 (fun q => hy 4 (by decide) q) (fun q4 => ?_) rfl rfl hl (by decide)
  refine pk_eq (tkN B a w) 7237492 (fun q => hy 5 (by decide) q) (fun q5 => ?_) rfl rfl hl (by decide)
  refine pk_eq (tkN B a w) 7892850 (fun q => hy 2 (by decide) q) (fun q2 => ?_) rfl rfl hl (by decide)
  refine pk_eq (tkN B a w) 1851879012 (fun q => hy 3 (by decide) q) (fun q3 => ?_) rfl rfl hl (by decide)
  refine hn (fun k hk => ?_)
  rcases i8 hk with q | q | q | q | q | q | q | q <;> subst q <;> assumption
theorem ok_isOperation {B : Nat → Nat} {T : Nat → Int32} {n e a w k : Nat} {Q : Int32 → Prop} (ht : tp B T n) (h : At B n e a w) (hw1 : 1 ≤ w) (hk : k < 8) (hy : tkN B a w = opc k → Q 1) (hn : tkN B a w ≠ opc k → Q 0) : v_X4_isOperation (nI a) (nI (eN n a w)) T (nI k) Q := by
  have h9 := ht.1
  have haw := h.aw
  refine lt_v ?_
  rw [eN, if_neg (by omega), pk_sub (by omega), show a + w - a = w by omega]
  refine pk_le w 4 (fun hw => ?_) (fun hw => hn (fun q => by have := ((op_iff h hw1 hk).mpr q).1; omega))
  have loop : ∀ (d j : Nat), j ≤ 4 → 4 < j + d → (∀ i, i < j → padN B a w i = lcN 3 (4 * k + i)) → v_X4_isOperation_b19 (nI a) (nI (a + w)) T Q d (nI k) (nI w) (nI j) := by
    intro d
    induction d with
    | zero => intro j h1 h2; omega
    | succ d ih =>
      intro j g1 g2 g3
      rw [v_X4_isOperation_b19]
      dsimp only
      rw [nI_add, nI_clamp (by omega), (ht.2 (a + j)).1]
      refine pk_le 4 j (fun q => ?_) (fun q => ?_)
      · exact hy ((op_iff h hw1 hk).mp ⟨hw, fun i hi => g3 i (by omega)⟩)
      have go : ∀ b, b < 256 → padN B a w j = b → v_X4_isOperation_b45 (nI a) (nI (a + w)) T Q (v_X4_isOperation_b19 (nI a) (nI (a + w)) T Q d) (nI k) (nI w) (nI j) (nI b) := by
        intro b hb eb
        have hc := lit_lcN 3 (by decide) (4 * k + j) (show 4 * k + j < 32 by omega)
        refine ⟨by decide, ?_, ?_⟩
        · rw [nI_mul4, nI_add]; exact vp_in_nI (show 4 * k + j < 32 by omega) (by decide)
        · rw [nI_mul4, nI_add, nI_clamp (by omega), hc.1]
          refine pk_eq b (lcN 3 (4 * k + j)) (fun e1 => lt_v ?_) (fun e1 => hn (fun q1 => e1 (by rw [← eb]; exact ((op_iff h hw1 hk).mpr q1).2 j q))) rfl rfl (by omega) (by omega)
          rw [nI_1]
          refine ih (j + 1) (by omega) (by omega) (fun i hi => ?_)
          by_cases ei : i = j
          · rw [ei, eb]; exact e1
          · exact g3 i (by omega)
      refine pk_le w j (fun q1 => ?_) (fun q1 => ⟨vp_in_nI (by omega) (by omega), ?_⟩)
      · exact go 32 (by decide) (by rw [padN, if_neg (by omega)])
      · exact go (B (a + j)) (ht.2 _).2 (by rw [padN, if_pos q1])
  exact ⟨5, loop 5 0 (by omega) (by omega) (fun k hk => by omega)⟩
theorem ok_operationHere {B : Nat → Nat} {T : Nat → Int32} {n e a w : Nat} {rf rp : Int32} {Q : Int32 → Int32 → Int32 → Prop} (ht : tp B T n) (h : At B n e a w) (h1 : ¬ (a < n ∧ 97 ≤ B a ∧ B a ≤ 122) → Q (-1) 1 (nI a)) (h3 : a < n → 97 ≤ B a → B a ≤ 122 → (∀ k, k < 8 → tkN B a w ≠ opc k) → Q (-1) 3 (nI a)) (hy : ∀ k, k < 8 → tkN B a w = opc k → Q (nI k) rf rp) : v_X4_operationHere (nI n) rf rp (nI a) (nI (eN n a w)) T Q := by
  have h9 := ht.1
  have haw := h.aw
  have hb := (ht.2 a).2
  have r1 : ¬ (a < n ∧ 97 ≤ B a ∧ B a ≤ 122) → v_X4_operationHere_b39 (nI n) (nI a) (nI (eN n a w)) T Q rf rp := h1
  unfold v_X4_operationHere
  rw [nI_clamp (by omega), (ht.2 a).1]
  refine pk_le n a (fun q => r1 (by omega)) (fun q => ⟨vp_in_nI (by omega) (by omega), ?_⟩)
  refine pk_lt (B a) 97 (fun q1 => r1 (by omega)) (fun q1 => ⟨vp_in_nI (by omega) (by omega), ?_⟩)
  refine pk_le (B a) 122 (fun q2 => ?_) (fun q2 => r1 (by omega))
  have hw1 : 1 ≤ w := by
    by_cases h0 : w = 0
    · have := h.2.2.2.2.2 (by omega)
      rw [h0, Nat.add_zero, wb_f] at this
      omega
    · omega
  have loop : ∀ (d k : Nat), k ≤ 8 → 8 < k + d → (∀ j, j < k → tkN B a w ≠ opc j) → v_X4_operationHere_b53 (nI n) (nI a) (nI (eN n a w)) T Q d rf rp (nI k) := by
    intro d
    induction d with
    | zero => intro j h1 h2; omega
    | succ d ih =>
      intro k g1 g2 g3
      rw [v_X4_operationHere_b53]
      dsimp only
      refine pk_le 8 k (fun q3 => h3 q q1 q2 (fun j hj => g3 j (by omega))) (fun q3 => ?_)
      refine ok_isOperation ht h hw1 q3 (fun q4 => br_f (by decide) (hy k q3 q4)) (fun q4 => br_t rfl (lt_v ?_))
      rw [nI_1]
      refine ih (k + 1) (by omega) (by omega) (fun j hj => ?_)
      by_cases ej : j = k
      · rw [ej]; exact q4
      · exact g3 j (by omega)
  exact ⟨9, loop 9 0 (by omega) (by omega) (fun k hk => by omega)⟩
