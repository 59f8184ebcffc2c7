/-! THE TAPE: words and marks -/
theorem nb_t {c A B : Prop} (h : c) (b : B) : (¬ c → A) ∧ (c → B) := ⟨fun z => absurd h z, fun _ => b⟩
theorem nb_f {c A B : Prop} (h : ¬ c) (a : A) : (¬ c → A) ∧ (c → B) := ⟨fun _ => a, fun z => absurd z h⟩
theorem lt_v {α : Type} {t : α} {P : α → Prop} (h : P t) : ∀ v : α, v = t → P v := fun v e => by rw [e]; exact h
/-- a letter or a figure -/
def wb (b : Nat) : Bool := decide ((97 ≤ b ∧ b ≤ 122) ∨ (48 ≤ b ∧ b ≤ 57))
theorem wb_t {b : Nat} : wb b = true ↔ (97 ≤ b ∧ b ≤ 122) ∨ (48 ≤ b ∧ b ≤ 57) := decide_eq_true_iff
theorem wb_f {b : Nat} : wb b = false ↔ ¬ ((97 ≤ b ∧ b ≤ 122) ∨ (48 ≤ b ∧ b ≤ 57)) := decide_eq_false_iff_not
/-- behind place e the next word or mark stands at a, and w letters and figures with it -/
def At (B : Nat → Nat) (n e a w : Nat) : Prop := e ≤ a ∧ a ≤ n ∧ (∀ i, e ≤ i → i < a → B i ≤ 32) ∧ (a < n → 32 < B a) ∧ (∀ i, i < w → a + i < n ∧ wb (B (a + i)) = true) ∧ (a + w < n → wb (B (a + w)) = false)
theorem at_sk {B : Nat → Nat} {n : Nat} : ∀ d e, n = e + d → ∃ a, e ≤ a ∧ a ≤ n ∧ (∀ i, e ≤ i → i < a → B i ≤ 32) ∧ (a < n → 32 < B a)
  | 0, e, h => ⟨e, Nat.le_refl e, by omega, fun i h1 h2 => by omega, fun h1 => by omega⟩
  | d + 1, e, h => by
    by_cases hb : B e ≤ 32
    · obtain ⟨a, h1, h2, h3, h4⟩ := at_sk (n := n) d (e + 1) (by omega)
      refine ⟨a, by omega, h2, fun i i1 i2 => ?_, h4⟩
      by_cases hi : i = e
      · rw [hi]; exact hb
      · exact h3 i (by omega) i2
    · exact ⟨e, Nat.le_refl e, by omega, fun i h1 h2 => by omega, fun _ => by omega⟩
theorem at_wd {B : Nat → Nat} {n : Nat} : ∀ d a, n = a + d → ∃ w, (∀ i, i < w → a + i < n ∧ wb (B (a + i)) = true) ∧ (a + w < n → wb (B (a + w)) = false)
  | 0, a, h => ⟨0, fun i h1 => by omega, fun h1 => by omega⟩
  | d + 1, a, h => by
    cases hb : wb (B a) with
    | true =>
      obtain ⟨w, h1, h2⟩ := at_wd (n := n) d (a + 1) (by omega)
      refine ⟨w + 1, fun i hi => ?_, fun h3 => ?_⟩
      · by_cases h0 : i = 0
        · rw [h0]; exact ⟨by omega, hb⟩
        · have h4 := h1 (i - 1) (by omega)
          rw [show a + 1 + (i - 1) = a + i by omega] at h4
          exact h4
      · have h4 := h2 (by omega)
        rw [show a + 1 + w = a + (w + 1) by omega] at h4
        exact h4
    | false => exact ⟨0, fun i h1 => by omega, fun _ => hb⟩
theorem at_ex {B : Nat → Nat} {n e : Nat} (h : e ≤ n) : ∃ a w, At B n e a w := by
  obtain ⟨a, h1, h2, h3, h4⟩ := at_sk (B := B) (n := n) (n - e) e (by omega)
  obtain ⟨w, h5, h6⟩ := at_wd (B := B) (n := n) (n - a) a (by omega)
  exact ⟨a, w, h1, h2, h3, h4, h5, h6⟩
theorem At.at {B : Nat → Nat} {n e a w : Nat} (h : At B n e a w) : At B n a a w := ⟨Nat.le_refl a, h.2.1, fun i h1 h2 => by omega, h.2.2.2.1, h.2.2.2.2.1, h.2.2.2.2.2⟩
theorem At.aw {B : Nat → Nat} {n e a w : Nat} (h : At B n e a w) : a + w ≤ n := by
  by_cases h0 : w = 0
  · have := h.2.1; omega
  · have := (h.2.2.2.2.1 (w - 1) (by omega)).1; omega
/-- a mark is no word -/
theorem At.mark {B : Nat → Nat} {n e a w c : Nat} (h : At B n e a w) (hb : B a = c) (hc : wb c = false) : w = 0 := by
  by_cases h0 : w = 0
  · exact h0
  · have h1 := (h.2.2.2.2.1 0 (by omega)).2
    rw [Nat.add_zero, hb, hc] at h1
    exact absurd h1 (by decide)
/-- a tape of n bytes -/
def tp (B : Nat → Nat) (T : Nat → Int32) (n : Nat) : Prop := n ≤ 900 ∧ ∀ i, T i = nI (B i) ∧ B i < 256
/-- where the word or mark ends -/
def eN (n a w : Nat) : Nat := if w = 0 then (if a < n then a + 1 else a) else a + w
theorem eN_le {B : Nat → Nat} {n e a w : Nat} (h : At B n e a w) : a ≤ eN n a w ∧ eN n a w ≤ n := by
  have h1 := h.aw
  have h2 := h.2.1
  unfold eN
  by_cases h0 : w = 0
  · rw [if_pos h0]
    by_cases h3 : a < n
    · rw [if_pos h3]; omega
    · rw [if_neg h3]; omega
  · rw [if_neg h0]; omega
/-- a name's number -/
def nmN (B : Nat → Nat) (a w : Nat) : Option Nat := if w = 1 ∧ 97 ≤ B a then some ((B a - 97) * 11) else if w = 2 ∧ 97 ≤ B a ∧ B (a + 1) < 97 then some ((B a - 97) * 11 + 1 + B (a + 1) - 48) else none
theorem bI_t : bI true = 1 := rfl
theorem bI_f : bI false = 0 := rfl
theorem ok_isWordByte {b : Nat} {Q : Int32 → Prop} (hb : b < 256) (hQ : Q (bI (wb b))) : v_X4_isWordByte (nI b) Q := by
  have y : ((97 ≤ b ∧ b ≤ 122) ∨ (48 ≤ b ∧ b ≤ 57)) → Q 1 := fun h => by rw [wb_t.mpr h] at hQ; exact hQ
  have n : ¬ ((97 ≤ b ∧ b ≤ 122) ∨ (48 ≤ b ∧ b ≤ 57)) → Q 0 := fun h => by rw [wb_f.mpr h] at hQ; exact hQ
  refine pk_lt b 97 (fun h => ?_) (fun h => ?_)
  · exact pk_lt b 48 (fun h1 => n (by omega)) (fun h1 => pk_lt 57 b (fun h2 => n (by omega)) (fun h2 => y (by omega)))
  · exact pk_le b 122 (fun h3 => y (by omega)) (fun h3 => pk_lt b 48 (fun h1 => n (by omega)) (fun h1 => pk_lt 57 b (fun h2 => n (by omega)) (fun h2 => y (by omega))))
theorem ok_nameHere {B : Nat → Nat} {T : Nat → Int32} {n e a w : Nat} {Q : Int32 → Prop} (ht : tp B T n) (h : At B n e a w) (hQ : Q (sti (nmN B a w))) : v_X4_nameHere (nI a) (nI (a + w)) T Q := by
  have h9 := ht.1
  have haw := h.aw
  refine lt_v ?_
  rw [pk_sub (by omega), show a + w - a = w by omega]
  refine pk_lt w 1 (fun h1 => ?_) (fun h1 => ?_)
  · rw [nmN, if_neg (by omega), if_neg (by omega)] at hQ; exact hQ
  have g0 := (h.2.2.2.2.1 0 (by omega)).2
  rw [Nat.add_zero, wb_t] at g0
  refine pk_lt 2 w (fun h2 => ?_) (fun h2 => ?_)
  · rw [nmN, if_neg (by omega), if_neg (by omega)] at hQ; exact hQ
  refine ⟨vp_in_nI (by omega) (by omega), ?_⟩
  rw [nI_clamp (by omega), (ht.2 a).1]
  refine pk_le 97 (B a) (fun h3 => ?_) (fun h3 => ?_)
  · refine ⟨vp_in_nI (by omega) (by omega), ?_⟩
    refine lt_v ?_
    have e1 : (nI (B a) - 97) * 11 = nI ((B a - 97) * 11) := by
      rw [show (97 : Int32) = nI 97 from rfl, pk_sub h3, show (11 : Int32) = nI 11 from rfl, pk_mul]
    rw [e1]
    by_cases h4 : w = 1
    · refine nb_t (by rw [h4]; rfl) ?_
      rw [nmN, if_pos ⟨h4, h3⟩] at hQ; exact hQ
    · have h5 : w = 2 := by omega
      refine nb_f (fun hh => h4 ((nI_eq (b := 1) (by omega) (by decide)).mp hh)) ?_
      have g1 := (h.2.2.2.2.1 1 (by omega)).2
      rw [wb_t] at g1
      rw [show nI a + (1 : Int32) = nI (a + 1) from nI_1 a, nI_clamp (by omega), (ht.2 (a + 1)).1]
      refine ⟨vp_in_nI (by omega) (by omega), ?_⟩
      refine pk_le 97 (B (a + 1)) (fun h6 => ?_) (fun h6 => ?_)
      · rw [nmN, if_neg (by omega), if_neg (by omega)] at hQ; exact hQ
      · refine ⟨vp_in_nI (by omega) (by omega), ?_⟩
        rw [nmN, if_neg (by omega), if_pos ⟨h5, h3, h6⟩] at hQ
        rw [nI_1, nI_add, show (48 : Int32) = nI 48 from rfl, pk_sub (by omega)]
        exact hQ
  · rw [nmN, if_neg (by omega), if_neg (by omega)] at hQ; exact hQ
theorem ok_advance {B : Nat → Nat} {T : Nat → Int32} {n e a w : Nat} {ra rn : Int32} {Q : Int32 → Int32 → Int32 → Prop} (ht : tp B T n) (h : At B n e a w) (hQ : Q (nI a) (nI (eN n a w)) (sti (nmN B a w))) : v_X4_advance (nI n) ra (nI e) rn T Q := by
  have h9 := ht.1
  have haw := h.aw
  have fin : v_X4_advance_b93 (nI n) T Q (nI a) (nI (a + w)) rn := by
    refine ok_nameHere ht h ?_
    by_cases h0 : w = 0
    · refine nb_t (by rw [h0, Nat.add_zero]) ?_
      rw [eN, if_pos h0] at hQ
      rw [h0, Nat.add_zero]
      rw [h0] at hQ
      refine pk_le n a (fun h1 => ?_) (fun h1 => ?_)
      · rw [if_neg (by omega)] at hQ; exact hQ
      · rw [if_pos h1] at hQ
        refine lt_v ?_
        rw [nI_1]; exact hQ
    · refine nb_f (fun hh => h0 (by have := (nI_eq (by omega) (by omega)).mp hh; omega)) ?_
      rw [eN, if_neg h0] at hQ
      exact hQ
  have wl : ∀ (d j : Nat), j ≤ w → w < j + d → v_X4_advance_b54 (nI n) T Q d (nI a) (nI (a + j)) rn := by
    intro d
    induction d with
    | zero => intro j h1 h2; omega
    | succ d ih =>
      intro j h1 h2
      rw [v_X4_advance_b54]
      dsimp only
      rw [nI_clamp (by omega), (ht.2 (a + j)).1]
      by_cases hj : j = w
      · rw [hj]
        refine pk_le n (a + w) (fun _ => fin) (fun h3 => ⟨vp_in_nI (by omega) (by omega), ok_isWordByte (ht.2 _).2 ?_⟩)
        rw [h.2.2.2.2.2 h3]
        exact br_t rfl fin
      · have h3 := h.2.2.2.2.1 j (by omega)
        refine br_f (nI_ge h3.1 (by omega)) ⟨vp_in_nI (by omega) (by omega), ok_isWordByte (ht.2 _).2 ?_⟩
        rw [h3.2]
        refine br_f (by decide) (lt_v ?_)
        rw [nI_1]
        exact ih (j + 1) (by omega) (by omega)
  have sl : ∀ (d j : Nat), e ≤ j → j ≤ a → a < j + d → v_X4_advance_b8 (nI n) T Q d (nI j) (nI e) rn := by
    intro d
    induction d with
    | zero => intro j h1 h2 h3; omega
    | succ d ih =>
      intro j h0 h1 h2
      rw [v_X4_advance_b8]
      dsimp only
      rw [nI_clamp (by omega), (ht.2 j).1]
      by_cases hj : j = a
      · rw [hj]
        have go : v_X4_advance_b46 (nI n) T Q (nI a) (nI e) rn := ⟨w + 1, wl (w + 1) 0 (by omega) (by omega)⟩
        refine pk_le n a (fun _ => go) (fun h3 => ⟨vp_in_nI (by omega) (by omega), ?_⟩)
        exact br_t (nI_lt (a := 32) (h.2.2.2.1 h3) (by have := (ht.2 a).2; omega)) go
      · have h3 := h.2.2.1 j h0 (by omega)
        refine br_f (nI_ge (by omega) (by omega)) ⟨vp_in_nI (by omega) (by omega), ?_⟩
        refine br_f (nI_nlt (a := 32) h3 (by decide)) (lt_v ?_)
        rw [nI_1]
        exact ih (j + 1) (by omega) (by omega) (by omega)
  exact ⟨a - e + 1, sl (a - e + 1) e (Nat.le_refl e) h.1 (by have := h.1; omega)⟩
/-- the byte at a place, if it is on the tape -/
def gt (B : Nat → Nat) (n k : Nat) : Option Nat := if k < n then some (B k) else none
theorem gt_y {B : Nat → Nat} {n k : Nat} (h : k < n) : gt B n k = some (B k) := if_pos h
theorem gt_n {B : Nat → Nat} {n k : Nat} (h : n ≤ k) : gt B n k = none := if_neg (by omega)
theorem ok_byteAt {B : Nat → Nat} {T : Nat → Int32} {n k : Nat} {Q : Int32 → Prop} (ht : tp B T n) (hk : k < 2 ^ 31) (hQ : Q (sti (gt B n k))) : v_X6_byteAt (nI n) T (nI k) Q := by
  have h9 := ht.1
  refine pk_le n k (fun h => ?_) (fun h => ⟨vp_in_nI (by omega) (by omega), ?_⟩)
  · rw [gt_n h] at hQ; exact hQ
  · rw [nI_clamp hk, (ht.2 k).1]
    rw [gt_y h] at hQ; exact hQ
theorem ok_isLetter {o : Option Nat} {Q : Int32 → Prop} (hy : ∀ b, o = some b → 97 ≤ b → b ≤ 122 → Q 1) (hn : (∀ b, o = some b → ¬ (97 ≤ b ∧ b ≤ 122)) → Q 0) (hb : ∀ b, o = some b → b < 256) : v_X6_isLetter (sti o) Q := by
  cases o with
  | none => exact br_t (by decide) (hn (fun b h => by cases h))
  | some b =>
    have h1 := hb b rfl
    refine pk_lt b 97 (fun h => hn (fun c hc => by cases hc; omega)) (fun h => ?_)
    exact pk_lt 122 b (fun h2 => hn (fun c hc => by cases hc; omega)) (fun h2 => hy b rfl h h2)
theorem ok_isFigure {o : Option Nat} {Q : Int32 → Prop} (hy : ∀ b, o = some b → 48 ≤ b → b ≤ 57 → Q 1) (hn : (∀ b, o = some b → ¬ (48 ≤ b ∧ b ≤ 57)) → Q 0) (hb : ∀ b, o = some b → b < 256) : v_X6_isFigure (sti o) Q := by
  cases o with
  | none => exact br_t (by decide) (hn (fun b h => by cases h))
  | some b =>
    have h1 := hb b rfl
    refine pk_lt b 48 (fun h => hn (fun c hc => by cases hc; omega)) (fun h => ?_)
    exact pk_lt 57 b (fun h2 => hn (fun c hc => by cases hc; omega)) (fun h2 => hy b rfl h h2)
theorem gt_lt {B : Nat → Nat} {T : Nat → Int32} {n k b : Nat} (ht : tp B T n) (h : gt B n k = some b) : b < 256 ∧ k < n ∧ B k = b := by
  by_cases hk : k < n
  · rw [gt_y hk] at h; cases h; exact ⟨(ht.2 k).2, hk, rfl⟩
  · rw [gt_n (by omega)] at h; cases h
theorem ok_peek {B : Nat → Nat} {T : Nat → Int32} {n e a w : Nat} {Q : Int32 → Int32 → Prop} (ht : tp B T n) (h : At B n e a w) (hQ : Q (sti (gt B n a)) (nI a)) : v_X6_peek (nI n) (nI e) T Q := by
  have h9 := ht.1
  have ha := h.2.1
  have sl : ∀ (d j : Nat), e ≤ j → j ≤ a → a < j + d → v_X6_peek_b0 (nI n) T Q d (nI j) := by
    intro d
    induction d with
    | zero => intro j h1 h2 h3; omega
    | succ d ih =>
      intro j h0 h1 h2
      rw [v_X6_peek_b0]
      dsimp only
      rw [nI_clamp (by omega), (ht.2 j).1]
      by_cases hj : j = a
      · rw [hj]
        have go : v_X6_peek_b38 (nI n) T Q (nI a) := ok_byteAt ht (by omega) hQ
        refine pk_le n a (fun _ => go) (fun h3 => ⟨vp_in_nI (by omega) (by omega), ?_⟩)
        exact br_t (nI_lt (a := 32) (h.2.2.2.1 h3) (by have := (ht.2 a).2; omega)) go
      · have h3 := h.2.2.1 j h0 (by omega)
        refine br_f (nI_ge (by omega) (by omega)) ⟨vp_in_nI (by omega) (by omega), ?_⟩
        refine br_f (nI_nlt (a := 32) h3 (by decide)) (lt_v ?_)
        rw [nI_1]
        exact ih (j + 1) (by omega) (by omega) (by omega)
  exact ⟨a - e + 1, sl (a - e + 1) e (Nat.le_refl e) h.1 (by have := h.1; omega)⟩
theorem ok_tokenSize {B : Nat → Nat} {T : Nat → Int32} {n e a w : Nat} {Q : Int32 → Prop} (ht : tp B T n) (h : At B n e a w) (hQ : Q (nI w)) : v_X6_tokenSize (nI n) (nI a) T Q := by
  have h9 := ht.1
  have haw := h.aw
  have sl : ∀ (d j : Nat), j ≤ w → w < j + d → v_X6_tokenSize_b2 (nI n) (nI a) T Q d (nI j) := by
    intro d
    induction d with
    | zero => intro j h1 h2; omega
    | succ d ih =>
      intro j h1 h2
      rw [v_X6_tokenSize_b2]
      dsimp only
      rw [nI_add]
      refine ok_byteAt ht (by omega) ?_
      have on : wb (B (a + j)) = true → a + j < n → v_X6_tokenSize_b34 (nI n) (nI a) T Q (v_X6_tokenSize_b2 (nI n) (nI a) T Q d) (nI j) := by
        intro q1 q2
        refine lt_v ?_
        rw [nI_1]
        refine ih (j + 1) ?_ (by omega)
        by_cases hj : j = w
        · rw [hj] at q1 q2
          rw [h.2.2.2.2.2 q2] at q1
          exact absurd q1 (by decide)
        · omega
      refine ok_isLetter (fun b hb b1 b2 => ?_) (fun hl => ?_) (fun b hb => (gt_lt ht hb).1)
      · obtain ⟨g1, g2, g3⟩ := gt_lt ht hb
        exact nb_f (by decide) (on (by rw [g3]; exact wb_t.mpr (by omega)) g2)
      · refine nb_t rfl (ok_byteAt ht (by omega) ?_)
        refine ok_isFigure (fun b hb b1 b2 => ?_) (fun hf => ?_) (fun b hb => (gt_lt ht hb).1)
        · obtain ⟨g1, g2, g3⟩ := gt_lt ht hb
          exact br_f (by decide) (on (by rw [g3]; exact wb_t.mpr (by omega)) g2)
        · refine br_t rfl ?_
          by_cases hj : j = w
          · rw [hj]; exact hQ
          · have h3 := h.2.2.2.2.1 j (by omega)
            have h4 := wb_t.mp h3.2
            have h5 := hl _ (gt_y h3.1)
            have h6 := hf _ (gt_y h3.1)
            omega
  exact ⟨w + 1, sl (w + 1) 0 (by omega) (by omega)⟩
