/-! STEPS OF BOTH READERS -/
theorem nar0 : narrow .boolean (.int (0 : Int32)) = .int 0 := by decide
theorem nar1 : narrow .boolean (.int (1 : Int32)) = .int 1 := by decide
section RSTEP
variable {B : Nat → Nat} {T : Nat → Int32} {n e a w a' w' : Nat} {x rf rp ra re rn : Int32}
theorem ok_isMark {Q : Int32 → Prop} (ht : tp B T n) (h : At B n e a w) (c : Nat) (hy : a < n → B a = c → Q 1) (hn : ¬ (a < n ∧ B a = c) → Q 0) (hx : x = nI c := by rfl) (hc : c < 2 ^ 31 := by decide) : v_X4_isMark (nI n) (nI a) T x Q := by
  have h9 := ht.1
  have ha := h.2.1
  have hb := (ht.2 a).2
  unfold v_X4_isMark
  rw [nI_clamp (by omega), (ht.2 a).1]
  refine pk_le n a (fun q => hn (by omega)) (fun q => ⟨vp_in_nI (by omega) (by omega), ?_⟩)
  by_cases hm : B a = c
  · exact nb_t (by rw [hm, hx]) (hy q hm)
  · exact nb_f (fun q1 => hm ((nI_eq (by omega) hc).mp (q1.trans hx))) (hn (fun q1 => hm q1.2))
theorem eN_mark {c : Nat} (h : At B n e a w) (h1 : a < n) (h2 : B a = c) (hc : wb c = false) : eN n a w = a + 1 := by
  rw [eN, if_pos (h.mark h2 hc), if_pos h1]
theorem takes_y {Q : Int32 → Int32 → Int32 → Int32 → Prop} (ht : tp B T n) (h : At B n e a w) (c : Nat) (h1 : a < n) (h2 : B a = c) (h' : At B n (a + 1) a' w') (hQ : Q 1 (nI a') (nI (eN n a' w')) (sti (nmN B a' w'))) (hx : x = nI c := by rfl) (hc : wb c = false := by decide) (hc2 : c < 2 ^ 31 := by decide) : v_X4_takes (nI n) (nI a) (nI (eN n a w)) (sti (nmN B a w)) T x Q := by
  refine ok_isMark ht h c (fun _ _ => nb_f (by decide) ?_) (fun q => absurd ⟨h1, h2⟩ q) hx hc2
  rw [eN_mark h h1 h2 hc]
  exact ok_advance ht h' hQ
theorem takes_n {Q : Int32 → Int32 → Int32 → Int32 → Prop} (ht : tp B T n) (h : At B n e a w) (c : Nat) (h1 : ¬ (a < n ∧ B a = c)) (hQ : Q 0 (nI a) re rn) (hx : x = nI c := by rfl) (hc2 : c < 2 ^ 31 := by decide) : v_X4_takes (nI n) (nI a) re rn T x Q :=
  ok_isMark ht h c (fun q1 q2 => absurd ⟨q1, q2⟩ h1) (fun _ => nb_t rfl hQ) hx hc2
theorem mark_y {Q : Int32 → Int32 → Int32 → Int32 → Int32 → Int32 → Prop} (ht : tp B T n) (h : At B n e a w) (c : Nat) (h1 : a < n) (h2 : B a = c) (h' : At B n (a + 1) a' w') (hQ : Q 1 rf rp (nI a') (nI (eN n a' w')) (sti (nmN B a' w'))) (hx : x = nI c := by rfl) (hc : wb c = false := by decide) (hc2 : c < 2 ^ 31 := by decide) : v_X4_mark (nI n) rf rp (nI a) (nI (eN n a w)) (sti (nmN B a w)) T x Q :=
  takes_y ht h c h1 h2 h' (nb_f (by decide) hQ) hx hc hc2
theorem mark_n {Q : Int32 → Int32 → Int32 → Int32 → Int32 → Int32 → Prop} (ht : tp B T n) (h : At B n e a w) (c : Nat) (h1 : ¬ (a < n ∧ B a = c)) (hQ : Q 0 1 (nI a) (nI a) re rn) (hx : x = nI c := by rfl) (hc2 : c < 2 ^ 31 := by decide) : v_X4_mark (nI n) rf rp (nI a) re rn T x Q :=
  takes_n ht h c h1 (nb_t rfl (br_t rfl hQ)) hx hc2
theorem want_y {Q : Int32 → Int32 → Int32 → Prop} (ht : tp B T n) (h : At B n e a w) (c : Nat) (h1 : a < n) (h2 : B a = c) (hQ : Q 0 rp (nI (a + 1))) (hx : x = nI c := by rfl) : v_X6_want (nI n) 0 rp (nI e) T x Q := by
  refine nb_t rfl (ok_peek ht h ?_)
  rw [gt_y h1]
  refine nb_t (by rw [h2, hx]; rfl) (lt_v ?_)
  rw [nI_1]
  exact hQ
theorem gt_is {c : Nat} (ht : tp B T n) (hc : c < 2 ^ 31) : sti (gt B n a) = nI c ↔ a < n ∧ B a = c := by
  have hb := (ht.2 a).2
  by_cases h : a < n
  · rw [gt_y h]
    refine ⟨fun q => ⟨h, (nI_eq (by omega) hc).mp q⟩, fun q => by rw [q.2]; rfl⟩
  · rw [gt_n (by omega)]
    refine ⟨fun q => absurd q.symm (sti_ne hc), fun q => absurd q.1 h⟩
theorem want_n {Q : Int32 → Int32 → Int32 → Prop} (ht : tp B T n) (h : At B n e a w) (c : Nat) (h1 : ¬ (a < n ∧ B a = c)) (hQ : Q 1 (nI a) (nI a)) (hx : x = nI c := by rfl) (hc2 : c < 2 ^ 31 := by decide) : v_X6_want (nI n) 0 rp (nI e) T x Q := by
  refine nb_t rfl (ok_peek ht h (nb_f ?_ (nb_t rfl hQ)))
  rw [hx, gt_is ht hc2]
  exact h1
/-- a fault's number -/
def bdF (f : Int32) : Prop := f = 1 ∨ f = 2 ∨ f = 3 ∨ f = 4
theorem bdF.ne {f : Int32} (h : bdF f) : ¬ f = 0 := by rcases h with q | q | q | q <;> rw [q] <;> decide
theorem bdF.nle {f : Int32} (h : bdF f) : ¬ f ≤ 0 := by rcases h with q | q | q | q <;> rw [q] <;> decide
theorem want_f {sz at0 : Int32} {Q : Int32 → Int32 → Int32 → Prop} (h : bdF rf) (hQ : Q rf rp at0) : v_X6_want sz rf rp at0 T x Q := nb_f h.ne hQ
theorem wtok_y {v len : Int32} {Q : Int32 → Int32 → Int32 → Prop} {i L : Nat} (ht : tp B T n) (h : At B n e a w) (h1 : tkN B a w = cdN i) (hv : v = nI (cdN i)) (hL : len = nI L) (hQ : Q 0 rp (nI (a + L))) : v_X6_wantToken (nI n) 0 rp (nI e) T v len Q := by
  refine nb_t rfl (ok_token ht h (nb_t (by rw [h1, hv]) (lt_v ?_)))
  rw [hL, nI_add]
  exact hQ
theorem cdN_lt : ∀ i, i < 3 → cdN i < 2 ^ 31 := by decide
theorem wtok_n {v len : Int32} {Q : Int32 → Int32 → Int32 → Prop} {i : Nat} (ht : tp B T n) (h : At B n e a w) (hi : i < 3) (h1 : tkN B a w ≠ cdN i) (hv : v = nI (cdN i)) (hQ : Q 1 (nI a) (nI a)) : v_X6_wantToken (nI n) 0 rp (nI e) T v len Q :=
  nb_t rfl (ok_token ht h (nb_f (fun q => h1 ((nI_eq (tkN_lt h) (cdN_lt i hi)).mp (q.trans hv))) (nb_t rfl hQ)))
theorem wtok_f {sz at0 v len : Int32} {Q : Int32 → Int32 → Int32 → Prop} (h : bdF rf) (hQ : Q rf rp at0) : v_X6_wantToken sz rf rp at0 T v len Q := nb_f h.ne hQ
theorem word_y {Q : Int32 → Int32 → Int32 → Int32 → Int32 → Int32 → Prop} {i : Nat} (ht : tp B T n) (h : At B n e a w) (hi : i < 3) (h1 : tkN B a w = cdN i) (h' : At B n (a + lit_len.getD i 0) a' w') (hQ : Q 1 rf rp (nI a') (nI (eN n a' w')) (sti (nmN B a' w'))) : v_X4_word (nI n) rf rp (nI a) (nI (eN n a w)) (sti (nmN B a w)) T i Q := by
  have hw := ((word_iff h hi).mpr h1).1
  have hl := lit_l3 i hi
  refine ok_isWord ht h hi (fun _ => nb_f (by decide) ?_) (fun q => absurd h1 q)
  rw [show eN n a w = a + lit_len.getD i 0 by rw [eN, if_neg (by omega), hw]]
  exact ok_advance ht h' hQ
theorem word_n {Q : Int32 → Int32 → Int32 → Int32 → Int32 → Int32 → Prop} {i : Nat} (ht : tp B T n) (h : At B n e a w) (hi : i < 3) (h1 : tkN B a w ≠ cdN i) (hQ : Q 0 1 (nI a) (nI a) (nI (eN n a w)) rn) : v_X4_word (nI n) rf rp (nI a) (nI (eN n a w)) rn T i Q :=
  ok_isWord ht h hi (fun q => absurd q h1) (fun _ => nb_t rfl ⟨nar0, hQ⟩)
theorem giv_1 {nO : Nat → Int32} {Q : Int32 → Int32 → Int32 → Prop} (hQ : Q 0 1 ra) : v_X4_isGiven rf rp ra (-1) nO Q := nb_t rfl ⟨nar0, hQ⟩
theorem giv_2 {nO : Nat → Int32} {Q : Int32 → Int32 → Int32 → Prop} {y : Nat} (hy : y < 286) (hg : nO y = -1) (hQ : Q 0 2 ra) : v_X4_isGiven rf rp ra (nI y) nO Q := by
  refine nb_f (sti_ne (n := y) (by omega)) ⟨vp_in_nI hy (by decide), ?_⟩
  rw [nI_clamp (by omega)]
  exact nb_t hg (br_t rfl hQ)
theorem giv_y {nO : Nat → Int32} {Q : Int32 → Int32 → Int32 → Prop} {y k : Nat} (hy : y < 286) (hk : k < 2 ^ 31) (hg : nO y = nI k) (hQ : Q 1 rf rp) : v_X4_isGiven rf rp ra (nI y) nO Q := by
  refine nb_f (sti_ne (n := y) (by omega)) ⟨vp_in_nI hy (by decide), ?_⟩
  rw [nI_clamp (by omega), hg]
  exact nb_f (sti_ne (n := k) hk) hQ
theorem may_y {nO : Nat → Int32} {Q : Int32 → Int32 → Int32 → Prop} {y N M : Nat} {wh mo : Int32} (hy : y < 286) (hg : nO y = -1) (hN : N < M) (hM : M < 2 ^ 31) (hm : mo = nI M) (hQ : Q 1 rf rp) : v_X4_mayGive rf rp (nI N) nO (nI y) wh mo Q := by
  refine ⟨vp_in_nI hy (by decide), ?_⟩
  rw [nI_clamp (by omega), hm]
  exact br_t hg (br_t (nI_lt hN hM) hQ)
theorem may_4 {nO : Nat → Int32} {Q : Int32 → Int32 → Int32 → Prop} {y N M : Nat} {wh mo : Int32} (hy : y < 286) (hg : nO y = -1) (hN : M ≤ N) (hM : N < 2 ^ 31) (hm : mo = nI M) (hQ : Q 0 4 wh) : v_X4_mayGive rf rp (nI N) nO (nI y) wh mo Q := by
  refine ⟨vp_in_nI hy (by decide), ?_⟩
  rw [nI_clamp (by omega), hm]
  exact br_t hg (br_f (nI_nlt hN hM) (br_t rfl hQ))
theorem may_3 {nO : Nat → Int32} {Q : Int32 → Int32 → Int32 → Prop} {y k : Nat} {nn wh mo : Int32} (hy : y < 286) (hk : k < 2 ^ 31) (hg : nO y = nI k) (hQ : Q 0 3 wh) : v_X4_mayGive rf rp nn nO (nI y) wh mo Q := by
  refine ⟨vp_in_nI hy (by decide), ?_⟩
  rw [nI_clamp (by omega), hg]
  exact br_f (sti_ne (n := k) hk) ⟨nar0, hQ⟩
theorem ok_give {nO : Nat → Int32} {Q : Int32 → (Nat → Int32) → Prop} {y N : Nat} (hy : y < 286) (hQ : Q (nI (N + 1)) (upd nO y (nI N))) : v_X4_give (nI N) nO (nI y) Q := by
  refine ⟨vp_in_nI hy (by decide), lt_v ?_⟩
  rw [nI_1, nI_clamp (by omega)]
  exact hQ
theorem gn_1 {names : Nat → Int32} {Q : Int32 → Int32 → Int32 → Int32 → Prop} {cn : Int32} (ht : tp B T n) (h : At B n e a w) (hm : nmN B a w = none) (hQ : Q 0 1 (nI a) (nI a)) : v_X6_givenName (nI n) 0 rp (nI e) cn T names Q := by
  refine br_t (by decide) (ok_isName ht h ?_)
  rw [hm]
  exact nb_t rfl (nb_t rfl hQ)
theorem gn_2 {nO names : Nat → Int32} {Q : Int32 → Int32 → Int32 → Int32 → Prop} {N y : Nat} (ht : tp B T n) (h : At B n e a w) (hr : nmR N nO names) (hN : N ≤ 60) (hm : nmN B a w = some y) (hg : nO y = -1) (hQ : Q (-1) 2 (nI a) (nI a)) : v_X6_givenName (nI n) 0 rp (nI e) (nI N) T names Q := by
  obtain ⟨h1, h2, h3⟩ := nmN_some h hm
  refine br_t (by decide) (ok_isName ht h ?_)
  rw [hm]
  refine nb_f (show ¬ bI true = 0 by decide) (ok_token ht h.at ?_)
  rw [h2]
  refine ok_find hr hN h1 ?_
  rw [hg]
  exact br_f (by decide) (nb_t rfl hQ)
theorem gn_y {nO names : Nat → Int32} {Q : Int32 → Int32 → Int32 → Int32 → Prop} {N y k : Nat} (ht : tp B T n) (h : At B n e a w) (hr : nmR N nO names) (hN : N ≤ 60) (hm : nmN B a w = some y) (hk : k < 2 ^ 31) (hg : nO y = nI k) (hQ : Q (nI k) 0 rp (nI a)) : v_X6_givenName (nI n) 0 rp (nI e) (nI N) T names Q := by
  obtain ⟨h1, h2, h3⟩ := nmN_some h hm
  refine br_t (by decide) (ok_isName ht h ?_)
  rw [hm]
  refine nb_f (show ¬ bI true = 0 by decide) (ok_token ht h.at ?_)
  rw [h2]
  refine ok_find hr hN h1 ?_
  rw [hg]
  exact br_t (nI_pos' hk) hQ
theorem gn_f {names : Nat → Int32} {Q : Int32 → Int32 → Int32 → Int32 → Prop} {sz at0 cn : Int32} (h : bdF rf) (hQ : Q 0 rf rp at0) : v_X6_givenName sz rf rp at0 cn T names Q := br_f h.nle hQ
theorem eN_word (h : 1 ≤ w) : eN n a w = a + w := if_neg (by omega)
end RSTEP
