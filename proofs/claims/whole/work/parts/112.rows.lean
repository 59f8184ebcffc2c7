/-! ROWS: the formulas, and the reference's write -/
def qTms (F s : Nat) : Nat := if F < s then 1 else 0
def qTdi (I F n : Nat) (o : Nat → Nat) (t s : Nat) : Nat := if 2 ≤ s ∧ s < 2 + F ∧ t < n then ((o t).testBit (I + (F - 1 - (s - 2)))).toNat else 0
def qIn (I : Nat) (o : Nat → Nat) (t s : Nat) : Nat := if s = 1 ∧ 0 < t then o (t - 1) % 2 ^ I else 0
def qSee (F O : Nat) (A : Nat → Nat) (t s : Nat) : Nat := if 2 ≤ s ∧ s < 2 + F ∧ 0 < t then ((A (t - 1)).testBit (O + (F - 1 - (s - 2)))).toNat else 2
def qOut (O : Nat) (A : Nat → Nat) (t s : Nat) : Option Nat := if s = 1 ∧ 0 < t then some (A (t - 1) % 2 ^ O) else none
def leadTms (i : Nat) : Nat := [1, 1, 1, 1, 1, 0, 1, 1, 0, 0, 0, 1, 1, 1].getD i 0
def leadTdi (i : Nat) : Nat := [0, 0, 0, 0, 0, 0, 0, 0, 0, 0, 1, 0, 0, 0].getD i 0
def rTms (F i : Nat) : Nat := if i < 14 then leadTms i else qTms F ((i - 14) % (4 + F))
def rTdi (I F n : Nat) (o : Nat → Nat) (i : Nat) : Nat := if i < 14 then leadTdi i else qTdi I F n o ((i - 14) / (4 + F)) ((i - 14) % (4 + F))
def rIn (I F : Nat) (o : Nat → Nat) (i : Nat) : Nat := if i < 14 then 0 else qIn I o ((i - 14) / (4 + F)) ((i - 14) % (4 + F))
def rSee (F O : Nat) (A : Nat → Nat) (i : Nat) : Nat := if i < 14 then 2 else qSee F O A ((i - 14) / (4 + F)) ((i - 14) % (4 + F))
def rOut (F O : Nat) (A : Nat → Nat) (i : Nat) : Option Nat := if i < 14 then none else qOut O A ((i - 14) / (4 + F)) ((i - 14) % (4 + F))
def rowN (F n : Nat) : Nat := 14 + (n + 1) * (4 + F)
/-- row i of the program -/
def rowAt (p : Nat → Int32) (i : Nat) (a b c d e : Int32) : Prop := p (5 * i) = a ∧ p (5 * i + 1) = b ∧ p (5 * i + 2) = c ∧ p (5 * i + 3) = d ∧ p (5 * i + 4) = e
def goodRows (I F O n : Nat) (o A : Nat → Nat) (p : Nat → Int32) (r : Nat) : Prop := ∀ i, i < r → rowAt p i (nI (rTms F i)) (nI (rTdi I F n o i)) (nI (rIn I F o i)) (nI (rSee F O A i)) (sti (rOut F O A i))
theorem ok_row {I F O n : Nat} {o A : Nat → Nat} {p : Nat → Int32} {r : Nat} {a b c d e : Int32} {Q : Int32 → (Nat → Int32) → Prop} (hr : r < 2000) (hg : goodRows I F O n o A p r) (h1 : a = nI (rTms F r)) (h2 : b = nI (rTdi I F n o r)) (h3 : c = nI (rIn I F o r)) (h4 : d = nI (rSee F O A r)) (h5 : e = sti (rOut F O A r))
    (hQ : ∀ p', goodRows I F O n o A p' (r + 1) → Q (nI (r + 1)) p') : v_X6_row (nI r) p a b c d e Q := by
  unfold v_X6_row
  have e0 : (5 : Int32) * nI r = nI (5 * r) := pk_mul 5 r
  have e1 : nI (5 * r) + (1 : Int32) = nI (5 * r + 1) := nI_add _ 1
  have e2 : nI (5 * r) + (2 : Int32) = nI (5 * r + 2) := nI_add _ 2
  have e3 : nI (5 * r) + (3 : Int32) = nI (5 * r + 3) := nI_add _ 3
  have e4 : nI (5 * r) + (4 : Int32) = nI (5 * r + 4) := nI_add _ 4
  rw [e0, e1, e2, e3, e4, nI_clamp (show 5 * r < 2 ^ 31 by omega), nI_clamp (show 5 * r + 1 < 2 ^ 31 by omega), nI_clamp (show 5 * r + 2 < 2 ^ 31 by omega), nI_clamp (show 5 * r + 3 < 2 ^ 31 by omega), nI_clamp (show 5 * r + 4 < 2 ^ 31 by omega)]
  refine ⟨vp_in_nI (by omega) (by omega), vp_in_nI (by omega) (by omega), vp_in_nI (by omega) (by omega), vp_in_nI (by omega) (by omega), vp_in_nI (by omega) (by omega), ?_⟩
  intro v1 ev
  rw [ev, nI_1]
  refine hQ _ (fun i hi => ?_)
  by_cases e : i = r
  · subst e
    refine ⟨?_, ?_, ?_, ?_, ?_⟩
    · rw [pk_un (by omega), pk_un (by omega), pk_un (by omega), pk_un (by omega), pk_us, h1]
    · rw [pk_un (by omega), pk_un (by omega), pk_un (by omega), pk_us, h2]
    · rw [pk_un (by omega), pk_un (by omega), pk_us, h3]
    · rw [pk_un (by omega), pk_us, h4]
    · rw [pk_us, h5]
  · obtain ⟨g1, g2, g3, g4, g5⟩ := hg i (by omega)
    refine ⟨?_, ?_, ?_, ?_, ?_⟩
    · rw [pk_un (by omega), pk_un (by omega), pk_un (by omega), pk_un (by omega), pk_un (by omega), g1]
    · rw [pk_un (by omega), pk_un (by omega), pk_un (by omega), pk_un (by omega), pk_un (by omega), g2]
    · rw [pk_un (by omega), pk_un (by omega), pk_un (by omega), pk_un (by omega), pk_un (by omega), g3]
    · rw [pk_un (by omega), pk_un (by omega), pk_un (by omega), pk_un (by omega), pk_un (by omega), g4]
    · rw [pk_un (by omega), pk_un (by omega), pk_un (by omega), pk_un (by omega), pk_un (by omega), g5]
theorem lead_in (I F : Nat) (o : Nat → Nat) {i : Nat} (h : i < 14) : rIn I F o i = 0 := by unfold rIn; rw [if_pos h]
theorem lead_see (F O : Nat) (A : Nat → Nat) {i : Nat} (h : i < 14) : rSee F O A i = 2 := by unfold rSee; rw [if_pos h]
theorem lead_out (F O : Nat) (A : Nat → Nat) {i : Nat} (h : i < 14) : rOut F O A i = none := by unfold rOut; rw [if_pos h]
theorem lead_tms (F : Nat) {i : Nat} (h : i < 14) : rTms F i = leadTms i := by unfold rTms; rw [if_pos h]
theorem lead_tdi (I F n : Nat) (o : Nat → Nat) {i : Nat} (h : i < 14) : rTdi I F n o i = leadTdi i := by unfold rTdi; rw [if_pos h]
/-- a row of the lead -/
theorem ok_lead {I F O n : Nat} {o A : Nat → Nat} {p : Nat → Int32} {r : Nat} {a b : Int32} {Q : Int32 → (Nat → Int32) → Prop} (hr : r < 14) (hg : goodRows I F O n o A p r) (h1 : a = nI (leadTms r)) (h2 : b = nI (leadTdi r)) (hQ : ∀ p', goodRows I F O n o A p' (r + 1) → Q (nI (r + 1)) p') : v_X6_row (nI r) p a b (0 : Int32) (2 : Int32) (-1 : Int32) Q :=
  ok_row (by omega) hg (by rw [lead_tms F hr, h1]) (by rw [lead_tdi I F n o hr, h2]) (by rw [lead_in I F o hr]; rfl) (by rw [lead_see F O A hr]; rfl) (by rw [lead_out F O A hr]; rfl) hQ
theorem rs_div {F t s : Nat} (hs : s < 4 + F) : (14 + t * (4 + F) + s - 14) / (4 + F) = t ∧ (14 + t * (4 + F) + s - 14) % (4 + F) = s := by
  rw [show 14 + t * (4 + F) + s - 14 = s + (4 + F) * t by rw [Nat.mul_comm]; omega]
  exact ⟨by rw [Nat.add_mul_div_left _ _ (by omega), Nat.div_eq_of_lt hs, Nat.zero_add], by rw [Nat.add_mul_mod_self_left, Nat.mod_eq_of_lt hs]⟩
/-- a row of a test -/
theorem ok_trow {I F O n : Nat} {o A : Nat → Nat} {p : Nat → Int32} {t s : Nat} {a b c d e : Int32} {Q : Int32 → (Nat → Int32) → Prop} (hs : s < 4 + F) (hr : 14 + t * (4 + F) + s < 2000) (hg : goodRows I F O n o A p (14 + t * (4 + F) + s)) (h1 : a = nI (qTms F s)) (h2 : b = nI (qTdi I F n o t s)) (h3 : c = nI (qIn I o t s)) (h4 : d = nI (qSee F O A t s)) (h5 : e = sti (qOut O A t s))
    (hQ : ∀ p', goodRows I F O n o A p' (14 + t * (4 + F) + (s + 1)) → Q (nI (14 + t * (4 + F) + (s + 1))) p') : v_X6_row (nI (14 + t * (4 + F) + s)) p a b c d e Q := by
  obtain ⟨d1, d2⟩ := rs_div (t := t) hs
  refine ok_row hr hg ?_ ?_ ?_ ?_ ?_ hQ
  · rw [rTms, if_neg (by omega), d2, h1]
  · rw [rTdi, if_neg (by omega), d1, d2, h2]
  · rw [rIn, if_neg (by omega), d1, d2, h3]
  · rw [rSee, if_neg (by omega), d1, d2, h4]
  · rw [rOut, if_neg (by omega), d1, d2, h5]
theorem bitDiv {x i k : Nat} (hx : x < 2 ^ 31) (hik : i < 32) (hk : k < 32) : (nI (x / 2 ^ i) >>> (nI k &&& 31)) &&& (1 : Int32) = nI (x.testBit (i + k)).toNat := by
  rw [bitOf (Nat.lt_of_le_of_lt (Nat.div_le_self _ _) hx) hk, Nat.testBit_div_two_pow, Nat.add_comm]
set_option maxHeartbeats 2000000 in
theorem ok_write {I F O n : Nat} {o A : Nat → Nat} {good ones program : Nat → Int32} {rows : Int32} {Q : Int32 → (Nat → Int32) → Prop} {gd : Nat → Nat} (hS : I + F ≤ 10) (hO : O ≤ 8) (hn : n ≤ 120) (ho : ∀ i, i < n → ones i = nI (o i) ∧ o i < 2 ^ (I + F)) (hgd : ∀ p, p < 2 ^ (I + F) → good p = nI (gd p) ∧ gd p < 2 ^ 18) (hA : ∀ i, i < n → A i = gd (o i))
    (hQ : ∀ p, goodRows I F O n o A p (rowN F n) → Q (nI (rowN F n)) p) : v_X6_write (nI I) (nI F) (nI O) (nI n) rows program good ones Q := by
  have h10 : (2 : Nat) ^ (I + F) ≤ 2 ^ 10 := Nat.pow_le_pow_right (by decide) hS
  have hpos := Nat.two_pow_pos (I + F)
  have rbound : ∀ t, t ≤ n → 14 + t * (4 + F) + (4 + F) < 2000 := fun t ht => by
    have : t * (4 + F) ≤ 120 * 14 := Nat.mul_le_mul (by omega) (by omega)
    omega
  have loop74 : ∀ (d t : Nat) (p : Nat → Int32), t ≤ n + 1 → n + 1 < t + d → goodRows I F O n o A p (14 + t * (4 + F)) → v_X6_write_b74 (nI I) (nI F) (nI O) (nI n) good ones Q d (nI (14 + t * (4 + F))) p (nI t) := by
    intro d
    induction d with
    | zero => intro t p h1 h2; omega
    | succ d ih =>
      intro t p h1 h2 hg
      by_cases ht : n < t
      · have : t = n + 1 := by omega
        subst this
        exact br_t (nI_lt ht (by omega)) (hQ p hg)
      · have hb := rbound t (by omega)
        refine br_f (nI_nlt (by omega) (by omega)) ?_
        refine ok_trow (s := 0) (by omega) (by omega) hg (by unfold qTms; rw [if_neg (by omega)]; rfl) (by unfold qTdi; rw [if_neg (by omega)]; rfl) (by unfold qIn; rw [if_neg (by omega)]; rfl) (by unfold qSee; rw [if_neg (by omega)]; rfl) (by unfold qOut; rw [if_neg (by omega)]; rfl) (fun p1 hg1 => ?_)
        -- behind it: what was before, and the answer seen
        have key : ∀ (bf : Nat), bf < 2 ^ (I + F) → (0 < t → bf = o (t - 1)) → (t = 0 → bf = 0) → v_X6_write_b103 (nI I) (nI F) (nI O) (nI n) good ones Q (v_X6_write_b74 (nI I) (nI F) (nI O) (nI n) good ones Q d) (nI (14 + t * (4 + F) + 1)) p1 (nI t) (nI bf) := by
          intro bf hbf hb1 hb0
          obtain ⟨eg, hgl⟩ := hgd bf hbf
          refine ⟨vp_in_nI (by omega) (by omega), ?_⟩
          rw [nI_clamp (show bf < 2 ^ 31 by omega), eg]
          intro v12 e12
          subst e12
          have hAt : 0 < t → A (t - 1) = gd bf := fun h => by rw [hA (t - 1) (by omega), hb1 h]
          -- the flip-flops
          have shifts : ∀ (set : Nat) (p2 : Nat → Int32), set < 2 ^ 31 → (∀ k, k < F → set.testBit k = (decide (t < n) && (o t).testBit (I + k))) → goodRows I F O n o A p2 (14 + t * (4 + F) + 2) → v_X6_write_b180 (nI I) (nI F) (nI O) (nI n) good ones Q (v_X6_write_b74 (nI I) (nI F) (nI O) (nI n) good ones Q d) (nI (14 + t * (4 + F) + 2)) p2 (nI t) (nI (gd bf)) (nI set) := by
            intro set p2 hset hbits hg2 v9 e9
            -- at the end
            have fin : ∀ (z : Nat) (p3 : Nat → Int32) (l5 : Int32), l5 < 0 → goodRows I F O n o A p3 (14 + t * (4 + F) + (2 + F)) → v_X6_write_b190 (nI I) (nI F) (nI O) (nI n) good ones Q (v_X6_write_b74 (nI I) (nI F) (nI O) (nI n) good ones Q d) (z + 1) (nI (14 + t * (4 + F) + (2 + F))) p3 (nI t) (nI (gd bf)) (nI set) l5 := by
              intro z p3 l5 hl hg3
              refine br_t hl ?_
              refine ok_trow (s := 2 + F) (by omega) (by omega) hg3 (by unfold qTms; rw [if_pos (by omega)]; rfl) (by unfold qTdi; rw [if_neg (by omega)]; rfl) (by unfold qIn; rw [if_neg (by omega)]; rfl) (by unfold qSee; rw [if_neg (by omega)]; rfl) (by unfold qOut; rw [if_neg (by omega)]; rfl) (fun p4 hg4 => ?_)
              refine ok_trow (s := 2 + F + 1) (by omega) (by omega) hg4 (by unfold qTms; rw [if_pos (by omega)]; rfl) (by unfold qTdi; rw [if_neg (by omega)]; rfl) (by unfold qIn; rw [if_neg (by omega)]; rfl) (by unfold qSee; rw [if_neg (by omega)]; rfl) (by unfold qOut; rw [if_neg (by omega)]; rfl) (fun p5 hg5 => ?_)
              intro v8 e8
              rw [e8, nI_1]
              have er : 14 + t * (4 + F) + (2 + F + 1 + 1) = 14 + (t + 1) * (4 + F) := by rw [Nat.add_mul, Nat.one_mul]; omega
              rw [er] at hg5 ⊢
              exact ih (t + 1) p5 (by omega) (by omega) hg5
            have loop190 : ∀ (z c : Nat) (p3 : Nat → Int32), c < F → F < c + z → goodRows I F O n o A p3 (14 + t * (4 + F) + (2 + c)) → v_X6_write_b190 (nI I) (nI F) (nI O) (nI n) good ones Q (v_X6_write_b74 (nI I) (nI F) (nI O) (nI n) good ones Q d) z (nI (14 + t * (4 + F) + (2 + c))) p3 (nI t) (nI (gd bf)) (nI set) (nI (F - 1 - c)) := by
              intro z
              induction z with
              | zero => intro c p3 q1 q2; omega
              | succ z ih2 =>
                intro c p3 q1 q2 hg3
                refine br_f (nI_pos (by omega)) ?_
                have h206 : ∀ s0 : Int32, s0 = nI (qTms F (2 + c)) → v_X6_write_b206 (nI I) (nI F) (nI O) (nI n) good ones Q (v_X6_write_b74 (nI I) (nI F) (nI O) (nI n) good ones Q d) (v_X6_write_b190 (nI I) (nI F) (nI O) (nI n) good ones Q (v_X6_write_b74 (nI I) (nI F) (nI O) (nI n) good ones Q d) z) (nI (14 + t * (4 + F) + (2 + c))) p3 (nI t) (nI (gd bf)) (nI set) (nI (F - 1 - c)) s0 := by
                  intro s0 e0
                  have h233 : ∀ sx : Int32, sx = nI (qSee F O A t (2 + c)) → v_X6_write_b233 (nI I) (nI F) (nI O) (nI n) good ones Q (v_X6_write_b74 (nI I) (nI F) (nI O) (nI n) good ones Q d) (v_X6_write_b190 (nI I) (nI F) (nI O) (nI n) good ones Q (v_X6_write_b74 (nI I) (nI F) (nI O) (nI n) good ones Q d) z) (nI (14 + t * (4 + F) + (2 + c))) p3 (nI t) (nI (gd bf)) (nI set) (nI (F - 1 - c)) sx (0 : Int32) ((nI set >>> (nI (F - 1 - c) &&& 31)) &&& (1 : Int32)) s0 := by
                    intro sx ex
                    refine ok_trow (s := 2 + c) (by omega) (by omega) hg3 e0 ?_ (by unfold qIn; rw [if_neg (by omega)]; rfl) ex (by unfold qOut; rw [if_neg (by omega)]; rfl) (fun p4 hg4 => ?_)
                    · rw [bitOf hset (by omega), hbits _ (by omega)]
                      unfold qTdi
                      by_cases htn : t < n
                      · rw [if_pos (by omega), decide_eq_true htn, Bool.true_and, show 2 + c - 2 = c by omega]
                      · rw [if_neg (by omega), decide_eq_false htn, Bool.false_and]; rfl
                    · intro v3 e3
                      rw [e3]
                      by_cases hc : c + 1 < F
                      · rw [show F - 1 - c = (F - 1 - (c + 1)) + 1 by omega, pk_m1]
                        exact ih2 (c + 1) p4 hc (by omega) hg4
                      · have : z = (z - 1) + 1 := by omega
                        rw [this]
                        have h2c : 2 + c + 1 = 2 + F := by omega
                        rw [h2c] at hg4 ⊢
                        exact fin (z - 1) p4 _ (by rw [show F - 1 - c = 0 by omega]; decide) hg4
                  by_cases h0 : t = 0
                  · refine br_t (by rw [h0]; decide) (h233 _ ?_)
                    unfold qSee; rw [if_neg (by omega)]; rfl
                  · refine br_f (nI_nle (by omega) (by omega)) (h233 _ ?_)
                    unfold qSee
                    rw [if_pos (by omega), nI_add, bitOf (by omega) (by omega), hAt (by omega), show 2 + c - 2 = c by omega]
                have isz := nI_is (a := F - 1 - c) (b := 0) (x := 0) rfl (by omega) (by omega)
                refine ⟨fun h => h206 _ ?_, fun h => h206 _ ?_⟩
                · have : ¬ F - 1 - c = 0 := fun q => h (isz.mpr q)
                  unfold qTms; rw [if_neg (by omega)]; rfl
                · have := isz.mp h
                  unfold qTms; rw [if_pos (by omega)]; rfl
            refine ⟨F + 1, ?_⟩
            by_cases hF : F = 0
            · subst hF
              exact fin 0 p2 v9 (by rw [e9]; decide) hg2
            · rw [e9, show nI F - (1 : Int32) = nI (F - 1) from pk_sub (b := 1) (by omega)]
              exact loop190 (F + 1) 0 p2 (by omega) (by omega) hg2
          -- the capture
          have h154 : ∀ (s0 s4 : Int32), s4 = nI (qTms F 1) → s0 = sti (qOut O A t 1) → v_X6_write_b154 (nI I) (nI F) (nI O) (nI n) good ones Q (v_X6_write_b74 (nI I) (nI F) (nI O) (nI n) good ones Q d) (nI (14 + t * (4 + F) + 1)) p1 (nI t) (nI (gd bf)) s0 (2 : Int32) (nI bf &&& (((1 : Int32) <<< (nI I &&& 31)) - (1 : Int32))) (0 : Int32) s4 := by
            intro s0 s4 e4 e0
            refine ok_trow (s := 1) (by omega) (by omega) hg1 e4 (by unfold qTdi; rw [if_neg (by omega)]; rfl) ?_ (by unfold qSee; rw [if_neg (by omega)]; rfl) e0 (fun p2 hg2 => ?_)
            · rw [andMask (by omega) (by omega)]
              unfold qIn
              by_cases h0 : t = 0
              · rw [if_neg (by omega), hb0 h0, Nat.zero_mod]
              · rw [if_pos (by omega), hb1 (by omega)]
            · by_cases htn : n ≤ t
              · refine br_t (nI_le htn (by omega)) (shifts 0 p2 (by decide) (fun k _ => ?_) hg2)
                rw [Nat.zero_testBit, decide_eq_false (by omega), Bool.false_and]
              · obtain ⟨eo, hol⟩ := ho t (by omega)
                refine br_f (nI_ge (by omega) (by omega)) ⟨vp_in_nI (by omega) (by omega), ?_⟩
                rw [nI_clamp (show t < 2 ^ 31 by omega), eo, shrI (by omega) (by omega)]
                refine shifts _ p2 (Nat.lt_of_le_of_lt (Nat.div_le_self _ _) (by omega)) (fun k _ => ?_) hg2
                rw [Nat.testBit_div_two_pow, decide_eq_true (by omega), Bool.true_and, Nat.add_comm]
          have h124 : ∀ s4 : Int32, s4 = nI (qTms F 1) → v_X6_write_b124 (nI I) (nI F) (nI O) (nI n) good ones Q (v_X6_write_b74 (nI I) (nI F) (nI O) (nI n) good ones Q d) (nI (14 + t * (4 + F) + 1)) p1 (nI t) (nI bf) (nI (gd bf)) s4 := by
            intro s4 e4
            by_cases h0 : t = 0
            · refine br_t (by rw [h0]; decide) (h154 _ _ e4 ?_)
              unfold qOut; rw [if_neg (by omega)]; rfl
            · refine br_f (nI_nle (by omega) (by omega)) (h154 _ _ e4 ?_)
              unfold qOut
              rw [if_pos (by omega), andMask (by omega) (by omega), hAt (by omega)]; rfl
          have isF := nI_is (a := F) (b := 0) (x := 0) rfl (by omega) (by omega)
          refine ⟨fun h => h124 _ ?_, fun h => h124 _ ?_⟩
          · have : ¬ F = 0 := fun q => h (isF.mpr q)
            unfold qTms; rw [if_neg (by omega)]; rfl
          · have := isF.mp h
            unfold qTms; rw [if_pos (by omega)]; rfl
        by_cases h0 : t = 0
        · exact br_t (by rw [h0]; decide) (key 0 hpos (fun h => by omega) (fun _ => rfl))
        · obtain ⟨eo, hol⟩ := ho (t - 1) (by omega)
          refine br_f (nI_nle (by omega) (by omega)) ?_
          rw [show nI t - (1 : Int32) = nI (t - 1) from pk_sub (b := 1) (by omega), nI_clamp (show t - 1 < 2 ^ 31 by omega), eo]
          exact ⟨vp_in_nI (by omega) (by omega), key _ hol (fun _ => rfl) (fun h => absurd h h0)⟩
  -- the lead
  have loop7 : ∀ (d j : Nat) (p : Nat → Int32), j ≤ 5 → 5 < j + d → goodRows I F O n o A p j → v_X6_write_b7 (nI I) (nI F) (nI O) (nI n) good ones Q d (nI j) p (nI j) := by
    intro d
    induction d with
    | zero => intro j p h1 h2; omega
    | succ d ih =>
      intro j p h1 h2 hg
      by_cases hj : 5 ≤ j
      · have : j = 5 := by omega
        subst this
        refine br_t (by decide) ?_
        refine ok_lead (r := 5) (by decide) hg rfl rfl (fun p hg => ?_)
        refine ok_lead (r := 6) (by decide) hg rfl rfl (fun p hg => ?_)
        refine ok_lead (r := 7) (by decide) hg rfl rfl (fun p hg => ?_)
        refine ok_lead (r := 8) (by decide) hg rfl rfl (fun p hg => ?_)
        refine ok_lead (r := 9) (by decide) hg rfl rfl (fun p hg => ?_)
        refine ok_lead (r := 10) (by decide) hg rfl rfl (fun p hg => ?_)
        refine ok_lead (r := 11) (by decide) hg rfl rfl (fun p hg => ?_)
        refine ok_lead (r := 12) (by decide) hg rfl rfl (fun p hg => ?_)
        refine ok_lead (r := 13) (by decide) hg rfl rfl (fun p hg => ?_)
        refine ⟨n + 2, ?_⟩
        have := loop74 (n + 2) 0 p (by omega) (by omega) (by rw [Nat.zero_mul]; exact hg)
        rw [Nat.zero_mul] at this
        exact this
      · refine br_f (nI_ge (b := 5) (by omega) (by decide)) ?_
        refine ok_lead (r := j) (by omega) hg ?_ ?_ (fun p hg => ?_)
        · rcases (show j = 0 ∨ j = 1 ∨ j = 2 ∨ j = 3 ∨ j = 4 by omega) with rfl | rfl | rfl | rfl | rfl <;> rfl
        · rcases (show j = 0 ∨ j = 1 ∨ j = 2 ∨ j = 3 ∨ j = 4 by omega) with rfl | rfl | rfl | rfl | rfl <;> rfl
        · intro v35 e35
          rw [e35, nI_1]
          exact ih (j + 1) p (by omega) (by omega) hg
  exact ⟨6, loop7 6 0 program (by omega) (by omega) (fun i hi => by omega)⟩
