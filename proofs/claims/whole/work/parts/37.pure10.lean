/-! PURE: the reference reads a statement -/
def tx_va (b : Bool) (v x : Nat) : Nat := if b = true then x else v
def tx_i1 (b : Bool) : Int := if b = true then 1 else -1
def tx_i0 (b : Bool) : Int := if b = true then 1 else 0
theorem tx_i1_b (b : Bool) : -1 ≤ tx_i1 b ∧ tx_i1 b ≤ 1 := by cases b <;> decide
theorem tx_i1_1 {b : Bool} : tx_i1 b = 1 ↔ b = true := by cases b <;> decide
theorem tx_i0_b (b : Bool) : 0 ≤ tx_i0 b ∧ tx_i0 b ≤ 1 := by cases b <;> decide
theorem tx_i0_0 {b : Bool} : tx_i0 b = 0 ↔ b = false := by cases b <;> decide
theorem tx_w120 {x : Nat} (h : x < 2 ^ 31) : (decide ((1 : Int32) ≤ nI x) && decide (nI x ≤ 20)) = decide (1 ≤ x ∧ x ≤ 20) := by
  rw [← Bool.decide_and]
  refine decide_eq_decide.mpr ?_
  rw [show (1 : Int32) = nI 1 from rfl, show (20 : Int32) = nI 20 from rfl, nI_leI (by decide) h, nI_leI h (by decide)]
theorem tx_do_b9 {T : tx_TT} {d t : Nat} (h : t = 9) : tx_do T (98, d, t, 0, 0) = (T.1, T.2.1, T.2.2.1, T.2.2.2.1, T.2.2.2.2.1, T.2.2.2.2.2.1, T.2.2.2.2.2.2.1, T.2.2.2.2.2.2.2.1, T.2.2.2.2.2.2.2.2.1, va_up T.2.2.2.2.2.2.2.2.2 d none) := by
  unfold tx_do
  simp [h]
theorem tx_do_bt {T : tx_TT} {d t : Nat} (h : ¬ t = 9) : tx_do T (98, d, t, 0, 0) = (T.1, T.2.1, T.2.2.1, T.2.2.2.1, T.2.2.2.2.1, T.2.2.2.2.2.1, T.2.2.2.2.2.2.1, T.2.2.2.2.2.2.2.1, va_up T.2.2.2.2.2.2.2.2.1 d t, va_up T.2.2.2.2.2.2.2.2.2 d (some t)) := by
  unfold tx_do
  simp [h]
theorem tx_do_dt {T : tx_TT} {d t : Nat} : tx_do T (100, d, t, 0, 0) = (T.1, T.2.1, T.2.2.1, T.2.2.2.1, T.2.2.2.2.1, T.2.2.2.2.2.1, T.2.2.2.2.2.2.1, T.2.2.2.2.2.2.2.1, va_up T.2.2.2.2.2.2.2.2.1 d t, T.2.2.2.2.2.2.2.2.2) := by
  unfold tx_do
  simp
theorem tx_do_l {T : tx_TT} {x : Nat} : tx_do T (108, x, 0, 0, 0) = (T.1, T.2.1, T.2.2.1, x, T.2.2.2.2) := by
  unfold tx_do
  simp
theorem tx_be_f {bo : Nat → Option Nat} {d t : Nat} (h : bo d = none ∨ bo d = some t) : tx_be bo d t = false := by
  unfold tx_be
  rcases h with h | h <;> rw [h] <;> simp
theorem tx_rq_b {tl : Nat → Nat} {tz a : Nat} (h : a ≤ tz) : (tx_rq tl tz a).1 ≤ tz ∧ a ≤ (tx_rq tl tz a).1 ∧ ((tx_rq tl tz a).2.isSome = true → a < (tx_rq tl tz a).1 ∧ a < tz) := by
  have hn := tx_nl_b tl tz (a + 1)
  unfold tx_rq
  (repeat' split) <;> (dsimp only) <;> (simp only [tx_sg, tx_dg, tx_kb, decide_eq_true_eq, decide_eq_false_iff_not] at *) <;> refine ⟨?_, ?_, fun q => ?_⟩ <;> first | omega | (exact absurd q (by decide))
theorem tx_rs_n {tl : Nat → Nat} {tz a : Nat} (h : (tx_rq tl tz a).2.isSome = false) : tx_rs tl tz a = ((tx_rq tl tz a).1, none) := by
  rw [tx_rq_rs]
  cases q : (tx_rq tl tz a).2 with
  | none => rfl
  | some x => rw [q] at h; cases h
theorem tx_rs_f {tl : Nat → Nat} {tz a : Nat} (h : tx_sg tl tz 59 (tx_rq tl tz a).1 = false) : tx_rs tl tz a = ((tx_rq tl tz a).1, none) := by
  rw [tx_rq_rs]
  cases q : (tx_rq tl tz a).2 with
  | none => rfl
  | some x => exact if_neg (by rw [h]; decide)
theorem tx_rs_t {tl : Nat → Nat} {tz a : Nat} {x : tx_st} (h0 : (tx_rq tl tz a).2 = some x) (h : tx_sg tl tz 59 (tx_rq tl tz a).1 = true) : tx_rs tl tz a = ((tx_rq tl tz a).1 + 1, some x) := by
  rw [tx_rq_rs, h0]
  exact if_pos h
theorem tx_rs_q {tl : Nat → Nat} {tz a : Nat} {x : tx_st} (h : (tx_rs tl tz a).2 = some x) : (tx_rq tl tz a).2 = some x ∧ tx_sg tl tz 59 (tx_rq tl tz a).1 = true ∧ (tx_rs tl tz a).1 = (tx_rq tl tz a).1 + 1 := by
  cases q : (tx_rq tl tz a).2 with
  | none =>
    rw [tx_rs_n (by rw [q]; rfl)] at h
    cases h
  | some y =>
    cases q2 : tx_sg tl tz 59 (tx_rq tl tz a).1 with
    | false =>
      rw [tx_rs_f q2] at h
      cases h
    | true =>
      rw [tx_rs_t q q2] at h ⊢
      cases h
      exact ⟨rfl, rfl, rfl⟩
theorem tx_sc_m {tl : Nat → Nat} {tz : Nat} : ∀ (k a : Nat), tz - a ≤ k → tx_sc tl tz k a = none → ∀ (j : Nat), tx_sc tl tz (k + j) a = none
  | 0, a, h, _, j => tx_sc_end (by omega)
  | k + 1, a, h, hs, j => by
    by_cases q : a < tz
    · have hb := tx_rs_b (tl := tl) (tz := tz) (a := a) (by omega)
      cases hx : (tx_rs tl tz a).2.isSome with
      | true =>
        rw [tx_sc_s q hx] at hs
        rw [show k + 1 + j = (k + j) + 1 by omega, tx_sc_s q hx]
        have := hb.2.2 hx
        exact tx_sc_m k _ (by omega) hs j
      | false =>
        rw [tx_sc_n q hx] at hs
        cases hs
    · exact tx_sc_end (by omega)
theorem tx_f1_n {tl : Nat → Nat} {tz i a p : Nat} (h80 : tz ≤ 80) (h1 : (tz = 0 ∧ a = 0) ∨ (a < tz ∧ i ≤ a ∧ tx_sc tl tz (80 - i) a = tx_f1 tl tz)) (h : tx_rs tl tz a = (p, none)) : tx_f1 tl tz = some p := by
  rcases h1 with ⟨h2, h3⟩ | ⟨h2, h3, h4⟩
  · have hb := (tx_rs_b (tl := tl) (tz := tz) (a := a) (by omega)).1
    rw [h] at hb
    have hp : p = 0 := by
      have : p ≤ tz := hb
      omega
    rw [tx_f1, if_pos h2, hp]
  · rw [← h4, show 80 - i = (80 - (i + 1)) + 1 by omega, tx_sc_n h2 (by rw [h]; rfl), h]
theorem tx_f1_s {tl : Nat → Nat} {tz i a p : Nat} {x : tx_st} (h80 : tz ≤ 80) (h1 : (tz = 0 ∧ a = 0) ∨ (a < tz ∧ i ≤ a ∧ tx_sc tl tz (80 - i) a = tx_f1 tl tz)) (h : tx_rs tl tz a = (p, some x)) : a < tz ∧ i ≤ a ∧ a < p ∧ p ≤ tz ∧ tx_sc tl tz (80 - (i + 1)) p = tx_f1 tl tz := by
  have hb := tx_rs_b (tl := tl) (tz := tz) (a := a) (by omega)
  rw [h] at hb
  have hb2 := hb.2.2 rfl
  rcases h1 with ⟨h2, h3⟩ | ⟨h2, h3, h4⟩
  · omega
  · refine ⟨h2, h3, hb2.1, hb.1, ?_⟩
    rw [← h4, show 80 - i = (80 - (i + 1)) + 1 by omega, tx_sc_s h2 (by rw [h]; rfl), h]
theorem tx_f1_0 {tl : Nat → Nat} {tz : Nat} (h : tx_f1 tl tz = none) : tx_sc tl tz 80 0 = none := by
  unfold tx_f1 at h
  split at h
  · cases h
  · exact h
theorem tx_wt_20 {T : tx_TT} (h : tx_wt T) : ∀ e, 20 ≤ e → T.2.2.2.2.2.2.2.2.1 e = 0 ∧ T.2.2.2.2.2.2.2.2.2 e = none := h.2.2.2.2.2.2.2.2.2.2.1
