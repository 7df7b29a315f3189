/-! PURE: a land: lemmas -/
theorem tx_ok_b {T : tx_TT} {x : tx_st} (h : x.1 = 98) : tx_ok T x = tx_ok T (98, x.2.1, x.2.2.1, 0, 0) ∧ tx_do T x = tx_do T (98, x.2.1, x.2.2.1, 0, 0) := by
  constructor
  · unfold tx_ok; simp [h]
  · unfold tx_do; simp [h]
theorem tx_ok_d {T : tx_TT} {x : tx_st} (h : x.1 = 100) : tx_ok T x = tx_ok T (100, x.2.1, x.2.2.1, 0, 0) ∧ tx_do T x = tx_do T (100, x.2.1, x.2.2.1, 0, 0) := by
  constructor
  · unfold tx_ok; simp [h]
  · unfold tx_do; simp [h]
theorem tx_ok_l {T : tx_TT} {x : tx_st} (h : x.1 = 108) : tx_ok T x = tx_ok T (108, x.2.1, 0, 0, 0) ∧ tx_do T x = tx_do T (108, x.2.1, 0, 0, 0) := by
  constructor
  · unfold tx_ok; simp [h]
  · unfold tx_do; simp [h]
theorem tx_ok_c {T : tx_TT} {x : tx_st} (h : x.1 = 99) : tx_ok T x = true ∧ tx_do T x = (T.1, T.2.1, x.2.1, T.2.2.2) := by
  constructor
  · unfold tx_ok; simp [h]
  · unfold tx_do; simp [h]
theorem tx_ok_y {T : tx_TT} {x : tx_st} (h : x.1 = 121) : tx_ok T x = decide (1 ≤ x.2.1 ∧ x.2.1 ≤ 20) ∧ tx_do T x = (T.1, x.2.1, T.2.2.1, T.2.2.2.1, T.2.2.2.2.1, T.2.2.2.2.2.1, T.2.2.2.2.2.2.1, T.2.2.2.2.2.2.2.1, (fun _ => 0), (fun _ => none)) := by
  constructor
  · unfold tx_ok; simp [h]
  · unfold tx_do; simp [h]
theorem tx_ok_t {T : tx_TT} {x : tx_st} (h : x.1 = 116) : tx_ok T x = decide (T.1 < 4 ∧ x.2.2.1 ≤ 9 ∧ x.2.2.2.1 ≤ 3 ∧ x.2.2.2.2 ≤ 3) ∧ tx_do T x = (T.1 + 1, T.2.1, T.2.2.1, T.2.2.2.1, va_up T.2.2.2.2.1 T.1 x.2.1, va_up T.2.2.2.2.2.1 T.1 x.2.2.1, va_up T.2.2.2.2.2.2.1 T.1 x.2.2.2.1, va_up T.2.2.2.2.2.2.2.1 T.1 x.2.2.2.2, T.2.2.2.2.2.2.2.2.1, T.2.2.2.2.2.2.2.2.2) := by
  constructor
  · unfold tx_ok; simp [h]
  · unfold tx_do; simp [h]
/-- a statement's parts -/
def tx_sb (x : tx_st) : Prop := (x.1 = 98 ∨ x.1 = 99 ∨ x.1 = 100 ∨ x.1 = 108 ∨ x.1 = 116 ∨ x.1 = 121) ∧ x.2.1 ≤ 99 ∧ x.2.2.1 ≤ 9 ∧ x.2.2.2.1 ≤ 9 ∧ x.2.2.2.2 ≤ 9 ∧ (x.1 = 116 → x.2.1 ≤ 5) ∧ ((x.1 = 99 ∨ x.1 = 108) → x.2.1 ≤ 9)
theorem tx_rs_sb {tl : Nat → Nat} {tz a : Nat} {x : tx_st} (h : (tx_rs tl tz a).2 = some x) : tx_sb x := by
  have hk := tx_ki_b (tl (a + 1))
  have hn : tx_dg tl tz (a + 1) = true → tx_nv tl tz (a + 1) ≤ 99 := tx_nv_b
  unfold tx_rs at h
  revert h
  (repeat' split) <;> intro h <;> (first | (cases h; done) | skip) <;> (cases h) <;> (simp only [tx_sg, tx_dg, tx_kb, decide_eq_true_eq] at *) <;> (refine ⟨?_, ?_, ?_, ?_, ?_, ?_, ?_⟩) <;> dsimp only <;> omega
theorem tx_up_le {f : Nat → Nat} {m k x : Nat} (h : ∀ e, f e ≤ m) (hx : x ≤ m) : ∀ e, va_up f k x e ≤ m := fun e => by
  by_cases q : e = k
  · rw [q, va_up_self]
    exact hx
  · rw [va_up_ne _ _ q]
    exact h e
theorem tx_up_lt {f : Nat → Nat} {m k x : Nat} (h : ∀ e, f e < m) (hx : x < m) : ∀ e, va_up f k x e < m := fun e => by
  by_cases q : e = k
  · rw [q, va_up_self]
    exact hx
  · rw [va_up_ne _ _ q]
    exact h e
theorem tx_wt_do {T : tx_TT} {x : tx_st} (hb : tx_sb x) (h : tx_wt T) (hok : tx_ok T x = true) : tx_wt (tx_do T x) := by
  obtain ⟨n, dy, ch, lw, kd, wo, ha, we, td, bo⟩ := T
  obtain ⟨x0, x1, x2, x3, x4⟩ := x
  obtain ⟨b1, b2, b3, b4, b5, b6, b7⟩ := hb
  obtain ⟨w1, w2, w3, w4, w5, w6, w7, w8, w9, w10, w11, w12⟩ := h
  dsimp only at *
  rcases b1 with rfl | rfl | rfl | rfl | rfl | rfl
  · have e := tx_ok_b (T := (n, dy, ch, lw, kd, wo, ha, we, td, bo)) (x := (98, x1, x2, x3, x4)) rfl
    rw [e.2]
    have hq : x1 < dy ∧ (x2 = 9 ∨ x2 < n) := of_decide_eq_true (e.1.symm.trans hok)
    by_cases q9 : x2 = 9
    · subst q9
      refine ⟨w1, w2, w3, w4, w5, w6, w7, w8, w9, w10, fun e he => ?_, fun e u hu => ?_⟩
      · show td e = 0 ∧ va_up bo x1 none e = none
        exact ⟨(w11 e he).1, by rw [va_up_ne _ _ (by omega)]; exact (w11 e he).2⟩
      · have hu : va_up bo x1 none e = some u := hu
        by_cases q : e = x1
        · rw [q, va_up_self] at hu
          cases hu
        · rw [va_up_ne _ _ q] at hu
          exact w12 e u hu
    · have hx2 : x2 < n := by omega
      have e3 : tx_do (n, dy, ch, lw, kd, wo, ha, we, td, bo) (98, x1, x2, 0, 0) = (n, dy, ch, lw, kd, wo, ha, we, va_up td x1 x2, va_up bo x1 (some x2)) := by
        unfold tx_do
        simp [q9]
      rw [e3]
      refine ⟨w1, w2, w3, w4, w5, w6, w7, w8, tx_up_lt w9 (by omega), tx_up_lt w10 (by omega), fun e he => ?_, fun e u hu => ?_⟩
      · show va_up td x1 x2 e = 0 ∧ va_up bo x1 (some x2) e = none
        rw [va_up_ne _ _ (by omega), va_up_ne _ _ (by omega)]
        exact w11 e he
      · have hu : va_up bo x1 (some x2) e = some u := hu
        by_cases q : e = x1
        · rw [q, va_up_self] at hu
          cases hu
          exact hx2
        · rw [va_up_ne _ _ q] at hu
          exact w12 e u hu
  · rw [(tx_ok_c (T := (n, dy, ch, lw, kd, wo, ha, we, td, bo)) (x := (99, x1, x2, x3, x4)) rfl).2]
    exact ⟨w1, w2, b7 (Or.inl rfl), w4, w5, w6, w7, w8, w9, w10, w11, w12⟩
  · have e := tx_ok_d (T := (n, dy, ch, lw, kd, wo, ha, we, td, bo)) (x := (100, x1, x2, x3, x4)) rfl
    rw [e.2]
    have hq : x1 < dy ∧ x2 < n ∧ tx_be bo x1 x2 = false := of_decide_eq_true (e.1.symm.trans hok)
    have hx2 : x2 < 4 := by omega
    have hx3 : x2 < max n 1 := by omega
    refine ⟨w1, w2, w3, w4, w5, w6, w7, w8, tx_up_lt w9 hx2, tx_up_lt w10 hx3, fun e he => ?_, w12⟩
    show va_up td x1 x2 e = 0 ∧ bo e = none
    rw [va_up_ne _ _ (by omega)]
    exact w11 e he
  · have e := tx_ok_l (T := (n, dy, ch, lw, kd, wo, ha, we, td, bo)) (x := (108, x1, x2, x3, x4)) rfl
    rw [e.2]
    have hq : x1 ≤ 5 := of_decide_eq_true (e.1.symm.trans hok)
    exact ⟨w1, w2, w3, hq, w5, w6, w7, w8, w9, w10, w11, w12⟩
  · have e := tx_ok_t (T := (n, dy, ch, lw, kd, wo, ha, we, td, bo)) (x := (116, x1, x2, x3, x4)) rfl
    rw [e.2]
    have hq : n < 4 ∧ x2 ≤ 9 ∧ x3 ≤ 3 ∧ x4 ≤ 3 := of_decide_eq_true (e.1.symm.trans hok)
    refine ⟨by show n + 1 ≤ 4; omega, w2, w3, w4, tx_up_le w5 (b6 rfl), tx_up_le w6 hq.2.1, tx_up_le w7 hq.2.2.1, tx_up_le w8 hq.2.2.2, w9, fun e => ?_, w11, fun e u hu => Nat.lt_succ_of_lt (w12 e u hu)⟩
    show td e < max (n + 1) 1
    have := w10 e
    omega
  · have e := tx_ok_y (T := (n, dy, ch, lw, kd, wo, ha, we, td, bo)) (x := (121, x1, x2, x3, x4)) rfl
    rw [e.2]
    have hq : 1 ≤ x1 ∧ x1 ≤ 20 := of_decide_eq_true (e.1.symm.trans hok)
    exact ⟨w1, hq, w3, w4, w5, w6, w7, w8, fun _ => by show 0 < 4; decide, fun _ => by show 0 < max n 1; omega, fun _ _ => ⟨rfl, rfl⟩, fun _ _ h => by cases h⟩

/-! reading to the end; a fault of the first kind -/
def tx_rn : Nat ⊕ (Nat × tx_TT) → Int
  | .inl a => -2000 - (a : Int)
  | .inr x => (x.1 : Int)
theorem tx_sc_end {tl : Nat → Nat} {tz k a : Nat} (h : tz ≤ a) : tx_sc tl tz k a = none := by
  cases k with
  | zero => rfl
  | succ k => rw [tx_sc, if_neg (by omega)]
theorem tx_sc_s {tl : Nat → Nat} {tz k a : Nat} (h : a < tz) (hs : (tx_rs tl tz a).2.isSome = true) : tx_sc tl tz (k + 1) a = tx_sc tl tz k (tx_rs tl tz a).1 := by
  rw [tx_sc, if_pos h]
  cases q : (tx_rs tl tz a).2 with
  | none => rw [q] at hs; cases hs
  | some x => rfl
theorem tx_sc_n {tl : Nat → Nat} {tz k a : Nat} (h : a < tz) (hs : (tx_rs tl tz a).2.isSome = false) : tx_sc tl tz (k + 1) a = some (tx_rs tl tz a).1 := by
  rw [tx_sc, if_pos h]
  cases q : (tx_rs tl tz a).2 with
  | none => rfl
  | some x => rw [q] at hs; cases hs
theorem tx_run_end {tl : Nat → Nat} {tz k a n : Nat} {T : tx_TT} (h : tz ≤ a) : tx_run tl tz k a n T = .inr (n, T) := by
  cases k with
  | zero => rfl
  | succ k => rw [tx_run, if_neg (by omega)]
theorem tx_run_s {tl : Nat → Nat} {tz k a n : Nat} {T : tx_TT} {x : tx_st} (h : a < tz) (hx : (tx_rs tl tz a).2 = some x) (ho : tx_ok T x = true) : tx_run tl tz (k + 1) a n T = tx_run tl tz k (tx_rs tl tz a).1 (n + 1) (tx_do T x) := by
  rw [tx_run, if_pos h, hx]
  exact if_pos ho
theorem tx_run_f {tl : Nat → Nat} {tz k a n : Nat} {T : tx_TT} {x : tx_st} (h : a < tz) (hx : (tx_rs tl tz a).2 = some x) (ho : tx_ok T x = false) : tx_run tl tz (k + 1) a n T = .inl a := by
  rw [tx_run, if_pos h, hx]
  exact if_neg (by rw [ho]; decide)
theorem tx_run_n {tl : Nat → Nat} {tz k a n : Nat} {T : tx_TT} (h : a < tz) (hx : (tx_rs tl tz a).2.isSome = false) : tx_run tl tz (k + 1) a n T = .inl a := by
  rw [tx_run, if_pos h]
  cases q : (tx_rs tl tz a).2 with
  | none => rfl
  | some x => rw [q] at hx; cases hx
