/-! PURE: judge, breaking, seeds: lemmas -/
def tx_q_on (im : Bool) : Nat := if im = true then 0 else 3
theorem tx_jf_s {sn td : Nat → Nat} : ∀ (k d i : Nat), d ≤ i → i < d + k → (∀ e, d ≤ e → e < i → tx_jd sn td e = false) → tx_jd sn td i = true → tx_jf sn td k d = some i
  | 0, d, i, h1, h2, _, _ => by omega
  | k + 1, d, i, h1, h2, h3, h4 => by
    rw [tx_jf]
    by_cases e : d = i
    · rw [e, if_pos h4]
    · rw [if_neg (by rw [h3 d (Nat.le_refl _) (by omega)]; decide)]
      exact tx_jf_s k (d + 1) i (by omega) (by omega) (fun e h5 h6 => h3 e (by omega) h6) h4
theorem tx_jf_n {sn td : Nat → Nat} : ∀ (k d : Nat), (∀ e, d ≤ e → e < d + k → tx_jd sn td e = false) → tx_jf sn td k d = none
  | 0, _, _ => rfl
  | k + 1, d, h => by
    rw [tx_jf, if_neg (by rw [h d (Nat.le_refl _) (by omega)]; decide)]
    exact tx_jf_n k (d + 1) (fun e h1 h2 => h e (by omega) (by omega))
theorem tx_jd_t {sn td : Nat → Nat} {d : Nat} (h1 : sn d ≠ 9) (h2 : sn d ≠ td d) : tx_jd sn td d = true := by
  unfold tx_jd
  rw [decide_eq_true h1, decide_eq_true h2]
  rfl
theorem tx_jd_9 {sn td : Nat → Nat} {d : Nat} (h1 : sn d = 9) : tx_jd sn td d = false := by
  unfold tx_jd
  rw [decide_eq_false (fun q => q h1), Bool.false_and]
theorem tx_jd_e {sn td : Nat → Nat} {d : Nat} (h1 : sn d = td d) : tx_jd sn td d = false := by
  unfold tx_jd
  rw [decide_eq_false (p := sn d ≠ td d) (fun q => q h1), Bool.and_false]
theorem tx_judge_s {sn td : Nat → Nat} {ss dy i : Nat} (h1 : i < ss) (h2 : i < dy) (h3 : ∀ e, e < i → tx_jd sn td e = false) (h4 : tx_jd sn td i = true) : tx_judge sn td ss dy = nI i := by
  unfold tx_judge
  rw [tx_jf_s (min ss dy) 0 i (Nat.zero_le _) (by omega) (fun e _ h => h3 e h) h4]
theorem tx_judge_n {sn td : Nat → Nat} {ss dy : Nat} (h3 : ∀ e, e < min ss dy → tx_jd sn td e = false) : tx_judge sn td ss dy = if ss < dy then nI ss else if dy < ss then nI dy else -9 := by
  unfold tx_judge
  rw [tx_jf_n (min ss dy) 0 (fun e _ h => h3 e (by omega))]
section TXB
variable {n : Nat} {kd wo ha we td : Nat → Nat} {bo : Nat → Option Nat} {dy ch lw : Nat}
theorem tx_bk1_b (h1 : ∀ t, wo t ≤ 9) (h2 : ∀ t, ha t ≤ 3) (h3 : ∀ t, we t ≤ 3) (h0 : 1 ≤ dy) (h4 : dy ≤ 21) (h5 : ch ≤ 9) (d : Nat) : ∀ (t : Nat) (x : Int × Int), -30000 ≤ x.1 ∧ x.1 ≤ 600 → -30000 ≤ (tx_bk1 n kd wo ha we td dy ch lw d t x).1 ∧ (tx_bk1 n kd wo ha we td dy ch lw d t x).1 ≤ 600
  | 0, x, h => h
  | t + 1, x, h => by
    have h6 := tx_bk1_b h1 h2 h3 h0 h4 h5 d t x h
    have h7 := tx_left_b (n := n) (kd := kd) (td := va_up td d t) (lw := lw) h1 h2 h3 h0 h4 h5
    rw [tx_bk1]
    split
    · exact h7
    · exact h6
theorem tx_bk_b (h1 : ∀ t, wo t ≤ 9) (h2 : ∀ t, ha t ≤ 3) (h3 : ∀ t, we t ≤ 3) (h0 : 1 ≤ dy) (h4 : dy ≤ 21) (h5 : ch ≤ 9) : ∀ d, -30000 ≤ (tx_bk n kd wo ha we td bo dy ch lw d).1 ∧ (tx_bk n kd wo ha we td bo dy ch lw d).1 ≤ 600
  | 0 => tx_left_b h1 h2 h3 h0 h4 h5
  | d + 1 => by
    have h6 := tx_bk_b h1 h2 h3 h0 h4 h5 d
    rw [tx_bk]
    split
    · exact h6
    · exact tx_bk1_b h1 h2 h3 h0 h4 h5 d n _ h6
theorem tx_bk1_y {d t : Nat} {x : Int × Int} (h : (tx_bk1 n kd wo ha we td dy ch lw d t x).1 < tx_left n kd wo ha we (va_up td d t) dy ch lw) : tx_bk1 n kd wo ha we td dy ch lw d (t + 1) x = (tx_left n kd wo ha we (va_up td d t) dy ch lw, ((10 * d + t : Nat) : Int)) := by
  rw [tx_bk1]
  exact if_pos h
theorem tx_bk1_n {d t : Nat} {x : Int × Int} (h : tx_left n kd wo ha we (va_up td d t) dy ch lw ≤ (tx_bk1 n kd wo ha we td dy ch lw d t x).1) : tx_bk1 n kd wo ha we td dy ch lw d (t + 1) x = tx_bk1 n kd wo ha we td dy ch lw d t x := by
  rw [tx_bk1]
  exact if_neg (by omega)
theorem tx_bk1_skip {d t : Nat} (h : t = td d) : tx_bk1 n kd wo ha we td dy ch lw d (t + 1) (tx_bk n kd wo ha we td bo dy ch lw d) = tx_bk1 n kd wo ha we td dy ch lw d t (tx_bk n kd wo ha we td bo dy ch lw d) := by
  refine tx_bk1_n ?_
  rw [h, tx_up_id]
  exact Int.le_trans (tx_bk_ge n kd wo ha we td bo dy ch lw d) (tx_bk1_ge n kd wo ha we td dy ch lw d _ _)
theorem tx_bk_n {d : Nat} (h : bo d = none) : tx_bk n kd wo ha we td bo dy ch lw (d + 1) = tx_bk1 n kd wo ha we td dy ch lw d n (tx_bk n kd wo ha we td bo dy ch lw d) := by
  rw [tx_bk, h]
  rfl
theorem tx_bk_s {d : Nat} {u : Nat} (h : bo d = some u) : tx_bk n kd wo ha we td bo dy ch lw (d + 1) = tx_bk n kd wo ha we td bo dy ch lw d := by
  rw [tx_bk, h]
  rfl
end TXB
theorem tx_has16 {v : Int32} (h1 : ¬ v < 11) (h2 : ¬ 16 < v) : ∃ j : Nat, 11 ≤ j ∧ j ≤ 16 ∧ v = nI j := by
  have h0 : ¬ v < 0 := fun q => h1 (Int32.lt_trans q (by decide))
  obtain ⟨j, hj, rfl⟩ := nI_of2 (M := 16) (n := 16) (by decide) h0 (Int32.not_lt.mp h2)
  refine ⟨j, ?_, hj, rfl⟩
  exact Nat.not_lt.mp fun q => h1 ((nI_ltI (a := j) (b := 11) (by omega) (by decide)).mpr q)
