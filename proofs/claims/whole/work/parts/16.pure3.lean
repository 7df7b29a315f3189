/-! PURE: refusals; the reference's own ways through a year -/
def tx_rf (rf : Nat → Nat) (q : Nat) : Nat → Nat := if q = 0 then rf else va_up rf q (rf q + 1)
theorem tx_rf_0 (rf : Nat → Nat) : tx_rf rf 0 = rf := rfl
def tx_lm (n : Nat) (kd td : Nat → Nat) : Nat → Nat
  | 0 => 0
  | i + 1 => if tx_tx n kd (td i) = true then max (tx_lm n kd td i) (tx_pl td i) else tx_lm n kd td i
theorem tx_en_lo (b : Bool) (k : Nat) (x : tx_5) : (tx_en b k x).2.1 = if b = true then max x.2.1 k else x.2.1 := by
  unfold tx_en
  split
  · show (if x.2.1 < k then k else x.2.1) = max x.2.1 k
    split <;> omega
  · rfl
theorem tx_lm_T (n : Nat) (kd td : Nat → Nat) : ∀ i, tx_lm n kd td (i + 1) = (tx_T n kd td (i + 1)).2.1
  | 0 => by
    unfold tx_T
    rw [tx_en_lo]
    rfl
  | i + 1 => by
    have ih := tx_lm_T n kd td i
    unfold tx_T at ih ⊢
    rw [tx_en_lo] at ih ⊢
    rw [tx_lm, ih]
    simp only [Nat.add_sub_cancel]
    by_cases e : td (i + 1) = td i
    · rw [tx_E, if_pos e, e, tx_pl, if_pos e]
      split <;> omega
    · rw [tx_E, if_neg e, tx_en_lo]
theorem tx_lm_le (n : Nat) (kd td : Nat → Nat) : ∀ i, tx_lm n kd td i ≤ i
  | 0 => Nat.le_refl _
  | i + 1 => by
    have := tx_lm_le n kd td i
    have := tx_pl_le td i
    rw [tx_lm]
    split <;> omega
theorem tx_en_sh {b : Bool} {k : Nat} {x : tx_5} (hk : 1 ≤ k) (h : x.1 = 0 ↔ x.2.2.2.1 = 0) : (tx_en b k x).1 = 0 ↔ (tx_en b k x).2.2.2.1 = 0 := by
  unfold tx_en
  split
  · show x.1 + 1 = 0 ↔ (if x.1 = 0 then k else min x.2.2.2.1 k) = 0
    by_cases h0 : x.1 = 0
    · rw [if_pos h0]
      omega
    · rw [if_neg h0]
      have := mt h.mpr h0
      omega
  · exact h
theorem tx_E_sh (n : Nat) (kd td : Nat → Nat) : ∀ j, (tx_E n kd td j).1 = 0 ↔ (tx_E n kd td j).2.2.2.1 = 0
  | 0 => Iff.rfl
  | j + 1 => by
    have h := tx_E_sh n kd td j
    unfold tx_E
    split
    · exact h
    · exact tx_en_sh (tx_pl_le td j).1 h
/-- the ends among the first i of dy days -/
def tx_G (n : Nat) (kd td : Nat → Nat) (dy i : Nat) : tx_5 := if i < dy then tx_E n kd td i else tx_T n kd td dy
theorem tx_G_0 {n : Nat} {kd td : Nat → Nat} {dy : Nat} (h : 1 ≤ dy) : tx_G n kd td dy 0 = (0, 0, 0, 0, 0) := by
  unfold tx_G
  rw [if_pos (by omega)]
  rfl
theorem tx_G_l {n : Nat} {kd td : Nat → Nat} {dy i : Nat} (hi : i < dy) (h : i + 1 = dy ∨ td (i + 1) ≠ td i) : tx_G n kd td dy (i + 1) = tx_en (tx_tx n kd (td i)) (tx_pl td i) (tx_G n kd td dy i) := by
  unfold tx_G
  rw [if_pos hi]
  by_cases e : i + 1 = dy
  · rw [if_neg (by omega), ← e]
    rfl
  · rw [if_pos (by omega), tx_E, if_neg (by rcases h with h | h; exact absurd h e; exact h)]
theorem tx_G_n {n : Nat} {kd td : Nat → Nat} {dy i : Nat} (hi : i < dy) (h : ¬ (i + 1 = dy ∨ td (i + 1) ≠ td i)) : tx_G n kd td dy (i + 1) = tx_G n kd td dy i := by
  have h1 : i + 1 ≠ dy := fun q => h (Or.inl q)
  have h2 : td (i + 1) = td i := Decidable.byContradiction fun q => h (Or.inr q)
  unfold tx_G
  rw [if_pos hi, if_pos (by omega), tx_E, if_pos h2]
theorem tx_G_le {n : Nat} {kd td : Nat → Nat} {dy i : Nat} (hi : i < dy) : (tx_G n kd td dy i).1 ≤ i ∧ (tx_G n kd td dy i).2.1 ≤ i ∧ (tx_G n kd td dy i).2.2.1 ≤ i ∧ (tx_G n kd td dy i).2.2.2.1 ≤ i := by
  unfold tx_G
  rw [if_pos hi]
  exact tx_E_le n kd td i
theorem tx_G_sh {n : Nat} {kd td : Nat → Nat} {dy i : Nat} (hi : i < dy) : (tx_G n kd td dy i).1 = 0 ↔ (tx_G n kd td dy i).2.2.2.1 = 0 := by
  unfold tx_G
  rw [if_pos hi]
  exact tx_E_sh n kd td i
theorem tx_G_dy {n : Nat} {kd td : Nat → Nat} {dy : Nat} : tx_G n kd td dy dy = tx_T n kd td dy := by
  unfold tx_G
  rw [if_neg (by omega)]
theorem tx_en_f {k : Nat} {x : tx_5} {b : Bool} (h : b = false) : tx_en b k x = x := by subst h; rfl
theorem tx_en_t {k : Nat} {x : tx_5} {b : Bool} (h : b = true) (hs : x.1 = 0 ↔ x.2.2.2.1 = 0) : tx_en b k x = (x.1 + 1, (if x.2.1 < k then k else x.2.1), (if x.2.1 < k then x.2.1 else if x.2.2.1 < k then k else x.2.2.1), (if x.2.2.2.1 = 0 ∨ k < x.2.2.2.1 then k else x.2.2.2.1), x.2.2.2.2 + k * k) := by
  subst h
  unfold tx_en
  rw [if_pos rfl]
  congr 3
  by_cases h0 : x.1 = 0
  · rw [if_pos h0, if_pos (Or.inl (hs.mp h0))]
  · rw [if_neg h0]
    have := mt hs.mpr h0
    by_cases h1 : k < x.2.2.2.1
    · rw [if_pos (Or.inr h1)]
      congr 1
      omega
    · rw [if_neg (by omega)]
      congr 1
      omega
theorem tx_within {v : Int32} {n : Nat} (hn : n < 2 ^ 31) : (decide (0 ≤ v) && decide (v ≤ iI ((n : Int) - 1))) = tx_has n v := by
  unfold tx_has
  congr 1
  refine decide_eq_decide.mpr ?_
  rw [Int32.le_iff_toInt_le, Int32.lt_iff_toInt_lt, iI_toInt (by omega) (by omega), nI_toInt hn]
  omega
theorem tx_and_f1 {P Q : Prop} [Decidable P] [Decidable Q] (h : ¬ P) : (decide P && decide Q) = false := by simp [h]
theorem tx_and_f2 {P Q : Prop} [Decidable P] [Decidable Q] (h : ¬ Q) : (decide P && decide Q) = false := by simp [h]
theorem tx_and_t {P Q : Prop} [Decidable P] [Decidable Q] (h : P) (h2 : Q) : (decide P && decide Q) = true := by simp [h, h2]
