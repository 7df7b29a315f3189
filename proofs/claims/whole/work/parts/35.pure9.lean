/-! PURE: a land: how great its answer is -/
theorem tx_run_b {tl : Nat → Nat} {tz : Nat} : ∀ (k a n : Nat) (T : tx_TT), a ≤ tz → -2000 - (tz : Int) ≤ tx_rn (tx_run tl tz k a n T) ∧ tx_rn (tx_run tl tz k a n T) ≤ (n : Int) + (k : Int)
  | 0, a, n, T, h => by
    rw [tx_run]
    show -2000 - (tz : Int) ≤ (n : Int) ∧ (n : Int) ≤ (n : Int) + 0
    omega
  | k + 1, a, n, T, h => by
    rw [tx_run]
    by_cases q : a < tz
    · rw [if_pos q]
      cases hx : (tx_rs tl tz a).2 with
      | none =>
        show -2000 - (tz : Int) ≤ -2000 - (a : Int) ∧ -2000 - (a : Int) ≤ (n : Int) + ((k + 1 : Nat) : Int)
        omega
      | some x =>
        by_cases ho : tx_ok T x = true
        · show -2000 - (tz : Int) ≤ tx_rn (if tx_ok T x = true then _ else _) ∧ tx_rn (if tx_ok T x = true then _ else _) ≤ _
          rw [if_pos ho]
          have := tx_run_b (tl := tl) k (tx_rs tl tz a).1 (n + 1) (tx_do T x) (tx_rs_b (tl := tl) h).1
          omega
        · show -2000 - (tz : Int) ≤ tx_rn (if tx_ok T x = true then _ else _) ∧ tx_rn (if tx_ok T x = true then _ else _) ≤ _
          rw [if_neg ho]
          show -2000 - (tz : Int) ≤ -2000 - (a : Int) ∧ -2000 - (a : Int) ≤ (n : Int) + ((k + 1 : Nat) : Int)
          omega
    · rw [if_neg q]
      show -2000 - (tz : Int) ≤ (n : Int) ∧ (n : Int) ≤ (n : Int) + ((k + 1 : Nat) : Int)
      omega
theorem tx_land_1 {tl : Nat → Nat} {tz p : Nat} {T : tx_TT} (h : tx_f1 tl tz = some p) : tx_land tl tz T = (-1000 - (p : Int), T) := by
  unfold tx_land
  rw [h]
theorem tx_land_2 {tl : Nat → Nat} {tz a : Nat} {T : tx_TT} (h : tx_f1 tl tz = none) (h2 : tx_run tl tz 80 0 0 T = .inl a) : tx_land tl tz T = (-2000 - (a : Int), T) := by
  unfold tx_land
  rw [h]
  dsimp only
  rw [h2]
theorem tx_land_3 {tl : Nat → Nat} {tz k : Nat} {T T2 : tx_TT} (h : tx_f1 tl tz = none) (h2 : tx_run tl tz 80 0 0 T = .inr (k, T2)) : tx_land tl tz T = ((k : Int), T2) := by
  unfold tx_land
  rw [h]
  dsimp only
  rw [h2]
/-- a statement without its sign -/
def tx_rq (tl : Nat → Nat) (tz a : Nat) : Nat × Option tx_st :=
  if a < tz then
    if tl a = 116 then
      if tx_kb tl tz (a + 1) = true then
        if tx_dg tl tz (a + 1 + 1) = true then
          if tx_dg tl tz (a + 1 + 1 + 1) = true then
            if tx_dg tl tz (a + 1 + 1 + 1 + 1) = true then (a + 1 + 1 + 1 + 1 + 1, some (116, (tx_ki (tl (a + 1))).toNat, tl (a + 1 + 1) - 48, tl (a + 1 + 1 + 1) - 48, tl (a + 1 + 1 + 1 + 1) - 48))
            else (a + 1 + 1 + 1 + 1, none)
          else (a + 1 + 1 + 1, none)
        else (a + 1 + 1, none)
      else (a + 1, none)
    else if tl a = 121 then
      if tx_dg tl tz (a + 1) = true then (a + 1 + tx_nl tl tz (a + 1), some (121, tx_nv tl tz (a + 1), 0, 0, 0)) else (a + 1, none)
    else if tl a = 99 ∨ tl a = 108 then
      if tx_dg tl tz (a + 1) = true then (a + 1 + 1, some (tl a, tl (a + 1) - 48, 0, 0, 0)) else (a + 1, none)
    else if tl a = 98 ∨ tl a = 100 then
      if tx_dg tl tz (a + 1) = true then
        if tx_sg tl tz 44 (a + 1 + tx_nl tl tz (a + 1)) = true then
          if tx_dg tl tz (a + 1 + tx_nl tl tz (a + 1) + 1) = true then (a + 1 + tx_nl tl tz (a + 1) + 1 + 1, some (tl a, tx_nv tl tz (a + 1), tl (a + 1 + tx_nl tl tz (a + 1) + 1) - 48, 0, 0))
          else (a + 1 + tx_nl tl tz (a + 1) + 1, none)
        else (a + 1 + tx_nl tl tz (a + 1), none)
      else (a + 1, none)
    else (a, none)
  else (a, none)
theorem tx_rq_rs (tl : Nat → Nat) (tz a : Nat) : tx_rs tl tz a = match (tx_rq tl tz a).2 with
    | none => ((tx_rq tl tz a).1, none)
    | some x => if tx_sg tl tz 59 (tx_rq tl tz a).1 = true then ((tx_rq tl tz a).1 + 1, some x) else ((tx_rq tl tz a).1, none) := by
  unfold tx_rs tx_rq
  by_cases h0 : a < tz
  · simp only [if_pos h0]
    by_cases h1 : tl a = 116
    · simp only [if_pos h1]
      (repeat' split) <;> first | rfl | (simp_all; done)
    · simp only [if_neg h1]
      by_cases h2 : tl a = 121
      · simp only [if_pos h2]
        (repeat' split) <;> first | rfl | (simp_all; done)
      · simp only [if_neg h2]
        by_cases h3 : tl a = 99 ∨ tl a = 108
        · simp only [if_pos h3]
          (repeat' split) <;> first | rfl | (simp_all; done)
        · simp only [if_neg h3]
          by_cases h4 : tl a = 98 ∨ tl a = 100
          · simp only [if_pos h4]
            (repeat' split) <;> first | rfl | (simp_all; done)
          · simp only [if_neg h4]
  · simp only [if_neg h0]
