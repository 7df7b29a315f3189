/-! PURE: a land, told in letters -/
def tx_lt (tl : Nat → Nat) (tz a : Nat) : Int := if a < tz then (tl a : Int) else -1
theorem tx_lt_b {tl : Nat → Nat} (h : ∀ e, tl e ≤ 255) (tz a : Nat) : -1 ≤ tx_lt tl tz a ∧ tx_lt tl tz a ≤ 255 := by
  have := h a
  unfold tx_lt
  split <;> omega
theorem tx_lt_p {tl : Nat → Nat} {tz a : Nat} (h : a < tz) : tx_lt tl tz a = (tl a : Int) := if_pos h
theorem tx_lt_in {tl : Nat → Nat} {tz a : Nat} (h : 0 ≤ tx_lt tl tz a) : a < tz ∧ tx_lt tl tz a = (tl a : Int) := by
  unfold tx_lt at h ⊢
  by_cases q : a < tz
  · rw [if_pos q]
    exact ⟨q, rfl⟩
  · rw [if_neg q] at h
    omega
def tx_sg (tl : Nat → Nat) (tz x a : Nat) : Bool := decide (a < tz ∧ tl a = x)
def tx_dg (tl : Nat → Nat) (tz a : Nat) : Bool := decide (a < tz ∧ 48 ≤ tl a ∧ tl a ≤ 57)
def tx_kb (tl : Nat → Nat) (tz a : Nat) : Bool := decide (a < tz ∧ 0 ≤ tx_ki (tl a))
def tx_ad (b : Bool) (a : Nat) : Nat := if b = true then a + 1 else a
def tx_dn (b : Bool) (nu : Nat → Nat) (k x : Nat) : Nat → Nat := if b = true then va_up nu k x else nu
/-- how many letters a number has here; what it is -/
def tx_nl (tl : Nat → Nat) (tz a : Nat) : Nat := if tx_dg tl tz a = true then (if tx_dg tl tz (a + 1) = true then 2 else 1) else 0
def tx_nv (tl : Nat → Nat) (tz a : Nat) : Nat := if tx_dg tl tz (a + 1) = true then 10 * (tl a - 48) + (tl (a + 1) - 48) else tl a - 48
abbrev tx_st : Type := Nat × Nat × Nat × Nat × Nat
/-- a statement is read: where it ends, or the place with which it can't go on; what it is -/
def tx_rs (tl : Nat → Nat) (tz a : Nat) : Nat × Option tx_st :=
  if a < tz then
    if tl a = 116 then
      if tx_kb tl tz (a + 1) = true then
        if tx_dg tl tz (a + 1 + 1) = true then
          if tx_dg tl tz (a + 1 + 1 + 1) = true then
            if tx_dg tl tz (a + 1 + 1 + 1 + 1) = true then
              if tx_sg tl tz 59 (a + 1 + 1 + 1 + 1 + 1) = true then (a + 1 + 1 + 1 + 1 + 1 + 1, some (116, (tx_ki (tl (a + 1))).toNat, tl (a + 1 + 1) - 48, tl (a + 1 + 1 + 1) - 48, tl (a + 1 + 1 + 1 + 1) - 48)) else (a + 1 + 1 + 1 + 1 + 1, none)
            else (a + 1 + 1 + 1 + 1, none)
          else (a + 1 + 1 + 1, none)
        else (a + 1 + 1, none)
      else (a + 1, none)
    else if tl a = 121 then
      if tx_dg tl tz (a + 1) = true then
        if tx_sg tl tz 59 (a + 1 + tx_nl tl tz (a + 1)) = true then (a + 1 + tx_nl tl tz (a + 1) + 1, some (121, tx_nv tl tz (a + 1), 0, 0, 0)) else (a + 1 + tx_nl tl tz (a + 1), none)
      else (a + 1, none)
    else if tl a = 99 ∨ tl a = 108 then
      if tx_dg tl tz (a + 1) = true then
        if tx_sg tl tz 59 (a + 1 + 1) = true then (a + 1 + 1 + 1, some (tl a, tl (a + 1) - 48, 0, 0, 0)) else (a + 1 + 1, none)
      else (a + 1, none)
    else if tl a = 98 ∨ tl a = 100 then
      if tx_dg tl tz (a + 1) = true then
        if tx_sg tl tz 44 (a + 1 + tx_nl tl tz (a + 1)) = true then
          if tx_dg tl tz (a + 1 + tx_nl tl tz (a + 1) + 1) = true then
            if tx_sg tl tz 59 (a + 1 + tx_nl tl tz (a + 1) + 1 + 1) = true then (a + 1 + tx_nl tl tz (a + 1) + 1 + 1 + 1, some (tl a, tx_nv tl tz (a + 1), tl (a + 1 + tx_nl tl tz (a + 1) + 1) - 48, 0, 0)) else (a + 1 + tx_nl tl tz (a + 1) + 1 + 1, none)
          else (a + 1 + tx_nl tl tz (a + 1) + 1, none)
        else (a + 1 + tx_nl tl tz (a + 1), none)
      else (a + 1, none)
    else (a, none)
  else (a, none)
/-- the class's row of numbers holds the statement -/
def tx_nd (nu : Nat → Nat) (hz : Int) (x : tx_st) : Prop := hz = (x.1 : Int) ∧ nu 0 = x.2.1 ∧ ((x.1 = 98 ∨ x.1 = 100 ∨ x.1 = 116) → nu 1 = x.2.2.1) ∧ (x.1 = 116 → nu 2 = x.2.2.2.1 ∧ nu 3 = x.2.2.2.2)
theorem tx_sg_t {tl : Nat → Nat} {tz x a : Nat} (h : tx_sg tl tz x a = true) : a < tz ∧ tl a = x := of_decide_eq_true h
theorem tx_dg_t {tl : Nat → Nat} {tz a : Nat} (h : tx_dg tl tz a = true) : a < tz ∧ 48 ≤ tl a ∧ tl a ≤ 57 := of_decide_eq_true h
theorem tx_kb_t {tl : Nat → Nat} {tz a : Nat} (h : tx_kb tl tz a = true) : a < tz ∧ 0 ≤ tx_ki (tl a) := of_decide_eq_true h
theorem tx_nl_b (tl : Nat → Nat) (tz a : Nat) : tx_nl tl tz a ≤ 2 ∧ (tx_dg tl tz a = true → 1 ≤ tx_nl tl tz a ∧ a + tx_nl tl tz a ≤ tz) ∧ (tx_dg tl tz a = false → tx_nl tl tz a = 0) := by
  unfold tx_nl
  refine ⟨by (repeat' split) <;> omega, fun h => ?_, fun h => ?_⟩
  · have h1 := (tx_dg_t h).1
    rw [if_pos h]
    split
    · rename_i h2
      have := (tx_dg_t h2).1
      omega
    · omega
  · rw [if_neg (by rw [h]; decide)]
theorem tx_nv_b {tl : Nat → Nat} {tz a : Nat} (h : tx_dg tl tz a = true) : tx_nv tl tz a ≤ 99 := by
  have h1 := tx_dg_t h
  unfold tx_nv
  split
  · rename_i h2
    have := tx_dg_t h2
    omega
  · omega
/-- a statement that is read goes forward, and not beyond the end -/
theorem tx_rs_b {tl : Nat → Nat} {tz a : Nat} (h : a ≤ tz) : (tx_rs tl tz a).1 ≤ tz ∧ a ≤ (tx_rs tl tz a).1 ∧ ((tx_rs tl tz a).2.isSome = true → a < (tx_rs tl tz a).1 ∧ a < tz) := by
  have hn := tx_nl_b tl tz (a + 1)
  unfold tx_rs
  (repeat' split) <;> (dsimp only) <;> (simp only [tx_sg, tx_dg, tx_kb, decide_eq_true_eq, decide_eq_false_iff_not] at *) <;> refine ⟨?_, ?_, fun q => ?_⟩ <;> first | omega | (exact absurd q (by decide))
abbrev tx_TT : Type := Nat × Nat × Nat × Nat × (Nat → Nat) × (Nat → Nat) × (Nat → Nat) × (Nat → Nat) × (Nat → Nat) × (Nat → Option Nat)
/-- a statement is as it must be -/
def tx_ok (T : tx_TT) (x : tx_st) : Bool :=
  if x.1 = 116 then decide (T.1 < 4 ∧ x.2.2.1 ≤ 9 ∧ x.2.2.2.1 ≤ 3 ∧ x.2.2.2.2 ≤ 3)
  else if x.1 = 121 then decide (1 ≤ x.2.1 ∧ x.2.1 ≤ 20)
  else if x.1 = 99 then true
  else if x.1 = 108 then decide (x.2.1 ≤ 5)
  else if x.1 = 98 then decide (x.2.1 < T.2.1 ∧ (x.2.2.1 = 9 ∨ x.2.2.1 < T.1))
  else decide (x.2.1 < T.2.1 ∧ x.2.2.1 < T.1 ∧ tx_be T.2.2.2.2.2.2.2.2.2 x.2.1 x.2.2.1 = false)
/-- and comes -/
def tx_do (T : tx_TT) (x : tx_st) : tx_TT :=
  if x.1 = 116 then (T.1 + 1, T.2.1, T.2.2.1, T.2.2.2.1, va_up T.2.2.2.2.1 T.1 x.2.1, va_up T.2.2.2.2.2.1 T.1 x.2.2.1, va_up T.2.2.2.2.2.2.1 T.1 x.2.2.2.1, va_up T.2.2.2.2.2.2.2.1 T.1 x.2.2.2.2, T.2.2.2.2.2.2.2.2.1, T.2.2.2.2.2.2.2.2.2)
  else if x.1 = 121 then (T.1, x.2.1, T.2.2.1, T.2.2.2.1, T.2.2.2.2.1, T.2.2.2.2.2.1, T.2.2.2.2.2.2.1, T.2.2.2.2.2.2.2.1, (fun _ => 0), (fun _ => none))
  else if x.1 = 99 then (T.1, T.2.1, x.2.1, T.2.2.2)
  else if x.1 = 108 then (T.1, T.2.1, T.2.2.1, x.2.1, T.2.2.2.2)
  else if x.1 = 98 then (if x.2.2.1 = 9 then (T.1, T.2.1, T.2.2.1, T.2.2.2.1, T.2.2.2.2.1, T.2.2.2.2.2.1, T.2.2.2.2.2.2.1, T.2.2.2.2.2.2.2.1, T.2.2.2.2.2.2.2.2.1, va_up T.2.2.2.2.2.2.2.2.2 x.2.1 none) else (T.1, T.2.1, T.2.2.1, T.2.2.2.1, T.2.2.2.2.1, T.2.2.2.2.2.1, T.2.2.2.2.2.2.1, T.2.2.2.2.2.2.2.1, va_up T.2.2.2.2.2.2.2.2.1 x.2.1 x.2.2.1, va_up T.2.2.2.2.2.2.2.2.2 x.2.1 (some x.2.2.1)))
  else (T.1, T.2.1, T.2.2.1, T.2.2.2.1, T.2.2.2.2.1, T.2.2.2.2.2.1, T.2.2.2.2.2.2.1, T.2.2.2.2.2.2.2.1, va_up T.2.2.2.2.2.2.2.2.1 x.2.1 x.2.2.1, T.2.2.2.2.2.2.2.2.2)
/-- the statements from a place on are read: the place of the fault -/
def tx_sc (tl : Nat → Nat) (tz : Nat) : Nat → Nat → Option Nat
  | 0, _ => none
  | k + 1, a => if a < tz then (match (tx_rs tl tz a).2 with
    | some _ => tx_sc tl tz k (tx_rs tl tz a).1
    | none => some (tx_rs tl tz a).1) else none
/-- they come: the place of a statement that is not as it must be, or how many, and what is told then -/
def tx_run (tl : Nat → Nat) (tz : Nat) : Nat → Nat → Nat → tx_TT → Nat ⊕ (Nat × tx_TT)
  | 0, _, n, T => .inr (n, T)
  | k + 1, a, n, T => if a < tz then (match (tx_rs tl tz a).2 with
    | some x => if tx_ok T x = true then tx_run tl tz k (tx_rs tl tz a).1 (n + 1) (tx_do T x) else .inl a
    | none => .inl a) else .inr (n, T)
def tx_f1 (tl : Nat → Nat) (tz : Nat) : Option Nat := if tz = 0 then some 0 else tx_sc tl tz 80 0
def tx_land (tl : Nat → Nat) (tz : Nat) (T : tx_TT) : Int × tx_TT := match tx_f1 tl tz with
  | some p => (-1000 - (p : Int), T)
  | none => match tx_run tl tz 80 0 0 T with
    | .inl a => (-2000 - (a : Int), T)
    | .inr (k, T2) => ((k : Int), T2)
/-- what is told is as it may be -/
def tx_wt (T : tx_TT) : Prop := T.1 ≤ 4 ∧ (1 ≤ T.2.1 ∧ T.2.1 ≤ 20) ∧ T.2.2.1 ≤ 9 ∧ T.2.2.2.1 ≤ 5 ∧ (∀ e, T.2.2.2.2.1 e ≤ 5) ∧ (∀ e, T.2.2.2.2.2.1 e ≤ 9) ∧ (∀ e, T.2.2.2.2.2.2.1 e ≤ 3) ∧ (∀ e, T.2.2.2.2.2.2.2.1 e ≤ 3) ∧ (∀ e, T.2.2.2.2.2.2.2.2.1 e < 4) ∧ (∀ e, T.2.2.2.2.2.2.2.2.1 e < max T.1 1) ∧ (∀ e, 20 ≤ e → T.2.2.2.2.2.2.2.2.1 e = 0 ∧ T.2.2.2.2.2.2.2.2.2 e = none) ∧ (∀ e u, T.2.2.2.2.2.2.2.2.2 e = some u → u < T.1)
theorem tx_wt_b {T : tx_TT} (h : tx_wt T) : tx_okb T.2.2.2.2.2.2.2.2.2 := fun d u q => Nat.lt_of_lt_of_le (h.2.2.2.2.2.2.2.2.2.2.2 d u q) h.1
theorem tx_il_n {x : Nat} (h : x < 2 ^ 31) : tx_il (nI x) = decide (x ≤ 5) := by
  unfold tx_il
  rw [decide_eq_true (nI_pos' h), Bool.true_and]
  exact decide_eq_decide.mpr (nI_leI (a := x) (b := 5) h (by decide))
