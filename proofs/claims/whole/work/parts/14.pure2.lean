/-! PURE: a year looked at as a whole -/
abbrev tx_5 : Type := Nat × Nat × Nat × Nat × Nat
/-- a stretch of k days ends: counted, longest, second, shortest, squares -/
def tx_en (b : Bool) (k : Nat) (x : tx_5) : tx_5 := if b = true then (x.1 + 1, (if x.2.1 < k then k else x.2.1), (if x.2.1 < k then x.2.1 else if x.2.2.1 < k then k else x.2.2.1), (if x.1 = 0 then k else min x.2.2.2.1 k), x.2.2.2.2 + k * k) else x
def tx_E (n : Nat) (kd td : Nat → Nat) : Nat → tx_5
  | 0 => (0, 0, 0, 0, 0)
  | j + 1 => if td (j + 1) = td j then tx_E n kd td j else tx_en (tx_tx n kd (td j)) (tx_pl td j) (tx_E n kd td j)
def tx_T (n : Nat) (kd td : Nat → Nat) (dy : Nat) : tx_5 := tx_en (tx_tx n kd (td (dy - 1))) (tx_pl td (dy - 1)) (tx_E n kd td (dy - 1))
/-- changes on the days 1 .. j -/
def tx_cg (td : Nat → Nat) : Nat → Nat
  | 0 => 0
  | j + 1 => tx_cg td j + (if td (j + 1) = td j then 0 else 1)
def tx_pp (td : Nat → Nat) (i : Nat) : Nat := if i = 0 then 0 else tx_pl td (i - 1)
/-- what the first i days are worth -/
def tx_er (n : Nat) (kd wo ha we td : Nat → Nat) : Nat → Int
  | 0 => 0
  | i + 1 => tx_er n kd wo ha we td i + tx_vn n kd wo ha we (td i) (tx_pl td i)
theorem tx_en_le {b : Bool} {k m : Nat} {x : tx_5} (hk : k ≤ m + 1) (h : x.1 ≤ m ∧ x.2.1 ≤ m ∧ x.2.2.1 ≤ m ∧ x.2.2.2.1 ≤ m) : (tx_en b k x).1 ≤ m + 1 ∧ (tx_en b k x).2.1 ≤ m + 1 ∧ (tx_en b k x).2.2.1 ≤ m + 1 ∧ (tx_en b k x).2.2.2.1 ≤ m + 1 := by
  obtain ⟨h1, h2, h3, h4⟩ := h
  unfold tx_en
  split
  · refine ⟨by show x.1 + 1 ≤ m + 1; omega, ?_, ?_, ?_⟩
    · show (if x.2.1 < k then k else x.2.1) ≤ m + 1
      split <;> omega
    · show (if x.2.1 < k then x.2.1 else if x.2.2.1 < k then k else x.2.2.1) ≤ m + 1
      split <;> (try split) <;> omega
    · show (if x.1 = 0 then k else min x.2.2.2.1 k) ≤ m + 1
      split <;> omega
  · omega
theorem tx_E_le (n : Nat) (kd td : Nat → Nat) : ∀ j, (tx_E n kd td j).1 ≤ j ∧ (tx_E n kd td j).2.1 ≤ j ∧ (tx_E n kd td j).2.2.1 ≤ j ∧ (tx_E n kd td j).2.2.2.1 ≤ j
  | 0 => ⟨Nat.le_refl _, Nat.le_refl _, Nat.le_refl _, Nat.le_refl _⟩
  | j + 1 => by
    have h := tx_E_le n kd td j
    unfold tx_E
    split
    · omega
    · exact tx_en_le (tx_pl_le td j).2 h
theorem tx_pp_s {td : Nat → Nat} {i : Nat} (h : 0 < i) (e : td i = td (i - 1)) : tx_pp td (i + 1) = tx_pp td i + 1 := by
  obtain ⟨j, rfl⟩ : ∃ j, i = j + 1 := ⟨i - 1, by omega⟩
  rw [Nat.add_sub_cancel] at e
  try rw [Nat.add_sub_cancel]
  unfold tx_pp
  rw [if_neg (by omega), if_neg (by omega)]
  show tx_pl td (j + 1) = tx_pl td j + 1
  rw [tx_pl, if_pos e]
theorem tx_pp_n {td : Nat → Nat} {i : Nat} (h : 0 < i) (e : td i ≠ td (i - 1)) : tx_pp td (i + 1) = 1 := by
  obtain ⟨j, rfl⟩ : ∃ j, i = j + 1 := ⟨i - 1, by omega⟩
  rw [Nat.add_sub_cancel] at e
  try rw [Nat.add_sub_cancel]
  unfold tx_pp
  rw [if_neg (by omega)]
  show tx_pl td (j + 1) = 1
  rw [tx_pl, if_neg e]
theorem tx_pp_1 (td : Nat → Nat) (i : Nat) : tx_pp td (i + 1) = tx_pl td i := by
  unfold tx_pp
  rw [if_neg (by omega)]
  rfl
theorem tx_pp_le (td : Nat → Nat) (i : Nat) : tx_pp td i ≤ i := by
  unfold tx_pp
  split
  · omega
  · have := tx_pl_le td (i - 1)
    omega
theorem tx_E_s {n : Nat} {kd td : Nat → Nat} {i : Nat} (h : 0 < i) (e : td i = td (i - 1)) : tx_E n kd td i = tx_E n kd td (i - 1) := by
  obtain ⟨j, rfl⟩ : ∃ j, i = j + 1 := ⟨i - 1, by omega⟩
  rw [Nat.add_sub_cancel] at e
  try rw [Nat.add_sub_cancel]
  rw [tx_E, if_pos e]
theorem tx_E_n {n : Nat} {kd td : Nat → Nat} {i : Nat} (h : 0 < i) (e : td i ≠ td (i - 1)) : tx_E n kd td i = tx_en (tx_tx n kd (td (i - 1))) (tx_pp td i) (tx_E n kd td (i - 1)) := by
  obtain ⟨j, rfl⟩ : ∃ j, i = j + 1 := ⟨i - 1, by omega⟩
  rw [Nat.add_sub_cancel] at e
  try rw [Nat.add_sub_cancel]
  rw [tx_E, if_neg e, tx_pp_1]
theorem tx_cg_s {td : Nat → Nat} {i : Nat} (h : 0 < i) (e : td i = td (i - 1)) : tx_cg td i = tx_cg td (i - 1) := by
  obtain ⟨j, rfl⟩ : ∃ j, i = j + 1 := ⟨i - 1, by omega⟩
  rw [Nat.add_sub_cancel] at e
  try rw [Nat.add_sub_cancel]
  rw [tx_cg, if_pos e]
  rfl
theorem tx_cg_n {td : Nat → Nat} {i : Nat} (h : 0 < i) (e : td i ≠ td (i - 1)) : tx_cg td i = tx_cg td (i - 1) + 1 := by
  obtain ⟨j, rfl⟩ : ∃ j, i = j + 1 := ⟨i - 1, by omega⟩
  rw [Nat.add_sub_cancel] at e
  try rw [Nat.add_sub_cancel]
  rw [tx_cg, if_neg e]
theorem tx_cg_le (td : Nat → Nat) : ∀ j, tx_cg td j ≤ j
  | 0 => Nat.le_refl _
  | j + 1 => by
    have := tx_cg_le td j
    rw [tx_cg]
    split <;> omega
/-- what one pays by a law -/
def tx_tax (x : tx_5) (cg dd lw : Nat) : Nat := if lw = 1 then x.2.2.1 * x.2.2.1 else if lw = 2 then x.2.2.2.2 else if lw = 3 then 9 * cg else if lw = 4 then x.2.2.2.1 * x.2.2.2.1 else if lw = 5 then dd else x.2.1 * x.2.1
def tx_earn (n : Nat) (kd wo ha we td : Nat → Nat) (dy ch : Nat) : Int := tx_er n kd wo ha we td dy - (tx_cg td (dy - 1) : Int) * (ch : Int)
def tx_left (n : Nat) (kd wo ha we td : Nat → Nat) (dy ch lw : Nat) : Int := tx_earn n kd wo ha we td dy ch - (tx_tax (tx_T n kd td dy) (tx_cg td (dy - 1)) dy lw : Int)
/-- a draw -/
def tx_dr (z : Int32) (n : Nat) : Nat := z.toBitVec.toNat % 2 ^ 31 / 256 % n
theorem tx_dr_eq (z : Int32) {n : Nat} (h0 : 0 < n) (hn : n < 2 ^ 31) : (z &&& 2147483647) / 256 - (z &&& 2147483647) / 256 / nI n * nI n = nI (tx_dr z n) := by
  rw [pk_and z (m := 2147483647) 31 (by decide), show (256 : Int32) = nI 256 from rfl, pk_div (by omega) (by decide) (by decide), pk_rem (by omega) h0 hn]
  rfl
/-- the seed behind i days -/
def tx_dz (bo : Nat → Option Nat) (z : Int32) : Nat → Int32
  | 0 => z
  | i + 1 => match bo i with
    | some _ => tx_dz bo z i
    | none => tx_dz bo z i * 1664525 + 1013904223
def tx_dd (bo : Nat → Option Nat) (n : Nat) (z : Int32) (i : Nat) : Nat := match bo i with
  | some t => t
  | none => tx_dr (tx_dz bo z (i + 1)) n
