/-! PURE: the image; the years by seeds; breaking -/
theorem bf_upB (g g2 : Nat → Option Nat) (k j : Nat) : upd (tx_bf g) k (tx_bf g2 j) = tx_bf (va_up g k (g2 j)) := by
  funext i
  unfold upd tx_bf va_up
  by_cases h : i = k
  · rw [if_pos h, if_pos h]
  · rw [if_neg h, if_neg h]
def tx_kp (n dy ch lw : Nat) (kd wo ha we td : Nat → Nat) (bo : Nat → Option Nat) : Nat → Int32 := fun i =>
  if i < 20 then nI (td i) else if i < 40 then tx_bf bo (i - 20) else if i < 44 then nI (kd (i - 40)) else if i < 48 then nI (wo (i - 44)) else if i < 52 then nI (ha (i - 48)) else if i < 56 then nI (we (i - 52))
  else if i = 56 then nI n else if i = 57 then nI dy else if i = 58 then nI ch else nI lw
section TXK
variable {n dy ch lw : Nat} {kd wo ha we td : Nat → Nat} {bo : Nat → Option Nat} {f : Nat → Int32}
theorem tx_kp_of (h20 : ∀ k, k < 20 → f k = nI (td k) ∧ f (20 + k) = tx_bf bo k) (h4 : ∀ k, k < 4 → f (40 + k) = nI (kd k) ∧ f (44 + k) = nI (wo k) ∧ f (48 + k) = nI (ha k) ∧ f (52 + k) = nI (we k)) (h56 : f 56 = nI n) (h57 : f 57 = nI dy) (h58 : f 58 = nI ch) (h59 : f 59 = nI lw) : ∀ i, i < 60 → f i = tx_kp n dy ch lw kd wo ha we td bo i := by
  intro i hi
  unfold tx_kp
  by_cases a1 : i < 20
  · rw [if_pos a1]
    exact (h20 i a1).1
  rw [if_neg a1]
  by_cases a2 : i < 40
  · rw [if_pos a2]
    have z := (h20 (i - 20) (by omega)).2
    rwa [show 20 + (i - 20) = i by omega] at z
  rw [if_neg a2]
  by_cases a3 : i < 44
  · rw [if_pos a3]
    have z := (h4 (i - 40) (by omega)).1
    rwa [show 40 + (i - 40) = i by omega] at z
  rw [if_neg a3]
  by_cases a4 : i < 48
  · rw [if_pos a4]
    have z := (h4 (i - 44) (by omega)).2.1
    rwa [show 44 + (i - 44) = i by omega] at z
  rw [if_neg a4]
  by_cases a5 : i < 52
  · rw [if_pos a5]
    have z := (h4 (i - 48) (by omega)).2.2.1
    rwa [show 48 + (i - 48) = i by omega] at z
  rw [if_neg a5]
  by_cases a6 : i < 56
  · rw [if_pos a6]
    have z := (h4 (i - 52) (by omega)).2.2.2
    rwa [show 52 + (i - 52) = i by omega] at z
  rw [if_neg a6]
  rcases (show i = 56 ∨ i = 57 ∨ i = 58 ∨ i = 59 by omega) with rfl | rfl | rfl | rfl
  · exact h56
  · exact h57
  · exact h58
  · exact h59
theorem tx_kp_t {i : Nat} (h : i < 20) : tx_kp n dy ch lw kd wo ha we td bo i = nI (td i) := if_pos h
theorem tx_kp_b {i : Nat} (h : i < 20) : tx_kp n dy ch lw kd wo ha we td bo (20 + i) = tx_bf bo i := by
  unfold tx_kp
  rw [if_neg (by omega), if_pos (by omega)]
  congr 1
  omega
theorem tx_kp_1 {i : Nat} (h : i < 4) : tx_kp n dy ch lw kd wo ha we td bo (40 + i) = nI (kd i) := by
  unfold tx_kp
  rw [if_neg (by omega), if_neg (by omega), if_pos (by omega)]
  congr 2
  omega
theorem tx_kp_2 {i : Nat} (h : i < 4) : tx_kp n dy ch lw kd wo ha we td bo (44 + i) = nI (wo i) := by
  unfold tx_kp
  rw [if_neg (by omega), if_neg (by omega), if_neg (by omega), if_pos (by omega)]
  congr 2
  omega
theorem tx_kp_3 {i : Nat} (h : i < 4) : tx_kp n dy ch lw kd wo ha we td bo (48 + i) = nI (ha i) := by
  unfold tx_kp
  rw [if_neg (by omega), if_neg (by omega), if_neg (by omega), if_neg (by omega), if_pos (by omega)]
  congr 2
  omega
theorem tx_kp_4 {i : Nat} (h : i < 4) : tx_kp n dy ch lw kd wo ha we td bo (52 + i) = nI (we i) := by
  unfold tx_kp
  rw [if_neg (by omega), if_neg (by omega), if_neg (by omega), if_neg (by omega), if_neg (by omega), if_pos (by omega)]
  congr 2
  omega
end TXK
/-- the thing that is done cannot be better than what is left now, so trying it changes nothing -/
theorem tx_up_id (td : Nat → Nat) (d : Nat) : va_up td d (td d) = td := by
  funext e
  by_cases q : e = d
  · rw [q, va_up_self]
  · rw [va_up_ne _ _ q]
theorem tx_up_up {α : Type} (f : Nat → α) (d : Nat) (a b : α) : va_up (va_up f d a) d b = va_up f d b := by
  funext e
  by_cases q : e = d
  · rw [q, va_up_self, va_up_self]
  · rw [va_up_ne _ _ q, va_up_ne _ _ q, va_up_ne _ _ q]
theorem tx_bk1_ge (n : Nat) (kd wo ha we td : Nat → Nat) (dy ch lw d : Nat) : ∀ (t : Nat) (x : Int × Int), x.1 ≤ (tx_bk1 n kd wo ha we td dy ch lw d t x).1
  | 0, x => Int.le_refl _
  | t + 1, x => by
    have h := tx_bk1_ge n kd wo ha we td dy ch lw d t x
    rw [tx_bk1]
    split
    · show x.1 ≤ _
      omega
    · exact h
theorem tx_bk_ge (n : Nat) (kd wo ha we td : Nat → Nat) (bo : Nat → Option Nat) (dy ch lw : Nat) : ∀ d, tx_left n kd wo ha we td dy ch lw ≤ (tx_bk n kd wo ha we td bo dy ch lw d).1
  | 0 => Int.le_refl _
  | d + 1 => by
    have h := tx_bk_ge n kd wo ha we td bo dy ch lw d
    rw [tx_bk]
    split
    · exact h
    · exact Int.le_trans h (tx_bk1_ge n kd wo ha we td dy ch lw d n _)
/-- bounds -/
theorem tx_vl_b {kd wo ha we : Nat → Nat} {t k : Nat} (h1 : wo t ≤ 9) (h2 : ha t ≤ 3) (h3 : we t ≤ 3) : -6 ≤ tx_vl kd wo ha we t k ∧ tx_vl kd wo ha we t k ≤ 24 := by
  unfold tx_vl tx_wv
  (repeat' split) <;> omega
theorem tx_vn_b {n : Nat} {kd wo ha we : Nat → Nat} {t k : Nat} (h1 : wo t ≤ 9) (h2 : ha t ≤ 3) (h3 : we t ≤ 3) : -6 ≤ tx_vn n kd wo ha we t k ∧ tx_vn n kd wo ha we t k ≤ 24 := by
  unfold tx_vn
  split
  · exact tx_vl_b h1 h2 h3
  · omega
theorem tx_er_b {n : Nat} {kd wo ha we td : Nat → Nat} (h1 : ∀ t, wo t ≤ 9) (h2 : ∀ t, ha t ≤ 3) (h3 : ∀ t, we t ≤ 3) : ∀ i : Nat, -6 * (i : Int) ≤ tx_er n kd wo ha we td i ∧ tx_er n kd wo ha we td i ≤ 24 * (i : Int)
  | 0 => by simp [tx_er]
  | i + 1 => by
    have h := tx_er_b (n := n) (kd := kd) (td := td) h1 h2 h3 i
    have hv := tx_vn_b (n := n) (kd := kd) (k := tx_pl td i) (h1 (td i)) (h2 (td i)) (h3 (td i))
    rw [tx_er]
    omega
theorem tx_en_sq {b : Bool} {k m : Nat} {x : tx_5} (hk : k ≤ 22) (h : x.2.2.2.2 ≤ 500 * m) : (tx_en b k x).2.2.2.2 ≤ 500 * (m + 1) := by
  unfold tx_en
  split
  · show x.2.2.2.2 + k * k ≤ 500 * (m + 1)
    have : k * k ≤ 22 * 22 := Nat.mul_le_mul hk hk
    omega
  · omega
theorem tx_E_sq (n : Nat) (kd td : Nat → Nat) : ∀ j, j ≤ 21 → (tx_E n kd td j).2.2.2.2 ≤ 500 * j
  | 0, _ => Nat.le_refl _
  | j + 1, hj => by
    have h := tx_E_sq n kd td j (by omega)
    unfold tx_E
    split
    · omega
    · exact tx_en_sq (by have := tx_pl_le td j; omega) h
theorem tx_tax_b (n : Nat) (kd td : Nat → Nat) {dy lw : Nat} (h1 : 1 ≤ dy) (h2 : dy ≤ 21) : tx_tax (tx_T n kd td dy) (tx_cg td (dy - 1)) dy lw ≤ 20000 := by
  have hE := tx_E_le n kd td (dy - 1)
  have hq := tx_E_sq n kd td (dy - 1) (by omega)
  have hp := tx_pl_le td (dy - 1)
  have hT := tx_en_le (b := tx_tx n kd (td (dy - 1))) (k := tx_pl td (dy - 1)) (m := dy - 1) (x := tx_E n kd td (dy - 1)) hp.2 hE
  have hS := tx_en_sq (b := tx_tx n kd (td (dy - 1))) (k := tx_pl td (dy - 1)) (m := dy - 1) (x := tx_E n kd td (dy - 1)) (by omega) hq
  have hc := tx_cg_le td (dy - 1)
  unfold tx_tax tx_T
  generalize tx_en (tx_tx n kd (td (dy - 1))) (tx_pl td (dy - 1)) (tx_E n kd td (dy - 1)) = y at hT hS ⊢
  have m1 : y.2.1 * y.2.1 ≤ 21 * 21 := Nat.mul_le_mul (by omega) (by omega)
  have m2 : y.2.2.1 * y.2.2.1 ≤ 21 * 21 := Nat.mul_le_mul (by omega) (by omega)
  have m3 : y.2.2.2.1 * y.2.2.2.1 ≤ 21 * 21 := Nat.mul_le_mul (by omega) (by omega)
  (repeat' split) <;> omega
theorem tx_earn_b {n : Nat} {kd wo ha we td : Nat → Nat} {dy ch : Nat} (h1 : ∀ t, wo t ≤ 9) (h2 : ∀ t, ha t ≤ 3) (h3 : ∀ t, we t ≤ 3) (h4 : dy ≤ 21) (h5 : ch ≤ 9) : -400 ≤ tx_earn n kd wo ha we td dy ch ∧ tx_earn n kd wo ha we td dy ch ≤ 600 := by
  have h := tx_er_b (n := n) (kd := kd) (td := td) h1 h2 h3 dy
  have hc := tx_cg_le td (dy - 1)
  unfold tx_earn
  have m1 : tx_cg td (dy - 1) * ch ≤ 20 * 9 := Nat.mul_le_mul (by omega) h5
  have m2 : (tx_cg td (dy - 1) : Int) * (ch : Int) = ((tx_cg td (dy - 1) * ch : Nat) : Int) := (Int.natCast_mul _ _).symm
  omega
theorem tx_left_b {n : Nat} {kd wo ha we td : Nat → Nat} {dy ch lw : Nat} (h1 : ∀ t, wo t ≤ 9) (h2 : ∀ t, ha t ≤ 3) (h3 : ∀ t, we t ≤ 3) (h0 : 1 ≤ dy) (h4 : dy ≤ 21) (h5 : ch ≤ 9) : -30000 ≤ tx_left n kd wo ha we td dy ch lw ∧ tx_left n kd wo ha we td dy ch lw ≤ 600 := by
  have h := tx_earn_b (n := n) (kd := kd) (td := td) (ch := ch) h1 h2 h3 h4 h5
  have ht := tx_tax_b n kd td (lw := lw) h0 h4
  unfold tx_left
  omega
