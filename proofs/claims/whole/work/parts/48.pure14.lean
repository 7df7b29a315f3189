/-! PURE: the reference counts years forward; fractions in least terms -/
theorem tx_up1 {m : Nat} {R : Nat → Nat} {d k : Nat} (h1 : 1 ≤ k) (h2 : k < d) : m * tx_ns (fun i => R (d - 1 - 1 - i)) (k - 1) + m * R (d - k - 1) = m * tx_ns (fun i => R (d - 1 - 1 - i)) (k + 1 - 1) := by
  obtain ⟨j, rfl⟩ : ∃ j, k = j + 1 := ⟨k - 1, by omega⟩
  rw [Nat.add_sub_cancel, Nat.add_sub_cancel, tx_ns, Nat.mul_add, show d - 1 - 1 - j = d - (j + 1) - 1 by omega]
theorem tx_up2 {m : Nat} {R : Nat → Nat} {d k : Nat} (h1 : 1 ≤ k) (h2 : k ≤ d) : m * tx_ns (fun i => R (d - 1 - i)) (k - 1) + m * R (d - k) = m * tx_ns (fun i => R (d - 1 - i)) (k + 1 - 1) := by
  obtain ⟨j, rfl⟩ : ∃ j, k = j + 1 := ⟨k - 1, by omega⟩
  rw [Nat.add_sub_cancel, Nat.add_sub_cancel, tx_ns, Nat.mul_add, show d - 1 - j = d - (j + 1) by omega]
def tx_q_years (v1 v2 v3 : Int32) : Nat := if v1 < 1 ∨ v2 < 1 ∨ v3 < 1 then 4 else if 20 < v1 ∨ 4 < v2 ∨ 20 < v3 then 6 else 0
def tx_q_fit (n ss : Nat) (v : Int32) : Nat := if v < 0 then 4 else if 400 < v then 6 else if n = 0 ∨ ss = 0 then 3 else 0
def tx_q_like (n ss : Nat) (v d t w : Int32) : Nat := if tx_has ss d = true ∧ tx_has n t = true then (if v < 0 then 4 else if 400 < v then 6 else if w = 0 ∨ w = 1 then 0 else 2) else 1
theorem tx_1le {j : Nat} (h : ¬ nI j < 1) : 1 ≤ j := by
  rcases Nat.eq_zero_or_pos j with q | q
  · subst q
    exact absurd (by decide) h
  · exact q
/-- in least terms -/
def tx_lt2 (a b : Nat) (w : Int32) : Int64 := if b = 0 then w.toInt64 else if w = 0 then lN (a / Nat.gcd a b) else lN (b / Nat.gcd a b)
theorem tx_lc0 {x : Nat} (h : x < 2 ^ 63) : lg_cmp (lN x) 0 = bI (decide (x ≠ 0)) := by
  unfold lg_cmp
  by_cases q : x = 0
  · subst q
    rfl
  · have h1 : (0 : Int64) < lN x := by
      rw [show (0 : Int64) = lN 0 from rfl]
      exact (pk_lLT (by decide) h).mpr (by omega)
    rw [if_pos h1, decide_eq_true q]
    rfl
theorem tx_ln0 {x : Nat} (h : x < 2 ^ 63) (h0 : x ≠ 0) : ¬ lN x = 0 := fun q => h0 ((pk_lEQ h (by decide)).mp q)
/-- Euclid's steps: the product of the two halves -/
def tx_eu (x y i : Nat) : Prop := x * y * 2 ^ i ≤ 2 ^ 82 ∧ (i = 0 → x * y ≤ 2 ^ 80) ∧ (1 ≤ i → y < x)
theorem tx_eu_0 {a b : Nat} (ha : a ≤ 1099511627776) (hb : b ≤ 1099511627776) : tx_eu a b 0 := by
  have h : a * b ≤ 1099511627776 * 1099511627776 := Nat.mul_le_mul ha hb
  have h2 : 1099511627776 * 1099511627776 = 2 ^ 80 := by decide
  refine ⟨?_, fun _ => by omega, fun q => by omega⟩
  rw [Nat.pow_zero, Nat.mul_one]
  have : (2 : Nat) ^ 80 ≤ 2 ^ 82 := by decide
  omega
theorem tx_eu_s {x y i : Nat} (hy : y ≠ 0) (h : tx_eu x y i) : tx_eu y (x % y) (i + 1) := by
  obtain ⟨h1, h2, h3⟩ := h
  have hr : x % y < y := Nat.mod_lt _ (by omega)
  refine ⟨?_, fun q => by omega, fun _ => hr⟩
  by_cases q : i = 0
  · subst q
    have h4 := h2 rfl
    have h5 : y * (x % y) ≤ y * x := Nat.mul_le_mul_left y (Nat.mod_le x y)
    rw [Nat.mul_comm y x] at h5
    have h6 : (2 : Nat) ^ 80 * 2 ≤ 2 ^ 82 := by decide
    show y * (x % y) * 2 ≤ 2 ^ 82
    omega
  · have h4 := h3 (by omega)
    have h5 : 2 * (x % y) ≤ x := by
      have h7 := Nat.div_add_mod x y
      have h8 : 1 ≤ x / y := (Nat.one_le_div_iff (by omega)).mpr (by omega)
      have h9 : y * 1 ≤ y * (x / y) := Nat.mul_le_mul_left y h8
      omega
    have h6 : y * (2 * (x % y)) ≤ y * x := Nat.mul_le_mul_left y h5
    rw [Nat.pow_succ]
    have h7 : y * (x % y) * (2 ^ i * 2) = y * (2 * (x % y)) * 2 ^ i := by
      rw [Nat.mul_comm (2 ^ i) 2, ← Nat.mul_assoc, Nat.mul_assoc y, Nat.mul_comm (x % y) 2]
    rw [h7]
    refine Nat.le_trans (Nat.mul_le_mul_right _ h6) ?_
    rw [Nat.mul_comm y x]
    exact h1
theorem tx_eu_e {x y : Nat} (h : tx_eu x y 200) : y = 0 := by
  rcases Nat.eq_zero_or_pos y with q | q
  · exact q
  · exfalso
    have h3 := h.2.2 (by decide)
    have h1 : 1 ≤ x * y := Nat.mul_pos (by omega) q
    have h2 : 1 * 2 ^ 200 ≤ x * y * 2 ^ 200 := Nat.mul_le_mul_right _ h1
    have h4 : ¬ ((1 : Nat) * 2 ^ 200 ≤ 2 ^ 82) := by decide
    exact h4 (Nat.le_trans h2 h.1)
/-! sums of longs -/
def tx_sl (g : Nat → Int64) : Nat → Int64
  | 0 => 0
  | i + 1 => tx_sl g i + g i
theorem tx_sl_cg {f g : Nat → Int64} : ∀ {i : Nat}, (∀ u, u < i → f u = g u) → tx_sl f i = tx_sl g i
  | 0, _ => rfl
  | i + 1, h => by
    rw [tx_sl, tx_sl, tx_sl_cg (fun u hu => h u (by omega)), h i (by omega)]
theorem tx_sl_z {f : Nat → Int64} {a : Nat} : ∀ {b : Nat}, a ≤ b → (∀ u, a ≤ u → u < b → f u = 0) → tx_sl f b = tx_sl f a
  | 0, h, _ => by rw [show a = 0 by omega]
  | b + 1, h, hz => by
    by_cases e : a = b + 1
    · rw [e]
    · rw [tx_sl, hz b (by omega) (by omega), Int64.add_zero, tx_sl_z (by omega) (fun u h1 h2 => hz u h1 (by omega))]
theorem tx_sl_0 {f : Nat → Int64} {b : Nat} (h : ∀ u, u < b → f u = 0) : tx_sl f b = 0 := tx_sl_z (a := 0) (Nat.zero_le b) (fun u _ hu => h u hu)
theorem tx_a4 (a b c d : Int64) : a + b + (c + d) = a + c + (b + d) := by
  rw [Int64.add_assoc, Int64.add_assoc, ← Int64.add_assoc b c d, Int64.add_comm b c, Int64.add_assoc c b d]
theorem tx_sl_a (f g : Nat → Int64) : ∀ i, tx_sl (fun u => f u + g u) i = tx_sl f i + tx_sl g i
  | 0 => rfl
  | i + 1 => by
    rw [tx_sl, tx_sl, tx_sl, tx_sl_a f g i, tx_a4]
theorem tx_sl_u {w M : Nat → Int64} {j : Nat} {x : Int64} : ∀ {i : Nat}, j < i → tx_sl (fun u => w u * vp_updL M j (M j + x) u) i = tx_sl (fun u => w u * M u) i + w j * x
  | 0, h => absurd h (Nat.not_lt_zero j)
  | i + 1, h => by
    rw [tx_sl, tx_sl]
    by_cases e : j = i
    · subst e
      rw [tx_sl_cg (f := fun u => w u * vp_updL M j (M j + x) u) (g := fun u => w u * M u) (fun u hu => by unfold vp_updL; rw [if_neg (by omega)])]
      rw [show vp_updL M j (M j + x) j = M j + x from by unfold vp_updL; rw [if_pos rfl], Int64.mul_add, Int64.add_assoc]
    · rw [tx_sl_u (i := i) (by omega), show vp_updL M j (M j + x) i = M i from by unfold vp_updL; rw [if_neg (by omega)], Int64.add_assoc, Int64.add_comm (w j * x), Int64.add_assoc]
/-- sums of sums, the one ahead of the other -/
theorem tx_sl_s (f : Nat → Nat → Int64) (n : Nat) : ∀ i, tx_sl (fun v => tx_sl (fun u => f u v) n) i = tx_sl (fun u => tx_sl (fun v => f u v) i) n
  | 0 => by
    rw [tx_sl]
    exact (tx_sl_0 (fun _ _ => rfl)).symm
  | i + 1 => by
    rw [tx_sl, tx_sl_s f n i, ← tx_sl_a]
    rfl
theorem tx_sl_k (f : Nat → Int64) (x : Int64) : ∀ i, tx_sl (fun u => x * f u) i = x * tx_sl f i
  | 0 => by rw [tx_sl, tx_sl, Int64.mul_zero]
  | i + 1 => by
    rw [tx_sl, tx_sl, tx_sl_k f x i, Int64.mul_add]
theorem tx_sl_N (f : Nat → Nat) : ∀ i, tx_sl (fun u => lN (f u)) i = lN (tx_ns f i)
  | 0 => rfl
  | i + 1 => by
    rw [tx_sl, tx_sl_N f i, tx_ns, lN_add]
/-- the weight of a state: its ways on from the day d, if the longest so far is L at most -/
def tx_ph (n D : Nat) (P : Nat → Nat → Bool) (C : Nat → Bool) (L d i : Nat) : Nat := if i % 21 ≤ L then tx_W n D P C L (D - d) (i / 441) (i / 21 % 21) else 0
/-- where a state goes, if u is done -/
def tx_k2 (u i : Nat) : Nat := if i / 441 = u then i / 21 % 21 + 1 else 1
def tx_l2 (C : Nat → Bool) (u i : Nat) : Nat := if C u = true then max (i % 21) (tx_k2 u i) else i % 21
def tx_go (C : Nat → Bool) (u i : Nat) : Nat := (21 * u + tx_k2 u i) * 21 + tx_l2 C u i
def tx_cu (n D : Nat) (P : Nat → Nat → Bool) (C : Nat → Bool) (L d u i : Nat) : Nat := if P d u = true then tx_ph n D P C L (d + 1) (tx_go C u i) else 0
section TXF
variable {n D : Nat} {P : Nat → Nat → Bool} {C : Nat → Bool}
theorem tx_ph_j {L d u k l : Nat} (hk : k ≤ 20) (hl : l ≤ 20) : tx_ph n D P C L d ((21 * u + k) * 21 + l) = if l ≤ L then tx_W n D P C L (D - d) u k else 0 := by
  unfold tx_ph
  rw [show ((21 * u + k) * 21 + l) % 21 = l by omega, show ((21 * u + k) * 21 + l) / 441 = u by omega, show ((21 * u + k) * 21 + l) / 21 % 21 = k by omega]
theorem tx_k2_b {u i : Nat} (h : i / 21 % 21 ≤ 19) : tx_k2 u i ≤ 20 := by
  unfold tx_k2
  split <;> omega
theorem tx_l2_b {u i : Nat} (h : i / 21 % 21 ≤ 19) : tx_l2 C u i ≤ 20 := by
  have := tx_k2_b (u := u) h
  unfold tx_l2
  split <;> omega
theorem tx_cu_e {L d u i : Nat} (h : i / 21 % 21 ≤ 19) : tx_cu n D P C L d u i = if i % 21 ≤ L then (if tx_pm P C L d u (tx_k2 u i) = true then tx_W n D P C L (D - (d + 1)) u (tx_k2 u i) else 0) else 0 := by
  unfold tx_cu tx_go
  rw [tx_ph_j (tx_k2_b h) (tx_l2_b h)]
  unfold tx_pm tx_l2
  by_cases q : P d u = true
  · rw [if_pos q]
    by_cases z : C u = true
    · rw [if_pos z]
      by_cases y : i % 21 ≤ L
      · rw [if_pos y]
        by_cases x : L < tx_k2 u i
        · rw [if_neg (by omega), if_neg (fun w => (of_decide_eq_true w).2 ⟨z, x⟩)]
        · rw [if_pos (by omega), if_pos (decide_eq_true ⟨q, fun w => x w.2⟩)]
      · rw [if_neg y, if_neg (by omega)]
    · rw [if_neg z]
      by_cases y : i % 21 ≤ L
      · rw [if_pos y, if_pos y, if_pos (decide_eq_true ⟨q, fun w => z w.1⟩)]
      · rw [if_neg y, if_neg y]
  · rw [if_neg q]
    split
    · rw [if_neg (fun w => q (of_decide_eq_true w).1)]
    · rfl
/-- a day on: the ways are shared out -/
theorem tx_cu_s {L d i : Nat} (hd : d < D) (h : i / 21 % 21 ≤ 19) : tx_ns (fun u => tx_cu n D P C L d u i) n = tx_ph n D P C L d i := by
  unfold tx_ph
  rw [tx_W_mx hd]
  by_cases y : i % 21 ≤ L
  · rw [if_pos y]
    refine tx_ns_cg (fun u _ => ?_)
    rw [tx_cu_e h, if_pos y]
    rfl
  · rw [if_neg y]
    refine tx_ns_0 (fun u _ => ?_)
    rw [tx_cu_e h, if_neg y]
/-- the first day -/
theorem tx_ph_1 {L u : Nat} (hP : P 0 u = true) : tx_ph n D P C L 1 ((21 * u + 1) * 21 + (if C u = true then 1 else 0)) = tx_wS n D P C L 0 u := by
  rw [tx_ph_j (by decide) (by split <;> decide)]
  unfold tx_wS tx_pm
  by_cases z : C u = true
  · rw [if_pos z]
    by_cases x : L < 1
    · rw [if_neg (by omega), if_neg (fun w => (of_decide_eq_true w).2 ⟨z, x⟩)]
    · rw [if_pos (by omega), if_pos (decide_eq_true ⟨hP, fun w => x w.2⟩)]
  · rw [if_neg z, if_pos (Nat.zero_le L), if_pos (decide_eq_true ⟨hP, fun w => z w.1⟩)]
/-- the weights of the states of a day -/
def tx_EE (n D : Nat) (P : Nat → Nat → Bool) (C : Nat → Bool) (L d : Nat) (g : Nat → Int64) : Int64 := tx_sl (fun i => lN (tx_ph n D P C L d i) * g i) 1764
/-- what comes of the things ahead of u -/
def tx_CS (n D : Nat) (P : Nat → Nat → Bool) (C : Nat → Bool) (L d : Nat) (g : Nat → Int64) (u : Nat) : Int64 := tx_sl (fun v => tx_sl (fun i => g i * lN (tx_cu n D P C L d v i)) 1764) u
def tx_ZZ (n d : Nat) (g : Nat → Int64) : Prop := ∀ i, i < 1764 → ¬ (i / 441 < n ∧ 1 ≤ i / 21 % 21 ∧ i / 21 % 21 ≤ d ∧ i % 21 ≤ d) → g i = 0
theorem tx_CS_e {L d : Nat} {g : Nat → Int64} (hd : d < D) (hD : D ≤ 20) (hz : tx_ZZ n d g) : tx_CS n D P C L d g n = tx_EE n D P C L d g := by
  unfold tx_CS tx_EE
  rw [tx_sl_s]
  refine tx_sl_cg (fun i hi => ?_)
  rw [tx_sl_k, tx_sl_N]
  by_cases q : i / 441 < n ∧ 1 ≤ i / 21 % 21 ∧ i / 21 % 21 ≤ d ∧ i % 21 ≤ d
  · rw [tx_cu_s hd (by omega), Int64.mul_comm]
  · rw [hz i hi q, Int64.zero_mul, Int64.mul_zero]
theorem tx_EE_D {L : Nat} {g : Nat → Int64} : tx_EE n D P C L D g = tx_sl (fun i => (if i % 21 ≤ L then 1 else 0) * g i) 1764 := by
  unfold tx_EE
  refine tx_sl_cg (fun i _ => ?_)
  unfold tx_ph
  rw [Nat.sub_self, tx_W]
  split <;> rfl
/-- those whose longest squared is just s -/
def tx_fn (s : Nat) (g : Nat → Int64) (i : Nat) : Int64 := if i % 21 * (i % 21) = s then g i else 0
theorem tx_fn_s {g : Nat → Int64} {L : Nat} (hL : L ≤ 20) (hE : ∀ L, L ≤ 20 → tx_EE n D P C L D g = lN (tx_tot n D P C L)) : tx_sl (tx_fn (L * L) g) 1764 = lN (tx_wl n D P C L) := by
  rw [tx_wl_e]
  have sq : ∀ i : Nat, i % 21 * (i % 21) = L * L ↔ i % 21 = L := fun i => Nat.mul_self_inj
  by_cases q : L = 0
  · rw [if_pos q, ← hE 0 (by decide), tx_EE_D]
    refine tx_sl_cg (fun i _ => ?_)
    unfold tx_fn
    by_cases z : i % 21 = L
    · rw [if_pos ((sq i).mpr z), if_pos (by omega), Int64.one_mul]
    · rw [if_neg (fun y => z ((sq i).mp y)), if_neg (by omega), Int64.zero_mul]
  · rw [if_neg q, ← hE L hL, ← hE (L - 1) (by omega), tx_EE_D, tx_EE_D]
    have : tx_sl (fun i => (if i % 21 ≤ L then 1 else 0) * g i) 1764 = tx_sl (tx_fn (L * L) g) 1764 + tx_sl (fun i => (if i % 21 ≤ L - 1 then 1 else 0) * g i) 1764 := by
      rw [← tx_sl_a]
      refine tx_sl_cg (fun i _ => ?_)
      unfold tx_fn
      by_cases z : i % 21 = L
      · rw [if_pos ((sq i).mpr z), if_pos (by omega), if_neg (by omega), Int64.one_mul, Int64.zero_mul, Int64.add_zero]
      · rw [if_neg (fun y => z ((sq i).mp y)), Int64.zero_add]
        by_cases y : i % 21 ≤ L
        · rw [if_pos y, if_pos (by omega)]
        · rw [if_neg y, if_neg (by omega)]
    rw [this, Int64.add_sub_cancel]
theorem tx_fn_z {g : Nat → Int64} {s : Nat} (h : ∀ v, v ≤ 20 → ¬ v * v = s) : tx_sl (tx_fn s g) 1764 = 0 :=
  tx_sl_0 (fun i _ => if_neg (h (i % 21) (by omega)))
theorem tx_fn_p {g : Nat → Int64} {s : Nat} (hE : ∀ L, L ≤ 20 → tx_EE n D P C L D g = lN (tx_tot n D P C L)) : tx_sl (tx_fn s g) 1764 = lN (tx_pay n D P C s) := by
  by_cases q : ∃ L, L ≤ 20 ∧ L * L = s
  · obtain ⟨L, hL, rfl⟩ := q
    rw [tx_fn_s hL hE, tx_pay_of hL rfl]
  · have q2 : ∀ v, v ≤ 20 → ¬ v * v = s := fun v h1 h2 => q ⟨v, h1, h2⟩
    rw [tx_fn_z q2, tx_pay_no q2]
    rfl
end TXF
theorem tx_r21 {i : Nat} (h : i < 2 ^ 31) : nI i - nI i / 21 * 21 = nI (i % 21) := by
  rw [show (21 : Int32) = nI 21 from rfl]
  exact pk_rem h (by decide) (by decide)
def tx_Pf (sn : Nat → Nat) (day : Int) (th d u : Nat) : Bool := decide ((sn d = 9 ∨ sn d = u) ∧ ((d : Int) = day → u = th))
theorem tx_Pf_k (sn : Nat → Nat) : tx_Pf sn (-1) 0 = tx_Pk sn := by
  funext d u
  unfold tx_Pf tx_Pk
  refine decide_eq_decide.mpr ⟨fun z => z.1, fun z => ⟨z, fun y => ?_⟩⟩
  omega
theorem tx_Pf_p {n D : Nat} {sn : Nat → Nat} {C : Nat → Bool} {d t s : Nat} (hD : 1 ≤ D) (hd : d < D) (ht : t < 9) : tx_pay n D (tx_Pf sn (d : Int) t) C s = if tx_Pk sn d t = true then tx_pay n D (tx_Pk (va_up sn d t)) C s else 0 := by
  by_cases q : tx_Pk sn d t = true
  · rw [if_pos q]
    have q := of_decide_eq_true q
    refine tx_pay_cg hD (fun d2 u _ _ => ?_) (fun _ _ => rfl)
    unfold tx_Pf tx_Pk
    refine decide_eq_decide.mpr ?_
    by_cases e : d2 = d
    · rw [e, va_up_self]
      constructor
      · intro z
        exact Or.inr (z.2 rfl).symm
      · intro z
        have z1 : u = t := by omega
        exact ⟨by rw [z1]; exact q, fun _ => z1⟩
    · rw [va_up_ne _ _ e]
      exact ⟨fun z => z.1, fun z => ⟨z, fun y => absurd y (by omega)⟩⟩
  · rw [if_neg q]
    refine tx_pay_z hd (fun u _ => decide_eq_false (fun z => q (decide_eq_true ?_)))
    rw [← z.2 rfl]
    exact z.1
