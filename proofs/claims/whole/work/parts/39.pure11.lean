/-! PURE: the years that earn most; -999 where there is none -/
def tx_p (a x : Int) : Int := if a = -999 then -999 else a + x
def tx_mx (f : Nat → Int) : Nat → Int
  | 0 => -999
  | i + 1 => max (tx_mx f i) (f i)
theorem tx_mx_lo (f : Nat → Int) : ∀ i, -999 ≤ tx_mx f i
  | 0 => by show (-999 : Int) ≤ -999; omega
  | i + 1 => by
    have := tx_mx_lo f i
    show (-999 : Int) ≤ max (tx_mx f i) (f i)
    omega
theorem tx_mx_ge {f : Nat → Int} : ∀ {i u : Nat}, u < i → f u ≤ tx_mx f i
  | 0, u, h => absurd h (Nat.not_lt_zero u)
  | i + 1, u, h => by
    show f u ≤ max (tx_mx f i) (f i)
    by_cases e : u = i
    · rw [e]; omega
    · have := tx_mx_ge (f := f) (i := i) (u := u) (by omega)
      omega
theorem tx_mx_le {f : Nat → Int} {m : Int} (h0 : -999 ≤ m) : ∀ {i : Nat}, (∀ u, u < i → f u ≤ m) → tx_mx f i ≤ m
  | 0, _ => h0
  | i + 1, h => by
    have h1 := tx_mx_le (f := f) h0 (i := i) (fun u hu => h u (by omega))
    have h2 := h i (by omega)
    show max (tx_mx f i) (f i) ≤ m
    omega
theorem tx_mx_cg {f g : Nat → Int} : ∀ {i : Nat}, (∀ u, u < i → f u = g u) → tx_mx f i = tx_mx g i
  | 0, _ => rfl
  | i + 1, h => by
    show max (tx_mx f i) (f i) = max (tx_mx g i) (g i)
    rw [tx_mx_cg (fun u hu => h u (by omega)), h i (by omega)]
theorem tx_mx_at {f : Nat → Int} (h : ∀ u, -999 ≤ f u) : ∀ {i : Nat}, 0 < i → ∃ u, u < i ∧ f u = tx_mx f i
  | 0, q => absurd q (Nat.lt_irrefl 0)
  | i + 1, _ => by
    by_cases e : tx_mx f i ≤ f i
    · exact ⟨i, by omega, by show f i = max (tx_mx f i) (f i); omega⟩
    · by_cases q : i = 0
      · subst q
        exact absurd (h 0) (by have : ¬ ((-999 : Int) ≤ f 0) := e; omega)
      · obtain ⟨u, hu, hu2⟩ := tx_mx_at h (i := i) (by omega)
        exact ⟨u, by omega, by show f u = max (tx_mx f i) (f i); omega⟩
theorem tx_mx_x {f : Nat → Int} (h : ∀ u, -999 ≤ f u) {n t : Nat} (ht : t < n) : tx_mx f n = max (f t) (tx_mx (fun u => if u = t then -999 else f u) n) := by
  apply Int.le_antisymm
  · refine tx_mx_le (by have := h t; omega) (fun u hu => ?_)
    by_cases e : u = t
    · rw [e]; omega
    · have := tx_mx_ge (f := fun u => if u = t then -999 else f u) hu
      rw [if_neg e] at this
      omega
  · have h1 := tx_mx_ge (f := f) ht
    have h2 : tx_mx (fun u => if u = t then -999 else f u) n ≤ tx_mx f n := by
      refine tx_mx_le (tx_mx_lo f n) (fun u hu => ?_)
      split
      · exact tx_mx_lo f n
      · exact tx_mx_ge hu
    omega
/-- a bounded amount, or none -/
def tx_bo9 (a b v : Int) : Prop := v = -999 ∨ (a ≤ v ∧ v ≤ b)
theorem tx_mx_b {f : Nat → Int} {a b : Int} : ∀ {i : Nat}, (∀ u, u < i → tx_bo9 a b (f u)) → (-999 ≤ a) → tx_bo9 a b (tx_mx f i)
  | 0, _, _ => Or.inl rfl
  | i + 1, h, h0 => by
    have h1 := tx_mx_b (f := f) (i := i) (fun u hu => h u (by omega)) h0
    have h2 := h i (by omega)
    unfold tx_bo9 at *
    show max (tx_mx f i) (f i) = -999 ∨ (a ≤ max (tx_mx f i) (f i) ∧ max (tx_mx f i) (f i) ≤ b)
    omega
theorem tx_p_b {a b c d v x : Int} (h : tx_bo9 a b v) (h1 : c ≤ x) (h2 : x ≤ d) : tx_bo9 (a + c) (b + d) (tx_p v x) := by
  unfold tx_bo9 tx_p at *
  split <;> omega
theorem tx_p_p {v x y : Int} (h : v = -999 ∨ v + x ≠ -999) : tx_p (tx_p v x) y = tx_p v (x + y) := by
  unfold tx_p
  by_cases e : v = -999
  · rw [if_pos e, if_pos rfl, if_pos e]
  · rw [if_neg e, if_neg e, if_neg (by omega)]
    omega
theorem tx_p_n (x : Int) : tx_p (-999) x = -999 := if_pos rfl
theorem tx_p_0 {v : Int} : tx_p v 0 = v := by
  unfold tx_p
  split <;> omega
theorem tx_p_max {v w x : Int} (h1 : v = -999 ∨ -400 ≤ v) (h2 : w = -999 ∨ -400 ≤ w) (h3 : -400 ≤ x) : tx_p (max v w) x = max (tx_p v x) (tx_p w x) := by
  unfold tx_p
  by_cases e1 : v = -999
  · by_cases e2 : w = -999
    · rw [if_pos e1, if_pos e2, if_pos (by omega)]
      omega
    · rw [if_pos e1, if_neg e2, if_neg (by omega)]
      omega
  · by_cases e2 : w = -999
    · rw [if_neg e1, if_pos e2, if_neg (by omega)]
      omega
    · rw [if_neg e1, if_neg e2, if_neg (by omega)]
      omega
theorem tx_p_le {v w x : Int} (h1 : v ≤ w) (h3 : w = -999 ∨ -999 ≤ w + x) : tx_p v x ≤ tx_p w x ∨ v < -999 := by
  unfold tx_p
  by_cases e1 : v = -999 <;> by_cases e2 : w = -999
  · rw [if_pos e1, if_pos e2]; omega
  · rw [if_pos e1, if_neg e2]; omega
  · rw [if_neg e1, if_pos e2]; omega
  · rw [if_neg e1, if_neg e2]; omega
/-- may u be done on the day d, as the w-th of its stretch -/
def tx_my (n : Nat) (kd : Nat → Nat) (bo : Nat → Option Nat) (l d u w : Nat) : Bool := decide (tx_be bo d u = false ∧ ¬ (tx_tx n kd u = true ∧ l < w) ∧ w ≤ 20)
def tx_o1 (n ch : Nat) (kd wo ha we : Nat → Nat) (bo : Nat → Option Nat) (l : Nat) (M : Nat → Nat → Int) (d : Nat) (t : Int) (k u : Nat) : Int :=
  if tx_my n kd bo l d u (if t = (u : Int) then k + 1 else 1) = true then tx_p (M u (if t = (u : Int) then k + 1 else 1)) (tx_vl kd wo ha we u (if t = (u : Int) then k + 1 else 1) - (if 0 < d ∧ t ≠ (u : Int) then (ch : Int) else 0)) else -999
/-- the most from a day on, j days ahead of the end, behind k days of t -/
def tx_V (n dy ch : Nat) (kd wo ha we : Nat → Nat) (bo : Nat → Option Nat) (l : Nat) : Nat → Nat → Nat → Int
  | 0, _, _ => 0
  | j + 1, t, k => tx_mx (fun u => tx_o1 n ch kd wo ha we bo l (fun u2 k2 => tx_V n dy ch kd wo ha we bo l j u2 k2) (dy - (j + 1)) (t : Int) k u) n
def tx_on (n dy ch : Nat) (kd wo ha we : Nat → Nat) (bo : Nat → Option Nat) (l d : Nat) (t : Int) (k u : Nat) : Int := tx_o1 n ch kd wo ha we bo l (fun u2 k2 => tx_V n dy ch kd wo ha we bo l (dy - (d + 1)) u2 k2) d t k u
/-- .. if a stretch of u begins on the day d -/
def tx_S (n dy ch : Nat) (kd wo ha we : Nat → Nat) (bo : Nat → Option Nat) (l d u : Nat) : Int := if tx_my n kd bo l d u 1 = true then tx_p (tx_V n dy ch kd wo ha we bo l (dy - (d + 1)) u 1) (tx_vl kd wo ha we u 1) else -999
/-- .. if a stretch of t ended ahead of the day d -/
def tx_R (n dy ch : Nat) (kd wo ha we : Nat → Nat) (bo : Nat → Option Nat) (l d t : Nat) : Int := if dy ≤ d then 0 else tx_mx (fun u => if u = t then -999 else tx_p (tx_S n dy ch kd wo ha we bo l d u) (-(ch : Int))) n
def tx_sm (kd wo ha we : Nat → Nat) (t : Nat) : Nat → Int
  | 0 => 0
  | m + 1 => tx_sm kd wo ha we t m + tx_vl kd wo ha we t (m + 1)
def tx_aw (n dy ch : Nat) (kd wo ha we : Nat → Nat) (bo : Nat → Option Nat) (l : Nat) : Int := tx_mx (fun u => tx_S n dy ch kd wo ha we bo l 0 u) n
/-- where a stretch of t from d on must end -/
def tx_isE (n dy : Nat) (kd : Nat → Nat) (bo : Nat → Option Nat) (l d t u : Nat) : Prop := d ≤ u ∧ u ≤ dy ∧ ∀ e, d ≤ e → e ≤ u → (e + 1 ≤ u ↔ e < dy ∧ tx_be bo e t = false ∧ ¬ (tx_tx n kd t = true ∧ d + l ≤ e))
/-- what is still to come of a stretch of t from d on, on nx -/
def tx_gt (n dy ch : Nat) (kd wo ha we : Nat → Nat) (bo : Nat → Option Nat) (l d t u nx : Nat) : Int := if nx ≤ u then tx_p (tx_V n dy ch kd wo ha we bo l (dy - nx) t (nx - d)) (tx_sm kd wo ha we t (nx - d)) else -999
theorem tx_o1_w {n ch : Nat} {kd wo ha we : Nat → Nat} {bo : Nat → Option Nat} {l : Nat} {M : Nat → Nat → Int} {d : Nat} {t : Int} {k u w : Nat} {x : Int} (hw : (if t = (u : Int) then k + 1 else 1) = w) (hx : (if 0 < d ∧ t ≠ (u : Int) then (ch : Int) else 0) = x) : tx_o1 n ch kd wo ha we bo l M d t k u = if tx_my n kd bo l d u w = true then tx_p (M u w) (tx_vl kd wo ha we u w - x) else -999 := by
  subst hw
  subst hx
  rfl
section TXV
variable {n dy ch : Nat} {kd wo ha we : Nat → Nat} {bo : Nat → Option Nat} {l : Nat}
theorem tx_sm_b (h1 : ∀ e, wo e ≤ 9) (h2 : ∀ e, ha e ≤ 3) (h3 : ∀ e, we e ≤ 3) (t : Nat) : ∀ m : Nat, -6 * (m : Int) ≤ tx_sm kd wo ha we t m ∧ tx_sm kd wo ha we t m ≤ 24 * (m : Int)
  | 0 => by show -6 * ((0 : Nat) : Int) ≤ 0 ∧ (0 : Int) ≤ 24 * ((0 : Nat) : Int); omega
  | m + 1 => by
    have a := tx_sm_b h1 h2 h3 t m
    have b := tx_vl_b (kd := kd) (k := m + 1) (h1 t) (h2 t) (h3 t)
    show -6 * ((m + 1 : Nat) : Int) ≤ tx_sm kd wo ha we t m + tx_vl kd wo ha we t (m + 1) ∧ tx_sm kd wo ha we t m + tx_vl kd wo ha we t (m + 1) ≤ 24 * ((m + 1 : Nat) : Int)
    omega
theorem tx_o1_b (h1 : ∀ e, wo e ≤ 9) (h2 : ∀ e, ha e ≤ 3) (h3 : ∀ e, we e ≤ 3) (h4 : ch ≤ 9) {M : Nat → Nat → Int} {j : Nat} (hM : ∀ u k, tx_bo9 (-15 * (j : Int)) (24 * (j : Int)) (M u k)) (d : Nat) (t : Int) (k u : Nat) : tx_bo9 (-15 * ((j + 1 : Nat) : Int)) (24 * ((j + 1 : Nat) : Int)) (tx_o1 n ch kd wo ha we bo l M d t k u) := by
  unfold tx_o1
  have c : (0 : Int) ≤ (if 0 < d ∧ t ≠ (u : Int) then (ch : Int) else 0) ∧ (if 0 < d ∧ t ≠ (u : Int) then (ch : Int) else 0) ≤ 9 := by split <;> omega
  generalize (if 0 < d ∧ t ≠ (u : Int) then (ch : Int) else 0) = x at c
  generalize (if t = (u : Int) then k + 1 else 1) = w
  by_cases q0 : tx_my n kd bo l d u w = true
  · rw [if_pos q0]
    have b := tx_vl_b (kd := kd) (k := w) (h1 u) (h2 u) (h3 u)
    have q := tx_p_b (c := -15) (d := 24) (hM u w) (x := tx_vl kd wo ha we u w - x) (by omega) (by omega)
    unfold tx_bo9 at *
    omega
  · rw [if_neg q0]
    exact Or.inl rfl
theorem tx_V_b (h1 : ∀ e, wo e ≤ 9) (h2 : ∀ e, ha e ≤ 3) (h3 : ∀ e, we e ≤ 3) (h4 : ch ≤ 9) : ∀ j : Nat, j ≤ 20 → ∀ t k : Nat, tx_bo9 (-15 * (j : Int)) (24 * (j : Int)) (tx_V n dy ch kd wo ha we bo l j t k)
  | 0, _, t, k => Or.inr ⟨by show -15 * ((0 : Nat) : Int) ≤ 0; omega, by show (0 : Int) ≤ 24 * ((0 : Nat) : Int); omega⟩
  | j + 1, hj, t, k => by
    rw [tx_V]
    exact tx_mx_b (fun u _ => tx_o1_b h1 h2 h3 h4 (tx_V_b h1 h2 h3 h4 j (by omega)) _ _ _ _) (by omega)
theorem tx_on_b (h1 : ∀ e, wo e ≤ 9) (h2 : ∀ e, ha e ≤ 3) (h3 : ∀ e, we e ≤ 3) (h4 : ch ≤ 9) (h5 : dy ≤ 20) (d : Nat) (t : Int) (k u : Nat) : tx_on n dy ch kd wo ha we bo l d t k u = -999 ∨ (-315 ≤ tx_on n dy ch kd wo ha we bo l d t k u ∧ tx_on n dy ch kd wo ha we bo l d t k u ≤ 504) := by
  have q : tx_bo9 (-15 * ((dy - (d + 1) + 1 : Nat) : Int)) (24 * ((dy - (d + 1) + 1 : Nat) : Int)) (tx_on n dy ch kd wo ha we bo l d t k u) := tx_o1_b (n := n) (bo := bo) (l := l) (kd := kd) h1 h2 h3 h4 (tx_V_b (n := n) (dy := dy) (bo := bo) (l := l) (kd := kd) h1 h2 h3 h4 (dy - (d + 1)) (by omega)) d t k u
  unfold tx_bo9 at q
  omega
theorem tx_S_b (h1 : ∀ e, wo e ≤ 9) (h2 : ∀ e, ha e ≤ 3) (h3 : ∀ e, we e ≤ 3) (h4 : ch ≤ 9) (h5 : dy ≤ 20) (d u : Nat) : tx_S n dy ch kd wo ha we bo l d u = -999 ∨ (-315 ≤ tx_S n dy ch kd wo ha we bo l d u ∧ tx_S n dy ch kd wo ha we bo l d u ≤ 504) := by
  unfold tx_S
  split
  · have b := tx_vl_b (kd := kd) (k := 1) (h1 u) (h2 u) (h3 u)
    have q := tx_p_b (tx_V_b (n := n) (dy := dy) (bo := bo) (l := l) (kd := kd) h1 h2 h3 h4 (dy - (d + 1)) (by omega) u 1) b.1 b.2
    unfold tx_bo9 at q
    omega
  · exact Or.inl rfl
theorem tx_R_b (h1 : ∀ e, wo e ≤ 9) (h2 : ∀ e, ha e ≤ 3) (h3 : ∀ e, we e ≤ 3) (h4 : ch ≤ 9) (h5 : dy ≤ 20) (d t : Nat) : tx_R n dy ch kd wo ha we bo l d t = -999 ∨ (-330 ≤ tx_R n dy ch kd wo ha we bo l d t ∧ tx_R n dy ch kd wo ha we bo l d t ≤ 504) := by
  unfold tx_R
  split
  · omega
  · refine tx_mx_b (a := -330) (b := 504) (fun u _ => ?_) (by omega)
    split
    · exact Or.inl rfl
    · have q := tx_S_b (n := n) (bo := bo) (l := l) (kd := kd) h1 h2 h3 h4 h5 d u
      unfold tx_bo9 tx_p
      split <;> omega
theorem tx_aw_b (h1 : ∀ e, wo e ≤ 9) (h2 : ∀ e, ha e ≤ 3) (h3 : ∀ e, we e ≤ 3) (h4 : ch ≤ 9) (h5 : dy ≤ 20) : tx_aw n dy ch kd wo ha we bo l = -999 ∨ (-315 ≤ tx_aw n dy ch kd wo ha we bo l ∧ tx_aw n dy ch kd wo ha we bo l ≤ 504) :=
  tx_mx_b (a := -315) (b := 504) (fun u _ => tx_S_b h1 h2 h3 h4 h5 0 u) (by omega)
theorem tx_V_mx {d t k : Nat} (hd : d < dy) : tx_V n dy ch kd wo ha we bo l (dy - d) t k = tx_mx (fun u => tx_on n dy ch kd wo ha we bo l d (t : Int) k u) n := by
  obtain ⟨j, rfl⟩ : ∃ j, dy = d + (j + 1) := ⟨dy - d - 1, by omega⟩
  rw [show d + (j + 1) - d = j + 1 by omega, tx_V]
  unfold tx_on
  rw [show d + (j + 1) - (j + 1) = d by omega, show d + (j + 1) - (d + 1) = j by omega]
/-- another thing begins -/
theorem tx_on_o (h1 : ∀ e, wo e ≤ 9) (h2 : ∀ e, ha e ≤ 3) (h3 : ∀ e, we e ≤ 3) (h4 : ch ≤ 9) (h5 : dy ≤ 20) {d k u : Nat} {t : Int} (h0 : 0 < d) (h : t ≠ (u : Int)) : tx_on n dy ch kd wo ha we bo l d t k u = tx_p (tx_S n dy ch kd wo ha we bo l d u) (-(ch : Int)) := by
  unfold tx_on tx_S
  rw [tx_o1_w (if_neg h) (if_pos ⟨h0, h⟩)]
  by_cases q0 : tx_my n kd bo l d u 1 = true
  · rw [if_pos q0, if_pos q0]
    have b := tx_vl_b (kd := kd) (k := 1) (h1 u) (h2 u) (h3 u)
    have q := tx_V_b (n := n) (dy := dy) (bo := bo) (l := l) (kd := kd) h1 h2 h3 h4 (dy - (d + 1)) (by omega) u 1
    unfold tx_bo9 at q
    rw [tx_p_p (by omega)]
    rfl
  · rw [if_neg q0, if_neg q0, tx_p_n]
theorem tx_on_1 {u : Nat} : tx_on n dy ch kd wo ha we bo l 0 (-1) 0 u = tx_S n dy ch kd wo ha we bo l 0 u := by
  unfold tx_on tx_S
  rw [tx_o1_w (w := 1) (x := 0) (if_neg (by omega)) (if_neg (by omega)), Int.sub_zero]
theorem tx_V_s (h1 : ∀ e, wo e ≤ 9) (h2 : ∀ e, ha e ≤ 3) (h3 : ∀ e, we e ≤ 3) (h4 : ch ≤ 9) (h5 : dy ≤ 20) {d t k : Nat} (h0 : 0 < d) (hd : d < dy) (ht : t < n) : tx_V n dy ch kd wo ha we bo l (dy - d) t k = max (tx_on n dy ch kd wo ha we bo l d (t : Int) k t) (tx_R n dy ch kd wo ha we bo l d t) := by
  rw [tx_V_mx hd, tx_mx_x (fun u => by have := tx_on_b (n := n) (bo := bo) (l := l) (kd := kd) h1 h2 h3 h4 h5 d (t : Int) k u; omega) ht]
  congr 1
  unfold tx_R
  rw [if_neg (by omega)]
  refine tx_mx_cg (fun u _ => ?_)
  by_cases e : u = t
  · rw [if_pos e, if_pos e]
  · rw [if_neg e, if_neg e, tx_on_o h1 h2 h3 h4 h5 h0 (by omega)]
theorem tx_on_t {d t k : Nat} : tx_on n dy ch kd wo ha we bo l d (t : Int) k t = if tx_my n kd bo l d t (k + 1) = true then tx_p (tx_V n dy ch kd wo ha we bo l (dy - (d + 1)) t (k + 1)) (tx_vl kd wo ha we t (k + 1)) else -999 := by
  unfold tx_on
  rw [tx_o1_w (w := k + 1) (x := 0) (if_pos rfl) (if_neg (fun q => q.2 rfl)), Int.sub_zero]
theorem tx_gt_b (h1 : ∀ e, wo e ≤ 9) (h2 : ∀ e, ha e ≤ 3) (h3 : ∀ e, we e ≤ 3) (h4 : ch ≤ 9) (h5 : dy ≤ 20) {d t u nx : Nat} (hu : u ≤ dy) : tx_gt n dy ch kd wo ha we bo l d t u nx = -999 ∨ (-420 ≤ tx_gt n dy ch kd wo ha we bo l d t u nx ∧ tx_gt n dy ch kd wo ha we bo l d t u nx ≤ 960) := by
  unfold tx_gt
  split
  · have b := tx_sm_b (kd := kd) h1 h2 h3 t (nx - d)
    have q := tx_p_b (tx_V_b (n := n) (dy := dy) (bo := bo) (l := l) (kd := kd) h1 h2 h3 h4 (dy - nx) (by omega) t (nx - d)) b.1 b.2
    unfold tx_bo9 at q
    omega
  · exact Or.inl rfl
theorem tx_gt_0 {d t u : Nat} (hd : d < dy) (hE : tx_isE n dy kd bo l d t u) : tx_gt n dy ch kd wo ha we bo l d t u (d + 1) = tx_S n dy ch kd wo ha we bo l d t := by
  have hq := hE.2.2 d (Nat.le_refl d) hE.1
  unfold tx_gt tx_S tx_my
  rw [show d + 1 - d = 1 by omega]
  by_cases e : d + 1 ≤ u
  · have hq2 := hq.mp e
    rw [if_pos e, if_pos (decide_eq_true ⟨hq2.2.1, fun z => hq2.2.2 ⟨z.1, by omega⟩, by omega⟩)]
    congr 1
    show 0 + tx_vl kd wo ha we t (0 + 1) = _
    rw [Int.zero_add]
  · rw [if_neg e, if_neg]
    intro z
    have z := of_decide_eq_true z
    exact e (hq.mpr ⟨hd, z.1, fun y => z.2.1 ⟨y.1, by omega⟩⟩)
theorem tx_gt_s (h1 : ∀ e, wo e ≤ 9) (h2 : ∀ e, ha e ≤ 3) (h3 : ∀ e, we e ≤ 3) (h4 : ch ≤ 9) (h5 : dy ≤ 20) {d t u nx : Nat} (ht : t < n) (hE : tx_isE n dy kd bo l d t u) (hn : d < nx) (hx : nx ≤ u) : tx_gt n dy ch kd wo ha we bo l d t u nx = max (tx_p (tx_R n dy ch kd wo ha we bo l nx t) (tx_sm kd wo ha we t (nx - d))) (tx_gt n dy ch kd wo ha we bo l d t u (nx + 1)) := by
  have b := tx_sm_b (kd := kd) h1 h2 h3 t (nx - d)
  have hu := hE.2.1
  have hq := hE.2.2 nx (by omega) hx
  by_cases e : nx = dy
  · unfold tx_gt
    rw [if_pos hx, if_neg (by omega)]
    unfold tx_R
    rw [if_pos (by omega), show dy - nx = 0 by omega, tx_V]
    unfold tx_p
    rw [if_neg (by omega)]
    omega
  · have hR := tx_R_b (n := n) (bo := bo) (l := l) (kd := kd) h1 h2 h3 h4 h5 nx t
    have hO := tx_on_b (n := n) (bo := bo) (l := l) (kd := kd) h1 h2 h3 h4 h5 nx (t : Int) (nx - d) t
    have hV := tx_V_b (n := n) (dy := dy) (bo := bo) (l := l) (kd := kd) h1 h2 h3 h4 (dy - (nx + 1)) (by omega) t (nx - d + 1)
    have hv := tx_vl_b (kd := kd) (k := nx - d + 1) (h1 t) (h2 t) (h3 t)
    unfold tx_bo9 at hV
    have e1 : tx_gt n dy ch kd wo ha we bo l d t u nx = tx_p (max (tx_on n dy ch kd wo ha we bo l nx (t : Int) (nx - d) t) (tx_R n dy ch kd wo ha we bo l nx t)) (tx_sm kd wo ha we t (nx - d)) := by
      unfold tx_gt
      rw [if_pos hx, tx_V_s h1 h2 h3 h4 h5 (by omega) (by omega) ht]
    have e2 : tx_p (tx_on n dy ch kd wo ha we bo l nx (t : Int) (nx - d) t) (tx_sm kd wo ha we t (nx - d)) = tx_gt n dy ch kd wo ha we bo l d t u (nx + 1) := by
      rw [tx_on_t]
      unfold tx_gt tx_my
      by_cases f : nx + 1 ≤ u
      · have f2 := hq.mp f
        rw [if_pos f, if_pos (decide_eq_true ⟨f2.2.1, fun z => f2.2.2 ⟨z.1, by omega⟩, by omega⟩), tx_p_p (by omega), show nx + 1 - d = nx - d + 1 by omega]
        congr 1
        show _ = tx_sm kd wo ha we t (nx - d) + tx_vl kd wo ha we t (nx - d + 1)
        omega
      · rw [if_neg f, if_neg, tx_p_n]
        intro z
        have z := of_decide_eq_true z
        exact f (hq.mpr ⟨by omega, z.1, fun y => z.2.1 ⟨y.1, by omega⟩⟩)
    rw [e1, tx_p_max (by omega) (by omega) (by omega), e2]
    omega
/-- a longer limit allows no less -/
theorem tx_V_mo (h1 : ∀ e, wo e ≤ 9) (h2 : ∀ e, ha e ≤ 3) (h3 : ∀ e, we e ≤ 3) (h4 : ch ≤ 9) (h5 : dy ≤ 20) : ∀ j : Nat, ∀ t k : Nat, k + j ≤ dy → tx_V n dy ch kd wo ha we bo l j t k ≤ tx_V n dy ch kd wo ha we bo dy j t k
  | 0, t, k, _ => by show (0 : Int) ≤ 0; omega
  | j + 1, t, k, hk => by
    rw [tx_V, tx_V]
    refine tx_mx_le (tx_mx_lo _ _) (fun u hu => ?_)
    refine Int.le_trans ?_ (tx_mx_ge hu)
    unfold tx_o1
    have hw : (if (t : Int) = (u : Int) then k + 1 else 1) + j ≤ dy := by split <;> omega
    generalize (if (t : Int) = (u : Int) then k + 1 else 1) = w at hw
    have ih := tx_V_mo h1 h2 h3 h4 h5 j u w hw
    have b1 := tx_V_b (n := n) (dy := dy) (bo := bo) (l := l) (kd := kd) h1 h2 h3 h4 j (by omega) u w
    have b2 := tx_V_b (n := n) (dy := dy) (bo := bo) (l := dy) (kd := kd) h1 h2 h3 h4 j (by omega) u w
    have b3 := tx_vl_b (kd := kd) (k := w) (h1 u) (h2 u) (h3 u)
    have b4 : (0 : Int) ≤ (if 0 < dy - (j + 1) ∧ (t : Int) ≠ (u : Int) then (ch : Int) else 0) ∧ (if 0 < dy - (j + 1) ∧ (t : Int) ≠ (u : Int) then (ch : Int) else 0) ≤ 9 := by split <;> omega
    generalize (if 0 < dy - (j + 1) ∧ (t : Int) ≠ (u : Int) then (ch : Int) else 0) = x at b4
    unfold tx_bo9 at b1 b2
    by_cases q : tx_my n kd bo l (dy - (j + 1)) u w = true
    · have q2 : tx_my n kd bo dy (dy - (j + 1)) u w = true := by
        have q3 := of_decide_eq_true q
        exact decide_eq_true ⟨q3.1, fun z => absurd z.2 (by omega), q3.2.2⟩
      rw [if_pos q, if_pos q2]
      rcases tx_p_le (x := tx_vl kd wo ha we u w - x) ih (by omega) with z | z
      · exact z
      · omega
    · rw [if_neg q]
      split
      · show (-999 : Int) ≤ tx_p (tx_V n dy ch kd wo ha we bo dy j u w) (tx_vl kd wo ha we u w - x)
        unfold tx_p
        split <;> omega
      · omega
theorem tx_aw_mo (h1 : ∀ e, wo e ≤ 9) (h2 : ∀ e, ha e ≤ 3) (h3 : ∀ e, we e ≤ 3) (h4 : ch ≤ 9) (h5 : dy ≤ 20) (h6 : 1 ≤ dy) : tx_aw n dy ch kd wo ha we bo l ≤ tx_aw n dy ch kd wo ha we bo dy := by
  unfold tx_aw
  refine tx_mx_le (tx_mx_lo _ _) (fun u hu => Int.le_trans ?_ (tx_mx_ge hu))
  have ih := tx_V_mo (n := n) (ch := ch) (kd := kd) (bo := bo) (l := l) h1 h2 h3 h4 h5 (dy - (0 + 1)) u 1 (by omega)
  have b1 := tx_V_b (n := n) (dy := dy) (bo := bo) (l := l) (kd := kd) h1 h2 h3 h4 (dy - (0 + 1)) (by omega) u 1
  have b2 := tx_V_b (n := n) (dy := dy) (bo := bo) (l := dy) (kd := kd) h1 h2 h3 h4 (dy - (0 + 1)) (by omega) u 1
  have b3 := tx_vl_b (kd := kd) (k := 1) (h1 u) (h2 u) (h3 u)
  unfold tx_bo9 at b1 b2
  unfold tx_S
  by_cases q : tx_my n kd bo l 0 u 1 = true
  · have q2 : tx_my n kd bo dy 0 u 1 = true := by
      have q3 := of_decide_eq_true q
      exact decide_eq_true ⟨q3.1, fun z => absurd z.2 (by omega), q3.2.2⟩
    rw [if_pos q, if_pos q2]
    rcases tx_p_le (x := tx_vl kd wo ha we u 1) ih (by omega) with z | z
    · exact z
    · omega
  · rw [if_neg q]
    split
    · unfold tx_p
      split <;> omega
    · omega
end TXV
