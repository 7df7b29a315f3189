/-! PURE: the best limit; the first of the best years -/
def tx_bs (al : Nat → Int) : Nat → Nat × Int
  | 0 => (0, 0)
  | i + 1 => if al (i + 1) = -999 ∨ (0 < (tx_bs al i).1 ∧ al (i + 1) - ((i + 1 : Nat) : Int) * ((i + 1 : Nat) : Int) ≤ (tx_bs al i).2) then tx_bs al i else (i + 1, al (i + 1) - ((i + 1 : Nat) : Int) * ((i + 1 : Nat) : Int))
def tx_bl (s : Nat × Int) : Int := if s.1 = 0 then -999 else s.2
def tx_bm (s : Nat × Int) : Int := if s.1 = 0 then -9 else (s.1 : Int)
theorem tx_sq_b {i : Nat} (h : i ≤ 20) : (0 : Int) ≤ (i : Int) * (i : Int) ∧ (i : Int) * (i : Int) ≤ 400 := by
  have h1 : i * i ≤ 20 * 20 := Nat.mul_le_mul h h
  have h2 : ((i * i : Nat) : Int) = (i : Int) * (i : Int) := Int.natCast_mul i i
  omega
theorem tx_sq_m {i j : Nat} (h : i ≤ j) : (i : Int) * (i : Int) ≤ (j : Int) * (j : Int) := by
  have h1 : i * i ≤ j * j := Nat.mul_le_mul h h
  have h2 : ((i * i : Nat) : Int) = (i : Int) * (i : Int) := Int.natCast_mul i i
  have h3 : ((j * j : Nat) : Int) = (j : Int) * (j : Int) := Int.natCast_mul j j
  omega
theorem tx_bs_1 (al : Nat → Int) : ∀ i, (tx_bs al i).1 ≤ i
  | 0 => Nat.le_refl 0
  | i + 1 => by
    have := tx_bs_1 al i
    rw [tx_bs]
    split
    · omega
    · exact Nat.le_refl _
theorem tx_bs_v (al : Nat → Int) : ∀ i, 0 < (tx_bs al i).1 → (tx_bs al i).2 = al (tx_bs al i).1 - ((tx_bs al i).1 : Int) * ((tx_bs al i).1 : Int) ∧ al (tx_bs al i).1 ≠ -999
  | 0, h => absurd h (Nat.lt_irrefl 0)
  | i + 1, h => by
    rw [tx_bs] at h ⊢
    by_cases q : al (i + 1) = -999 ∨ (0 < (tx_bs al i).1 ∧ al (i + 1) - ((i + 1 : Nat) : Int) * ((i + 1 : Nat) : Int) ≤ (tx_bs al i).2)
    · rw [if_pos q] at h ⊢
      exact tx_bs_v al i h
    · rw [if_neg q]
      exact ⟨rfl, fun z => q (Or.inl z)⟩
theorem tx_bs_y {al : Nat → Int} {i : Nat} (h1 : al (i + 1) ≠ -999) (h2 : tx_bl (tx_bs al i) < al (i + 1) - ((i + 1 : Nat) : Int) * ((i + 1 : Nat) : Int)) : tx_bs al (i + 1) = (i + 1, al (i + 1) - ((i + 1 : Nat) : Int) * ((i + 1 : Nat) : Int)) := by
  rw [tx_bs, if_neg]
  rintro (q | q)
  · exact h1 q
  · unfold tx_bl at h2
    rw [if_neg (by omega)] at h2
    omega
theorem tx_bs_n1 {al : Nat → Int} {i : Nat} (h1 : al (i + 1) = -999) : tx_bs al (i + 1) = tx_bs al i := by
  rw [tx_bs, if_pos (Or.inl h1)]
theorem tx_bs_n2 {al : Nat → Int} {i : Nat} (hi : i < 20) (hb : al (i + 1) = -999 ∨ -315 ≤ al (i + 1)) (h2 : ¬ tx_bl (tx_bs al i) < al (i + 1) - ((i + 1 : Nat) : Int) * ((i + 1 : Nat) : Int)) : tx_bs al (i + 1) = tx_bs al i := by
  rw [tx_bs, if_pos]
  rcases hb with hb | hb
  · exact Or.inl hb
  · right
    have := (tx_sq_b (i := i + 1) (by omega)).2
    unfold tx_bl at h2
    by_cases q : (tx_bs al i).1 = 0
    · rw [if_pos q] at h2
      omega
    · rw [if_neg q] at h2
      omega
theorem tx_bs_ge {al : Nat → Int} : ∀ i j, 1 ≤ j → j ≤ i → al j = -999 ∨ (0 < (tx_bs al i).1 ∧ al j - (j : Int) * (j : Int) ≤ (tx_bs al i).2)
  | 0, j, h1, h2 => absurd h2 (by omega)
  | i + 1, j, h1, h2 => by
    rw [tx_bs]
    by_cases q : al (i + 1) = -999 ∨ (0 < (tx_bs al i).1 ∧ al (i + 1) - ((i + 1 : Nat) : Int) * ((i + 1 : Nat) : Int) ≤ (tx_bs al i).2)
    · rw [if_pos q]
      by_cases e : j = i + 1
      · rw [e]; exact q
      · exact tx_bs_ge i j h1 (by omega)
    · rw [if_neg q]
      by_cases e : j = i + 1
      · rw [e]; exact Or.inr ⟨Nat.succ_pos i, Int.le_refl _⟩
      · rcases tx_bs_ge (al := al) i j h1 (by omega) with z | z
        · exact Or.inl z
        · right
          refine ⟨Nat.succ_pos i, ?_⟩
          show al j - (j : Int) * (j : Int) ≤ al (i + 1) - ((i + 1 : Nat) : Int) * ((i + 1 : Nat) : Int)
          have : ¬ (al (i + 1) - ((i + 1 : Nat) : Int) * ((i + 1 : Nat) : Int) ≤ (tx_bs al i).2) := fun y => q (Or.inr ⟨z.1, y⟩)
          omega
theorem tx_bs_st {al : Nat → Int} {i : Nat} (h : ∀ j, i < j → j ≤ 20 → al j = -999 ∨ (0 < (tx_bs al i).1 ∧ al j - (j : Int) * (j : Int) ≤ (tx_bs al i).2)) : ∀ k, i + k ≤ 20 → tx_bs al (i + k) = tx_bs al i
  | 0, _ => rfl
  | k + 1, hk => by
    have ih := tx_bs_st h k (by omega)
    show tx_bs al ((i + k) + 1) = _
    rw [tx_bs, ih, if_pos (h (i + k + 1) (by omega) (by omega))]
/-- the search may end: even without a limit it would be no better -/
theorem tx_bs_e1 {al : Nat → Int} {i : Nat} {C : Int} (hi : i < 20) (hC : ∀ l, -999 ≤ al l ∧ al l ≤ C) (hb : C = -999 ∨ -315 ≤ C) (h : C - ((i + 1 : Nat) : Int) * ((i + 1 : Nat) : Int) ≤ tx_bl (tx_bs al i)) : tx_bs al 20 = tx_bs al i := by
  have := tx_bs_st (al := al) (i := i) (fun j h1 h2 => by
    have a := hC j
    have b := tx_sq_m (i := i + 1) (j := j) (by omega)
    have c := (tx_sq_b (i := i + 1) (by omega)).2
    unfold tx_bl at h
    by_cases q : (tx_bs al i).1 = 0
    · rw [if_pos q] at h
      left
      omega
    · rw [if_neg q] at h
      right
      exact ⟨by omega, by omega⟩) (20 - i) (by omega)
  rwa [show i + (20 - i) = 20 by omega] at this
theorem tx_bs_e2 {al : Nat → Int} {dy : Nat} (h1 : 1 ≤ dy) (hd : dy ≤ 20) (hC : ∀ l, -999 ≤ al l ∧ al l ≤ al dy) : tx_bs al 20 = tx_bs al dy := by
  have := tx_bs_st (al := al) (i := dy) (fun j h2 h3 => by
    have a := hC j
    have b := tx_sq_m (i := dy) (j := j) (by omega)
    rcases tx_bs_ge (al := al) dy dy h1 (Nat.le_refl _) with z | z
    · left
      omega
    · right
      exact ⟨z.1, by omega⟩) (20 - dy) (by omega)
  rwa [show dy + (20 - dy) = 20 by omega] at this
/-- the least place from i on -/
def tx_fi (p : Nat → Bool) : Nat → Nat → Nat
  | 0, i => i
  | k + 1, i => if p i = true then i else tx_fi p k (i + 1)
theorem tx_fi_of {p : Nat → Bool} : ∀ (k i j : Nat), i ≤ j → j < i + k → (∀ v, i ≤ v → v < j → p v = false) → p j = true → tx_fi p k i = j
  | 0, i, j, h1, h2, _, _ => by omega
  | k + 1, i, j, h1, h2, h3, h4 => by
    rw [tx_fi]
    by_cases e : i = j
    · rw [e, if_pos h4]
    · rw [if_neg (by rw [h3 i (Nat.le_refl i) (by omega)]; decide)]
      exact tx_fi_of k (i + 1) j (by omega) (by omega) (fun v h5 h6 => h3 v (by omega) h6) h4
def tx_yu (n dy ch : Nat) (kd wo ha we : Nat → Nat) (bo : Nat → Option Nat) (l d : Nat) (t : Int) (k : Nat) : Nat := tx_fi (fun u => decide (tx_on n dy ch kd wo ha we bo l d t k u = tx_mx (fun v => tx_on n dy ch kd wo ha we bo l d t k v) n)) n 0
/-- the thing done on the day ahead, and which day of its stretch that was -/
def tx_ys (n dy ch : Nat) (kd wo ha we : Nat → Nat) (bo : Nat → Option Nat) (l : Nat) : Nat → Int × Nat
  | 0 => (-1, 0)
  | d + 1 => ((tx_yu n dy ch kd wo ha we bo l d (tx_ys n dy ch kd wo ha we bo l d).1 (tx_ys n dy ch kd wo ha we bo l d).2 : Int), if (tx_ys n dy ch kd wo ha we bo l d).1 = (tx_yu n dy ch kd wo ha we bo l d (tx_ys n dy ch kd wo ha we bo l d).1 (tx_ys n dy ch kd wo ha we bo l d).2 : Int) then (tx_ys n dy ch kd wo ha we bo l d).2 + 1 else 1)
def tx_yd (n dy ch : Nat) (kd wo ha we : Nat → Nat) (bo : Nat → Option Nat) (l d : Nat) : Nat := tx_yu n dy ch kd wo ha we bo l d (tx_ys n dy ch kd wo ha we bo l d).1 (tx_ys n dy ch kd wo ha we bo l d).2
section TXY
variable {n dy ch : Nat} {kd wo ha we : Nat → Nat} {bo : Nat → Option Nat} {l : Nat}
theorem tx_yu_of {d k j : Nat} {t : Int} (hj : j < n) (h : ∀ v, v < j → ¬ tx_on n dy ch kd wo ha we bo l d t k v = tx_mx (fun v => tx_on n dy ch kd wo ha we bo l d t k v) n) (h2 : tx_on n dy ch kd wo ha we bo l d t k j = tx_mx (fun v => tx_on n dy ch kd wo ha we bo l d t k v) n) : tx_yu n dy ch kd wo ha we bo l d t k = j :=
  tx_fi_of n 0 j (Nat.zero_le j) (by omega) (fun v _ hv => decide_eq_false (h v hv)) (decide_eq_true h2)
theorem tx_yu_lt (h1 : ∀ e, wo e ≤ 9) (h2 : ∀ e, ha e ≤ 3) (h3 : ∀ e, we e ≤ 3) (h4 : ch ≤ 9) (h5 : dy ≤ 20) (hn : 0 < n) (d : Nat) (t : Int) (k : Nat) : ∃ u, u < n ∧ tx_on n dy ch kd wo ha we bo l d t k u = tx_mx (fun v => tx_on n dy ch kd wo ha we bo l d t k v) n :=
  tx_mx_at (f := fun v => tx_on n dy ch kd wo ha we bo l d t k v) (fun u => by have := tx_on_b (n := n) (bo := bo) (l := l) (kd := kd) h1 h2 h3 h4 h5 d t k u; omega) hn
/-- on the day d, in a stretch of t that began on first, of a year that comes to its most -/
def tx_in (n dy ch : Nat) (kd wo ha we : Nat → Nat) (bo : Nat → Option Nat) (l a t d : Nat) : Prop := tx_V n dy ch kd wo ha we bo l (dy - d) t (d - a) + tx_sm kd wo ha we t (d - a) = tx_S n dy ch kd wo ha we bo l a t ∧ tx_S n dy ch kd wo ha we bo l a t ≠ -999 ∧ ∀ u, tx_isE n dy kd bo l a t u → d ≤ u
theorem tx_in_0 (h1 : ∀ e, wo e ≤ 9) (h2 : ∀ e, ha e ≤ 3) (h3 : ∀ e, we e ≤ 3) (h4 : ch ≤ 9) (h5 : dy ≤ 20) {a t : Nat} (ha9 : a < dy) (h : tx_S n dy ch kd wo ha we bo l a t ≠ -999) : tx_in n dy ch kd wo ha we bo l a t (a + 1) := by
  have hV := tx_V_b (n := n) (dy := dy) (bo := bo) (l := l) (kd := kd) h1 h2 h3 h4 (dy - (a + 1)) (by omega) t 1
  unfold tx_bo9 at hV
  refine ⟨?_, h, fun u hE => ?_⟩
  · rw [show a + 1 - a = 1 by omega]
    show _ + (0 + tx_vl kd wo ha we t 1) = _
    unfold tx_S at h ⊢
    by_cases q : tx_my n kd bo l a t 1 = true
    · rw [if_pos q] at h ⊢
      unfold tx_p at h ⊢
      by_cases z : tx_V n dy ch kd wo ha we bo l (dy - (a + 1)) t 1 = -999
      · rw [if_pos z] at h
        exact absurd rfl h
      · rw [if_neg z]
        omega
    · rw [if_neg q] at h
      exact absurd rfl h
  · unfold tx_S at h
    by_cases q : tx_my n kd bo l a t 1 = true
    · have q := of_decide_eq_true q
      exact (hE.2.2 a (Nat.le_refl a) hE.1).mpr ⟨ha9, q.1, fun z => q.2.1 ⟨z.1, by omega⟩⟩
    · rw [if_neg q] at h
      exact absurd rfl h
theorem tx_in_V (h1 : ∀ e, wo e ≤ 9) (h2 : ∀ e, ha e ≤ 3) (h3 : ∀ e, we e ≤ 3) (h4 : ch ≤ 9) (h5 : dy ≤ 20) {a t d : Nat} (hd : d < dy) (h : tx_in n dy ch kd wo ha we bo l a t d) : tx_S n dy ch kd wo ha we bo l a t - tx_sm kd wo ha we t (d - a) = tx_mx (fun v => tx_on n dy ch kd wo ha we bo l d (t : Int) (d - a) v) n ∧ tx_mx (fun v => tx_on n dy ch kd wo ha we bo l d (t : Int) (d - a) v) n ≠ -999 := by
  have hS := tx_S_b (n := n) (bo := bo) (l := l) (kd := kd) h1 h2 h3 h4 h5 a t
  have hm := tx_sm_b (kd := kd) h1 h2 h3 t (d - a)
  have e := tx_V_mx (n := n) (ch := ch) (kd := kd) (wo := wo) (ha := ha) (we := we) (bo := bo) (l := l) (t := t) (k := d - a) hd
  have h0 := h.1
  have h9 := h.2.1
  rw [e] at h0
  constructor
  · omega
  · intro q
    rw [q] at h0
    omega
theorem tx_in_s (h1 : ∀ e, wo e ≤ 9) (h2 : ∀ e, ha e ≤ 3) (h3 : ∀ e, we e ≤ 3) (h4 : ch ≤ 9) (h5 : dy ≤ 20) {a t d : Nat} (had : a < d) (hd : d < dy) (h : tx_in n dy ch kd wo ha we bo l a t d) (hu : tx_on n dy ch kd wo ha we bo l d (t : Int) (d - a) t = tx_mx (fun v => tx_on n dy ch kd wo ha we bo l d (t : Int) (d - a) v) n) : tx_in n dy ch kd wo ha we bo l a t (d + 1) := by
  have hq := tx_in_V h1 h2 h3 h4 h5 hd h
  rw [← hu] at hq
  have hV := tx_V_b (n := n) (dy := dy) (bo := bo) (l := l) (kd := kd) h1 h2 h3 h4 (dy - (d + 1)) (by omega) t (d - a + 1)
  unfold tx_bo9 at hV
  rw [tx_on_t] at hq
  by_cases q : tx_my n kd bo l d t (d - a + 1) = true
  · rw [if_pos q] at hq
    have q3 := of_decide_eq_true q
    refine ⟨?_, h.2.1, fun u hE => ?_⟩
    · rw [show d + 1 - a = d - a + 1 by omega]
      show _ + (tx_sm kd wo ha we t (d - a) + tx_vl kd wo ha we t (d - a + 1)) = _
      unfold tx_p at hq
      by_cases z : tx_V n dy ch kd wo ha we bo l (dy - (d + 1)) t (d - a + 1) = -999
      · rw [if_pos z] at hq
        exact absurd rfl hq.2
      · rw [if_neg z] at hq
        omega
    · have hdu := h.2.2 u hE
      exact (hE.2.2 d (by omega) hdu).mpr ⟨hd, q3.1, fun z => q3.2.1 ⟨z.1, by omega⟩⟩
  · rw [if_neg q] at hq
    exact absurd rfl hq.2
theorem tx_in_n (h1 : ∀ e, wo e ≤ 9) (h2 : ∀ e, ha e ≤ 3) (h3 : ∀ e, we e ≤ 3) (h4 : ch ≤ 9) (h5 : dy ≤ 20) {a t d u : Nat} (had : a < d) (hd : d < dy) (h : tx_in n dy ch kd wo ha we bo l a t d) (hne : u ≠ t) (hu : tx_on n dy ch kd wo ha we bo l d (t : Int) (d - a) u = tx_mx (fun v => tx_on n dy ch kd wo ha we bo l d (t : Int) (d - a) v) n) : tx_in n dy ch kd wo ha we bo l d u (d + 1) := by
  have hq := (tx_in_V h1 h2 h3 h4 h5 hd h).2
  rw [← hu, tx_on_o h1 h2 h3 h4 h5 (by omega) (by omega)] at hq
  refine tx_in_0 h1 h2 h3 h4 h5 hd (fun z => hq ?_)
  rw [z, tx_p_n]
/-- the stretch goes on: what is still to come of it from the next day on -/
theorem tx_gt_n (h1 : ∀ e, wo e ≤ 9) (h2 : ∀ e, ha e ≤ 3) (h3 : ∀ e, we e ≤ 3) (h4 : ch ≤ 9) (h5 : dy ≤ 20) {d t u nx : Nat} (hE : tx_isE n dy kd bo l d t u) (hn : d < nx) (hx : nx ≤ u) (hy : nx < dy) : tx_p (tx_on n dy ch kd wo ha we bo l nx (t : Int) (nx - d) t) (tx_sm kd wo ha we t (nx - d)) = tx_gt n dy ch kd wo ha we bo l d t u (nx + 1) := by
  have b := tx_sm_b (kd := kd) h1 h2 h3 t (nx - d)
  have hq := hE.2.2 nx (by omega) hx
  have hV := tx_V_b (n := n) (dy := dy) (bo := bo) (l := l) (kd := kd) h1 h2 h3 h4 (dy - (nx + 1)) (by omega) t (nx - d + 1)
  have hv := tx_vl_b (kd := kd) (k := nx - d + 1) (h1 t) (h2 t) (h3 t)
  unfold tx_bo9 at hV
  rw [tx_on_t]
  unfold tx_gt tx_my
  by_cases f : nx + 1 ≤ u
  · have f2 := hq.mp f
    rw [if_pos f, if_pos (decide_eq_true ⟨f2.2.1, fun z => f2.2.2 ⟨z.1, by omega⟩, by omega⟩), tx_p_p (by omega), show nx + 1 - d = nx - d + 1 by omega]
    congr 1
    show _ = tx_sm kd wo ha we t (nx - d) + tx_vl kd wo ha we t (nx - d + 1)
    omega
  · rw [if_neg f, if_neg, tx_p_n]
    intro z
    have z := of_decide_eq_true z
    exact f (hq.mpr ⟨by omega, z.1, fun y => z.2.1 ⟨y.1, by omega⟩⟩)
theorem tx_goes (h1 : ∀ e, wo e ≤ 9) (h2 : ∀ e, ha e ≤ 3) (h3 : ∀ e, we e ≤ 3) (h4 : ch ≤ 9) (h5 : dy ≤ 20) {a t d u : Nat} (had : a < d) (hd : d < dy) (ht : t < n) (hE : tx_isE n dy kd bo l a t u) (h : tx_in n dy ch kd wo ha we bo l a t d) : (tx_gt n dy ch kd wo ha we bo l a t u (d + 1) = tx_S n dy ch kd wo ha we bo l a t ↔ tx_on n dy ch kd wo ha we bo l d (t : Int) (d - a) t = tx_mx (fun v => tx_on n dy ch kd wo ha we bo l d (t : Int) (d - a) v) n) ∧ tx_gt n dy ch kd wo ha we bo l a t u (d + 1) ≤ tx_S n dy ch kd wo ha we bo l a t := by
  have hq := tx_in_V h1 h2 h3 h4 h5 hd h
  have hdu := h.2.2 u hE
  have e := tx_gt_n (ch := ch) h1 h2 h3 h4 h5 hE had hdu hd
  have hS := tx_S_b (n := n) (bo := bo) (l := l) (kd := kd) h1 h2 h3 h4 h5 a t
  have hm := tx_sm_b (kd := kd) h1 h2 h3 t (d - a)
  have hO := tx_on_b (n := n) (bo := bo) (l := l) (kd := kd) h1 h2 h3 h4 h5 d (t : Int) (d - a) t
  have hM := tx_mx_ge (f := fun v => tx_on n dy ch kd wo ha we bo l d (t : Int) (d - a) v) ht
  have hne := h.2.1
  rw [← e]
  unfold tx_p
  split <;> (constructor <;> (try constructor)) <;> omega
end TXY
section TXZ
variable {n dy ch : Nat} {kd wo ha we : Nat → Nat} {bo : Nat → Option Nat} {l : Nat}
theorem tx_sm_1 {t m : Nat} (hm : 1 ≤ m) (ht : t < n) : iI (tx_sm kd wo ha we t (m - 1) + tx_vn n kd wo ha we t m) = iI (tx_sm kd wo ha we t m) := by
  obtain ⟨k, rfl⟩ : ∃ k, m = k + 1 := ⟨m - 1, by omega⟩
  unfold tx_vn
  rw [if_pos ht]
  rfl
theorem tx_aw_on : tx_aw n dy ch kd wo ha we bo l = tx_mx (fun v => tx_on n dy ch kd wo ha we bo l 0 (-1) 0 v) n := tx_mx_cg (fun u _ => tx_on_1.symm)
theorem tx_yu_b (h1 : ∀ e, wo e ≤ 9) (h2 : ∀ e, ha e ≤ 3) (h3 : ∀ e, we e ≤ 3) (h4 : ch ≤ 9) (h5 : dy ≤ 20) (hn : 0 < n) (d : Nat) (t : Int) (k : Nat) : tx_yu n dy ch kd wo ha we bo l d t k < n ∧ tx_on n dy ch kd wo ha we bo l d t k (tx_yu n dy ch kd wo ha we bo l d t k) = tx_mx (fun v => tx_on n dy ch kd wo ha we bo l d t k v) n := by
  obtain ⟨u, hu, hu2⟩ := tx_yu_lt (n := n) (bo := bo) (l := l) (kd := kd) h1 h2 h3 h4 h5 hn d t k
  have : ∀ m, ∀ w, w < m → w < n → tx_on n dy ch kd wo ha we bo l d t k w = tx_mx (fun v => tx_on n dy ch kd wo ha we bo l d t k v) n → tx_yu n dy ch kd wo ha we bo l d t k < n ∧ tx_on n dy ch kd wo ha we bo l d t k (tx_yu n dy ch kd wo ha we bo l d t k) = tx_mx (fun v => tx_on n dy ch kd wo ha we bo l d t k v) n := by
    intro m
    induction m with
    | zero => intro w hw; omega
    | succ m ih =>
      intro w hw hwn hw2
      by_cases q : ∃ v, v < w ∧ tx_on n dy ch kd wo ha we bo l d t k v = tx_mx (fun v => tx_on n dy ch kd wo ha we bo l d t k v) n
      · obtain ⟨v, hv, hv2⟩ := q
        exact ih v (by omega) (by omega) hv2
      · rw [tx_yu_of hwn (fun v hv hv2 => q ⟨v, hv, hv2⟩) hw2]
        exact ⟨hwn, hw2⟩
  exact this (u + 1) u (by omega) hu hu2
theorem tx_turns (h1 : ∀ e, wo e ≤ 9) (h2 : ∀ e, ha e ≤ 3) (h3 : ∀ e, we e ≤ 3) (h4 : ch ≤ 9) (h5 : dy ≤ 20) {d k u t : Nat} {m : Int} (h0 : 0 < d) (h : ¬ u = t) (hm : m ≠ -999) : (tx_S n dy ch kd wo ha we bo l d u ≠ -999 ∧ tx_S n dy ch kd wo ha we bo l d u - (ch : Int) = m) ↔ tx_on n dy ch kd wo ha we bo l d (t : Int) k u = m := by
  rw [tx_on_o h1 h2 h3 h4 h5 h0 (show (t : Int) ≠ (u : Int) by omega)]
  unfold tx_p
  by_cases q : tx_S n dy ch kd wo ha we bo l d u = -999
  · rw [if_pos q]
    exact ⟨fun z => absurd q z.1, fun z => absurd z.symm hm⟩
  · rw [if_neg q]
    constructor
    · rintro ⟨_, z⟩
      omega
    · intro z
      exact ⟨q, by omega⟩
theorem tx_aw_C (h1 : ∀ e, wo e ≤ 9) (h2 : ∀ e, ha e ≤ 3) (h3 : ∀ e, we e ≤ 3) (h4 : ch ≤ 9) (h5 : dy ≤ 20) (h6 : 1 ≤ dy) : ∀ i, -999 ≤ tx_aw n dy ch kd wo ha we bo i ∧ tx_aw n dy ch kd wo ha we bo i ≤ tx_aw n dy ch kd wo ha we bo dy := fun i => ⟨tx_mx_lo _ _, tx_aw_mo h1 h2 h3 h4 h5 h6⟩
theorem tx_bl_b (h1 : ∀ e, wo e ≤ 9) (h2 : ∀ e, ha e ≤ 3) (h3 : ∀ e, we e ≤ 3) (h4 : ch ≤ 9) (h5 : dy ≤ 20) {i : Nat} (hi : i ≤ 20) : -999 ≤ tx_bl (tx_bs (tx_aw n dy ch kd wo ha we bo) i) ∧ tx_bl (tx_bs (tx_aw n dy ch kd wo ha we bo) i) ≤ 1000 := by
  unfold tx_bl
  by_cases q : (tx_bs (tx_aw n dy ch kd wo ha we bo) i).1 = 0
  · rw [if_pos q]
    omega
  · rw [if_neg q]
    have a := tx_bs_v (tx_aw n dy ch kd wo ha we bo) i (by omega)
    have b := tx_bs_1 (tx_aw n dy ch kd wo ha we bo) i
    have c := tx_sq_b (i := (tx_bs (tx_aw n dy ch kd wo ha we bo) i).1) (by omega)
    have d := tx_aw_b (n := n) (bo := bo) (kd := kd) (l := (tx_bs (tx_aw n dy ch kd wo ha we bo) i).1) h1 h2 h3 h4 h5
    omega
end TXZ
def tx_q_best (n : Nat) (v : Int32) : Nat := if v = 0 ∨ v = 1 then tx_q_n n else 2
def tx_bx (s : Nat × Int) (v : Int32) : Int := if v = 0 then tx_bl s else tx_bm s
def tx_by9 (s x : Nat) : Int32 := if s = 0 then -9 else nI x
theorem tx_bm_b (al : Nat → Int) : -9 ≤ tx_bm (tx_bs al 20) ∧ tx_bm (tx_bs al 20) ≤ 20 ∧ (tx_bm (tx_bs al 20) ≠ -9 → 0 < (tx_bs al 20).1 ∧ tx_bm (tx_bs al 20) = ((tx_bs al 20).1 : Int)) ∧ (tx_bm (tx_bs al 20) = -9 → (tx_bs al 20).1 = 0) := by
  have h := tx_bs_1 al 20
  unfold tx_bm
  by_cases q : (tx_bs al 20).1 = 0
  · rw [if_pos q]
    exact ⟨by omega, by omega, fun z => absurd rfl z, fun _ => q⟩
  · rw [if_neg q]
    exact ⟨by omega, by omega, fun _ => ⟨by omega, rfl⟩, fun z => by omega⟩
