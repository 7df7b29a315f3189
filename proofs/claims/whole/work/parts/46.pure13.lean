/-! PURE: how many years -/
theorem lN_0 : lN 0 = 0 := rfl
def tx_ns (f : Nat → Nat) : Nat → Nat
  | 0 => 0
  | i + 1 => tx_ns f i + f i
theorem tx_ns_cg {f g : Nat → Nat} : ∀ {i : Nat}, (∀ u, u < i → f u = g u) → tx_ns f i = tx_ns g i
  | 0, _ => rfl
  | i + 1, h => by
    rw [tx_ns, tx_ns, tx_ns_cg (fun u hu => h u (by omega)), h i (by omega)]
theorem tx_ns_le {f : Nat → Nat} {b : Nat} : ∀ {i : Nat}, (∀ u, u < i → f u ≤ b) → tx_ns f i ≤ i * b
  | 0, _ => by simp [tx_ns]
  | i + 1, h => by
    have h1 := tx_ns_le (f := f) (b := b) (i := i) (fun u hu => h u (by omega))
    have h2 := h i (by omega)
    rw [tx_ns, Nat.succ_mul]
    omega
theorem tx_ns_mo {f g : Nat → Nat} : ∀ {i : Nat}, (∀ u, u < i → f u ≤ g u) → tx_ns f i ≤ tx_ns g i
  | 0, _ => Nat.le_refl 0
  | i + 1, h => by
    have h1 := tx_ns_mo (f := f) (g := g) (i := i) (fun u hu => h u (by omega))
    have h2 := h i (by omega)
    rw [tx_ns, tx_ns]
    omega
theorem tx_ns_0 {f : Nat → Nat} : ∀ {i : Nat}, (∀ u, u < i → f u = 0) → tx_ns f i = 0
  | 0, _ => rfl
  | i + 1, h => by
    rw [tx_ns, tx_ns_0 (fun u hu => h u (by omega)), h i (by omega)]
theorem tx_ns_x {f : Nat → Nat} {t : Nat} : ∀ {n : Nat}, t < n → tx_ns f n = f t + tx_ns (fun u => if u = t then 0 else f u) n
  | 0, h => absurd h (Nat.not_lt_zero t)
  | n + 1, h => by
    rw [tx_ns, tx_ns]
    by_cases e : n = t
    · rw [if_pos e, e, tx_ns_cg (f := fun u => if u = t then 0 else f u) (g := f) (fun u hu => if_neg (by omega))]
      omega
    · have h3 := tx_ns_x (f := f) (t := t) (n := n) (by omega)
      rw [if_neg e]
      omega
theorem tx_ns_c (b : Nat) : ∀ i, tx_ns (fun _ => b) i = i * b
  | 0 => by simp [tx_ns]
  | i + 1 => by
    rw [tx_ns, tx_ns_c b i, Nat.succ_mul]
theorem tx_ns_k (f : Nat → Nat) (b : Nat) : ∀ i, tx_ns (fun u => b * f u) i = b * tx_ns f i
  | 0 => by simp [tx_ns]
  | i + 1 => by
    rw [tx_ns, tx_ns, tx_ns_k f b i, Nat.mul_add]
def tx_pm (P : Nat → Nat → Bool) (C : Nat → Bool) (l d u w : Nat) : Bool := decide (P d u = true ∧ ¬ (C u = true ∧ l < w))
/-- how many ways there are from a day on, j days ahead of the end, behind k days of t -/
def tx_W (n D : Nat) (P : Nat → Nat → Bool) (C : Nat → Bool) (l : Nat) : Nat → Nat → Nat → Nat
  | 0, _, _ => 1
  | j + 1, t, k => tx_ns (fun u => if tx_pm P C l (D - (j + 1)) u (if t = u then k + 1 else 1) = true then tx_W n D P C l j u (if t = u then k + 1 else 1) else 0) n
def tx_wS (n D : Nat) (P : Nat → Nat → Bool) (C : Nat → Bool) (l d u : Nat) : Nat := if tx_pm P C l d u 1 = true then tx_W n D P C l (D - (d + 1)) u 1 else 0
def tx_wR (n D : Nat) (P : Nat → Nat → Bool) (C : Nat → Bool) (l d t : Nat) : Nat := if D ≤ d then 1 else tx_ns (fun u => if u = t then 0 else tx_wS n D P C l d u) n
def tx_tot (n D : Nat) (P : Nat → Nat → Bool) (C : Nat → Bool) (l : Nat) : Nat := tx_ns (fun u => tx_wS n D P C l 0 u) n
/-- what is still to come of a stretch of t from d on, with the day e -/
def tx_wg (n D : Nat) (P : Nat → Nat → Bool) (C : Nat → Bool) (l d t e : Nat) : Nat := if e < D ∧ P e t = true ∧ ¬ (C t = true ∧ d + l ≤ e) then tx_W n D P C l (D - (e + 1)) t (e + 1 - d) else 0
/-- the longest is just L -/
def tx_wl (n D : Nat) (P : Nat → Nat → Bool) (C : Nat → Bool) (L : Nat) : Nat := if L = 0 then tx_tot n D P C 0 else tx_tot n D P C L - tx_tot n D P C (L - 1)
section TXW
variable {n D : Nat} {P : Nat → Nat → Bool} {C : Nat → Bool} {l : Nat}
theorem tx_W_mx {d t k : Nat} (hd : d < D) : tx_W n D P C l (D - d) t k = tx_ns (fun u => if tx_pm P C l d u (if t = u then k + 1 else 1) = true then tx_W n D P C l (D - (d + 1)) u (if t = u then k + 1 else 1) else 0) n := by
  obtain ⟨j, rfl⟩ : ∃ j, D = d + (j + 1) := ⟨D - d - 1, by omega⟩
  rw [show d + (j + 1) - d = j + 1 by omega, tx_W, show d + (j + 1) - (j + 1) = d by omega, show d + (j + 1) - (d + 1) = j by omega]
theorem tx_W_s {d t k : Nat} (hd : d < D) (ht : t < n) : tx_W n D P C l (D - d) t k = (if tx_pm P C l d t (k + 1) = true then tx_W n D P C l (D - (d + 1)) t (k + 1) else 0) + tx_wR n D P C l d t := by
  rw [tx_W_mx hd, tx_ns_x ht, if_pos rfl]
  congr 1
  unfold tx_wR
  rw [if_neg (by omega)]
  refine tx_ns_cg (fun u _ => ?_)
  by_cases e : u = t
  · rw [if_pos e, if_pos e]
  · rw [if_neg e, if_neg e, show (if t = u then k + 1 else 1) = 1 from if_neg (fun q => e q.symm)]
    rfl
theorem tx_wg_0 {d t : Nat} (hd : d < D) : tx_wg n D P C l d t d = tx_wS n D P C l d t := by
  unfold tx_wg tx_wS tx_pm
  rw [show d + 1 - d = 1 by omega]
  by_cases q : P d t = true ∧ ¬ (C t = true ∧ l < 1)
  · rw [if_pos ⟨hd, q.1, fun z => q.2 ⟨z.1, by omega⟩⟩, if_pos (decide_eq_true q)]
  · rw [if_neg (fun z => q ⟨z.2.1, fun y => z.2.2 ⟨y.1, by omega⟩⟩), if_neg (fun z => q (of_decide_eq_true z))]
theorem tx_wg_n {d t e : Nat} (h : ¬ (e < D ∧ P e t = true ∧ ¬ (C t = true ∧ d + l ≤ e))) : tx_wg n D P C l d t e = 0 := if_neg h
theorem tx_wg_s {d t e : Nat} (ht : t < n) (hde : d ≤ e) (h : e < D ∧ P e t = true ∧ ¬ (C t = true ∧ d + l ≤ e)) : tx_wg n D P C l d t e = tx_wR n D P C l (e + 1) t + tx_wg n D P C l d t (e + 1) := by
  unfold tx_wg
  rw [if_pos h]
  by_cases q : e + 1 < D
  · rw [tx_W_s q ht, Nat.add_comm]
    congr 1
    unfold tx_pm
    by_cases z : P (e + 1) t = true ∧ ¬ (C t = true ∧ l < e + 1 - d + 1)
    · rw [if_pos (decide_eq_true z), if_pos ⟨q, z.1, fun y => z.2 ⟨y.1, by omega⟩⟩, show e + 1 + 1 - d = e + 1 - d + 1 by omega]
    · rw [if_neg (fun y => z (of_decide_eq_true y)), if_neg (fun y => z ⟨y.2.1, fun x => y.2.2 ⟨x.1, by omega⟩⟩)]
  · rw [if_neg (fun z => q z.1), show D - (e + 1) = 0 by omega, tx_W]
    unfold tx_wR
    rw [if_pos (by omega)]
theorem tx_W_b : ∀ j t k : Nat, tx_W n D P C l j t k ≤ n ^ j
  | 0, _, _ => Nat.le_refl 1
  | j + 1, t, k => by
    rw [tx_W, Nat.pow_succ, Nat.mul_comm]
    refine tx_ns_le (fun u _ => ?_)
    generalize (if t = u then k + 1 else 1) = w
    split
    · exact tx_W_b j u w
    · exact Nat.zero_le _
theorem tx_tot_b (hD : 1 ≤ D) : tx_tot n D P C l ≤ n ^ D := by
  obtain ⟨j, rfl⟩ : ∃ j, D = j + 1 := ⟨D - 1, by omega⟩
  unfold tx_tot
  rw [Nat.pow_succ, Nat.mul_comm]
  refine tx_ns_le (fun u _ => ?_)
  unfold tx_wS
  split
  · exact tx_W_b _ _ _
  · exact Nat.zero_le _
theorem tx_tot_40 (hD : 1 ≤ D) (hD2 : D ≤ 20) (hn : n ≤ 4) : tx_tot n D P C l ≤ 1099511627776 := by
  refine Nat.le_trans (tx_tot_b hD) (Nat.le_trans (Nat.pow_le_pow_left hn D) ?_)
  exact Nat.le_trans (Nat.pow_le_pow_right (by decide) hD2) (by decide)
theorem tx_W_mo {l2 : Nat} (hl : l ≤ l2) : ∀ j t k : Nat, tx_W n D P C l j t k ≤ tx_W n D P C l2 j t k
  | 0, _, _ => Nat.le_refl 1
  | j + 1, t, k => by
    rw [tx_W, tx_W]
    refine tx_ns_mo (fun u _ => ?_)
    generalize (if t = u then k + 1 else 1) = w
    by_cases q : tx_pm P C l (D - (j + 1)) u w = true
    · have q2 : tx_pm P C l2 (D - (j + 1)) u w = true := by
        have q3 := of_decide_eq_true q
        exact decide_eq_true ⟨q3.1, fun z => q3.2 ⟨z.1, by omega⟩⟩
      rw [if_pos q, if_pos q2]
      exact tx_W_mo hl j u w
    · rw [if_neg q]
      exact Nat.zero_le _
theorem tx_tot_mo {l2 : Nat} (hl : l ≤ l2) : tx_tot n D P C l ≤ tx_tot n D P C l2 := by
  unfold tx_tot
  refine tx_ns_mo (fun u _ => ?_)
  unfold tx_wS
  by_cases q : tx_pm P C l 0 u 1 = true
  · have q2 : tx_pm P C l2 0 u 1 = true := by
      have q3 := of_decide_eq_true q
      exact decide_eq_true ⟨q3.1, fun z => q3.2 ⟨z.1, by omega⟩⟩
    rw [if_pos q, if_pos q2]
    exact tx_W_mo hl _ _ _
  · rw [if_neg q]
    exact Nat.zero_le _
theorem tx_W_cg {P2 : Nat → Nat → Bool} {C2 : Nat → Bool} (hP : ∀ d u, d < D → u < n → P d u = P2 d u) (hC : ∀ u, u < n → C u = C2 u) : ∀ j t k : Nat, j ≤ D → tx_W n D P C l j t k = tx_W n D P2 C2 l j t k
  | 0, _, _, _ => rfl
  | j + 1, t, k, hj => by
    rw [tx_W, tx_W]
    refine tx_ns_cg (fun u hu => ?_)
    unfold tx_pm
    rw [hP _ u (by omega) hu, hC u hu, tx_W_cg hP hC j u _ (by omega)]
theorem tx_tot_cg {P2 : Nat → Nat → Bool} {C2 : Nat → Bool} (hD : 1 ≤ D) (hP : ∀ d u, d < D → u < n → P d u = P2 d u) (hC : ∀ u, u < n → C u = C2 u) : tx_tot n D P C l = tx_tot n D P2 C2 l := by
  unfold tx_tot
  refine tx_ns_cg (fun u hu => ?_)
  unfold tx_wS tx_pm
  rw [hP 0 u (by omega) hu, hC u hu, tx_W_cg hP hC _ u 1 (by omega)]
theorem tx_W_z {d : Nat} (hd : d < D) (hP : ∀ u, u < n → P d u = false) : ∀ j t k : Nat, D - d ≤ j → j ≤ D → tx_W n D P C l j t k = 0
  | 0, _, _, h, _ => by omega
  | j + 1, t, k, h, hj => by
    rw [tx_W]
    refine tx_ns_0 (fun u hu => ?_)
    generalize (if t = u then k + 1 else 1) = w
    by_cases e : D - (j + 1) = d
    · rw [e, if_neg (fun z => absurd (of_decide_eq_true z).1 (by rw [hP u hu]; decide))]
    · split
      · exact tx_W_z hd hP j u _ (by omega) (by omega)
      · rfl
theorem tx_tot_z {d : Nat} (hd : d < D) (hP : ∀ u, u < n → P d u = false) : tx_tot n D P C l = 0 := by
  unfold tx_tot
  refine tx_ns_0 (fun u hu => ?_)
  unfold tx_wS
  by_cases e : d = 0
  · subst e
    rw [if_neg (fun z => absurd (of_decide_eq_true z).1 (by rw [hP u hu]; decide))]
  · split
    · exact tx_W_z hd hP _ _ _ (by omega) (by omega)
    · rfl
theorem tx_wl_e {L : Nat} : lN (tx_wl n D P C L) = if L = 0 then lN (tx_tot n D P C 0) else lN (tx_tot n D P C L) - lN (tx_tot n D P C (L - 1)) := by
  unfold tx_wl
  by_cases q : L = 0
  · rw [if_pos q, if_pos q]
  · rw [if_neg q, if_neg q]
    exact (lN_sub (tx_tot_mo (by omega))).symm
theorem tx_wR_e {d t : Nat} (hd : d < D) (ht : t < n) : lN (tx_ns (fun u => tx_wS n D P C l d u) n) - lN (tx_wS n D P C l d t) = lN (tx_wR n D P C l d t) := by
  rw [tx_ns_x ht, Nat.add_comm, ← lN_add, Int64.add_sub_cancel]
  unfold tx_wR
  rw [if_neg (by omega)]
end TXW
/-- the root of a told sum; 21: none -/
def tx_rt (s : Nat) : Nat := tx_fi (fun i => decide (i * i = s)) 21 0
def tx_pay (n D : Nat) (P : Nat → Nat → Bool) (C : Nat → Bool) (s : Nat) : Nat := if tx_rt s ≤ 20 then tx_wl n D P C (tx_rt s) else 0
theorem tx_fi_no {p : Nat → Bool} : ∀ (k i : Nat), (∀ v, i ≤ v → v < i + k → p v = false) → tx_fi p k i = i + k
  | 0, _, _ => rfl
  | k + 1, i, h => by
    rw [tx_fi, if_neg (by rw [h i (Nat.le_refl i) (by omega)]; decide), tx_fi_no k (i + 1) (fun v h1 h2 => h v (by omega) (by omega))]
    omega
theorem tx_rt_of {s L : Nat} (hL : L ≤ 20) (h : L * L = s) : tx_rt s = L := by
  refine tx_fi_of 21 0 L (Nat.zero_le L) (by omega) (fun v _ hv => decide_eq_false (fun q => ?_)) (decide_eq_true h)
  have := Nat.mul_self_inj.mp (q.trans h.symm)
  omega
theorem tx_rt_no {s : Nat} (h : ∀ v, v ≤ 20 → ¬ v * v = s) : tx_rt s = 21 :=
  tx_fi_no 21 0 (fun v _ hv => decide_eq_false (h v (by omega)))
theorem tx_pay_of {n D : Nat} {P : Nat → Nat → Bool} {C : Nat → Bool} {s L : Nat} (hL : L ≤ 20) (h : L * L = s) : tx_pay n D P C s = tx_wl n D P C L := by
  unfold tx_pay
  rw [tx_rt_of hL h, if_pos hL]
theorem tx_pay_no {n D : Nat} {P : Nat → Nat → Bool} {C : Nat → Bool} {s : Nat} (h : ∀ v, v ≤ 20 → ¬ v * v = s) : tx_pay n D P C s = 0 := by
  unfold tx_pay
  rw [tx_rt_no h]
  rfl
theorem tx_pay_cg {n D : Nat} {P P2 : Nat → Nat → Bool} {C C2 : Nat → Bool} {s : Nat} (hD : 1 ≤ D) (hP : ∀ d u, d < D → u < n → P d u = P2 d u) (hC : ∀ u, u < n → C u = C2 u) : tx_pay n D P C s = tx_pay n D P2 C2 s := by
  unfold tx_pay tx_wl
  rw [tx_tot_cg hD hP hC, tx_tot_cg hD hP hC, tx_tot_cg hD hP hC]
theorem tx_pay_z {n D d : Nat} {P : Nat → Nat → Bool} {C : Nat → Bool} {s : Nat} (hd : d < D) (hP : ∀ u, u < n → P d u = false) : tx_pay n D P C s = 0 := by
  unfold tx_pay tx_wl
  rw [tx_tot_z hd hP, tx_tot_z hd hP, tx_tot_z hd hP]
  simp
theorem tx_wl_b {n D L : Nat} {P : Nat → Nat → Bool} {C : Nat → Bool} (hD : 1 ≤ D) (hD2 : D ≤ 20) (hn : n ≤ 4) : tx_wl n D P C L ≤ 1099511627776 := by
  unfold tx_wl
  split
  · exact tx_tot_40 hD hD2 hn
  · exact Nat.le_trans (Nat.sub_le _ _) (tx_tot_40 hD hD2 hn)
theorem tx_pay_b {n D s : Nat} {P : Nat → Nat → Bool} {C : Nat → Bool} (hD : 1 ≤ D) (hD2 : D ≤ 20) (hn : n ≤ 4) : tx_pay n D P C s ≤ 1099511627776 := by
  unfold tx_pay
  split
  · exact tx_wl_b hD hD2 hn
  · exact Nat.zero_le _
/-! years: the same for each thing -/
section TXU
variable {n D l : Nat}
def tx_tt : Nat → Nat → Bool := fun _ _ => true
def tx_t1 : Nat → Bool := fun _ => true
theorem tx_W_u : ∀ j t u k : Nat, t < n → u < n → tx_W n D tx_tt tx_t1 l j t k = tx_W n D tx_tt tx_t1 l j u k
  | 0, _, _, _, _, _ => rfl
  | j + 1, t, u, k, ht, hu => by
    have key : ∀ a : Nat, a < n → tx_W n D tx_tt tx_t1 l (j + 1) a k = (if tx_pm tx_tt tx_t1 l (D - (j + 1)) a (k + 1) = true then tx_W n D tx_tt tx_t1 l j a (k + 1) else 0) + tx_ns (fun v => if v = a then 0 else if tx_pm tx_tt tx_t1 l (D - (j + 1)) v (if a = v then k + 1 else 1) = true then tx_W n D tx_tt tx_t1 l j v (if a = v then k + 1 else 1) else 0) n := fun a ha => by
      rw [tx_W, tx_ns_x ha, if_pos rfl]
    rw [key t ht, key u hu]
    have e1 : ∀ v w x, tx_pm tx_tt tx_t1 l v w x = decide (¬ l < x) := fun v w x => by
      unfold tx_pm tx_tt tx_t1
      simp
    have e2 : ∀ a b : Nat, a < n → tx_ns (fun v => if v = a then 0 else if tx_pm tx_tt tx_t1 l (D - (j + 1)) v (if a = v then k + 1 else 1) = true then tx_W n D tx_tt tx_t1 l j v (if a = v then k + 1 else 1) else 0) n = tx_ns (fun v => if v = a then 0 else if decide (¬ l < 1) = true then tx_W n D tx_tt tx_t1 l j t 1 else 0) n := fun a b ha => by
      refine tx_ns_cg (fun v hv => ?_)
      by_cases q : v = a
      · rw [if_pos q, if_pos q]
      · rw [if_neg q, if_neg q, show (if a = v then k + 1 else 1) = 1 from if_neg (fun z => q z.symm), e1, tx_W_u j v t 1 hv ht]
    rw [e2 t 0 ht, e2 u 0 hu, e1, e1, tx_W_u j t u (k + 1) ht hu]
    congr 1
    generalize (if decide (¬ l < 1) = true then tx_W n D tx_tt tx_t1 l j t 1 else 0) = x
    have e3 : ∀ a, a < n → tx_ns (fun v => if v = a then 0 else x) n + x = n * x := fun a ha => by
      have := tx_ns_x (f := fun _ => x) ha
      rw [tx_ns_c] at this
      omega
    have := e3 t ht
    have := e3 u hu
    omega
theorem tx_wS_u {d t u : Nat} (ht : t < n) (hu : u < n) : tx_wS n D tx_tt tx_t1 l d t = tx_wS n D tx_tt tx_t1 l d u := by
  unfold tx_wS
  rw [tx_W_u _ t u 1 ht hu]
  rfl
/-- j days ahead of the end: a stretch ended -/
def tx_rr (n D l j : Nat) : Nat := tx_wR n D tx_tt tx_t1 l (D - j) 0
theorem tx_wR_S {d t : Nat} (hd : d < D) (ht : t < n) : tx_wR n D tx_tt tx_t1 l d t = (n - 1) * tx_wS n D tx_tt tx_t1 l d 0 := by
  unfold tx_wR
  rw [if_neg (by omega)]
  have h := tx_ns_x (f := fun _ => tx_wS n D tx_tt tx_t1 l d 0) ht
  rw [tx_ns_c] at h
  rw [tx_ns_cg (g := fun u => if u = t then 0 else tx_wS n D tx_tt tx_t1 l d 0) (fun u hu => by
    by_cases q : u = t
    · rw [if_pos q, if_pos q]
    · rw [if_neg q, if_neg q]
      exact tx_wS_u hu (by omega))]
  rw [Nat.sub_mul, Nat.one_mul]
  omega
theorem tx_wR_u {d t : Nat} (hd : d ≤ D) (ht : t < n) : tx_wR n D tx_tt tx_t1 l d t = tx_wR n D tx_tt tx_t1 l d 0 := by
  by_cases e : d < D
  · rw [tx_wR_S e ht, tx_wR_S e (by omega)]
  · unfold tx_wR
    rw [if_pos (by omega), if_pos (by omega)]
theorem tx_wg_u {d t : Nat} (ht : t < n) : ∀ k e, d ≤ e → e ≤ D → D - e ≤ k → tx_wg n D tx_tt tx_t1 l d t e = tx_ns (fun i => tx_rr n D l (D - e - 1 - i)) (min (D - e) (d + l - e))
  | 0, e, h1, h2, h3 => by
    rw [tx_wg_n (by omega), show min (D - e) (d + l - e) = 0 by omega]
    rfl
  | k + 1, e, h1, h2, h3 => by
    by_cases q : e < D ∧ e < d + l
    · rw [tx_wg_s ht h1 ⟨q.1, rfl, fun z => absurd z.2 (by omega)⟩, tx_wg_u ht k (e + 1) (by omega) (by omega) (by omega), tx_wR_u (by omega) ht]
      obtain ⟨w, hw⟩ : ∃ w, min (D - e) (d + l - e) = w + 1 := ⟨min (D - e) (d + l - e) - 1, by omega⟩
      rw [hw, show min (D - (e + 1)) (d + l - (e + 1)) = w by omega]
      have : ∀ w, tx_ns (fun i => tx_rr n D l (D - e - 1 - i)) (w + 1) = tx_rr n D l (D - e - 1) + tx_ns (fun i => tx_rr n D l (D - (e + 1) - 1 - i)) w := by
        intro w
        induction w with
        | zero => rw [tx_ns, tx_ns, tx_ns]; rw [Nat.zero_add, Nat.add_zero, Nat.sub_zero]
        | succ w ih =>
          rw [tx_ns, ih, tx_ns, Nat.add_assoc]
          congr 3
          omega
      rw [this w]
      congr 1
      unfold tx_rr
      congr 1
      omega
    · rw [tx_wg_n (fun z => q ⟨z.1, Nat.lt_of_not_le (fun y => z.2.2 ⟨rfl, y⟩)⟩), show min (D - e) (d + l - e) = 0 by omega]
      rfl
theorem tx_rr_0 : tx_rr n D l 0 = 1 := by
  unfold tx_rr tx_wR
  rw [if_pos (by omega)]
theorem tx_rr_s {j : Nat} (h1 : 1 ≤ j) (h2 : j ≤ D) (hn : 0 < n) : tx_rr n D l j = tx_ns (fun i => tx_rr n D l (j - 1 - i)) (min j l) * (n - 1) := by
  show tx_wR n D tx_tt tx_t1 l (D - j) 0 = _
  rw [tx_wR_S (by omega) hn, ← tx_wg_0 (by omega), tx_wg_u hn j (D - j) (Nat.le_refl _) (by omega) (by omega), Nat.mul_comm, show D - (D - j) = j by omega, show D - j + l - (D - j) = l by omega]
theorem tx_tot_u (hD : 1 ≤ D) (hn : 0 < n) : tx_tot n D tx_tt tx_t1 l = n * tx_ns (fun i => tx_rr n D l (D - 1 - i)) (min D l) := by
  unfold tx_tot
  rw [tx_ns_cg (g := fun _ => tx_wS n D tx_tt tx_t1 l 0 0) (fun u hu => tx_wS_u hu hn), tx_ns_c, ← tx_wg_0 (by omega), tx_wg_u hn D 0 (Nat.le_refl _) (Nat.zero_le _) (by omega), Nat.sub_zero, Nat.zero_add, Nat.sub_zero]
end TXU
def tx_Pk (kn : Nat → Nat) (d u : Nat) : Bool := decide (kn d = 9 ∨ kn d = u)
theorem tx_Pk_9 : tx_Pk (fun _ => 9) = tx_tt := by
  funext d u
  unfold tx_Pk tx_tt
  simp
