/-! PURE: the reference's table of states -/
def tx_BS (n D : Nat) (P : Nat → Nat → Bool) (C : Nat → Bool) (L d : Nat) (g : Nat → Int64) (u : Nat) : Int64 := if d = 0 then lN (tx_ns (fun v => tx_wS n D P C L 0 v) u) else tx_CS n D P C L d g u
def tx_F9 (n D : Nat) (P : Nat → Nat → Bool) (C : Nat → Bool) (L d u : Nat) (g : Nat → Int64) (i : Nat) : Int64 := g i * lN (tx_cu n D P C L d u i)
section TXG
variable {n D : Nat} {P : Nat → Nat → Bool} {C : Nat → Bool} {L d u : Nat} {g h : Nat → Int64}
theorem tx_EE_u {j : Nat} {x : Int64} (hj : j < 1764) : tx_EE n D P C L d (vp_updL h j (h j + x)) = tx_EE n D P C L d h + lN (tx_ph n D P C L d j) * x := tx_sl_u hj
theorem tx_EE_z (hz : ∀ i, i < 1764 → h i = 0) : tx_EE n D P C L d h = 0 := tx_sl_0 (fun i hi => by rw [hz i hi, Int64.mul_zero])
theorem tx_BS_0 : tx_BS n D P C L d g 0 = 0 := by
  unfold tx_BS
  split <;> rfl
theorem tx_BS_n (hP : P d u = false) : tx_BS n D P C L d g (u + 1) = tx_BS n D P C L d g u := by
  unfold tx_BS
  by_cases q : d = 0
  · subst q
    rw [if_pos rfl, if_pos rfl, tx_ns]
    unfold tx_wS
    rw [if_neg (fun z => absurd (of_decide_eq_true z).1 (by rw [hP]; decide)), Nat.add_zero]
  · rw [if_neg q, if_neg q]
    unfold tx_CS
    rw [tx_sl, tx_sl_0 (f := fun i => g i * lN (tx_cu n D P C L d u i)) (fun i _ => by unfold tx_cu; rw [if_neg (by rw [hP]; decide)]; exact Int64.mul_zero), Int64.add_zero]
theorem tx_BS_s (hd : d ≠ 0) : tx_BS n D P C L d g (u + 1) = tx_BS n D P C L d g u + tx_sl (tx_F9 n D P C L d u g) 1764 := by
  unfold tx_BS
  rw [if_neg hd, if_neg hd]
  rfl
theorem tx_BS_1 {c : Nat} (hd : d = 0) (hP : P d u = true) (hc : c = if C u = true then 1 else 0) : tx_BS n D P C L d g u + lN (tx_ph n D P C L (d + 1) ((21 * u + 1) * 21 + c)) * 1 = tx_BS n D P C L d g (u + 1) := by
  subst hd
  subst hc
  unfold tx_BS
  rw [if_pos rfl, if_pos rfl, tx_ph_1 hP, tx_ns, Int64.mul_one, lN_add]
theorem tx_BS_e (hd : d < D) (hD : D ≤ 20) (hz : tx_ZZ n d g) (hE : 0 < d → tx_EE n D P C L d g = lN (tx_tot n D P C L)) : tx_BS n D P C L d g n = lN (tx_tot n D P C L) := by
  unfold tx_BS
  by_cases q : d = 0
  · rw [if_pos q]
    rfl
  · rw [if_neg q, tx_CS_e hd hD hz, hE (by omega)]
theorem tx_ZZ_u {j : Nat} {x : Int64} (hz : tx_ZZ n d h) (hj : j / 441 < n ∧ 1 ≤ j / 21 % 21 ∧ j / 21 % 21 ≤ d ∧ j % 21 ≤ d) : tx_ZZ n d (vp_updL h j x) := by
  intro i hi hn
  by_cases e : i = j
  · rw [e] at hn
    exact absurd hj hn
  · rw [pk_uLn e]
    exact hz i hi hn
theorem tx_ZZ_v {u k l : Nat} {x : Int64} (hz : tx_ZZ n d h) (h1 : u < n) (h2 : 1 ≤ k) (h3 : k ≤ d) (h4 : l ≤ d) (h5 : d ≤ 20) : tx_ZZ n d (vp_updL h ((21 * u + k) * 21 + l) x) :=
  tx_ZZ_u hz (by rw [show ((21 * u + k) * 21 + l) / 441 = u by omega, show ((21 * u + k) * 21 + l) / 21 % 21 = k by omega, show ((21 * u + k) * 21 + l) % 21 = l by omega]; exact ⟨h1, h2, h3, h4⟩)
theorem tx_lc1 {x : Int64} (h : lg_cmp x 0 = 0) : x = 0 := by
  unfold lg_cmp at h
  by_cases q : x > 0
  · rw [if_pos q] at h
    exact absurd h (by decide)
  · rw [if_neg q] at h
    by_cases z : x = 0
    · exact z
    · rw [if_neg z] at h
      exact absurd h (by decide)
theorem tx_go_e {t k l : Nat} (hk : k ≤ 20) (hl : l ≤ 20) : tx_go C u ((21 * t + k) * 21 + l) = (21 * u + (if t = u then k + 1 else 1)) * 21 + (if C u = true then max l (if t = u then k + 1 else 1) else l) := by
  have h1 : ((21 * t + k) * 21 + l) % 21 = l := by omega
  have h2 : ((21 * t + k) * 21 + l) / 441 = t := by omega
  have h3 : ((21 * t + k) * 21 + l) / 21 % 21 = k := by omega
  unfold tx_go tx_l2 tx_k2
  rw [h1, h2, h3]
theorem tx_E3_s {base : Int64} {i j : Nat} (hj : j < 1764) (hP : P d u = true) (hg : tx_go C u i = j) (h3 : tx_EE n D P C L (d + 1) h = base + tx_sl (tx_F9 n D P C L d u g) i) : tx_EE n D P C L (d + 1) (vp_updL h j (h j + g i)) = base + tx_sl (tx_F9 n D P C L d u g) (i + 1) := by
  rw [tx_EE_u hj, h3, tx_sl, Int64.add_assoc]
  congr 2
  unfold tx_F9 tx_cu
  rw [if_pos hP, hg, Int64.mul_comm]
theorem tx_E3_0 {base : Int64} {i : Nat} (h0 : g i = 0) (h3 : tx_EE n D P C L (d + 1) h = base + tx_sl (tx_F9 n D P C L d u g) i) : tx_EE n D P C L (d + 1) h = base + tx_sl (tx_F9 n D P C L d u g) (i + 1) := by
  rw [h3, tx_sl]
  unfold tx_F9
  rw [h0, Int64.zero_mul, Int64.add_zero]
theorem tx_E3_z {base : Int64} {i j : Nat} (hij : i ≤ j) (hj : j ≤ 1764) (hz : tx_ZZ n d g) (hq : ∀ v, i ≤ v → v < j → ¬ (v / 441 < n ∧ 1 ≤ v / 21 % 21 ∧ v / 21 % 21 ≤ d ∧ v % 21 ≤ d)) (h3 : tx_EE n D P C L (d + 1) h = base + tx_sl (tx_F9 n D P C L d u g) i) : tx_EE n D P C L (d + 1) h = base + tx_sl (tx_F9 n D P C L d u g) j := by
  rw [h3, tx_sl_z hij (fun v h1 h2 => by unfold tx_F9; rw [hz v (by omega) (hq v h1 h2), Int64.zero_mul])]
end TXG
