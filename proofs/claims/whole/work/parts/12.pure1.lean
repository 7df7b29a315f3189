/-! PURE: the words of the document as functions of Nats -/
def tx_has (n : Nat) (t : Int32) : Bool := decide (0 ≤ t) && decide (t < nI n)
theorem tx_has_t {n : Nat} {t : Int32} (hn : n < 2 ^ 31) (h : tx_has n t = true) : ∃ j : Nat, j < n ∧ t = nI j := by
  unfold tx_has at h
  rw [Bool.and_eq_true, decide_eq_true_eq, decide_eq_true_eq] at h
  obtain ⟨j, hj, rfl⟩ := nI_of (Int32.not_lt.mpr h.1)
  exact ⟨j, (nI_ltI hj hn).mp h.2, rfl⟩
theorem tx_has_n {n j : Nat} (hn : n < 2 ^ 31) (hj : j < 2 ^ 31) : tx_has n (nI j) = decide (j < n) := by
  unfold tx_has
  rw [decide_eq_true (nI_pos' hj), Bool.true_and]
  exact decide_eq_decide.mpr (nI_ltI hj hn)
theorem tx_has_lo {n : Nat} {t : Int32} (h : t < 0) : tx_has n t = false := by
  unfold tx_has
  rw [decide_eq_false (Int32.not_le.mpr h), Bool.false_and]
theorem tx_has_hi {n : Nat} {t : Int32} (h : nI n ≤ t) : tx_has n t = false := by
  unfold tx_has
  rw [decide_eq_false (Int32.not_lt.mpr h), Bool.and_false]
theorem tx_has_in {n : Nat} {t : Int32} (h0 : ¬ t < 0) (h : ¬ nI n ≤ t) : tx_has n t = true := by
  unfold tx_has
  rw [decide_eq_true (Int32.not_lt.mp h0), decide_eq_true (Int32.not_le.mp h)]
  rfl
def tx_wv (w h y k hf wf : Nat) : Int := (w : Int) + (if hf ≤ k then (h : Int) else 0) - (if wf ≤ k then (y : Int) else 0)
/-- what the k-th day of a stretch of t is worth -/
def tx_vl (kd wo ha we : Nat → Nat) (t k : Nat) : Int :=
  if kd t = 1 then 0 else if kd t = 2 then tx_wv (wo t) (ha t) (we t) k 2 7 else if kd t = 3 then tx_wv (wo t) (ha t) (we t) k 4 4
  else if kd t = 4 then 2 * tx_wv (wo t) (ha t) (we t) k 2 7 else if kd t = 5 then (if k = 1 then (wo t : Int) else 0) else tx_wv (wo t) (ha t) (we t) k 4 7
def tx_vn (n : Nat) (kd wo ha we : Nat → Nat) (t k : Nat) : Int := if t < n then tx_vl kd wo ha we t k else 0
/-- counted for taxes -/
def tx_tx (n : Nat) (kd : Nat → Nat) (t : Nat) : Bool := decide (t < n) && (decide (kd t ≠ 1) && decide (kd t ≠ 5))
/-- bound to another thing -/
def tx_be (bo : Nat → Option Nat) (d t : Nat) : Bool := match bo d with
  | none => false
  | some u => decide (u ≠ t)
def tx_okb (bo : Nat → Option Nat) : Prop := ∀ d u, bo d = some u → u < 4
theorem tx_bf_N {bo : Nat → Option Nat} (hb : tx_okb bo) (d : Nat) : tx_bf bo d = -9 ↔ bo d = none := by
  unfold tx_bf
  cases h : bo d with
  | none => simp
  | some u =>
    have := hb d u h
    rcases (show u = 0 ∨ u = 1 ∨ u = 2 ∨ u = 3 by omega) with rfl | rfl | rfl | rfl <;> simp <;> decide
theorem tx_bf_T {bo : Nat → Option Nat} (hb : tx_okb bo) (d : Nat) {t : Nat} (ht : t < 2 ^ 31) : tx_bf bo d = nI t ↔ bo d = some t := by
  unfold tx_bf
  cases h : bo d with
  | none =>
    constructor
    · intro q
      have := congrArg Int32.toInt q
      rw [nI_toInt ht] at this
      rw [show ((-9 : Int32)).toInt = -9 from by decide] at this
      omega
    · intro q
      cases q
  | some u =>
    have := hb d u h
    rw [nI_eq (by omega) ht]
    simp
theorem tx_be_eq {bo : Nat → Option Nat} {d t : Nat} : tx_be bo d t = true ↔ ∃ u, bo d = some u ∧ u ≠ t := by
  unfold tx_be
  cases bo d <;> simp
/-- how many days are bound -/
def tx_bd (bo : Nat → Option Nat) : Nat → Nat
  | 0 => 0
  | i + 1 => tx_bd bo i + (if (bo i).isSome then 1 else 0)
/-- which day of its stretch a day is -/
def tx_pl (td : Nat → Nat) : Nat → Nat
  | 0 => 1
  | d + 1 => if td (d + 1) = td d then tx_pl td d + 1 else 1
theorem tx_pl_le (td : Nat → Nat) : ∀ d, 1 ≤ tx_pl td d ∧ tx_pl td d ≤ d + 1
  | 0 => by simp [tx_pl]
  | d + 1 => by
    have := tx_pl_le td d
    unfold tx_pl
    split <;> omega
theorem tx_pl_of (td : Nat → Nat) : ∀ (d j : Nat), j ≤ d → (∀ e, j ≤ e → e ≤ d → td e = td d) → (j = 0 ∨ td (j - 1) ≠ td d) → tx_pl td d = d - j + 1
  | 0, j, h1, _, _ => by
    have : j = 0 := by omega
    subst this
    rfl
  | d + 1, j, h1, h2, h3 => by
    unfold tx_pl
    by_cases e : j = d + 1
    · subst e
      rw [if_neg]
      · omega
      · rcases h3 with h3 | h3
        · omega
        · intro q
          exact h3 (by rw [q]; rfl)
    · have q : td d = td (d + 1) := h2 d (by omega) (by omega)
      rw [if_pos q.symm, tx_pl_of td d j (by omega) (fun e h4 h5 => by rw [q]; exact h2 e h4 (by omega)) (by rcases h3 with h3 | h3; exact Or.inl h3; right; rw [q]; exact h3)]
      omega
/-- the last day of the stretch of a day, k steps at most -/
def tx_fw (td : Nat → Nat) (dy : Nat) : Nat → Nat → Nat
  | 0, d => d
  | k + 1, d => if d + 1 < dy ∧ td (d + 1) = td d then tx_fw td dy k (d + 1) else d
theorem tx_fw_of (td : Nat → Nat) (dy : Nat) : ∀ (k d j : Nat), d ≤ j → j - d ≤ k → (∀ e, d ≤ e → e ≤ j → td e = td d) → j < dy → (dy ≤ j + 1 ∨ td (j + 1) ≠ td d) → tx_fw td dy k d = j
  | 0, d, j, h1, h2, _, _, _ => by unfold tx_fw; omega
  | k + 1, d, j, h1, h2, h3, h4, h5 => by
    unfold tx_fw
    by_cases e : d = j
    · subst e
      rw [if_neg]
      rintro ⟨q1, q2⟩
      rcases h5 with h5 | h5
      · omega
      · exact h5 q2
    · have q : td (d + 1) = td d := h3 (d + 1) (by omega) (by omega)
      rw [if_pos ⟨by omega, q⟩]
      exact tx_fw_of td dy k (d + 1) j (by omega) (by omega) (fun e h6 h7 => by rw [q]; exact h3 e (by omega) h7) h4 (by rcases h5 with h5 | h5; exact Or.inl h5; right; rw [q]; exact h5)
section TX
theorem w_ext {D : va_G} {cl : List vw_C} {ws : va_W} {H : Heap} (hP : va_P D cl ws H) (q0 : Nat) {a : Nat} {cA : ClassId} {n : Nat} {f : Nat → Int32} (g : Nat → Int32) (ha : ws[q0]? = some (a, .inl (cA, n, .inl f))) (h : ∀ i, i < n → f i = g i) : va_P D cl (ws.set q0 (a, .inl (cA, n, .inl g))) H := by
  intro k q hq
  rw [List.getElem?_set] at hq
  by_cases e : q0 = k
  · rw [if_pos e] at hq
    split at hq
    · cases hq
      have h0 : H[a]? = some (vp_cell cA (n, .inl f)) := hP q0 _ ha
      show H[a]? = some (vp_cell cA (n, .inl g))
      rw [h0]
      show some (arrV cA n (fun j => .int (f j))) = some (arrV cA n (fun j => .int (g j)))
      unfold arrV
      congr 2
      congr 1
      funext j
      exact congrArg _ (h j.val j.isLt)
    · cases hq
  · rw [if_neg e] at hq
    exact hP k q hq
theorem w_extL {D : va_G} {cl : List vw_C} {ws : va_W} {H : Heap} (hP : va_P D cl ws H) (q0 : Nat) {a : Nat} {cA : ClassId} {n : Nat} {f : Nat → Int64} (g : Nat → Int64) (ha : ws[q0]? = some (a, .inl (cA, n, .inr (.inl f)))) (h : ∀ i, i < n → f i = g i) : va_P D cl (ws.set q0 (a, .inl (cA, n, .inr (.inl g)))) H := by
  intro k q hq
  rw [List.getElem?_set] at hq
  by_cases e : q0 = k
  · rw [if_pos e] at hq
    split at hq
    · cases hq
      have h0 : H[a]? = some (vp_cell cA (n, .inr (.inl f))) := hP q0 _ ha
      show H[a]? = some (vp_cell cA (n, .inr (.inl g)))
      rw [h0]
      show some (arrV cA n (fun j => .long (f j))) = some (arrV cA n (fun j => .long (g j)))
      unfold arrV
      congr 2
      congr 1
      funext j
      exact congrArg _ (h j.val j.isLt)
    · cases hq
  · rw [if_neg e] at hq
    exact hP k q hq
end TX
