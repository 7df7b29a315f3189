/-! PURE: what each call answers: the refusal (0: none), the answer -/
def tx_ix (t : Int32) : Nat := t.toNatClampNeg
theorem tx_ix_n {j : Nat} (h : j < 2 ^ 31) : tx_ix (nI j) = j := nI_clamp h
def tx_ai (q : Nat) (x : Int32) : Int32 := if q = 0 then x else -nI q
def tx_af (q : Nat) (x : Int32) : Int32 := if q = 0 then x else 1000000000 - (-nI q)
def tx_al (q : Nat) (x : Int64) : Int64 := if q = 0 then x else 4000000000000000000 - (-nI q).toInt64
theorem tx_ai_0 (x : Int32) : tx_ai 0 x = x := rfl
theorem tx_af_0 (x : Int32) : tx_af 0 x = x := rfl
theorem tx_al_0 (x : Int64) : tx_al 0 x = x := rfl
def tx_if {α : Type} (q : Nat) (a b : α) : α := if q = 0 then a else b
def tx_q1 (b : Bool) : Nat := if b = true then 0 else 1
def tx_q_letter (v : Int32) (tz : Nat) : Nat := if v < 0 then 4 else if 255 < v ∨ tz = 80 then 6 else 0
def tx_q_thing (n : Nat) (t v : Int32) : Nat := if tx_has n t = true then (if v = 0 ∨ v = 1 ∨ v = 2 ∨ v = 3 then 0 else 2) else 1
def tx_a_thing (kd wo ha we : Nat → Nat) (t v : Int32) : Nat := if v = 0 then kd (tx_ix t) else if v = 1 then wo (tx_ix t) else if v = 2 then ha (tx_ix t) else we (tx_ix t)
def tx_q_does (n dy : Nat) (bo : Nat → Option Nat) (d t : Int32) : Nat := if tx_has dy d = true ∧ tx_has n t = true then (if tx_be bo (tx_ix d) (tx_ix t) = true then 3 else 0) else 1
def tx_q_bind (n dy : Nat) (d t : Int32) : Nat := if tx_has dy d = true ∧ (t = -1 ∨ tx_has n t = true) then 0 else 1
def tx_q_change (v : Int32) : Nat := if v < 0 then 4 else if 9 < v then 6 else 0
def tx_il (v : Int32) : Bool := decide (0 ≤ v) && decide (v ≤ 5)
def tx_q_law (v : Int32) : Nat := if tx_il v = true then 0 else 2
theorem tx_il_t {v : Int32} (h : tx_il v = true) : ∃ j : Nat, j ≤ 5 ∧ v = nI j := by
  unfold tx_il at h
  rw [Bool.and_eq_true, decide_eq_true_eq, decide_eq_true_eq] at h
  exact nI_of2 (M := 5) (n := 5) (by decide) (Int32.not_lt.mpr h.1) h.2
def tx_q_stretch (dy : Nat) (d v : Int32) : Nat := if tx_has dy d = true then (if v = 0 ∨ v = 1 then 0 else 2) else 1
def tx_a_stretch (td : Nat → Nat) (dy : Nat) (d v : Int32) : Nat := if v = 1 then tx_pl td (tx_ix d) else tx_pl td (tx_ix d) + (tx_fw td dy 20 (tx_ix d) - tx_ix d)
def tx_q_n (n : Nat) : Nat := if n = 0 then 3 else 0
def tx_q_worth (n dy : Nat) (d : Int32) : Nat := if tx_has dy d = true then tx_q_n n else 1
def tx_q_byLaw (n : Nat) (v : Int32) : Nat := if tx_il v = true then tx_q_n n else 2
theorem tx_fw_ge (td : Nat → Nat) (dy : Nat) : ∀ k d, d ≤ tx_fw td dy k d
  | 0, d => Nat.le_refl _
  | k + 1, d => by
    have := tx_fw_ge td dy k (d + 1)
    unfold tx_fw
    split <;> omega
theorem tx_fw_pl (td : Nat → Nat) (dy : Nat) : ∀ k d, tx_pl td (tx_fw td dy k d) = tx_pl td d + (tx_fw td dy k d - d)
  | 0, d => by unfold tx_fw; omega
  | k + 1, d => by
    have h1 := tx_fw_ge td dy k (d + 1)
    have h2 := tx_fw_pl td dy k (d + 1)
    unfold tx_fw
    split
    · rename_i h
      rw [h2, tx_pl, if_pos h.2]
      omega
    · omega
/-- what the days of a thing are worth together, of the first i -/
def tx_br (kd wo ha we td : Nat → Nat) (t : Nat) : Nat → Int
  | 0 => 0
  | i + 1 => tx_br kd wo ha we td t i + (if td i = t then tx_vl kd wo ha we t (tx_pl td i) else 0)
/-- the ROW against what is done: the first of the first i days that is not so -/
def tx_jd (sn td : Nat → Nat) (d : Nat) : Bool := decide (sn d ≠ 9) && decide (sn d ≠ td d)
/-- the first of k days from d on; where they end, if there is none -/
def tx_jf (sn td : Nat → Nat) : Nat → Nat → Option Nat
  | 0, _ => none
  | k + 1, d => if tx_jd sn td d = true then some d else tx_jf sn td k (d + 1)
def tx_judge (sn td : Nat → Nat) (ss dy : Nat) : Int32 := match tx_jf sn td (min ss dy) 0 with
  | some d => nI d
  | none => if ss < dy then nI ss else if dy < ss then nI dy else -9
def tx_q_row (v : Int32) (ss : Nat) : Nat := if v < 0 then 4 else if 9 < v ∨ ss = 20 then 6 else 0
def tx_q_seeds (n : Nat) (v : Int32) : Nat := if v < 1 then 4 else if 20 < v then 6 else tx_q_n n
/-- the years by seeds: what is left in the first i of them, together; z: the seed ahead of the first -/
def tx_sy (bo : Nat → Option Nat) (n dy : Nat) (z : Int32) : Nat → Int32
  | 0 => z
  | y + 1 => tx_dz bo (tx_sy bo n dy z y) dy
/-- the year of a seed: drawn below dy, as td beyond -/
def tx_yr (bo : Nat → Option Nat) (n dy : Nat) (td : Nat → Nat) (z : Int32) : Nat → Nat := fun d => if d < dy then tx_dd bo n z d else td d
def tx_sd (n : Nat) (kd wo ha we td : Nat → Nat) (bo : Nat → Option Nat) (dy ch lw : Nat) (z : Int32) : Nat → Int
  | 0 => 0
  | y + 1 => tx_sd n kd wo ha we td bo dy ch lw z y + tx_left n kd wo ha we (tx_yr bo n dy td (tx_sy bo n dy z y)) dy ch lw

/-- the best day to break: over the things of a day, then over the days; what is left and which -/
def tx_bk1 (n : Nat) (kd wo ha we td : Nat → Nat) (dy ch lw d : Nat) : Nat → Int × Int → Int × Int
  | 0, x => x
  | t + 1, x => let y := tx_bk1 n kd wo ha we td dy ch lw d t x
    let v := tx_left n kd wo ha we (va_up td d t) dy ch lw
    if y.1 < v then (v, ((10 * d + t : Nat) : Int)) else y
def tx_bk (n : Nat) (kd wo ha we td : Nat → Nat) (bo : Nat → Option Nat) (dy ch lw : Nat) : Nat → Int × Int
  | 0 => (tx_left n kd wo ha we td dy ch lw, -9)
  | d + 1 => if (bo d).isSome = true then tx_bk n kd wo ha we td bo dy ch lw d else tx_bk1 n kd wo ha we td dy ch lw d n (tx_bk n kd wo ha we td bo dy ch lw d)
def tx_more (n : Nat) (kd wo ha we td : Nat → Nat) (dy ch lw t : Nat) : Int := tx_left n kd wo ha we (va_up td dy t) (dy + 1) ch lw - tx_left n kd wo ha we td dy ch lw
def tx_count (n dy ch lw : Nat) (td : Nat → Nat) (bo : Nat → Option Nat) (ss tz : Nat) (rf : Nat → Nat) (v : Int32) : Int32 :=
  if v = 0 then nI n else if v = 1 then nI dy else if v = 2 then nI ch else if v = 3 then nI lw else if v = 4 then nI (tx_cg td (dy - 1)) else if v = 5 then nI (tx_bd bo dy) else if v = 6 then nI ss else if v = 7 then nI tz
  else if 11 ≤ v ∧ v ≤ 16 then nI (rf (tx_ix v - 10)) else -9
theorem tx_01 {v : Int32} : (decide (0 ≤ v) && decide (v ≤ 1)) = decide (v = 0 ∨ v = 1) := by
  rw [← Bool.decide_and]
  refine decide_eq_decide.mpr ?_
  rw [Int32.le_iff_toInt_le, Int32.le_iff_toInt_le, ← Int32.toInt_inj, ← Int32.toInt_inj, show ((0 : Int32)).toInt = 0 from by decide, show ((1 : Int32)).toInt = 1 from by decide]
  omega
/-! PURE: a year is looked at by its days alone -/
theorem tx_pl_cg {f g : Nat → Nat} : ∀ d, (∀ e, e ≤ d → f e = g e) → tx_pl f d = tx_pl g d
  | 0, _ => rfl
  | d + 1, h => by rw [tx_pl, tx_pl, tx_pl_cg d (fun e he => h e (by omega)), h (d + 1) (Nat.le_refl _), h d (by omega)]
theorem tx_E_cg {n : Nat} {kd f g : Nat → Nat} : ∀ j, (∀ e, e ≤ j → f e = g e) → tx_E n kd f j = tx_E n kd g j
  | 0, _ => rfl
  | j + 1, h => by rw [tx_E, tx_E, tx_E_cg j (fun e he => h e (by omega)), tx_pl_cg j (fun e he => h e (by omega)), h (j + 1) (Nat.le_refl _), h j (by omega)]
theorem tx_T_cg {n : Nat} {kd f g : Nat → Nat} {dy : Nat} (h1 : 1 ≤ dy) (h : ∀ e, e < dy → f e = g e) : tx_T n kd f dy = tx_T n kd g dy := by
  unfold tx_T
  rw [tx_E_cg (dy - 1) (fun e he => h e (by omega)), tx_pl_cg (dy - 1) (fun e he => h e (by omega)), h (dy - 1) (by omega)]
theorem tx_cg_cg {f g : Nat → Nat} : ∀ j, (∀ e, e ≤ j → f e = g e) → tx_cg f j = tx_cg g j
  | 0, _ => rfl
  | j + 1, h => by rw [tx_cg, tx_cg, tx_cg_cg j (fun e he => h e (by omega)), h (j + 1) (Nat.le_refl _), h j (by omega)]
theorem tx_er_cg {n : Nat} {kd wo ha we f g : Nat → Nat} : ∀ i, (∀ e, e < i → f e = g e) → tx_er n kd wo ha we f i = tx_er n kd wo ha we g i
  | 0, _ => rfl
  | i + 1, h => by rw [tx_er, tx_er, tx_er_cg i (fun e he => h e (by omega)), tx_pl_cg i (fun e he => h e (by omega)), h i (by omega)]
theorem tx_earn_cg {n : Nat} {kd wo ha we f g : Nat → Nat} {dy ch : Nat} (h1 : 1 ≤ dy) (h : ∀ e, e < dy → f e = g e) : tx_earn n kd wo ha we f dy ch = tx_earn n kd wo ha we g dy ch := by
  unfold tx_earn
  rw [tx_er_cg dy h, tx_cg_cg (dy - 1) (fun e he => h e (by omega))]
theorem tx_left_cg {n : Nat} {kd wo ha we f g : Nat → Nat} {dy ch lw : Nat} (h1 : 1 ≤ dy) (h : ∀ e, e < dy → f e = g e) : tx_left n kd wo ha we f dy ch lw = tx_left n kd wo ha we g dy ch lw := by
  unfold tx_left
  rw [tx_earn_cg h1 h, tx_T_cg h1 h, tx_cg_cg (dy - 1) (fun e he => h e (by omega))]
/-- the first 20 days of one, the rest of the other -/
def tx_l20 (td ld : Nat → Nat) : Nat → Nat := fun d => if d < 20 then td d else ld d
theorem tx_l20_lt {td ld : Nat → Nat} {dy : Nat} (h : dy ≤ 20) : ∀ e, e < dy → tx_l20 td ld e = td e := fun e he => if_pos (by omega)
theorem tx_l20_4 {td ld : Nat → Nat} (h1 : ∀ e, td e < 4) (h2 : ∀ e, ld e < 4) : ∀ e, tx_l20 td ld e < 4 := fun e => by
  unfold tx_l20
  split
  · exact h1 e
  · exact h2 e
