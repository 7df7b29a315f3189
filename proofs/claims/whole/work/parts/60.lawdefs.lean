/-! THE LAW: its world, and what holds of it between two calls -/
def tx_adl : List Nat → Nat → Nat
  | [], _ => 0
  | a :: _, 0 => a
  | _ :: l, i + 1 => tx_adl l i
def tx_LW (cs : Nat → ClassId) (ad ra rb rc rs rt : Nat → Nat) (T : tx_TT) (T2 : tx_TT) (TT : tx_TT) (im : Bool) (tl : Nat → Nat) (tz : Nat) (sn : Nat → Nat) (ss : Nat) (rf : Nat → Nat) (at9 : Nat) (hz : Int) (nu : Nat → Nat) (dd : Nat) (er : Int) (cg : Nat) (x5 : tx_5) (ld : Nat → Nat) (bl : Int) (bm : Int) (M1 : Nat → Nat → Int32) (M2 : Nat → Nat → Int32) (M3 : Nat → Nat → Int32) (yf : Nat → Int32) (cd : Nat) (cn9 : Nat) (kn : Nat → Nat) (z9 : Nat → Int32) (Ms : Nat → Nat → Int64) (Mt : Nat → Nat → Int64) (at6 : Nat) (va6 : Nat) (img : Nat → Int32) (ahd : Nat → Int32) (mst : Nat → Int32) (fst9 : Nat → Int32) (now9 : Nat → Int64) (nxt9 : Nat → Int64) : va_W := [(ad 0, .inr (5, [.ref (ad 1), .ref (ad 8), .int (bI im), .ref (ad 15), .ref (ad 25), .ref (ad 27), .ref (ad 32), .ref (ad 37), .int (nI ss), .ref (ad 38)])), (ad 1, .inr (4, [.ref (ad 2), .ref (ad 3), .ref (ad 4), .ref (ad 5), .ref (ad 6), .ref (ad 7), .int (nI T.1), .int (nI T.2.1), .int (nI T.2.2.1), .int (nI T.2.2.2.1)])), (ad 2, aI cs 4 (tx_nf T.2.2.2.2.1)), (ad 3, aI cs 4 (tx_nf T.2.2.2.2.2.1)), (ad 4, aI cs 4 (tx_nf T.2.2.2.2.2.2.1)), (ad 5, aI cs 4 (tx_nf T.2.2.2.2.2.2.2.1)), (ad 6, aI cs 20 (tx_nf T.2.2.2.2.2.2.2.2.1)), (ad 7, aI cs 20 (tx_bf T.2.2.2.2.2.2.2.2.2)), (ad 8, .inr (4, [.ref (ad 9), .ref (ad 10), .ref (ad 11), .ref (ad 12), .ref (ad 13), .ref (ad 14), .int (nI T2.1), .int (nI T2.2.1), .int (nI T2.2.2.1), .int (nI T2.2.2.2.1)])), (ad 9, aI cs 4 (tx_nf T2.2.2.2.2.1)), (ad 10, aI cs 4 (tx_nf T2.2.2.2.2.2.1)), (ad 11, aI cs 4 (tx_nf T2.2.2.2.2.2.2.1)), (ad 12, aI cs 4 (tx_nf T2.2.2.2.2.2.2.2.1)), (ad 13, aI cs 20 (tx_nf T2.2.2.2.2.2.2.2.2.1)), (ad 14, aI cs 20 (tx_bf T2.2.2.2.2.2.2.2.2.2)), (ad 15, .inr (3, [.ref (ad 16), .int (nI tz), .int (nI at9), .int (iI hz), .ref (ad 17), .ref (ad 18)])), (ad 16, aI cs 80 (tx_nf tl)), (ad 17, aI cs 4 (tx_nf nu)), (ad 18, .inr (4, [.ref (ad 19), .ref (ad 20), .ref (ad 21), .ref (ad 22), .ref (ad 23), .ref (ad 24), .int (nI TT.1), .int (nI TT.2.1), .int (nI TT.2.2.1), .int (nI TT.2.2.2.1)])), (ad 19, aI cs 4 (tx_nf TT.2.2.2.2.1)), (ad 20, aI cs 4 (tx_nf TT.2.2.2.2.2.1)), (ad 21, aI cs 4 (tx_nf TT.2.2.2.2.2.2.1)), (ad 22, aI cs 4 (tx_nf TT.2.2.2.2.2.2.2.1)), (ad 23, aI cs 20 (tx_nf TT.2.2.2.2.2.2.2.2.1)), (ad 24, aI cs 20 (tx_bf TT.2.2.2.2.2.2.2.2.2)), (ad 25, .inr (1, [.ref (ad 26), .int (nI dd), .int (iI er), .int (nI cg), .int (nI x5.1), .int (nI x5.2.1), .int (nI x5.2.2.1), .int (nI x5.2.2.2.1), .int (nI x5.2.2.2.2)])), (ad 26, aI cs 21 (tx_nf ld)), (ad 27, .inr (2, [.ref (ad 28), .ref (ad 29), .ref (ad 30), .ref (ad 31), .int (iI bl), .int (iI bm)])), (ad 28, aG cs ra), (ra 0, aI cs 21 (M1 0)), (ra 1, aI cs 21 (M1 1)), (ra 2, aI cs 21 (M1 2)), (ra 3, aI cs 21 (M1 3)), (ad 29, aG cs rb), (rb 0, aI cs 21 (M2 0)), (rb 1, aI cs 21 (M2 1)), (rb 2, aI cs 21 (M2 2)), (rb 3, aI cs 21 (M2 3)), (ad 30, aG cs rc), (rc 0, aI cs 21 (M3 0)), (rc 1, aI cs 21 (M3 1)), (rc 2, aI cs 21 (M3 2)), (rc 3, aI cs 21 (M3 3)), (ad 31, aI cs 20 yf), (ad 32, .inr (0, [.ref (ad 33), .ref (ad 34), .ref (ad 35), .ref (ad 36), .int (nI cd), .int (nI cn9)])), (ad 33, aI cs 20 (tx_nf kn)), (ad 34, aZ cs 4 z9), (ad 35, aM cs rs), (rs 0, aL cs 21 (Ms 0)), (rs 1, aL cs 21 (Ms 1)), (rs 2, aL cs 21 (Ms 2)), (rs 3, aL cs 21 (Ms 3)), (ad 36, aM cs rt), (rt 0, aL cs 21 (Mt 0)), (rt 1, aL cs 21 (Mt 1)), (rt 2, aL cs 21 (Mt 2)), (rt 3, aL cs 21 (Mt 3)), (ad 37, aI cs 20 (tx_nf sn)), (ad 38, aI cs 7 (tx_nf rf)), (ad 39, .inr (6, [.int (nI T.1), .ref (ad 40), .ref (ad 41), .ref (ad 42), .ref (ad 43), .int (nI T.2.1), .ref (ad 44), .ref (ad 45), .int (nI T.2.2.1), .int (nI T.2.2.2.1), .int (nI tz), .ref (ad 46), .int (nI at6), .int (nI va6), .int (nI ss), .ref (ad 47), .ref (ad 48), .int (bI im), .ref (ad 49), .ref (ad 50), .ref (ad 51), .ref (ad 52), .ref (ad 53), .ref (ad 54)])), (ad 40, aI cs 4 (tx_nf T.2.2.2.2.1)), (ad 41, aI cs 4 (tx_nf T.2.2.2.2.2.1)), (ad 42, aI cs 4 (tx_nf T.2.2.2.2.2.2.1)), (ad 43, aI cs 4 (tx_nf T.2.2.2.2.2.2.2.1)), (ad 44, aI cs 21 (tx_nf T.2.2.2.2.2.2.2.2.1)), (ad 45, aI cs 21 (tx_bf T.2.2.2.2.2.2.2.2.2)), (ad 46, aI cs 80 (tx_nf tl)), (ad 47, aI cs 20 (tx_nf sn)), (ad 48, aI cs 7 (tx_nf rf)), (ad 49, aI cs 61 img), (ad 50, aI cs 61 ahd), (ad 51, aI cs 1848 mst), (ad 52, aI cs 20 fst9), (ad 53, aL cs 1764 now9), (ad 54, aL cs 1764 nxt9)]
def tx_Inv (T T2 : tx_TT) (im : Bool) (tl : Nat → Nat) (tz : Nat) (sn : Nat → Nat) (ss : Nat) (ld : Nat → Nat) (M1 : Nat → Nat → Int32) (img : Nat → Int32) : Prop := tx_wt T ∧ tx_wt T2 ∧ (im = true → ∀ i, i < 60 → img i = tx_kp T2.1 T2.2.1 T2.2.2.1 T2.2.2.2.1 T2.2.2.2.2.1 T2.2.2.2.2.2.1 T2.2.2.2.2.2.2.1 T2.2.2.2.2.2.2.2.1 T2.2.2.2.2.2.2.2.2.1 T2.2.2.2.2.2.2.2.2.2 i) ∧ tz ≤ 80 ∧ (∀ e, tl e ≤ 255) ∧ ss ≤ 20 ∧ (∀ e, sn e ≤ 9) ∧ (∀ e, ld e < 4) ∧ ∀ t, M1 t 0 = 0
def tx_At (p : Program) (l : Launch) (e : Env) (s : State) (m : MethodId) (below : List Frame) (meth : Method) (c : Code) (b : Nat) (D : va_G) (cs : Nat → ClassId) (A : Nat → Prop) (ad ra rb rc rs rt : Nat → Nat) (i pc cells slots : Nat) : Prop := ∀ (T : tx_TT) (T2 : tx_TT) (TT : tx_TT) (im : Bool) (tl : Nat → Nat) (tz : Nat) (sn : Nat → Nat) (ss : Nat) (rf : Nat → Nat) (at9 : Nat) (hz : Int) (nu : Nat → Nat) (dd : Nat) (er : Int) (cg : Nat) (x5 : tx_5) (ld : Nat → Nat) (bl : Int) (bm : Int) (M1 : Nat → Nat → Int32) (M2 : Nat → Nat → Int32) (M3 : Nat → Nat → Int32) (yf : Nat → Int32) (cd : Nat) (cn9 : Nat) (kn : Nat → Nat) (z9 : Nat → Int32) (Ms : Nat → Nat → Int64) (Mt : Nat → Nat → Int64) (at6 : Nat) (va6 : Nat) (img : Nat → Int32) (ahd : Nat → Int32) (mst : Nat → Int32) (fst9 : Nat → Int32) (now9 : Nat → Int64) (nxt9 : Nat → Int64), tx_Inv T T2 im tl tz sn ss ld M1 img → ∀ (H : Heap) (locs : List Loc), va_P D vwCl (tx_LW cs ad ra rb rc rs rt T T2 TT im tl tz sn ss rf at9 hz nu dd er cg x5 ld bl bm M1 M2 M3 yf cd cn9 kn z9 Ms Mt at6 va6 img ahd mst fst9 now9 nxt9) H → va_D A (tx_LW cs ad ra rb rc rs rt T T2 TT im tl tz sn ss rf at9 hz nu dd er cg x5 ld bl bm M1 M2 M3 yf cd cn9 kn z9 Ms Mt at6 va6 img ahd mst fst9 now9 nxt9) → va_S A s.heap H locs → ∀ (ls : Array Slot), lv_has ls 4 [(0, .ref b), (1, .ref (ad 0)), (2, .ref (ad 39)), (3, .int (nI i))] → W p l e room_1 s m #[Value.ref b] below meth c H locs cells slots (lw_Z below #[Value.ref b] s) (F0 m pc ls [])
theorem lg_cmp_self (x : Int64) : lg_cmp x x = 0 := by
  unfold lg_cmp
  rw [if_neg (by rw [gt_iff_lt, Int64.lt_iff_toInt_lt]; omega), if_pos rfl]
theorem tx_wt_n {T : tx_TT} (h : tx_wt T) : ∀ e, 0 < T.1 → T.2.2.2.2.2.2.2.2.1 e < T.1 := fun e h0 => by
  have := h.2.2.2.2.2.2.2.2.2.1 e
  omega
theorem tx_run_wt {tl : Nat → Nat} {tz : Nat} : ∀ (k a n : Nat) (T : tx_TT) (j : Nat) (T2 : tx_TT), tx_wt T → tx_run tl tz k a n T = .inr (j, T2) → tx_wt T2
  | 0, a, n, T, j, T2, h, hr => by
    rw [tx_run] at hr
    cases hr
    exact h
  | k + 1, a, n, T, j, T2, h, hr => by
    rw [tx_run] at hr
    by_cases q : a < tz
    · rw [if_pos q] at hr
      cases hx : (tx_rs tl tz a).2 with
      | none => rw [hx] at hr; cases hr
      | some x =>
        rw [hx] at hr
        dsimp only at hr
        by_cases ho : tx_ok T x = true
        · rw [if_pos ho] at hr
          exact tx_run_wt k _ _ _ j T2 (tx_wt_do (tx_rs_sb hx) h ho) hr
        · rw [if_neg ho] at hr
          cases hr
    · rw [if_neg q] at hr
      cases hr
      exact h
theorem tx_land_wt {tl : Nat → Nat} {tz : Nat} {T : tx_TT} (h : tx_wt T) : tx_wt (tx_land tl tz T).2 := by
  unfold tx_land
  cases q : tx_f1 tl tz with
  | some p => exact h
  | none =>
    dsimp only
    cases q2 : tx_run tl tz 80 0 0 T with
    | inl a => exact h
    | inr x => exact tx_run_wt 80 0 0 T x.1 x.2 h q2
theorem tx_if_p {α : Type} {P : α → Prop} {q : Nat} {a b : α} (ha : q = 0 → P a) (hb : P b) : P (tx_if q a b) := by
  unfold tx_if
  by_cases h : q = 0
  · rw [if_pos h]
    exact ha h
  · rw [if_neg h]
    exact hb
theorem tx_wt_td {T : tx_TT} (h : tx_wt T) {d t : Nat} (hd : d < 20) (ht : t < T.1) : tx_wt (T.1, T.2.1, T.2.2.1, T.2.2.2.1, T.2.2.2.2.1, T.2.2.2.2.2.1, T.2.2.2.2.2.2.1, T.2.2.2.2.2.2.2.1, va_up T.2.2.2.2.2.2.2.2.1 d t, T.2.2.2.2.2.2.2.2.2) := by
  obtain ⟨w1, w2, w3, w4, w5, w6, w7, w8, w9, w10, w11, w12⟩ := h
  refine ⟨w1, w2, w3, w4, w5, w6, w7, w8, tx_up_lt w9 (by omega), tx_up_lt w10 (by omega), fun e he => ?_, w12⟩
  show va_up T.2.2.2.2.2.2.2.2.1 d t e = 0 ∧ _
  rw [va_up_ne _ _ (by omega)]
  exact w11 e he
theorem tx_wt_bo {T : tx_TT} (h : tx_wt T) {d : Nat} {w : Option Nat} (hd : d < 20) (hw : ∀ u, w = some u → u < T.1) : tx_wt (T.1, T.2.1, T.2.2.1, T.2.2.2.1, T.2.2.2.2.1, T.2.2.2.2.2.1, T.2.2.2.2.2.2.1, T.2.2.2.2.2.2.2.1, T.2.2.2.2.2.2.2.2.1, va_up T.2.2.2.2.2.2.2.2.2 d w) := by
  obtain ⟨w1, w2, w3, w4, w5, w6, w7, w8, w9, w10, w11, w12⟩ := h
  refine ⟨w1, w2, w3, w4, w5, w6, w7, w8, w9, w10, fun e he => ?_, fun e u hu => ?_⟩
  · show _ ∧ va_up T.2.2.2.2.2.2.2.2.2 d w e = none
    rw [va_up_ne _ _ (by omega)]
    exact w11 e he
  · have hu : va_up T.2.2.2.2.2.2.2.2.2 d w e = some u := hu
    by_cases q : e = d
    · rw [q, va_up_self] at hu
      exact hw u hu
    · rw [va_up_ne _ _ q] at hu
      exact w12 e u hu
theorem tx_has_x {n : Nat} {v : Int32} (hn : n ≤ 20) (h : tx_has n v = true) : tx_ix v < n := by
  obtain ⟨j, hj, rfl⟩ := tx_has_t (by omega) h
  rw [tx_ix_n (by omega)]
  exact hj
theorem tx_le_x {v : Int32} {M : Nat} {n : Int32} (hM : n = nI M) (hM2 : M < 2 ^ 31) (h0 : ¬ v < 0) (h : ¬ n < v) : tx_ix v ≤ M := by
  obtain ⟨j, hj, rfl⟩ := nI_of h0
  rw [tx_ix_n hj]
  rw [hM] at h
  rcases Nat.lt_or_ge M j with q | q
  · exact absurd ((nI_ltI hM2 hj).mpr q) h
  · exact q
theorem tx_let_z {v : Int32} {tz : Nat} (htz : tz ≤ 80) (h : tx_q_letter v tz = 0) : tz + 1 ≤ 80 := by
  unfold tx_q_letter at h
  split at h
  · cases h
  · split at h
    · cases h
    · rename_i q
      have : ¬ tz = 80 := fun z => q (Or.inr z)
      omega
theorem tx_let_v {v : Int32} {tz : Nat} (h : tx_q_letter v tz = 0) : tx_ix v ≤ 255 := by
  unfold tx_q_letter at h
  split at h
  · cases h
  · rename_i q0
    split at h
    · cases h
    · rename_i q
      exact tx_le_x (n := 255) rfl (by decide) q0 (fun z => q (Or.inl z))
theorem tx_row_s {v : Int32} {ss : Nat} (hss : ss ≤ 20) (h : tx_q_row v ss = 0) : ss + 1 ≤ 20 := by
  unfold tx_q_row at h
  split at h
  · cases h
  · split at h
    · cases h
    · rename_i q
      have : ¬ ss = 20 := fun z => q (Or.inr z)
      omega
theorem tx_row_v {v : Int32} {ss : Nat} (h : tx_q_row v ss = 0) : tx_ix v ≤ 9 := by
  unfold tx_q_row at h
  split at h
  · cases h
  · rename_i q0
    split at h
    · cases h
    · rename_i q
      exact tx_le_x (n := 9) rfl (by decide) q0 (fun z => q (Or.inl z))
theorem tx_w_does {T : tx_TT} {v1 v2 : Int32} (h : tx_wt T) : tx_wt (T.1, T.2.1, T.2.2.1, T.2.2.2.1, T.2.2.2.2.1, T.2.2.2.2.2.1, T.2.2.2.2.2.2.1, T.2.2.2.2.2.2.2.1, tx_if (tx_q_does T.1 T.2.1 T.2.2.2.2.2.2.2.2.2 v1 v2) (va_up T.2.2.2.2.2.2.2.2.1 (tx_ix v1) (tx_ix v2)) T.2.2.2.2.2.2.2.2.1, T.2.2.2.2.2.2.2.2.2) := by
  unfold tx_if
  by_cases q : tx_q_does T.1 T.2.1 T.2.2.2.2.2.2.2.2.2 v1 v2 = 0
  · rw [if_pos q]
    unfold tx_q_does at q
    by_cases z : tx_has T.2.1 v1 = true ∧ tx_has T.1 v2 = true
    · have h1 := h.1
      have h2 := h.2.1.2
      have h3 := tx_has_x (by omega) z.1
      exact tx_wt_td h (by omega) (tx_has_x (by omega) z.2)
    · rw [if_neg z] at q
      cases q
  · rw [if_neg q]
    exact h
theorem tx_w_bind {T : tx_TT} {v1 v2 : Int32} (h : tx_wt T) : tx_wt (T.1, T.2.1, T.2.2.1, T.2.2.2.1, T.2.2.2.2.1, T.2.2.2.2.2.1, T.2.2.2.2.2.2.1, T.2.2.2.2.2.2.2.1, tx_if (tx_q_bind T.1 T.2.1 v1 v2) (if v2 = -1 then T.2.2.2.2.2.2.2.2.1 else va_up T.2.2.2.2.2.2.2.2.1 (tx_ix v1) (tx_ix v2)) T.2.2.2.2.2.2.2.2.1, tx_if (tx_q_bind T.1 T.2.1 v1 v2) (va_up T.2.2.2.2.2.2.2.2.2 (tx_ix v1) (if v2 = -1 then none else some (tx_ix v2))) T.2.2.2.2.2.2.2.2.2) := by
  unfold tx_if
  by_cases q : tx_q_bind T.1 T.2.1 v1 v2 = 0
  · rw [if_pos q, if_pos q]
    unfold tx_q_bind at q
    by_cases z : tx_has T.2.1 v1 = true ∧ (v2 = -1 ∨ tx_has T.1 v2 = true)
    · have h1 := h.1
      have h2 := h.2.1.2
      have h3 := tx_has_x (by omega) z.1
      by_cases y : v2 = -1
      · rw [if_pos y, if_pos y]
        exact tx_wt_bo h (by omega) (fun u hu => by cases hu)
      · rw [if_neg y, if_neg y]
        have h4 := tx_has_x (by omega) (z.2.resolve_left y)
        exact tx_wt_bo (tx_wt_td h (by omega) h4) (by omega) (fun u hu => by cases hu; exact h4)
    · rw [if_neg z] at q
      cases q
  · rw [if_neg q, if_neg q]
    exact h
theorem tx_w_change {T : tx_TT} {v : Int32} (h : tx_wt T) : tx_wt (T.1, T.2.1, tx_if (tx_q_change v) (tx_ix v) T.2.2.1, T.2.2.2.1, T.2.2.2.2.1, T.2.2.2.2.2.1, T.2.2.2.2.2.2.1, T.2.2.2.2.2.2.2.1, T.2.2.2.2.2.2.2.2.1, T.2.2.2.2.2.2.2.2.2) := by
  obtain ⟨w1, w2, w3, w4⟩ := h
  refine ⟨w1, w2, ?_, w4⟩
  refine tx_if_p (P := fun x => x ≤ 9) (fun q => ?_) w3
  unfold tx_q_change at q
  split at q
  · cases q
  · rename_i q0
    split at q
    · cases q
    · rename_i q1
      exact tx_le_x (n := 9) rfl (by decide) q0 q1
theorem tx_w_law {T : tx_TT} {v : Int32} (h : tx_wt T) : tx_wt (T.1, T.2.1, T.2.2.1, tx_if (tx_q_law v) (tx_ix v) T.2.2.2.1, T.2.2.2.2.1, T.2.2.2.2.2.1, T.2.2.2.2.2.2.1, T.2.2.2.2.2.2.2.1, T.2.2.2.2.2.2.2.2.1, T.2.2.2.2.2.2.2.2.2) := by
  obtain ⟨w1, w2, w3, w4, w5⟩ := h
  refine ⟨w1, w2, w3, ?_, w5⟩
  refine tx_if_p (P := fun x => x ≤ 5) (fun q => ?_) w4
  unfold tx_q_law at q
  split at q
  · rename_i q0
    obtain ⟨j, hj, rfl⟩ := tx_il_t q0
    rw [tx_ix_n (by omega)]
    exact hj
  · cases q
theorem tx_w_on {T T2 : tx_TT} {im : Bool} (h : tx_wt T) (h2 : tx_wt T2) : tx_wt (tx_if (tx_q_on im) T2.1 T.1, tx_if (tx_q_on im) T2.2.1 T.2.1, tx_if (tx_q_on im) T2.2.2.1 T.2.2.1, tx_if (tx_q_on im) T2.2.2.2.1 T.2.2.2.1, tx_if (tx_q_on im) T2.2.2.2.2.1 T.2.2.2.2.1, tx_if (tx_q_on im) T2.2.2.2.2.2.1 T.2.2.2.2.2.1, tx_if (tx_q_on im) T2.2.2.2.2.2.2.1 T.2.2.2.2.2.2.1, tx_if (tx_q_on im) T2.2.2.2.2.2.2.2.1 T.2.2.2.2.2.2.2.1, tx_if (tx_q_on im) T2.2.2.2.2.2.2.2.2.1 T.2.2.2.2.2.2.2.2.1, tx_if (tx_q_on im) T2.2.2.2.2.2.2.2.2.2 T.2.2.2.2.2.2.2.2.2) := by
  unfold tx_if
  by_cases q : tx_q_on im = 0
  · simp only [if_pos q]
    exact h2
  · simp only [if_neg q]
    exact h

