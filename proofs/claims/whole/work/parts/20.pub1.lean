set_option maxHeartbeats 4000000 in
set_option maxRecDepth 100000 in
theorem c_X5_done (l : Launch) (D : va_G) (cs : Nat → ClassId) (sz : Nat) (xo : Nat) (hk : Nat) (im : Bool) (tx : Nat) (pn : Nat) (cn : Nat) (s0 : Nat) (ss : Nat) (r0 : Nat) (h : Nat) (k0 : Nat) (k1 : Nat) (k2 : Nat) (k3 : Nat) (k4 : Nat) (k5 : Nat) (n : Nat) (dy : Nat) (ch : Nat) (lw : Nat) (g : Nat) (td : Nat → Nat) (rf : Nat → Nat) (t : Int32) (hdy : dy ≤ 20) : mI (S := Unit) l yX5_done wsX5_done ({ frames := 1, cells := 0, slots := 0, locals := 22 } : Room) D (tyc cs) sz [.ref xo, .int t] [(xo, .inr (5, [.ref h, .ref hk, .int (bI im), .ref tx, .ref g, .ref pn, .ref cn, .ref s0, .int (nI ss), .ref r0])), (h, .inr (4, [.ref k0, .ref k1, .ref k2, .ref k3, .ref k4, .ref k5, .int (nI n), .int (nI dy), .int (nI ch), .int (nI lw)])), (k4, aI cs 20 (tx_nf td))] [(r0, aI cs 7 (tx_nf rf))] (fun (r : Int32) (u : Unit) => r = tx_ai (tx_q1 (tx_has dy t)) (nI (td (tx_ix t)))) (fun _ => [(r0, aI cs 7 (tx_nf (tx_rf rf (tx_q1 (tx_has dy t)))))]) 0 0 := by
  unfold mI
  refine Met.ofW (cc := cX5_done) (maxL := 2) (ret := (some .int)) (by decide) rfl ?_
  intro p e s m args below meth c s₁ B hml hv
  obtain ⟨rfl, hsz, hP, hK, hD0⟩ := hv
  have hx := B.exec
  have hb := B.bytes
  have hr := B.returns
  have hts := atoms_spec (ws := wsX5_done) B.pre
  have hown : s.vm.findClass RX5 = some m.cls := findClass_of_methodNamed B.named
  have hlocks := B.notSynchronized
  subst hsz
  have hR := @en_R _ _ _ [(xo, .inr (5, [.ref h, .ref hk, .int (bI im), .ref tx, .ref g, .ref pn, .ref cn, .ref s0, .int (nI ss), .ref r0])), (h, .inr (4, [.ref k0, .ref k1, .ref k2, .ref k3, .ref k4, .ref k5, .int (nI n), .int (nI dy), .int (nI ch), .int (nI lw)])), (k4, aI cs 20 (tx_nf td))] [(r0, aI cs 7 (tx_nf rf))] _ hP hD0
  have hN := adN_of hD0
  have hD := en_D (wr := [(xo, .inr (5, [.ref h, .ref hk, .int (bI im), .ref tx, .ref g, .ref pn, .ref cn, .ref s0, .int (nI ss), .ref r0])), (h, .inr (4, [.ref k0, .ref k1, .ref k2, .ref k3, .ref k4, .ref k5, .int (nI n), .int (nI dy), .int (nI ch), .int (nI lw)])), (k4, aI cs 20 (tx_nf td))]) (ww := [(r0, aI cs 7 (tx_nf rf))]) (sz := s.heap.size) hD0
  have hP := en_P (wr := [(xo, .inr (5, [.ref h, .ref hk, .int (bI im), .ref tx, .ref g, .ref pn, .ref cn, .ref s0, .int (nI ss), .ref r0])), (h, .inr (4, [.ref k0, .ref k1, .ref k2, .ref k3, .ref k4, .ref k5, .int (nI n), .int (nI dy), .int (nI ch), .int (nI lw)])), (k4, aI cs 20 (tx_nf td))]) (ww := [(r0, aI cs 7 (tx_nf rf))]) hP
  generalize hAe : va_A [(r0, aI cs 7 (tx_nf rf))] s.heap.size = A at hD hR ⊢
  have hA : ∀ q : Nat, s.heap.size ≤ q → A q := fun q h => by rw [← hAe]; exact Or.inr h
  have hS : va_S A s.heap s.heap [] := va_S.rf
  have hN : adN [xo, h, k4, r0] := hN
  have hf_10 := hts (.fieldLink RX5 10 "TaxedByLongest" "told" "LTaxedByLongest$Told;") (by decide +kernel)
  have hf_100 := hts (.fieldLink RX5 100 "TaxedByLongest$Told" "done" "[I") (by decide +kernel)
  have in_X4 : ∀ w ∈ wsX40, w ∈ wsX5_done := by decide +kernel
  have in_X5 : ∀ w ∈ wsX50, w ∈ wsX5_done := by decide +kernel
  have hl := lv_entry ([.ref xo, .int t]) (n := 2) (Nat.le_of_ble_eq_true rfl)
  rw [lg_entry_eq]
  generalize (lg_sl ([.ref xo, .int t]) ++ List.replicate (2 - (lg_sl ([.ref xo, .int t])).length) Slot.unset).toArray = ls at hl ⊢
  have hl : lv_has ls 2 [(0, .ref xo), (1, .int t)] := hl
  refine lv_aload_n hx hb dX5_done_0 rfl (lv_at hl 0 rfl) ?_
  refine va_get (D := D) (ci := 5) (v := .ref h) (C := RX5) (T := TX5) (N := 10) hx hb hts in_X5 hown hK (hR hS) 0 rfl rfl 0 (by decide) hf_10 (fun _ h9 => h9) rfl dX5_done_1 ?_
  refine lv_iload_n hx hb dX5_done_4 rfl (lv_at hl 1 rfl) ?_
  refine cV_i (As := [.int t]) (rest := []) (cr := [(h, .inr (4, [.ref k0, .ref k1, .ref k2, .ref k3, .ref k4, .ref k5, .int (nI n), .int (nI dy), .int (nI ch), .int (nI lw)]))]) (cw1 := []) ⟨hx, hb, hml, hown, hts⟩ (c_X4_hasDay l D cs _ h k0 k1 k2 k3 k4 k5 n dy ch lw t ) (cwV 1 hts gX5_done_X4_hasDay rfl rfl rfl (by decide +kernel) ⟨Nat.le_of_ble_eq_true rfl, Nat.le_of_ble_eq_true rfl⟩) hK hP hD hS hA (((hR hS).app hP).sub [1] rfl) (dt_of hN [1] (by decide) rfl) [] rfl 0 rfl rfl rfl hl.1 rfl (Nat.le_of_ble_eq_true rfl) dX5_done_5 ⟨Nat.le_of_ble_eq_true rfl, Nat.le_of_ble_eq_true rfl⟩ (fun _ => rfl) (fun _ => rfl) (fun r_1 u9 H locs hw_2 hP hD hS => ?_)
  have hP : va_P D vwCl [(r0, aI cs 7 (tx_nf rf))] H := hP
  have hD : va_D A [(r0, aI cs 7 (tx_nf rf))] := hD
  subst r_1
  refine bb_eq (b := tx_has dy t) (tgt := 23) hx hb rfl dX5_done_8 (by decide) (fun c8 => ?_) (fun c8 => ?_)
  · refine lv_aload_n hx hb dX5_done_23 rfl (lv_at hl 0 rfl) ?_
    refine lv_iconst (v := (-1)) hx hb dX5_done_24 (by decide) ?_
    refine cV_i (As := [.int (-1)]) (rest := []) (cr := [(xo, .inr (5, [.ref h, .ref hk, .int (bI im), .ref tx, .ref g, .ref pn, .ref cn, .ref s0, .int (nI ss), .ref r0]))]) (cw1 := [(r0, aI cs 7 (tx_nf rf))]) ⟨hx, hb, hml, hown, hts⟩ (c_X5_refuse l D cs _ xo hk im tx pn cn s0 ss r0 h g rf (-1) 1 (by decide) (by decide) (by decide)) (cwV 1 hts gX5_done_X5_refuse rfl rfl rfl (by decide +kernel) ⟨Nat.le_of_ble_eq_true rfl, Nat.le_of_ble_eq_true rfl⟩) hK hP hD hS hA (((hR hS).app hP).sub [0, 3] rfl) (dt_of hN [0, 3] (by decide) rfl) [0] rfl 0 rfl rfl rfl hl.1 rfl (Nat.le_of_ble_eq_true rfl) dX5_done_25 ⟨Nat.le_of_ble_eq_true rfl, Nat.le_of_ble_eq_true rfl⟩ (fun _ => rfl) (fun _ => rfl) (fun r_3 u9 H locs hw_4 hP hD hS => ?_)
    have hP : va_P D vwCl [(r0, aI cs 7 (tx_nf (tx_rf rf 1)))] H := hP
    have hD : va_D A [(r0, aI cs 7 (tx_nf (tx_rf rf 1)))] := hD
    subst r_3
    have hQ : tx_q1 (tx_has dy t) = 1 := by simp [tx_q1, c8]
    have e9 : tx_rf rf (tx_q1 (tx_has dy t)) = tx_rf rf 1 := by rw [hQ] <;> rfl
    have hP : va_P D vwCl [(r0, aI cs 7 (tx_nf (tx_rf rf (tx_q1 (tx_has dy t)))))] H := by rw [e9]; (try simp only [hQ]); exact hP
    have hD : va_D A [(r0, aI cs 7 (tx_nf (tx_rf rf (tx_q1 (tx_has dy t)))))] := by rw [e9]; (try simp only [hQ]); exact hD
    exact rt_i hx hb hr hlocks () (by rw [hQ] <;> (first | done | rfl)) hP hD hS dX5_done_28
  · obtain ⟨j, hj, rfl⟩ := tx_has_t (by omega) c8
    have hij : tx_ix (nI j) = j := tx_ix_n (by omega)
    refine lv_aload_n hx hb dX5_done_11 rfl (lv_at hl 0 rfl) ?_
    refine va_get (D := D) (ci := 5) (v := .ref h) (C := RX5) (T := TX5) (N := 10) hx hb hts in_X5 hown hK (hR hS) 0 rfl rfl 0 (by decide) hf_10 (fun _ h9 => h9) rfl dX5_done_12 ?_
    refine va_get (D := D) (ci := 4) (v := .ref k4) (C := RX4) (T := TX4) (N := 10) hx hb hts in_X4 hown hK (hR hS) 1 rfl rfl 4 (by decide) hf_100 (fun _ h9 => h9) rfl dX5_done_15 ?_
    refine lv_iload_n hx hb dX5_done_18 rfl (lv_at hl 1 rfl) ?_
    refine ia_n (f := tx_nf td) hx hb hK (hR hS) 2 0 rfl rfl (j := j) rfl (by omega) (by decide) dX5_done_19 ?_
    refine tp_i (y := nI (td j)) rfl ?_
    refine lv_goto (tgt := 28) hx hb dX5_done_20 (by decide) ?_
    have hQ : tx_q1 (tx_has dy (nI j)) = 0 := by simp [tx_q1, c8]
    have e9 : tx_rf rf (tx_q1 (tx_has dy (nI j))) = rf := by rw [hQ] <;> rfl
    have hP : va_P D vwCl [(r0, aI cs 7 (tx_nf (tx_rf rf (tx_q1 (tx_has dy (nI j))))))] H := by rw [e9]; (try simp only [hQ]); exact hP
    have hD : va_D A [(r0, aI cs 7 (tx_nf (tx_rf rf (tx_q1 (tx_has dy (nI j))))))] := by rw [e9]; (try simp only [hQ]); exact hD
    exact rt_i hx hb hr hlocks () (by rw [hQ] <;> (rw [hij]; rfl)) hP hD hS dX5_done_28
set_option maxHeartbeats 4000000 in
set_option maxRecDepth 100000 in
theorem c_X6_done (l : Launch) (D : va_G) (cs : Nat → ClassId) (sz : Nat) (o : Nat) (o1 : Nat) (o2 : Nat) (o3 : Nat) (o4 : Nat) (o5 : Nat) (o6 : Nat) (o7 : Nat) (o8 : Nat) (o9 : Nat) (o10 : Nat) (o11 : Nat) (o12 : Nat) (o13 : Nat) (o14 : Nat) (o15 : Nat) (n : Nat) (dy : Nat) (ch : Nat) (lw : Nat) (tz : Nat) (at9 : Nat) (va9 : Nat) (ss : Nat) (im : Bool) (td : Nat → Nat) (rf : Nat → Nat) (t : Int32) (hdy : dy ≤ 20) : mI (S := Unit) l yX6_done wsX6_done ({ frames := 2, cells := 0, slots := 0, locals := 43 } : Room) D (tyc cs) sz [.ref o, .int t] [(o, .inr (6, [.int (nI n), .ref o1, .ref o2, .ref o3, .ref o4, .int (nI dy), .ref o5, .ref o6, .int (nI ch), .int (nI lw), .int (nI tz), .ref o7, .int (nI at9), .int (nI va9), .int (nI ss), .ref o8, .ref o9, .int (bI im), .ref o10, .ref o11, .ref o12, .ref o13, .ref o14, .ref o15])), (o5, aI cs 21 (tx_nf td))] [(o9, aI cs 7 (tx_nf rf))] (fun (r : Int32) (u : Unit) => r = tx_ai (tx_q1 (tx_has dy t)) (nI (td (tx_ix t)))) (fun _ => [(o9, aI cs 7 (tx_nf (tx_rf rf (tx_q1 (tx_has dy t)))))]) 0 0 := by
  unfold mI
  refine Met.ofW (cc := cX6_done) (maxL := 2) (ret := (some .int)) (by decide) rfl ?_
  intro p e s m args below meth c s₁ B hml hv
  obtain ⟨rfl, hsz, hP, hK, hD0⟩ := hv
  have hx := B.exec
  have hb := B.bytes
  have hr := B.returns
  have hts := atoms_spec (ws := wsX6_done) B.pre
  have hown : s.vm.findClass RX6 = some m.cls := findClass_of_methodNamed B.named
  have hlocks := B.notSynchronized
  subst hsz
  have hR := @en_R _ _ _ [(o, .inr (6, [.int (nI n), .ref o1, .ref o2, .ref o3, .ref o4, .int (nI dy), .ref o5, .ref o6, .int (nI ch), .int (nI lw), .int (nI tz), .ref o7, .int (nI at9), .int (nI va9), .int (nI ss), .ref o8, .ref o9, .int (bI im), .ref o10, .ref o11, .ref o12, .ref o13, .ref o14, .ref o15])), (o5, aI cs 21 (tx_nf td))] [(o9, aI cs 7 (tx_nf rf))] _ hP hD0
  have hN := adN_of hD0
  have hD := en_D (wr := [(o, .inr (6, [.int (nI n), .ref o1, .ref o2, .ref o3, .ref o4, .int (nI dy), .ref o5, .ref o6, .int (nI ch), .int (nI lw), .int (nI tz), .ref o7, .int (nI at9), .int (nI va9), .int (nI ss), .ref o8, .ref o9, .int (bI im), .ref o10, .ref o11, .ref o12, .ref o13, .ref o14, .ref o15])), (o5, aI cs 21 (tx_nf td))]) (ww := [(o9, aI cs 7 (tx_nf rf))]) (sz := s.heap.size) hD0
  have hP := en_P (wr := [(o, .inr (6, [.int (nI n), .ref o1, .ref o2, .ref o3, .ref o4, .int (nI dy), .ref o5, .ref o6, .int (nI ch), .int (nI lw), .int (nI tz), .ref o7, .int (nI at9), .int (nI va9), .int (nI ss), .ref o8, .ref o9, .int (bI im), .ref o10, .ref o11, .ref o12, .ref o13, .ref o14, .ref o15])), (o5, aI cs 21 (tx_nf td))]) (ww := [(o9, aI cs 7 (tx_nf rf))]) hP
  generalize hAe : va_A [(o9, aI cs 7 (tx_nf rf))] s.heap.size = A at hD hR ⊢
  have hA : ∀ q : Nat, s.heap.size ≤ q → A q := fun q h => by rw [← hAe]; exact Or.inr h
  have hS : va_S A s.heap s.heap [] := va_S.rf
  have hN : adN [o, o5, o9] := hN
  have hf_22 := hts (.fieldLink RX6 22 "TaxedByLongestModel" "done" "[I") (by decide +kernel)
  have in_X6 : ∀ w ∈ wsX60, w ∈ wsX6_done := by decide +kernel
  have hl := lv_entry ([.ref o, .int t]) (n := 2) (Nat.le_of_ble_eq_true rfl)
  rw [lg_entry_eq]
  generalize (lg_sl ([.ref o, .int t]) ++ List.replicate (2 - (lg_sl ([.ref o, .int t])).length) Slot.unset).toArray = ls at hl ⊢
  have hl : lv_has ls 2 [(0, .ref o), (1, .int t)] := hl
  refine lv_aload_n hx hb dX6_done_0 rfl (lv_at hl 0 rfl) ?_
  refine lv_iload_n hx hb dX6_done_1 rfl (lv_at hl 1 rfl) ?_
  refine cV_i (As := [.int t]) (rest := []) (cr := [(o, .inr (6, [.int (nI n), .ref o1, .ref o2, .ref o3, .ref o4, .int (nI dy), .ref o5, .ref o6, .int (nI ch), .int (nI lw), .int (nI tz), .ref o7, .int (nI at9), .int (nI va9), .int (nI ss), .ref o8, .ref o9, .int (bI im), .ref o10, .ref o11, .ref o12, .ref o13, .ref o14, .ref o15]))]) (cw1 := []) ⟨hx, hb, hml, hown, hts⟩ (c_X6_isDay l D cs _ o o1 o2 o3 o4 o5 o6 o7 o8 o9 o10 o11 o12 o13 o14 o15 n dy ch lw tz at9 va9 ss im t (by first | assumption | omega)) (cwV 1 hts gX6_done_X6_isDay rfl rfl rfl (by decide +kernel) ⟨Nat.le_of_ble_eq_true rfl, Nat.le_of_ble_eq_true rfl⟩) hK hP hD hS hA (((hR hS).app hP).sub [0] rfl) (dt_of hN [0] (by decide) rfl) [] rfl 0 rfl rfl rfl hl.1 rfl (Nat.le_of_ble_eq_true rfl) dX6_done_2 ⟨Nat.le_of_ble_eq_true rfl, Nat.le_of_ble_eq_true rfl⟩ (fun _ => rfl) (fun _ => rfl) (fun r_1 u9 H locs hw_2 hP hD hS => ?_)
  have hP : va_P D vwCl [(o9, aI cs 7 (tx_nf rf))] H := hP
  have hD : va_D A [(o9, aI cs 7 (tx_nf rf))] := hD
  subst r_1
  refine bb_eq (b := tx_has dy t) (tgt := 17) hx hb rfl dX6_done_5 (by decide) (fun c5 => ?_) (fun c5 => ?_)
  · refine lv_aload_n hx hb dX6_done_17 rfl (lv_at hl 0 rfl) ?_
    refine lv_iconst (v := (-1)) hx hb dX6_done_18 (by decide) ?_
    refine cV_i (As := [.int (-1)]) (rest := []) (cr := [(o, .inr (6, [.int (nI n), .ref o1, .ref o2, .ref o3, .ref o4, .int (nI dy), .ref o5, .ref o6, .int (nI ch), .int (nI lw), .int (nI tz), .ref o7, .int (nI at9), .int (nI va9), .int (nI ss), .ref o8, .ref o9, .int (bI im), .ref o10, .ref o11, .ref o12, .ref o13, .ref o14, .ref o15]))]) (cw1 := [(o9, aI cs 7 (tx_nf rf))]) ⟨hx, hb, hml, hown, hts⟩ (c_X6_no l D cs _ o o1 o2 o3 o4 o5 o6 o7 o8 o9 o10 o11 o12 o13 o14 o15 n dy ch lw tz at9 va9 ss im rf (-1) 1 (by decide) (by decide) (by decide)) (cwV 1 hts gX6_done_X6_no rfl rfl rfl (by decide +kernel) ⟨Nat.le_of_ble_eq_true rfl, Nat.le_of_ble_eq_true rfl⟩) hK hP hD hS hA (((hR hS).app hP).sub [0, 2] rfl) (dt_of hN [0, 2] (by decide) rfl) [0] rfl 0 rfl rfl rfl hl.1 rfl (Nat.le_of_ble_eq_true rfl) dX6_done_19 ⟨Nat.le_of_ble_eq_true rfl, Nat.le_of_ble_eq_true rfl⟩ (fun _ => rfl) (fun _ => rfl) (fun r_3 u9 H locs hw_4 hP hD hS => ?_)
    have hP : va_P D vwCl [(o9, aI cs 7 (tx_nf (tx_rf rf 1)))] H := hP
    have hD : va_D A [(o9, aI cs 7 (tx_nf (tx_rf rf 1)))] := hD
    subst r_3
    have hQ : tx_q1 (tx_has dy t) = 1 := by simp [tx_q1, c5]
    have e9 : tx_rf rf (tx_q1 (tx_has dy t)) = tx_rf rf 1 := by rw [hQ] <;> rfl
    have hP : va_P D vwCl [(o9, aI cs 7 (tx_nf (tx_rf rf (tx_q1 (tx_has dy t)))))] H := by rw [e9]; (try simp only [hQ]); exact hP
    have hD : va_D A [(o9, aI cs 7 (tx_nf (tx_rf rf (tx_q1 (tx_has dy t)))))] := by rw [e9]; (try simp only [hQ]); exact hD
    exact rt_i hx hb hr hlocks () (by rw [hQ] <;> (first | done | rfl)) hP hD hS dX6_done_22
  · obtain ⟨j, hj, rfl⟩ := tx_has_t (by omega) c5
    have hij : tx_ix (nI j) = j := tx_ix_n (by omega)
    refine lv_aload_n hx hb dX6_done_8 rfl (lv_at hl 0 rfl) ?_
    refine va_get (D := D) (ci := 6) (v := .ref o5) (C := RX6) (T := TX6) (N := 24) hx hb hts in_X6 hown hK (hR hS) 0 rfl rfl 6 (by decide) hf_22 (fun _ h9 => h9) rfl dX6_done_9 ?_
    refine lv_iload_n hx hb dX6_done_12 rfl (lv_at hl 1 rfl) ?_
    refine ia_n (f := tx_nf td) hx hb hK (hR hS) 1 0 rfl rfl (j := j) rfl (by omega) (by decide) dX6_done_13 ?_
    refine tp_i (y := nI (td j)) rfl ?_
    refine lv_goto (tgt := 22) hx hb dX6_done_14 (by decide) ?_
    have hQ : tx_q1 (tx_has dy (nI j)) = 0 := by simp [tx_q1, c5]
    have e9 : tx_rf rf (tx_q1 (tx_has dy (nI j))) = rf := by rw [hQ] <;> rfl
    have hP : va_P D vwCl [(o9, aI cs 7 (tx_nf (tx_rf rf (tx_q1 (tx_has dy (nI j))))))] H := by rw [e9]; (try simp only [hQ]); exact hP
    have hD : va_D A [(o9, aI cs 7 (tx_nf (tx_rf rf (tx_q1 (tx_has dy (nI j))))))] := by rw [e9]; (try simp only [hQ]); exact hD
    exact rt_i hx hb hr hlocks () (by rw [hQ] <;> (rw [hij]; rfl)) hP hD hS dX6_done_22
set_option maxHeartbeats 4000000 in
set_option maxRecDepth 100000 in
theorem c_X5_letter (l : Launch) (D : va_G) (cs : Nat → ClassId) (sz : Nat) (xo : Nat) (hk : Nat) (im : Bool) (tx : Nat) (pn : Nat) (cn : Nat) (s0 : Nat) (ss : Nat) (r0 : Nat) (h : Nat) (g : Nat) (t0 : Nat) (tz : Nat) (at9 : Nat) (hd9 : Int32) (t1 : Nat) (ht : Nat) (tl : Nat → Nat) (rf : Nat → Nat) (v : Int32) (htz : tz ≤ 80) : mI (S := Unit) l yX5_letter wsX5_letter ({ frames := 2, cells := 0, slots := 0, locals := 41 } : Room) D (tyc cs) sz [.ref xo, .int v] [(xo, .inr (5, [.ref h, .ref hk, .int (bI im), .ref tx, .ref g, .ref pn, .ref cn, .ref s0, .int (nI ss), .ref r0]))] [(tx, .inr (3, [.ref t0, .int (nI tz), .int (nI at9), .int hd9, .ref t1, .ref ht])), (t0, aI cs 80 (tx_nf tl)), (r0, aI cs 7 (tx_nf rf))] (fun (r : Int32) (u : Unit) => r = tx_ai (tx_q_letter v tz) (nI (tz + 1))) (fun _ => [(tx, .inr (3, [.ref t0, .int (nI (tx_if (tx_q_letter v tz) (tz + 1) tz)), .int (nI at9), .int hd9, .ref t1, .ref ht])), (t0, aI cs 80 (tx_nf (tx_if (tx_q_letter v tz) (va_up tl tz (tx_ix v)) tl))), (r0, aI cs 7 (tx_nf (tx_rf rf (tx_q_letter v tz))))]) 0 0 := by
  unfold mI
  refine Met.ofW (cc := cX5_letter) (maxL := 2) (ret := (some .int)) (by decide) rfl ?_
  intro p e s m args below meth c s₁ B hml hv
  obtain ⟨rfl, hsz, hP, hK, hD0⟩ := hv
  have hx := B.exec
  have hb := B.bytes
  have hr := B.returns
  have hts := atoms_spec (ws := wsX5_letter) B.pre
  have hown : s.vm.findClass RX5 = some m.cls := findClass_of_methodNamed B.named
  have hlocks := B.notSynchronized
  subst hsz
  have hR := @en_R _ _ _ [(xo, .inr (5, [.ref h, .ref hk, .int (bI im), .ref tx, .ref g, .ref pn, .ref cn, .ref s0, .int (nI ss), .ref r0]))] [(tx, .inr (3, [.ref t0, .int (nI tz), .int (nI at9), .int hd9, .ref t1, .ref ht])), (t0, aI cs 80 (tx_nf tl)), (r0, aI cs 7 (tx_nf rf))] _ hP hD0
  have hN := adN_of hD0
  have hD := en_D (wr := [(xo, .inr (5, [.ref h, .ref hk, .int (bI im), .ref tx, .ref g, .ref pn, .ref cn, .ref s0, .int (nI ss), .ref r0]))]) (ww := [(tx, .inr (3, [.ref t0, .int (nI tz), .int (nI at9), .int hd9, .ref t1, .ref ht])), (t0, aI cs 80 (tx_nf tl)), (r0, aI cs 7 (tx_nf rf))]) (sz := s.heap.size) hD0
  have hP := en_P (wr := [(xo, .inr (5, [.ref h, .ref hk, .int (bI im), .ref tx, .ref g, .ref pn, .ref cn, .ref s0, .int (nI ss), .ref r0]))]) (ww := [(tx, .inr (3, [.ref t0, .int (nI tz), .int (nI at9), .int hd9, .ref t1, .ref ht])), (t0, aI cs 80 (tx_nf tl)), (r0, aI cs 7 (tx_nf rf))]) hP
  generalize hAe : va_A [(tx, .inr (3, [.ref t0, .int (nI tz), .int (nI at9), .int hd9, .ref t1, .ref ht])), (t0, aI cs 80 (tx_nf tl)), (r0, aI cs 7 (tx_nf rf))] s.heap.size = A at hD hR ⊢
  have hA : ∀ q : Nat, s.heap.size ≤ q → A q := fun q h => by rw [← hAe]; exact Or.inr h
  have hS : va_S A s.heap s.heap [] := va_S.rf
  have hN : adN [xo, tx, t0, r0] := hN
  have hf_26 := hts (.fieldLink RX5 26 "TaxedByLongest" "text" "LTaxedByLongest$Text;") (by decide +kernel)
  have in_X5 : ∀ w ∈ wsX50, w ∈ wsX5_letter := by decide +kernel
  have hl := lv_entry ([.ref xo, .int v]) (n := 2) (Nat.le_of_ble_eq_true rfl)
  rw [lg_entry_eq]
  generalize (lg_sl ([.ref xo, .int v]) ++ List.replicate (2 - (lg_sl ([.ref xo, .int v])).length) Slot.unset).toArray = ls at hl ⊢
  have hl : lv_has ls 2 [(0, .ref xo), (1, .int v)] := hl
  refine lv_iload_n hx hb dX5_letter_0 rfl (lv_at hl 1 rfl) ?_
  refine lv_if_ge (tgt := 11) hx hb dX5_letter_1 (by decide) (fun c1 => ?_) (fun c1 => ?_)
  · refine lv_iload_n hx hb dX5_letter_11 rfl (lv_at hl 1 rfl) ?_
    refine lv_sipush (v := 255) hx hb dX5_letter_12 (by decide) ?_
    refine lv_icmp_gt (tgt := 28) hx hb dX5_letter_15 (by decide) (fun c15 => ?_) (fun c15 => ?_)
    · refine lv_aload_n hx hb dX5_letter_28 rfl (lv_at hl 0 rfl) ?_
      refine lv_bipush (v := (-6)) hx hb dX5_letter_29 (by decide) ?_
      refine cV_i (As := [.int (-6)]) (rest := []) (cr := [(xo, .inr (5, [.ref h, .ref hk, .int (bI im), .ref tx, .ref g, .ref pn, .ref cn, .ref s0, .int (nI ss), .ref r0]))]) (cw1 := [(r0, aI cs 7 (tx_nf rf))]) ⟨hx, hb, hml, hown, hts⟩ (c_X5_refuse l D cs _ xo hk im tx pn cn s0 ss r0 h g rf (-6) 6 (by decide) (by decide) (by decide)) (cwV 1 hts gX5_letter_X5_refuse rfl rfl rfl (by decide +kernel) ⟨Nat.le_of_ble_eq_true rfl, Nat.le_of_ble_eq_true rfl⟩) hK hP hD hS hA (((hR hS).app hP).sub [0, 3] rfl) (dt_of hN [0, 3] (by decide) rfl) [2] rfl 0 rfl rfl rfl hl.1 rfl (Nat.le_of_ble_eq_true rfl) dX5_letter_31 ⟨Nat.le_of_ble_eq_true rfl, Nat.le_of_ble_eq_true rfl⟩ (fun _ => rfl) (fun _ => rfl) (fun r_1 u9 H locs hw_2 hP hD hS => ?_)
      have hP : va_P D vwCl [(tx, .inr (3, [.ref t0, .int (nI tz), .int (nI at9), .int hd9, .ref t1, .ref ht])), (t0, aI cs 80 (tx_nf tl)), (r0, aI cs 7 (tx_nf (tx_rf rf 6)))] H := hP
      have hD : va_D A [(tx, .inr (3, [.ref t0, .int (nI tz), .int (nI at9), .int hd9, .ref t1, .ref ht])), (t0, aI cs 80 (tx_nf tl)), (r0, aI cs 7 (tx_nf (tx_rf rf 6)))] := hD
      subst r_1
      have hQ : tx_q_letter v tz = 6 := by simp [tx_q_letter, c1, Int32.not_lt.mpr c1, c15]
      have e9 : tx_rf rf (tx_q_letter v tz) = tx_rf rf 6 := by rw [hQ] <;> rfl
      have hP : va_P D vwCl [(tx, .inr (3, [.ref t0, .int (nI (tx_if (tx_q_letter v tz) (tz + 1) tz)), .int (nI at9), .int hd9, .ref t1, .ref ht])), (t0, aI cs 80 (tx_nf (tx_if (tx_q_letter v tz) (va_up tl tz (tx_ix v)) tl))), (r0, aI cs 7 (tx_nf (tx_rf rf (tx_q_letter v tz))))] H := by rw [e9]; (try simp only [hQ]); (try rw [hij]); exact hP
      have hD : va_D A [(tx, .inr (3, [.ref t0, .int (nI (tx_if (tx_q_letter v tz) (tz + 1) tz)), .int (nI at9), .int hd9, .ref t1, .ref ht])), (t0, aI cs 80 (tx_nf (tx_if (tx_q_letter v tz) (va_up tl tz (tx_ix v)) tl))), (r0, aI cs 7 (tx_nf (tx_rf rf (tx_q_letter v tz))))] := by rw [e9]; (try simp only [hQ]); (try rw [hij]); exact hD
      exact rt_i hx hb hr hlocks () (by rw [hQ] <;> (first | done | rfl)) hP hD hS dX5_letter_34
    · refine lv_aload_n hx hb dX5_letter_18 rfl (lv_at hl 0 rfl) ?_
      refine va_get (D := D) (ci := 5) (v := .ref tx) (C := RX5) (T := TX5) (N := 10) hx hb hts in_X5 hown hK (hR hS) 0 rfl rfl 3 (by decide) hf_26 (fun _ h9 => h9) rfl dX5_letter_19 ?_
      refine cV_i (As := []) (rest := []) (cr := [(tx, .inr (3, [.ref t0, .int (nI tz), .int (nI at9), .int hd9, .ref t1, .ref ht])), (t0, aI cs 80 (tx_nf tl))]) (cw1 := []) ⟨hx, hb, hml, hown, hts⟩ (c_X3_isFull l D cs _ tx t0 tz at9 hd9 t1 ht tl (by first | assumption | omega)) (cwV 0 hts gX5_letter_X3_isFull rfl rfl rfl (by decide +kernel) ⟨Nat.le_of_ble_eq_true rfl, Nat.le_of_ble_eq_true rfl⟩) hK hP hD hS hA (((hR hS).app hP).sub [1, 2] rfl) (dt_of hN [1, 2] (by decide) rfl) [] rfl 0 rfl rfl rfl hl.1 rfl (Nat.le_of_ble_eq_true rfl) dX5_letter_22 ⟨Nat.le_of_ble_eq_true rfl, Nat.le_of_ble_eq_true rfl⟩ (fun _ => rfl) (fun _ => rfl) (fun r_3 u9 H locs hw_4 hP hD hS => ?_)
      have hP : va_P D vwCl [(tx, .inr (3, [.ref t0, .int (nI tz), .int (nI at9), .int hd9, .ref t1, .ref ht])), (t0, aI cs 80 (tx_nf tl)), (r0, aI cs 7 (tx_nf rf))] H := hP
      have hD : va_D A [(tx, .inr (3, [.ref t0, .int (nI tz), .int (nI at9), .int hd9, .ref t1, .ref ht])), (t0, aI cs 80 (tx_nf tl)), (r0, aI cs 7 (tx_nf rf))] := hD
      subst r_3
      refine bd_eq (P := tz = 80) (tgt := 35) hx hb rfl dX5_letter_25 (by decide) (fun c25 => ?_) (fun c25 => ?_)
      · obtain ⟨j, hj, rfl⟩ := nI_of2 (x := v) (M := 255) (n := 255) (by decide) (Int32.not_lt.mpr c1) (Int32.not_lt.mp c15)
        have hij : tx_ix (nI j) = j := tx_ix_n (by omega)
        refine lv_aload_n hx hb dX5_letter_35 rfl (lv_at hl 0 rfl) ?_
        refine va_get (D := D) (ci := 5) (v := .ref tx) (C := RX5) (T := TX5) (N := 10) hx hb hts in_X5 hown hK (hR hS) 0 rfl rfl 3 (by decide) hf_26 (fun _ h9 => h9) rfl dX5_letter_36 ?_
        refine lv_iload_n hx hb dX5_letter_39 rfl (lv_at hl 1 rfl) ?_
        refine cV_i (As := [.int (nI j)]) (rest := []) (cr := []) (cw1 := [(tx, .inr (3, [.ref t0, .int (nI tz), .int (nI at9), .int hd9, .ref t1, .ref ht])), (t0, aI cs 80 (tx_nf tl))]) ⟨hx, hb, hml, hown, hts⟩ (c_X3_append l D cs _ tx t0 tz at9 hd9 t1 ht tl j (by first | assumption | omega)) (cwV 1 hts gX5_letter_X3_append rfl rfl rfl (by decide +kernel) ⟨Nat.le_of_ble_eq_true rfl, Nat.le_of_ble_eq_true rfl⟩) hK hP hD hS hA (((hR hS).app hP).sub [1, 2] rfl) (dt_of hN [1, 2] (by decide) rfl) [0, 1] rfl 0 rfl rfl rfl hl.1 rfl (Nat.le_of_ble_eq_true rfl) dX5_letter_40 ⟨Nat.le_of_ble_eq_true rfl, Nat.le_of_ble_eq_true rfl⟩ (fun _ => rfl) (fun _ => rfl) (fun r_5 u9 H locs hw_6 hP hD hS => ?_)
        have hP : va_P D vwCl [(tx, .inr (3, [.ref t0, .int (nI (tz + 1)), .int (nI at9), .int hd9, .ref t1, .ref ht])), (t0, aI cs 80 (tx_nf (va_up tl tz j))), (r0, aI cs 7 (tx_nf rf))] H := hP
        have hD : va_D A [(tx, .inr (3, [.ref t0, .int (nI (tz + 1)), .int (nI at9), .int hd9, .ref t1, .ref ht])), (t0, aI cs 80 (tx_nf (va_up tl tz j))), (r0, aI cs 7 (tx_nf rf))] := hD
        subst r_5
        have hQ : tx_q_letter (nI j) tz = 0 := by simp [tx_q_letter, c1, Int32.not_lt.mpr c1, c15, Int32.not_lt.mp c15, c25]
        have e9 : tx_rf rf (tx_q_letter (nI j) tz) = rf := by rw [hQ] <;> rfl
        have hP : va_P D vwCl [(tx, .inr (3, [.ref t0, .int (nI (tx_if (tx_q_letter (nI j) tz) (tz + 1) tz)), .int (nI at9), .int hd9, .ref t1, .ref ht])), (t0, aI cs 80 (tx_nf (tx_if (tx_q_letter (nI j) tz) (va_up tl tz (tx_ix (nI j))) tl))), (r0, aI cs 7 (tx_nf (tx_rf rf (tx_q_letter (nI j) tz))))] H := by rw [e9]; (try simp only [hQ]); (try rw [hij]); exact hP
        have hD : va_D A [(tx, .inr (3, [.ref t0, .int (nI (tx_if (tx_q_letter (nI j) tz) (tz + 1) tz)), .int (nI at9), .int hd9, .ref t1, .ref ht])), (t0, aI cs 80 (tx_nf (tx_if (tx_q_letter (nI j) tz) (va_up tl tz (tx_ix (nI j))) tl))), (r0, aI cs 7 (tx_nf (tx_rf rf (tx_q_letter (nI j) tz))))] := by rw [e9]; (try simp only [hQ]); (try rw [hij]); exact hD
        exact rt_i hx hb hr hlocks () (by rw [hQ] <;> (rfl)) hP hD hS dX5_letter_43
      · refine lv_aload_n hx hb dX5_letter_28 rfl (lv_at hl 0 rfl) ?_
        refine lv_bipush (v := (-6)) hx hb dX5_letter_29 (by decide) ?_
        refine cV_i (As := [.int (-6)]) (rest := []) (cr := [(xo, .inr (5, [.ref h, .ref hk, .int (bI im), .ref tx, .ref g, .ref pn, .ref cn, .ref s0, .int (nI ss), .ref r0]))]) (cw1 := [(r0, aI cs 7 (tx_nf rf))]) ⟨hx, hb, hml, hown, hts⟩ (c_X5_refuse l D cs _ xo hk im tx pn cn s0 ss r0 h g rf (-6) 6 (by decide) (by decide) (by decide)) (cwV 1 hts gX5_letter_X5_refuse rfl rfl rfl (by decide +kernel) ⟨Nat.le_of_ble_eq_true rfl, Nat.le_of_ble_eq_true rfl⟩) hK hP hD hS hA (((hR hS).app hP).sub [0, 3] rfl) (dt_of hN [0, 3] (by decide) rfl) [2] rfl 0 rfl rfl rfl hl.1 rfl (Nat.le_of_ble_eq_true rfl) dX5_letter_31 ⟨Nat.le_of_ble_eq_true rfl, Nat.le_of_ble_eq_true rfl⟩ (fun _ => rfl) (fun _ => rfl) (fun r_7 u9 H locs hw_8 hP hD hS => ?_)
        have hP : va_P D vwCl [(tx, .inr (3, [.ref t0, .int (nI tz), .int (nI at9), .int hd9, .ref t1, .ref ht])), (t0, aI cs 80 (tx_nf tl)), (r0, aI cs 7 (tx_nf (tx_rf rf 6)))] H := hP
        have hD : va_D A [(tx, .inr (3, [.ref t0, .int (nI tz), .int (nI at9), .int hd9, .ref t1, .ref ht])), (t0, aI cs 80 (tx_nf tl)), (r0, aI cs 7 (tx_nf (tx_rf rf 6)))] := hD
        subst r_7
        have hQ : tx_q_letter v tz = 6 := by simp [tx_q_letter, c1, Int32.not_lt.mpr c1, c15, Int32.not_lt.mp c15, c25]
        have e9 : tx_rf rf (tx_q_letter v tz) = tx_rf rf 6 := by rw [hQ] <;> rfl
        have hP : va_P D vwCl [(tx, .inr (3, [.ref t0, .int (nI (tx_if (tx_q_letter v tz) (tz + 1) tz)), .int (nI at9), .int hd9, .ref t1, .ref ht])), (t0, aI cs 80 (tx_nf (tx_if (tx_q_letter v tz) (va_up tl tz (tx_ix v)) tl))), (r0, aI cs 7 (tx_nf (tx_rf rf (tx_q_letter v tz))))] H := by rw [e9]; (try simp only [hQ]); (try rw [hij]); exact hP
        have hD : va_D A [(tx, .inr (3, [.ref t0, .int (nI (tx_if (tx_q_letter v tz) (tz + 1) tz)), .int (nI at9), .int hd9, .ref t1, .ref ht])), (t0, aI cs 80 (tx_nf (tx_if (tx_q_letter v tz) (va_up tl tz (tx_ix v)) tl))), (r0, aI cs 7 (tx_nf (tx_rf rf (tx_q_letter v tz))))] := by rw [e9]; (try simp only [hQ]); (try rw [hij]); exact hD
        exact rt_i hx hb hr hlocks () (by rw [hQ] <;> (first | done | rfl)) hP hD hS dX5_letter_34
  · refine lv_aload_n hx hb dX5_letter_4 rfl (lv_at hl 0 rfl) ?_
    refine lv_bipush (v := (-4)) hx hb dX5_letter_5 (by decide) ?_
    refine cV_i (As := [.int (-4)]) (rest := []) (cr := [(xo, .inr (5, [.ref h, .ref hk, .int (bI im), .ref tx, .ref g, .ref pn, .ref cn, .ref s0, .int (nI ss), .ref r0]))]) (cw1 := [(r0, aI cs 7 (tx_nf rf))]) ⟨hx, hb, hml, hown, hts⟩ (c_X5_refuse l D cs _ xo hk im tx pn cn s0 ss r0 h g rf (-4) 4 (by decide) (by decide) (by decide)) (cwV 1 hts gX5_letter_X5_refuse rfl rfl rfl (by decide +kernel) ⟨Nat.le_of_ble_eq_true rfl, Nat.le_of_ble_eq_true rfl⟩) hK hP hD hS hA (((hR hS).app hP).sub [0, 3] rfl) (dt_of hN [0, 3] (by decide) rfl) [2] rfl 0 rfl rfl rfl hl.1 rfl (Nat.le_of_ble_eq_true rfl) dX5_letter_7 ⟨Nat.le_of_ble_eq_true rfl, Nat.le_of_ble_eq_true rfl⟩ (fun _ => rfl) (fun _ => rfl) (fun r_9 u9 H locs hw_10 hP hD hS => ?_)
    have hP : va_P D vwCl [(tx, .inr (3, [.ref t0, .int (nI tz), .int (nI at9), .int hd9, .ref t1, .ref ht])), (t0, aI cs 80 (tx_nf tl)), (r0, aI cs 7 (tx_nf (tx_rf rf 4)))] H := hP
    have hD : va_D A [(tx, .inr (3, [.ref t0, .int (nI tz), .int (nI at9), .int hd9, .ref t1, .ref ht])), (t0, aI cs 80 (tx_nf tl)), (r0, aI cs 7 (tx_nf (tx_rf rf 4)))] := hD
    subst r_9
    have hQ : tx_q_letter v tz = 4 := by simp [tx_q_letter, c1, Int32.not_le.mp c1]
    have e9 : tx_rf rf (tx_q_letter v tz) = tx_rf rf 4 := by rw [hQ] <;> rfl
    have hP : va_P D vwCl [(tx, .inr (3, [.ref t0, .int (nI (tx_if (tx_q_letter v tz) (tz + 1) tz)), .int (nI at9), .int hd9, .ref t1, .ref ht])), (t0, aI cs 80 (tx_nf (tx_if (tx_q_letter v tz) (va_up tl tz (tx_ix v)) tl))), (r0, aI cs 7 (tx_nf (tx_rf rf (tx_q_letter v tz))))] H := by rw [e9]; (try simp only [hQ]); (try rw [hij]); exact hP
    have hD : va_D A [(tx, .inr (3, [.ref t0, .int (nI (tx_if (tx_q_letter v tz) (tz + 1) tz)), .int (nI at9), .int hd9, .ref t1, .ref ht])), (t0, aI cs 80 (tx_nf (tx_if (tx_q_letter v tz) (va_up tl tz (tx_ix v)) tl))), (r0, aI cs 7 (tx_nf (tx_rf rf (tx_q_letter v tz))))] := by rw [e9]; (try simp only [hQ]); (try rw [hij]); exact hD
    exact rt_i hx hb hr hlocks () (by rw [hQ] <;> (first | done | rfl)) hP hD hS dX5_letter_10
set_option maxHeartbeats 4000000 in
set_option maxRecDepth 100000 in
theorem c_X6_letter (l : Launch) (D : va_G) (cs : Nat → ClassId) (sz : Nat) (o : Nat) (o1 : Nat) (o2 : Nat) (o3 : Nat) (o4 : Nat) (o5 : Nat) (o6 : Nat) (o7 : Nat) (o8 : Nat) (o9 : Nat) (o10 : Nat) (o11 : Nat) (o12 : Nat) (o13 : Nat) (o14 : Nat) (o15 : Nat) (n : Nat) (dy : Nat) (ch : Nat) (lw : Nat) (tz : Nat) (at9 : Nat) (va9 : Nat) (ss : Nat) (im : Bool) (tl : Nat → Nat) (rf : Nat → Nat) (v : Int32) (htz : tz ≤ 80) : mI (S := Unit) l yX6_letter wsX6_letter ({ frames := 1, cells := 0, slots := 0, locals := 21 } : Room) D (tyc cs) sz [.ref o, .int v] [] [(o, .inr (6, [.int (nI n), .ref o1, .ref o2, .ref o3, .ref o4, .int (nI dy), .ref o5, .ref o6, .int (nI ch), .int (nI lw), .int (nI tz), .ref o7, .int (nI at9), .int (nI va9), .int (nI ss), .ref o8, .ref o9, .int (bI im), .ref o10, .ref o11, .ref o12, .ref o13, .ref o14, .ref o15])), (o7, aI cs 80 (tx_nf tl)), (o9, aI cs 7 (tx_nf rf))] (fun (r : Int32) (u : Unit) => r = tx_ai (tx_q_letter v tz) (nI (tz + 1))) (fun _ => [(o, .inr (6, [.int (nI n), .ref o1, .ref o2, .ref o3, .ref o4, .int (nI dy), .ref o5, .ref o6, .int (nI ch), .int (nI lw), .int (nI (tx_if (tx_q_letter v tz) (tz + 1) tz)), .ref o7, .int (nI at9), .int (nI va9), .int (nI ss), .ref o8, .ref o9, .int (bI im), .ref o10, .ref o11, .ref o12, .ref o13, .ref o14, .ref o15])), (o7, aI cs 80 (tx_nf (tx_if (tx_q_letter v tz) (va_up tl tz (tx_ix v)) tl))), (o9, aI cs 7 (tx_nf (tx_rf rf (tx_q_letter v tz))))]) 0 0 := by
  unfold mI
  refine Met.ofW (cc := cX6_letter) (maxL := 2) (ret := (some .int)) (by decide) rfl ?_
  intro p e s m args below meth c s₁ B hml hv
  obtain ⟨rfl, hsz, hP, hK, hD0⟩ := hv
  have hx := B.exec
  have hb := B.bytes
  have hr := B.returns
  have hts := atoms_spec (ws := wsX6_letter) B.pre
  have hown : s.vm.findClass RX6 = some m.cls := findClass_of_methodNamed B.named
  have hlocks := B.notSynchronized
  subst hsz
  have hR := @en_R _ _ _ [] [(o, .inr (6, [.int (nI n), .ref o1, .ref o2, .ref o3, .ref o4, .int (nI dy), .ref o5, .ref o6, .int (nI ch), .int (nI lw), .int (nI tz), .ref o7, .int (nI at9), .int (nI va9), .int (nI ss), .ref o8, .ref o9, .int (bI im), .ref o10, .ref o11, .ref o12, .ref o13, .ref o14, .ref o15])), (o7, aI cs 80 (tx_nf tl)), (o9, aI cs 7 (tx_nf rf))] _ hP hD0
  have hN := adN_of hD0
  have hD := en_D (wr := []) (ww := [(o, .inr (6, [.int (nI n), .ref o1, .ref o2, .ref o3, .ref o4, .int (nI dy), .ref o5, .ref o6, .int (nI ch), .int (nI lw), .int (nI tz), .ref o7, .int (nI at9), .int (nI va9), .int (nI ss), .ref o8, .ref o9, .int (bI im), .ref o10, .ref o11, .ref o12, .ref o13, .ref o14, .ref o15])), (o7, aI cs 80 (tx_nf tl)), (o9, aI cs 7 (tx_nf rf))]) (sz := s.heap.size) hD0
  have hP := en_P (wr := []) (ww := [(o, .inr (6, [.int (nI n), .ref o1, .ref o2, .ref o3, .ref o4, .int (nI dy), .ref o5, .ref o6, .int (nI ch), .int (nI lw), .int (nI tz), .ref o7, .int (nI at9), .int (nI va9), .int (nI ss), .ref o8, .ref o9, .int (bI im), .ref o10, .ref o11, .ref o12, .ref o13, .ref o14, .ref o15])), (o7, aI cs 80 (tx_nf tl)), (o9, aI cs 7 (tx_nf rf))]) hP
  generalize hAe : va_A [(o, .inr (6, [.int (nI n), .ref o1, .ref o2, .ref o3, .ref o4, .int (nI dy), .ref o5, .ref o6, .int (nI ch), .int (nI lw), .int (nI tz), .ref o7, .int (nI at9), .int (nI va9), .int (nI ss), .ref o8, .ref o9, .int (bI im), .ref o10, .ref o11, .ref o12, .ref o13, .ref o14, .ref o15])), (o7, aI cs 80 (tx_nf tl)), (o9, aI cs 7 (tx_nf rf))] s.heap.size = A at hD hR ⊢
  have hA : ∀ q : Nat, s.heap.size ≤ q → A q := fun q h => by rw [← hAe]; exact Or.inr h
  have hS : va_S A s.heap s.heap [] := va_S.rf
  have hN : adN [o, o7, o9] := hN
  have hf_28 := hts (.fieldLink RX6 28 "TaxedByLongestModel" "letter" "[I") (by decide +kernel)
  have hf_81 := hts (.fieldLink RX6 81 "TaxedByLongestModel" "letters" "I") (by decide +kernel)
  have in_X6 : ∀ w ∈ wsX60, w ∈ wsX6_letter := by decide +kernel
  have hl := lv_entry ([.ref o, .int v]) (n := 2) (Nat.le_of_ble_eq_true rfl)
  rw [lg_entry_eq]
  generalize (lg_sl ([.ref o, .int v]) ++ List.replicate (2 - (lg_sl ([.ref o, .int v])).length) Slot.unset).toArray = ls at hl ⊢
  have hl : lv_has ls 2 [(0, .ref o), (1, .int v)] := hl
  refine lv_iload_n hx hb dX6_letter_0 rfl (lv_at hl 1 rfl) ?_
  refine lv_if_ge (tgt := 11) hx hb dX6_letter_1 (by decide) (fun c1 => ?_) (fun c1 => ?_)
  · refine lv_iload_n hx hb dX6_letter_11 rfl (lv_at hl 1 rfl) ?_
    refine lv_sipush (v := 255) hx hb dX6_letter_12 (by decide) ?_
    refine lv_icmp_gt (tgt := 27) hx hb dX6_letter_15 (by decide) (fun c15 => ?_) (fun c15 => ?_)
    · refine lv_aload_n hx hb dX6_letter_27 rfl (lv_at hl 0 rfl) ?_
      refine lv_bipush (v := (-6)) hx hb dX6_letter_28 (by decide) ?_
      refine cV_i (As := [.int (-6)]) (rest := []) (cr := [(o, .inr (6, [.int (nI n), .ref o1, .ref o2, .ref o3, .ref o4, .int (nI dy), .ref o5, .ref o6, .int (nI ch), .int (nI lw), .int (nI tz), .ref o7, .int (nI at9), .int (nI va9), .int (nI ss), .ref o8, .ref o9, .int (bI im), .ref o10, .ref o11, .ref o12, .ref o13, .ref o14, .ref o15]))]) (cw1 := [(o9, aI cs 7 (tx_nf rf))]) ⟨hx, hb, hml, hown, hts⟩ (c_X6_no l D cs _ o o1 o2 o3 o4 o5 o6 o7 o8 o9 o10 o11 o12 o13 o14 o15 n dy ch lw tz at9 va9 ss im rf (-6) 6 (by decide) (by decide) (by decide)) (cwV 1 hts gX6_letter_X6_no rfl rfl rfl (by decide +kernel) ⟨Nat.le_of_ble_eq_true rfl, Nat.le_of_ble_eq_true rfl⟩) hK hP hD hS hA (hP.sub [0, 2] rfl) (dt_of hN [0, 2] (by decide) rfl) [2] rfl 0 rfl rfl rfl hl.1 rfl (Nat.le_of_ble_eq_true rfl) dX6_letter_30 ⟨Nat.le_of_ble_eq_true rfl, Nat.le_of_ble_eq_true rfl⟩ (fun _ => rfl) (fun _ => rfl) (fun r_1 u9 H locs hw_2 hP hD hS => ?_)
      have hP : va_P D vwCl [(o, .inr (6, [.int (nI n), .ref o1, .ref o2, .ref o3, .ref o4, .int (nI dy), .ref o5, .ref o6, .int (nI ch), .int (nI lw), .int (nI tz), .ref o7, .int (nI at9), .int (nI va9), .int (nI ss), .ref o8, .ref o9, .int (bI im), .ref o10, .ref o11, .ref o12, .ref o13, .ref o14, .ref o15])), (o7, aI cs 80 (tx_nf tl)), (o9, aI cs 7 (tx_nf (tx_rf rf 6)))] H := hP
      have hD : va_D A [(o, .inr (6, [.int (nI n), .ref o1, .ref o2, .ref o3, .ref o4, .int (nI dy), .ref o5, .ref o6, .int (nI ch), .int (nI lw), .int (nI tz), .ref o7, .int (nI at9), .int (nI va9), .int (nI ss), .ref o8, .ref o9, .int (bI im), .ref o10, .ref o11, .ref o12, .ref o13, .ref o14, .ref o15])), (o7, aI cs 80 (tx_nf tl)), (o9, aI cs 7 (tx_nf (tx_rf rf 6)))] := hD
      subst r_1
      have hQ : tx_q_letter v tz = 6 := by simp [tx_q_letter, c1, Int32.not_lt.mpr c1, c15]
      have e9 : tx_rf rf (tx_q_letter v tz) = tx_rf rf 6 := by rw [hQ] <;> rfl
      have hP : va_P D vwCl [(o, .inr (6, [.int (nI n), .ref o1, .ref o2, .ref o3, .ref o4, .int (nI dy), .ref o5, .ref o6, .int (nI ch), .int (nI lw), .int (nI (tx_if (tx_q_letter v tz) (tz + 1) tz)), .ref o7, .int (nI at9), .int (nI va9), .int (nI ss), .ref o8, .ref o9, .int (bI im), .ref o10, .ref o11, .ref o12, .ref o13, .ref o14, .ref o15])), (o7, aI cs 80 (tx_nf (tx_if (tx_q_letter v tz) (va_up tl tz (tx_ix v)) tl))), (o9, aI cs 7 (tx_nf (tx_rf rf (tx_q_letter v tz))))] H := by rw [e9]; (try simp only [hQ]); (try rw [hij]); exact hP
      have hD : va_D A [(o, .inr (6, [.int (nI n), .ref o1, .ref o2, .ref o3, .ref o4, .int (nI dy), .ref o5, .ref o6, .int (nI ch), .int (nI lw), .int (nI (tx_if (tx_q_letter v tz) (tz + 1) tz)), .ref o7, .int (nI at9), .int (nI va9), .int (nI ss), .ref o8, .ref o9, .int (bI im), .ref o10, .ref o11, .ref o12, .ref o13, .ref o14, .ref o15])), (o7, aI cs 80 (tx_nf (tx_if (tx_q_letter v tz) (va_up tl tz (tx_ix v)) tl))), (o9, aI cs 7 (tx_nf (tx_rf rf (tx_q_letter v tz))))] := by rw [e9]; (try simp only [hQ]); (try rw [hij]); exact hD
      exact rt_i hx hb hr hlocks () (by rw [hQ] <;> (first | done | rfl)) hP hD hS dX6_letter_33
    · refine lv_aload_n hx hb dX6_letter_18 rfl (lv_at hl 0 rfl) ?_
      refine va_get (D := D) (ci := 6) (v := .int (nI tz)) (C := RX6) (T := TX6) (N := 24) hx hb hts in_X6 hown hK hP 0 rfl rfl 10 (by decide) hf_81 (fun _ h9 => h9) rfl dX6_letter_19 ?_
      refine lv_bipush (v := 80) hx hb dX6_letter_22 (by decide) ?_
      refine bn_ne (a := tz) (b := 80) (tgt := 34) hx hb rfl rfl (by omega) (by decide) dX6_letter_24 (by decide) (fun c24 => ?_) (fun c24 => ?_)
      · obtain ⟨j, hj, rfl⟩ := nI_of2 (x := v) (M := 255) (n := 255) (by decide) (Int32.not_lt.mpr c1) (Int32.not_lt.mp c15)
        have hij : tx_ix (nI j) = j := tx_ix_n (by omega)
        refine lv_aload_n hx hb dX6_letter_34 rfl (lv_at hl 0 rfl) ?_
        refine va_get (D := D) (ci := 6) (v := .ref o7) (C := RX6) (T := TX6) (N := 24) hx hb hts in_X6 hown hK hP 0 rfl rfl 11 (by decide) hf_28 (fun _ h9 => h9) rfl dX6_letter_35 ?_
        refine lv_aload_n hx hb dX6_letter_38 rfl (lv_at hl 0 rfl) ?_
        refine lv_dup hx hb dX6_letter_39 rfl ?_
        refine va_get (D := D) (ci := 6) (v := .int (nI tz)) (C := RX6) (T := TX6) (N := 24) hx hb hts in_X6 hown hK hP 0 rfl rfl 10 (by decide) hf_81 (fun _ h9 => h9) rfl dX6_letter_40 ?_
        refine lv_dup_x1 hx hb dX6_letter_43 rfl rfl ?_
        refine lv_iconst (v := 1) hx hb dX6_letter_44 (by decide) ?_
        refine lv_iadd hx hb dX6_letter_45 ?_
        refine tp_i (nI_add tz 1) ?_
        refine va_put (D := D) (ci := 6) (v := .int (nI (tz + 1))) (ty := .int) (C := RX6) (T := TX6) (N := 24) hx hb hts in_X6 tyX6 tyX6_ok nmX6 hown hK hP hD hS 0 rfl rfl 10 (by decide) hf_81 (fun _ h9 => h9) rfl (by decide +kernel) rfl rfl (Nat.le_of_ble_eq_true rfl) dX6_letter_46 (fun H locs hP hD hS => ?_)
        have hP : va_P D vwCl [(o, .inr (6, [.int (nI n), .ref o1, .ref o2, .ref o3, .ref o4, .int (nI dy), .ref o5, .ref o6, .int (nI ch), .int (nI lw), .int (nI (tz + 1)), .ref o7, .int (nI at9), .int (nI va9), .int (nI ss), .ref o8, .ref o9, .int (bI im), .ref o10, .ref o11, .ref o12, .ref o13, .ref o14, .ref o15])), (o7, aI cs 80 (tx_nf tl)), (o9, aI cs 7 (tx_nf rf))] H := hP
        have hD : va_D A [(o, .inr (6, [.int (nI n), .ref o1, .ref o2, .ref o3, .ref o4, .int (nI dy), .ref o5, .ref o6, .int (nI ch), .int (nI lw), .int (nI (tz + 1)), .ref o7, .int (nI at9), .int (nI va9), .int (nI ss), .ref o8, .ref o9, .int (bI im), .ref o10, .ref o11, .ref o12, .ref o13, .ref o14, .ref o15])), (o7, aI cs 80 (tx_nf tl)), (o9, aI cs 7 (tx_nf rf))] := hD
        refine lv_iload_n hx hb dX6_letter_49 rfl (lv_at hl 1 rfl) ?_
        refine is_n (f := tx_nf tl) hx hb hK hP hD hS 1 0 rfl rfl (j := tz) rfl (by omega) (by decide) dX6_letter_50 (fun H locs hP hD hS => ?_)
        rw [show upd (tx_nf tl) tz (nI j) = tx_nf (va_up tl tz j) from nf_up _ _ _] at hP hD
        have hP : va_P D vwCl [(o, .inr (6, [.int (nI n), .ref o1, .ref o2, .ref o3, .ref o4, .int (nI dy), .ref o5, .ref o6, .int (nI ch), .int (nI lw), .int (nI (tz + 1)), .ref o7, .int (nI at9), .int (nI va9), .int (nI ss), .ref o8, .ref o9, .int (bI im), .ref o10, .ref o11, .ref o12, .ref o13, .ref o14, .ref o15])), (o7, aI cs 80 (tx_nf (va_up tl tz j))), (o9, aI cs 7 (tx_nf rf))] H := hP
        have hD : va_D A [(o, .inr (6, [.int (nI n), .ref o1, .ref o2, .ref o3, .ref o4, .int (nI dy), .ref o5, .ref o6, .int (nI ch), .int (nI lw), .int (nI (tz + 1)), .ref o7, .int (nI at9), .int (nI va9), .int (nI ss), .ref o8, .ref o9, .int (bI im), .ref o10, .ref o11, .ref o12, .ref o13, .ref o14, .ref o15])), (o7, aI cs 80 (tx_nf (va_up tl tz j))), (o9, aI cs 7 (tx_nf rf))] := hD
        refine lv_aload_n hx hb dX6_letter_51 rfl (lv_at hl 0 rfl) ?_
        refine va_get (D := D) (ci := 6) (v := .int (nI (tz + 1))) (C := RX6) (T := TX6) (N := 24) hx hb hts in_X6 hown hK hP 0 rfl rfl 10 (by decide) hf_81 (fun _ h9 => h9) rfl dX6_letter_52 ?_
        have hQ : tx_q_letter (nI j) tz = 0 := by simp [tx_q_letter, c1, Int32.not_lt.mpr c1, c15, Int32.not_lt.mp c15, c24]
        have e9 : tx_rf rf (tx_q_letter (nI j) tz) = rf := by rw [hQ] <;> rfl
        have hP : va_P D vwCl [(o, .inr (6, [.int (nI n), .ref o1, .ref o2, .ref o3, .ref o4, .int (nI dy), .ref o5, .ref o6, .int (nI ch), .int (nI lw), .int (nI (tx_if (tx_q_letter (nI j) tz) (tz + 1) tz)), .ref o7, .int (nI at9), .int (nI va9), .int (nI ss), .ref o8, .ref o9, .int (bI im), .ref o10, .ref o11, .ref o12, .ref o13, .ref o14, .ref o15])), (o7, aI cs 80 (tx_nf (tx_if (tx_q_letter (nI j) tz) (va_up tl tz (tx_ix (nI j))) tl))), (o9, aI cs 7 (tx_nf (tx_rf rf (tx_q_letter (nI j) tz))))] H := by rw [e9]; (try simp only [hQ]); (try rw [hij]); exact hP
        have hD : va_D A [(o, .inr (6, [.int (nI n), .ref o1, .ref o2, .ref o3, .ref o4, .int (nI dy), .ref o5, .ref o6, .int (nI ch), .int (nI lw), .int (nI (tx_if (tx_q_letter (nI j) tz) (tz + 1) tz)), .ref o7, .int (nI at9), .int (nI va9), .int (nI ss), .ref o8, .ref o9, .int (bI im), .ref o10, .ref o11, .ref o12, .ref o13, .ref o14, .ref o15])), (o7, aI cs 80 (tx_nf (tx_if (tx_q_letter (nI j) tz) (va_up tl tz (tx_ix (nI j))) tl))), (o9, aI cs 7 (tx_nf (tx_rf rf (tx_q_letter (nI j) tz))))] := by rw [e9]; (try simp only [hQ]); (try rw [hij]); exact hD
        exact rt_i hx hb hr hlocks () (by rw [hQ] <;> (rfl)) hP hD hS dX6_letter_55
      · refine lv_aload_n hx hb dX6_letter_27 rfl (lv_at hl 0 rfl) ?_
        refine lv_bipush (v := (-6)) hx hb dX6_letter_28 (by decide) ?_
        refine cV_i (As := [.int (-6)]) (rest := []) (cr := [(o, .inr (6, [.int (nI n), .ref o1, .ref o2, .ref o3, .ref o4, .int (nI dy), .ref o5, .ref o6, .int (nI ch), .int (nI lw), .int (nI tz), .ref o7, .int (nI at9), .int (nI va9), .int (nI ss), .ref o8, .ref o9, .int (bI im), .ref o10, .ref o11, .ref o12, .ref o13, .ref o14, .ref o15]))]) (cw1 := [(o9, aI cs 7 (tx_nf rf))]) ⟨hx, hb, hml, hown, hts⟩ (c_X6_no l D cs _ o o1 o2 o3 o4 o5 o6 o7 o8 o9 o10 o11 o12 o13 o14 o15 n dy ch lw tz at9 va9 ss im rf (-6) 6 (by decide) (by decide) (by decide)) (cwV 1 hts gX6_letter_X6_no rfl rfl rfl (by decide +kernel) ⟨Nat.le_of_ble_eq_true rfl, Nat.le_of_ble_eq_true rfl⟩) hK hP hD hS hA (hP.sub [0, 2] rfl) (dt_of hN [0, 2] (by decide) rfl) [2] rfl 0 rfl rfl rfl hl.1 rfl (Nat.le_of_ble_eq_true rfl) dX6_letter_30 ⟨Nat.le_of_ble_eq_true rfl, Nat.le_of_ble_eq_true rfl⟩ (fun _ => rfl) (fun _ => rfl) (fun r_3 u9 H locs hw_4 hP hD hS => ?_)
        have hP : va_P D vwCl [(o, .inr (6, [.int (nI n), .ref o1, .ref o2, .ref o3, .ref o4, .int (nI dy), .ref o5, .ref o6, .int (nI ch), .int (nI lw), .int (nI tz), .ref o7, .int (nI at9), .int (nI va9), .int (nI ss), .ref o8, .ref o9, .int (bI im), .ref o10, .ref o11, .ref o12, .ref o13, .ref o14, .ref o15])), (o7, aI cs 80 (tx_nf tl)), (o9, aI cs 7 (tx_nf (tx_rf rf 6)))] H := hP
        have hD : va_D A [(o, .inr (6, [.int (nI n), .ref o1, .ref o2, .ref o3, .ref o4, .int (nI dy), .ref o5, .ref o6, .int (nI ch), .int (nI lw), .int (nI tz), .ref o7, .int (nI at9), .int (nI va9), .int (nI ss), .ref o8, .ref o9, .int (bI im), .ref o10, .ref o11, .ref o12, .ref o13, .ref o14, .ref o15])), (o7, aI cs 80 (tx_nf tl)), (o9, aI cs 7 (tx_nf (tx_rf rf 6)))] := hD
        subst r_3
        have hQ : tx_q_letter v tz = 6 := by simp [tx_q_letter, c1, Int32.not_lt.mpr c1, c15, Int32.not_lt.mp c15, c24]
        have e9 : tx_rf rf (tx_q_letter v tz) = tx_rf rf 6 := by rw [hQ] <;> rfl
        have hP : va_P D vwCl [(o, .inr (6, [.int (nI n), .ref o1, .ref o2, .ref o3, .ref o4, .int (nI dy), .ref o5, .ref o6, .int (nI ch), .int (nI lw), .int (nI (tx_if (tx_q_letter v tz) (tz + 1) tz)), .ref o7, .int (nI at9), .int (nI va9), .int (nI ss), .ref o8, .ref o9, .int (bI im), .ref o10, .ref o11, .ref o12, .ref o13, .ref o14, .ref o15])), (o7, aI cs 80 (tx_nf (tx_if (tx_q_letter v tz) (va_up tl tz (tx_ix v)) tl))), (o9, aI cs 7 (tx_nf (tx_rf rf (tx_q_letter v tz))))] H := by rw [e9]; (try simp only [hQ]); (try rw [hij]); exact hP
        have hD : va_D A [(o, .inr (6, [.int (nI n), .ref o1, .ref o2, .ref o3, .ref o4, .int (nI dy), .ref o5, .ref o6, .int (nI ch), .int (nI lw), .int (nI (tx_if (tx_q_letter v tz) (tz + 1) tz)), .ref o7, .int (nI at9), .int (nI va9), .int (nI ss), .ref o8, .ref o9, .int (bI im), .ref o10, .ref o11, .ref o12, .ref o13, .ref o14, .ref o15])), (o7, aI cs 80 (tx_nf (tx_if (tx_q_letter v tz) (va_up tl tz (tx_ix v)) tl))), (o9, aI cs 7 (tx_nf (tx_rf rf (tx_q_letter v tz))))] := by rw [e9]; (try simp only [hQ]); (try rw [hij]); exact hD
        exact rt_i hx hb hr hlocks () (by rw [hQ] <;> (first | done | rfl)) hP hD hS dX6_letter_33
  · refine lv_aload_n hx hb dX6_letter_4 rfl (lv_at hl 0 rfl) ?_
    refine lv_bipush (v := (-4)) hx hb dX6_letter_5 (by decide) ?_
    refine cV_i (As := [.int (-4)]) (rest := []) (cr := [(o, .inr (6, [.int (nI n), .ref o1, .ref o2, .ref o3, .ref o4, .int (nI dy), .ref o5, .ref o6, .int (nI ch), .int (nI lw), .int (nI tz), .ref o7, .int (nI at9), .int (nI va9), .int (nI ss), .ref o8, .ref o9, .int (bI im), .ref o10, .ref o11, .ref o12, .ref o13, .ref o14, .ref o15]))]) (cw1 := [(o9, aI cs 7 (tx_nf rf))]) ⟨hx, hb, hml, hown, hts⟩ (c_X6_no l D cs _ o o1 o2 o3 o4 o5 o6 o7 o8 o9 o10 o11 o12 o13 o14 o15 n dy ch lw tz at9 va9 ss im rf (-4) 4 (by decide) (by decide) (by decide)) (cwV 1 hts gX6_letter_X6_no rfl rfl rfl (by decide +kernel) ⟨Nat.le_of_ble_eq_true rfl, Nat.le_of_ble_eq_true rfl⟩) hK hP hD hS hA (hP.sub [0, 2] rfl) (dt_of hN [0, 2] (by decide) rfl) [2] rfl 0 rfl rfl rfl hl.1 rfl (Nat.le_of_ble_eq_true rfl) dX6_letter_7 ⟨Nat.le_of_ble_eq_true rfl, Nat.le_of_ble_eq_true rfl⟩ (fun _ => rfl) (fun _ => rfl) (fun r_5 u9 H locs hw_6 hP hD hS => ?_)
    have hP : va_P D vwCl [(o, .inr (6, [.int (nI n), .ref o1, .ref o2, .ref o3, .ref o4, .int (nI dy), .ref o5, .ref o6, .int (nI ch), .int (nI lw), .int (nI tz), .ref o7, .int (nI at9), .int (nI va9), .int (nI ss), .ref o8, .ref o9, .int (bI im), .ref o10, .ref o11, .ref o12, .ref o13, .ref o14, .ref o15])), (o7, aI cs 80 (tx_nf tl)), (o9, aI cs 7 (tx_nf (tx_rf rf 4)))] H := hP
    have hD : va_D A [(o, .inr (6, [.int (nI n), .ref o1, .ref o2, .ref o3, .ref o4, .int (nI dy), .ref o5, .ref o6, .int (nI ch), .int (nI lw), .int (nI tz), .ref o7, .int (nI at9), .int (nI va9), .int (nI ss), .ref o8, .ref o9, .int (bI im), .ref o10, .ref o11, .ref o12, .ref o13, .ref o14, .ref o15])), (o7, aI cs 80 (tx_nf tl)), (o9, aI cs 7 (tx_nf (tx_rf rf 4)))] := hD
    subst r_5
    have hQ : tx_q_letter v tz = 4 := by simp [tx_q_letter, c1, Int32.not_le.mp c1]
    have e9 : tx_rf rf (tx_q_letter v tz) = tx_rf rf 4 := by rw [hQ] <;> rfl
    have hP : va_P D vwCl [(o, .inr (6, [.int (nI n), .ref o1, .ref o2, .ref o3, .ref o4, .int (nI dy), .ref o5, .ref o6, .int (nI ch), .int (nI lw), .int (nI (tx_if (tx_q_letter v tz) (tz + 1) tz)), .ref o7, .int (nI at9), .int (nI va9), .int (nI ss), .ref o8, .ref o9, .int (bI im), .ref o10, .ref o11, .ref o12, .ref o13, .ref o14, .ref o15])), (o7, aI cs 80 (tx_nf (tx_if (tx_q_letter v tz) (va_up tl tz (tx_ix v)) tl))), (o9, aI cs 7 (tx_nf (tx_rf rf (tx_q_letter v tz))))] H := by rw [e9]; (try simp only [hQ]); (try rw [hij]); exact hP
    have hD : va_D A [(o, .inr (6, [.int (nI n), .ref o1, .ref o2, .ref o3, .ref o4, .int (nI dy), .ref o5, .ref o6, .int (nI ch), .int (nI lw), .int (nI (tx_if (tx_q_letter v tz) (tz + 1) tz)), .ref o7, .int (nI at9), .int (nI va9), .int (nI ss), .ref o8, .ref o9, .int (bI im), .ref o10, .ref o11, .ref o12, .ref o13, .ref o14, .ref o15])), (o7, aI cs 80 (tx_nf (tx_if (tx_q_letter v tz) (va_up tl tz (tx_ix v)) tl))), (o9, aI cs 7 (tx_nf (tx_rf rf (tx_q_letter v tz))))] := by rw [e9]; (try simp only [hQ]); (try rw [hij]); exact hD
    exact rt_i hx hb hr hlocks () (by rw [hQ] <;> (first | done | rfl)) hP hD hS dX6_letter_10
set_option maxHeartbeats 4000000 in
set_option maxRecDepth 100000 in
theorem c_X5_thing (l : Launch) (D : va_G) (cs : Nat → ClassId) (sz : Nat) (xo : Nat) (hk : Nat) (im : Bool) (tx : Nat) (pn : Nat) (cn : Nat) (s0 : Nat) (ss : Nat) (r0 : Nat) (h : Nat) (k0 : Nat) (k1 : Nat) (k2 : Nat) (k3 : Nat) (k4 : Nat) (k5 : Nat) (n : Nat) (dy : Nat) (ch : Nat) (lw : Nat) (g : Nat) (kd : Nat → Nat) (wo : Nat → Nat) (ha : Nat → Nat) (we : Nat → Nat) (rf : Nat → Nat) (t : Int32) (v : Int32) (hn : n ≤ 4) : mI (S := Unit) l yX5_thing wsX5_thing ({ frames := 1, cells := 0, slots := 0, locals := 22 } : Room) D (tyc cs) sz [.ref xo, .int t, .int v] [(xo, .inr (5, [.ref h, .ref hk, .int (bI im), .ref tx, .ref g, .ref pn, .ref cn, .ref s0, .int (nI ss), .ref r0])), (h, .inr (4, [.ref k0, .ref k1, .ref k2, .ref k3, .ref k4, .ref k5, .int (nI n), .int (nI dy), .int (nI ch), .int (nI lw)])), (k0, aI cs 4 (tx_nf kd)), (k1, aI cs 4 (tx_nf wo)), (k2, aI cs 4 (tx_nf ha)), (k3, aI cs 4 (tx_nf we))] [(r0, aI cs 7 (tx_nf rf))] (fun (r : Int32) (u : Unit) => r = tx_ai (tx_q_thing n t v) (nI (tx_a_thing kd wo ha we t v))) (fun _ => [(r0, aI cs 7 (tx_nf (tx_rf rf (tx_q_thing n t v))))]) 0 0 := by
  unfold mI
  refine Met.ofW (cc := cX5_thing) (maxL := 3) (ret := (some .int)) (by decide) rfl ?_
  intro p e s m args below meth c s₁ B hml hv
  obtain ⟨rfl, hsz, hP, hK, hD0⟩ := hv
  have hx := B.exec
  have hb := B.bytes
  have hr := B.returns
  have hts := atoms_spec (ws := wsX5_thing) B.pre
  have hown : s.vm.findClass RX5 = some m.cls := findClass_of_methodNamed B.named
  have hlocks := B.notSynchronized
  subst hsz
  have hR := @en_R _ _ _ [(xo, .inr (5, [.ref h, .ref hk, .int (bI im), .ref tx, .ref g, .ref pn, .ref cn, .ref s0, .int (nI ss), .ref r0])), (h, .inr (4, [.ref k0, .ref k1, .ref k2, .ref k3, .ref k4, .ref k5, .int (nI n), .int (nI dy), .int (nI ch), .int (nI lw)])), (k0, aI cs 4 (tx_nf kd)), (k1, aI cs 4 (tx_nf wo)), (k2, aI cs 4 (tx_nf ha)), (k3, aI cs 4 (tx_nf we))] [(r0, aI cs 7 (tx_nf rf))] _ hP hD0
  have hN := adN_of hD0
  have hD := en_D (wr := [(xo, .inr (5, [.ref h, .ref hk, .int (bI im), .ref tx, .ref g, .ref pn, .ref cn, .ref s0, .int (nI ss), .ref r0])), (h, .inr (4, [.ref k0, .ref k1, .ref k2, .ref k3, .ref k4, .ref k5, .int (nI n), .int (nI dy), .int (nI ch), .int (nI lw)])), (k0, aI cs 4 (tx_nf kd)), (k1, aI cs 4 (tx_nf wo)), (k2, aI cs 4 (tx_nf ha)), (k3, aI cs 4 (tx_nf we))]) (ww := [(r0, aI cs 7 (tx_nf rf))]) (sz := s.heap.size) hD0
  have hP := en_P (wr := [(xo, .inr (5, [.ref h, .ref hk, .int (bI im), .ref tx, .ref g, .ref pn, .ref cn, .ref s0, .int (nI ss), .ref r0])), (h, .inr (4, [.ref k0, .ref k1, .ref k2, .ref k3, .ref k4, .ref k5, .int (nI n), .int (nI dy), .int (nI ch), .int (nI lw)])), (k0, aI cs 4 (tx_nf kd)), (k1, aI cs 4 (tx_nf wo)), (k2, aI cs 4 (tx_nf ha)), (k3, aI cs 4 (tx_nf we))]) (ww := [(r0, aI cs 7 (tx_nf rf))]) hP
  generalize hAe : va_A [(r0, aI cs 7 (tx_nf rf))] s.heap.size = A at hD hR ⊢
  have hA : ∀ q : Nat, s.heap.size ≤ q → A q := fun q h => by rw [← hAe]; exact Or.inr h
  have hS : va_S A s.heap s.heap [] := va_S.rf
  have hN : adN [xo, h, k0, k1, k2, k3, r0] := hN
  have hf_10 := hts (.fieldLink RX5 10 "TaxedByLongest" "told" "LTaxedByLongest$Told;") (by decide +kernel)
  have hf_81 := hts (.fieldLink RX5 81 "TaxedByLongest$Told" "kinds" "[I") (by decide +kernel)
  have hf_84 := hts (.fieldLink RX5 84 "TaxedByLongest$Told" "worths" "[I") (by decide +kernel)
  have hf_87 := hts (.fieldLink RX5 87 "TaxedByLongest$Told" "habits" "[I") (by decide +kernel)
  have hf_90 := hts (.fieldLink RX5 90 "TaxedByLongest$Told" "wearies" "[I") (by decide +kernel)
  have in_X4 : ∀ w ∈ wsX40, w ∈ wsX5_thing := by decide +kernel
  have in_X5 : ∀ w ∈ wsX50, w ∈ wsX5_thing := by decide +kernel
  have hl := lv_entry ([.ref xo, .int t, .int v]) (n := 3) (Nat.le_of_ble_eq_true rfl)
  rw [lg_entry_eq]
  generalize (lg_sl ([.ref xo, .int t, .int v]) ++ List.replicate (3 - (lg_sl ([.ref xo, .int t, .int v])).length) Slot.unset).toArray = ls at hl ⊢
  have hl : lv_has ls 3 [(0, .ref xo), (1, .int t), (2, .int v)] := hl
  refine lv_aload_n hx hb dX5_thing_0 rfl (lv_at hl 0 rfl) ?_
  refine va_get (D := D) (ci := 5) (v := .ref h) (C := RX5) (T := TX5) (N := 10) hx hb hts in_X5 hown hK (hR hS) 0 rfl rfl 0 (by decide) hf_10 (fun _ h9 => h9) rfl dX5_thing_1 ?_
  refine lv_iload_n hx hb dX5_thing_4 rfl (lv_at hl 1 rfl) ?_
  refine cV_i (As := [.int t]) (rest := []) (cr := [(h, .inr (4, [.ref k0, .ref k1, .ref k2, .ref k3, .ref k4, .ref k5, .int (nI n), .int (nI dy), .int (nI ch), .int (nI lw)]))]) (cw1 := []) ⟨hx, hb, hml, hown, hts⟩ (c_X4_hasThing l D cs _ h k0 k1 k2 k3 k4 k5 n dy ch lw t ) (cwV 1 hts gX5_thing_X4_hasThing rfl rfl rfl (by decide +kernel) ⟨Nat.le_of_ble_eq_true rfl, Nat.le_of_ble_eq_true rfl⟩) hK hP hD hS hA (((hR hS).app hP).sub [1] rfl) (dt_of hN [1] (by decide) rfl) [] rfl 0 rfl rfl rfl hl.1 rfl (Nat.le_of_ble_eq_true rfl) dX5_thing_5 ⟨Nat.le_of_ble_eq_true rfl, Nat.le_of_ble_eq_true rfl⟩ (fun _ => rfl) (fun _ => rfl) (fun r_1 u9 H locs hw_2 hP hD hS => ?_)
  have hP : va_P D vwCl [(r0, aI cs 7 (tx_nf rf))] H := hP
  have hD : va_D A [(r0, aI cs 7 (tx_nf rf))] := hD
  subst r_1
  refine bb_ne (b := tx_has n t) (tgt := 17) hx hb rfl dX5_thing_8 (by decide) (fun c8 => ?_) (fun c8 => ?_)
  · obtain ⟨j, hj, rfl⟩ := tx_has_t (by omega) c8
    have hij : tx_ix (nI j) = j := tx_ix_n (by omega)
    refine lv_iload_n hx hb dX5_thing_17 rfl (lv_at hl 2 rfl) ?_
    by_cases s18_0 : v = 0
    · refine tp_i s18_0 ?_
      refine lv_tableIn (tgt := 48) hx hb dX5_thing_18 (by decide) (by decide) rfl (by decide) ?_
      refine lv_aload_n hx hb dX5_thing_48 rfl (lv_at hl 0 rfl) ?_
      refine va_get (D := D) (ci := 5) (v := .ref h) (C := RX5) (T := TX5) (N := 10) hx hb hts in_X5 hown hK (hR hS) 0 rfl rfl 0 (by decide) hf_10 (fun _ h9 => h9) rfl dX5_thing_49 ?_
      refine va_get (D := D) (ci := 4) (v := .ref k0) (C := RX4) (T := TX4) (N := 10) hx hb hts in_X4 hown hK (hR hS) 1 rfl rfl 0 (by decide) hf_81 (fun _ h9 => h9) rfl dX5_thing_52 ?_
      refine lv_iload_n hx hb dX5_thing_55 rfl (lv_at hl 1 rfl) ?_
      refine ia_n (f := tx_nf kd) hx hb hK (hR hS) 2 0 rfl rfl (j := j) rfl (by omega) (by decide) dX5_thing_56 ?_
      refine tp_i (y := nI (kd j)) rfl ?_
      have hQ : tx_q_thing n (nI j) v = 0 := by simp [tx_q_thing, c8, s18_0]
      have e9 : tx_rf rf (tx_q_thing n (nI j) v) = rf := by rw [hQ] <;> rfl
      have hP : va_P D vwCl [(r0, aI cs 7 (tx_nf (tx_rf rf (tx_q_thing n (nI j) v))))] H := by rw [e9]; (try simp only [hQ]); exact hP
      have hD : va_D A [(r0, aI cs 7 (tx_nf (tx_rf rf (tx_q_thing n (nI j) v))))] := by rw [e9]; (try simp only [hQ]); exact hD
      exact rt_i hx hb hr hlocks () (by rw [hQ] <;> (unfold tx_a_thing; simp [c8, s18_0, hij] <;> rfl)) hP hD hS dX5_thing_57
    · have _ := 0
      by_cases s18_1 : v = 1
      · refine tp_i s18_1 ?_
        refine lv_tableIn (tgt := 58) hx hb dX5_thing_18 (by decide) (by decide) rfl (by decide) ?_
        refine lv_aload_n hx hb dX5_thing_58 rfl (lv_at hl 0 rfl) ?_
        refine va_get (D := D) (ci := 5) (v := .ref h) (C := RX5) (T := TX5) (N := 10) hx hb hts in_X5 hown hK (hR hS) 0 rfl rfl 0 (by decide) hf_10 (fun _ h9 => h9) rfl dX5_thing_59 ?_
        refine va_get (D := D) (ci := 4) (v := .ref k1) (C := RX4) (T := TX4) (N := 10) hx hb hts in_X4 hown hK (hR hS) 1 rfl rfl 1 (by decide) hf_84 (fun _ h9 => h9) rfl dX5_thing_62 ?_
        refine lv_iload_n hx hb dX5_thing_65 rfl (lv_at hl 1 rfl) ?_
        refine ia_n (f := tx_nf wo) hx hb hK (hR hS) 3 0 rfl rfl (j := j) rfl (by omega) (by decide) dX5_thing_66 ?_
        refine tp_i (y := nI (wo j)) rfl ?_
        have hQ : tx_q_thing n (nI j) v = 0 := by simp [tx_q_thing, c8, s18_1]
        have e9 : tx_rf rf (tx_q_thing n (nI j) v) = rf := by rw [hQ] <;> rfl
        have hP : va_P D vwCl [(r0, aI cs 7 (tx_nf (tx_rf rf (tx_q_thing n (nI j) v))))] H := by rw [e9]; (try simp only [hQ]); exact hP
        have hD : va_D A [(r0, aI cs 7 (tx_nf (tx_rf rf (tx_q_thing n (nI j) v))))] := by rw [e9]; (try simp only [hQ]); exact hD
        exact rt_i hx hb hr hlocks () (by rw [hQ] <;> (unfold tx_a_thing; simp [c8, s18_1, hij] <;> rfl)) hP hD hS dX5_thing_67
      · have _ := 0
        by_cases s18_2 : v = 2
        · refine tp_i s18_2 ?_
          refine lv_tableIn (tgt := 68) hx hb dX5_thing_18 (by decide) (by decide) rfl (by decide) ?_
          refine lv_aload_n hx hb dX5_thing_68 rfl (lv_at hl 0 rfl) ?_
          refine va_get (D := D) (ci := 5) (v := .ref h) (C := RX5) (T := TX5) (N := 10) hx hb hts in_X5 hown hK (hR hS) 0 rfl rfl 0 (by decide) hf_10 (fun _ h9 => h9) rfl dX5_thing_69 ?_
          refine va_get (D := D) (ci := 4) (v := .ref k2) (C := RX4) (T := TX4) (N := 10) hx hb hts in_X4 hown hK (hR hS) 1 rfl rfl 2 (by decide) hf_87 (fun _ h9 => h9) rfl dX5_thing_72 ?_
          refine lv_iload_n hx hb dX5_thing_75 rfl (lv_at hl 1 rfl) ?_
          refine ia_n (f := tx_nf ha) hx hb hK (hR hS) 4 0 rfl rfl (j := j) rfl (by omega) (by decide) dX5_thing_76 ?_
          refine tp_i (y := nI (ha j)) rfl ?_
          have hQ : tx_q_thing n (nI j) v = 0 := by simp [tx_q_thing, c8, s18_2]
          have e9 : tx_rf rf (tx_q_thing n (nI j) v) = rf := by rw [hQ] <;> rfl
          have hP : va_P D vwCl [(r0, aI cs 7 (tx_nf (tx_rf rf (tx_q_thing n (nI j) v))))] H := by rw [e9]; (try simp only [hQ]); exact hP
          have hD : va_D A [(r0, aI cs 7 (tx_nf (tx_rf rf (tx_q_thing n (nI j) v))))] := by rw [e9]; (try simp only [hQ]); exact hD
          exact rt_i hx hb hr hlocks () (by rw [hQ] <;> (unfold tx_a_thing; simp [c8, s18_2, hij] <;> rfl)) hP hD hS dX5_thing_77
        · have _ := 0
          by_cases s18_3 : v = 3
          · refine tp_i s18_3 ?_
            refine lv_tableIn (tgt := 78) hx hb dX5_thing_18 (by decide) (by decide) rfl (by decide) ?_
            refine lv_aload_n hx hb dX5_thing_78 rfl (lv_at hl 0 rfl) ?_
            refine va_get (D := D) (ci := 5) (v := .ref h) (C := RX5) (T := TX5) (N := 10) hx hb hts in_X5 hown hK (hR hS) 0 rfl rfl 0 (by decide) hf_10 (fun _ h9 => h9) rfl dX5_thing_79 ?_
            refine va_get (D := D) (ci := 4) (v := .ref k3) (C := RX4) (T := TX4) (N := 10) hx hb hts in_X4 hown hK (hR hS) 1 rfl rfl 3 (by decide) hf_90 (fun _ h9 => h9) rfl dX5_thing_82 ?_
            refine lv_iload_n hx hb dX5_thing_85 rfl (lv_at hl 1 rfl) ?_
            refine ia_n (f := tx_nf we) hx hb hK (hR hS) 5 0 rfl rfl (j := j) rfl (by omega) (by decide) dX5_thing_86 ?_
            refine tp_i (y := nI (we j)) rfl ?_
            have hQ : tx_q_thing n (nI j) v = 0 := by simp [tx_q_thing, c8, s18_3]
            have e9 : tx_rf rf (tx_q_thing n (nI j) v) = rf := by rw [hQ] <;> rfl
            have hP : va_P D vwCl [(r0, aI cs 7 (tx_nf (tx_rf rf (tx_q_thing n (nI j) v))))] H := by rw [e9]; (try simp only [hQ]); exact hP
            have hD : va_D A [(r0, aI cs 7 (tx_nf (tx_rf rf (tx_q_thing n (nI j) v))))] := by rw [e9]; (try simp only [hQ]); exact hD
            exact rt_i hx hb hr hlocks () (by rw [hQ] <;> (unfold tx_a_thing; simp [c8, s18_3, hij] <;> rfl)) hP hD hS dX5_thing_87
          · have _ := 0
            refine lv_tableOut (tgt := 88) hx hb dX5_thing_18 (by have := lv_neT (a := 0) s18_0 rfl; have := lv_neT (a := 1) s18_1 rfl; have := lv_neT (a := 2) s18_2 rfl; have := lv_neT (a := 3) s18_3 rfl; omega) (by decide) ?_
            refine lv_aload_n hx hb dX5_thing_88 rfl (lv_at hl 0 rfl) ?_
            refine lv_bipush (v := (-2)) hx hb dX5_thing_89 (by decide) ?_
            refine cV_i (As := [.int (-2)]) (rest := []) (cr := [(xo, .inr (5, [.ref h, .ref hk, .int (bI im), .ref tx, .ref g, .ref pn, .ref cn, .ref s0, .int (nI ss), .ref r0]))]) (cw1 := [(r0, aI cs 7 (tx_nf rf))]) ⟨hx, hb, hml, hown, hts⟩ (c_X5_refuse l D cs _ xo hk im tx pn cn s0 ss r0 h g rf (-2) 2 (by decide) (by decide) (by decide)) (cwV 1 hts gX5_thing_X5_refuse rfl rfl rfl (by decide +kernel) ⟨Nat.le_of_ble_eq_true rfl, Nat.le_of_ble_eq_true rfl⟩) hK hP hD hS hA (((hR hS).app hP).sub [0, 6] rfl) (dt_of hN [0, 6] (by decide) rfl) [0] rfl 0 rfl rfl rfl hl.1 rfl (Nat.le_of_ble_eq_true rfl) dX5_thing_91 ⟨Nat.le_of_ble_eq_true rfl, Nat.le_of_ble_eq_true rfl⟩ (fun _ => rfl) (fun _ => rfl) (fun r_3 u9 H locs hw_4 hP hD hS => ?_)
            have hP : va_P D vwCl [(r0, aI cs 7 (tx_nf (tx_rf rf 2)))] H := hP
            have hD : va_D A [(r0, aI cs 7 (tx_nf (tx_rf rf 2)))] := hD
            subst r_3
            have hQ : tx_q_thing n (nI j) v = 2 := by simp [tx_q_thing, c8, s18_0, s18_1, s18_2, s18_3]
            have e9 : tx_rf rf (tx_q_thing n (nI j) v) = tx_rf rf 2 := by rw [hQ] <;> rfl
            have hP : va_P D vwCl [(r0, aI cs 7 (tx_nf (tx_rf rf (tx_q_thing n (nI j) v))))] H := by rw [e9]; (try simp only [hQ]); exact hP
            have hD : va_D A [(r0, aI cs 7 (tx_nf (tx_rf rf (tx_q_thing n (nI j) v))))] := by rw [e9]; (try simp only [hQ]); exact hD
            exact rt_i hx hb hr hlocks () (by rw [hQ] <;> (first | done | rfl)) hP hD hS dX5_thing_94
  · refine lv_aload_n hx hb dX5_thing_11 rfl (lv_at hl 0 rfl) ?_
    refine lv_iconst (v := (-1)) hx hb dX5_thing_12 (by decide) ?_
    refine cV_i (As := [.int (-1)]) (rest := []) (cr := [(xo, .inr (5, [.ref h, .ref hk, .int (bI im), .ref tx, .ref g, .ref pn, .ref cn, .ref s0, .int (nI ss), .ref r0]))]) (cw1 := [(r0, aI cs 7 (tx_nf rf))]) ⟨hx, hb, hml, hown, hts⟩ (c_X5_refuse l D cs _ xo hk im tx pn cn s0 ss r0 h g rf (-1) 1 (by decide) (by decide) (by decide)) (cwV 1 hts gX5_thing_X5_refuse rfl rfl rfl (by decide +kernel) ⟨Nat.le_of_ble_eq_true rfl, Nat.le_of_ble_eq_true rfl⟩) hK hP hD hS hA (((hR hS).app hP).sub [0, 6] rfl) (dt_of hN [0, 6] (by decide) rfl) [0] rfl 0 rfl rfl rfl hl.1 rfl (Nat.le_of_ble_eq_true rfl) dX5_thing_13 ⟨Nat.le_of_ble_eq_true rfl, Nat.le_of_ble_eq_true rfl⟩ (fun _ => rfl) (fun _ => rfl) (fun r_5 u9 H locs hw_6 hP hD hS => ?_)
    have hP : va_P D vwCl [(r0, aI cs 7 (tx_nf (tx_rf rf 1)))] H := hP
    have hD : va_D A [(r0, aI cs 7 (tx_nf (tx_rf rf 1)))] := hD
    subst r_5
    have hQ : tx_q_thing n t v = 1 := by simp [tx_q_thing, c8]
    have e9 : tx_rf rf (tx_q_thing n t v) = tx_rf rf 1 := by rw [hQ] <;> rfl
    have hP : va_P D vwCl [(r0, aI cs 7 (tx_nf (tx_rf rf (tx_q_thing n t v))))] H := by rw [e9]; (try simp only [hQ]); exact hP
    have hD : va_D A [(r0, aI cs 7 (tx_nf (tx_rf rf (tx_q_thing n t v))))] := by rw [e9]; (try simp only [hQ]); exact hD
    exact rt_i hx hb hr hlocks () (by rw [hQ] <;> (first | done | rfl)) hP hD hS dX5_thing_16
set_option maxHeartbeats 4000000 in
set_option maxRecDepth 100000 in
theorem c_X6_thing (l : Launch) (D : va_G) (cs : Nat → ClassId) (sz : Nat) (o : Nat) (o1 : Nat) (o2 : Nat) (o3 : Nat) (o4 : Nat) (o5 : Nat) (o6 : Nat) (o7 : Nat) (o8 : Nat) (o9 : Nat) (o10 : Nat) (o11 : Nat) (o12 : Nat) (o13 : Nat) (o14 : Nat) (o15 : Nat) (n : Nat) (dy : Nat) (ch : Nat) (lw : Nat) (tz : Nat) (at9 : Nat) (va9 : Nat) (ss : Nat) (im : Bool) (kd : Nat → Nat) (wo : Nat → Nat) (ha : Nat → Nat) (we : Nat → Nat) (rf : Nat → Nat) (t : Int32) (v : Int32) (hn : n ≤ 4) : mI (S := Unit) l yX6_thing wsX6_thing ({ frames := 2, cells := 0, slots := 0, locals := 43 } : Room) D (tyc cs) sz [.ref o, .int t, .int v] [(o, .inr (6, [.int (nI n), .ref o1, .ref o2, .ref o3, .ref o4, .int (nI dy), .ref o5, .ref o6, .int (nI ch), .int (nI lw), .int (nI tz), .ref o7, .int (nI at9), .int (nI va9), .int (nI ss), .ref o8, .ref o9, .int (bI im), .ref o10, .ref o11, .ref o12, .ref o13, .ref o14, .ref o15])), (o1, aI cs 4 (tx_nf kd)), (o2, aI cs 4 (tx_nf wo)), (o3, aI cs 4 (tx_nf ha)), (o4, aI cs 4 (tx_nf we))] [(o9, aI cs 7 (tx_nf rf))] (fun (r : Int32) (u : Unit) => r = tx_ai (tx_q_thing n t v) (nI (tx_a_thing kd wo ha we t v))) (fun _ => [(o9, aI cs 7 (tx_nf (tx_rf rf (tx_q_thing n t v))))]) 0 0 := by
  unfold mI
  refine Met.ofW (cc := cX6_thing) (maxL := 3) (ret := (some .int)) (by decide) rfl ?_
  intro p e s m args below meth c s₁ B hml hv
  obtain ⟨rfl, hsz, hP, hK, hD0⟩ := hv
  have hx := B.exec
  have hb := B.bytes
  have hr := B.returns
  have hts := atoms_spec (ws := wsX6_thing) B.pre
  have hown : s.vm.findClass RX6 = some m.cls := findClass_of_methodNamed B.named
  have hlocks := B.notSynchronized
  subst hsz
  have hR := @en_R _ _ _ [(o, .inr (6, [.int (nI n), .ref o1, .ref o2, .ref o3, .ref o4, .int (nI dy), .ref o5, .ref o6, .int (nI ch), .int (nI lw), .int (nI tz), .ref o7, .int (nI at9), .int (nI va9), .int (nI ss), .ref o8, .ref o9, .int (bI im), .ref o10, .ref o11, .ref o12, .ref o13, .ref o14, .ref o15])), (o1, aI cs 4 (tx_nf kd)), (o2, aI cs 4 (tx_nf wo)), (o3, aI cs 4 (tx_nf ha)), (o4, aI cs 4 (tx_nf we))] [(o9, aI cs 7 (tx_nf rf))] _ hP hD0
  have hN := adN_of hD0
  have hD := en_D (wr := [(o, .inr (6, [.int (nI n), .ref o1, .ref o2, .ref o3, .ref o4, .int (nI dy), .ref o5, .ref o6, .int (nI ch), .int (nI lw), .int (nI tz), .ref o7, .int (nI at9), .int (nI va9), .int (nI ss), .ref o8, .ref o9, .int (bI im), .ref o10, .ref o11, .ref o12, .ref o13, .ref o14, .ref o15])), (o1, aI cs 4 (tx_nf kd)), (o2, aI cs 4 (tx_nf wo)), (o3, aI cs 4 (tx_nf ha)), (o4, aI cs 4 (tx_nf we))]) (ww := [(o9, aI cs 7 (tx_nf rf))]) (sz := s.heap.size) hD0
  have hP := en_P (wr := [(o, .inr (6, [.int (nI n), .ref o1, .ref o2, .ref o3, .ref o4, .int (nI dy), .ref o5, .ref o6, .int (nI ch), .int (nI lw), .int (nI tz), .ref o7, .int (nI at9), .int (nI va9), .int (nI ss), .ref o8, .ref o9, .int (bI im), .ref o10, .ref o11, .ref o12, .ref o13, .ref o14, .ref o15])), (o1, aI cs 4 (tx_nf kd)), (o2, aI cs 4 (tx_nf wo)), (o3, aI cs 4 (tx_nf ha)), (o4, aI cs 4 (tx_nf we))]) (ww := [(o9, aI cs 7 (tx_nf rf))]) hP
  generalize hAe : va_A [(o9, aI cs 7 (tx_nf rf))] s.heap.size = A at hD hR ⊢
  have hA : ∀ q : Nat, s.heap.size ≤ q → A q := fun q h => by rw [← hAe]; exact Or.inr h
  have hS : va_S A s.heap s.heap [] := va_S.rf
  have hN : adN [o, o1, o2, o3, o4, o9] := hN
  have hf_7 := hts (.fieldLink RX6 7 "TaxedByLongestModel" "kind" "[I") (by decide +kernel)
  have hf_13 := hts (.fieldLink RX6 13 "TaxedByLongestModel" "worth" "[I") (by decide +kernel)
  have hf_16 := hts (.fieldLink RX6 16 "TaxedByLongestModel" "habit" "[I") (by decide +kernel)
  have hf_19 := hts (.fieldLink RX6 19 "TaxedByLongestModel" "weary" "[I") (by decide +kernel)
  have in_X6 : ∀ w ∈ wsX60, w ∈ wsX6_thing := by decide +kernel
  have hl := lv_entry ([.ref o, .int t, .int v]) (n := 3) (Nat.le_of_ble_eq_true rfl)
  rw [lg_entry_eq]
  generalize (lg_sl ([.ref o, .int t, .int v]) ++ List.replicate (3 - (lg_sl ([.ref o, .int t, .int v])).length) Slot.unset).toArray = ls at hl ⊢
  have hl : lv_has ls 3 [(0, .ref o), (1, .int t), (2, .int v)] := hl
  refine lv_aload_n hx hb dX6_thing_0 rfl (lv_at hl 0 rfl) ?_
  refine lv_iload_n hx hb dX6_thing_1 rfl (lv_at hl 1 rfl) ?_
  refine cV_i (As := [.int t]) (rest := []) (cr := [(o, .inr (6, [.int (nI n), .ref o1, .ref o2, .ref o3, .ref o4, .int (nI dy), .ref o5, .ref o6, .int (nI ch), .int (nI lw), .int (nI tz), .ref o7, .int (nI at9), .int (nI va9), .int (nI ss), .ref o8, .ref o9, .int (bI im), .ref o10, .ref o11, .ref o12, .ref o13, .ref o14, .ref o15]))]) (cw1 := []) ⟨hx, hb, hml, hown, hts⟩ (c_X6_isThing l D cs _ o o1 o2 o3 o4 o5 o6 o7 o8 o9 o10 o11 o12 o13 o14 o15 n dy ch lw tz at9 va9 ss im t (by first | assumption | omega)) (cwV 1 hts gX6_thing_X6_isThing rfl rfl rfl (by decide +kernel) ⟨Nat.le_of_ble_eq_true rfl, Nat.le_of_ble_eq_true rfl⟩) hK hP hD hS hA (((hR hS).app hP).sub [0] rfl) (dt_of hN [0] (by decide) rfl) [] rfl 0 rfl rfl rfl hl.1 rfl (Nat.le_of_ble_eq_true rfl) dX6_thing_2 ⟨Nat.le_of_ble_eq_true rfl, Nat.le_of_ble_eq_true rfl⟩ (fun _ => rfl) (fun _ => rfl) (fun r_1 u9 H locs hw_2 hP hD hS => ?_)
  have hP : va_P D vwCl [(o9, aI cs 7 (tx_nf rf))] H := hP
  have hD : va_D A [(o9, aI cs 7 (tx_nf rf))] := hD
  subst r_1
  refine bb_ne (b := tx_has n t) (tgt := 14) hx hb rfl dX6_thing_5 (by decide) (fun c5 => ?_) (fun c5 => ?_)
  · obtain ⟨j, hj, rfl⟩ := tx_has_t (by omega) c5
    have hij : tx_ix (nI j) = j := tx_ix_n (by omega)
    refine lv_iload_n hx hb dX6_thing_14 rfl (lv_at hl 2 rfl) ?_
    by_cases s15_0 : v = 0
    · refine tp_i s15_0 ?_
      refine lv_tableIn (tgt := 44) hx hb dX6_thing_15 (by decide) (by decide) rfl (by decide) ?_
      refine lv_aload_n hx hb dX6_thing_44 rfl (lv_at hl 0 rfl) ?_
      refine va_get (D := D) (ci := 6) (v := .ref o1) (C := RX6) (T := TX6) (N := 24) hx hb hts in_X6 hown hK (hR hS) 0 rfl rfl 1 (by decide) hf_7 (fun _ h9 => h9) rfl dX6_thing_45 ?_
      refine lv_iload_n hx hb dX6_thing_48 rfl (lv_at hl 1 rfl) ?_
      refine ia_n (f := tx_nf kd) hx hb hK (hR hS) 1 0 rfl rfl (j := j) rfl (by omega) (by decide) dX6_thing_49 ?_
      refine tp_i (y := nI (kd j)) rfl ?_
      have hQ : tx_q_thing n (nI j) v = 0 := by simp [tx_q_thing, c5, s15_0]
      have e9 : tx_rf rf (tx_q_thing n (nI j) v) = rf := by rw [hQ] <;> rfl
      have hP : va_P D vwCl [(o9, aI cs 7 (tx_nf (tx_rf rf (tx_q_thing n (nI j) v))))] H := by rw [e9]; (try simp only [hQ]); exact hP
      have hD : va_D A [(o9, aI cs 7 (tx_nf (tx_rf rf (tx_q_thing n (nI j) v))))] := by rw [e9]; (try simp only [hQ]); exact hD
      exact rt_i hx hb hr hlocks () (by rw [hQ] <;> (unfold tx_a_thing; simp [c5, s15_0, hij] <;> rfl)) hP hD hS dX6_thing_50
    · have _ := 0
      by_cases s15_1 : v = 1
      · refine tp_i s15_1 ?_
        refine lv_tableIn (tgt := 51) hx hb dX6_thing_15 (by decide) (by decide) rfl (by decide) ?_
        refine lv_aload_n hx hb dX6_thing_51 rfl (lv_at hl 0 rfl) ?_
        refine va_get (D := D) (ci := 6) (v := .ref o2) (C := RX6) (T := TX6) (N := 24) hx hb hts in_X6 hown hK (hR hS) 0 rfl rfl 2 (by decide) hf_13 (fun _ h9 => h9) rfl dX6_thing_52 ?_
        refine lv_iload_n hx hb dX6_thing_55 rfl (lv_at hl 1 rfl) ?_
        refine ia_n (f := tx_nf wo) hx hb hK (hR hS) 2 0 rfl rfl (j := j) rfl (by omega) (by decide) dX6_thing_56 ?_
        refine tp_i (y := nI (wo j)) rfl ?_
        have hQ : tx_q_thing n (nI j) v = 0 := by simp [tx_q_thing, c5, s15_1]
        have e9 : tx_rf rf (tx_q_thing n (nI j) v) = rf := by rw [hQ] <;> rfl
        have hP : va_P D vwCl [(o9, aI cs 7 (tx_nf (tx_rf rf (tx_q_thing n (nI j) v))))] H := by rw [e9]; (try simp only [hQ]); exact hP
        have hD : va_D A [(o9, aI cs 7 (tx_nf (tx_rf rf (tx_q_thing n (nI j) v))))] := by rw [e9]; (try simp only [hQ]); exact hD
        exact rt_i hx hb hr hlocks () (by rw [hQ] <;> (unfold tx_a_thing; simp [c5, s15_1, hij] <;> rfl)) hP hD hS dX6_thing_57
      · have _ := 0
        by_cases s15_2 : v = 2
        · refine tp_i s15_2 ?_
          refine lv_tableIn (tgt := 58) hx hb dX6_thing_15 (by decide) (by decide) rfl (by decide) ?_
          refine lv_aload_n hx hb dX6_thing_58 rfl (lv_at hl 0 rfl) ?_
          refine va_get (D := D) (ci := 6) (v := .ref o3) (C := RX6) (T := TX6) (N := 24) hx hb hts in_X6 hown hK (hR hS) 0 rfl rfl 3 (by decide) hf_16 (fun _ h9 => h9) rfl dX6_thing_59 ?_
          refine lv_iload_n hx hb dX6_thing_62 rfl (lv_at hl 1 rfl) ?_
          refine ia_n (f := tx_nf ha) hx hb hK (hR hS) 3 0 rfl rfl (j := j) rfl (by omega) (by decide) dX6_thing_63 ?_
          refine tp_i (y := nI (ha j)) rfl ?_
          have hQ : tx_q_thing n (nI j) v = 0 := by simp [tx_q_thing, c5, s15_2]
          have e9 : tx_rf rf (tx_q_thing n (nI j) v) = rf := by rw [hQ] <;> rfl
          have hP : va_P D vwCl [(o9, aI cs 7 (tx_nf (tx_rf rf (tx_q_thing n (nI j) v))))] H := by rw [e9]; (try simp only [hQ]); exact hP
          have hD : va_D A [(o9, aI cs 7 (tx_nf (tx_rf rf (tx_q_thing n (nI j) v))))] := by rw [e9]; (try simp only [hQ]); exact hD
          exact rt_i hx hb hr hlocks () (by rw [hQ] <;> (unfold tx_a_thing; simp [c5, s15_2, hij] <;> rfl)) hP hD hS dX6_thing_64
        · have _ := 0
          by_cases s15_3 : v = 3
          · refine tp_i s15_3 ?_
            refine lv_tableIn (tgt := 65) hx hb dX6_thing_15 (by decide) (by decide) rfl (by decide) ?_
            refine lv_aload_n hx hb dX6_thing_65 rfl (lv_at hl 0 rfl) ?_
            refine va_get (D := D) (ci := 6) (v := .ref o4) (C := RX6) (T := TX6) (N := 24) hx hb hts in_X6 hown hK (hR hS) 0 rfl rfl 4 (by decide) hf_19 (fun _ h9 => h9) rfl dX6_thing_66 ?_
            refine lv_iload_n hx hb dX6_thing_69 rfl (lv_at hl 1 rfl) ?_
            refine ia_n (f := tx_nf we) hx hb hK (hR hS) 4 0 rfl rfl (j := j) rfl (by omega) (by decide) dX6_thing_70 ?_
            refine tp_i (y := nI (we j)) rfl ?_
            have hQ : tx_q_thing n (nI j) v = 0 := by simp [tx_q_thing, c5, s15_3]
            have e9 : tx_rf rf (tx_q_thing n (nI j) v) = rf := by rw [hQ] <;> rfl
            have hP : va_P D vwCl [(o9, aI cs 7 (tx_nf (tx_rf rf (tx_q_thing n (nI j) v))))] H := by rw [e9]; (try simp only [hQ]); exact hP
            have hD : va_D A [(o9, aI cs 7 (tx_nf (tx_rf rf (tx_q_thing n (nI j) v))))] := by rw [e9]; (try simp only [hQ]); exact hD
            exact rt_i hx hb hr hlocks () (by rw [hQ] <;> (unfold tx_a_thing; simp [c5, s15_3, hij] <;> rfl)) hP hD hS dX6_thing_71
          · have _ := 0
            refine lv_tableOut (tgt := 72) hx hb dX6_thing_15 (by have := lv_neT (a := 0) s15_0 rfl; have := lv_neT (a := 1) s15_1 rfl; have := lv_neT (a := 2) s15_2 rfl; have := lv_neT (a := 3) s15_3 rfl; omega) (by decide) ?_
            refine lv_aload_n hx hb dX6_thing_72 rfl (lv_at hl 0 rfl) ?_
            refine lv_bipush (v := (-2)) hx hb dX6_thing_73 (by decide) ?_
            refine cV_i (As := [.int (-2)]) (rest := []) (cr := [(o, .inr (6, [.int (nI n), .ref o1, .ref o2, .ref o3, .ref o4, .int (nI dy), .ref o5, .ref o6, .int (nI ch), .int (nI lw), .int (nI tz), .ref o7, .int (nI at9), .int (nI va9), .int (nI ss), .ref o8, .ref o9, .int (bI im), .ref o10, .ref o11, .ref o12, .ref o13, .ref o14, .ref o15]))]) (cw1 := [(o9, aI cs 7 (tx_nf rf))]) ⟨hx, hb, hml, hown, hts⟩ (c_X6_no l D cs _ o o1 o2 o3 o4 o5 o6 o7 o8 o9 o10 o11 o12 o13 o14 o15 n dy ch lw tz at9 va9 ss im rf (-2) 2 (by decide) (by decide) (by decide)) (cwV 1 hts gX6_thing_X6_no rfl rfl rfl (by decide +kernel) ⟨Nat.le_of_ble_eq_true rfl, Nat.le_of_ble_eq_true rfl⟩) hK hP hD hS hA (((hR hS).app hP).sub [0, 5] rfl) (dt_of hN [0, 5] (by decide) rfl) [0] rfl 0 rfl rfl rfl hl.1 rfl (Nat.le_of_ble_eq_true rfl) dX6_thing_75 ⟨Nat.le_of_ble_eq_true rfl, Nat.le_of_ble_eq_true rfl⟩ (fun _ => rfl) (fun _ => rfl) (fun r_3 u9 H locs hw_4 hP hD hS => ?_)
            have hP : va_P D vwCl [(o9, aI cs 7 (tx_nf (tx_rf rf 2)))] H := hP
            have hD : va_D A [(o9, aI cs 7 (tx_nf (tx_rf rf 2)))] := hD
            subst r_3
            have hQ : tx_q_thing n (nI j) v = 2 := by simp [tx_q_thing, c5, s15_0, s15_1, s15_2, s15_3]
            have e9 : tx_rf rf (tx_q_thing n (nI j) v) = tx_rf rf 2 := by rw [hQ] <;> rfl
            have hP : va_P D vwCl [(o9, aI cs 7 (tx_nf (tx_rf rf (tx_q_thing n (nI j) v))))] H := by rw [e9]; (try simp only [hQ]); exact hP
            have hD : va_D A [(o9, aI cs 7 (tx_nf (tx_rf rf (tx_q_thing n (nI j) v))))] := by rw [e9]; (try simp only [hQ]); exact hD
            exact rt_i hx hb hr hlocks () (by rw [hQ] <;> (first | done | rfl)) hP hD hS dX6_thing_78
  · refine lv_aload_n hx hb dX6_thing_8 rfl (lv_at hl 0 rfl) ?_
    refine lv_iconst (v := (-1)) hx hb dX6_thing_9 (by decide) ?_
    refine cV_i (As := [.int (-1)]) (rest := []) (cr := [(o, .inr (6, [.int (nI n), .ref o1, .ref o2, .ref o3, .ref o4, .int (nI dy), .ref o5, .ref o6, .int (nI ch), .int (nI lw), .int (nI tz), .ref o7, .int (nI at9), .int (nI va9), .int (nI ss), .ref o8, .ref o9, .int (bI im), .ref o10, .ref o11, .ref o12, .ref o13, .ref o14, .ref o15]))]) (cw1 := [(o9, aI cs 7 (tx_nf rf))]) ⟨hx, hb, hml, hown, hts⟩ (c_X6_no l D cs _ o o1 o2 o3 o4 o5 o6 o7 o8 o9 o10 o11 o12 o13 o14 o15 n dy ch lw tz at9 va9 ss im rf (-1) 1 (by decide) (by decide) (by decide)) (cwV 1 hts gX6_thing_X6_no rfl rfl rfl (by decide +kernel) ⟨Nat.le_of_ble_eq_true rfl, Nat.le_of_ble_eq_true rfl⟩) hK hP hD hS hA (((hR hS).app hP).sub [0, 5] rfl) (dt_of hN [0, 5] (by decide) rfl) [0] rfl 0 rfl rfl rfl hl.1 rfl (Nat.le_of_ble_eq_true rfl) dX6_thing_10 ⟨Nat.le_of_ble_eq_true rfl, Nat.le_of_ble_eq_true rfl⟩ (fun _ => rfl) (fun _ => rfl) (fun r_5 u9 H locs hw_6 hP hD hS => ?_)
    have hP : va_P D vwCl [(o9, aI cs 7 (tx_nf (tx_rf rf 1)))] H := hP
    have hD : va_D A [(o9, aI cs 7 (tx_nf (tx_rf rf 1)))] := hD
    subst r_5
    have hQ : tx_q_thing n t v = 1 := by simp [tx_q_thing, c5]
    have e9 : tx_rf rf (tx_q_thing n t v) = tx_rf rf 1 := by rw [hQ] <;> rfl
    have hP : va_P D vwCl [(o9, aI cs 7 (tx_nf (tx_rf rf (tx_q_thing n t v))))] H := by rw [e9]; (try simp only [hQ]); exact hP
    have hD : va_D A [(o9, aI cs 7 (tx_nf (tx_rf rf (tx_q_thing n t v))))] := by rw [e9]; (try simp only [hQ]); exact hD
    exact rt_i hx hb hr hlocks () (by rw [hQ] <;> (first | done | rfl)) hP hD hS dX6_thing_13
set_option maxHeartbeats 4000000 in
set_option maxRecDepth 100000 in
theorem c_X5_does (l : Launch) (D : va_G) (cs : Nat → ClassId) (sz : Nat) (xo : Nat) (hk : Nat) (im : Bool) (tx : Nat) (pn : Nat) (cn : Nat) (s0 : Nat) (ss : Nat) (r0 : Nat) (h : Nat) (k0 : Nat) (k1 : Nat) (k2 : Nat) (k3 : Nat) (k4 : Nat) (k5 : Nat) (n : Nat) (dy : Nat) (ch : Nat) (lw : Nat) (g : Nat) (td : Nat → Nat) (bo : Nat → Option Nat) (rf : Nat → Nat) (d : Int32) (t : Int32) (hn : n ≤ 4) (hdy : dy ≤ 20) (hbo : tx_okb bo) : mI (S := Unit) l yX5_does wsX5_does ({ frames := 1, cells := 0, slots := 0, locals := 22 } : Room) D (tyc cs) sz [.ref xo, .int d, .int t] [(xo, .inr (5, [.ref h, .ref hk, .int (bI im), .ref tx, .ref g, .ref pn, .ref cn, .ref s0, .int (nI ss), .ref r0])), (h, .inr (4, [.ref k0, .ref k1, .ref k2, .ref k3, .ref k4, .ref k5, .int (nI n), .int (nI dy), .int (nI ch), .int (nI lw)])), (k5, aI cs 20 (tx_bf bo))] [(k4, aI cs 20 (tx_nf td)), (r0, aI cs 7 (tx_nf rf))] (fun (r : Int32) (u : Unit) => r = tx_ai (tx_q_does n dy bo d t) (nI (td (tx_ix d)))) (fun _ => [(k4, aI cs 20 (tx_nf (tx_if (tx_q_does n dy bo d t) (va_up td (tx_ix d) (tx_ix t)) td))), (r0, aI cs 7 (tx_nf (tx_rf rf (tx_q_does n dy bo d t))))]) 0 0 := by
  unfold mI
  refine Met.ofW (cc := cX5_does) (maxL := 4) (ret := (some .int)) (by decide) rfl ?_
  intro p e s m args below meth c s₁ B hml hv
  obtain ⟨rfl, hsz, hP, hK, hD0⟩ := hv
  have hx := B.exec
  have hb := B.bytes
  have hr := B.returns
  have hts := atoms_spec (ws := wsX5_does) B.pre
  have hown : s.vm.findClass RX5 = some m.cls := findClass_of_methodNamed B.named
  have hlocks := B.notSynchronized
  subst hsz
  have hR := @en_R _ _ _ [(xo, .inr (5, [.ref h, .ref hk, .int (bI im), .ref tx, .ref g, .ref pn, .ref cn, .ref s0, .int (nI ss), .ref r0])), (h, .inr (4, [.ref k0, .ref k1, .ref k2, .ref k3, .ref k4, .ref k5, .int (nI n), .int (nI dy), .int (nI ch), .int (nI lw)])), (k5, aI cs 20 (tx_bf bo))] [(k4, aI cs 20 (tx_nf td)), (r0, aI cs 7 (tx_nf rf))] _ hP hD0
  have hN := adN_of hD0
  have hD := en_D (wr := [(xo, .inr (5, [.ref h, .ref hk, .int (bI im), .ref tx, .ref g, .ref pn, .ref cn, .ref s0, .int (nI ss), .ref r0])), (h, .inr (4, [.ref k0, .ref k1, .ref k2, .ref k3, .ref k4, .ref k5, .int (nI n), .int (nI dy), .int (nI ch), .int (nI lw)])), (k5, aI cs 20 (tx_bf bo))]) (ww := [(k4, aI cs 20 (tx_nf td)), (r0, aI cs 7 (tx_nf rf))]) (sz := s.heap.size) hD0
  have hP := en_P (wr := [(xo, .inr (5, [.ref h, .ref hk, .int (bI im), .ref tx, .ref g, .ref pn, .ref cn, .ref s0, .int (nI ss), .ref r0])), (h, .inr (4, [.ref k0, .ref k1, .ref k2, .ref k3, .ref k4, .ref k5, .int (nI n), .int (nI dy), .int (nI ch), .int (nI lw)])), (k5, aI cs 20 (tx_bf bo))]) (ww := [(k4, aI cs 20 (tx_nf td)), (r0, aI cs 7 (tx_nf rf))]) hP
  generalize hAe : va_A [(k4, aI cs 20 (tx_nf td)), (r0, aI cs 7 (tx_nf rf))] s.heap.size = A at hD hR ⊢
  have hA : ∀ q : Nat, s.heap.size ≤ q → A q := fun q h => by rw [← hAe]; exact Or.inr h
  have hS : va_S A s.heap s.heap [] := va_S.rf
  have hN : adN [xo, h, k5, k4, r0] := hN
  have hf_10 := hts (.fieldLink RX5 10 "TaxedByLongest" "told" "LTaxedByLongest$Told;") (by decide +kernel)
  have hf_100 := hts (.fieldLink RX5 100 "TaxedByLongest$Told" "done" "[I") (by decide +kernel)
  have in_X4 : ∀ w ∈ wsX40, w ∈ wsX5_does := by decide +kernel
  have in_X5 : ∀ w ∈ wsX50, w ∈ wsX5_does := by decide +kernel
  have hl := lv_entry ([.ref xo, .int d, .int t]) (n := 4) (Nat.le_of_ble_eq_true rfl)
  rw [lg_entry_eq]
  generalize (lg_sl ([.ref xo, .int d, .int t]) ++ List.replicate (4 - (lg_sl ([.ref xo, .int d, .int t])).length) Slot.unset).toArray = ls at hl ⊢
  have hl : lv_has ls 4 [(0, .ref xo), (1, .int d), (2, .int t)] := hl
  refine lv_aload_n hx hb dX5_does_0 rfl (lv_at hl 0 rfl) ?_
  refine va_get (D := D) (ci := 5) (v := .ref h) (C := RX5) (T := TX5) (N := 10) hx hb hts in_X5 hown hK (hR hS) 0 rfl rfl 0 (by decide) hf_10 (fun _ h9 => h9) rfl dX5_does_1 ?_
  refine lv_iload_n hx hb dX5_does_4 rfl (lv_at hl 1 rfl) ?_
  refine cV_i (As := [.int d]) (rest := []) (cr := [(h, .inr (4, [.ref k0, .ref k1, .ref k2, .ref k3, .ref k4, .ref k5, .int (nI n), .int (nI dy), .int (nI ch), .int (nI lw)]))]) (cw1 := []) ⟨hx, hb, hml, hown, hts⟩ (c_X4_hasDay l D cs _ h k0 k1 k2 k3 k4 k5 n dy ch lw d ) (cwV 1 hts gX5_does_X4_hasDay rfl rfl rfl (by decide +kernel) ⟨Nat.le_of_ble_eq_true rfl, Nat.le_of_ble_eq_true rfl⟩) hK hP hD hS hA (((hR hS).app hP).sub [1] rfl) (dt_of hN [1] (by decide) rfl) [] rfl 0 rfl rfl rfl hl.1 rfl (Nat.le_of_ble_eq_true rfl) dX5_does_5 ⟨Nat.le_of_ble_eq_true rfl, Nat.le_of_ble_eq_true rfl⟩ (fun _ => rfl) (fun _ => rfl) (fun r_1 u9 H locs hw_2 hP hD hS => ?_)
  have hP : va_P D vwCl [(k4, aI cs 20 (tx_nf td)), (r0, aI cs 7 (tx_nf rf))] H := hP
  have hD : va_D A [(k4, aI cs 20 (tx_nf td)), (r0, aI cs 7 (tx_nf rf))] := hD
  subst r_1
  refine bb_eq (b := tx_has dy d) (tgt := 22) hx hb rfl dX5_does_8 (by decide) (fun c8 => ?_) (fun c8 => ?_)
  · refine lv_aload_n hx hb dX5_does_22 rfl (lv_at hl 0 rfl) ?_
    refine lv_iconst (v := (-1)) hx hb dX5_does_23 (by decide) ?_
    refine cV_i (As := [.int (-1)]) (rest := []) (cr := [(xo, .inr (5, [.ref h, .ref hk, .int (bI im), .ref tx, .ref g, .ref pn, .ref cn, .ref s0, .int (nI ss), .ref r0]))]) (cw1 := [(r0, aI cs 7 (tx_nf rf))]) ⟨hx, hb, hml, hown, hts⟩ (c_X5_refuse l D cs _ xo hk im tx pn cn s0 ss r0 h g rf (-1) 1 (by decide) (by decide) (by decide)) (cwV 1 hts gX5_does_X5_refuse rfl rfl rfl (by decide +kernel) ⟨Nat.le_of_ble_eq_true rfl, Nat.le_of_ble_eq_true rfl⟩) hK hP hD hS hA (((hR hS).app hP).sub [0, 4] rfl) (dt_of hN [0, 4] (by decide) rfl) [1] rfl 0 rfl rfl rfl hl.1 rfl (Nat.le_of_ble_eq_true rfl) dX5_does_24 ⟨Nat.le_of_ble_eq_true rfl, Nat.le_of_ble_eq_true rfl⟩ (fun _ => rfl) (fun _ => rfl) (fun r_3 u9 H locs hw_4 hP hD hS => ?_)
    have hP : va_P D vwCl [(k4, aI cs 20 (tx_nf td)), (r0, aI cs 7 (tx_nf (tx_rf rf 1)))] H := hP
    have hD : va_D A [(k4, aI cs 20 (tx_nf td)), (r0, aI cs 7 (tx_nf (tx_rf rf 1)))] := hD
    subst r_3
    have hQ : tx_q_does n dy bo d t = 1 := by simp [tx_q_does, c8]
    have e9 : tx_rf rf (tx_q_does n dy bo d t) = tx_rf rf 1 := by rw [hQ] <;> rfl
    have hP : va_P D vwCl [(k4, aI cs 20 (tx_nf (tx_if (tx_q_does n dy bo d t) (va_up td (tx_ix d) (tx_ix t)) td))), (r0, aI cs 7 (tx_nf (tx_rf rf (tx_q_does n dy bo d t))))] H := by rw [e9]; (try simp only [hQ]); (try rw [hii1, hii2]); exact hP
    have hD : va_D A [(k4, aI cs 20 (tx_nf (tx_if (tx_q_does n dy bo d t) (va_up td (tx_ix d) (tx_ix t)) td))), (r0, aI cs 7 (tx_nf (tx_rf rf (tx_q_does n dy bo d t))))] := by rw [e9]; (try simp only [hQ]); (try rw [hii1, hii2]); exact hD
    exact rt_i hx hb hr hlocks () (by rw [hQ] <;> (first | done | rfl)) hP hD hS dX5_does_27
  · refine lv_aload_n hx hb dX5_does_11 rfl (lv_at hl 0 rfl) ?_
    refine va_get (D := D) (ci := 5) (v := .ref h) (C := RX5) (T := TX5) (N := 10) hx hb hts in_X5 hown hK (hR hS) 0 rfl rfl 0 (by decide) hf_10 (fun _ h9 => h9) rfl dX5_does_12 ?_
    refine lv_iload_n hx hb dX5_does_15 rfl (lv_at hl 2 rfl) ?_
    refine cV_i (As := [.int t]) (rest := []) (cr := [(h, .inr (4, [.ref k0, .ref k1, .ref k2, .ref k3, .ref k4, .ref k5, .int (nI n), .int (nI dy), .int (nI ch), .int (nI lw)]))]) (cw1 := []) ⟨hx, hb, hml, hown, hts⟩ (c_X4_hasThing l D cs _ h k0 k1 k2 k3 k4 k5 n dy ch lw t ) (cwV 1 hts gX5_does_X4_hasThing rfl rfl rfl (by decide +kernel) ⟨Nat.le_of_ble_eq_true rfl, Nat.le_of_ble_eq_true rfl⟩) hK hP hD hS hA (((hR hS).app hP).sub [1] rfl) (dt_of hN [1] (by decide) rfl) [] rfl 0 rfl rfl rfl hl.1 rfl (Nat.le_of_ble_eq_true rfl) dX5_does_16 ⟨Nat.le_of_ble_eq_true rfl, Nat.le_of_ble_eq_true rfl⟩ (fun _ => rfl) (fun _ => rfl) (fun r_5 u9 H locs hw_6 hP hD hS => ?_)
    have hP : va_P D vwCl [(k4, aI cs 20 (tx_nf td)), (r0, aI cs 7 (tx_nf rf))] H := hP
    have hD : va_D A [(k4, aI cs 20 (tx_nf td)), (r0, aI cs 7 (tx_nf rf))] := hD
    subst r_5
    refine bb_ne (b := tx_has n t) (tgt := 28) hx hb rfl dX5_does_19 (by decide) (fun c19 => ?_) (fun c19 => ?_)
    · obtain ⟨i1, h1, rfl⟩ := tx_has_t (by omega) c8
      have hii1 : tx_ix (nI i1) = i1 := tx_ix_n (by omega)
      obtain ⟨i2, h2, rfl⟩ := tx_has_t (by omega) c19
      have hii2 : tx_ix (nI i2) = i2 := tx_ix_n (by omega)
      refine lv_aload_n hx hb dX5_does_28 rfl (lv_at hl 0 rfl) ?_
      refine va_get (D := D) (ci := 5) (v := .ref h) (C := RX5) (T := TX5) (N := 10) hx hb hts in_X5 hown hK (hR hS) 0 rfl rfl 0 (by decide) hf_10 (fun _ h9 => h9) rfl dX5_does_29 ?_
      refine lv_iload_n hx hb dX5_does_32 rfl (lv_at hl 1 rfl) ?_
      refine lv_iload_n hx hb dX5_does_33 rfl (lv_at hl 2 rfl) ?_
      refine cV_i (As := [.int (nI i1), .int (nI i2)]) (rest := []) (cr := [(h, .inr (4, [.ref k0, .ref k1, .ref k2, .ref k3, .ref k4, .ref k5, .int (nI n), .int (nI dy), .int (nI ch), .int (nI lw)])), (k5, aI cs 20 (tx_bf bo))]) (cw1 := []) ⟨hx, hb, hml, hown, hts⟩ (c_X4_isBoundElse l D cs _ h k0 k1 k2 k3 k4 k5 n dy ch lw bo i1 i2 (by first | assumption | omega) (by first | assumption | omega) (by first | assumption | omega)) (cwV 2 hts gX5_does_X4_isBoundElse rfl rfl rfl (by decide +kernel) ⟨Nat.le_of_ble_eq_true rfl, Nat.le_of_ble_eq_true rfl⟩) hK hP hD hS hA (((hR hS).app hP).sub [1, 2] rfl) (dt_of hN [1, 2] (by decide) rfl) [] rfl 0 rfl rfl rfl hl.1 rfl (Nat.le_of_ble_eq_true rfl) dX5_does_34 ⟨Nat.le_of_ble_eq_true rfl, Nat.le_of_ble_eq_true rfl⟩ (fun _ => rfl) (fun _ => rfl) (fun r_7 u9 H locs hw_8 hP hD hS => ?_)
      have hP : va_P D vwCl [(k4, aI cs 20 (tx_nf td)), (r0, aI cs 7 (tx_nf rf))] H := hP
      have hD : va_D A [(k4, aI cs 20 (tx_nf td)), (r0, aI cs 7 (tx_nf rf))] := hD
      subst r_7
      refine bb_eq (b := tx_be bo i1 i2) (tgt := 47) hx hb rfl dX5_does_37 (by decide) (fun c37 => ?_) (fun c37 => ?_)
      · refine lv_aload_n hx hb dX5_does_47 rfl (lv_at hl 0 rfl) ?_
        refine va_get (D := D) (ci := 5) (v := .ref h) (C := RX5) (T := TX5) (N := 10) hx hb hts in_X5 hown hK (hR hS) 0 rfl rfl 0 (by decide) hf_10 (fun _ h9 => h9) rfl dX5_does_48 ?_
        refine va_get (D := D) (ci := 4) (v := .ref k4) (C := RX4) (T := TX4) (N := 10) hx hb hts in_X4 hown hK (hR hS) 1 rfl rfl 4 (by decide) hf_100 (fun _ h9 => h9) rfl dX5_does_51 ?_
        refine lv_iload_n hx hb dX5_does_54 rfl (lv_at hl 1 rfl) ?_
        refine ia_n (f := tx_nf td) hx hb hK hP 0 0 rfl rfl (j := i1) rfl (by omega) (by decide) dX5_does_55 ?_
        refine tp_i (y := nI (td i1)) rfl ?_
        refine lv_istore_n (lv' := [(3, .int (nI (td i1))), (0, .ref xo), (1, .int (nI i1)), (2, .int (nI i2))]) hx hb dX5_does_56 rfl hl (by decide) rfl (fun ls hl => ?_)
        refine lv_aload_n hx hb dX5_does_57 rfl (lv_at hl 1 rfl) ?_
        refine va_get (D := D) (ci := 5) (v := .ref h) (C := RX5) (T := TX5) (N := 10) hx hb hts in_X5 hown hK (hR hS) 0 rfl rfl 0 (by decide) hf_10 (fun _ h9 => h9) rfl dX5_does_58 ?_
        refine va_get (D := D) (ci := 4) (v := .ref k4) (C := RX4) (T := TX4) (N := 10) hx hb hts in_X4 hown hK (hR hS) 1 rfl rfl 4 (by decide) hf_100 (fun _ h9 => h9) rfl dX5_does_61 ?_
        refine lv_iload_n hx hb dX5_does_64 rfl (lv_at hl 2 rfl) ?_
        refine lv_iload_n hx hb dX5_does_65 rfl (lv_at hl 3 rfl) ?_
        refine is_n (f := tx_nf td) hx hb hK hP hD hS 0 0 rfl rfl (j := i1) rfl (by omega) (by decide) dX5_does_66 (fun H locs hP hD hS => ?_)
        rw [show upd (tx_nf td) i1 (nI i2) = tx_nf (va_up td i1 i2) from nf_up _ _ _] at hP hD
        have hP : va_P D vwCl [(k4, aI cs 20 (tx_nf (va_up td i1 i2))), (r0, aI cs 7 (tx_nf rf))] H := hP
        have hD : va_D A [(k4, aI cs 20 (tx_nf (va_up td i1 i2))), (r0, aI cs 7 (tx_nf rf))] := hD
        refine lv_iload_n hx hb dX5_does_67 rfl (lv_at hl 0 rfl) ?_
        have hQ : tx_q_does n dy bo (nI i1) (nI i2) = 0 := by simp [tx_q_does, c8, c19, c37, hii1, hii2]
        have e9 : tx_rf rf (tx_q_does n dy bo (nI i1) (nI i2)) = rf := by rw [hQ] <;> rfl
        have hP : va_P D vwCl [(k4, aI cs 20 (tx_nf (tx_if (tx_q_does n dy bo (nI i1) (nI i2)) (va_up td (tx_ix (nI i1)) (tx_ix (nI i2))) td))), (r0, aI cs 7 (tx_nf (tx_rf rf (tx_q_does n dy bo (nI i1) (nI i2)))))] H := by rw [e9]; (try simp only [hQ]); (try rw [hii1, hii2]); exact hP
        have hD : va_D A [(k4, aI cs 20 (tx_nf (tx_if (tx_q_does n dy bo (nI i1) (nI i2)) (va_up td (tx_ix (nI i1)) (tx_ix (nI i2))) td))), (r0, aI cs 7 (tx_nf (tx_rf rf (tx_q_does n dy bo (nI i1) (nI i2)))))] := by rw [e9]; (try simp only [hQ]); (try rw [hii1, hii2]); exact hD
        exact rt_i hx hb hr hlocks () (by rw [hQ] <;> (first | (rw [hii1]; rfl) | rfl)) hP hD hS dX5_does_68
      · refine lv_aload_n hx hb dX5_does_40 rfl (lv_at hl 0 rfl) ?_
        refine lv_bipush (v := (-3)) hx hb dX5_does_41 (by decide) ?_
        refine cV_i (As := [.int (-3)]) (rest := []) (cr := [(xo, .inr (5, [.ref h, .ref hk, .int (bI im), .ref tx, .ref g, .ref pn, .ref cn, .ref s0, .int (nI ss), .ref r0]))]) (cw1 := [(r0, aI cs 7 (tx_nf rf))]) ⟨hx, hb, hml, hown, hts⟩ (c_X5_refuse l D cs _ xo hk im tx pn cn s0 ss r0 h g rf (-3) 3 (by decide) (by decide) (by decide)) (cwV 1 hts gX5_does_X5_refuse rfl rfl rfl (by decide +kernel) ⟨Nat.le_of_ble_eq_true rfl, Nat.le_of_ble_eq_true rfl⟩) hK hP hD hS hA (((hR hS).app hP).sub [0, 4] rfl) (dt_of hN [0, 4] (by decide) rfl) [1] rfl 0 rfl rfl rfl hl.1 rfl (Nat.le_of_ble_eq_true rfl) dX5_does_43 ⟨Nat.le_of_ble_eq_true rfl, Nat.le_of_ble_eq_true rfl⟩ (fun _ => rfl) (fun _ => rfl) (fun r_9 u9 H locs hw_10 hP hD hS => ?_)
        have hP : va_P D vwCl [(k4, aI cs 20 (tx_nf td)), (r0, aI cs 7 (tx_nf (tx_rf rf 3)))] H := hP
        have hD : va_D A [(k4, aI cs 20 (tx_nf td)), (r0, aI cs 7 (tx_nf (tx_rf rf 3)))] := hD
        subst r_9
        have hQ : tx_q_does n dy bo (nI i1) (nI i2) = 3 := by simp [tx_q_does, c8, c19, c37, hii1, hii2]
        have e9 : tx_rf rf (tx_q_does n dy bo (nI i1) (nI i2)) = tx_rf rf 3 := by rw [hQ] <;> rfl
        have hP : va_P D vwCl [(k4, aI cs 20 (tx_nf (tx_if (tx_q_does n dy bo (nI i1) (nI i2)) (va_up td (tx_ix (nI i1)) (tx_ix (nI i2))) td))), (r0, aI cs 7 (tx_nf (tx_rf rf (tx_q_does n dy bo (nI i1) (nI i2)))))] H := by rw [e9]; (try simp only [hQ]); (try rw [hii1, hii2]); exact hP
        have hD : va_D A [(k4, aI cs 20 (tx_nf (tx_if (tx_q_does n dy bo (nI i1) (nI i2)) (va_up td (tx_ix (nI i1)) (tx_ix (nI i2))) td))), (r0, aI cs 7 (tx_nf (tx_rf rf (tx_q_does n dy bo (nI i1) (nI i2)))))] := by rw [e9]; (try simp only [hQ]); (try rw [hii1, hii2]); exact hD
        exact rt_i hx hb hr hlocks () (by rw [hQ] <;> (first | done | rfl)) hP hD hS dX5_does_46
    · refine lv_aload_n hx hb dX5_does_22 rfl (lv_at hl 0 rfl) ?_
      refine lv_iconst (v := (-1)) hx hb dX5_does_23 (by decide) ?_
      refine cV_i (As := [.int (-1)]) (rest := []) (cr := [(xo, .inr (5, [.ref h, .ref hk, .int (bI im), .ref tx, .ref g, .ref pn, .ref cn, .ref s0, .int (nI ss), .ref r0]))]) (cw1 := [(r0, aI cs 7 (tx_nf rf))]) ⟨hx, hb, hml, hown, hts⟩ (c_X5_refuse l D cs _ xo hk im tx pn cn s0 ss r0 h g rf (-1) 1 (by decide) (by decide) (by decide)) (cwV 1 hts gX5_does_X5_refuse rfl rfl rfl (by decide +kernel) ⟨Nat.le_of_ble_eq_true rfl, Nat.le_of_ble_eq_true rfl⟩) hK hP hD hS hA (((hR hS).app hP).sub [0, 4] rfl) (dt_of hN [0, 4] (by decide) rfl) [1] rfl 0 rfl rfl rfl hl.1 rfl (Nat.le_of_ble_eq_true rfl) dX5_does_24 ⟨Nat.le_of_ble_eq_true rfl, Nat.le_of_ble_eq_true rfl⟩ (fun _ => rfl) (fun _ => rfl) (fun r_11 u9 H locs hw_12 hP hD hS => ?_)
      have hP : va_P D vwCl [(k4, aI cs 20 (tx_nf td)), (r0, aI cs 7 (tx_nf (tx_rf rf 1)))] H := hP
      have hD : va_D A [(k4, aI cs 20 (tx_nf td)), (r0, aI cs 7 (tx_nf (tx_rf rf 1)))] := hD
      subst r_11
      have hQ : tx_q_does n dy bo d t = 1 := by simp [tx_q_does, c8, c19]
      have e9 : tx_rf rf (tx_q_does n dy bo d t) = tx_rf rf 1 := by rw [hQ] <;> rfl
      have hP : va_P D vwCl [(k4, aI cs 20 (tx_nf (tx_if (tx_q_does n dy bo d t) (va_up td (tx_ix d) (tx_ix t)) td))), (r0, aI cs 7 (tx_nf (tx_rf rf (tx_q_does n dy bo d t))))] H := by rw [e9]; (try simp only [hQ]); (try rw [hii1, hii2]); exact hP
      have hD : va_D A [(k4, aI cs 20 (tx_nf (tx_if (tx_q_does n dy bo d t) (va_up td (tx_ix d) (tx_ix t)) td))), (r0, aI cs 7 (tx_nf (tx_rf rf (tx_q_does n dy bo d t))))] := by rw [e9]; (try simp only [hQ]); (try rw [hii1, hii2]); exact hD
      exact rt_i hx hb hr hlocks () (by rw [hQ] <;> (first | done | rfl)) hP hD hS dX5_does_27
set_option maxHeartbeats 4000000 in
set_option maxRecDepth 100000 in
theorem c_X6_does (l : Launch) (D : va_G) (cs : Nat → ClassId) (sz : Nat) (o : Nat) (o1 : Nat) (o2 : Nat) (o3 : Nat) (o4 : Nat) (o5 : Nat) (o6 : Nat) (o7 : Nat) (o8 : Nat) (o9 : Nat) (o10 : Nat) (o11 : Nat) (o12 : Nat) (o13 : Nat) (o14 : Nat) (o15 : Nat) (n : Nat) (dy : Nat) (ch : Nat) (lw : Nat) (tz : Nat) (at9 : Nat) (va9 : Nat) (ss : Nat) (im : Bool) (td : Nat → Nat) (bo : Nat → Option Nat) (rf : Nat → Nat) (d : Int32) (t : Int32) (hn : n ≤ 4) (hdy : dy ≤ 20) (hbo : tx_okb bo) : mI (S := Unit) l yX6_does wsX6_does ({ frames := 2, cells := 0, slots := 0, locals := 43 } : Room) D (tyc cs) sz [.ref o, .int d, .int t] [(o, .inr (6, [.int (nI n), .ref o1, .ref o2, .ref o3, .ref o4, .int (nI dy), .ref o5, .ref o6, .int (nI ch), .int (nI lw), .int (nI tz), .ref o7, .int (nI at9), .int (nI va9), .int (nI ss), .ref o8, .ref o9, .int (bI im), .ref o10, .ref o11, .ref o12, .ref o13, .ref o14, .ref o15])), (o6, aI cs 21 (tx_bf bo))] [(o5, aI cs 21 (tx_nf td)), (o9, aI cs 7 (tx_nf rf))] (fun (r : Int32) (u : Unit) => r = tx_ai (tx_q_does n dy bo d t) (nI (td (tx_ix d)))) (fun _ => [(o5, aI cs 21 (tx_nf (tx_if (tx_q_does n dy bo d t) (va_up td (tx_ix d) (tx_ix t)) td))), (o9, aI cs 7 (tx_nf (tx_rf rf (tx_q_does n dy bo d t))))]) 0 0 := by
  unfold mI
  refine Met.ofW (cc := cX6_does) (maxL := 4) (ret := (some .int)) (by decide) rfl ?_
  intro p e s m args below meth c s₁ B hml hv
  obtain ⟨rfl, hsz, hP, hK, hD0⟩ := hv
  have hx := B.exec
  have hb := B.bytes
  have hr := B.returns
  have hts := atoms_spec (ws := wsX6_does) B.pre
  have hown : s.vm.findClass RX6 = some m.cls := findClass_of_methodNamed B.named
  have hlocks := B.notSynchronized
  subst hsz
  have hR := @en_R _ _ _ [(o, .inr (6, [.int (nI n), .ref o1, .ref o2, .ref o3, .ref o4, .int (nI dy), .ref o5, .ref o6, .int (nI ch), .int (nI lw), .int (nI tz), .ref o7, .int (nI at9), .int (nI va9), .int (nI ss), .ref o8, .ref o9, .int (bI im), .ref o10, .ref o11, .ref o12, .ref o13, .ref o14, .ref o15])), (o6, aI cs 21 (tx_bf bo))] [(o5, aI cs 21 (tx_nf td)), (o9, aI cs 7 (tx_nf rf))] _ hP hD0
  have hN := adN_of hD0
  have hD := en_D (wr := [(o, .inr (6, [.int (nI n), .ref o1, .ref o2, .ref o3, .ref o4, .int (nI dy), .ref o5, .ref o6, .int (nI ch), .int (nI lw), .int (nI tz), .ref o7, .int (nI at9), .int (nI va9), .int (nI ss), .ref o8, .ref o9, .int (bI im), .ref o10, .ref o11, .ref o12, .ref o13, .ref o14, .ref o15])), (o6, aI cs 21 (tx_bf bo))]) (ww := [(o5, aI cs 21 (tx_nf td)), (o9, aI cs 7 (tx_nf rf))]) (sz := s.heap.size) hD0
  have hP := en_P (wr := [(o, .inr (6, [.int (nI n), .ref o1, .ref o2, .ref o3, .ref o4, .int (nI dy), .ref o5, .ref o6, .int (nI ch), .int (nI lw), .int (nI tz), .ref o7, .int (nI at9), .int (nI va9), .int (nI ss), .ref o8, .ref o9, .int (bI im), .ref o10, .ref o11, .ref o12, .ref o13, .ref o14, .ref o15])), (o6, aI cs 21 (tx_bf bo))]) (ww := [(o5, aI cs 21 (tx_nf td)), (o9, aI cs 7 (tx_nf rf))]) hP
  generalize hAe : va_A [(o5, aI cs 21 (tx_nf td)), (o9, aI cs 7 (tx_nf rf))] s.heap.size = A at hD hR ⊢
  have hA : ∀ q : Nat, s.heap.size ≤ q → A q := fun q h => by rw [← hAe]; exact Or.inr h
  have hS : va_S A s.heap s.heap [] := va_S.rf
  have hN : adN [o, o6, o5, o9] := hN
  have hf_22 := hts (.fieldLink RX6 22 "TaxedByLongestModel" "done" "[I") (by decide +kernel)
  have hf_25 := hts (.fieldLink RX6 25 "TaxedByLongestModel" "bound" "[I") (by decide +kernel)
  have in_X6 : ∀ w ∈ wsX60, w ∈ wsX6_does := by decide +kernel
  have hl := lv_entry ([.ref o, .int d, .int t]) (n := 4) (Nat.le_of_ble_eq_true rfl)
  rw [lg_entry_eq]
  generalize (lg_sl ([.ref o, .int d, .int t]) ++ List.replicate (4 - (lg_sl ([.ref o, .int d, .int t])).length) Slot.unset).toArray = ls at hl ⊢
  have hl : lv_has ls 4 [(0, .ref o), (1, .int d), (2, .int t)] := hl
  refine lv_aload_n hx hb dX6_does_0 rfl (lv_at hl 0 rfl) ?_
  refine lv_iload_n hx hb dX6_does_1 rfl (lv_at hl 1 rfl) ?_
  refine cV_i (As := [.int d]) (rest := []) (cr := [(o, .inr (6, [.int (nI n), .ref o1, .ref o2, .ref o3, .ref o4, .int (nI dy), .ref o5, .ref o6, .int (nI ch), .int (nI lw), .int (nI tz), .ref o7, .int (nI at9), .int (nI va9), .int (nI ss), .ref o8, .ref o9, .int (bI im), .ref o10, .ref o11, .ref o12, .ref o13, .ref o14, .ref o15]))]) (cw1 := []) ⟨hx, hb, hml, hown, hts⟩ (c_X6_isDay l D cs _ o o1 o2 o3 o4 o5 o6 o7 o8 o9 o10 o11 o12 o13 o14 o15 n dy ch lw tz at9 va9 ss im d (by first | assumption | omega)) (cwV 1 hts gX6_does_X6_isDay rfl rfl rfl (by decide +kernel) ⟨Nat.le_of_ble_eq_true rfl, Nat.le_of_ble_eq_true rfl⟩) hK hP hD hS hA (((hR hS).app hP).sub [0] rfl) (dt_of hN [0] (by decide) rfl) [] rfl 0 rfl rfl rfl hl.1 rfl (Nat.le_of_ble_eq_true rfl) dX6_does_2 ⟨Nat.le_of_ble_eq_true rfl, Nat.le_of_ble_eq_true rfl⟩ (fun _ => rfl) (fun _ => rfl) (fun r_1 u9 H locs hw_2 hP hD hS => ?_)
  have hP : va_P D vwCl [(o5, aI cs 21 (tx_nf td)), (o9, aI cs 7 (tx_nf rf))] H := hP
  have hD : va_D A [(o5, aI cs 21 (tx_nf td)), (o9, aI cs 7 (tx_nf rf))] := hD
  subst r_1
  refine bb_eq (b := tx_has dy d) (tgt := 16) hx hb rfl dX6_does_5 (by decide) (fun c5 => ?_) (fun c5 => ?_)
  · refine lv_aload_n hx hb dX6_does_16 rfl (lv_at hl 0 rfl) ?_
    refine lv_iconst (v := (-1)) hx hb dX6_does_17 (by decide) ?_
    refine cV_i (As := [.int (-1)]) (rest := []) (cr := [(o, .inr (6, [.int (nI n), .ref o1, .ref o2, .ref o3, .ref o4, .int (nI dy), .ref o5, .ref o6, .int (nI ch), .int (nI lw), .int (nI tz), .ref o7, .int (nI at9), .int (nI va9), .int (nI ss), .ref o8, .ref o9, .int (bI im), .ref o10, .ref o11, .ref o12, .ref o13, .ref o14, .ref o15]))]) (cw1 := [(o9, aI cs 7 (tx_nf rf))]) ⟨hx, hb, hml, hown, hts⟩ (c_X6_no l D cs _ o o1 o2 o3 o4 o5 o6 o7 o8 o9 o10 o11 o12 o13 o14 o15 n dy ch lw tz at9 va9 ss im rf (-1) 1 (by decide) (by decide) (by decide)) (cwV 1 hts gX6_does_X6_no rfl rfl rfl (by decide +kernel) ⟨Nat.le_of_ble_eq_true rfl, Nat.le_of_ble_eq_true rfl⟩) hK hP hD hS hA (((hR hS).app hP).sub [0, 3] rfl) (dt_of hN [0, 3] (by decide) rfl) [1] rfl 0 rfl rfl rfl hl.1 rfl (Nat.le_of_ble_eq_true rfl) dX6_does_18 ⟨Nat.le_of_ble_eq_true rfl, Nat.le_of_ble_eq_true rfl⟩ (fun _ => rfl) (fun _ => rfl) (fun r_3 u9 H locs hw_4 hP hD hS => ?_)
    have hP : va_P D vwCl [(o5, aI cs 21 (tx_nf td)), (o9, aI cs 7 (tx_nf (tx_rf rf 1)))] H := hP
    have hD : va_D A [(o5, aI cs 21 (tx_nf td)), (o9, aI cs 7 (tx_nf (tx_rf rf 1)))] := hD
    subst r_3
    have hQ : tx_q_does n dy bo d t = 1 := by simp [tx_q_does, c5]
    have e9 : tx_rf rf (tx_q_does n dy bo d t) = tx_rf rf 1 := by rw [hQ] <;> rfl
    have hP : va_P D vwCl [(o5, aI cs 21 (tx_nf (tx_if (tx_q_does n dy bo d t) (va_up td (tx_ix d) (tx_ix t)) td))), (o9, aI cs 7 (tx_nf (tx_rf rf (tx_q_does n dy bo d t))))] H := by rw [e9]; (try simp only [hQ]); (try rw [hii1, hii2]); exact hP
    have hD : va_D A [(o5, aI cs 21 (tx_nf (tx_if (tx_q_does n dy bo d t) (va_up td (tx_ix d) (tx_ix t)) td))), (o9, aI cs 7 (tx_nf (tx_rf rf (tx_q_does n dy bo d t))))] := by rw [e9]; (try simp only [hQ]); (try rw [hii1, hii2]); exact hD
    exact rt_i hx hb hr hlocks () (by rw [hQ] <;> (first | done | rfl)) hP hD hS dX6_does_21
  · refine lv_aload_n hx hb dX6_does_8 rfl (lv_at hl 0 rfl) ?_
    refine lv_iload_n hx hb dX6_does_9 rfl (lv_at hl 2 rfl) ?_
    refine cV_i (As := [.int t]) (rest := []) (cr := [(o, .inr (6, [.int (nI n), .ref o1, .ref o2, .ref o3, .ref o4, .int (nI dy), .ref o5, .ref o6, .int (nI ch), .int (nI lw), .int (nI tz), .ref o7, .int (nI at9), .int (nI va9), .int (nI ss), .ref o8, .ref o9, .int (bI im), .ref o10, .ref o11, .ref o12, .ref o13, .ref o14, .ref o15]))]) (cw1 := []) ⟨hx, hb, hml, hown, hts⟩ (c_X6_isThing l D cs _ o o1 o2 o3 o4 o5 o6 o7 o8 o9 o10 o11 o12 o13 o14 o15 n dy ch lw tz at9 va9 ss im t (by first | assumption | omega)) (cwV 1 hts gX6_does_X6_isThing rfl rfl rfl (by decide +kernel) ⟨Nat.le_of_ble_eq_true rfl, Nat.le_of_ble_eq_true rfl⟩) hK hP hD hS hA (((hR hS).app hP).sub [0] rfl) (dt_of hN [0] (by decide) rfl) [] rfl 0 rfl rfl rfl hl.1 rfl (Nat.le_of_ble_eq_true rfl) dX6_does_10 ⟨Nat.le_of_ble_eq_true rfl, Nat.le_of_ble_eq_true rfl⟩ (fun _ => rfl) (fun _ => rfl) (fun r_5 u9 H locs hw_6 hP hD hS => ?_)
    have hP : va_P D vwCl [(o5, aI cs 21 (tx_nf td)), (o9, aI cs 7 (tx_nf rf))] H := hP
    have hD : va_D A [(o5, aI cs 21 (tx_nf td)), (o9, aI cs 7 (tx_nf rf))] := hD
    subst r_5
    refine bb_ne (b := tx_has n t) (tgt := 22) hx hb rfl dX6_does_13 (by decide) (fun c13 => ?_) (fun c13 => ?_)
    · obtain ⟨i1, h1, rfl⟩ := tx_has_t (by omega) c5
      have hii1 : tx_ix (nI i1) = i1 := tx_ix_n (by omega)
      obtain ⟨i2, h2, rfl⟩ := tx_has_t (by omega) c13
      have hii2 : tx_ix (nI i2) = i2 := tx_ix_n (by omega)
      refine lv_aload_n hx hb dX6_does_22 rfl (lv_at hl 0 rfl) ?_
      refine va_get (D := D) (ci := 6) (v := .ref o6) (C := RX6) (T := TX6) (N := 24) hx hb hts in_X6 hown hK (hR hS) 0 rfl rfl 7 (by decide) hf_25 (fun _ h9 => h9) rfl dX6_does_23 ?_
      refine lv_iload_n hx hb dX6_does_26 rfl (lv_at hl 1 rfl) ?_
      refine ia_n (f := tx_bf bo) hx hb hK (hR hS) 1 0 rfl rfl (j := i1) rfl (by omega) (by decide) dX6_does_27 ?_
      refine lv_bipush (v := (-9)) hx hb dX6_does_28 (by decide) ?_
      refine lv_icmp_eq (tgt := 50) hx hb dX6_does_30 (by decide) (fun c30 => ?_) (fun c30 => ?_)
      · have hbe : tx_be bo i1 i2 = false := by unfold tx_be; rw [(tx_bf_N hbo i1).mp c30]
        refine lv_aload_n hx hb dX6_does_50 rfl (lv_at hl 0 rfl) ?_
        refine va_get (D := D) (ci := 6) (v := .ref o5) (C := RX6) (T := TX6) (N := 24) hx hb hts in_X6 hown hK (hR hS) 0 rfl rfl 6 (by decide) hf_22 (fun _ h9 => h9) rfl dX6_does_51 ?_
        refine lv_iload_n hx hb dX6_does_54 rfl (lv_at hl 1 rfl) ?_
        refine ia_n (f := tx_nf td) hx hb hK hP 0 0 rfl rfl (j := i1) rfl (by omega) (by decide) dX6_does_55 ?_
        refine tp_i (y := nI (td i1)) rfl ?_
        refine lv_istore_n (lv' := [(3, .int (nI (td i1))), (0, .ref o), (1, .int (nI i1)), (2, .int (nI i2))]) hx hb dX6_does_56 rfl hl (by decide) rfl (fun ls hl => ?_)
        refine lv_aload_n hx hb dX6_does_57 rfl (lv_at hl 1 rfl) ?_
        refine va_get (D := D) (ci := 6) (v := .ref o5) (C := RX6) (T := TX6) (N := 24) hx hb hts in_X6 hown hK (hR hS) 0 rfl rfl 6 (by decide) hf_22 (fun _ h9 => h9) rfl dX6_does_58 ?_
        refine lv_iload_n hx hb dX6_does_61 rfl (lv_at hl 2 rfl) ?_
        refine lv_iload_n hx hb dX6_does_62 rfl (lv_at hl 3 rfl) ?_
        refine is_n (f := tx_nf td) hx hb hK hP hD hS 0 0 rfl rfl (j := i1) rfl (by omega) (by decide) dX6_does_63 (fun H locs hP hD hS => ?_)
        rw [show upd (tx_nf td) i1 (nI i2) = tx_nf (va_up td i1 i2) from nf_up _ _ _] at hP hD
        have hP : va_P D vwCl [(o5, aI cs 21 (tx_nf (va_up td i1 i2))), (o9, aI cs 7 (tx_nf rf))] H := hP
        have hD : va_D A [(o5, aI cs 21 (tx_nf (va_up td i1 i2))), (o9, aI cs 7 (tx_nf rf))] := hD
        refine lv_iload_n hx hb dX6_does_64 rfl (lv_at hl 0 rfl) ?_
        have hQ : tx_q_does n dy bo (nI i1) (nI i2) = 0 := by simp [tx_q_does, c5, c13, c30, hii1, hii2, hbe]
        have e9 : tx_rf rf (tx_q_does n dy bo (nI i1) (nI i2)) = rf := by rw [hQ] <;> rfl
        have hP : va_P D vwCl [(o5, aI cs 21 (tx_nf (tx_if (tx_q_does n dy bo (nI i1) (nI i2)) (va_up td (tx_ix (nI i1)) (tx_ix (nI i2))) td))), (o9, aI cs 7 (tx_nf (tx_rf rf (tx_q_does n dy bo (nI i1) (nI i2)))))] H := by rw [e9]; (try simp only [hQ]); (try rw [hii1, hii2]); exact hP
        have hD : va_D A [(o5, aI cs 21 (tx_nf (tx_if (tx_q_does n dy bo (nI i1) (nI i2)) (va_up td (tx_ix (nI i1)) (tx_ix (nI i2))) td))), (o9, aI cs 7 (tx_nf (tx_rf rf (tx_q_does n dy bo (nI i1) (nI i2)))))] := by rw [e9]; (try simp only [hQ]); (try rw [hii1, hii2]); exact hD
        exact rt_i hx hb hr hlocks () (by rw [hQ] <;> (first | (rw [hii1]; rfl) | rfl)) hP hD hS dX6_does_65
      · refine lv_aload_n hx hb dX6_does_33 rfl (lv_at hl 0 rfl) ?_
        refine va_get (D := D) (ci := 6) (v := .ref o6) (C := RX6) (T := TX6) (N := 24) hx hb hts in_X6 hown hK (hR hS) 0 rfl rfl 7 (by decide) hf_25 (fun _ h9 => h9) rfl dX6_does_34 ?_
        refine lv_iload_n hx hb dX6_does_37 rfl (lv_at hl 1 rfl) ?_
        refine ia_n (f := tx_bf bo) hx hb hK (hR hS) 1 0 rfl rfl (j := i1) rfl (by omega) (by decide) dX6_does_38 ?_
        refine lv_iload_n hx hb dX6_does_39 rfl (lv_at hl 2 rfl) ?_
        refine lv_icmp_eq (tgt := 50) hx hb dX6_does_40 (by decide) (fun c40 => ?_) (fun c40 => ?_)
        · have hbe : tx_be bo i1 i2 = false := by unfold tx_be; rw [(tx_bf_T hbo i1 (by omega)).mp c40]; simp
          refine lv_aload_n hx hb dX6_does_50 rfl (lv_at hl 0 rfl) ?_
          refine va_get (D := D) (ci := 6) (v := .ref o5) (C := RX6) (T := TX6) (N := 24) hx hb hts in_X6 hown hK (hR hS) 0 rfl rfl 6 (by decide) hf_22 (fun _ h9 => h9) rfl dX6_does_51 ?_
          refine lv_iload_n hx hb dX6_does_54 rfl (lv_at hl 1 rfl) ?_
          refine ia_n (f := tx_nf td) hx hb hK hP 0 0 rfl rfl (j := i1) rfl (by omega) (by decide) dX6_does_55 ?_
          refine tp_i (y := nI (td i1)) rfl ?_
          refine lv_istore_n (lv' := [(3, .int (nI (td i1))), (0, .ref o), (1, .int (nI i1)), (2, .int (nI i2))]) hx hb dX6_does_56 rfl hl (by decide) rfl (fun ls hl => ?_)
          refine lv_aload_n hx hb dX6_does_57 rfl (lv_at hl 1 rfl) ?_
          refine va_get (D := D) (ci := 6) (v := .ref o5) (C := RX6) (T := TX6) (N := 24) hx hb hts in_X6 hown hK (hR hS) 0 rfl rfl 6 (by decide) hf_22 (fun _ h9 => h9) rfl dX6_does_58 ?_
          refine lv_iload_n hx hb dX6_does_61 rfl (lv_at hl 2 rfl) ?_
          refine lv_iload_n hx hb dX6_does_62 rfl (lv_at hl 3 rfl) ?_
          refine is_n (f := tx_nf td) hx hb hK hP hD hS 0 0 rfl rfl (j := i1) rfl (by omega) (by decide) dX6_does_63 (fun H locs hP hD hS => ?_)
          rw [show upd (tx_nf td) i1 (nI i2) = tx_nf (va_up td i1 i2) from nf_up _ _ _] at hP hD
          have hP : va_P D vwCl [(o5, aI cs 21 (tx_nf (va_up td i1 i2))), (o9, aI cs 7 (tx_nf rf))] H := hP
          have hD : va_D A [(o5, aI cs 21 (tx_nf (va_up td i1 i2))), (o9, aI cs 7 (tx_nf rf))] := hD
          refine lv_iload_n hx hb dX6_does_64 rfl (lv_at hl 0 rfl) ?_
          have hQ : tx_q_does n dy bo (nI i1) (nI i2) = 0 := by simp [tx_q_does, c5, c13, c30, c40, hii1, hii2, hbe]
          have e9 : tx_rf rf (tx_q_does n dy bo (nI i1) (nI i2)) = rf := by rw [hQ] <;> rfl
          have hP : va_P D vwCl [(o5, aI cs 21 (tx_nf (tx_if (tx_q_does n dy bo (nI i1) (nI i2)) (va_up td (tx_ix (nI i1)) (tx_ix (nI i2))) td))), (o9, aI cs 7 (tx_nf (tx_rf rf (tx_q_does n dy bo (nI i1) (nI i2)))))] H := by rw [e9]; (try simp only [hQ]); (try rw [hii1, hii2]); exact hP
          have hD : va_D A [(o5, aI cs 21 (tx_nf (tx_if (tx_q_does n dy bo (nI i1) (nI i2)) (va_up td (tx_ix (nI i1)) (tx_ix (nI i2))) td))), (o9, aI cs 7 (tx_nf (tx_rf rf (tx_q_does n dy bo (nI i1) (nI i2)))))] := by rw [e9]; (try simp only [hQ]); (try rw [hii1, hii2]); exact hD
          exact rt_i hx hb hr hlocks () (by rw [hQ] <;> (first | (rw [hii1]; rfl) | rfl)) hP hD hS dX6_does_65
        · have hbe : tx_be bo i1 i2 = true := tx_be_eq.mpr (by cases q : bo i1 with | none => exact absurd ((tx_bf_N hbo i1).mpr q) c30 | some u => exact ⟨u, rfl, fun e => c40 ((tx_bf_T hbo i1 (by omega)).mpr (by rw [q, e]))⟩)
          refine lv_aload_n hx hb dX6_does_43 rfl (lv_at hl 0 rfl) ?_
          refine lv_bipush (v := (-3)) hx hb dX6_does_44 (by decide) ?_
          refine cV_i (As := [.int (-3)]) (rest := []) (cr := [(o, .inr (6, [.int (nI n), .ref o1, .ref o2, .ref o3, .ref o4, .int (nI dy), .ref o5, .ref o6, .int (nI ch), .int (nI lw), .int (nI tz), .ref o7, .int (nI at9), .int (nI va9), .int (nI ss), .ref o8, .ref o9, .int (bI im), .ref o10, .ref o11, .ref o12, .ref o13, .ref o14, .ref o15]))]) (cw1 := [(o9, aI cs 7 (tx_nf rf))]) ⟨hx, hb, hml, hown, hts⟩ (c_X6_no l D cs _ o o1 o2 o3 o4 o5 o6 o7 o8 o9 o10 o11 o12 o13 o14 o15 n dy ch lw tz at9 va9 ss im rf (-3) 3 (by decide) (by decide) (by decide)) (cwV 1 hts gX6_does_X6_no rfl rfl rfl (by decide +kernel) ⟨Nat.le_of_ble_eq_true rfl, Nat.le_of_ble_eq_true rfl⟩) hK hP hD hS hA (((hR hS).app hP).sub [0, 3] rfl) (dt_of hN [0, 3] (by decide) rfl) [1] rfl 0 rfl rfl rfl hl.1 rfl (Nat.le_of_ble_eq_true rfl) dX6_does_46 ⟨Nat.le_of_ble_eq_true rfl, Nat.le_of_ble_eq_true rfl⟩ (fun _ => rfl) (fun _ => rfl) (fun r_7 u9 H locs hw_8 hP hD hS => ?_)
          have hP : va_P D vwCl [(o5, aI cs 21 (tx_nf td)), (o9, aI cs 7 (tx_nf (tx_rf rf 3)))] H := hP
          have hD : va_D A [(o5, aI cs 21 (tx_nf td)), (o9, aI cs 7 (tx_nf (tx_rf rf 3)))] := hD
          subst r_7
          have hQ : tx_q_does n dy bo (nI i1) (nI i2) = 3 := by simp [tx_q_does, c5, c13, c30, c40, hii1, hii2, hbe]
          have e9 : tx_rf rf (tx_q_does n dy bo (nI i1) (nI i2)) = tx_rf rf 3 := by rw [hQ] <;> rfl
          have hP : va_P D vwCl [(o5, aI cs 21 (tx_nf (tx_if (tx_q_does n dy bo (nI i1) (nI i2)) (va_up td (tx_ix (nI i1)) (tx_ix (nI i2))) td))), (o9, aI cs 7 (tx_nf (tx_rf rf (tx_q_does n dy bo (nI i1) (nI i2)))))] H := by rw [e9]; (try simp only [hQ]); (try rw [hii1, hii2]); exact hP
          have hD : va_D A [(o5, aI cs 21 (tx_nf (tx_if (tx_q_does n dy bo (nI i1) (nI i2)) (va_up td (tx_ix (nI i1)) (tx_ix (nI i2))) td))), (o9, aI cs 7 (tx_nf (tx_rf rf (tx_q_does n dy bo (nI i1) (nI i2)))))] := by rw [e9]; (try simp only [hQ]); (try rw [hii1, hii2]); exact hD
          exact rt_i hx hb hr hlocks () (by rw [hQ] <;> (first | done | rfl)) hP hD hS dX6_does_49
    · refine lv_aload_n hx hb dX6_does_16 rfl (lv_at hl 0 rfl) ?_
      refine lv_iconst (v := (-1)) hx hb dX6_does_17 (by decide) ?_
      refine cV_i (As := [.int (-1)]) (rest := []) (cr := [(o, .inr (6, [.int (nI n), .ref o1, .ref o2, .ref o3, .ref o4, .int (nI dy), .ref o5, .ref o6, .int (nI ch), .int (nI lw), .int (nI tz), .ref o7, .int (nI at9), .int (nI va9), .int (nI ss), .ref o8, .ref o9, .int (bI im), .ref o10, .ref o11, .ref o12, .ref o13, .ref o14, .ref o15]))]) (cw1 := [(o9, aI cs 7 (tx_nf rf))]) ⟨hx, hb, hml, hown, hts⟩ (c_X6_no l D cs _ o o1 o2 o3 o4 o5 o6 o7 o8 o9 o10 o11 o12 o13 o14 o15 n dy ch lw tz at9 va9 ss im rf (-1) 1 (by decide) (by decide) (by decide)) (cwV 1 hts gX6_does_X6_no rfl rfl rfl (by decide +kernel) ⟨Nat.le_of_ble_eq_true rfl, Nat.le_of_ble_eq_true rfl⟩) hK hP hD hS hA (((hR hS).app hP).sub [0, 3] rfl) (dt_of hN [0, 3] (by decide) rfl) [1] rfl 0 rfl rfl rfl hl.1 rfl (Nat.le_of_ble_eq_true rfl) dX6_does_18 ⟨Nat.le_of_ble_eq_true rfl, Nat.le_of_ble_eq_true rfl⟩ (fun _ => rfl) (fun _ => rfl) (fun r_9 u9 H locs hw_10 hP hD hS => ?_)
      have hP : va_P D vwCl [(o5, aI cs 21 (tx_nf td)), (o9, aI cs 7 (tx_nf (tx_rf rf 1)))] H := hP
      have hD : va_D A [(o5, aI cs 21 (tx_nf td)), (o9, aI cs 7 (tx_nf (tx_rf rf 1)))] := hD
      subst r_9
      have hQ : tx_q_does n dy bo d t = 1 := by simp [tx_q_does, c5, c13]
      have e9 : tx_rf rf (tx_q_does n dy bo d t) = tx_rf rf 1 := by rw [hQ] <;> rfl
      have hP : va_P D vwCl [(o5, aI cs 21 (tx_nf (tx_if (tx_q_does n dy bo d t) (va_up td (tx_ix d) (tx_ix t)) td))), (o9, aI cs 7 (tx_nf (tx_rf rf (tx_q_does n dy bo d t))))] H := by rw [e9]; (try simp only [hQ]); (try rw [hii1, hii2]); exact hP
      have hD : va_D A [(o5, aI cs 21 (tx_nf (tx_if (tx_q_does n dy bo d t) (va_up td (tx_ix d) (tx_ix t)) td))), (o9, aI cs 7 (tx_nf (tx_rf rf (tx_q_does n dy bo d t))))] := by rw [e9]; (try simp only [hQ]); (try rw [hii1, hii2]); exact hD
      exact rt_i hx hb hr hlocks () (by rw [hQ] <;> (first | done | rfl)) hP hD hS dX6_does_21
