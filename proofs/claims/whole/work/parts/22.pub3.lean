set_option maxHeartbeats 4000000 in
set_option maxRecDepth 100000 in
theorem c_X5_worth (l : Launch) (D : va_G) (cs : Nat → ClassId) (sz : Nat) (xo : Nat) (hk : Nat) (im : Bool) (tx : Nat) (pn : Nat) (cn : Nat) (s0 : Nat) (ss : Nat) (r0 : Nat) (h : Nat) (k0 : Nat) (k1 : Nat) (k2 : Nat) (k3 : Nat) (k4 : Nat) (k5 : Nat) (n : Nat) (dy : Nat) (ch : Nat) (lw : Nat) (g : Nat) (kd : Nat → Nat) (wo : Nat → Nat) (ha : Nat → Nat) (we : Nat → Nat) (td : Nat → Nat) (rf : Nat → Nat) (d : Int32) (hn : n ≤ 4) (hdy : dy ≤ 20) (htd : ∀ e, td e < 4) (hkd : ∀ e, kd e ≤ 5) : mI (S := Unit) l yX5_worth wsX5_worth ({ frames := 3, cells := 0, slots := 0, locals := 68 } : Room) D (tyc cs) sz [.ref xo, .int d] [(xo, .inr (5, [.ref h, .ref hk, .int (bI im), .ref tx, .ref g, .ref pn, .ref cn, .ref s0, .int (nI ss), .ref r0])), (h, .inr (4, [.ref k0, .ref k1, .ref k2, .ref k3, .ref k4, .ref k5, .int (nI n), .int (nI dy), .int (nI ch), .int (nI lw)])), (k0, aI cs 4 (tx_nf kd)), (k1, aI cs 4 (tx_nf wo)), (k2, aI cs 4 (tx_nf ha)), (k3, aI cs 4 (tx_nf we)), (k4, aI cs 20 (tx_nf td))] [(r0, aI cs 7 (tx_nf rf))] (fun (r : Int32) (u : Unit) => r = tx_af (tx_q_worth n dy d) (iI (tx_vn n kd wo ha we (td (tx_ix d)) (tx_pl td (tx_ix d))))) (fun _ => [(r0, aI cs 7 (tx_nf (tx_rf rf (tx_q_worth n dy d))))]) 0 0 := by
  unfold mI
  refine Met.ofW (cc := cX5_worth) (maxL := 2) (ret := (some .int)) (by decide) rfl ?_
  intro p e s m args below meth c s₁ B hml hv
  obtain ⟨rfl, hsz, hP, hK, hD0⟩ := hv
  have hx := B.exec
  have hb := B.bytes
  have hr := B.returns
  have hts := atoms_spec (ws := wsX5_worth) B.pre
  have hown : s.vm.findClass RX5 = some m.cls := findClass_of_methodNamed B.named
  have hlocks := B.notSynchronized
  subst hsz
  have hR := @en_R _ _ _ [(xo, .inr (5, [.ref h, .ref hk, .int (bI im), .ref tx, .ref g, .ref pn, .ref cn, .ref s0, .int (nI ss), .ref r0])), (h, .inr (4, [.ref k0, .ref k1, .ref k2, .ref k3, .ref k4, .ref k5, .int (nI n), .int (nI dy), .int (nI ch), .int (nI lw)])), (k0, aI cs 4 (tx_nf kd)), (k1, aI cs 4 (tx_nf wo)), (k2, aI cs 4 (tx_nf ha)), (k3, aI cs 4 (tx_nf we)), (k4, aI cs 20 (tx_nf td))] [(r0, aI cs 7 (tx_nf rf))] _ hP hD0
  have hN := adN_of hD0
  have hD := en_D (wr := [(xo, .inr (5, [.ref h, .ref hk, .int (bI im), .ref tx, .ref g, .ref pn, .ref cn, .ref s0, .int (nI ss), .ref r0])), (h, .inr (4, [.ref k0, .ref k1, .ref k2, .ref k3, .ref k4, .ref k5, .int (nI n), .int (nI dy), .int (nI ch), .int (nI lw)])), (k0, aI cs 4 (tx_nf kd)), (k1, aI cs 4 (tx_nf wo)), (k2, aI cs 4 (tx_nf ha)), (k3, aI cs 4 (tx_nf we)), (k4, aI cs 20 (tx_nf td))]) (ww := [(r0, aI cs 7 (tx_nf rf))]) (sz := s.heap.size) hD0
  have hP := en_P (wr := [(xo, .inr (5, [.ref h, .ref hk, .int (bI im), .ref tx, .ref g, .ref pn, .ref cn, .ref s0, .int (nI ss), .ref r0])), (h, .inr (4, [.ref k0, .ref k1, .ref k2, .ref k3, .ref k4, .ref k5, .int (nI n), .int (nI dy), .int (nI ch), .int (nI lw)])), (k0, aI cs 4 (tx_nf kd)), (k1, aI cs 4 (tx_nf wo)), (k2, aI cs 4 (tx_nf ha)), (k3, aI cs 4 (tx_nf we)), (k4, aI cs 20 (tx_nf td))]) (ww := [(r0, aI cs 7 (tx_nf rf))]) hP
  generalize hAe : va_A [(r0, aI cs 7 (tx_nf rf))] s.heap.size = A at hD hR ⊢
  have hA : ∀ q : Nat, s.heap.size ≤ q → A q := fun q h => by rw [← hAe]; exact Or.inr h
  have hS : va_S A s.heap s.heap [] := va_S.rf
  have hN : adN [xo, h, k0, k1, k2, k3, k4, r0] := hN
  have hf_10 := hts (.fieldLink RX5 10 "TaxedByLongest" "told" "LTaxedByLongest$Told;") (by decide +kernel)
  have hf_141 := hts (.fieldLink RX5 141 "TaxedByLongest$Told" "things" "I") (by decide +kernel)
  have in_X4 : ∀ w ∈ wsX40, w ∈ wsX5_worth := by decide +kernel
  have in_X5 : ∀ w ∈ wsX50, w ∈ wsX5_worth := by decide +kernel
  have hl := lv_entry ([.ref xo, .int d]) (n := 2) (Nat.le_of_ble_eq_true rfl)
  rw [lg_entry_eq]
  generalize (lg_sl ([.ref xo, .int d]) ++ List.replicate (2 - (lg_sl ([.ref xo, .int d])).length) Slot.unset).toArray = ls at hl ⊢
  have hl : lv_has ls 2 [(0, .ref xo), (1, .int d)] := hl
  refine lv_aload_n hx hb dX5_worth_0 rfl (lv_at hl 0 rfl) ?_
  refine va_get (D := D) (ci := 5) (v := .ref h) (C := RX5) (T := TX5) (N := 10) hx hb hts in_X5 hown hK (hR hS) 0 rfl rfl 0 (by decide) hf_10 (fun _ h9 => h9) rfl dX5_worth_1 ?_
  refine lv_iload_n hx hb dX5_worth_4 rfl (lv_at hl 1 rfl) ?_
  refine cV_i (As := [.int d]) (rest := []) (cr := [(h, .inr (4, [.ref k0, .ref k1, .ref k2, .ref k3, .ref k4, .ref k5, .int (nI n), .int (nI dy), .int (nI ch), .int (nI lw)]))]) (cw1 := []) ⟨hx, hb, hml, hown, hts⟩ (c_X4_hasDay l D cs _ h k0 k1 k2 k3 k4 k5 n dy ch lw d ) (cwV 1 hts gX5_worth_X4_hasDay rfl rfl rfl (by decide +kernel) ⟨Nat.le_of_ble_eq_true rfl, Nat.le_of_ble_eq_true rfl⟩) hK hP hD hS hA (((hR hS).app hP).sub [1] rfl) (dt_of hN [1] (by decide) rfl) [] rfl 0 rfl rfl rfl hl.1 rfl (Nat.le_of_ble_eq_true rfl) dX5_worth_5 ⟨Nat.le_of_ble_eq_true rfl, Nat.le_of_ble_eq_true rfl⟩ (fun _ => rfl) (fun _ => rfl) (fun r_1 u9 H locs hw_2 hP hD hS => ?_)
  have hP : va_P D vwCl [(r0, aI cs 7 (tx_nf rf))] H := hP
  have hD : va_D A [(r0, aI cs 7 (tx_nf rf))] := hD
  subst r_1
  refine bb_ne (b := tx_has dy d) (tgt := 17) hx hb rfl dX5_worth_8 (by decide) (fun c8 => ?_) (fun c8 => ?_)
  · obtain ⟨j, hj, rfl⟩ := tx_has_t (by omega) c8
    have hij : tx_ix (nI j) = j := tx_ix_n (by omega)
    refine lv_aload_n hx hb dX5_worth_17 rfl (lv_at hl 0 rfl) ?_
    refine va_get (D := D) (ci := 5) (v := .ref h) (C := RX5) (T := TX5) (N := 10) hx hb hts in_X5 hown hK (hR hS) 0 rfl rfl 0 (by decide) hf_10 (fun _ h9 => h9) rfl dX5_worth_18 ?_
    refine va_get (D := D) (ci := 4) (v := .int (nI n)) (C := RX4) (T := TX4) (N := 10) hx hb hts in_X4 hown hK (hR hS) 1 rfl rfl 6 (by decide) hf_141 (fun _ h9 => h9) rfl dX5_worth_21 ?_
    refine bz_ne (a := n) (tgt := 34) hx hb rfl (by omega) dX5_worth_24 (by decide) (fun c24 => ?_) (fun c24 => ?_)
    · refine lv_aload_n hx hb dX5_worth_34 rfl (lv_at hl 0 rfl) ?_
      refine va_get (D := D) (ci := 5) (v := .ref h) (C := RX5) (T := TX5) (N := 10) hx hb hts in_X5 hown hK (hR hS) 0 rfl rfl 0 (by decide) hf_10 (fun _ h9 => h9) rfl dX5_worth_35 ?_
      refine lv_iload_n hx hb dX5_worth_38 rfl (lv_at hl 1 rfl) ?_
      refine cV_i (As := [.int (nI j)]) (rest := []) (cr := [(h, .inr (4, [.ref k0, .ref k1, .ref k2, .ref k3, .ref k4, .ref k5, .int (nI n), .int (nI dy), .int (nI ch), .int (nI lw)])), (k0, aI cs 4 (tx_nf kd)), (k1, aI cs 4 (tx_nf wo)), (k2, aI cs 4 (tx_nf ha)), (k3, aI cs 4 (tx_nf we)), (k4, aI cs 20 (tx_nf td))]) (cw1 := []) ⟨hx, hb, hml, hown, hts⟩ (c_X4_valueNow l D cs _ h k0 k1 k2 k3 k4 k5 n dy ch lw kd wo ha we td j (by first | assumption | omega) (by first | assumption | omega) (by first | assumption | omega) (by first | assumption | omega)) (cwV 1 hts gX5_worth_X4_valueNow rfl rfl rfl (by decide +kernel) ⟨Nat.le_of_ble_eq_true rfl, Nat.le_of_ble_eq_true rfl⟩) hK hP hD hS hA (((hR hS).app hP).sub [1, 2, 3, 4, 5, 6] rfl) (dt_of hN [1, 2, 3, 4, 5, 6] (by decide) rfl) [] rfl 0 rfl rfl rfl hl.1 rfl (Nat.le_of_ble_eq_true rfl) dX5_worth_39 ⟨Nat.le_of_ble_eq_true rfl, Nat.le_of_ble_eq_true rfl⟩ (fun _ => rfl) (fun _ => rfl) (fun r_3 u9 H locs hw_4 hP hD hS => ?_)
      have hP : va_P D vwCl [(r0, aI cs 7 (tx_nf rf))] H := hP
      have hD : va_D A [(r0, aI cs 7 (tx_nf rf))] := hD
      subst r_3
      have hQ : tx_q_worth n dy (nI j) = 0 := by simp [tx_q_worth, tx_q_n, c8, c24, Nat.pos_iff_ne_zero.mp c24]
      have e9 : tx_rf rf (tx_q_worth n dy (nI j)) = rf := by rw [hQ] <;> rfl
      have hP : va_P D vwCl [(r0, aI cs 7 (tx_nf (tx_rf rf (tx_q_worth n dy (nI j)))))] H := by rw [e9]; (try simp only [hQ]); exact hP
      have hD : va_D A [(r0, aI cs 7 (tx_nf (tx_rf rf (tx_q_worth n dy (nI j)))))] := by rw [e9]; (try simp only [hQ]); exact hD
      exact rt_i hx hb hr hlocks () (by rw [hQ] <;> (rw [hij]; rfl)) hP hD hS dX5_worth_42
    · refine lv_aload_n hx hb dX5_worth_27 rfl (lv_at hl 0 rfl) ?_
      refine lv_bipush (v := (-3)) hx hb dX5_worth_28 (by decide) ?_
      refine cV_i (As := [.int (-3)]) (rest := []) (cr := [(xo, .inr (5, [.ref h, .ref hk, .int (bI im), .ref tx, .ref g, .ref pn, .ref cn, .ref s0, .int (nI ss), .ref r0]))]) (cw1 := [(r0, aI cs 7 (tx_nf rf))]) ⟨hx, hb, hml, hown, hts⟩ (c_X5_refuseAmount l D cs _ xo hk im tx pn cn s0 ss r0 h g rf (-3) 3 (by decide) (by decide) (by decide)) (cwV 1 hts gX5_worth_X5_refuseAmount rfl rfl rfl (by decide +kernel) ⟨Nat.le_of_ble_eq_true rfl, Nat.le_of_ble_eq_true rfl⟩) hK hP hD hS hA (((hR hS).app hP).sub [0, 7] rfl) (dt_of hN [0, 7] (by decide) rfl) [0] rfl 0 rfl rfl rfl hl.1 rfl (Nat.le_of_ble_eq_true rfl) dX5_worth_30 ⟨Nat.le_of_ble_eq_true rfl, Nat.le_of_ble_eq_true rfl⟩ (fun _ => rfl) (fun _ => rfl) (fun r_5 u9 H locs hw_6 hP hD hS => ?_)
      have hP : va_P D vwCl [(r0, aI cs 7 (tx_nf (tx_rf rf 3)))] H := hP
      have hD : va_D A [(r0, aI cs 7 (tx_nf (tx_rf rf 3)))] := hD
      subst r_5
      have hQ : tx_q_worth n dy (nI j) = 3 := by simp [tx_q_worth, tx_q_n, c8, c24]
      have e9 : tx_rf rf (tx_q_worth n dy (nI j)) = tx_rf rf 3 := by rw [hQ] <;> rfl
      have hP : va_P D vwCl [(r0, aI cs 7 (tx_nf (tx_rf rf (tx_q_worth n dy (nI j)))))] H := by rw [e9]; (try simp only [hQ]); exact hP
      have hD : va_D A [(r0, aI cs 7 (tx_nf (tx_rf rf (tx_q_worth n dy (nI j)))))] := by rw [e9]; (try simp only [hQ]); exact hD
      exact rt_i hx hb hr hlocks () (by rw [hQ] <;> (first | done | rfl)) hP hD hS dX5_worth_33
  · refine lv_aload_n hx hb dX5_worth_11 rfl (lv_at hl 0 rfl) ?_
    refine lv_iconst (v := (-1)) hx hb dX5_worth_12 (by decide) ?_
    refine cV_i (As := [.int (-1)]) (rest := []) (cr := [(xo, .inr (5, [.ref h, .ref hk, .int (bI im), .ref tx, .ref g, .ref pn, .ref cn, .ref s0, .int (nI ss), .ref r0]))]) (cw1 := [(r0, aI cs 7 (tx_nf rf))]) ⟨hx, hb, hml, hown, hts⟩ (c_X5_refuseAmount l D cs _ xo hk im tx pn cn s0 ss r0 h g rf (-1) 1 (by decide) (by decide) (by decide)) (cwV 1 hts gX5_worth_X5_refuseAmount rfl rfl rfl (by decide +kernel) ⟨Nat.le_of_ble_eq_true rfl, Nat.le_of_ble_eq_true rfl⟩) hK hP hD hS hA (((hR hS).app hP).sub [0, 7] rfl) (dt_of hN [0, 7] (by decide) rfl) [0] rfl 0 rfl rfl rfl hl.1 rfl (Nat.le_of_ble_eq_true rfl) dX5_worth_13 ⟨Nat.le_of_ble_eq_true rfl, Nat.le_of_ble_eq_true rfl⟩ (fun _ => rfl) (fun _ => rfl) (fun r_7 u9 H locs hw_8 hP hD hS => ?_)
    have hP : va_P D vwCl [(r0, aI cs 7 (tx_nf (tx_rf rf 1)))] H := hP
    have hD : va_D A [(r0, aI cs 7 (tx_nf (tx_rf rf 1)))] := hD
    subst r_7
    have hQ : tx_q_worth n dy d = 1 := by simp [tx_q_worth, tx_q_n, c8]
    have e9 : tx_rf rf (tx_q_worth n dy d) = tx_rf rf 1 := by rw [hQ] <;> rfl
    have hP : va_P D vwCl [(r0, aI cs 7 (tx_nf (tx_rf rf (tx_q_worth n dy d))))] H := by rw [e9]; (try simp only [hQ]); exact hP
    have hD : va_D A [(r0, aI cs 7 (tx_nf (tx_rf rf (tx_q_worth n dy d))))] := by rw [e9]; (try simp only [hQ]); exact hD
    exact rt_i hx hb hr hlocks () (by rw [hQ] <;> (first | done | rfl)) hP hD hS dX5_worth_16
set_option maxHeartbeats 4000000 in
set_option maxRecDepth 100000 in
theorem c_X6_worth (l : Launch) (D : va_G) (cs : Nat → ClassId) (sz : Nat) (o : Nat) (o1 : Nat) (o2 : Nat) (o3 : Nat) (o4 : Nat) (o5 : Nat) (o6 : Nat) (o7 : Nat) (o8 : Nat) (o9 : Nat) (o10 : Nat) (o11 : Nat) (o12 : Nat) (o13 : Nat) (o14 : Nat) (o15 : Nat) (n : Nat) (dy : Nat) (ch : Nat) (lw : Nat) (tz : Nat) (at9 : Nat) (va9 : Nat) (ss : Nat) (im : Bool) (kd : Nat → Nat) (wo : Nat → Nat) (ha : Nat → Nat) (we : Nat → Nat) (td : Nat → Nat) (rf : Nat → Nat) (d : Int32) (hn : n ≤ 4) (hdy : dy ≤ 20) (htd : ∀ e, td e < 4) (htn : ∀ e, 0 < n → td e < n) (hkd : ∀ e, kd e ≤ 5) : mI (S := Unit) l yX6_worth wsX6_worth ({ frames := 2, cells := 0, slots := 0, locals := 43 } : Room) D (tyc cs) sz [.ref o, .int d] [(o, .inr (6, [.int (nI n), .ref o1, .ref o2, .ref o3, .ref o4, .int (nI dy), .ref o5, .ref o6, .int (nI ch), .int (nI lw), .int (nI tz), .ref o7, .int (nI at9), .int (nI va9), .int (nI ss), .ref o8, .ref o9, .int (bI im), .ref o10, .ref o11, .ref o12, .ref o13, .ref o14, .ref o15])), (o1, aI cs 4 (tx_nf kd)), (o2, aI cs 4 (tx_nf wo)), (o3, aI cs 4 (tx_nf ha)), (o4, aI cs 4 (tx_nf we)), (o5, aI cs 21 (tx_nf td))] [(o9, aI cs 7 (tx_nf rf))] (fun (r : Int32) (u : Unit) => r = tx_af (tx_q_worth n dy d) (iI (tx_vn n kd wo ha we (td (tx_ix d)) (tx_pl td (tx_ix d))))) (fun _ => [(o9, aI cs 7 (tx_nf (tx_rf rf (tx_q_worth n dy d))))]) 0 0 := by
  unfold mI
  refine Met.ofW (cc := cX6_worth) (maxL := 2) (ret := (some .int)) (by decide) rfl ?_
  intro p e s m args below meth c s₁ B hml hv
  obtain ⟨rfl, hsz, hP, hK, hD0⟩ := hv
  have hx := B.exec
  have hb := B.bytes
  have hr := B.returns
  have hts := atoms_spec (ws := wsX6_worth) B.pre
  have hown : s.vm.findClass RX6 = some m.cls := findClass_of_methodNamed B.named
  have hlocks := B.notSynchronized
  subst hsz
  have hR := @en_R _ _ _ [(o, .inr (6, [.int (nI n), .ref o1, .ref o2, .ref o3, .ref o4, .int (nI dy), .ref o5, .ref o6, .int (nI ch), .int (nI lw), .int (nI tz), .ref o7, .int (nI at9), .int (nI va9), .int (nI ss), .ref o8, .ref o9, .int (bI im), .ref o10, .ref o11, .ref o12, .ref o13, .ref o14, .ref o15])), (o1, aI cs 4 (tx_nf kd)), (o2, aI cs 4 (tx_nf wo)), (o3, aI cs 4 (tx_nf ha)), (o4, aI cs 4 (tx_nf we)), (o5, aI cs 21 (tx_nf td))] [(o9, aI cs 7 (tx_nf rf))] _ hP hD0
  have hN := adN_of hD0
  have hD := en_D (wr := [(o, .inr (6, [.int (nI n), .ref o1, .ref o2, .ref o3, .ref o4, .int (nI dy), .ref o5, .ref o6, .int (nI ch), .int (nI lw), .int (nI tz), .ref o7, .int (nI at9), .int (nI va9), .int (nI ss), .ref o8, .ref o9, .int (bI im), .ref o10, .ref o11, .ref o12, .ref o13, .ref o14, .ref o15])), (o1, aI cs 4 (tx_nf kd)), (o2, aI cs 4 (tx_nf wo)), (o3, aI cs 4 (tx_nf ha)), (o4, aI cs 4 (tx_nf we)), (o5, aI cs 21 (tx_nf td))]) (ww := [(o9, aI cs 7 (tx_nf rf))]) (sz := s.heap.size) hD0
  have hP := en_P (wr := [(o, .inr (6, [.int (nI n), .ref o1, .ref o2, .ref o3, .ref o4, .int (nI dy), .ref o5, .ref o6, .int (nI ch), .int (nI lw), .int (nI tz), .ref o7, .int (nI at9), .int (nI va9), .int (nI ss), .ref o8, .ref o9, .int (bI im), .ref o10, .ref o11, .ref o12, .ref o13, .ref o14, .ref o15])), (o1, aI cs 4 (tx_nf kd)), (o2, aI cs 4 (tx_nf wo)), (o3, aI cs 4 (tx_nf ha)), (o4, aI cs 4 (tx_nf we)), (o5, aI cs 21 (tx_nf td))]) (ww := [(o9, aI cs 7 (tx_nf rf))]) hP
  generalize hAe : va_A [(o9, aI cs 7 (tx_nf rf))] s.heap.size = A at hD hR ⊢
  have hA : ∀ q : Nat, s.heap.size ≤ q → A q := fun q h => by rw [← hAe]; exact Or.inr h
  have hS : va_S A s.heap s.heap [] := va_S.rf
  have hN : adN [o, o1, o2, o3, o4, o5, o9] := hN
  have hf_22 := hts (.fieldLink RX6 22 "TaxedByLongestModel" "done" "[I") (by decide +kernel)
  have hf_71 := hts (.fieldLink RX6 71 "TaxedByLongestModel" "things" "I") (by decide +kernel)
  have in_X6 : ∀ w ∈ wsX60, w ∈ wsX6_worth := by decide +kernel
  have hl := lv_entry ([.ref o, .int d]) (n := 2) (Nat.le_of_ble_eq_true rfl)
  rw [lg_entry_eq]
  generalize (lg_sl ([.ref o, .int d]) ++ List.replicate (2 - (lg_sl ([.ref o, .int d])).length) Slot.unset).toArray = ls at hl ⊢
  have hl : lv_has ls 2 [(0, .ref o), (1, .int d)] := hl
  refine lv_aload_n hx hb dX6_worth_0 rfl (lv_at hl 0 rfl) ?_
  refine lv_iload_n hx hb dX6_worth_1 rfl (lv_at hl 1 rfl) ?_
  refine cV_i (As := [.int d]) (rest := []) (cr := [(o, .inr (6, [.int (nI n), .ref o1, .ref o2, .ref o3, .ref o4, .int (nI dy), .ref o5, .ref o6, .int (nI ch), .int (nI lw), .int (nI tz), .ref o7, .int (nI at9), .int (nI va9), .int (nI ss), .ref o8, .ref o9, .int (bI im), .ref o10, .ref o11, .ref o12, .ref o13, .ref o14, .ref o15]))]) (cw1 := []) ⟨hx, hb, hml, hown, hts⟩ (c_X6_isDay l D cs _ o o1 o2 o3 o4 o5 o6 o7 o8 o9 o10 o11 o12 o13 o14 o15 n dy ch lw tz at9 va9 ss im d (by first | assumption | omega)) (cwV 1 hts gX6_worth_X6_isDay rfl rfl rfl (by decide +kernel) ⟨Nat.le_of_ble_eq_true rfl, Nat.le_of_ble_eq_true rfl⟩) hK hP hD hS hA (((hR hS).app hP).sub [0] rfl) (dt_of hN [0] (by decide) rfl) [] rfl 0 rfl rfl rfl hl.1 rfl (Nat.le_of_ble_eq_true rfl) dX6_worth_2 ⟨Nat.le_of_ble_eq_true rfl, Nat.le_of_ble_eq_true rfl⟩ (fun _ => rfl) (fun _ => rfl) (fun r_1 u9 H locs hw_2 hP hD hS => ?_)
  have hP : va_P D vwCl [(o9, aI cs 7 (tx_nf rf))] H := hP
  have hD : va_D A [(o9, aI cs 7 (tx_nf rf))] := hD
  subst r_1
  refine bb_ne (b := tx_has dy d) (tgt := 14) hx hb rfl dX6_worth_5 (by decide) (fun c5 => ?_) (fun c5 => ?_)
  · obtain ⟨j, hj, rfl⟩ := tx_has_t (by omega) c5
    have hij : tx_ix (nI j) = j := tx_ix_n (by omega)
    refine lv_aload_n hx hb dX6_worth_14 rfl (lv_at hl 0 rfl) ?_
    refine va_get (D := D) (ci := 6) (v := .int (nI n)) (C := RX6) (T := TX6) (N := 24) hx hb hts in_X6 hown hK (hR hS) 0 rfl rfl 0 (by decide) hf_71 (fun _ h9 => h9) rfl dX6_worth_15 ?_
    refine bz_ne (a := n) (tgt := 30) hx hb rfl (by omega) dX6_worth_18 (by decide) (fun c18 => ?_) (fun c18 => ?_)
    · refine lv_aload_n hx hb dX6_worth_30 rfl (lv_at hl 0 rfl) ?_
      refine lv_aload_n hx hb dX6_worth_31 rfl (lv_at hl 0 rfl) ?_
      refine va_get (D := D) (ci := 6) (v := .ref o5) (C := RX6) (T := TX6) (N := 24) hx hb hts in_X6 hown hK (hR hS) 0 rfl rfl 6 (by decide) hf_22 (fun _ h9 => h9) rfl dX6_worth_32 ?_
      refine lv_iload_n hx hb dX6_worth_35 rfl (lv_at hl 1 rfl) ?_
      refine ia_n (f := tx_nf td) hx hb hK (hR hS) 5 0 rfl rfl (j := j) rfl (by omega) (by decide) dX6_worth_36 ?_
      refine tp_i (y := nI (td j)) rfl ?_
      refine lv_aload_n hx hb dX6_worth_37 rfl (lv_at hl 0 rfl) ?_
      refine lv_iload_n hx hb dX6_worth_38 rfl (lv_at hl 1 rfl) ?_
      refine cV_i (As := [.int (nI j)]) (rest := [.int (nI (td j)), .ref o]) (cr := [(o, .inr (6, [.int (nI n), .ref o1, .ref o2, .ref o3, .ref o4, .int (nI dy), .ref o5, .ref o6, .int (nI ch), .int (nI lw), .int (nI tz), .ref o7, .int (nI at9), .int (nI va9), .int (nI ss), .ref o8, .ref o9, .int (bI im), .ref o10, .ref o11, .ref o12, .ref o13, .ref o14, .ref o15])), (o5, aI cs 21 (tx_nf td))]) (cw1 := []) ⟨hx, hb, hml, hown, hts⟩ (c_X6_which l D cs _ o o1 o2 o3 o4 o5 o6 o7 o8 o9 o10 o11 o12 o13 o14 o15 n dy ch lw tz at9 va9 ss im td j (by first | assumption | omega) (by first | assumption | omega)) (cwV 1 hts gX6_worth_X6_which rfl rfl rfl (by decide +kernel) ⟨Nat.le_of_ble_eq_true rfl, Nat.le_of_ble_eq_true rfl⟩) hK hP hD hS hA (((hR hS).app hP).sub [0, 5] rfl) (dt_of hN [0, 5] (by decide) rfl) [] rfl 0 rfl rfl rfl hl.1 rfl (Nat.le_of_ble_eq_true rfl) dX6_worth_39 ⟨Nat.le_of_ble_eq_true rfl, Nat.le_of_ble_eq_true rfl⟩ (fun _ => rfl) (fun _ => rfl) (fun r_3 u9 H locs hw_4 hP hD hS => ?_)
      have hP : va_P D vwCl [(o9, aI cs 7 (tx_nf rf))] H := hP
      have hD : va_D A [(o9, aI cs 7 (tx_nf rf))] := hD
      subst r_3
      refine cV_i (As := [.int (nI (td j)), .int (nI (tx_pl td j))]) (rest := []) (cr := [(o, .inr (6, [.int (nI n), .ref o1, .ref o2, .ref o3, .ref o4, .int (nI dy), .ref o5, .ref o6, .int (nI ch), .int (nI lw), .int (nI tz), .ref o7, .int (nI at9), .int (nI va9), .int (nI ss), .ref o8, .ref o9, .int (bI im), .ref o10, .ref o11, .ref o12, .ref o13, .ref o14, .ref o15])), (o1, aI cs 4 (tx_nf kd)), (o2, aI cs 4 (tx_nf wo)), (o3, aI cs 4 (tx_nf ha)), (o4, aI cs 4 (tx_nf we))]) (cw1 := []) ⟨hx, hb, hml, hown, hts⟩ (c_X6_worthOf l D cs _ o o1 o2 o3 o4 o5 o6 o7 o8 o9 o10 o11 o12 o13 o14 o15 n dy ch lw tz at9 va9 ss im kd wo ha we (td j) (tx_pl td j) (htd _) (by have := tx_pl_le td j; omega) (by first | assumption | omega)) (cwV 2 hts gX6_worth_X6_worthOf rfl rfl rfl (by decide +kernel) ⟨Nat.le_of_ble_eq_true rfl, Nat.le_of_ble_eq_true rfl⟩) hK hP hD hS hA (((hR hS).app hP).sub [0, 1, 2, 3, 4] rfl) (dt_of hN [0, 1, 2, 3, 4] (by decide) rfl) [] rfl 0 rfl rfl rfl hl.1 rfl (Nat.le_of_ble_eq_true rfl) dX6_worth_42 ⟨Nat.le_of_ble_eq_true rfl, Nat.le_of_ble_eq_true rfl⟩ (fun _ => rfl) (fun _ => rfl) (fun r_5 u9 H locs hw_6 hP hD hS => ?_)
      have hP : va_P D vwCl [(o9, aI cs 7 (tx_nf rf))] H := hP
      have hD : va_D A [(o9, aI cs 7 (tx_nf rf))] := hD
      subst r_5
      have hQ : tx_q_worth n dy (nI j) = 0 := by simp [tx_q_worth, tx_q_n, c5, c18, Nat.pos_iff_ne_zero.mp c18]
      have e9 : tx_rf rf (tx_q_worth n dy (nI j)) = rf := by rw [hQ] <;> rfl
      have hP : va_P D vwCl [(o9, aI cs 7 (tx_nf (tx_rf rf (tx_q_worth n dy (nI j)))))] H := by rw [e9]; (try simp only [hQ]); exact hP
      have hD : va_D A [(o9, aI cs 7 (tx_nf (tx_rf rf (tx_q_worth n dy (nI j)))))] := by rw [e9]; (try simp only [hQ]); exact hD
      exact rt_i hx hb hr hlocks () (by rw [hQ] <;> (rw [hij, tx_vn, if_pos (htn _ c18)]; rfl)) hP hD hS dX6_worth_45
    · refine lv_aload_n hx hb dX6_worth_21 rfl (lv_at hl 0 rfl) ?_
      refine lv_bipush (v := (-3)) hx hb dX6_worth_22 (by decide) ?_
      refine cV_i (As := [.int (-3)]) (rest := []) (cr := [(o, .inr (6, [.int (nI n), .ref o1, .ref o2, .ref o3, .ref o4, .int (nI dy), .ref o5, .ref o6, .int (nI ch), .int (nI lw), .int (nI tz), .ref o7, .int (nI at9), .int (nI va9), .int (nI ss), .ref o8, .ref o9, .int (bI im), .ref o10, .ref o11, .ref o12, .ref o13, .ref o14, .ref o15]))]) (cw1 := [(o9, aI cs 7 (tx_nf rf))]) ⟨hx, hb, hml, hown, hts⟩ (c_X6_noFar l D cs _ o o1 o2 o3 o4 o5 o6 o7 o8 o9 o10 o11 o12 o13 o14 o15 n dy ch lw tz at9 va9 ss im rf (-3) 3 (by decide) (by decide) (by decide)) (cwV 1 hts gX6_worth_X6_noFar rfl rfl rfl (by decide +kernel) ⟨Nat.le_of_ble_eq_true rfl, Nat.le_of_ble_eq_true rfl⟩) hK hP hD hS hA (((hR hS).app hP).sub [0, 6] rfl) (dt_of hN [0, 6] (by decide) rfl) [0] rfl 0 rfl rfl rfl hl.1 rfl (Nat.le_of_ble_eq_true rfl) dX6_worth_24 ⟨Nat.le_of_ble_eq_true rfl, Nat.le_of_ble_eq_true rfl⟩ (fun _ => rfl) (fun _ => rfl) (fun r_7 u9 H locs hw_8 hP hD hS => ?_)
      have hP : va_P D vwCl [(o9, aI cs 7 (tx_nf (tx_rf rf 3)))] H := hP
      have hD : va_D A [(o9, aI cs 7 (tx_nf (tx_rf rf 3)))] := hD
      subst r_7
      refine lv_goto (tgt := 45) hx hb dX6_worth_27 (by decide) ?_
      have hQ : tx_q_worth n dy (nI j) = 3 := by simp [tx_q_worth, tx_q_n, c5, c18]
      have e9 : tx_rf rf (tx_q_worth n dy (nI j)) = tx_rf rf 3 := by rw [hQ] <;> rfl
      have hP : va_P D vwCl [(o9, aI cs 7 (tx_nf (tx_rf rf (tx_q_worth n dy (nI j)))))] H := by rw [e9]; (try simp only [hQ]); exact hP
      have hD : va_D A [(o9, aI cs 7 (tx_nf (tx_rf rf (tx_q_worth n dy (nI j)))))] := by rw [e9]; (try simp only [hQ]); exact hD
      exact rt_i hx hb hr hlocks () (by rw [hQ] <;> (first | done | rfl)) hP hD hS dX6_worth_45
  · refine lv_aload_n hx hb dX6_worth_8 rfl (lv_at hl 0 rfl) ?_
    refine lv_iconst (v := (-1)) hx hb dX6_worth_9 (by decide) ?_
    refine cV_i (As := [.int (-1)]) (rest := []) (cr := [(o, .inr (6, [.int (nI n), .ref o1, .ref o2, .ref o3, .ref o4, .int (nI dy), .ref o5, .ref o6, .int (nI ch), .int (nI lw), .int (nI tz), .ref o7, .int (nI at9), .int (nI va9), .int (nI ss), .ref o8, .ref o9, .int (bI im), .ref o10, .ref o11, .ref o12, .ref o13, .ref o14, .ref o15]))]) (cw1 := [(o9, aI cs 7 (tx_nf rf))]) ⟨hx, hb, hml, hown, hts⟩ (c_X6_noFar l D cs _ o o1 o2 o3 o4 o5 o6 o7 o8 o9 o10 o11 o12 o13 o14 o15 n dy ch lw tz at9 va9 ss im rf (-1) 1 (by decide) (by decide) (by decide)) (cwV 1 hts gX6_worth_X6_noFar rfl rfl rfl (by decide +kernel) ⟨Nat.le_of_ble_eq_true rfl, Nat.le_of_ble_eq_true rfl⟩) hK hP hD hS hA (((hR hS).app hP).sub [0, 6] rfl) (dt_of hN [0, 6] (by decide) rfl) [0] rfl 0 rfl rfl rfl hl.1 rfl (Nat.le_of_ble_eq_true rfl) dX6_worth_10 ⟨Nat.le_of_ble_eq_true rfl, Nat.le_of_ble_eq_true rfl⟩ (fun _ => rfl) (fun _ => rfl) (fun r_9 u9 H locs hw_10 hP hD hS => ?_)
    have hP : va_P D vwCl [(o9, aI cs 7 (tx_nf (tx_rf rf 1)))] H := hP
    have hD : va_D A [(o9, aI cs 7 (tx_nf (tx_rf rf 1)))] := hD
    subst r_9
    have hQ : tx_q_worth n dy d = 1 := by simp [tx_q_worth, tx_q_n, c5]
    have e9 : tx_rf rf (tx_q_worth n dy d) = tx_rf rf 1 := by rw [hQ] <;> rfl
    have hP : va_P D vwCl [(o9, aI cs 7 (tx_nf (tx_rf rf (tx_q_worth n dy d))))] H := by rw [e9]; (try simp only [hQ]); exact hP
    have hD : va_D A [(o9, aI cs 7 (tx_nf (tx_rf rf (tx_q_worth n dy d))))] := by rw [e9]; (try simp only [hQ]); exact hD
    exact rt_i hx hb hr hlocks () (by rw [hQ] <;> (first | done | rfl)) hP hD hS dX6_worth_13
set_option maxHeartbeats 4000000 in
set_option maxRecDepth 100000 in
theorem c_X5_earned (l : Launch) (D : va_G) (cs : Nat → ClassId) (sz : Nat) (xo : Nat) (hk : Nat) (im : Bool) (tx : Nat) (pn : Nat) (cn : Nat) (s0 : Nat) (ss : Nat) (r0 : Nat) (h : Nat) (k0 : Nat) (k1 : Nat) (k2 : Nat) (k3 : Nat) (k4 : Nat) (k5 : Nat) (n : Nat) (dy : Nat) (ch : Nat) (lw : Nat) (kd : Nat → Nat) (wo : Nat → Nat) (ha : Nat → Nat) (we : Nat → Nat) (td : Nat → Nat) (g : Nat) (g0 : Nat) (dd : Nat) (er : Int) (cg : Nat) (x : tx_5) (ld : Nat → Nat) (rf : Nat → Nat) (hn : n ≤ 4) (hkd : ∀ e, kd e ≤ 5) (htd : ∀ e, td e < 4) (hd1 : 1 ≤ dy) (hdy : dy ≤ 20) (hld : ∀ e, ld e < 4) : mI (S := Nat × Int × Nat × tx_5 × (Nat → Nat)) l yX5_earned wsX5_earned ({ frames := 5, cells := 0, slots := 0, locals := 108 } : Room) D (tyc cs) sz [.ref xo] [(xo, .inr (5, [.ref h, .ref hk, .int (bI im), .ref tx, .ref g, .ref pn, .ref cn, .ref s0, .int (nI ss), .ref r0])), (h, .inr (4, [.ref k0, .ref k1, .ref k2, .ref k3, .ref k4, .ref k5, .int (nI n), .int (nI dy), .int (nI ch), .int (nI lw)])), (k0, aI cs 4 (tx_nf kd)), (k1, aI cs 4 (tx_nf wo)), (k2, aI cs 4 (tx_nf ha)), (k3, aI cs 4 (tx_nf we))] [(k4, aI cs 20 (tx_nf td)), (g, .inr (1, [.ref g0, .int (nI dd), .int (iI er), .int (nI cg), .int (nI x.1), .int (nI x.2.1), .int (nI x.2.2.1), .int (nI x.2.2.2.1), .int (nI x.2.2.2.2)])), (g0, aI cs 21 (tx_nf ld)), (r0, aI cs 7 (tx_nf rf))] (fun (r : Int32) (u : Nat × Int × Nat × tx_5 × (Nat → Nat)) => match u with | (dd2, er2, cg2, x2, ld2) => r = tx_af (tx_q_n n) (iI (tx_earn n kd wo ha we td dy ch)) ∧ ∀ e, ld2 e < 4) (fun (u : Nat × Int × Nat × tx_5 × (Nat → Nat)) => match u with | (dd2, er2, cg2, x2, ld2) => [(k4, aI cs 20 (tx_nf td)), (g, .inr (1, [.ref g0, .int (nI dd2), .int (iI er2), .int (nI cg2), .int (nI x2.1), .int (nI x2.2.1), .int (nI x2.2.2.1), .int (nI x2.2.2.2.1), .int (nI x2.2.2.2.2)])), (g0, aI cs 21 (tx_nf ld2)), (r0, aI cs 7 (tx_nf (tx_rf rf (tx_q_n n))))]) 0 0 := by
  unfold mI
  refine Met.ofW (cc := cX5_earned) (maxL := 1) (ret := (some .int)) (by decide) rfl ?_
  intro p e s m args below meth c s₁ B hml hv
  obtain ⟨rfl, hsz, hP, hK, hD0⟩ := hv
  have hx := B.exec
  have hb := B.bytes
  have hr := B.returns
  have hts := atoms_spec (ws := wsX5_earned) B.pre
  have hown : s.vm.findClass RX5 = some m.cls := findClass_of_methodNamed B.named
  have hlocks := B.notSynchronized
  subst hsz
  have hR := @en_R _ _ _ [(xo, .inr (5, [.ref h, .ref hk, .int (bI im), .ref tx, .ref g, .ref pn, .ref cn, .ref s0, .int (nI ss), .ref r0])), (h, .inr (4, [.ref k0, .ref k1, .ref k2, .ref k3, .ref k4, .ref k5, .int (nI n), .int (nI dy), .int (nI ch), .int (nI lw)])), (k0, aI cs 4 (tx_nf kd)), (k1, aI cs 4 (tx_nf wo)), (k2, aI cs 4 (tx_nf ha)), (k3, aI cs 4 (tx_nf we))] [(k4, aI cs 20 (tx_nf td)), (g, .inr (1, [.ref g0, .int (nI dd), .int (iI er), .int (nI cg), .int (nI x.1), .int (nI x.2.1), .int (nI x.2.2.1), .int (nI x.2.2.2.1), .int (nI x.2.2.2.2)])), (g0, aI cs 21 (tx_nf ld)), (r0, aI cs 7 (tx_nf rf))] _ hP hD0
  have hN := adN_of hD0
  have hD := en_D (wr := [(xo, .inr (5, [.ref h, .ref hk, .int (bI im), .ref tx, .ref g, .ref pn, .ref cn, .ref s0, .int (nI ss), .ref r0])), (h, .inr (4, [.ref k0, .ref k1, .ref k2, .ref k3, .ref k4, .ref k5, .int (nI n), .int (nI dy), .int (nI ch), .int (nI lw)])), (k0, aI cs 4 (tx_nf kd)), (k1, aI cs 4 (tx_nf wo)), (k2, aI cs 4 (tx_nf ha)), (k3, aI cs 4 (tx_nf we))]) (ww := [(k4, aI cs 20 (tx_nf td)), (g, .inr (1, [.ref g0, .int (nI dd), .int (iI er), .int (nI cg), .int (nI x.1), .int (nI x.2.1), .int (nI x.2.2.1), .int (nI x.2.2.2.1), .int (nI x.2.2.2.2)])), (g0, aI cs 21 (tx_nf ld)), (r0, aI cs 7 (tx_nf rf))]) (sz := s.heap.size) hD0
  have hP := en_P (wr := [(xo, .inr (5, [.ref h, .ref hk, .int (bI im), .ref tx, .ref g, .ref pn, .ref cn, .ref s0, .int (nI ss), .ref r0])), (h, .inr (4, [.ref k0, .ref k1, .ref k2, .ref k3, .ref k4, .ref k5, .int (nI n), .int (nI dy), .int (nI ch), .int (nI lw)])), (k0, aI cs 4 (tx_nf kd)), (k1, aI cs 4 (tx_nf wo)), (k2, aI cs 4 (tx_nf ha)), (k3, aI cs 4 (tx_nf we))]) (ww := [(k4, aI cs 20 (tx_nf td)), (g, .inr (1, [.ref g0, .int (nI dd), .int (iI er), .int (nI cg), .int (nI x.1), .int (nI x.2.1), .int (nI x.2.2.1), .int (nI x.2.2.2.1), .int (nI x.2.2.2.2)])), (g0, aI cs 21 (tx_nf ld)), (r0, aI cs 7 (tx_nf rf))]) hP
  generalize hAe : va_A [(k4, aI cs 20 (tx_nf td)), (g, .inr (1, [.ref g0, .int (nI dd), .int (iI er), .int (nI cg), .int (nI x.1), .int (nI x.2.1), .int (nI x.2.2.1), .int (nI x.2.2.2.1), .int (nI x.2.2.2.2)])), (g0, aI cs 21 (tx_nf ld)), (r0, aI cs 7 (tx_nf rf))] s.heap.size = A at hD hR ⊢
  have hA : ∀ q : Nat, s.heap.size ≤ q → A q := fun q h => by rw [← hAe]; exact Or.inr h
  have hS : va_S A s.heap s.heap [] := va_S.rf
  have hN : adN [xo, h, k0, k1, k2, k3, k4, g, g0, r0] := hN
  have hf_10 := hts (.fieldLink RX5 10 "TaxedByLongest" "told" "LTaxedByLongest$Told;") (by decide +kernel)
  have hf_33 := hts (.fieldLink RX5 33 "TaxedByLongest" "look" "LTaxedByLongest$Look;") (by decide +kernel)
  have hf_141 := hts (.fieldLink RX5 141 "TaxedByLongest$Told" "things" "I") (by decide +kernel)
  have hf_147 := hts (.fieldLink RX5 147 "TaxedByLongest$Look" "earnings" "I") (by decide +kernel)
  have in_X1 : ∀ w ∈ wsX10, w ∈ wsX5_earned := by decide +kernel
  have in_X4 : ∀ w ∈ wsX40, w ∈ wsX5_earned := by decide +kernel
  have in_X5 : ∀ w ∈ wsX50, w ∈ wsX5_earned := by decide +kernel
  have hl := lv_entry ([.ref xo]) (n := 1) (Nat.le_of_ble_eq_true rfl)
  rw [lg_entry_eq]
  generalize (lg_sl ([.ref xo]) ++ List.replicate (1 - (lg_sl ([.ref xo])).length) Slot.unset).toArray = ls at hl ⊢
  have hl : lv_has ls 1 [(0, .ref xo)] := hl
  refine lv_aload_n hx hb dX5_earned_0 rfl (lv_at hl 0 rfl) ?_
  refine va_get (D := D) (ci := 5) (v := .ref h) (C := RX5) (T := TX5) (N := 10) hx hb hts in_X5 hown hK (hR hS) 0 rfl rfl 0 (by decide) hf_10 (fun _ h9 => h9) rfl dX5_earned_1 ?_
  refine va_get (D := D) (ci := 4) (v := .int (nI n)) (C := RX4) (T := TX4) (N := 10) hx hb hts in_X4 hown hK (hR hS) 1 rfl rfl 6 (by decide) hf_141 (fun _ h9 => h9) rfl dX5_earned_4 ?_
  refine bz_ne (a := n) (tgt := 17) hx hb rfl (by omega) dX5_earned_7 (by decide) (fun c7 => ?_) (fun c7 => ?_)
  · refine lv_aload_n hx hb dX5_earned_17 rfl (lv_at hl 0 rfl) ?_
    refine cV_v (As := []) (rest := []) (cr := [(xo, .inr (5, [.ref h, .ref hk, .int (bI im), .ref tx, .ref g, .ref pn, .ref cn, .ref s0, .int (nI ss), .ref r0])), (h, .inr (4, [.ref k0, .ref k1, .ref k2, .ref k3, .ref k4, .ref k5, .int (nI n), .int (nI dy), .int (nI ch), .int (nI lw)])), (k0, aI cs 4 (tx_nf kd)), (k1, aI cs 4 (tx_nf wo)), (k2, aI cs 4 (tx_nf ha)), (k3, aI cs 4 (tx_nf we))]) (cw1 := [(k4, aI cs 20 (tx_nf td)), (g, .inr (1, [.ref g0, .int (nI dd), .int (iI er), .int (nI cg), .int (nI x.1), .int (nI x.2.1), .int (nI x.2.2.1), .int (nI x.2.2.2.1), .int (nI x.2.2.2.2)])), (g0, aI cs 21 (tx_nf ld))]) ⟨hx, hb, hml, hown, hts⟩ (c_X5_lookAtNow l D cs _ xo hk im tx pn cn s0 ss r0 h k0 k1 k2 k3 k4 k5 n dy ch lw kd wo ha we td g g0 dd er cg x ld (by first | assumption | omega) (by first | assumption | omega) (by first | assumption | omega) (by first | assumption | omega) (by first | assumption | omega) (by first | assumption | omega)) (cwV 0 hts gX5_earned_X5_lookAtNow rfl rfl rfl (by decide +kernel) ⟨Nat.le_of_ble_eq_true rfl, Nat.le_of_ble_eq_true rfl⟩) hK hP hD hS hA (((hR hS).app hP).sub [0, 1, 2, 3, 4, 5, 6, 7, 8] rfl) (dt_of hN [0, 1, 2, 3, 4, 5, 6, 7, 8] (by decide) rfl) [0, 1, 2] rfl 0 rfl rfl rfl hl.1 rfl (Nat.le_of_ble_eq_true rfl) dX5_earned_18 ⟨Nat.le_of_ble_eq_true rfl, Nat.le_of_ble_eq_true rfl⟩ (fun _ => rfl) (fun _ => rfl) (fun u9 H locs hw_1 hP hD hS => ?_)
    have hP : va_P D vwCl [(k4, aI cs 20 (tx_nf td)), (g, .inr (1, [.ref g0, .int (nI dy), .int (iI (tx_earn n kd wo ha we td dy ch)), .int (nI (tx_cg td (dy - 1))), .int (nI ((tx_T n kd td dy).1)), .int (nI ((tx_T n kd td dy).2.1)), .int (nI ((tx_T n kd td dy).2.2.1)), .int (nI ((tx_T n kd td dy).2.2.2.1)), .int (nI ((tx_T n kd td dy).2.2.2.2))])), (g0, aI cs 21 (tx_nf (tx_l20 td ld))), (r0, aI cs 7 (tx_nf rf))] H := hP
    have hD : va_D A [(k4, aI cs 20 (tx_nf td)), (g, .inr (1, [.ref g0, .int (nI dy), .int (iI (tx_earn n kd wo ha we td dy ch)), .int (nI (tx_cg td (dy - 1))), .int (nI ((tx_T n kd td dy).1)), .int (nI ((tx_T n kd td dy).2.1)), .int (nI ((tx_T n kd td dy).2.2.1)), .int (nI ((tx_T n kd td dy).2.2.2.1)), .int (nI ((tx_T n kd td dy).2.2.2.2))])), (g0, aI cs 21 (tx_nf (tx_l20 td ld))), (r0, aI cs 7 (tx_nf rf))] := hD
    refine lv_aload_n hx hb dX5_earned_21 rfl (lv_at hl 0 rfl) ?_
    refine va_get (D := D) (ci := 5) (v := .ref g) (C := RX5) (T := TX5) (N := 10) hx hb hts in_X5 hown hK (hR hS) 0 rfl rfl 4 (by decide) hf_33 (fun _ h9 => h9) rfl dX5_earned_22 ?_
    refine va_get (D := D) (ci := 1) (v := .int (iI (tx_earn n kd wo ha we td dy ch))) (C := RX1) (T := TX1) (N := 9) hx hb hts in_X1 hown hK hP 1 rfl rfl 2 (by decide) hf_147 (fun _ h9 => h9) rfl dX5_earned_25 ?_
    have hQ : tx_q_n n = 0 := by simp [tx_q_n, c7, Nat.pos_iff_ne_zero.mp c7]
    have e9 : tx_rf rf (tx_q_n n) = rf := by rw [hQ] <;> rfl
    have hP : va_P D vwCl [(k4, aI cs 20 (tx_nf td)), (g, .inr (1, [.ref g0, .int (nI dy), .int (iI (tx_earn n kd wo ha we td dy ch)), .int (nI (tx_cg td (dy - 1))), .int (nI ((tx_T n kd td dy).1)), .int (nI ((tx_T n kd td dy).2.1)), .int (nI ((tx_T n kd td dy).2.2.1)), .int (nI ((tx_T n kd td dy).2.2.2.1)), .int (nI ((tx_T n kd td dy).2.2.2.2))])), (g0, aI cs 21 (tx_nf (tx_l20 td ld))), (r0, aI cs 7 (tx_nf (tx_rf rf (tx_q_n n))))] H := by rw [e9]; (try simp only [hQ]); exact hP
    have hD : va_D A [(k4, aI cs 20 (tx_nf td)), (g, .inr (1, [.ref g0, .int (nI dy), .int (iI (tx_earn n kd wo ha we td dy ch)), .int (nI (tx_cg td (dy - 1))), .int (nI ((tx_T n kd td dy).1)), .int (nI ((tx_T n kd td dy).2.1)), .int (nI ((tx_T n kd td dy).2.2.1)), .int (nI ((tx_T n kd td dy).2.2.2.1)), .int (nI ((tx_T n kd td dy).2.2.2.2))])), (g0, aI cs 21 (tx_nf (tx_l20 td ld))), (r0, aI cs 7 (tx_nf (tx_rf rf (tx_q_n n))))] := by rw [e9]; (try simp only [hQ]); exact hD
    exact rt_i hx hb hr hlocks (dy, tx_earn n kd wo ha we td dy ch, tx_cg td (dy - 1), tx_T n kd td dy, tx_l20 td ld) (⟨by rw [hQ] <;> (rfl), tx_l20_4 htd hld⟩) hP hD hS dX5_earned_28
  · refine lv_aload_n hx hb dX5_earned_10 rfl (lv_at hl 0 rfl) ?_
    refine lv_bipush (v := (-3)) hx hb dX5_earned_11 (by decide) ?_
    refine cV_i (As := [.int (-3)]) (rest := []) (cr := [(xo, .inr (5, [.ref h, .ref hk, .int (bI im), .ref tx, .ref g, .ref pn, .ref cn, .ref s0, .int (nI ss), .ref r0]))]) (cw1 := [(r0, aI cs 7 (tx_nf rf))]) ⟨hx, hb, hml, hown, hts⟩ (c_X5_refuseAmount l D cs _ xo hk im tx pn cn s0 ss r0 h g rf (-3) 3 (by decide) (by decide) (by decide)) (cwV 1 hts gX5_earned_X5_refuseAmount rfl rfl rfl (by decide +kernel) ⟨Nat.le_of_ble_eq_true rfl, Nat.le_of_ble_eq_true rfl⟩) hK hP hD hS hA (((hR hS).app hP).sub [0, 9] rfl) (dt_of hN [0, 9] (by decide) rfl) [3] rfl 0 rfl rfl rfl hl.1 rfl (Nat.le_of_ble_eq_true rfl) dX5_earned_13 ⟨Nat.le_of_ble_eq_true rfl, Nat.le_of_ble_eq_true rfl⟩ (fun _ => rfl) (fun _ => rfl) (fun r_2 u9 H locs hw_3 hP hD hS => ?_)
    have hP : va_P D vwCl [(k4, aI cs 20 (tx_nf td)), (g, .inr (1, [.ref g0, .int (nI dd), .int (iI er), .int (nI cg), .int (nI x.1), .int (nI x.2.1), .int (nI x.2.2.1), .int (nI x.2.2.2.1), .int (nI x.2.2.2.2)])), (g0, aI cs 21 (tx_nf ld)), (r0, aI cs 7 (tx_nf (tx_rf rf 3)))] H := hP
    have hD : va_D A [(k4, aI cs 20 (tx_nf td)), (g, .inr (1, [.ref g0, .int (nI dd), .int (iI er), .int (nI cg), .int (nI x.1), .int (nI x.2.1), .int (nI x.2.2.1), .int (nI x.2.2.2.1), .int (nI x.2.2.2.2)])), (g0, aI cs 21 (tx_nf ld)), (r0, aI cs 7 (tx_nf (tx_rf rf 3)))] := hD
    subst r_2
    have hQ : tx_q_n n = 3 := by simp [tx_q_n, c7]
    have e9 : tx_rf rf (tx_q_n n) = tx_rf rf 3 := by rw [hQ] <;> rfl
    have hP : va_P D vwCl [(k4, aI cs 20 (tx_nf td)), (g, .inr (1, [.ref g0, .int (nI dd), .int (iI er), .int (nI cg), .int (nI x.1), .int (nI x.2.1), .int (nI x.2.2.1), .int (nI x.2.2.2.1), .int (nI x.2.2.2.2)])), (g0, aI cs 21 (tx_nf ld)), (r0, aI cs 7 (tx_nf (tx_rf rf (tx_q_n n))))] H := by rw [e9]; (try simp only [hQ]); exact hP
    have hD : va_D A [(k4, aI cs 20 (tx_nf td)), (g, .inr (1, [.ref g0, .int (nI dd), .int (iI er), .int (nI cg), .int (nI x.1), .int (nI x.2.1), .int (nI x.2.2.1), .int (nI x.2.2.2.1), .int (nI x.2.2.2.2)])), (g0, aI cs 21 (tx_nf ld)), (r0, aI cs 7 (tx_nf (tx_rf rf (tx_q_n n))))] := by rw [e9]; (try simp only [hQ]); exact hD
    exact rt_i hx hb hr hlocks (dd, er, cg, x, ld) (⟨by rw [hQ] <;> (first | done | rfl), hld⟩) hP hD hS dX5_earned_16
set_option maxHeartbeats 4000000 in
set_option maxRecDepth 100000 in
theorem c_X5_pays (l : Launch) (D : va_G) (cs : Nat → ClassId) (sz : Nat) (xo : Nat) (hk : Nat) (im : Bool) (tx : Nat) (pn : Nat) (cn : Nat) (s0 : Nat) (ss : Nat) (r0 : Nat) (h : Nat) (k0 : Nat) (k1 : Nat) (k2 : Nat) (k3 : Nat) (k4 : Nat) (k5 : Nat) (n : Nat) (dy : Nat) (ch : Nat) (lw : Nat) (kd : Nat → Nat) (wo : Nat → Nat) (ha : Nat → Nat) (we : Nat → Nat) (td : Nat → Nat) (g : Nat) (g0 : Nat) (dd : Nat) (er : Int) (cg : Nat) (x : tx_5) (ld : Nat → Nat) (rf : Nat → Nat) (hn : n ≤ 4) (hkd : ∀ e, kd e ≤ 5) (htd : ∀ e, td e < 4) (hd1 : 1 ≤ dy) (hdy : dy ≤ 20) (hld : ∀ e, ld e < 4) (hlw : lw ≤ 5) : mI (S := Nat × Int × Nat × tx_5 × (Nat → Nat)) l yX5_pays wsX5_pays ({ frames := 5, cells := 0, slots := 0, locals := 108 } : Room) D (tyc cs) sz [.ref xo] [(xo, .inr (5, [.ref h, .ref hk, .int (bI im), .ref tx, .ref g, .ref pn, .ref cn, .ref s0, .int (nI ss), .ref r0])), (h, .inr (4, [.ref k0, .ref k1, .ref k2, .ref k3, .ref k4, .ref k5, .int (nI n), .int (nI dy), .int (nI ch), .int (nI lw)])), (k0, aI cs 4 (tx_nf kd)), (k1, aI cs 4 (tx_nf wo)), (k2, aI cs 4 (tx_nf ha)), (k3, aI cs 4 (tx_nf we))] [(k4, aI cs 20 (tx_nf td)), (g, .inr (1, [.ref g0, .int (nI dd), .int (iI er), .int (nI cg), .int (nI x.1), .int (nI x.2.1), .int (nI x.2.2.1), .int (nI x.2.2.2.1), .int (nI x.2.2.2.2)])), (g0, aI cs 21 (tx_nf ld)), (r0, aI cs 7 (tx_nf rf))] (fun (r : Int32) (u : Nat × Int × Nat × tx_5 × (Nat → Nat)) => match u with | (dd2, er2, cg2, x2, ld2) => r = tx_ai (tx_q_n n) (nI (tx_tax (tx_T n kd td dy) (tx_cg td (dy - 1)) dy lw)) ∧ ∀ e, ld2 e < 4) (fun (u : Nat × Int × Nat × tx_5 × (Nat → Nat)) => match u with | (dd2, er2, cg2, x2, ld2) => [(k4, aI cs 20 (tx_nf td)), (g, .inr (1, [.ref g0, .int (nI dd2), .int (iI er2), .int (nI cg2), .int (nI x2.1), .int (nI x2.2.1), .int (nI x2.2.2.1), .int (nI x2.2.2.2.1), .int (nI x2.2.2.2.2)])), (g0, aI cs 21 (tx_nf ld2)), (r0, aI cs 7 (tx_nf (tx_rf rf (tx_q_n n))))]) 0 0 := by
  unfold mI
  refine Met.ofW (cc := cX5_pays) (maxL := 1) (ret := (some .int)) (by decide) rfl ?_
  intro p e s m args below meth c s₁ B hml hv
  obtain ⟨rfl, hsz, hP, hK, hD0⟩ := hv
  have hx := B.exec
  have hb := B.bytes
  have hr := B.returns
  have hts := atoms_spec (ws := wsX5_pays) B.pre
  have hown : s.vm.findClass RX5 = some m.cls := findClass_of_methodNamed B.named
  have hlocks := B.notSynchronized
  subst hsz
  have hR := @en_R _ _ _ [(xo, .inr (5, [.ref h, .ref hk, .int (bI im), .ref tx, .ref g, .ref pn, .ref cn, .ref s0, .int (nI ss), .ref r0])), (h, .inr (4, [.ref k0, .ref k1, .ref k2, .ref k3, .ref k4, .ref k5, .int (nI n), .int (nI dy), .int (nI ch), .int (nI lw)])), (k0, aI cs 4 (tx_nf kd)), (k1, aI cs 4 (tx_nf wo)), (k2, aI cs 4 (tx_nf ha)), (k3, aI cs 4 (tx_nf we))] [(k4, aI cs 20 (tx_nf td)), (g, .inr (1, [.ref g0, .int (nI dd), .int (iI er), .int (nI cg), .int (nI x.1), .int (nI x.2.1), .int (nI x.2.2.1), .int (nI x.2.2.2.1), .int (nI x.2.2.2.2)])), (g0, aI cs 21 (tx_nf ld)), (r0, aI cs 7 (tx_nf rf))] _ hP hD0
  have hN := adN_of hD0
  have hD := en_D (wr := [(xo, .inr (5, [.ref h, .ref hk, .int (bI im), .ref tx, .ref g, .ref pn, .ref cn, .ref s0, .int (nI ss), .ref r0])), (h, .inr (4, [.ref k0, .ref k1, .ref k2, .ref k3, .ref k4, .ref k5, .int (nI n), .int (nI dy), .int (nI ch), .int (nI lw)])), (k0, aI cs 4 (tx_nf kd)), (k1, aI cs 4 (tx_nf wo)), (k2, aI cs 4 (tx_nf ha)), (k3, aI cs 4 (tx_nf we))]) (ww := [(k4, aI cs 20 (tx_nf td)), (g, .inr (1, [.ref g0, .int (nI dd), .int (iI er), .int (nI cg), .int (nI x.1), .int (nI x.2.1), .int (nI x.2.2.1), .int (nI x.2.2.2.1), .int (nI x.2.2.2.2)])), (g0, aI cs 21 (tx_nf ld)), (r0, aI cs 7 (tx_nf rf))]) (sz := s.heap.size) hD0
  have hP := en_P (wr := [(xo, .inr (5, [.ref h, .ref hk, .int (bI im), .ref tx, .ref g, .ref pn, .ref cn, .ref s0, .int (nI ss), .ref r0])), (h, .inr (4, [.ref k0, .ref k1, .ref k2, .ref k3, .ref k4, .ref k5, .int (nI n), .int (nI dy), .int (nI ch), .int (nI lw)])), (k0, aI cs 4 (tx_nf kd)), (k1, aI cs 4 (tx_nf wo)), (k2, aI cs 4 (tx_nf ha)), (k3, aI cs 4 (tx_nf we))]) (ww := [(k4, aI cs 20 (tx_nf td)), (g, .inr (1, [.ref g0, .int (nI dd), .int (iI er), .int (nI cg), .int (nI x.1), .int (nI x.2.1), .int (nI x.2.2.1), .int (nI x.2.2.2.1), .int (nI x.2.2.2.2)])), (g0, aI cs 21 (tx_nf ld)), (r0, aI cs 7 (tx_nf rf))]) hP
  generalize hAe : va_A [(k4, aI cs 20 (tx_nf td)), (g, .inr (1, [.ref g0, .int (nI dd), .int (iI er), .int (nI cg), .int (nI x.1), .int (nI x.2.1), .int (nI x.2.2.1), .int (nI x.2.2.2.1), .int (nI x.2.2.2.2)])), (g0, aI cs 21 (tx_nf ld)), (r0, aI cs 7 (tx_nf rf))] s.heap.size = A at hD hR ⊢
  have hA : ∀ q : Nat, s.heap.size ≤ q → A q := fun q h => by rw [← hAe]; exact Or.inr h
  have hS : va_S A s.heap s.heap [] := va_S.rf
  have hN : adN [xo, h, k0, k1, k2, k3, k4, g, g0, r0] := hN
  have hf_10 := hts (.fieldLink RX5 10 "TaxedByLongest" "told" "LTaxedByLongest$Told;") (by decide +kernel)
  have hf_33 := hts (.fieldLink RX5 33 "TaxedByLongest" "look" "LTaxedByLongest$Look;") (by decide +kernel)
  have hf_120 := hts (.fieldLink RX5 120 "TaxedByLongest$Told" "law" "I") (by decide +kernel)
  have hf_141 := hts (.fieldLink RX5 141 "TaxedByLongest$Told" "things" "I") (by decide +kernel)
  have in_X4 : ∀ w ∈ wsX40, w ∈ wsX5_pays := by decide +kernel
  have in_X5 : ∀ w ∈ wsX50, w ∈ wsX5_pays := by decide +kernel
  have hl := lv_entry ([.ref xo]) (n := 1) (Nat.le_of_ble_eq_true rfl)
  rw [lg_entry_eq]
  generalize (lg_sl ([.ref xo]) ++ List.replicate (1 - (lg_sl ([.ref xo])).length) Slot.unset).toArray = ls at hl ⊢
  have hl : lv_has ls 1 [(0, .ref xo)] := hl
  refine lv_aload_n hx hb dX5_pays_0 rfl (lv_at hl 0 rfl) ?_
  refine va_get (D := D) (ci := 5) (v := .ref h) (C := RX5) (T := TX5) (N := 10) hx hb hts in_X5 hown hK (hR hS) 0 rfl rfl 0 (by decide) hf_10 (fun _ h9 => h9) rfl dX5_pays_1 ?_
  refine va_get (D := D) (ci := 4) (v := .int (nI n)) (C := RX4) (T := TX4) (N := 10) hx hb hts in_X4 hown hK (hR hS) 1 rfl rfl 6 (by decide) hf_141 (fun _ h9 => h9) rfl dX5_pays_4 ?_
  refine bz_ne (a := n) (tgt := 17) hx hb rfl (by omega) dX5_pays_7 (by decide) (fun c7 => ?_) (fun c7 => ?_)
  · refine lv_aload_n hx hb dX5_pays_17 rfl (lv_at hl 0 rfl) ?_
    refine cV_v (As := []) (rest := []) (cr := [(xo, .inr (5, [.ref h, .ref hk, .int (bI im), .ref tx, .ref g, .ref pn, .ref cn, .ref s0, .int (nI ss), .ref r0])), (h, .inr (4, [.ref k0, .ref k1, .ref k2, .ref k3, .ref k4, .ref k5, .int (nI n), .int (nI dy), .int (nI ch), .int (nI lw)])), (k0, aI cs 4 (tx_nf kd)), (k1, aI cs 4 (tx_nf wo)), (k2, aI cs 4 (tx_nf ha)), (k3, aI cs 4 (tx_nf we))]) (cw1 := [(k4, aI cs 20 (tx_nf td)), (g, .inr (1, [.ref g0, .int (nI dd), .int (iI er), .int (nI cg), .int (nI x.1), .int (nI x.2.1), .int (nI x.2.2.1), .int (nI x.2.2.2.1), .int (nI x.2.2.2.2)])), (g0, aI cs 21 (tx_nf ld))]) ⟨hx, hb, hml, hown, hts⟩ (c_X5_lookAtNow l D cs _ xo hk im tx pn cn s0 ss r0 h k0 k1 k2 k3 k4 k5 n dy ch lw kd wo ha we td g g0 dd er cg x ld (by first | assumption | omega) (by first | assumption | omega) (by first | assumption | omega) (by first | assumption | omega) (by first | assumption | omega) (by first | assumption | omega)) (cwV 0 hts gX5_pays_X5_lookAtNow rfl rfl rfl (by decide +kernel) ⟨Nat.le_of_ble_eq_true rfl, Nat.le_of_ble_eq_true rfl⟩) hK hP hD hS hA (((hR hS).app hP).sub [0, 1, 2, 3, 4, 5, 6, 7, 8] rfl) (dt_of hN [0, 1, 2, 3, 4, 5, 6, 7, 8] (by decide) rfl) [0, 1, 2] rfl 0 rfl rfl rfl hl.1 rfl (Nat.le_of_ble_eq_true rfl) dX5_pays_18 ⟨Nat.le_of_ble_eq_true rfl, Nat.le_of_ble_eq_true rfl⟩ (fun _ => rfl) (fun _ => rfl) (fun u9 H locs hw_1 hP hD hS => ?_)
    have hP : va_P D vwCl [(k4, aI cs 20 (tx_nf td)), (g, .inr (1, [.ref g0, .int (nI dy), .int (iI (tx_earn n kd wo ha we td dy ch)), .int (nI (tx_cg td (dy - 1))), .int (nI ((tx_T n kd td dy).1)), .int (nI ((tx_T n kd td dy).2.1)), .int (nI ((tx_T n kd td dy).2.2.1)), .int (nI ((tx_T n kd td dy).2.2.2.1)), .int (nI ((tx_T n kd td dy).2.2.2.2))])), (g0, aI cs 21 (tx_nf (tx_l20 td ld))), (r0, aI cs 7 (tx_nf rf))] H := hP
    have hD : va_D A [(k4, aI cs 20 (tx_nf td)), (g, .inr (1, [.ref g0, .int (nI dy), .int (iI (tx_earn n kd wo ha we td dy ch)), .int (nI (tx_cg td (dy - 1))), .int (nI ((tx_T n kd td dy).1)), .int (nI ((tx_T n kd td dy).2.1)), .int (nI ((tx_T n kd td dy).2.2.1)), .int (nI ((tx_T n kd td dy).2.2.2.1)), .int (nI ((tx_T n kd td dy).2.2.2.2))])), (g0, aI cs 21 (tx_nf (tx_l20 td ld))), (r0, aI cs 7 (tx_nf rf))] := hD
    refine lv_aload_n hx hb dX5_pays_21 rfl (lv_at hl 0 rfl) ?_
    refine va_get (D := D) (ci := 5) (v := .ref g) (C := RX5) (T := TX5) (N := 10) hx hb hts in_X5 hown hK (hR hS) 0 rfl rfl 4 (by decide) hf_33 (fun _ h9 => h9) rfl dX5_pays_22 ?_
    refine lv_aload_n hx hb dX5_pays_25 rfl (lv_at hl 0 rfl) ?_
    refine va_get (D := D) (ci := 5) (v := .ref h) (C := RX5) (T := TX5) (N := 10) hx hb hts in_X5 hown hK (hR hS) 0 rfl rfl 0 (by decide) hf_10 (fun _ h9 => h9) rfl dX5_pays_26 ?_
    refine va_get (D := D) (ci := 4) (v := .int (nI lw)) (C := RX4) (T := TX4) (N := 10) hx hb hts in_X4 hown hK (hR hS) 1 rfl rfl 9 (by decide) hf_120 (fun _ h9 => h9) rfl dX5_pays_29 ?_
    refine cV_i (As := [.int (nI lw)]) (rest := []) (cr := [(g, .inr (1, [.ref g0, .int (nI dy), .int (iI (tx_earn n kd wo ha we td dy ch)), .int (nI (tx_cg td (dy - 1))), .int (nI ((tx_T n kd td dy).1)), .int (nI ((tx_T n kd td dy).2.1)), .int (nI ((tx_T n kd td dy).2.2.1)), .int (nI ((tx_T n kd td dy).2.2.2.1)), .int (nI ((tx_T n kd td dy).2.2.2.2))]))]) (cw1 := []) ⟨hx, hb, hml, hown, hts⟩ (c_X1_taxBy l D cs _ g g0 dy (tx_earn n kd wo ha we td dy ch) (tx_cg td (dy - 1)) (tx_T n kd td dy) lw (by first | assumption | omega)) (cwV 1 hts gX5_pays_X1_taxBy rfl rfl rfl (by decide +kernel) ⟨Nat.le_of_ble_eq_true rfl, Nat.le_of_ble_eq_true rfl⟩) hK hP hD hS hA (((hR hS).app hP).sub [7] rfl) (dt_of hN [7] (by decide) rfl) [] rfl 0 rfl rfl rfl hl.1 rfl (Nat.le_of_ble_eq_true rfl) dX5_pays_32 ⟨Nat.le_of_ble_eq_true rfl, Nat.le_of_ble_eq_true rfl⟩ (fun _ => rfl) (fun _ => rfl) (fun r_2 u9 H locs hw_3 hP hD hS => ?_)
    have hP : va_P D vwCl [(k4, aI cs 20 (tx_nf td)), (g, .inr (1, [.ref g0, .int (nI dy), .int (iI (tx_earn n kd wo ha we td dy ch)), .int (nI (tx_cg td (dy - 1))), .int (nI ((tx_T n kd td dy).1)), .int (nI ((tx_T n kd td dy).2.1)), .int (nI ((tx_T n kd td dy).2.2.1)), .int (nI ((tx_T n kd td dy).2.2.2.1)), .int (nI ((tx_T n kd td dy).2.2.2.2))])), (g0, aI cs 21 (tx_nf (tx_l20 td ld))), (r0, aI cs 7 (tx_nf rf))] H := hP
    have hD : va_D A [(k4, aI cs 20 (tx_nf td)), (g, .inr (1, [.ref g0, .int (nI dy), .int (iI (tx_earn n kd wo ha we td dy ch)), .int (nI (tx_cg td (dy - 1))), .int (nI ((tx_T n kd td dy).1)), .int (nI ((tx_T n kd td dy).2.1)), .int (nI ((tx_T n kd td dy).2.2.1)), .int (nI ((tx_T n kd td dy).2.2.2.1)), .int (nI ((tx_T n kd td dy).2.2.2.2))])), (g0, aI cs 21 (tx_nf (tx_l20 td ld))), (r0, aI cs 7 (tx_nf rf))] := hD
    subst r_2
    have hQ : tx_q_n n = 0 := by simp [tx_q_n, c7, Nat.pos_iff_ne_zero.mp c7]
    have e9 : tx_rf rf (tx_q_n n) = rf := by rw [hQ] <;> rfl
    have hP : va_P D vwCl [(k4, aI cs 20 (tx_nf td)), (g, .inr (1, [.ref g0, .int (nI dy), .int (iI (tx_earn n kd wo ha we td dy ch)), .int (nI (tx_cg td (dy - 1))), .int (nI ((tx_T n kd td dy).1)), .int (nI ((tx_T n kd td dy).2.1)), .int (nI ((tx_T n kd td dy).2.2.1)), .int (nI ((tx_T n kd td dy).2.2.2.1)), .int (nI ((tx_T n kd td dy).2.2.2.2))])), (g0, aI cs 21 (tx_nf (tx_l20 td ld))), (r0, aI cs 7 (tx_nf (tx_rf rf (tx_q_n n))))] H := by rw [e9]; (try simp only [hQ]); exact hP
    have hD : va_D A [(k4, aI cs 20 (tx_nf td)), (g, .inr (1, [.ref g0, .int (nI dy), .int (iI (tx_earn n kd wo ha we td dy ch)), .int (nI (tx_cg td (dy - 1))), .int (nI ((tx_T n kd td dy).1)), .int (nI ((tx_T n kd td dy).2.1)), .int (nI ((tx_T n kd td dy).2.2.1)), .int (nI ((tx_T n kd td dy).2.2.2.1)), .int (nI ((tx_T n kd td dy).2.2.2.2))])), (g0, aI cs 21 (tx_nf (tx_l20 td ld))), (r0, aI cs 7 (tx_nf (tx_rf rf (tx_q_n n))))] := by rw [e9]; (try simp only [hQ]); exact hD
    exact rt_i hx hb hr hlocks (dy, tx_earn n kd wo ha we td dy ch, tx_cg td (dy - 1), tx_T n kd td dy, tx_l20 td ld) (⟨by rw [hQ] <;> (rfl), tx_l20_4 htd hld⟩) hP hD hS dX5_pays_35
  · refine lv_aload_n hx hb dX5_pays_10 rfl (lv_at hl 0 rfl) ?_
    refine lv_bipush (v := (-3)) hx hb dX5_pays_11 (by decide) ?_
    refine cV_i (As := [.int (-3)]) (rest := []) (cr := [(xo, .inr (5, [.ref h, .ref hk, .int (bI im), .ref tx, .ref g, .ref pn, .ref cn, .ref s0, .int (nI ss), .ref r0]))]) (cw1 := [(r0, aI cs 7 (tx_nf rf))]) ⟨hx, hb, hml, hown, hts⟩ (c_X5_refuse l D cs _ xo hk im tx pn cn s0 ss r0 h g rf (-3) 3 (by decide) (by decide) (by decide)) (cwV 1 hts gX5_pays_X5_refuse rfl rfl rfl (by decide +kernel) ⟨Nat.le_of_ble_eq_true rfl, Nat.le_of_ble_eq_true rfl⟩) hK hP hD hS hA (((hR hS).app hP).sub [0, 9] rfl) (dt_of hN [0, 9] (by decide) rfl) [3] rfl 0 rfl rfl rfl hl.1 rfl (Nat.le_of_ble_eq_true rfl) dX5_pays_13 ⟨Nat.le_of_ble_eq_true rfl, Nat.le_of_ble_eq_true rfl⟩ (fun _ => rfl) (fun _ => rfl) (fun r_4 u9 H locs hw_5 hP hD hS => ?_)
    have hP : va_P D vwCl [(k4, aI cs 20 (tx_nf td)), (g, .inr (1, [.ref g0, .int (nI dd), .int (iI er), .int (nI cg), .int (nI x.1), .int (nI x.2.1), .int (nI x.2.2.1), .int (nI x.2.2.2.1), .int (nI x.2.2.2.2)])), (g0, aI cs 21 (tx_nf ld)), (r0, aI cs 7 (tx_nf (tx_rf rf 3)))] H := hP
    have hD : va_D A [(k4, aI cs 20 (tx_nf td)), (g, .inr (1, [.ref g0, .int (nI dd), .int (iI er), .int (nI cg), .int (nI x.1), .int (nI x.2.1), .int (nI x.2.2.1), .int (nI x.2.2.2.1), .int (nI x.2.2.2.2)])), (g0, aI cs 21 (tx_nf ld)), (r0, aI cs 7 (tx_nf (tx_rf rf 3)))] := hD
    subst r_4
    have hQ : tx_q_n n = 3 := by simp [tx_q_n, c7]
    have e9 : tx_rf rf (tx_q_n n) = tx_rf rf 3 := by rw [hQ] <;> rfl
    have hP : va_P D vwCl [(k4, aI cs 20 (tx_nf td)), (g, .inr (1, [.ref g0, .int (nI dd), .int (iI er), .int (nI cg), .int (nI x.1), .int (nI x.2.1), .int (nI x.2.2.1), .int (nI x.2.2.2.1), .int (nI x.2.2.2.2)])), (g0, aI cs 21 (tx_nf ld)), (r0, aI cs 7 (tx_nf (tx_rf rf (tx_q_n n))))] H := by rw [e9]; (try simp only [hQ]); exact hP
    have hD : va_D A [(k4, aI cs 20 (tx_nf td)), (g, .inr (1, [.ref g0, .int (nI dd), .int (iI er), .int (nI cg), .int (nI x.1), .int (nI x.2.1), .int (nI x.2.2.1), .int (nI x.2.2.2.1), .int (nI x.2.2.2.2)])), (g0, aI cs 21 (tx_nf ld)), (r0, aI cs 7 (tx_nf (tx_rf rf (tx_q_n n))))] := by rw [e9]; (try simp only [hQ]); exact hD
    exact rt_i hx hb hr hlocks (dd, er, cg, x, ld) (⟨by rw [hQ] <;> (first | done | rfl), hld⟩) hP hD hS dX5_pays_16
set_option maxHeartbeats 4000000 in
set_option maxRecDepth 100000 in
theorem c_X5_left (l : Launch) (D : va_G) (cs : Nat → ClassId) (sz : Nat) (xo : Nat) (hk : Nat) (im : Bool) (tx : Nat) (pn : Nat) (cn : Nat) (s0 : Nat) (ss : Nat) (r0 : Nat) (h : Nat) (k0 : Nat) (k1 : Nat) (k2 : Nat) (k3 : Nat) (k4 : Nat) (k5 : Nat) (n : Nat) (dy : Nat) (ch : Nat) (lw : Nat) (kd : Nat → Nat) (wo : Nat → Nat) (ha : Nat → Nat) (we : Nat → Nat) (td : Nat → Nat) (g : Nat) (g0 : Nat) (dd : Nat) (er : Int) (cg : Nat) (x : tx_5) (ld : Nat → Nat) (rf : Nat → Nat) (hn : n ≤ 4) (hkd : ∀ e, kd e ≤ 5) (htd : ∀ e, td e < 4) (hd1 : 1 ≤ dy) (hdy : dy ≤ 20) (hld : ∀ e, ld e < 4) (hlw : lw ≤ 5) : mI (S := Nat × Int × Nat × tx_5 × (Nat → Nat)) l yX5_left wsX5_left ({ frames := 6, cells := 0, slots := 0, locals := 128 } : Room) D (tyc cs) sz [.ref xo] [(xo, .inr (5, [.ref h, .ref hk, .int (bI im), .ref tx, .ref g, .ref pn, .ref cn, .ref s0, .int (nI ss), .ref r0])), (h, .inr (4, [.ref k0, .ref k1, .ref k2, .ref k3, .ref k4, .ref k5, .int (nI n), .int (nI dy), .int (nI ch), .int (nI lw)])), (k0, aI cs 4 (tx_nf kd)), (k1, aI cs 4 (tx_nf wo)), (k2, aI cs 4 (tx_nf ha)), (k3, aI cs 4 (tx_nf we))] [(k4, aI cs 20 (tx_nf td)), (g, .inr (1, [.ref g0, .int (nI dd), .int (iI er), .int (nI cg), .int (nI x.1), .int (nI x.2.1), .int (nI x.2.2.1), .int (nI x.2.2.2.1), .int (nI x.2.2.2.2)])), (g0, aI cs 21 (tx_nf ld)), (r0, aI cs 7 (tx_nf rf))] (fun (r : Int32) (u : Nat × Int × Nat × tx_5 × (Nat → Nat)) => match u with | (dd2, er2, cg2, x2, ld2) => r = tx_af (tx_q_n n) (iI (tx_left n kd wo ha we td dy ch lw)) ∧ ∀ e, ld2 e < 4) (fun (u : Nat × Int × Nat × tx_5 × (Nat → Nat)) => match u with | (dd2, er2, cg2, x2, ld2) => [(k4, aI cs 20 (tx_nf td)), (g, .inr (1, [.ref g0, .int (nI dd2), .int (iI er2), .int (nI cg2), .int (nI x2.1), .int (nI x2.2.1), .int (nI x2.2.2.1), .int (nI x2.2.2.2.1), .int (nI x2.2.2.2.2)])), (g0, aI cs 21 (tx_nf ld2)), (r0, aI cs 7 (tx_nf (tx_rf rf (tx_q_n n))))]) 0 0 := by
  unfold mI
  refine Met.ofW (cc := cX5_left) (maxL := 1) (ret := (some .int)) (by decide) rfl ?_
  intro p e s m args below meth c s₁ B hml hv
  obtain ⟨rfl, hsz, hP, hK, hD0⟩ := hv
  have hx := B.exec
  have hb := B.bytes
  have hr := B.returns
  have hts := atoms_spec (ws := wsX5_left) B.pre
  have hown : s.vm.findClass RX5 = some m.cls := findClass_of_methodNamed B.named
  have hlocks := B.notSynchronized
  subst hsz
  have hR := @en_R _ _ _ [(xo, .inr (5, [.ref h, .ref hk, .int (bI im), .ref tx, .ref g, .ref pn, .ref cn, .ref s0, .int (nI ss), .ref r0])), (h, .inr (4, [.ref k0, .ref k1, .ref k2, .ref k3, .ref k4, .ref k5, .int (nI n), .int (nI dy), .int (nI ch), .int (nI lw)])), (k0, aI cs 4 (tx_nf kd)), (k1, aI cs 4 (tx_nf wo)), (k2, aI cs 4 (tx_nf ha)), (k3, aI cs 4 (tx_nf we))] [(k4, aI cs 20 (tx_nf td)), (g, .inr (1, [.ref g0, .int (nI dd), .int (iI er), .int (nI cg), .int (nI x.1), .int (nI x.2.1), .int (nI x.2.2.1), .int (nI x.2.2.2.1), .int (nI x.2.2.2.2)])), (g0, aI cs 21 (tx_nf ld)), (r0, aI cs 7 (tx_nf rf))] _ hP hD0
  have hN := adN_of hD0
  have hD := en_D (wr := [(xo, .inr (5, [.ref h, .ref hk, .int (bI im), .ref tx, .ref g, .ref pn, .ref cn, .ref s0, .int (nI ss), .ref r0])), (h, .inr (4, [.ref k0, .ref k1, .ref k2, .ref k3, .ref k4, .ref k5, .int (nI n), .int (nI dy), .int (nI ch), .int (nI lw)])), (k0, aI cs 4 (tx_nf kd)), (k1, aI cs 4 (tx_nf wo)), (k2, aI cs 4 (tx_nf ha)), (k3, aI cs 4 (tx_nf we))]) (ww := [(k4, aI cs 20 (tx_nf td)), (g, .inr (1, [.ref g0, .int (nI dd), .int (iI er), .int (nI cg), .int (nI x.1), .int (nI x.2.1), .int (nI x.2.2.1), .int (nI x.2.2.2.1), .int (nI x.2.2.2.2)])), (g0, aI cs 21 (tx_nf ld)), (r0, aI cs 7 (tx_nf rf))]) (sz := s.heap.size) hD0
  have hP := en_P (wr := [(xo, .inr (5, [.ref h, .ref hk, .int (bI im), .ref tx, .ref g, .ref pn, .ref cn, .ref s0, .int (nI ss), .ref r0])), (h, .inr (4, [.ref k0, .ref k1, .ref k2, .ref k3, .ref k4, .ref k5, .int (nI n), .int (nI dy), .int (nI ch), .int (nI lw)])), (k0, aI cs 4 (tx_nf kd)), (k1, aI cs 4 (tx_nf wo)), (k2, aI cs 4 (tx_nf ha)), (k3, aI cs 4 (tx_nf we))]) (ww := [(k4, aI cs 20 (tx_nf td)), (g, .inr (1, [.ref g0, .int (nI dd), .int (iI er), .int (nI cg), .int (nI x.1), .int (nI x.2.1), .int (nI x.2.2.1), .int (nI x.2.2.2.1), .int (nI x.2.2.2.2)])), (g0, aI cs 21 (tx_nf ld)), (r0, aI cs 7 (tx_nf rf))]) hP
  generalize hAe : va_A [(k4, aI cs 20 (tx_nf td)), (g, .inr (1, [.ref g0, .int (nI dd), .int (iI er), .int (nI cg), .int (nI x.1), .int (nI x.2.1), .int (nI x.2.2.1), .int (nI x.2.2.2.1), .int (nI x.2.2.2.2)])), (g0, aI cs 21 (tx_nf ld)), (r0, aI cs 7 (tx_nf rf))] s.heap.size = A at hD hR ⊢
  have hA : ∀ q : Nat, s.heap.size ≤ q → A q := fun q h => by rw [← hAe]; exact Or.inr h
  have hS : va_S A s.heap s.heap [] := va_S.rf
  have hN : adN [xo, h, k0, k1, k2, k3, k4, g, g0, r0] := hN
  have hf_10 := hts (.fieldLink RX5 10 "TaxedByLongest" "told" "LTaxedByLongest$Told;") (by decide +kernel)
  have hf_141 := hts (.fieldLink RX5 141 "TaxedByLongest$Told" "things" "I") (by decide +kernel)
  have in_X4 : ∀ w ∈ wsX40, w ∈ wsX5_left := by decide +kernel
  have in_X5 : ∀ w ∈ wsX50, w ∈ wsX5_left := by decide +kernel
  have hl := lv_entry ([.ref xo]) (n := 1) (Nat.le_of_ble_eq_true rfl)
  rw [lg_entry_eq]
  generalize (lg_sl ([.ref xo]) ++ List.replicate (1 - (lg_sl ([.ref xo])).length) Slot.unset).toArray = ls at hl ⊢
  have hl : lv_has ls 1 [(0, .ref xo)] := hl
  refine lv_aload_n hx hb dX5_left_0 rfl (lv_at hl 0 rfl) ?_
  refine va_get (D := D) (ci := 5) (v := .ref h) (C := RX5) (T := TX5) (N := 10) hx hb hts in_X5 hown hK (hR hS) 0 rfl rfl 0 (by decide) hf_10 (fun _ h9 => h9) rfl dX5_left_1 ?_
  refine va_get (D := D) (ci := 4) (v := .int (nI n)) (C := RX4) (T := TX4) (N := 10) hx hb hts in_X4 hown hK (hR hS) 1 rfl rfl 6 (by decide) hf_141 (fun _ h9 => h9) rfl dX5_left_4 ?_
  refine bz_ne (a := n) (tgt := 17) hx hb rfl (by omega) dX5_left_7 (by decide) (fun c7 => ?_) (fun c7 => ?_)
  · refine lv_aload_n hx hb dX5_left_17 rfl (lv_at hl 0 rfl) ?_
    refine cV_i (As := []) (rest := []) (cr := [(xo, .inr (5, [.ref h, .ref hk, .int (bI im), .ref tx, .ref g, .ref pn, .ref cn, .ref s0, .int (nI ss), .ref r0])), (h, .inr (4, [.ref k0, .ref k1, .ref k2, .ref k3, .ref k4, .ref k5, .int (nI n), .int (nI dy), .int (nI ch), .int (nI lw)])), (k0, aI cs 4 (tx_nf kd)), (k1, aI cs 4 (tx_nf wo)), (k2, aI cs 4 (tx_nf ha)), (k3, aI cs 4 (tx_nf we))]) (cw1 := [(k4, aI cs 20 (tx_nf td)), (g, .inr (1, [.ref g0, .int (nI dd), .int (iI er), .int (nI cg), .int (nI x.1), .int (nI x.2.1), .int (nI x.2.2.1), .int (nI x.2.2.2.1), .int (nI x.2.2.2.2)])), (g0, aI cs 21 (tx_nf ld))]) ⟨hx, hb, hml, hown, hts⟩ (c_X5_leftNow l D cs _ xo hk im tx pn cn s0 ss r0 h k0 k1 k2 k3 k4 k5 n dy ch lw kd wo ha we td g g0 dd er cg x ld (by first | assumption | omega) (by first | assumption | omega) (by first | assumption | omega) (by first | assumption | omega) (by first | assumption | omega) (by first | assumption | omega) (by first | assumption | omega)) (cwV 0 hts gX5_left_X5_leftNow rfl rfl rfl (by decide +kernel) ⟨Nat.le_of_ble_eq_true rfl, Nat.le_of_ble_eq_true rfl⟩) hK hP hD hS hA (((hR hS).app hP).sub [0, 1, 2, 3, 4, 5, 6, 7, 8] rfl) (dt_of hN [0, 1, 2, 3, 4, 5, 6, 7, 8] (by decide) rfl) [0, 1, 2] rfl 0 rfl rfl rfl hl.1 rfl (Nat.le_of_ble_eq_true rfl) dX5_left_18 ⟨Nat.le_of_ble_eq_true rfl, Nat.le_of_ble_eq_true rfl⟩ (fun _ => rfl) (fun _ => rfl) (fun r_1 u9 H locs hw_2 hP hD hS => ?_)
    have hP : va_P D vwCl [(k4, aI cs 20 (tx_nf td)), (g, .inr (1, [.ref g0, .int (nI dy), .int (iI (tx_earn n kd wo ha we td dy ch)), .int (nI (tx_cg td (dy - 1))), .int (nI ((tx_T n kd td dy).1)), .int (nI ((tx_T n kd td dy).2.1)), .int (nI ((tx_T n kd td dy).2.2.1)), .int (nI ((tx_T n kd td dy).2.2.2.1)), .int (nI ((tx_T n kd td dy).2.2.2.2))])), (g0, aI cs 21 (tx_nf (tx_l20 td ld))), (r0, aI cs 7 (tx_nf rf))] H := hP
    have hD : va_D A [(k4, aI cs 20 (tx_nf td)), (g, .inr (1, [.ref g0, .int (nI dy), .int (iI (tx_earn n kd wo ha we td dy ch)), .int (nI (tx_cg td (dy - 1))), .int (nI ((tx_T n kd td dy).1)), .int (nI ((tx_T n kd td dy).2.1)), .int (nI ((tx_T n kd td dy).2.2.1)), .int (nI ((tx_T n kd td dy).2.2.2.1)), .int (nI ((tx_T n kd td dy).2.2.2.2))])), (g0, aI cs 21 (tx_nf (tx_l20 td ld))), (r0, aI cs 7 (tx_nf rf))] := hD
    subst r_1
    have hQ : tx_q_n n = 0 := by simp [tx_q_n, c7, Nat.pos_iff_ne_zero.mp c7]
    have e9 : tx_rf rf (tx_q_n n) = rf := by rw [hQ] <;> rfl
    have hP : va_P D vwCl [(k4, aI cs 20 (tx_nf td)), (g, .inr (1, [.ref g0, .int (nI dy), .int (iI (tx_earn n kd wo ha we td dy ch)), .int (nI (tx_cg td (dy - 1))), .int (nI ((tx_T n kd td dy).1)), .int (nI ((tx_T n kd td dy).2.1)), .int (nI ((tx_T n kd td dy).2.2.1)), .int (nI ((tx_T n kd td dy).2.2.2.1)), .int (nI ((tx_T n kd td dy).2.2.2.2))])), (g0, aI cs 21 (tx_nf (tx_l20 td ld))), (r0, aI cs 7 (tx_nf (tx_rf rf (tx_q_n n))))] H := by rw [e9]; (try simp only [hQ]); exact hP
    have hD : va_D A [(k4, aI cs 20 (tx_nf td)), (g, .inr (1, [.ref g0, .int (nI dy), .int (iI (tx_earn n kd wo ha we td dy ch)), .int (nI (tx_cg td (dy - 1))), .int (nI ((tx_T n kd td dy).1)), .int (nI ((tx_T n kd td dy).2.1)), .int (nI ((tx_T n kd td dy).2.2.1)), .int (nI ((tx_T n kd td dy).2.2.2.1)), .int (nI ((tx_T n kd td dy).2.2.2.2))])), (g0, aI cs 21 (tx_nf (tx_l20 td ld))), (r0, aI cs 7 (tx_nf (tx_rf rf (tx_q_n n))))] := by rw [e9]; (try simp only [hQ]); exact hD
    exact rt_i hx hb hr hlocks (dy, tx_earn n kd wo ha we td dy ch, tx_cg td (dy - 1), tx_T n kd td dy, tx_l20 td ld) (⟨by rw [hQ] <;> (rfl), tx_l20_4 htd hld⟩) hP hD hS dX5_left_21
  · refine lv_aload_n hx hb dX5_left_10 rfl (lv_at hl 0 rfl) ?_
    refine lv_bipush (v := (-3)) hx hb dX5_left_11 (by decide) ?_
    refine cV_i (As := [.int (-3)]) (rest := []) (cr := [(xo, .inr (5, [.ref h, .ref hk, .int (bI im), .ref tx, .ref g, .ref pn, .ref cn, .ref s0, .int (nI ss), .ref r0]))]) (cw1 := [(r0, aI cs 7 (tx_nf rf))]) ⟨hx, hb, hml, hown, hts⟩ (c_X5_refuseAmount l D cs _ xo hk im tx pn cn s0 ss r0 h g rf (-3) 3 (by decide) (by decide) (by decide)) (cwV 1 hts gX5_left_X5_refuseAmount rfl rfl rfl (by decide +kernel) ⟨Nat.le_of_ble_eq_true rfl, Nat.le_of_ble_eq_true rfl⟩) hK hP hD hS hA (((hR hS).app hP).sub [0, 9] rfl) (dt_of hN [0, 9] (by decide) rfl) [3] rfl 0 rfl rfl rfl hl.1 rfl (Nat.le_of_ble_eq_true rfl) dX5_left_13 ⟨Nat.le_of_ble_eq_true rfl, Nat.le_of_ble_eq_true rfl⟩ (fun _ => rfl) (fun _ => rfl) (fun r_3 u9 H locs hw_4 hP hD hS => ?_)
    have hP : va_P D vwCl [(k4, aI cs 20 (tx_nf td)), (g, .inr (1, [.ref g0, .int (nI dd), .int (iI er), .int (nI cg), .int (nI x.1), .int (nI x.2.1), .int (nI x.2.2.1), .int (nI x.2.2.2.1), .int (nI x.2.2.2.2)])), (g0, aI cs 21 (tx_nf ld)), (r0, aI cs 7 (tx_nf (tx_rf rf 3)))] H := hP
    have hD : va_D A [(k4, aI cs 20 (tx_nf td)), (g, .inr (1, [.ref g0, .int (nI dd), .int (iI er), .int (nI cg), .int (nI x.1), .int (nI x.2.1), .int (nI x.2.2.1), .int (nI x.2.2.2.1), .int (nI x.2.2.2.2)])), (g0, aI cs 21 (tx_nf ld)), (r0, aI cs 7 (tx_nf (tx_rf rf 3)))] := hD
    subst r_3
    have hQ : tx_q_n n = 3 := by simp [tx_q_n, c7]
    have e9 : tx_rf rf (tx_q_n n) = tx_rf rf 3 := by rw [hQ] <;> rfl
    have hP : va_P D vwCl [(k4, aI cs 20 (tx_nf td)), (g, .inr (1, [.ref g0, .int (nI dd), .int (iI er), .int (nI cg), .int (nI x.1), .int (nI x.2.1), .int (nI x.2.2.1), .int (nI x.2.2.2.1), .int (nI x.2.2.2.2)])), (g0, aI cs 21 (tx_nf ld)), (r0, aI cs 7 (tx_nf (tx_rf rf (tx_q_n n))))] H := by rw [e9]; (try simp only [hQ]); exact hP
    have hD : va_D A [(k4, aI cs 20 (tx_nf td)), (g, .inr (1, [.ref g0, .int (nI dd), .int (iI er), .int (nI cg), .int (nI x.1), .int (nI x.2.1), .int (nI x.2.2.1), .int (nI x.2.2.2.1), .int (nI x.2.2.2.2)])), (g0, aI cs 21 (tx_nf ld)), (r0, aI cs 7 (tx_nf (tx_rf rf (tx_q_n n))))] := by rw [e9]; (try simp only [hQ]); exact hD
    exact rt_i hx hb hr hlocks (dd, er, cg, x, ld) (⟨by rw [hQ] <;> (first | done | rfl), hld⟩) hP hD hS dX5_left_16
set_option maxHeartbeats 4000000 in
set_option maxRecDepth 100000 in
theorem c_X5_byLaw (l : Launch) (D : va_G) (cs : Nat → ClassId) (sz : Nat) (xo : Nat) (hk : Nat) (im : Bool) (tx : Nat) (pn : Nat) (cn : Nat) (s0 : Nat) (ss : Nat) (r0 : Nat) (h : Nat) (k0 : Nat) (k1 : Nat) (k2 : Nat) (k3 : Nat) (k4 : Nat) (k5 : Nat) (n : Nat) (dy : Nat) (ch : Nat) (lw : Nat) (kd : Nat → Nat) (wo : Nat → Nat) (ha : Nat → Nat) (we : Nat → Nat) (td : Nat → Nat) (g : Nat) (g0 : Nat) (dd : Nat) (er : Int) (cg : Nat) (x : tx_5) (ld : Nat → Nat) (rf : Nat → Nat) (v : Int32) (hn : n ≤ 4) (hkd : ∀ e, kd e ≤ 5) (htd : ∀ e, td e < 4) (hd1 : 1 ≤ dy) (hdy : dy ≤ 20) (hld : ∀ e, ld e < 4) : mI (S := Nat × Int × Nat × tx_5 × (Nat → Nat)) l yX5_byLaw wsX5_byLaw ({ frames := 5, cells := 0, slots := 0, locals := 108 } : Room) D (tyc cs) sz [.ref xo, .int v] [(xo, .inr (5, [.ref h, .ref hk, .int (bI im), .ref tx, .ref g, .ref pn, .ref cn, .ref s0, .int (nI ss), .ref r0])), (h, .inr (4, [.ref k0, .ref k1, .ref k2, .ref k3, .ref k4, .ref k5, .int (nI n), .int (nI dy), .int (nI ch), .int (nI lw)])), (k0, aI cs 4 (tx_nf kd)), (k1, aI cs 4 (tx_nf wo)), (k2, aI cs 4 (tx_nf ha)), (k3, aI cs 4 (tx_nf we))] [(k4, aI cs 20 (tx_nf td)), (g, .inr (1, [.ref g0, .int (nI dd), .int (iI er), .int (nI cg), .int (nI x.1), .int (nI x.2.1), .int (nI x.2.2.1), .int (nI x.2.2.2.1), .int (nI x.2.2.2.2)])), (g0, aI cs 21 (tx_nf ld)), (r0, aI cs 7 (tx_nf rf))] (fun (r : Int32) (u : Nat × Int × Nat × tx_5 × (Nat → Nat)) => match u with | (dd2, er2, cg2, x2, ld2) => r = tx_ai (tx_q_byLaw n v) (nI (tx_tax (tx_T n kd td dy) (tx_cg td (dy - 1)) dy (tx_ix v))) ∧ ∀ e, ld2 e < 4) (fun (u : Nat × Int × Nat × tx_5 × (Nat → Nat)) => match u with | (dd2, er2, cg2, x2, ld2) => [(k4, aI cs 20 (tx_nf td)), (g, .inr (1, [.ref g0, .int (nI dd2), .int (iI er2), .int (nI cg2), .int (nI x2.1), .int (nI x2.2.1), .int (nI x2.2.2.1), .int (nI x2.2.2.2.1), .int (nI x2.2.2.2.2)])), (g0, aI cs 21 (tx_nf ld2)), (r0, aI cs 7 (tx_nf (tx_rf rf (tx_q_byLaw n v))))]) 0 0 := by
  unfold mI
  refine Met.ofW (cc := cX5_byLaw) (maxL := 2) (ret := (some .int)) (by decide) rfl ?_
  intro p e s m args below meth c s₁ B hml hv
  obtain ⟨rfl, hsz, hP, hK, hD0⟩ := hv
  have hx := B.exec
  have hb := B.bytes
  have hr := B.returns
  have hts := atoms_spec (ws := wsX5_byLaw) B.pre
  have hown : s.vm.findClass RX5 = some m.cls := findClass_of_methodNamed B.named
  have hlocks := B.notSynchronized
  subst hsz
  have hR := @en_R _ _ _ [(xo, .inr (5, [.ref h, .ref hk, .int (bI im), .ref tx, .ref g, .ref pn, .ref cn, .ref s0, .int (nI ss), .ref r0])), (h, .inr (4, [.ref k0, .ref k1, .ref k2, .ref k3, .ref k4, .ref k5, .int (nI n), .int (nI dy), .int (nI ch), .int (nI lw)])), (k0, aI cs 4 (tx_nf kd)), (k1, aI cs 4 (tx_nf wo)), (k2, aI cs 4 (tx_nf ha)), (k3, aI cs 4 (tx_nf we))] [(k4, aI cs 20 (tx_nf td)), (g, .inr (1, [.ref g0, .int (nI dd), .int (iI er), .int (nI cg), .int (nI x.1), .int (nI x.2.1), .int (nI x.2.2.1), .int (nI x.2.2.2.1), .int (nI x.2.2.2.2)])), (g0, aI cs 21 (tx_nf ld)), (r0, aI cs 7 (tx_nf rf))] _ hP hD0
  have hN := adN_of hD0
  have hD := en_D (wr := [(xo, .inr (5, [.ref h, .ref hk, .int (bI im), .ref tx, .ref g, .ref pn, .ref cn, .ref s0, .int (nI ss), .ref r0])), (h, .inr (4, [.ref k0, .ref k1, .ref k2, .ref k3, .ref k4, .ref k5, .int (nI n), .int (nI dy), .int (nI ch), .int (nI lw)])), (k0, aI cs 4 (tx_nf kd)), (k1, aI cs 4 (tx_nf wo)), (k2, aI cs 4 (tx_nf ha)), (k3, aI cs 4 (tx_nf we))]) (ww := [(k4, aI cs 20 (tx_nf td)), (g, .inr (1, [.ref g0, .int (nI dd), .int (iI er), .int (nI cg), .int (nI x.1), .int (nI x.2.1), .int (nI x.2.2.1), .int (nI x.2.2.2.1), .int (nI x.2.2.2.2)])), (g0, aI cs 21 (tx_nf ld)), (r0, aI cs 7 (tx_nf rf))]) (sz := s.heap.size) hD0
  have hP := en_P (wr := [(xo, .inr (5, [.ref h, .ref hk, .int (bI im), .ref tx, .ref g, .ref pn, .ref cn, .ref s0, .int (nI ss), .ref r0])), (h, .inr (4, [.ref k0, .ref k1, .ref k2, .ref k3, .ref k4, .ref k5, .int (nI n), .int (nI dy), .int (nI ch), .int (nI lw)])), (k0, aI cs 4 (tx_nf kd)), (k1, aI cs 4 (tx_nf wo)), (k2, aI cs 4 (tx_nf ha)), (k3, aI cs 4 (tx_nf we))]) (ww := [(k4, aI cs 20 (tx_nf td)), (g, .inr (1, [.ref g0, .int (nI dd), .int (iI er), .int (nI cg), .int (nI x.1), .int (nI x.2.1), .int (nI x.2.2.1), .int (nI x.2.2.2.1), .int (nI x.2.2.2.2)])), (g0, aI cs 21 (tx_nf ld)), (r0, aI cs 7 (tx_nf rf))]) hP
  generalize hAe : va_A [(k4, aI cs 20 (tx_nf td)), (g, .inr (1, [.ref g0, .int (nI dd), .int (iI er), .int (nI cg), .int (nI x.1), .int (nI x.2.1), .int (nI x.2.2.1), .int (nI x.2.2.2.1), .int (nI x.2.2.2.2)])), (g0, aI cs 21 (tx_nf ld)), (r0, aI cs 7 (tx_nf rf))] s.heap.size = A at hD hR ⊢
  have hA : ∀ q : Nat, s.heap.size ≤ q → A q := fun q h => by rw [← hAe]; exact Or.inr h
  have hS : va_S A s.heap s.heap [] := va_S.rf
  have hN : adN [xo, h, k0, k1, k2, k3, k4, g, g0, r0] := hN
  have hf_10 := hts (.fieldLink RX5 10 "TaxedByLongest" "told" "LTaxedByLongest$Told;") (by decide +kernel)
  have hf_33 := hts (.fieldLink RX5 33 "TaxedByLongest" "look" "LTaxedByLongest$Look;") (by decide +kernel)
  have hf_141 := hts (.fieldLink RX5 141 "TaxedByLongest$Told" "things" "I") (by decide +kernel)
  have in_X4 : ∀ w ∈ wsX40, w ∈ wsX5_byLaw := by decide +kernel
  have in_X5 : ∀ w ∈ wsX50, w ∈ wsX5_byLaw := by decide +kernel
  have hl := lv_entry ([.ref xo, .int v]) (n := 2) (Nat.le_of_ble_eq_true rfl)
  rw [lg_entry_eq]
  generalize (lg_sl ([.ref xo, .int v]) ++ List.replicate (2 - (lg_sl ([.ref xo, .int v])).length) Slot.unset).toArray = ls at hl ⊢
  have hl : lv_has ls 2 [(0, .ref xo), (1, .int v)] := hl
  refine lv_iload_n hx hb dX5_byLaw_0 rfl (lv_at hl 1 rfl) ?_
  refine cS_i (As := [.int v]) (rest := []) (cr := []) (cw1 := []) ⟨hx, hb, hml, hown, hts⟩ (c_X5_isLaw l D cs _ v ) (va_cwS 1 hts gX5_byLaw_X5_isLaw rfl rfl rfl (by decide +kernel) ⟨Nat.le_of_ble_eq_true rfl, Nat.le_of_ble_eq_true rfl⟩) hK hP hD hS hA (((hR hS).app hP).sub [] rfl) (dt_of hN [] (by decide) rfl) [] rfl rfl hl.1 rfl (Nat.le_of_ble_eq_true rfl) dX5_byLaw_1 ⟨Nat.le_of_ble_eq_true rfl, Nat.le_of_ble_eq_true rfl⟩ (fun _ => rfl) (fun _ => rfl) (fun r_1 u9 H locs hw_2 hP hD hS => ?_)
  have hP : va_P D vwCl [(k4, aI cs 20 (tx_nf td)), (g, .inr (1, [.ref g0, .int (nI dd), .int (iI er), .int (nI cg), .int (nI x.1), .int (nI x.2.1), .int (nI x.2.2.1), .int (nI x.2.2.2.1), .int (nI x.2.2.2.2)])), (g0, aI cs 21 (tx_nf ld)), (r0, aI cs 7 (tx_nf rf))] H := hP
  have hD : va_D A [(k4, aI cs 20 (tx_nf td)), (g, .inr (1, [.ref g0, .int (nI dd), .int (iI er), .int (nI cg), .int (nI x.1), .int (nI x.2.1), .int (nI x.2.2.1), .int (nI x.2.2.2.1), .int (nI x.2.2.2.2)])), (g0, aI cs 21 (tx_nf ld)), (r0, aI cs 7 (tx_nf rf))] := hD
  subst r_1
  refine bb_ne (b := tx_il v) (tgt := 14) hx hb rfl dX5_byLaw_4 (by decide) (fun c4 => ?_) (fun c4 => ?_)
  · obtain ⟨j, hj, rfl⟩ := tx_il_t c4
    have hij : tx_ix (nI j) = j := tx_ix_n (by omega)
    refine lv_aload_n hx hb dX5_byLaw_14 rfl (lv_at hl 0 rfl) ?_
    refine va_get (D := D) (ci := 5) (v := .ref h) (C := RX5) (T := TX5) (N := 10) hx hb hts in_X5 hown hK (hR hS) 0 rfl rfl 0 (by decide) hf_10 (fun _ h9 => h9) rfl dX5_byLaw_15 ?_
    refine va_get (D := D) (ci := 4) (v := .int (nI n)) (C := RX4) (T := TX4) (N := 10) hx hb hts in_X4 hown hK (hR hS) 1 rfl rfl 6 (by decide) hf_141 (fun _ h9 => h9) rfl dX5_byLaw_18 ?_
    refine bz_ne (a := n) (tgt := 31) hx hb rfl (by omega) dX5_byLaw_21 (by decide) (fun c21 => ?_) (fun c21 => ?_)
    · refine lv_aload_n hx hb dX5_byLaw_31 rfl (lv_at hl 0 rfl) ?_
      refine cV_v (As := []) (rest := []) (cr := [(xo, .inr (5, [.ref h, .ref hk, .int (bI im), .ref tx, .ref g, .ref pn, .ref cn, .ref s0, .int (nI ss), .ref r0])), (h, .inr (4, [.ref k0, .ref k1, .ref k2, .ref k3, .ref k4, .ref k5, .int (nI n), .int (nI dy), .int (nI ch), .int (nI lw)])), (k0, aI cs 4 (tx_nf kd)), (k1, aI cs 4 (tx_nf wo)), (k2, aI cs 4 (tx_nf ha)), (k3, aI cs 4 (tx_nf we))]) (cw1 := [(k4, aI cs 20 (tx_nf td)), (g, .inr (1, [.ref g0, .int (nI dd), .int (iI er), .int (nI cg), .int (nI x.1), .int (nI x.2.1), .int (nI x.2.2.1), .int (nI x.2.2.2.1), .int (nI x.2.2.2.2)])), (g0, aI cs 21 (tx_nf ld))]) ⟨hx, hb, hml, hown, hts⟩ (c_X5_lookAtNow l D cs _ xo hk im tx pn cn s0 ss r0 h k0 k1 k2 k3 k4 k5 n dy ch lw kd wo ha we td g g0 dd er cg x ld (by first | assumption | omega) (by first | assumption | omega) (by first | assumption | omega) (by first | assumption | omega) (by first | assumption | omega) (by first | assumption | omega)) (cwV 0 hts gX5_byLaw_X5_lookAtNow rfl rfl rfl (by decide +kernel) ⟨Nat.le_of_ble_eq_true rfl, Nat.le_of_ble_eq_true rfl⟩) hK hP hD hS hA (((hR hS).app hP).sub [0, 1, 2, 3, 4, 5, 6, 7, 8] rfl) (dt_of hN [0, 1, 2, 3, 4, 5, 6, 7, 8] (by decide) rfl) [0, 1, 2] rfl 0 rfl rfl rfl hl.1 rfl (Nat.le_of_ble_eq_true rfl) dX5_byLaw_32 ⟨Nat.le_of_ble_eq_true rfl, Nat.le_of_ble_eq_true rfl⟩ (fun _ => rfl) (fun _ => rfl) (fun u9 H locs hw_3 hP hD hS => ?_)
      have hP : va_P D vwCl [(k4, aI cs 20 (tx_nf td)), (g, .inr (1, [.ref g0, .int (nI dy), .int (iI (tx_earn n kd wo ha we td dy ch)), .int (nI (tx_cg td (dy - 1))), .int (nI ((tx_T n kd td dy).1)), .int (nI ((tx_T n kd td dy).2.1)), .int (nI ((tx_T n kd td dy).2.2.1)), .int (nI ((tx_T n kd td dy).2.2.2.1)), .int (nI ((tx_T n kd td dy).2.2.2.2))])), (g0, aI cs 21 (tx_nf (tx_l20 td ld))), (r0, aI cs 7 (tx_nf rf))] H := hP
      have hD : va_D A [(k4, aI cs 20 (tx_nf td)), (g, .inr (1, [.ref g0, .int (nI dy), .int (iI (tx_earn n kd wo ha we td dy ch)), .int (nI (tx_cg td (dy - 1))), .int (nI ((tx_T n kd td dy).1)), .int (nI ((tx_T n kd td dy).2.1)), .int (nI ((tx_T n kd td dy).2.2.1)), .int (nI ((tx_T n kd td dy).2.2.2.1)), .int (nI ((tx_T n kd td dy).2.2.2.2))])), (g0, aI cs 21 (tx_nf (tx_l20 td ld))), (r0, aI cs 7 (tx_nf rf))] := hD
      refine lv_aload_n hx hb dX5_byLaw_35 rfl (lv_at hl 0 rfl) ?_
      refine va_get (D := D) (ci := 5) (v := .ref g) (C := RX5) (T := TX5) (N := 10) hx hb hts in_X5 hown hK (hR hS) 0 rfl rfl 4 (by decide) hf_33 (fun _ h9 => h9) rfl dX5_byLaw_36 ?_
      refine lv_iload_n hx hb dX5_byLaw_39 rfl (lv_at hl 1 rfl) ?_
      refine cV_i (As := [.int (nI j)]) (rest := []) (cr := [(g, .inr (1, [.ref g0, .int (nI dy), .int (iI (tx_earn n kd wo ha we td dy ch)), .int (nI (tx_cg td (dy - 1))), .int (nI ((tx_T n kd td dy).1)), .int (nI ((tx_T n kd td dy).2.1)), .int (nI ((tx_T n kd td dy).2.2.1)), .int (nI ((tx_T n kd td dy).2.2.2.1)), .int (nI ((tx_T n kd td dy).2.2.2.2))]))]) (cw1 := []) ⟨hx, hb, hml, hown, hts⟩ (c_X1_taxBy l D cs _ g g0 dy (tx_earn n kd wo ha we td dy ch) (tx_cg td (dy - 1)) (tx_T n kd td dy) j (by first | assumption | omega)) (cwV 1 hts gX5_byLaw_X1_taxBy rfl rfl rfl (by decide +kernel) ⟨Nat.le_of_ble_eq_true rfl, Nat.le_of_ble_eq_true rfl⟩) hK hP hD hS hA (((hR hS).app hP).sub [7] rfl) (dt_of hN [7] (by decide) rfl) [] rfl 0 rfl rfl rfl hl.1 rfl (Nat.le_of_ble_eq_true rfl) dX5_byLaw_40 ⟨Nat.le_of_ble_eq_true rfl, Nat.le_of_ble_eq_true rfl⟩ (fun _ => rfl) (fun _ => rfl) (fun r_4 u9 H locs hw_5 hP hD hS => ?_)
      have hP : va_P D vwCl [(k4, aI cs 20 (tx_nf td)), (g, .inr (1, [.ref g0, .int (nI dy), .int (iI (tx_earn n kd wo ha we td dy ch)), .int (nI (tx_cg td (dy - 1))), .int (nI ((tx_T n kd td dy).1)), .int (nI ((tx_T n kd td dy).2.1)), .int (nI ((tx_T n kd td dy).2.2.1)), .int (nI ((tx_T n kd td dy).2.2.2.1)), .int (nI ((tx_T n kd td dy).2.2.2.2))])), (g0, aI cs 21 (tx_nf (tx_l20 td ld))), (r0, aI cs 7 (tx_nf rf))] H := hP
      have hD : va_D A [(k4, aI cs 20 (tx_nf td)), (g, .inr (1, [.ref g0, .int (nI dy), .int (iI (tx_earn n kd wo ha we td dy ch)), .int (nI (tx_cg td (dy - 1))), .int (nI ((tx_T n kd td dy).1)), .int (nI ((tx_T n kd td dy).2.1)), .int (nI ((tx_T n kd td dy).2.2.1)), .int (nI ((tx_T n kd td dy).2.2.2.1)), .int (nI ((tx_T n kd td dy).2.2.2.2))])), (g0, aI cs 21 (tx_nf (tx_l20 td ld))), (r0, aI cs 7 (tx_nf rf))] := hD
      subst r_4
      have hQ : tx_q_byLaw n (nI j) = 0 := by simp [tx_q_byLaw, tx_q_n, c4, c21, Nat.pos_iff_ne_zero.mp c21]
      have e9 : tx_rf rf (tx_q_byLaw n (nI j)) = rf := by rw [hQ] <;> rfl
      have hP : va_P D vwCl [(k4, aI cs 20 (tx_nf td)), (g, .inr (1, [.ref g0, .int (nI dy), .int (iI (tx_earn n kd wo ha we td dy ch)), .int (nI (tx_cg td (dy - 1))), .int (nI ((tx_T n kd td dy).1)), .int (nI ((tx_T n kd td dy).2.1)), .int (nI ((tx_T n kd td dy).2.2.1)), .int (nI ((tx_T n kd td dy).2.2.2.1)), .int (nI ((tx_T n kd td dy).2.2.2.2))])), (g0, aI cs 21 (tx_nf (tx_l20 td ld))), (r0, aI cs 7 (tx_nf (tx_rf rf (tx_q_byLaw n (nI j)))))] H := by rw [e9]; (try simp only [hQ]); exact hP
      have hD : va_D A [(k4, aI cs 20 (tx_nf td)), (g, .inr (1, [.ref g0, .int (nI dy), .int (iI (tx_earn n kd wo ha we td dy ch)), .int (nI (tx_cg td (dy - 1))), .int (nI ((tx_T n kd td dy).1)), .int (nI ((tx_T n kd td dy).2.1)), .int (nI ((tx_T n kd td dy).2.2.1)), .int (nI ((tx_T n kd td dy).2.2.2.1)), .int (nI ((tx_T n kd td dy).2.2.2.2))])), (g0, aI cs 21 (tx_nf (tx_l20 td ld))), (r0, aI cs 7 (tx_nf (tx_rf rf (tx_q_byLaw n (nI j)))))] := by rw [e9]; (try simp only [hQ]); exact hD
      exact rt_i hx hb hr hlocks (dy, tx_earn n kd wo ha we td dy ch, tx_cg td (dy - 1), tx_T n kd td dy, tx_l20 td ld) (⟨by rw [hQ] <;> (rw [hij]; rfl), tx_l20_4 htd hld⟩) hP hD hS dX5_byLaw_43
    · refine lv_aload_n hx hb dX5_byLaw_24 rfl (lv_at hl 0 rfl) ?_
      refine lv_bipush (v := (-3)) hx hb dX5_byLaw_25 (by decide) ?_
      refine cV_i (As := [.int (-3)]) (rest := []) (cr := [(xo, .inr (5, [.ref h, .ref hk, .int (bI im), .ref tx, .ref g, .ref pn, .ref cn, .ref s0, .int (nI ss), .ref r0]))]) (cw1 := [(r0, aI cs 7 (tx_nf rf))]) ⟨hx, hb, hml, hown, hts⟩ (c_X5_refuse l D cs _ xo hk im tx pn cn s0 ss r0 h g rf (-3) 3 (by decide) (by decide) (by decide)) (cwV 1 hts gX5_byLaw_X5_refuse rfl rfl rfl (by decide +kernel) ⟨Nat.le_of_ble_eq_true rfl, Nat.le_of_ble_eq_true rfl⟩) hK hP hD hS hA (((hR hS).app hP).sub [0, 9] rfl) (dt_of hN [0, 9] (by decide) rfl) [3] rfl 0 rfl rfl rfl hl.1 rfl (Nat.le_of_ble_eq_true rfl) dX5_byLaw_27 ⟨Nat.le_of_ble_eq_true rfl, Nat.le_of_ble_eq_true rfl⟩ (fun _ => rfl) (fun _ => rfl) (fun r_6 u9 H locs hw_7 hP hD hS => ?_)
      have hP : va_P D vwCl [(k4, aI cs 20 (tx_nf td)), (g, .inr (1, [.ref g0, .int (nI dd), .int (iI er), .int (nI cg), .int (nI x.1), .int (nI x.2.1), .int (nI x.2.2.1), .int (nI x.2.2.2.1), .int (nI x.2.2.2.2)])), (g0, aI cs 21 (tx_nf ld)), (r0, aI cs 7 (tx_nf (tx_rf rf 3)))] H := hP
      have hD : va_D A [(k4, aI cs 20 (tx_nf td)), (g, .inr (1, [.ref g0, .int (nI dd), .int (iI er), .int (nI cg), .int (nI x.1), .int (nI x.2.1), .int (nI x.2.2.1), .int (nI x.2.2.2.1), .int (nI x.2.2.2.2)])), (g0, aI cs 21 (tx_nf ld)), (r0, aI cs 7 (tx_nf (tx_rf rf 3)))] := hD
      subst r_6
      have hQ : tx_q_byLaw n (nI j) = 3 := by simp [tx_q_byLaw, tx_q_n, c4, c21]
      have e9 : tx_rf rf (tx_q_byLaw n (nI j)) = tx_rf rf 3 := by rw [hQ] <;> rfl
      have hP : va_P D vwCl [(k4, aI cs 20 (tx_nf td)), (g, .inr (1, [.ref g0, .int (nI dd), .int (iI er), .int (nI cg), .int (nI x.1), .int (nI x.2.1), .int (nI x.2.2.1), .int (nI x.2.2.2.1), .int (nI x.2.2.2.2)])), (g0, aI cs 21 (tx_nf ld)), (r0, aI cs 7 (tx_nf (tx_rf rf (tx_q_byLaw n (nI j)))))] H := by rw [e9]; (try simp only [hQ]); exact hP
      have hD : va_D A [(k4, aI cs 20 (tx_nf td)), (g, .inr (1, [.ref g0, .int (nI dd), .int (iI er), .int (nI cg), .int (nI x.1), .int (nI x.2.1), .int (nI x.2.2.1), .int (nI x.2.2.2.1), .int (nI x.2.2.2.2)])), (g0, aI cs 21 (tx_nf ld)), (r0, aI cs 7 (tx_nf (tx_rf rf (tx_q_byLaw n (nI j)))))] := by rw [e9]; (try simp only [hQ]); exact hD
      exact rt_i hx hb hr hlocks (dd, er, cg, x, ld) (⟨by rw [hQ] <;> (first | done | rfl), hld⟩) hP hD hS dX5_byLaw_30
  · refine lv_aload_n hx hb dX5_byLaw_7 rfl (lv_at hl 0 rfl) ?_
    refine lv_bipush (v := (-2)) hx hb dX5_byLaw_8 (by decide) ?_
    refine cV_i (As := [.int (-2)]) (rest := []) (cr := [(xo, .inr (5, [.ref h, .ref hk, .int (bI im), .ref tx, .ref g, .ref pn, .ref cn, .ref s0, .int (nI ss), .ref r0]))]) (cw1 := [(r0, aI cs 7 (tx_nf rf))]) ⟨hx, hb, hml, hown, hts⟩ (c_X5_refuse l D cs _ xo hk im tx pn cn s0 ss r0 h g rf (-2) 2 (by decide) (by decide) (by decide)) (cwV 1 hts gX5_byLaw_X5_refuse rfl rfl rfl (by decide +kernel) ⟨Nat.le_of_ble_eq_true rfl, Nat.le_of_ble_eq_true rfl⟩) hK hP hD hS hA (((hR hS).app hP).sub [0, 9] rfl) (dt_of hN [0, 9] (by decide) rfl) [3] rfl 0 rfl rfl rfl hl.1 rfl (Nat.le_of_ble_eq_true rfl) dX5_byLaw_10 ⟨Nat.le_of_ble_eq_true rfl, Nat.le_of_ble_eq_true rfl⟩ (fun _ => rfl) (fun _ => rfl) (fun r_8 u9 H locs hw_9 hP hD hS => ?_)
    have hP : va_P D vwCl [(k4, aI cs 20 (tx_nf td)), (g, .inr (1, [.ref g0, .int (nI dd), .int (iI er), .int (nI cg), .int (nI x.1), .int (nI x.2.1), .int (nI x.2.2.1), .int (nI x.2.2.2.1), .int (nI x.2.2.2.2)])), (g0, aI cs 21 (tx_nf ld)), (r0, aI cs 7 (tx_nf (tx_rf rf 2)))] H := hP
    have hD : va_D A [(k4, aI cs 20 (tx_nf td)), (g, .inr (1, [.ref g0, .int (nI dd), .int (iI er), .int (nI cg), .int (nI x.1), .int (nI x.2.1), .int (nI x.2.2.1), .int (nI x.2.2.2.1), .int (nI x.2.2.2.2)])), (g0, aI cs 21 (tx_nf ld)), (r0, aI cs 7 (tx_nf (tx_rf rf 2)))] := hD
    subst r_8
    have hQ : tx_q_byLaw n v = 2 := by simp [tx_q_byLaw, tx_q_n, c4]
    have e9 : tx_rf rf (tx_q_byLaw n v) = tx_rf rf 2 := by rw [hQ] <;> rfl
    have hP : va_P D vwCl [(k4, aI cs 20 (tx_nf td)), (g, .inr (1, [.ref g0, .int (nI dd), .int (iI er), .int (nI cg), .int (nI x.1), .int (nI x.2.1), .int (nI x.2.2.1), .int (nI x.2.2.2.1), .int (nI x.2.2.2.2)])), (g0, aI cs 21 (tx_nf ld)), (r0, aI cs 7 (tx_nf (tx_rf rf (tx_q_byLaw n v))))] H := by rw [e9]; (try simp only [hQ]); exact hP
    have hD : va_D A [(k4, aI cs 20 (tx_nf td)), (g, .inr (1, [.ref g0, .int (nI dd), .int (iI er), .int (nI cg), .int (nI x.1), .int (nI x.2.1), .int (nI x.2.2.1), .int (nI x.2.2.2.1), .int (nI x.2.2.2.2)])), (g0, aI cs 21 (tx_nf ld)), (r0, aI cs 7 (tx_nf (tx_rf rf (tx_q_byLaw n v))))] := by rw [e9]; (try simp only [hQ]); exact hD
    exact rt_i hx hb hr hlocks (dd, er, cg, x, ld) (⟨by rw [hQ] <;> (first | done | rfl), hld⟩) hP hD hS dX5_byLaw_13
set_option maxHeartbeats 4000000 in
set_option maxRecDepth 100000 in
theorem c_X6_earned (l : Launch) (D : va_G) (cs : Nat → ClassId) (sz : Nat) (o : Nat) (o1 : Nat) (o2 : Nat) (o3 : Nat) (o4 : Nat) (o5 : Nat) (o6 : Nat) (o7 : Nat) (o8 : Nat) (o9 : Nat) (o10 : Nat) (o11 : Nat) (o12 : Nat) (o13 : Nat) (o14 : Nat) (o15 : Nat) (n : Nat) (dy : Nat) (ch : Nat) (lw : Nat) (tz : Nat) (at9 : Nat) (va9 : Nat) (ss : Nat) (im : Bool) (kd : Nat → Nat) (wo : Nat → Nat) (ha : Nat → Nat) (we : Nat → Nat) (td : Nat → Nat) (rf : Nat → Nat) (hn : n ≤ 4) (hd1 : 1 ≤ dy) (hdy : dy ≤ 20) (htd : ∀ e, td e < 4) (htn : ∀ e, 0 < n → td e < n) (hkd : ∀ e, kd e ≤ 5) : mI (S := Unit) l yX6_earned wsX6_earned ({ frames := 2, cells := 0, slots := 0, locals := 45 } : Room) D (tyc cs) sz [.ref o] [(o, .inr (6, [.int (nI n), .ref o1, .ref o2, .ref o3, .ref o4, .int (nI dy), .ref o5, .ref o6, .int (nI ch), .int (nI lw), .int (nI tz), .ref o7, .int (nI at9), .int (nI va9), .int (nI ss), .ref o8, .ref o9, .int (bI im), .ref o10, .ref o11, .ref o12, .ref o13, .ref o14, .ref o15])), (o1, aI cs 4 (tx_nf kd)), (o2, aI cs 4 (tx_nf wo)), (o3, aI cs 4 (tx_nf ha)), (o4, aI cs 4 (tx_nf we)), (o5, aI cs 21 (tx_nf td))] [(o9, aI cs 7 (tx_nf rf))] (fun (r : Int32) (u : Unit) => r = tx_af (tx_q_n n) (iI (tx_earn n kd wo ha we td dy ch))) (fun _ => [(o9, aI cs 7 (tx_nf (tx_rf rf (tx_q_n n))))]) 0 0 := by
  unfold mI
  refine Met.ofW (cc := cX6_earned) (maxL := 1) (ret := (some .int)) (by decide) rfl ?_
  intro p e s m args below meth c s₁ B hml hv
  obtain ⟨rfl, hsz, hP, hK, hD0⟩ := hv
  have hx := B.exec
  have hb := B.bytes
  have hr := B.returns
  have hts := atoms_spec (ws := wsX6_earned) B.pre
  have hown : s.vm.findClass RX6 = some m.cls := findClass_of_methodNamed B.named
  have hlocks := B.notSynchronized
  subst hsz
  have hR := @en_R _ _ _ [(o, .inr (6, [.int (nI n), .ref o1, .ref o2, .ref o3, .ref o4, .int (nI dy), .ref o5, .ref o6, .int (nI ch), .int (nI lw), .int (nI tz), .ref o7, .int (nI at9), .int (nI va9), .int (nI ss), .ref o8, .ref o9, .int (bI im), .ref o10, .ref o11, .ref o12, .ref o13, .ref o14, .ref o15])), (o1, aI cs 4 (tx_nf kd)), (o2, aI cs 4 (tx_nf wo)), (o3, aI cs 4 (tx_nf ha)), (o4, aI cs 4 (tx_nf we)), (o5, aI cs 21 (tx_nf td))] [(o9, aI cs 7 (tx_nf rf))] _ hP hD0
  have hN := adN_of hD0
  have hD := en_D (wr := [(o, .inr (6, [.int (nI n), .ref o1, .ref o2, .ref o3, .ref o4, .int (nI dy), .ref o5, .ref o6, .int (nI ch), .int (nI lw), .int (nI tz), .ref o7, .int (nI at9), .int (nI va9), .int (nI ss), .ref o8, .ref o9, .int (bI im), .ref o10, .ref o11, .ref o12, .ref o13, .ref o14, .ref o15])), (o1, aI cs 4 (tx_nf kd)), (o2, aI cs 4 (tx_nf wo)), (o3, aI cs 4 (tx_nf ha)), (o4, aI cs 4 (tx_nf we)), (o5, aI cs 21 (tx_nf td))]) (ww := [(o9, aI cs 7 (tx_nf rf))]) (sz := s.heap.size) hD0
  have hP := en_P (wr := [(o, .inr (6, [.int (nI n), .ref o1, .ref o2, .ref o3, .ref o4, .int (nI dy), .ref o5, .ref o6, .int (nI ch), .int (nI lw), .int (nI tz), .ref o7, .int (nI at9), .int (nI va9), .int (nI ss), .ref o8, .ref o9, .int (bI im), .ref o10, .ref o11, .ref o12, .ref o13, .ref o14, .ref o15])), (o1, aI cs 4 (tx_nf kd)), (o2, aI cs 4 (tx_nf wo)), (o3, aI cs 4 (tx_nf ha)), (o4, aI cs 4 (tx_nf we)), (o5, aI cs 21 (tx_nf td))]) (ww := [(o9, aI cs 7 (tx_nf rf))]) hP
  generalize hAe : va_A [(o9, aI cs 7 (tx_nf rf))] s.heap.size = A at hD hR ⊢
  have hA : ∀ q : Nat, s.heap.size ≤ q → A q := fun q h => by rw [← hAe]; exact Or.inr h
  have hS : va_S A s.heap s.heap [] := va_S.rf
  have hN : adN [o, o1, o2, o3, o4, o5, o9] := hN
  have hf_71 := hts (.fieldLink RX6 71 "TaxedByLongestModel" "things" "I") (by decide +kernel)
  have in_X6 : ∀ w ∈ wsX60, w ∈ wsX6_earned := by decide +kernel
  have hl := lv_entry ([.ref o]) (n := 1) (Nat.le_of_ble_eq_true rfl)
  rw [lg_entry_eq]
  generalize (lg_sl ([.ref o]) ++ List.replicate (1 - (lg_sl ([.ref o])).length) Slot.unset).toArray = ls at hl ⊢
  have hl : lv_has ls 1 [(0, .ref o)] := hl
  refine lv_aload_n hx hb dX6_earned_0 rfl (lv_at hl 0 rfl) ?_
  refine va_get (D := D) (ci := 6) (v := .int (nI n)) (C := RX6) (T := TX6) (N := 24) hx hb hts in_X6 hown hK (hR hS) 0 rfl rfl 0 (by decide) hf_71 (fun _ h9 => h9) rfl dX6_earned_1 ?_
  refine bz_ne (a := n) (tgt := 16) hx hb rfl (by omega) dX6_earned_4 (by decide) (fun c4 => ?_) (fun c4 => ?_)
  · refine lv_aload_n hx hb dX6_earned_16 rfl (lv_at hl 0 rfl) ?_
    refine cV_i (As := []) (rest := []) (cr := [(o, .inr (6, [.int (nI n), .ref o1, .ref o2, .ref o3, .ref o4, .int (nI dy), .ref o5, .ref o6, .int (nI ch), .int (nI lw), .int (nI tz), .ref o7, .int (nI at9), .int (nI va9), .int (nI ss), .ref o8, .ref o9, .int (bI im), .ref o10, .ref o11, .ref o12, .ref o13, .ref o14, .ref o15])), (o1, aI cs 4 (tx_nf kd)), (o2, aI cs 4 (tx_nf wo)), (o3, aI cs 4 (tx_nf ha)), (o4, aI cs 4 (tx_nf we)), (o5, aI cs 21 (tx_nf td))]) (cw1 := []) ⟨hx, hb, hml, hown, hts⟩ (c_X6_earnedNow l D cs _ o o1 o2 o3 o4 o5 o6 o7 o8 o9 o10 o11 o12 o13 o14 o15 n dy ch lw tz at9 va9 ss im kd wo ha we td (by first | assumption | omega) (by first | assumption | omega) (by first | assumption | omega) (by first | assumption | omega) (by first | assumption | omega) (by first | assumption | omega) (by first | assumption | omega)) (cwV 0 hts gX6_earned_X6_earnedNow rfl rfl rfl (by decide +kernel) ⟨Nat.le_of_ble_eq_true rfl, Nat.le_of_ble_eq_true rfl⟩) hK hP hD hS hA (((hR hS).app hP).sub [0, 1, 2, 3, 4, 5] rfl) (dt_of hN [0, 1, 2, 3, 4, 5] (by decide) rfl) [] rfl 0 rfl rfl rfl hl.1 rfl (Nat.le_of_ble_eq_true rfl) dX6_earned_17 ⟨Nat.le_of_ble_eq_true rfl, Nat.le_of_ble_eq_true rfl⟩ (fun _ => rfl) (fun _ => rfl) (fun r_1 u9 H locs hw_2 hP hD hS => ?_)
    have hP : va_P D vwCl [(o9, aI cs 7 (tx_nf rf))] H := hP
    have hD : va_D A [(o9, aI cs 7 (tx_nf rf))] := hD
    subst r_1
    have hQ : tx_q_n n = 0 := by simp [tx_q_n, c4, Nat.pos_iff_ne_zero.mp c4]
    have e9 : tx_rf rf (tx_q_n n) = rf := by rw [hQ] <;> rfl
    have hP : va_P D vwCl [(o9, aI cs 7 (tx_nf (tx_rf rf (tx_q_n n))))] H := by rw [e9]; (try simp only [hQ]); exact hP
    have hD : va_D A [(o9, aI cs 7 (tx_nf (tx_rf rf (tx_q_n n))))] := by rw [e9]; (try simp only [hQ]); exact hD
    exact rt_i hx hb hr hlocks () (by rw [hQ] <;> (rfl)) hP hD hS dX6_earned_20
  · refine lv_aload_n hx hb dX6_earned_7 rfl (lv_at hl 0 rfl) ?_
    refine lv_bipush (v := (-3)) hx hb dX6_earned_8 (by decide) ?_
    refine cV_i (As := [.int (-3)]) (rest := []) (cr := [(o, .inr (6, [.int (nI n), .ref o1, .ref o2, .ref o3, .ref o4, .int (nI dy), .ref o5, .ref o6, .int (nI ch), .int (nI lw), .int (nI tz), .ref o7, .int (nI at9), .int (nI va9), .int (nI ss), .ref o8, .ref o9, .int (bI im), .ref o10, .ref o11, .ref o12, .ref o13, .ref o14, .ref o15]))]) (cw1 := [(o9, aI cs 7 (tx_nf rf))]) ⟨hx, hb, hml, hown, hts⟩ (c_X6_noFar l D cs _ o o1 o2 o3 o4 o5 o6 o7 o8 o9 o10 o11 o12 o13 o14 o15 n dy ch lw tz at9 va9 ss im rf (-3) 3 (by decide) (by decide) (by decide)) (cwV 1 hts gX6_earned_X6_noFar rfl rfl rfl (by decide +kernel) ⟨Nat.le_of_ble_eq_true rfl, Nat.le_of_ble_eq_true rfl⟩) hK hP hD hS hA (((hR hS).app hP).sub [0, 6] rfl) (dt_of hN [0, 6] (by decide) rfl) [0] rfl 0 rfl rfl rfl hl.1 rfl (Nat.le_of_ble_eq_true rfl) dX6_earned_10 ⟨Nat.le_of_ble_eq_true rfl, Nat.le_of_ble_eq_true rfl⟩ (fun _ => rfl) (fun _ => rfl) (fun r_3 u9 H locs hw_4 hP hD hS => ?_)
    have hP : va_P D vwCl [(o9, aI cs 7 (tx_nf (tx_rf rf 3)))] H := hP
    have hD : va_D A [(o9, aI cs 7 (tx_nf (tx_rf rf 3)))] := hD
    subst r_3
    refine lv_goto (tgt := 20) hx hb dX6_earned_13 (by decide) ?_
    have hQ : tx_q_n n = 3 := by simp [tx_q_n, c4]
    have e9 : tx_rf rf (tx_q_n n) = tx_rf rf 3 := by rw [hQ] <;> rfl
    have hP : va_P D vwCl [(o9, aI cs 7 (tx_nf (tx_rf rf (tx_q_n n))))] H := by rw [e9]; (try simp only [hQ]); exact hP
    have hD : va_D A [(o9, aI cs 7 (tx_nf (tx_rf rf (tx_q_n n))))] := by rw [e9]; (try simp only [hQ]); exact hD
    exact rt_i hx hb hr hlocks () (by rw [hQ] <;> (first | done | rfl)) hP hD hS dX6_earned_20
set_option maxHeartbeats 4000000 in
set_option maxRecDepth 100000 in
theorem c_X6_pays (l : Launch) (D : va_G) (cs : Nat → ClassId) (sz : Nat) (o : Nat) (o1 : Nat) (o2 : Nat) (o3 : Nat) (o4 : Nat) (o5 : Nat) (o6 : Nat) (o7 : Nat) (o8 : Nat) (o9 : Nat) (o10 : Nat) (o11 : Nat) (o12 : Nat) (o13 : Nat) (o14 : Nat) (o15 : Nat) (n : Nat) (dy : Nat) (ch : Nat) (lw : Nat) (tz : Nat) (at9 : Nat) (va9 : Nat) (ss : Nat) (im : Bool) (kd : Nat → Nat) (td : Nat → Nat) (rf : Nat → Nat) (hn : n ≤ 4) (hd1 : 1 ≤ dy) (hdy : dy ≤ 20) (htd : ∀ e, td e < 4) (htn : ∀ e, 0 < n → td e < n) (hkd : ∀ e, kd e ≤ 5) (hlw : lw ≤ 5) : mI (S := Unit) l yX6_pays wsX6_pays ({ frames := 2, cells := 0, slots := 0, locals := 49 } : Room) D (tyc cs) sz [.ref o] [(o, .inr (6, [.int (nI n), .ref o1, .ref o2, .ref o3, .ref o4, .int (nI dy), .ref o5, .ref o6, .int (nI ch), .int (nI lw), .int (nI tz), .ref o7, .int (nI at9), .int (nI va9), .int (nI ss), .ref o8, .ref o9, .int (bI im), .ref o10, .ref o11, .ref o12, .ref o13, .ref o14, .ref o15])), (o1, aI cs 4 (tx_nf kd)), (o5, aI cs 21 (tx_nf td))] [(o9, aI cs 7 (tx_nf rf))] (fun (r : Int32) (u : Unit) => r = tx_ai (tx_q_n n) (nI (tx_tax (tx_T n kd td dy) (tx_cg td (dy - 1)) dy lw))) (fun _ => [(o9, aI cs 7 (tx_nf (tx_rf rf (tx_q_n n))))]) 0 0 := by
  unfold mI
  refine Met.ofW (cc := cX6_pays) (maxL := 1) (ret := (some .int)) (by decide) rfl ?_
  intro p e s m args below meth c s₁ B hml hv
  obtain ⟨rfl, hsz, hP, hK, hD0⟩ := hv
  have hx := B.exec
  have hb := B.bytes
  have hr := B.returns
  have hts := atoms_spec (ws := wsX6_pays) B.pre
  have hown : s.vm.findClass RX6 = some m.cls := findClass_of_methodNamed B.named
  have hlocks := B.notSynchronized
  subst hsz
  have hR := @en_R _ _ _ [(o, .inr (6, [.int (nI n), .ref o1, .ref o2, .ref o3, .ref o4, .int (nI dy), .ref o5, .ref o6, .int (nI ch), .int (nI lw), .int (nI tz), .ref o7, .int (nI at9), .int (nI va9), .int (nI ss), .ref o8, .ref o9, .int (bI im), .ref o10, .ref o11, .ref o12, .ref o13, .ref o14, .ref o15])), (o1, aI cs 4 (tx_nf kd)), (o5, aI cs 21 (tx_nf td))] [(o9, aI cs 7 (tx_nf rf))] _ hP hD0
  have hN := adN_of hD0
  have hD := en_D (wr := [(o, .inr (6, [.int (nI n), .ref o1, .ref o2, .ref o3, .ref o4, .int (nI dy), .ref o5, .ref o6, .int (nI ch), .int (nI lw), .int (nI tz), .ref o7, .int (nI at9), .int (nI va9), .int (nI ss), .ref o8, .ref o9, .int (bI im), .ref o10, .ref o11, .ref o12, .ref o13, .ref o14, .ref o15])), (o1, aI cs 4 (tx_nf kd)), (o5, aI cs 21 (tx_nf td))]) (ww := [(o9, aI cs 7 (tx_nf rf))]) (sz := s.heap.size) hD0
  have hP := en_P (wr := [(o, .inr (6, [.int (nI n), .ref o1, .ref o2, .ref o3, .ref o4, .int (nI dy), .ref o5, .ref o6, .int (nI ch), .int (nI lw), .int (nI tz), .ref o7, .int (nI at9), .int (nI va9), .int (nI ss), .ref o8, .ref o9, .int (bI im), .ref o10, .ref o11, .ref o12, .ref o13, .ref o14, .ref o15])), (o1, aI cs 4 (tx_nf kd)), (o5, aI cs 21 (tx_nf td))]) (ww := [(o9, aI cs 7 (tx_nf rf))]) hP
  generalize hAe : va_A [(o9, aI cs 7 (tx_nf rf))] s.heap.size = A at hD hR ⊢
  have hA : ∀ q : Nat, s.heap.size ≤ q → A q := fun q h => by rw [← hAe]; exact Or.inr h
  have hS : va_S A s.heap s.heap [] := va_S.rf
  have hN : adN [o, o1, o5, o9] := hN
  have hf_71 := hts (.fieldLink RX6 71 "TaxedByLongestModel" "things" "I") (by decide +kernel)
  have hf_114 := hts (.fieldLink RX6 114 "TaxedByLongestModel" "law" "I") (by decide +kernel)
  have in_X6 : ∀ w ∈ wsX60, w ∈ wsX6_pays := by decide +kernel
  have hl := lv_entry ([.ref o]) (n := 1) (Nat.le_of_ble_eq_true rfl)
  rw [lg_entry_eq]
  generalize (lg_sl ([.ref o]) ++ List.replicate (1 - (lg_sl ([.ref o])).length) Slot.unset).toArray = ls at hl ⊢
  have hl : lv_has ls 1 [(0, .ref o)] := hl
  refine lv_aload_n hx hb dX6_pays_0 rfl (lv_at hl 0 rfl) ?_
  refine va_get (D := D) (ci := 6) (v := .int (nI n)) (C := RX6) (T := TX6) (N := 24) hx hb hts in_X6 hown hK (hR hS) 0 rfl rfl 0 (by decide) hf_71 (fun _ h9 => h9) rfl dX6_pays_1 ?_
  refine bz_ne (a := n) (tgt := 16) hx hb rfl (by omega) dX6_pays_4 (by decide) (fun c4 => ?_) (fun c4 => ?_)
  · refine lv_aload_n hx hb dX6_pays_16 rfl (lv_at hl 0 rfl) ?_
    refine lv_aload_n hx hb dX6_pays_17 rfl (lv_at hl 0 rfl) ?_
    refine va_get (D := D) (ci := 6) (v := .int (nI lw)) (C := RX6) (T := TX6) (N := 24) hx hb hts in_X6 hown hK (hR hS) 0 rfl rfl 9 (by decide) hf_114 (fun _ h9 => h9) rfl dX6_pays_18 ?_
    refine cV_i (As := [.int (nI lw)]) (rest := []) (cr := [(o, .inr (6, [.int (nI n), .ref o1, .ref o2, .ref o3, .ref o4, .int (nI dy), .ref o5, .ref o6, .int (nI ch), .int (nI lw), .int (nI tz), .ref o7, .int (nI at9), .int (nI va9), .int (nI ss), .ref o8, .ref o9, .int (bI im), .ref o10, .ref o11, .ref o12, .ref o13, .ref o14, .ref o15])), (o1, aI cs 4 (tx_nf kd)), (o5, aI cs 21 (tx_nf td))]) (cw1 := []) ⟨hx, hb, hml, hown, hts⟩ (c_X6_taxes l D cs _ o o1 o2 o3 o4 o5 o6 o7 o8 o9 o10 o11 o12 o13 o14 o15 n dy ch lw tz at9 va9 ss im kd td lw (by first | assumption | omega) (by first | assumption | omega) (by first | assumption | omega) (by first | assumption | omega) (by first | assumption | omega) (by first | assumption | omega) (by first | assumption | omega)) (cwV 1 hts gX6_pays_X6_taxes rfl rfl rfl (by decide +kernel) ⟨Nat.le_of_ble_eq_true rfl, Nat.le_of_ble_eq_true rfl⟩) hK hP hD hS hA (((hR hS).app hP).sub [0, 1, 2] rfl) (dt_of hN [0, 1, 2] (by decide) rfl) [] rfl 0 rfl rfl rfl hl.1 rfl (Nat.le_of_ble_eq_true rfl) dX6_pays_21 ⟨Nat.le_of_ble_eq_true rfl, Nat.le_of_ble_eq_true rfl⟩ (fun _ => rfl) (fun _ => rfl) (fun r_1 u9 H locs hw_2 hP hD hS => ?_)
    have hP : va_P D vwCl [(o9, aI cs 7 (tx_nf rf))] H := hP
    have hD : va_D A [(o9, aI cs 7 (tx_nf rf))] := hD
    subst r_1
    have hQ : tx_q_n n = 0 := by simp [tx_q_n, c4, Nat.pos_iff_ne_zero.mp c4]
    have e9 : tx_rf rf (tx_q_n n) = rf := by rw [hQ] <;> rfl
    have hP : va_P D vwCl [(o9, aI cs 7 (tx_nf (tx_rf rf (tx_q_n n))))] H := by rw [e9]; (try simp only [hQ]); exact hP
    have hD : va_D A [(o9, aI cs 7 (tx_nf (tx_rf rf (tx_q_n n))))] := by rw [e9]; (try simp only [hQ]); exact hD
    exact rt_i hx hb hr hlocks () (by rw [hQ] <;> (rfl)) hP hD hS dX6_pays_24
  · refine lv_aload_n hx hb dX6_pays_7 rfl (lv_at hl 0 rfl) ?_
    refine lv_bipush (v := (-3)) hx hb dX6_pays_8 (by decide) ?_
    refine cV_i (As := [.int (-3)]) (rest := []) (cr := [(o, .inr (6, [.int (nI n), .ref o1, .ref o2, .ref o3, .ref o4, .int (nI dy), .ref o5, .ref o6, .int (nI ch), .int (nI lw), .int (nI tz), .ref o7, .int (nI at9), .int (nI va9), .int (nI ss), .ref o8, .ref o9, .int (bI im), .ref o10, .ref o11, .ref o12, .ref o13, .ref o14, .ref o15]))]) (cw1 := [(o9, aI cs 7 (tx_nf rf))]) ⟨hx, hb, hml, hown, hts⟩ (c_X6_no l D cs _ o o1 o2 o3 o4 o5 o6 o7 o8 o9 o10 o11 o12 o13 o14 o15 n dy ch lw tz at9 va9 ss im rf (-3) 3 (by decide) (by decide) (by decide)) (cwV 1 hts gX6_pays_X6_no rfl rfl rfl (by decide +kernel) ⟨Nat.le_of_ble_eq_true rfl, Nat.le_of_ble_eq_true rfl⟩) hK hP hD hS hA (((hR hS).app hP).sub [0, 3] rfl) (dt_of hN [0, 3] (by decide) rfl) [0] rfl 0 rfl rfl rfl hl.1 rfl (Nat.le_of_ble_eq_true rfl) dX6_pays_10 ⟨Nat.le_of_ble_eq_true rfl, Nat.le_of_ble_eq_true rfl⟩ (fun _ => rfl) (fun _ => rfl) (fun r_3 u9 H locs hw_4 hP hD hS => ?_)
    have hP : va_P D vwCl [(o9, aI cs 7 (tx_nf (tx_rf rf 3)))] H := hP
    have hD : va_D A [(o9, aI cs 7 (tx_nf (tx_rf rf 3)))] := hD
    subst r_3
    refine lv_goto (tgt := 24) hx hb dX6_pays_13 (by decide) ?_
    have hQ : tx_q_n n = 3 := by simp [tx_q_n, c4]
    have e9 : tx_rf rf (tx_q_n n) = tx_rf rf 3 := by rw [hQ] <;> rfl
    have hP : va_P D vwCl [(o9, aI cs 7 (tx_nf (tx_rf rf (tx_q_n n))))] H := by rw [e9]; (try simp only [hQ]); exact hP
    have hD : va_D A [(o9, aI cs 7 (tx_nf (tx_rf rf (tx_q_n n))))] := by rw [e9]; (try simp only [hQ]); exact hD
    exact rt_i hx hb hr hlocks () (by rw [hQ] <;> (first | done | rfl)) hP hD hS dX6_pays_24
set_option maxHeartbeats 4000000 in
set_option maxRecDepth 100000 in
theorem c_X6_left (l : Launch) (D : va_G) (cs : Nat → ClassId) (sz : Nat) (o : Nat) (o1 : Nat) (o2 : Nat) (o3 : Nat) (o4 : Nat) (o5 : Nat) (o6 : Nat) (o7 : Nat) (o8 : Nat) (o9 : Nat) (o10 : Nat) (o11 : Nat) (o12 : Nat) (o13 : Nat) (o14 : Nat) (o15 : Nat) (n : Nat) (dy : Nat) (ch : Nat) (lw : Nat) (tz : Nat) (at9 : Nat) (va9 : Nat) (ss : Nat) (im : Bool) (kd : Nat → Nat) (wo : Nat → Nat) (ha : Nat → Nat) (we : Nat → Nat) (td : Nat → Nat) (rf : Nat → Nat) (hn : n ≤ 4) (hd1 : 1 ≤ dy) (hdy : dy ≤ 20) (htd : ∀ e, td e < 4) (htn : ∀ e, 0 < n → td e < n) (hkd : ∀ e, kd e ≤ 5) (hlw : lw ≤ 5) : mI (S := Unit) l yX6_left wsX6_left ({ frames := 3, cells := 0, slots := 0, locals := 69 } : Room) D (tyc cs) sz [.ref o] [(o, .inr (6, [.int (nI n), .ref o1, .ref o2, .ref o3, .ref o4, .int (nI dy), .ref o5, .ref o6, .int (nI ch), .int (nI lw), .int (nI tz), .ref o7, .int (nI at9), .int (nI va9), .int (nI ss), .ref o8, .ref o9, .int (bI im), .ref o10, .ref o11, .ref o12, .ref o13, .ref o14, .ref o15])), (o1, aI cs 4 (tx_nf kd)), (o2, aI cs 4 (tx_nf wo)), (o3, aI cs 4 (tx_nf ha)), (o4, aI cs 4 (tx_nf we)), (o5, aI cs 21 (tx_nf td))] [(o9, aI cs 7 (tx_nf rf))] (fun (r : Int32) (u : Unit) => r = tx_af (tx_q_n n) (iI (tx_left n kd wo ha we td dy ch lw))) (fun _ => [(o9, aI cs 7 (tx_nf (tx_rf rf (tx_q_n n))))]) 0 0 := by
  unfold mI
  refine Met.ofW (cc := cX6_left) (maxL := 1) (ret := (some .int)) (by decide) rfl ?_
  intro p e s m args below meth c s₁ B hml hv
  obtain ⟨rfl, hsz, hP, hK, hD0⟩ := hv
  have hx := B.exec
  have hb := B.bytes
  have hr := B.returns
  have hts := atoms_spec (ws := wsX6_left) B.pre
  have hown : s.vm.findClass RX6 = some m.cls := findClass_of_methodNamed B.named
  have hlocks := B.notSynchronized
  subst hsz
  have hR := @en_R _ _ _ [(o, .inr (6, [.int (nI n), .ref o1, .ref o2, .ref o3, .ref o4, .int (nI dy), .ref o5, .ref o6, .int (nI ch), .int (nI lw), .int (nI tz), .ref o7, .int (nI at9), .int (nI va9), .int (nI ss), .ref o8, .ref o9, .int (bI im), .ref o10, .ref o11, .ref o12, .ref o13, .ref o14, .ref o15])), (o1, aI cs 4 (tx_nf kd)), (o2, aI cs 4 (tx_nf wo)), (o3, aI cs 4 (tx_nf ha)), (o4, aI cs 4 (tx_nf we)), (o5, aI cs 21 (tx_nf td))] [(o9, aI cs 7 (tx_nf rf))] _ hP hD0
  have hN := adN_of hD0
  have hD := en_D (wr := [(o, .inr (6, [.int (nI n), .ref o1, .ref o2, .ref o3, .ref o4, .int (nI dy), .ref o5, .ref o6, .int (nI ch), .int (nI lw), .int (nI tz), .ref o7, .int (nI at9), .int (nI va9), .int (nI ss), .ref o8, .ref o9, .int (bI im), .ref o10, .ref o11, .ref o12, .ref o13, .ref o14, .ref o15])), (o1, aI cs 4 (tx_nf kd)), (o2, aI cs 4 (tx_nf wo)), (o3, aI cs 4 (tx_nf ha)), (o4, aI cs 4 (tx_nf we)), (o5, aI cs 21 (tx_nf td))]) (ww := [(o9, aI cs 7 (tx_nf rf))]) (sz := s.heap.size) hD0
  have hP := en_P (wr := [(o, .inr (6, [.int (nI n), .ref o1, .ref o2, .ref o3, .ref o4, .int (nI dy), .ref o5, .ref o6, .int (nI ch), .int (nI lw), .int (nI tz), .ref o7, .int (nI at9), .int (nI va9), .int (nI ss), .ref o8, .ref o9, .int (bI im), .ref o10, .ref o11, .ref o12, .ref o13, .ref o14, .ref o15])), (o1, aI cs 4 (tx_nf kd)), (o2, aI cs 4 (tx_nf wo)), (o3, aI cs 4 (tx_nf ha)), (o4, aI cs 4 (tx_nf we)), (o5, aI cs 21 (tx_nf td))]) (ww := [(o9, aI cs 7 (tx_nf rf))]) hP
  generalize hAe : va_A [(o9, aI cs 7 (tx_nf rf))] s.heap.size = A at hD hR ⊢
  have hA : ∀ q : Nat, s.heap.size ≤ q → A q := fun q h => by rw [← hAe]; exact Or.inr h
  have hS : va_S A s.heap s.heap [] := va_S.rf
  have hN : adN [o, o1, o2, o3, o4, o5, o9] := hN
  have hf_71 := hts (.fieldLink RX6 71 "TaxedByLongestModel" "things" "I") (by decide +kernel)
  have in_X6 : ∀ w ∈ wsX60, w ∈ wsX6_left := by decide +kernel
  have hl := lv_entry ([.ref o]) (n := 1) (Nat.le_of_ble_eq_true rfl)
  rw [lg_entry_eq]
  generalize (lg_sl ([.ref o]) ++ List.replicate (1 - (lg_sl ([.ref o])).length) Slot.unset).toArray = ls at hl ⊢
  have hl : lv_has ls 1 [(0, .ref o)] := hl
  refine lv_aload_n hx hb dX6_left_0 rfl (lv_at hl 0 rfl) ?_
  refine va_get (D := D) (ci := 6) (v := .int (nI n)) (C := RX6) (T := TX6) (N := 24) hx hb hts in_X6 hown hK (hR hS) 0 rfl rfl 0 (by decide) hf_71 (fun _ h9 => h9) rfl dX6_left_1 ?_
  refine bz_ne (a := n) (tgt := 16) hx hb rfl (by omega) dX6_left_4 (by decide) (fun c4 => ?_) (fun c4 => ?_)
  · refine lv_aload_n hx hb dX6_left_16 rfl (lv_at hl 0 rfl) ?_
    refine cV_i (As := []) (rest := []) (cr := [(o, .inr (6, [.int (nI n), .ref o1, .ref o2, .ref o3, .ref o4, .int (nI dy), .ref o5, .ref o6, .int (nI ch), .int (nI lw), .int (nI tz), .ref o7, .int (nI at9), .int (nI va9), .int (nI ss), .ref o8, .ref o9, .int (bI im), .ref o10, .ref o11, .ref o12, .ref o13, .ref o14, .ref o15])), (o1, aI cs 4 (tx_nf kd)), (o2, aI cs 4 (tx_nf wo)), (o3, aI cs 4 (tx_nf ha)), (o4, aI cs 4 (tx_nf we)), (o5, aI cs 21 (tx_nf td))]) (cw1 := []) ⟨hx, hb, hml, hown, hts⟩ (c_X6_leftNow l D cs _ o o1 o2 o3 o4 o5 o6 o7 o8 o9 o10 o11 o12 o13 o14 o15 n dy ch lw tz at9 va9 ss im kd wo ha we td (by first | assumption | omega) (by first | assumption | omega) (by first | assumption | omega) (by first | assumption | omega) (by first | assumption | omega) (by first | assumption | omega) (by first | assumption | omega) (by first | assumption | omega)) (cwV 0 hts gX6_left_X6_leftNow rfl rfl rfl (by decide +kernel) ⟨Nat.le_of_ble_eq_true rfl, Nat.le_of_ble_eq_true rfl⟩) hK hP hD hS hA (((hR hS).app hP).sub [0, 1, 2, 3, 4, 5] rfl) (dt_of hN [0, 1, 2, 3, 4, 5] (by decide) rfl) [] rfl 0 rfl rfl rfl hl.1 rfl (Nat.le_of_ble_eq_true rfl) dX6_left_17 ⟨Nat.le_of_ble_eq_true rfl, Nat.le_of_ble_eq_true rfl⟩ (fun _ => rfl) (fun _ => rfl) (fun r_1 u9 H locs hw_2 hP hD hS => ?_)
    have hP : va_P D vwCl [(o9, aI cs 7 (tx_nf rf))] H := hP
    have hD : va_D A [(o9, aI cs 7 (tx_nf rf))] := hD
    subst r_1
    have hQ : tx_q_n n = 0 := by simp [tx_q_n, c4, Nat.pos_iff_ne_zero.mp c4]
    have e9 : tx_rf rf (tx_q_n n) = rf := by rw [hQ] <;> rfl
    have hP : va_P D vwCl [(o9, aI cs 7 (tx_nf (tx_rf rf (tx_q_n n))))] H := by rw [e9]; (try simp only [hQ]); exact hP
    have hD : va_D A [(o9, aI cs 7 (tx_nf (tx_rf rf (tx_q_n n))))] := by rw [e9]; (try simp only [hQ]); exact hD
    exact rt_i hx hb hr hlocks () (by rw [hQ] <;> (rfl)) hP hD hS dX6_left_20
  · refine lv_aload_n hx hb dX6_left_7 rfl (lv_at hl 0 rfl) ?_
    refine lv_bipush (v := (-3)) hx hb dX6_left_8 (by decide) ?_
    refine cV_i (As := [.int (-3)]) (rest := []) (cr := [(o, .inr (6, [.int (nI n), .ref o1, .ref o2, .ref o3, .ref o4, .int (nI dy), .ref o5, .ref o6, .int (nI ch), .int (nI lw), .int (nI tz), .ref o7, .int (nI at9), .int (nI va9), .int (nI ss), .ref o8, .ref o9, .int (bI im), .ref o10, .ref o11, .ref o12, .ref o13, .ref o14, .ref o15]))]) (cw1 := [(o9, aI cs 7 (tx_nf rf))]) ⟨hx, hb, hml, hown, hts⟩ (c_X6_noFar l D cs _ o o1 o2 o3 o4 o5 o6 o7 o8 o9 o10 o11 o12 o13 o14 o15 n dy ch lw tz at9 va9 ss im rf (-3) 3 (by decide) (by decide) (by decide)) (cwV 1 hts gX6_left_X6_noFar rfl rfl rfl (by decide +kernel) ⟨Nat.le_of_ble_eq_true rfl, Nat.le_of_ble_eq_true rfl⟩) hK hP hD hS hA (((hR hS).app hP).sub [0, 6] rfl) (dt_of hN [0, 6] (by decide) rfl) [0] rfl 0 rfl rfl rfl hl.1 rfl (Nat.le_of_ble_eq_true rfl) dX6_left_10 ⟨Nat.le_of_ble_eq_true rfl, Nat.le_of_ble_eq_true rfl⟩ (fun _ => rfl) (fun _ => rfl) (fun r_3 u9 H locs hw_4 hP hD hS => ?_)
    have hP : va_P D vwCl [(o9, aI cs 7 (tx_nf (tx_rf rf 3)))] H := hP
    have hD : va_D A [(o9, aI cs 7 (tx_nf (tx_rf rf 3)))] := hD
    subst r_3
    refine lv_goto (tgt := 20) hx hb dX6_left_13 (by decide) ?_
    have hQ : tx_q_n n = 3 := by simp [tx_q_n, c4]
    have e9 : tx_rf rf (tx_q_n n) = tx_rf rf 3 := by rw [hQ] <;> rfl
    have hP : va_P D vwCl [(o9, aI cs 7 (tx_nf (tx_rf rf (tx_q_n n))))] H := by rw [e9]; (try simp only [hQ]); exact hP
    have hD : va_D A [(o9, aI cs 7 (tx_nf (tx_rf rf (tx_q_n n))))] := by rw [e9]; (try simp only [hQ]); exact hD
    exact rt_i hx hb hr hlocks () (by rw [hQ] <;> (first | done | rfl)) hP hD hS dX6_left_20
set_option maxHeartbeats 4000000 in
set_option maxRecDepth 100000 in
theorem c_X6_byLaw (l : Launch) (D : va_G) (cs : Nat → ClassId) (sz : Nat) (o : Nat) (o1 : Nat) (o2 : Nat) (o3 : Nat) (o4 : Nat) (o5 : Nat) (o6 : Nat) (o7 : Nat) (o8 : Nat) (o9 : Nat) (o10 : Nat) (o11 : Nat) (o12 : Nat) (o13 : Nat) (o14 : Nat) (o15 : Nat) (n : Nat) (dy : Nat) (ch : Nat) (lw : Nat) (tz : Nat) (at9 : Nat) (va9 : Nat) (ss : Nat) (im : Bool) (kd : Nat → Nat) (td : Nat → Nat) (rf : Nat → Nat) (v : Int32) (hn : n ≤ 4) (hd1 : 1 ≤ dy) (hdy : dy ≤ 20) (htd : ∀ e, td e < 4) (htn : ∀ e, 0 < n → td e < n) (hkd : ∀ e, kd e ≤ 5) : mI (S := Unit) l yX6_byLaw wsX6_byLaw ({ frames := 2, cells := 0, slots := 0, locals := 49 } : Room) D (tyc cs) sz [.ref o, .int v] [(o, .inr (6, [.int (nI n), .ref o1, .ref o2, .ref o3, .ref o4, .int (nI dy), .ref o5, .ref o6, .int (nI ch), .int (nI lw), .int (nI tz), .ref o7, .int (nI at9), .int (nI va9), .int (nI ss), .ref o8, .ref o9, .int (bI im), .ref o10, .ref o11, .ref o12, .ref o13, .ref o14, .ref o15])), (o1, aI cs 4 (tx_nf kd)), (o5, aI cs 21 (tx_nf td))] [(o9, aI cs 7 (tx_nf rf))] (fun (r : Int32) (u : Unit) => r = tx_ai (tx_q_byLaw n v) (nI (tx_tax (tx_T n kd td dy) (tx_cg td (dy - 1)) dy (tx_ix v)))) (fun _ => [(o9, aI cs 7 (tx_nf (tx_rf rf (tx_q_byLaw n v))))]) 0 0 := by
  unfold mI
  refine Met.ofW (cc := cX6_byLaw) (maxL := 2) (ret := (some .int)) (by decide) rfl ?_
  intro p e s m args below meth c s₁ B hml hv
  obtain ⟨rfl, hsz, hP, hK, hD0⟩ := hv
  have hx := B.exec
  have hb := B.bytes
  have hr := B.returns
  have hts := atoms_spec (ws := wsX6_byLaw) B.pre
  have hown : s.vm.findClass RX6 = some m.cls := findClass_of_methodNamed B.named
  have hlocks := B.notSynchronized
  subst hsz
  have hR := @en_R _ _ _ [(o, .inr (6, [.int (nI n), .ref o1, .ref o2, .ref o3, .ref o4, .int (nI dy), .ref o5, .ref o6, .int (nI ch), .int (nI lw), .int (nI tz), .ref o7, .int (nI at9), .int (nI va9), .int (nI ss), .ref o8, .ref o9, .int (bI im), .ref o10, .ref o11, .ref o12, .ref o13, .ref o14, .ref o15])), (o1, aI cs 4 (tx_nf kd)), (o5, aI cs 21 (tx_nf td))] [(o9, aI cs 7 (tx_nf rf))] _ hP hD0
  have hN := adN_of hD0
  have hD := en_D (wr := [(o, .inr (6, [.int (nI n), .ref o1, .ref o2, .ref o3, .ref o4, .int (nI dy), .ref o5, .ref o6, .int (nI ch), .int (nI lw), .int (nI tz), .ref o7, .int (nI at9), .int (nI va9), .int (nI ss), .ref o8, .ref o9, .int (bI im), .ref o10, .ref o11, .ref o12, .ref o13, .ref o14, .ref o15])), (o1, aI cs 4 (tx_nf kd)), (o5, aI cs 21 (tx_nf td))]) (ww := [(o9, aI cs 7 (tx_nf rf))]) (sz := s.heap.size) hD0
  have hP := en_P (wr := [(o, .inr (6, [.int (nI n), .ref o1, .ref o2, .ref o3, .ref o4, .int (nI dy), .ref o5, .ref o6, .int (nI ch), .int (nI lw), .int (nI tz), .ref o7, .int (nI at9), .int (nI va9), .int (nI ss), .ref o8, .ref o9, .int (bI im), .ref o10, .ref o11, .ref o12, .ref o13, .ref o14, .ref o15])), (o1, aI cs 4 (tx_nf kd)), (o5, aI cs 21 (tx_nf td))]) (ww := [(o9, aI cs 7 (tx_nf rf))]) hP
  generalize hAe : va_A [(o9, aI cs 7 (tx_nf rf))] s.heap.size = A at hD hR ⊢
  have hA : ∀ q : Nat, s.heap.size ≤ q → A q := fun q h => by rw [← hAe]; exact Or.inr h
  have hS : va_S A s.heap s.heap [] := va_S.rf
  have hN : adN [o, o1, o5, o9] := hN
  have hf_71 := hts (.fieldLink RX6 71 "TaxedByLongestModel" "things" "I") (by decide +kernel)
  have in_X6 : ∀ w ∈ wsX60, w ∈ wsX6_byLaw := by decide +kernel
  have hl := lv_entry ([.ref o, .int v]) (n := 2) (Nat.le_of_ble_eq_true rfl)
  rw [lg_entry_eq]
  generalize (lg_sl ([.ref o, .int v]) ++ List.replicate (2 - (lg_sl ([.ref o, .int v])).length) Slot.unset).toArray = ls at hl ⊢
  have hl : lv_has ls 2 [(0, .ref o), (1, .int v)] := hl
  refine lv_iload_n hx hb dX6_byLaw_0 rfl (lv_at hl 1 rfl) ?_
  refine lv_iconst (v := 0) hx hb dX6_byLaw_1 (by decide) ?_
  refine lv_iconst (v := 5) hx hb dX6_byLaw_2 (by decide) ?_
  refine cS_i (As := [.int v, .int 0, .int 5]) (rest := []) (cr := []) (cw1 := []) ⟨hx, hb, hml, hown, hts⟩ (c_X6_within l D cs _ v 0 5 ) (va_cwS 3 hts gX6_byLaw_X6_within rfl rfl rfl (by decide +kernel) ⟨Nat.le_of_ble_eq_true rfl, Nat.le_of_ble_eq_true rfl⟩) hK hP hD hS hA (((hR hS).app hP).sub [] rfl) (dt_of hN [] (by decide) rfl) [] rfl rfl hl.1 rfl (Nat.le_of_ble_eq_true rfl) dX6_byLaw_3 ⟨Nat.le_of_ble_eq_true rfl, Nat.le_of_ble_eq_true rfl⟩ (fun _ => rfl) (fun _ => rfl) (fun r_1 u9 H locs hw_2 hP hD hS => ?_)
  have hP : va_P D vwCl [(o9, aI cs 7 (tx_nf rf))] H := hP
  have hD : va_D A [(o9, aI cs 7 (tx_nf rf))] := hD
  subst r_1
  refine tp_i (show bI (decide (0 ≤ v) && decide (v ≤ 5)) = bI (tx_il v) from rfl) ?_
  refine bb_ne (b := tx_il v) (tgt := 16) hx hb rfl dX6_byLaw_6 (by decide) (fun c6 => ?_) (fun c6 => ?_)
  · obtain ⟨j, hj, rfl⟩ := tx_il_t c6
    have hij : tx_ix (nI j) = j := tx_ix_n (by omega)
    refine lv_aload_n hx hb dX6_byLaw_16 rfl (lv_at hl 0 rfl) ?_
    refine va_get (D := D) (ci := 6) (v := .int (nI n)) (C := RX6) (T := TX6) (N := 24) hx hb hts in_X6 hown hK (hR hS) 0 rfl rfl 0 (by decide) hf_71 (fun _ h9 => h9) rfl dX6_byLaw_17 ?_
    refine bz_ne (a := n) (tgt := 32) hx hb rfl (by omega) dX6_byLaw_20 (by decide) (fun c20 => ?_) (fun c20 => ?_)
    · refine lv_aload_n hx hb dX6_byLaw_32 rfl (lv_at hl 0 rfl) ?_
      refine lv_iload_n hx hb dX6_byLaw_33 rfl (lv_at hl 1 rfl) ?_
      refine cV_i (As := [.int (nI j)]) (rest := []) (cr := [(o, .inr (6, [.int (nI n), .ref o1, .ref o2, .ref o3, .ref o4, .int (nI dy), .ref o5, .ref o6, .int (nI ch), .int (nI lw), .int (nI tz), .ref o7, .int (nI at9), .int (nI va9), .int (nI ss), .ref o8, .ref o9, .int (bI im), .ref o10, .ref o11, .ref o12, .ref o13, .ref o14, .ref o15])), (o1, aI cs 4 (tx_nf kd)), (o5, aI cs 21 (tx_nf td))]) (cw1 := []) ⟨hx, hb, hml, hown, hts⟩ (c_X6_taxes l D cs _ o o1 o2 o3 o4 o5 o6 o7 o8 o9 o10 o11 o12 o13 o14 o15 n dy ch lw tz at9 va9 ss im kd td j (by first | assumption | omega) (by first | assumption | omega) (by first | assumption | omega) (by first | assumption | omega) (by first | assumption | omega) (by first | assumption | omega) (by first | assumption | omega)) (cwV 1 hts gX6_byLaw_X6_taxes rfl rfl rfl (by decide +kernel) ⟨Nat.le_of_ble_eq_true rfl, Nat.le_of_ble_eq_true rfl⟩) hK hP hD hS hA (((hR hS).app hP).sub [0, 1, 2] rfl) (dt_of hN [0, 1, 2] (by decide) rfl) [] rfl 0 rfl rfl rfl hl.1 rfl (Nat.le_of_ble_eq_true rfl) dX6_byLaw_34 ⟨Nat.le_of_ble_eq_true rfl, Nat.le_of_ble_eq_true rfl⟩ (fun _ => rfl) (fun _ => rfl) (fun r_3 u9 H locs hw_4 hP hD hS => ?_)
      have hP : va_P D vwCl [(o9, aI cs 7 (tx_nf rf))] H := hP
      have hD : va_D A [(o9, aI cs 7 (tx_nf rf))] := hD
      subst r_3
      have hQ : tx_q_byLaw n (nI j) = 0 := by simp [tx_q_byLaw, tx_q_n, c6, c20, Nat.pos_iff_ne_zero.mp c20]
      have e9 : tx_rf rf (tx_q_byLaw n (nI j)) = rf := by rw [hQ] <;> rfl
      have hP : va_P D vwCl [(o9, aI cs 7 (tx_nf (tx_rf rf (tx_q_byLaw n (nI j)))))] H := by rw [e9]; (try simp only [hQ]); exact hP
      have hD : va_D A [(o9, aI cs 7 (tx_nf (tx_rf rf (tx_q_byLaw n (nI j)))))] := by rw [e9]; (try simp only [hQ]); exact hD
      exact rt_i hx hb hr hlocks () (by rw [hQ] <;> (rw [hij]; rfl)) hP hD hS dX6_byLaw_37
    · refine lv_aload_n hx hb dX6_byLaw_23 rfl (lv_at hl 0 rfl) ?_
      refine lv_bipush (v := (-3)) hx hb dX6_byLaw_24 (by decide) ?_
      refine cV_i (As := [.int (-3)]) (rest := []) (cr := [(o, .inr (6, [.int (nI n), .ref o1, .ref o2, .ref o3, .ref o4, .int (nI dy), .ref o5, .ref o6, .int (nI ch), .int (nI lw), .int (nI tz), .ref o7, .int (nI at9), .int (nI va9), .int (nI ss), .ref o8, .ref o9, .int (bI im), .ref o10, .ref o11, .ref o12, .ref o13, .ref o14, .ref o15]))]) (cw1 := [(o9, aI cs 7 (tx_nf rf))]) ⟨hx, hb, hml, hown, hts⟩ (c_X6_no l D cs _ o o1 o2 o3 o4 o5 o6 o7 o8 o9 o10 o11 o12 o13 o14 o15 n dy ch lw tz at9 va9 ss im rf (-3) 3 (by decide) (by decide) (by decide)) (cwV 1 hts gX6_byLaw_X6_no rfl rfl rfl (by decide +kernel) ⟨Nat.le_of_ble_eq_true rfl, Nat.le_of_ble_eq_true rfl⟩) hK hP hD hS hA (((hR hS).app hP).sub [0, 3] rfl) (dt_of hN [0, 3] (by decide) rfl) [0] rfl 0 rfl rfl rfl hl.1 rfl (Nat.le_of_ble_eq_true rfl) dX6_byLaw_26 ⟨Nat.le_of_ble_eq_true rfl, Nat.le_of_ble_eq_true rfl⟩ (fun _ => rfl) (fun _ => rfl) (fun r_5 u9 H locs hw_6 hP hD hS => ?_)
      have hP : va_P D vwCl [(o9, aI cs 7 (tx_nf (tx_rf rf 3)))] H := hP
      have hD : va_D A [(o9, aI cs 7 (tx_nf (tx_rf rf 3)))] := hD
      subst r_5
      refine lv_goto (tgt := 37) hx hb dX6_byLaw_29 (by decide) ?_
      have hQ : tx_q_byLaw n (nI j) = 3 := by simp [tx_q_byLaw, tx_q_n, c6, c20]
      have e9 : tx_rf rf (tx_q_byLaw n (nI j)) = tx_rf rf 3 := by rw [hQ] <;> rfl
      have hP : va_P D vwCl [(o9, aI cs 7 (tx_nf (tx_rf rf (tx_q_byLaw n (nI j)))))] H := by rw [e9]; (try simp only [hQ]); exact hP
      have hD : va_D A [(o9, aI cs 7 (tx_nf (tx_rf rf (tx_q_byLaw n (nI j)))))] := by rw [e9]; (try simp only [hQ]); exact hD
      exact rt_i hx hb hr hlocks () (by rw [hQ] <;> (first | done | rfl)) hP hD hS dX6_byLaw_37
  · refine lv_aload_n hx hb dX6_byLaw_9 rfl (lv_at hl 0 rfl) ?_
    refine lv_bipush (v := (-2)) hx hb dX6_byLaw_10 (by decide) ?_
    refine cV_i (As := [.int (-2)]) (rest := []) (cr := [(o, .inr (6, [.int (nI n), .ref o1, .ref o2, .ref o3, .ref o4, .int (nI dy), .ref o5, .ref o6, .int (nI ch), .int (nI lw), .int (nI tz), .ref o7, .int (nI at9), .int (nI va9), .int (nI ss), .ref o8, .ref o9, .int (bI im), .ref o10, .ref o11, .ref o12, .ref o13, .ref o14, .ref o15]))]) (cw1 := [(o9, aI cs 7 (tx_nf rf))]) ⟨hx, hb, hml, hown, hts⟩ (c_X6_no l D cs _ o o1 o2 o3 o4 o5 o6 o7 o8 o9 o10 o11 o12 o13 o14 o15 n dy ch lw tz at9 va9 ss im rf (-2) 2 (by decide) (by decide) (by decide)) (cwV 1 hts gX6_byLaw_X6_no rfl rfl rfl (by decide +kernel) ⟨Nat.le_of_ble_eq_true rfl, Nat.le_of_ble_eq_true rfl⟩) hK hP hD hS hA (((hR hS).app hP).sub [0, 3] rfl) (dt_of hN [0, 3] (by decide) rfl) [0] rfl 0 rfl rfl rfl hl.1 rfl (Nat.le_of_ble_eq_true rfl) dX6_byLaw_12 ⟨Nat.le_of_ble_eq_true rfl, Nat.le_of_ble_eq_true rfl⟩ (fun _ => rfl) (fun _ => rfl) (fun r_7 u9 H locs hw_8 hP hD hS => ?_)
    have hP : va_P D vwCl [(o9, aI cs 7 (tx_nf (tx_rf rf 2)))] H := hP
    have hD : va_D A [(o9, aI cs 7 (tx_nf (tx_rf rf 2)))] := hD
    subst r_7
    have hQ : tx_q_byLaw n v = 2 := by simp [tx_q_byLaw, tx_q_n, c6]
    have e9 : tx_rf rf (tx_q_byLaw n v) = tx_rf rf 2 := by rw [hQ] <;> rfl
    have hP : va_P D vwCl [(o9, aI cs 7 (tx_nf (tx_rf rf (tx_q_byLaw n v))))] H := by rw [e9]; (try simp only [hQ]); exact hP
    have hD : va_D A [(o9, aI cs 7 (tx_nf (tx_rf rf (tx_q_byLaw n v))))] := by rw [e9]; (try simp only [hQ]); exact hD
    exact rt_i hx hb hr hlocks () (by rw [hQ] <;> (first | done | rfl)) hP hD hS dX6_byLaw_15
set_option maxHeartbeats 4000000 in
set_option maxRecDepth 100000 in
theorem c_X5_brought (l : Launch) (D : va_G) (cs : Nat → ClassId) (sz : Nat) (xo : Nat) (hk : Nat) (im : Bool) (tx : Nat) (pn : Nat) (cn : Nat) (s0 : Nat) (ss : Nat) (r0 : Nat) (h : Nat) (k0 : Nat) (k1 : Nat) (k2 : Nat) (k3 : Nat) (k4 : Nat) (k5 : Nat) (n : Nat) (dy : Nat) (ch : Nat) (lw : Nat) (g : Nat) (kd : Nat → Nat) (wo : Nat → Nat) (ha : Nat → Nat) (we : Nat → Nat) (td : Nat → Nat) (rf : Nat → Nat) (t : Int32) (hn : n ≤ 4) (hdy : dy ≤ 20) (htd : ∀ e, td e < 4) (hkd : ∀ e, kd e ≤ 5) : mI (S := Unit) l yX5_brought wsX5_brought ({ frames := 3, cells := 0, slots := 0, locals := 68 } : Room) D (tyc cs) sz [.ref xo, .int t] [(xo, .inr (5, [.ref h, .ref hk, .int (bI im), .ref tx, .ref g, .ref pn, .ref cn, .ref s0, .int (nI ss), .ref r0])), (h, .inr (4, [.ref k0, .ref k1, .ref k2, .ref k3, .ref k4, .ref k5, .int (nI n), .int (nI dy), .int (nI ch), .int (nI lw)])), (k0, aI cs 4 (tx_nf kd)), (k1, aI cs 4 (tx_nf wo)), (k2, aI cs 4 (tx_nf ha)), (k3, aI cs 4 (tx_nf we)), (k4, aI cs 20 (tx_nf td))] [(r0, aI cs 7 (tx_nf rf))] (fun (r : Int32) (u : Unit) => r = tx_af (tx_q1 (tx_has n t)) (iI (tx_br kd wo ha we td (tx_ix t) dy))) (fun _ => [(r0, aI cs 7 (tx_nf (tx_rf rf (tx_q1 (tx_has n t)))))]) 0 0 := by
  unfold mI
  refine Met.ofW (cc := cX5_brought) (maxL := 4) (ret := (some .int)) (by decide) rfl ?_
  intro p e s m args below meth c s₁ B hml hv
  obtain ⟨rfl, hsz, hP, hK, hD0⟩ := hv
  have hx := B.exec
  have hb := B.bytes
  have hr := B.returns
  have hts := atoms_spec (ws := wsX5_brought) B.pre
  have hown : s.vm.findClass RX5 = some m.cls := findClass_of_methodNamed B.named
  have hlocks := B.notSynchronized
  subst hsz
  have hR := @en_R _ _ _ [(xo, .inr (5, [.ref h, .ref hk, .int (bI im), .ref tx, .ref g, .ref pn, .ref cn, .ref s0, .int (nI ss), .ref r0])), (h, .inr (4, [.ref k0, .ref k1, .ref k2, .ref k3, .ref k4, .ref k5, .int (nI n), .int (nI dy), .int (nI ch), .int (nI lw)])), (k0, aI cs 4 (tx_nf kd)), (k1, aI cs 4 (tx_nf wo)), (k2, aI cs 4 (tx_nf ha)), (k3, aI cs 4 (tx_nf we)), (k4, aI cs 20 (tx_nf td))] [(r0, aI cs 7 (tx_nf rf))] _ hP hD0
  have hN := adN_of hD0
  have hD := en_D (wr := [(xo, .inr (5, [.ref h, .ref hk, .int (bI im), .ref tx, .ref g, .ref pn, .ref cn, .ref s0, .int (nI ss), .ref r0])), (h, .inr (4, [.ref k0, .ref k1, .ref k2, .ref k3, .ref k4, .ref k5, .int (nI n), .int (nI dy), .int (nI ch), .int (nI lw)])), (k0, aI cs 4 (tx_nf kd)), (k1, aI cs 4 (tx_nf wo)), (k2, aI cs 4 (tx_nf ha)), (k3, aI cs 4 (tx_nf we)), (k4, aI cs 20 (tx_nf td))]) (ww := [(r0, aI cs 7 (tx_nf rf))]) (sz := s.heap.size) hD0
  have hP := en_P (wr := [(xo, .inr (5, [.ref h, .ref hk, .int (bI im), .ref tx, .ref g, .ref pn, .ref cn, .ref s0, .int (nI ss), .ref r0])), (h, .inr (4, [.ref k0, .ref k1, .ref k2, .ref k3, .ref k4, .ref k5, .int (nI n), .int (nI dy), .int (nI ch), .int (nI lw)])), (k0, aI cs 4 (tx_nf kd)), (k1, aI cs 4 (tx_nf wo)), (k2, aI cs 4 (tx_nf ha)), (k3, aI cs 4 (tx_nf we)), (k4, aI cs 20 (tx_nf td))]) (ww := [(r0, aI cs 7 (tx_nf rf))]) hP
  generalize hAe : va_A [(r0, aI cs 7 (tx_nf rf))] s.heap.size = A at hD hR ⊢
  have hA : ∀ q : Nat, s.heap.size ≤ q → A q := fun q h => by rw [← hAe]; exact Or.inr h
  have hS : va_S A s.heap s.heap [] := va_S.rf
  have hN : adN [xo, h, k0, k1, k2, k3, k4, r0] := hN
  have hf_10 := hts (.fieldLink RX5 10 "TaxedByLongest" "told" "LTaxedByLongest$Told;") (by decide +kernel)
  have hf_100 := hts (.fieldLink RX5 100 "TaxedByLongest$Told" "done" "[I") (by decide +kernel)
  have hf_180 := hts (.fieldLink RX5 180 "TaxedByLongest$Told" "days" "I") (by decide +kernel)
  have in_X4 : ∀ w ∈ wsX40, w ∈ wsX5_brought := by decide +kernel
  have in_X5 : ∀ w ∈ wsX50, w ∈ wsX5_brought := by decide +kernel
  have hl := lv_entry ([.ref xo, .int t]) (n := 4) (Nat.le_of_ble_eq_true rfl)
  rw [lg_entry_eq]
  generalize (lg_sl ([.ref xo, .int t]) ++ List.replicate (4 - (lg_sl ([.ref xo, .int t])).length) Slot.unset).toArray = ls at hl ⊢
  have hl : lv_has ls 4 [(0, .ref xo), (1, .int t)] := hl
  refine lv_aload_n hx hb dX5_brought_0 rfl (lv_at hl 0 rfl) ?_
  refine va_get (D := D) (ci := 5) (v := .ref h) (C := RX5) (T := TX5) (N := 10) hx hb hts in_X5 hown hK (hR hS) 0 rfl rfl 0 (by decide) hf_10 (fun _ h9 => h9) rfl dX5_brought_1 ?_
  refine lv_iload_n hx hb dX5_brought_4 rfl (lv_at hl 1 rfl) ?_
  refine cV_i (As := [.int t]) (rest := []) (cr := [(h, .inr (4, [.ref k0, .ref k1, .ref k2, .ref k3, .ref k4, .ref k5, .int (nI n), .int (nI dy), .int (nI ch), .int (nI lw)]))]) (cw1 := []) ⟨hx, hb, hml, hown, hts⟩ (c_X4_hasThing l D cs _ h k0 k1 k2 k3 k4 k5 n dy ch lw t ) (cwV 1 hts gX5_brought_X4_hasThing rfl rfl rfl (by decide +kernel) ⟨Nat.le_of_ble_eq_true rfl, Nat.le_of_ble_eq_true rfl⟩) hK hP hD hS hA (((hR hS).app hP).sub [1] rfl) (dt_of hN [1] (by decide) rfl) [] rfl 0 rfl rfl rfl hl.1 rfl (Nat.le_of_ble_eq_true rfl) dX5_brought_5 ⟨Nat.le_of_ble_eq_true rfl, Nat.le_of_ble_eq_true rfl⟩ (fun _ => rfl) (fun _ => rfl) (fun r_1 u9 H locs hw_2 hP hD hS => ?_)
  have hP : va_P D vwCl [(r0, aI cs 7 (tx_nf rf))] H := hP
  have hD : va_D A [(r0, aI cs 7 (tx_nf rf))] := hD
  subst r_1
  refine bb_ne (b := tx_has n t) (tgt := 17) hx hb rfl dX5_brought_8 (by decide) (fun c8 => ?_) (fun c8 => ?_)
  · obtain ⟨j, hj, rfl⟩ := tx_has_t (by omega) c8
    have hij : tx_ix (nI j) = j := tx_ix_n (by omega)
    refine lv_iconst (v := 0) hx hb dX5_brought_17 (by decide) ?_
    refine lv_istore_n (lv' := [(2, .int 0), (0, .ref xo), (1, .int (nI j))]) hx hb dX5_brought_18 rfl hl (by decide) rfl (fun ls hl => ?_)
    refine lv_iconst (v := 0) hx hb dX5_brought_19 (by decide) ?_
    refine lv_istore_n (lv' := [(3, .int 0), (2, .int 0), (0, .ref xo), (1, .int (nI j))]) hx hb dX5_brought_20 rfl hl (by decide) rfl (fun ls hl => ?_)
    have loop21 : ∀ (n9 : Nat) (i : Nat) (sm : Int) (hi : i ≤ dy) (hsm : sm = tx_br kd wo ha we td j i), dy - i < n9 → ∀ (H : Heap) (locs : List Loc), va_P D vwCl [(r0, aI cs 7 (tx_nf rf))] H → va_D A [(r0, aI cs 7 (tx_nf rf))] → va_S A s.heap H locs → ∀ (ls : Array Slot), lv_has ls 4 [(0, .ref xo), (1, .int (nI j)), (2, .int (iI sm)), (3, .int (nI i))] → W p l e (headSpec wsX5_brought ({ frames := 3, cells := 0, slots := 0, locals := 68 } : Room)).room s m ([.ref xo, .int (nI j)] : List Value).toArray below meth c H locs 0 0 (MQ below (va_Qi (fun (r : Int32) (u : Unit) => r = tx_af (tx_q1 (tx_has n (nI j))) (iI (tx_br kd wo ha we td (tx_ix (nI j)) dy))) (QB D (fun _ => [(r0, aI cs 7 (tx_nf (tx_rf rf (tx_q1 (tx_has n (nI j))))))]) A) A) ([.ref xo, .int (nI j)] : List Value).toArray s 0 0 A) (F0 m 21 ls []) := by
      intro n9
      induction n9 with
      | zero => intros; omega
      | succ n9 ih21 =>
        intro i sm hi hsm hmu H locs hP hD hS ls hl
        refine lv_iload_n hx hb dX5_brought_21 rfl (lv_at hl 3 rfl) ?_
        refine lv_aload_n hx hb dX5_brought_22 rfl (lv_at hl 0 rfl) ?_
        refine va_get (D := D) (ci := 5) (v := .ref h) (C := RX5) (T := TX5) (N := 10) hx hb hts in_X5 hown hK (hR hS) 0 rfl rfl 0 (by decide) hf_10 (fun _ h9 => h9) rfl dX5_brought_23 ?_
        refine va_get (D := D) (ci := 4) (v := .int (nI dy)) (C := RX4) (T := TX4) (N := 10) hx hb hts in_X4 hown hK (hR hS) 1 rfl rfl 7 (by decide) hf_180 (fun _ h9 => h9) rfl dX5_brought_26 ?_
        refine bn_ge (a := i) (b := dy) (tgt := 62) hx hb rfl rfl (by omega) (by omega) dX5_brought_29 (by decide) (fun c29 => ?_) (fun c29 => ?_)
        · refine lv_iload_n hx hb dX5_brought_62 rfl (lv_at hl 2 rfl) ?_
          have hQ : tx_q1 (tx_has n (nI j)) = 0 := by simp [tx_q1, c8, c29]
          have e9 : tx_rf rf (tx_q1 (tx_has n (nI j))) = rf := by rw [hQ] <;> rfl
          have hP : va_P D vwCl [(r0, aI cs 7 (tx_nf (tx_rf rf (tx_q1 (tx_has n (nI j))))))] H := by rw [e9]; (try simp only [hQ]); exact hP
          have hD : va_D A [(r0, aI cs 7 (tx_nf (tx_rf rf (tx_q1 (tx_has n (nI j))))))] := by rw [e9]; (try simp only [hQ]); exact hD
          exact rt_i hx hb hr hlocks () (by rw [hQ] <;> (rw [hij, hsm, show i = dy by omega]; rfl)) hP hD hS dX5_brought_63
        · refine lv_aload_n hx hb dX5_brought_32 rfl (lv_at hl 0 rfl) ?_
          refine va_get (D := D) (ci := 5) (v := .ref h) (C := RX5) (T := TX5) (N := 10) hx hb hts in_X5 hown hK (hR hS) 0 rfl rfl 0 (by decide) hf_10 (fun _ h9 => h9) rfl dX5_brought_33 ?_
          refine va_get (D := D) (ci := 4) (v := .ref k4) (C := RX4) (T := TX4) (N := 10) hx hb hts in_X4 hown hK (hR hS) 1 rfl rfl 4 (by decide) hf_100 (fun _ h9 => h9) rfl dX5_brought_36 ?_
          refine lv_iload_n hx hb dX5_brought_39 rfl (lv_at hl 3 rfl) ?_
          refine ia_n (f := tx_nf td) hx hb hK (hR hS) 6 0 rfl rfl (j := i) rfl (by omega) (by decide) dX5_brought_40 ?_
          refine tp_i (y := nI (td i)) rfl ?_
          refine lv_iload_n hx hb dX5_brought_41 rfl (lv_at hl 1 rfl) ?_
          have := htd i
          refine bn_ne (a := td i) (b := j) (tgt := 56) hx hb rfl rfl (by omega) (by omega) dX5_brought_42 (by decide) (fun c42 => ?_) (fun c42 => ?_)
          · refine lv_iinc (v := nI (i + 1)) (lv' := [(3, .int (nI (i + 1))), (0, .ref xo), (1, .int (nI j)), (2, .int (iI sm))]) hx hb dX5_brought_56 hl (k := 3) rfl (inc_n i 1) (by decide) rfl (fun ls hl => ?_)
            refine lv_goto (tgt := 21) hx hb dX5_brought_59 (by decide) ?_
            exact ih21 (i + 1) sm (by first | assumption | omega) (by rw [tx_br, if_neg c42, hsm, Int.add_zero]) (by omega) _ _ hP hD hS ls (lv_sub hl [1, 2, 3, 0] rfl)
          · refine lv_iload_n hx hb dX5_brought_45 rfl (lv_at hl 2 rfl) ?_
            refine lv_aload_n hx hb dX5_brought_46 rfl (lv_at hl 0 rfl) ?_
            refine va_get (D := D) (ci := 5) (v := .ref h) (C := RX5) (T := TX5) (N := 10) hx hb hts in_X5 hown hK (hR hS) 0 rfl rfl 0 (by decide) hf_10 (fun _ h9 => h9) rfl dX5_brought_47 ?_
            refine lv_iload_n hx hb dX5_brought_50 rfl (lv_at hl 3 rfl) ?_
            refine cV_i (As := [.int (nI i)]) (rest := [.int (iI sm)]) (cr := [(h, .inr (4, [.ref k0, .ref k1, .ref k2, .ref k3, .ref k4, .ref k5, .int (nI n), .int (nI dy), .int (nI ch), .int (nI lw)])), (k0, aI cs 4 (tx_nf kd)), (k1, aI cs 4 (tx_nf wo)), (k2, aI cs 4 (tx_nf ha)), (k3, aI cs 4 (tx_nf we)), (k4, aI cs 20 (tx_nf td))]) (cw1 := []) ⟨hx, hb, hml, hown, hts⟩ (c_X4_valueNow l D cs _ h k0 k1 k2 k3 k4 k5 n dy ch lw kd wo ha we td i (by first | assumption | omega) (by first | assumption | omega) (by first | assumption | omega) (by first | assumption | omega)) (cwV 1 hts gX5_brought_X4_valueNow rfl rfl rfl (by decide +kernel) ⟨Nat.le_of_ble_eq_true rfl, Nat.le_of_ble_eq_true rfl⟩) hK hP hD hS hA (((hR hS).app hP).sub [1, 2, 3, 4, 5, 6] rfl) (dt_of hN [1, 2, 3, 4, 5, 6] (by decide) rfl) [] rfl 0 rfl rfl rfl hl.1 rfl (Nat.le_of_ble_eq_true rfl) dX5_brought_51 ⟨Nat.le_of_ble_eq_true rfl, Nat.le_of_ble_eq_true rfl⟩ (fun _ => rfl) (fun _ => rfl) (fun r_3 u9 H locs hw_4 hP hD hS => ?_)
            have hP : va_P D vwCl [(r0, aI cs 7 (tx_nf rf))] H := hP
            have hD : va_D A [(r0, aI cs 7 (tx_nf rf))] := hD
            subst r_3
            refine lv_iadd hx hb dX5_brought_54 ?_
            refine tp_i (add_iI (a := sm) (b := tx_vn n kd wo ha we (td i) (tx_pl td i)) rfl rfl) ?_
            refine lv_istore_n (lv' := [(2, .int (iI (sm + (tx_vn n kd wo ha we (td i) (tx_pl td i))))), (0, .ref xo), (1, .int (nI j)), (3, .int (nI i))]) hx hb dX5_brought_55 rfl hl (by decide) rfl (fun ls hl => ?_)
            refine lv_iinc (v := nI (i + 1)) (lv' := [(3, .int (nI (i + 1))), (2, .int (iI (sm + (tx_vn n kd wo ha we (td i) (tx_pl td i))))), (0, .ref xo), (1, .int (nI j))]) hx hb dX5_brought_56 hl (k := 3) rfl (inc_n i 1) (by decide) rfl (fun ls hl => ?_)
            refine lv_goto (tgt := 21) hx hb dX5_brought_59 (by decide) ?_
            exact ih21 (i + 1) (sm + (tx_vn n kd wo ha we (td i) (tx_pl td i))) (by first | assumption | omega) (by rw [tx_br, if_pos c42, hsm]; rw [c42, tx_vn, if_pos hj]) (by omega) _ _ hP hD hS ls (lv_sub hl [2, 3, 1, 0] rfl)
    exact loop21 _ 0 0 (by first | assumption | omega) rfl (Nat.lt_succ_self _) _ _ hP hD hS ls (lv_sub hl [2, 3, 1, 0] rfl)
  · refine lv_aload_n hx hb dX5_brought_11 rfl (lv_at hl 0 rfl) ?_
    refine lv_iconst (v := (-1)) hx hb dX5_brought_12 (by decide) ?_
    refine cV_i (As := [.int (-1)]) (rest := []) (cr := [(xo, .inr (5, [.ref h, .ref hk, .int (bI im), .ref tx, .ref g, .ref pn, .ref cn, .ref s0, .int (nI ss), .ref r0]))]) (cw1 := [(r0, aI cs 7 (tx_nf rf))]) ⟨hx, hb, hml, hown, hts⟩ (c_X5_refuseAmount l D cs _ xo hk im tx pn cn s0 ss r0 h g rf (-1) 1 (by decide) (by decide) (by decide)) (cwV 1 hts gX5_brought_X5_refuseAmount rfl rfl rfl (by decide +kernel) ⟨Nat.le_of_ble_eq_true rfl, Nat.le_of_ble_eq_true rfl⟩) hK hP hD hS hA (((hR hS).app hP).sub [0, 7] rfl) (dt_of hN [0, 7] (by decide) rfl) [0] rfl 0 rfl rfl rfl hl.1 rfl (Nat.le_of_ble_eq_true rfl) dX5_brought_13 ⟨Nat.le_of_ble_eq_true rfl, Nat.le_of_ble_eq_true rfl⟩ (fun _ => rfl) (fun _ => rfl) (fun r_5 u9 H locs hw_6 hP hD hS => ?_)
    have hP : va_P D vwCl [(r0, aI cs 7 (tx_nf (tx_rf rf 1)))] H := hP
    have hD : va_D A [(r0, aI cs 7 (tx_nf (tx_rf rf 1)))] := hD
    subst r_5
    have hQ : tx_q1 (tx_has n t) = 1 := by simp [tx_q1, c8]
    have e9 : tx_rf rf (tx_q1 (tx_has n t)) = tx_rf rf 1 := by rw [hQ] <;> rfl
    have hP : va_P D vwCl [(r0, aI cs 7 (tx_nf (tx_rf rf (tx_q1 (tx_has n t)))))] H := by rw [e9]; (try simp only [hQ]); exact hP
    have hD : va_D A [(r0, aI cs 7 (tx_nf (tx_rf rf (tx_q1 (tx_has n t)))))] := by rw [e9]; (try simp only [hQ]); exact hD
    exact rt_i hx hb hr hlocks () (by rw [hQ] <;> (first | done | rfl)) hP hD hS dX5_brought_16
set_option maxHeartbeats 4000000 in
set_option maxRecDepth 100000 in
theorem c_X6_brought (l : Launch) (D : va_G) (cs : Nat → ClassId) (sz : Nat) (o : Nat) (o1 : Nat) (o2 : Nat) (o3 : Nat) (o4 : Nat) (o5 : Nat) (o6 : Nat) (o7 : Nat) (o8 : Nat) (o9 : Nat) (o10 : Nat) (o11 : Nat) (o12 : Nat) (o13 : Nat) (o14 : Nat) (o15 : Nat) (n : Nat) (dy : Nat) (ch : Nat) (lw : Nat) (tz : Nat) (at9 : Nat) (va9 : Nat) (ss : Nat) (im : Bool) (kd : Nat → Nat) (wo : Nat → Nat) (ha : Nat → Nat) (we : Nat → Nat) (td : Nat → Nat) (rf : Nat → Nat) (t : Int32) (hn : n ≤ 4) (hdy : dy ≤ 20) (htd : ∀ e, td e < 4) (hkd : ∀ e, kd e ≤ 5) : mI (S := Unit) l yX6_brought wsX6_brought ({ frames := 2, cells := 0, slots := 0, locals := 43 } : Room) D (tyc cs) sz [.ref o, .int t] [(o, .inr (6, [.int (nI n), .ref o1, .ref o2, .ref o3, .ref o4, .int (nI dy), .ref o5, .ref o6, .int (nI ch), .int (nI lw), .int (nI tz), .ref o7, .int (nI at9), .int (nI va9), .int (nI ss), .ref o8, .ref o9, .int (bI im), .ref o10, .ref o11, .ref o12, .ref o13, .ref o14, .ref o15])), (o1, aI cs 4 (tx_nf kd)), (o2, aI cs 4 (tx_nf wo)), (o3, aI cs 4 (tx_nf ha)), (o4, aI cs 4 (tx_nf we)), (o5, aI cs 21 (tx_nf td))] [(o9, aI cs 7 (tx_nf rf))] (fun (r : Int32) (u : Unit) => r = tx_af (tx_q1 (tx_has n t)) (iI (tx_br kd wo ha we td (tx_ix t) dy))) (fun _ => [(o9, aI cs 7 (tx_nf (tx_rf rf (tx_q1 (tx_has n t)))))]) 0 0 := by
  unfold mI
  refine Met.ofW (cc := cX6_brought) (maxL := 4) (ret := (some .int)) (by decide) rfl ?_
  intro p e s m args below meth c s₁ B hml hv
  obtain ⟨rfl, hsz, hP, hK, hD0⟩ := hv
  have hx := B.exec
  have hb := B.bytes
  have hr := B.returns
  have hts := atoms_spec (ws := wsX6_brought) B.pre
  have hown : s.vm.findClass RX6 = some m.cls := findClass_of_methodNamed B.named
  have hlocks := B.notSynchronized
  subst hsz
  have hR := @en_R _ _ _ [(o, .inr (6, [.int (nI n), .ref o1, .ref o2, .ref o3, .ref o4, .int (nI dy), .ref o5, .ref o6, .int (nI ch), .int (nI lw), .int (nI tz), .ref o7, .int (nI at9), .int (nI va9), .int (nI ss), .ref o8, .ref o9, .int (bI im), .ref o10, .ref o11, .ref o12, .ref o13, .ref o14, .ref o15])), (o1, aI cs 4 (tx_nf kd)), (o2, aI cs 4 (tx_nf wo)), (o3, aI cs 4 (tx_nf ha)), (o4, aI cs 4 (tx_nf we)), (o5, aI cs 21 (tx_nf td))] [(o9, aI cs 7 (tx_nf rf))] _ hP hD0
  have hN := adN_of hD0
  have hD := en_D (wr := [(o, .inr (6, [.int (nI n), .ref o1, .ref o2, .ref o3, .ref o4, .int (nI dy), .ref o5, .ref o6, .int (nI ch), .int (nI lw), .int (nI tz), .ref o7, .int (nI at9), .int (nI va9), .int (nI ss), .ref o8, .ref o9, .int (bI im), .ref o10, .ref o11, .ref o12, .ref o13, .ref o14, .ref o15])), (o1, aI cs 4 (tx_nf kd)), (o2, aI cs 4 (tx_nf wo)), (o3, aI cs 4 (tx_nf ha)), (o4, aI cs 4 (tx_nf we)), (o5, aI cs 21 (tx_nf td))]) (ww := [(o9, aI cs 7 (tx_nf rf))]) (sz := s.heap.size) hD0
  have hP := en_P (wr := [(o, .inr (6, [.int (nI n), .ref o1, .ref o2, .ref o3, .ref o4, .int (nI dy), .ref o5, .ref o6, .int (nI ch), .int (nI lw), .int (nI tz), .ref o7, .int (nI at9), .int (nI va9), .int (nI ss), .ref o8, .ref o9, .int (bI im), .ref o10, .ref o11, .ref o12, .ref o13, .ref o14, .ref o15])), (o1, aI cs 4 (tx_nf kd)), (o2, aI cs 4 (tx_nf wo)), (o3, aI cs 4 (tx_nf ha)), (o4, aI cs 4 (tx_nf we)), (o5, aI cs 21 (tx_nf td))]) (ww := [(o9, aI cs 7 (tx_nf rf))]) hP
  generalize hAe : va_A [(o9, aI cs 7 (tx_nf rf))] s.heap.size = A at hD hR ⊢
  have hA : ∀ q : Nat, s.heap.size ≤ q → A q := fun q h => by rw [← hAe]; exact Or.inr h
  have hS : va_S A s.heap s.heap [] := va_S.rf
  have hN : adN [o, o1, o2, o3, o4, o5, o9] := hN
  have hf_22 := hts (.fieldLink RX6 22 "TaxedByLongestModel" "done" "[I") (by decide +kernel)
  have hf_78 := hts (.fieldLink RX6 78 "TaxedByLongestModel" "days" "I") (by decide +kernel)
  have in_X6 : ∀ w ∈ wsX60, w ∈ wsX6_brought := by decide +kernel
  have hl := lv_entry ([.ref o, .int t]) (n := 4) (Nat.le_of_ble_eq_true rfl)
  rw [lg_entry_eq]
  generalize (lg_sl ([.ref o, .int t]) ++ List.replicate (4 - (lg_sl ([.ref o, .int t])).length) Slot.unset).toArray = ls at hl ⊢
  have hl : lv_has ls 4 [(0, .ref o), (1, .int t)] := hl
  refine lv_aload_n hx hb dX6_brought_0 rfl (lv_at hl 0 rfl) ?_
  refine lv_iload_n hx hb dX6_brought_1 rfl (lv_at hl 1 rfl) ?_
  refine cV_i (As := [.int t]) (rest := []) (cr := [(o, .inr (6, [.int (nI n), .ref o1, .ref o2, .ref o3, .ref o4, .int (nI dy), .ref o5, .ref o6, .int (nI ch), .int (nI lw), .int (nI tz), .ref o7, .int (nI at9), .int (nI va9), .int (nI ss), .ref o8, .ref o9, .int (bI im), .ref o10, .ref o11, .ref o12, .ref o13, .ref o14, .ref o15]))]) (cw1 := []) ⟨hx, hb, hml, hown, hts⟩ (c_X6_isThing l D cs _ o o1 o2 o3 o4 o5 o6 o7 o8 o9 o10 o11 o12 o13 o14 o15 n dy ch lw tz at9 va9 ss im t (by first | assumption | omega)) (cwV 1 hts gX6_brought_X6_isThing rfl rfl rfl (by decide +kernel) ⟨Nat.le_of_ble_eq_true rfl, Nat.le_of_ble_eq_true rfl⟩) hK hP hD hS hA (((hR hS).app hP).sub [0] rfl) (dt_of hN [0] (by decide) rfl) [] rfl 0 rfl rfl rfl hl.1 rfl (Nat.le_of_ble_eq_true rfl) dX6_brought_2 ⟨Nat.le_of_ble_eq_true rfl, Nat.le_of_ble_eq_true rfl⟩ (fun _ => rfl) (fun _ => rfl) (fun r_1 u9 H locs hw_2 hP hD hS => ?_)
  have hP : va_P D vwCl [(o9, aI cs 7 (tx_nf rf))] H := hP
  have hD : va_D A [(o9, aI cs 7 (tx_nf rf))] := hD
  subst r_1
  refine bb_ne (b := tx_has n t) (tgt := 14) hx hb rfl dX6_brought_5 (by decide) (fun c5 => ?_) (fun c5 => ?_)
  · obtain ⟨j, hj, rfl⟩ := tx_has_t (by omega) c5
    have hij : tx_ix (nI j) = j := tx_ix_n (by omega)
    refine lv_iconst (v := 0) hx hb dX6_brought_14 (by decide) ?_
    refine lv_istore_n (lv' := [(2, .int 0), (0, .ref o), (1, .int (nI j))]) hx hb dX6_brought_15 rfl hl (by decide) rfl (fun ls hl => ?_)
    refine lv_iconst (v := 0) hx hb dX6_brought_16 (by decide) ?_
    refine lv_istore_n (lv' := [(3, .int 0), (2, .int 0), (0, .ref o), (1, .int (nI j))]) hx hb dX6_brought_17 rfl hl (by decide) rfl (fun ls hl => ?_)
    have loop18 : ∀ (n9 : Nat) (i : Nat) (sm : Int) (hi : i ≤ dy) (hsm : sm = tx_br kd wo ha we td j i), dy - i < n9 → ∀ (H : Heap) (locs : List Loc), va_P D vwCl [(o9, aI cs 7 (tx_nf rf))] H → va_D A [(o9, aI cs 7 (tx_nf rf))] → va_S A s.heap H locs → ∀ (ls : Array Slot), lv_has ls 4 [(0, .ref o), (1, .int (nI j)), (2, .int (iI sm)), (3, .int (nI i))] → W p l e (headSpec wsX6_brought ({ frames := 2, cells := 0, slots := 0, locals := 43 } : Room)).room s m ([.ref o, .int (nI j)] : List Value).toArray below meth c H locs 0 0 (MQ below (va_Qi (fun (r : Int32) (u : Unit) => r = tx_af (tx_q1 (tx_has n (nI j))) (iI (tx_br kd wo ha we td (tx_ix (nI j)) dy))) (QB D (fun _ => [(o9, aI cs 7 (tx_nf (tx_rf rf (tx_q1 (tx_has n (nI j))))))]) A) A) ([.ref o, .int (nI j)] : List Value).toArray s 0 0 A) (F0 m 18 ls []) := by
      intro n9
      induction n9 with
      | zero => intros; omega
      | succ n9 ih18 =>
        intro i sm hi hsm hmu H locs hP hD hS ls hl
        refine lv_iload_n hx hb dX6_brought_18 rfl (lv_at hl 3 rfl) ?_
        refine lv_aload_n hx hb dX6_brought_19 rfl (lv_at hl 0 rfl) ?_
        refine va_get (D := D) (ci := 6) (v := .int (nI dy)) (C := RX6) (T := TX6) (N := 24) hx hb hts in_X6 hown hK (hR hS) 0 rfl rfl 5 (by decide) hf_78 (fun _ h9 => h9) rfl dX6_brought_20 ?_
        refine bn_ge (a := i) (b := dy) (tgt := 55) hx hb rfl rfl (by omega) (by omega) dX6_brought_23 (by decide) (fun c23 => ?_) (fun c23 => ?_)
        · refine lv_iload_n hx hb dX6_brought_55 rfl (lv_at hl 2 rfl) ?_
          have hQ : tx_q1 (tx_has n (nI j)) = 0 := by simp [tx_q1, c5, c23]
          have e9 : tx_rf rf (tx_q1 (tx_has n (nI j))) = rf := by rw [hQ] <;> rfl
          have hP : va_P D vwCl [(o9, aI cs 7 (tx_nf (tx_rf rf (tx_q1 (tx_has n (nI j))))))] H := by rw [e9]; (try simp only [hQ]); exact hP
          have hD : va_D A [(o9, aI cs 7 (tx_nf (tx_rf rf (tx_q1 (tx_has n (nI j))))))] := by rw [e9]; (try simp only [hQ]); exact hD
          exact rt_i hx hb hr hlocks () (by rw [hQ] <;> (rw [hij, hsm, show i = dy by omega]; rfl)) hP hD hS dX6_brought_56
        · refine lv_aload_n hx hb dX6_brought_26 rfl (lv_at hl 0 rfl) ?_
          refine va_get (D := D) (ci := 6) (v := .ref o5) (C := RX6) (T := TX6) (N := 24) hx hb hts in_X6 hown hK (hR hS) 0 rfl rfl 6 (by decide) hf_22 (fun _ h9 => h9) rfl dX6_brought_27 ?_
          refine lv_iload_n hx hb dX6_brought_30 rfl (lv_at hl 3 rfl) ?_
          refine ia_n (f := tx_nf td) hx hb hK (hR hS) 5 0 rfl rfl (j := i) rfl (by omega) (by decide) dX6_brought_31 ?_
          refine tp_i (y := nI (td i)) rfl ?_
          refine lv_iload_n hx hb dX6_brought_32 rfl (lv_at hl 1 rfl) ?_
          have := htd i
          refine bn_ne (a := td i) (b := j) (tgt := 49) hx hb rfl rfl (by omega) (by omega) dX6_brought_33 (by decide) (fun c33 => ?_) (fun c33 => ?_)
          · refine lv_iinc (v := nI (i + 1)) (lv' := [(3, .int (nI (i + 1))), (0, .ref o), (1, .int (nI j)), (2, .int (iI sm))]) hx hb dX6_brought_49 hl (k := 3) rfl (inc_n i 1) (by decide) rfl (fun ls hl => ?_)
            refine lv_goto (tgt := 18) hx hb dX6_brought_52 (by decide) ?_
            exact ih18 (i + 1) sm (by first | assumption | omega) (by rw [tx_br, if_neg c33, hsm, Int.add_zero]) (by omega) _ _ hP hD hS ls (lv_sub hl [1, 2, 3, 0] rfl)
          · refine lv_iload_n hx hb dX6_brought_36 rfl (lv_at hl 2 rfl) ?_
            refine lv_aload_n hx hb dX6_brought_37 rfl (lv_at hl 0 rfl) ?_
            refine lv_iload_n hx hb dX6_brought_38 rfl (lv_at hl 1 rfl) ?_
            refine lv_aload_n hx hb dX6_brought_39 rfl (lv_at hl 0 rfl) ?_
            refine lv_iload_n hx hb dX6_brought_40 rfl (lv_at hl 3 rfl) ?_
            refine cV_i (As := [.int (nI i)]) (rest := [.int (nI j), .ref o, .int (iI sm)]) (cr := [(o, .inr (6, [.int (nI n), .ref o1, .ref o2, .ref o3, .ref o4, .int (nI dy), .ref o5, .ref o6, .int (nI ch), .int (nI lw), .int (nI tz), .ref o7, .int (nI at9), .int (nI va9), .int (nI ss), .ref o8, .ref o9, .int (bI im), .ref o10, .ref o11, .ref o12, .ref o13, .ref o14, .ref o15])), (o5, aI cs 21 (tx_nf td))]) (cw1 := []) ⟨hx, hb, hml, hown, hts⟩ (c_X6_which l D cs _ o o1 o2 o3 o4 o5 o6 o7 o8 o9 o10 o11 o12 o13 o14 o15 n dy ch lw tz at9 va9 ss im td i (by first | assumption | omega) (by first | assumption | omega)) (cwV 1 hts gX6_brought_X6_which rfl rfl rfl (by decide +kernel) ⟨Nat.le_of_ble_eq_true rfl, Nat.le_of_ble_eq_true rfl⟩) hK hP hD hS hA (((hR hS).app hP).sub [0, 5] rfl) (dt_of hN [0, 5] (by decide) rfl) [] rfl 0 rfl rfl rfl hl.1 rfl (Nat.le_of_ble_eq_true rfl) dX6_brought_41 ⟨Nat.le_of_ble_eq_true rfl, Nat.le_of_ble_eq_true rfl⟩ (fun _ => rfl) (fun _ => rfl) (fun r_3 u9 H locs hw_4 hP hD hS => ?_)
            have hP : va_P D vwCl [(o9, aI cs 7 (tx_nf rf))] H := hP
            have hD : va_D A [(o9, aI cs 7 (tx_nf rf))] := hD
            subst r_3
            refine cV_i (As := [.int (nI j), .int (nI (tx_pl td i))]) (rest := [.int (iI sm)]) (cr := [(o, .inr (6, [.int (nI n), .ref o1, .ref o2, .ref o3, .ref o4, .int (nI dy), .ref o5, .ref o6, .int (nI ch), .int (nI lw), .int (nI tz), .ref o7, .int (nI at9), .int (nI va9), .int (nI ss), .ref o8, .ref o9, .int (bI im), .ref o10, .ref o11, .ref o12, .ref o13, .ref o14, .ref o15])), (o1, aI cs 4 (tx_nf kd)), (o2, aI cs 4 (tx_nf wo)), (o3, aI cs 4 (tx_nf ha)), (o4, aI cs 4 (tx_nf we))]) (cw1 := []) ⟨hx, hb, hml, hown, hts⟩ (c_X6_worthOf l D cs _ o o1 o2 o3 o4 o5 o6 o7 o8 o9 o10 o11 o12 o13 o14 o15 n dy ch lw tz at9 va9 ss im kd wo ha we j (tx_pl td i) (by first | assumption | omega) (by have := tx_pl_le td i; omega) (by first | assumption | omega)) (cwV 2 hts gX6_brought_X6_worthOf rfl rfl rfl (by decide +kernel) ⟨Nat.le_of_ble_eq_true rfl, Nat.le_of_ble_eq_true rfl⟩) hK hP hD hS hA (((hR hS).app hP).sub [0, 1, 2, 3, 4] rfl) (dt_of hN [0, 1, 2, 3, 4] (by decide) rfl) [] rfl 0 rfl rfl rfl hl.1 rfl (Nat.le_of_ble_eq_true rfl) dX6_brought_44 ⟨Nat.le_of_ble_eq_true rfl, Nat.le_of_ble_eq_true rfl⟩ (fun _ => rfl) (fun _ => rfl) (fun r_5 u9 H locs hw_6 hP hD hS => ?_)
            have hP : va_P D vwCl [(o9, aI cs 7 (tx_nf rf))] H := hP
            have hD : va_D A [(o9, aI cs 7 (tx_nf rf))] := hD
            subst r_5
            refine lv_iadd hx hb dX6_brought_47 ?_
            refine tp_i (add_iI (a := sm) (b := tx_vl kd wo ha we j (tx_pl td i)) rfl rfl) ?_
            refine lv_istore_n (lv' := [(2, .int (iI (sm + (tx_vl kd wo ha we j (tx_pl td i))))), (0, .ref o), (1, .int (nI j)), (3, .int (nI i))]) hx hb dX6_brought_48 rfl hl (by decide) rfl (fun ls hl => ?_)
            refine lv_iinc (v := nI (i + 1)) (lv' := [(3, .int (nI (i + 1))), (2, .int (iI (sm + (tx_vl kd wo ha we j (tx_pl td i))))), (0, .ref o), (1, .int (nI j))]) hx hb dX6_brought_49 hl (k := 3) rfl (inc_n i 1) (by decide) rfl (fun ls hl => ?_)
            refine lv_goto (tgt := 18) hx hb dX6_brought_52 (by decide) ?_
            exact ih18 (i + 1) (sm + (tx_vl kd wo ha we j (tx_pl td i))) (by first | assumption | omega) (by rw [tx_br, if_pos c33, hsm]) (by omega) _ _ hP hD hS ls (lv_sub hl [2, 3, 1, 0] rfl)
    exact loop18 _ 0 0 (by first | assumption | omega) rfl (Nat.lt_succ_self _) _ _ hP hD hS ls (lv_sub hl [2, 3, 1, 0] rfl)
  · refine lv_aload_n hx hb dX6_brought_8 rfl (lv_at hl 0 rfl) ?_
    refine lv_iconst (v := (-1)) hx hb dX6_brought_9 (by decide) ?_
    refine cV_i (As := [.int (-1)]) (rest := []) (cr := [(o, .inr (6, [.int (nI n), .ref o1, .ref o2, .ref o3, .ref o4, .int (nI dy), .ref o5, .ref o6, .int (nI ch), .int (nI lw), .int (nI tz), .ref o7, .int (nI at9), .int (nI va9), .int (nI ss), .ref o8, .ref o9, .int (bI im), .ref o10, .ref o11, .ref o12, .ref o13, .ref o14, .ref o15]))]) (cw1 := [(o9, aI cs 7 (tx_nf rf))]) ⟨hx, hb, hml, hown, hts⟩ (c_X6_noFar l D cs _ o o1 o2 o3 o4 o5 o6 o7 o8 o9 o10 o11 o12 o13 o14 o15 n dy ch lw tz at9 va9 ss im rf (-1) 1 (by decide) (by decide) (by decide)) (cwV 1 hts gX6_brought_X6_noFar rfl rfl rfl (by decide +kernel) ⟨Nat.le_of_ble_eq_true rfl, Nat.le_of_ble_eq_true rfl⟩) hK hP hD hS hA (((hR hS).app hP).sub [0, 6] rfl) (dt_of hN [0, 6] (by decide) rfl) [0] rfl 0 rfl rfl rfl hl.1 rfl (Nat.le_of_ble_eq_true rfl) dX6_brought_10 ⟨Nat.le_of_ble_eq_true rfl, Nat.le_of_ble_eq_true rfl⟩ (fun _ => rfl) (fun _ => rfl) (fun r_7 u9 H locs hw_8 hP hD hS => ?_)
    have hP : va_P D vwCl [(o9, aI cs 7 (tx_nf (tx_rf rf 1)))] H := hP
    have hD : va_D A [(o9, aI cs 7 (tx_nf (tx_rf rf 1)))] := hD
    subst r_7
    have hQ : tx_q1 (tx_has n t) = 1 := by simp [tx_q1, c5]
    have e9 : tx_rf rf (tx_q1 (tx_has n t)) = tx_rf rf 1 := by rw [hQ] <;> rfl
    have hP : va_P D vwCl [(o9, aI cs 7 (tx_nf (tx_rf rf (tx_q1 (tx_has n t)))))] H := by rw [e9]; (try simp only [hQ]); exact hP
    have hD : va_D A [(o9, aI cs 7 (tx_nf (tx_rf rf (tx_q1 (tx_has n t)))))] := by rw [e9]; (try simp only [hQ]); exact hD
    exact rt_i hx hb hr hlocks () (by rw [hQ] <;> (first | done | rfl)) hP hD hS dX6_brought_13
set_option maxHeartbeats 4000000 in
set_option maxRecDepth 100000 in
theorem c_X5_row (l : Launch) (D : va_G) (cs : Nat → ClassId) (sz : Nat) (xo : Nat) (hk : Nat) (im : Bool) (tx : Nat) (pn : Nat) (cn : Nat) (s0 : Nat) (ss : Nat) (r0 : Nat) (h : Nat) (g : Nat) (sn : Nat → Nat) (rf : Nat → Nat) (v : Int32) (hss : ss ≤ 20) : mI (S := Unit) l yX5_row wsX5_row ({ frames := 1, cells := 0, slots := 0, locals := 22 } : Room) D (tyc cs) sz [.ref xo, .int v] [] [(xo, .inr (5, [.ref h, .ref hk, .int (bI im), .ref tx, .ref g, .ref pn, .ref cn, .ref s0, .int (nI ss), .ref r0])), (s0, aI cs 20 (tx_nf sn)), (r0, aI cs 7 (tx_nf rf))] (fun (r : Int32) (u : Unit) => r = tx_ai (tx_q_row v ss) (nI (ss + 1))) (fun _ => [(xo, .inr (5, [.ref h, .ref hk, .int (bI im), .ref tx, .ref g, .ref pn, .ref cn, .ref s0, .int (nI (tx_if (tx_q_row v ss) (ss + 1) ss)), .ref r0])), (s0, aI cs 20 (tx_nf (tx_if (tx_q_row v ss) (va_up sn ss (tx_ix v)) sn))), (r0, aI cs 7 (tx_nf (tx_rf rf (tx_q_row v ss))))]) 0 0 := by
  unfold mI
  refine Met.ofW (cc := cX5_row) (maxL := 2) (ret := (some .int)) (by decide) rfl ?_
  intro p e s m args below meth c s₁ B hml hv
  obtain ⟨rfl, hsz, hP, hK, hD0⟩ := hv
  have hx := B.exec
  have hb := B.bytes
  have hr := B.returns
  have hts := atoms_spec (ws := wsX5_row) B.pre
  have hown : s.vm.findClass RX5 = some m.cls := findClass_of_methodNamed B.named
  have hlocks := B.notSynchronized
  subst hsz
  have hR := @en_R _ _ _ [] [(xo, .inr (5, [.ref h, .ref hk, .int (bI im), .ref tx, .ref g, .ref pn, .ref cn, .ref s0, .int (nI ss), .ref r0])), (s0, aI cs 20 (tx_nf sn)), (r0, aI cs 7 (tx_nf rf))] _ hP hD0
  have hN := adN_of hD0
  have hD := en_D (wr := []) (ww := [(xo, .inr (5, [.ref h, .ref hk, .int (bI im), .ref tx, .ref g, .ref pn, .ref cn, .ref s0, .int (nI ss), .ref r0])), (s0, aI cs 20 (tx_nf sn)), (r0, aI cs 7 (tx_nf rf))]) (sz := s.heap.size) hD0
  have hP := en_P (wr := []) (ww := [(xo, .inr (5, [.ref h, .ref hk, .int (bI im), .ref tx, .ref g, .ref pn, .ref cn, .ref s0, .int (nI ss), .ref r0])), (s0, aI cs 20 (tx_nf sn)), (r0, aI cs 7 (tx_nf rf))]) hP
  generalize hAe : va_A [(xo, .inr (5, [.ref h, .ref hk, .int (bI im), .ref tx, .ref g, .ref pn, .ref cn, .ref s0, .int (nI ss), .ref r0])), (s0, aI cs 20 (tx_nf sn)), (r0, aI cs 7 (tx_nf rf))] s.heap.size = A at hD hR ⊢
  have hA : ∀ q : Nat, s.heap.size ≤ q → A q := fun q h => by rw [← hAe]; exact Or.inr h
  have hS : va_S A s.heap s.heap [] := va_S.rf
  have hN : adN [xo, s0, r0] := hN
  have hf_51 := hts (.fieldLink RX5 51 "TaxedByLongest" "seen" "[I") (by decide +kernel)
  have hf_55 := hts (.fieldLink RX5 55 "TaxedByLongest" "seenSize" "I") (by decide +kernel)
  have in_X5 : ∀ w ∈ wsX50, w ∈ wsX5_row := by decide +kernel
  have hl := lv_entry ([.ref xo, .int v]) (n := 2) (Nat.le_of_ble_eq_true rfl)
  rw [lg_entry_eq]
  generalize (lg_sl ([.ref xo, .int v]) ++ List.replicate (2 - (lg_sl ([.ref xo, .int v])).length) Slot.unset).toArray = ls at hl ⊢
  have hl : lv_has ls 2 [(0, .ref xo), (1, .int v)] := hl
  refine lv_iload_n hx hb dX5_row_0 rfl (lv_at hl 1 rfl) ?_
  refine lv_if_ge (tgt := 11) hx hb dX5_row_1 (by decide) (fun c1 => ?_) (fun c1 => ?_)
  · refine lv_iload_n hx hb dX5_row_11 rfl (lv_at hl 1 rfl) ?_
    refine lv_bipush (v := 9) hx hb dX5_row_12 (by decide) ?_
    refine lv_icmp_gt (tgt := 29) hx hb dX5_row_14 (by decide) (fun c14 => ?_) (fun c14 => ?_)
    · refine lv_aload_n hx hb dX5_row_29 rfl (lv_at hl 0 rfl) ?_
      refine lv_bipush (v := (-6)) hx hb dX5_row_30 (by decide) ?_
      refine cV_i (As := [.int (-6)]) (rest := []) (cr := [(xo, .inr (5, [.ref h, .ref hk, .int (bI im), .ref tx, .ref g, .ref pn, .ref cn, .ref s0, .int (nI ss), .ref r0]))]) (cw1 := [(r0, aI cs 7 (tx_nf rf))]) ⟨hx, hb, hml, hown, hts⟩ (c_X5_refuse l D cs _ xo hk im tx pn cn s0 ss r0 h g rf (-6) 6 (by decide) (by decide) (by decide)) (cwV 1 hts gX5_row_X5_refuse rfl rfl rfl (by decide +kernel) ⟨Nat.le_of_ble_eq_true rfl, Nat.le_of_ble_eq_true rfl⟩) hK hP hD hS hA (hP.sub [0, 2] rfl) (dt_of hN [0, 2] (by decide) rfl) [2] rfl 0 rfl rfl rfl hl.1 rfl (Nat.le_of_ble_eq_true rfl) dX5_row_32 ⟨Nat.le_of_ble_eq_true rfl, Nat.le_of_ble_eq_true rfl⟩ (fun _ => rfl) (fun _ => rfl) (fun r_1 u9 H locs hw_2 hP hD hS => ?_)
      have hP : va_P D vwCl [(xo, .inr (5, [.ref h, .ref hk, .int (bI im), .ref tx, .ref g, .ref pn, .ref cn, .ref s0, .int (nI ss), .ref r0])), (s0, aI cs 20 (tx_nf sn)), (r0, aI cs 7 (tx_nf (tx_rf rf 6)))] H := hP
      have hD : va_D A [(xo, .inr (5, [.ref h, .ref hk, .int (bI im), .ref tx, .ref g, .ref pn, .ref cn, .ref s0, .int (nI ss), .ref r0])), (s0, aI cs 20 (tx_nf sn)), (r0, aI cs 7 (tx_nf (tx_rf rf 6)))] := hD
      subst r_1
      have hQ : tx_q_row v ss = 6 := by unfold tx_q_row; rw [if_neg (Int32.not_lt.mpr c1), if_pos (Or.inl c14)]
      have e9 : tx_rf rf (tx_q_row v ss) = tx_rf rf 6 := by rw [hQ] <;> rfl
      have hP : va_P D vwCl [(xo, .inr (5, [.ref h, .ref hk, .int (bI im), .ref tx, .ref g, .ref pn, .ref cn, .ref s0, .int (nI (tx_if (tx_q_row v ss) (ss + 1) ss)), .ref r0])), (s0, aI cs 20 (tx_nf (tx_if (tx_q_row v ss) (va_up sn ss (tx_ix v)) sn))), (r0, aI cs 7 (tx_nf (tx_rf rf (tx_q_row v ss))))] H := by rw [e9]; (try simp only [hQ]); (try rw [hij]); exact hP
      have hD : va_D A [(xo, .inr (5, [.ref h, .ref hk, .int (bI im), .ref tx, .ref g, .ref pn, .ref cn, .ref s0, .int (nI (tx_if (tx_q_row v ss) (ss + 1) ss)), .ref r0])), (s0, aI cs 20 (tx_nf (tx_if (tx_q_row v ss) (va_up sn ss (tx_ix v)) sn))), (r0, aI cs 7 (tx_nf (tx_rf rf (tx_q_row v ss))))] := by rw [e9]; (try simp only [hQ]); (try rw [hij]); exact hD
      exact rt_i hx hb hr hlocks () (by rw [hQ] <;> (first | done | rfl)) hP hD hS dX5_row_35
    · refine lv_aload_n hx hb dX5_row_17 rfl (lv_at hl 0 rfl) ?_
      refine va_get (D := D) (ci := 5) (v := .int (nI ss)) (C := RX5) (T := TX5) (N := 10) hx hb hts in_X5 hown hK hP 0 rfl rfl 8 (by decide) hf_55 (fun _ h9 => h9) rfl dX5_row_18 ?_
      refine lv_aload_n hx hb dX5_row_21 rfl (lv_at hl 0 rfl) ?_
      refine va_get (D := D) (ci := 5) (v := .ref s0) (C := RX5) (T := TX5) (N := 10) hx hb hts in_X5 hown hK hP 0 rfl rfl 7 (by decide) hf_51 (fun _ h9 => h9) rfl dX5_row_22 ?_
      refine va_alen (v := nI 20) hx hb hK hP 1 0 rfl rfl rfl dX5_row_25 ?_
      refine bn_lt (a := ss) (b := 20) (tgt := 36) hx hb rfl rfl (by omega) (by decide) dX5_row_26 (by decide) (fun c26 => ?_) (fun c26 => ?_)
      · obtain ⟨j, hj, rfl⟩ := nI_of2 (x := v) (M := 9) (n := 9) (by decide) (Int32.not_lt.mpr c1) (Int32.not_lt.mp c14)
        have hij : tx_ix (nI j) = j := tx_ix_n (by omega)
        refine lv_aload_n hx hb dX5_row_36 rfl (lv_at hl 0 rfl) ?_
        refine va_get (D := D) (ci := 5) (v := .ref s0) (C := RX5) (T := TX5) (N := 10) hx hb hts in_X5 hown hK hP 0 rfl rfl 7 (by decide) hf_51 (fun _ h9 => h9) rfl dX5_row_37 ?_
        refine lv_aload_n hx hb dX5_row_40 rfl (lv_at hl 0 rfl) ?_
        refine va_get (D := D) (ci := 5) (v := .int (nI ss)) (C := RX5) (T := TX5) (N := 10) hx hb hts in_X5 hown hK hP 0 rfl rfl 8 (by decide) hf_55 (fun _ h9 => h9) rfl dX5_row_41 ?_
        refine lv_iload_n hx hb dX5_row_44 rfl (lv_at hl 1 rfl) ?_
        refine is_n (f := tx_nf sn) hx hb hK hP hD hS 1 0 rfl rfl (j := ss) rfl (by omega) (by decide) dX5_row_45 (fun H locs hP hD hS => ?_)
        rw [show upd (tx_nf sn) ss (nI j) = tx_nf (va_up sn ss j) from nf_up _ _ _] at hP hD
        have hP : va_P D vwCl [(xo, .inr (5, [.ref h, .ref hk, .int (bI im), .ref tx, .ref g, .ref pn, .ref cn, .ref s0, .int (nI ss), .ref r0])), (s0, aI cs 20 (tx_nf (va_up sn ss j))), (r0, aI cs 7 (tx_nf rf))] H := hP
        have hD : va_D A [(xo, .inr (5, [.ref h, .ref hk, .int (bI im), .ref tx, .ref g, .ref pn, .ref cn, .ref s0, .int (nI ss), .ref r0])), (s0, aI cs 20 (tx_nf (va_up sn ss j))), (r0, aI cs 7 (tx_nf rf))] := hD
        refine lv_aload_n hx hb dX5_row_46 rfl (lv_at hl 0 rfl) ?_
        refine lv_dup hx hb dX5_row_47 rfl ?_
        refine va_get (D := D) (ci := 5) (v := .int (nI ss)) (C := RX5) (T := TX5) (N := 10) hx hb hts in_X5 hown hK hP 0 rfl rfl 8 (by decide) hf_55 (fun _ h9 => h9) rfl dX5_row_48 ?_
        refine lv_iconst (v := 1) hx hb dX5_row_51 (by decide) ?_
        refine lv_iadd hx hb dX5_row_52 ?_
        refine tp_i (nI_add ss 1) ?_
        refine va_put (D := D) (ci := 5) (v := .int (nI (ss + 1))) (ty := .int) (C := RX5) (T := TX5) (N := 10) hx hb hts in_X5 tyX5 tyX5_ok nmX5 hown hK hP hD hS 0 rfl rfl 8 (by decide) hf_55 (fun _ h9 => h9) rfl (by decide +kernel) rfl rfl (Nat.le_of_ble_eq_true rfl) dX5_row_53 (fun H locs hP hD hS => ?_)
        have hP : va_P D vwCl [(xo, .inr (5, [.ref h, .ref hk, .int (bI im), .ref tx, .ref g, .ref pn, .ref cn, .ref s0, .int (nI (ss + 1)), .ref r0])), (s0, aI cs 20 (tx_nf (va_up sn ss j))), (r0, aI cs 7 (tx_nf rf))] H := hP
        have hD : va_D A [(xo, .inr (5, [.ref h, .ref hk, .int (bI im), .ref tx, .ref g, .ref pn, .ref cn, .ref s0, .int (nI (ss + 1)), .ref r0])), (s0, aI cs 20 (tx_nf (va_up sn ss j))), (r0, aI cs 7 (tx_nf rf))] := hD
        refine lv_aload_n hx hb dX5_row_56 rfl (lv_at hl 0 rfl) ?_
        refine va_get (D := D) (ci := 5) (v := .int (nI (ss + 1))) (C := RX5) (T := TX5) (N := 10) hx hb hts in_X5 hown hK hP 0 rfl rfl 8 (by decide) hf_55 (fun _ h9 => h9) rfl dX5_row_57 ?_
        have hQ : tx_q_row (nI j) ss = 0 := by unfold tx_q_row; rw [if_neg (Int32.not_lt.mpr c1), if_neg (by rintro (q | q); exact c14 q; omega)]
        have e9 : tx_rf rf (tx_q_row (nI j) ss) = rf := by rw [hQ] <;> rfl
        have hP : va_P D vwCl [(xo, .inr (5, [.ref h, .ref hk, .int (bI im), .ref tx, .ref g, .ref pn, .ref cn, .ref s0, .int (nI (tx_if (tx_q_row (nI j) ss) (ss + 1) ss)), .ref r0])), (s0, aI cs 20 (tx_nf (tx_if (tx_q_row (nI j) ss) (va_up sn ss (tx_ix (nI j))) sn))), (r0, aI cs 7 (tx_nf (tx_rf rf (tx_q_row (nI j) ss))))] H := by rw [e9]; (try simp only [hQ]); (try rw [hij]); exact hP
        have hD : va_D A [(xo, .inr (5, [.ref h, .ref hk, .int (bI im), .ref tx, .ref g, .ref pn, .ref cn, .ref s0, .int (nI (tx_if (tx_q_row (nI j) ss) (ss + 1) ss)), .ref r0])), (s0, aI cs 20 (tx_nf (tx_if (tx_q_row (nI j) ss) (va_up sn ss (tx_ix (nI j))) sn))), (r0, aI cs 7 (tx_nf (tx_rf rf (tx_q_row (nI j) ss))))] := by rw [e9]; (try simp only [hQ]); (try rw [hij]); exact hD
        exact rt_i hx hb hr hlocks () (by rw [hQ] <;> (rfl)) hP hD hS dX5_row_60
      · refine lv_aload_n hx hb dX5_row_29 rfl (lv_at hl 0 rfl) ?_
        refine lv_bipush (v := (-6)) hx hb dX5_row_30 (by decide) ?_
        refine cV_i (As := [.int (-6)]) (rest := []) (cr := [(xo, .inr (5, [.ref h, .ref hk, .int (bI im), .ref tx, .ref g, .ref pn, .ref cn, .ref s0, .int (nI ss), .ref r0]))]) (cw1 := [(r0, aI cs 7 (tx_nf rf))]) ⟨hx, hb, hml, hown, hts⟩ (c_X5_refuse l D cs _ xo hk im tx pn cn s0 ss r0 h g rf (-6) 6 (by decide) (by decide) (by decide)) (cwV 1 hts gX5_row_X5_refuse rfl rfl rfl (by decide +kernel) ⟨Nat.le_of_ble_eq_true rfl, Nat.le_of_ble_eq_true rfl⟩) hK hP hD hS hA (hP.sub [0, 2] rfl) (dt_of hN [0, 2] (by decide) rfl) [2] rfl 0 rfl rfl rfl hl.1 rfl (Nat.le_of_ble_eq_true rfl) dX5_row_32 ⟨Nat.le_of_ble_eq_true rfl, Nat.le_of_ble_eq_true rfl⟩ (fun _ => rfl) (fun _ => rfl) (fun r_3 u9 H locs hw_4 hP hD hS => ?_)
        have hP : va_P D vwCl [(xo, .inr (5, [.ref h, .ref hk, .int (bI im), .ref tx, .ref g, .ref pn, .ref cn, .ref s0, .int (nI ss), .ref r0])), (s0, aI cs 20 (tx_nf sn)), (r0, aI cs 7 (tx_nf (tx_rf rf 6)))] H := hP
        have hD : va_D A [(xo, .inr (5, [.ref h, .ref hk, .int (bI im), .ref tx, .ref g, .ref pn, .ref cn, .ref s0, .int (nI ss), .ref r0])), (s0, aI cs 20 (tx_nf sn)), (r0, aI cs 7 (tx_nf (tx_rf rf 6)))] := hD
        subst r_3
        have hQ : tx_q_row v ss = 6 := by unfold tx_q_row; rw [if_neg (Int32.not_lt.mpr c1), if_pos (Or.inr (by omega))]
        have e9 : tx_rf rf (tx_q_row v ss) = tx_rf rf 6 := by rw [hQ] <;> rfl
        have hP : va_P D vwCl [(xo, .inr (5, [.ref h, .ref hk, .int (bI im), .ref tx, .ref g, .ref pn, .ref cn, .ref s0, .int (nI (tx_if (tx_q_row v ss) (ss + 1) ss)), .ref r0])), (s0, aI cs 20 (tx_nf (tx_if (tx_q_row v ss) (va_up sn ss (tx_ix v)) sn))), (r0, aI cs 7 (tx_nf (tx_rf rf (tx_q_row v ss))))] H := by rw [e9]; (try simp only [hQ]); (try rw [hij]); exact hP
        have hD : va_D A [(xo, .inr (5, [.ref h, .ref hk, .int (bI im), .ref tx, .ref g, .ref pn, .ref cn, .ref s0, .int (nI (tx_if (tx_q_row v ss) (ss + 1) ss)), .ref r0])), (s0, aI cs 20 (tx_nf (tx_if (tx_q_row v ss) (va_up sn ss (tx_ix v)) sn))), (r0, aI cs 7 (tx_nf (tx_rf rf (tx_q_row v ss))))] := by rw [e9]; (try simp only [hQ]); (try rw [hij]); exact hD
        exact rt_i hx hb hr hlocks () (by rw [hQ] <;> (first | done | rfl)) hP hD hS dX5_row_35
  · refine lv_aload_n hx hb dX5_row_4 rfl (lv_at hl 0 rfl) ?_
    refine lv_bipush (v := (-4)) hx hb dX5_row_5 (by decide) ?_
    refine cV_i (As := [.int (-4)]) (rest := []) (cr := [(xo, .inr (5, [.ref h, .ref hk, .int (bI im), .ref tx, .ref g, .ref pn, .ref cn, .ref s0, .int (nI ss), .ref r0]))]) (cw1 := [(r0, aI cs 7 (tx_nf rf))]) ⟨hx, hb, hml, hown, hts⟩ (c_X5_refuse l D cs _ xo hk im tx pn cn s0 ss r0 h g rf (-4) 4 (by decide) (by decide) (by decide)) (cwV 1 hts gX5_row_X5_refuse rfl rfl rfl (by decide +kernel) ⟨Nat.le_of_ble_eq_true rfl, Nat.le_of_ble_eq_true rfl⟩) hK hP hD hS hA (hP.sub [0, 2] rfl) (dt_of hN [0, 2] (by decide) rfl) [2] rfl 0 rfl rfl rfl hl.1 rfl (Nat.le_of_ble_eq_true rfl) dX5_row_7 ⟨Nat.le_of_ble_eq_true rfl, Nat.le_of_ble_eq_true rfl⟩ (fun _ => rfl) (fun _ => rfl) (fun r_5 u9 H locs hw_6 hP hD hS => ?_)
    have hP : va_P D vwCl [(xo, .inr (5, [.ref h, .ref hk, .int (bI im), .ref tx, .ref g, .ref pn, .ref cn, .ref s0, .int (nI ss), .ref r0])), (s0, aI cs 20 (tx_nf sn)), (r0, aI cs 7 (tx_nf (tx_rf rf 4)))] H := hP
    have hD : va_D A [(xo, .inr (5, [.ref h, .ref hk, .int (bI im), .ref tx, .ref g, .ref pn, .ref cn, .ref s0, .int (nI ss), .ref r0])), (s0, aI cs 20 (tx_nf sn)), (r0, aI cs 7 (tx_nf (tx_rf rf 4)))] := hD
    subst r_5
    have hQ : tx_q_row v ss = 4 := by simp [tx_q_row, c1, Int32.not_le.mp c1]
    have e9 : tx_rf rf (tx_q_row v ss) = tx_rf rf 4 := by rw [hQ] <;> rfl
    have hP : va_P D vwCl [(xo, .inr (5, [.ref h, .ref hk, .int (bI im), .ref tx, .ref g, .ref pn, .ref cn, .ref s0, .int (nI (tx_if (tx_q_row v ss) (ss + 1) ss)), .ref r0])), (s0, aI cs 20 (tx_nf (tx_if (tx_q_row v ss) (va_up sn ss (tx_ix v)) sn))), (r0, aI cs 7 (tx_nf (tx_rf rf (tx_q_row v ss))))] H := by rw [e9]; (try simp only [hQ]); (try rw [hij]); exact hP
    have hD : va_D A [(xo, .inr (5, [.ref h, .ref hk, .int (bI im), .ref tx, .ref g, .ref pn, .ref cn, .ref s0, .int (nI (tx_if (tx_q_row v ss) (ss + 1) ss)), .ref r0])), (s0, aI cs 20 (tx_nf (tx_if (tx_q_row v ss) (va_up sn ss (tx_ix v)) sn))), (r0, aI cs 7 (tx_nf (tx_rf rf (tx_q_row v ss))))] := by rw [e9]; (try simp only [hQ]); (try rw [hij]); exact hD
    exact rt_i hx hb hr hlocks () (by rw [hQ] <;> (first | done | rfl)) hP hD hS dX5_row_10
set_option maxHeartbeats 4000000 in
set_option maxRecDepth 100000 in
theorem c_X6_row (l : Launch) (D : va_G) (cs : Nat → ClassId) (sz : Nat) (o : Nat) (o1 : Nat) (o2 : Nat) (o3 : Nat) (o4 : Nat) (o5 : Nat) (o6 : Nat) (o7 : Nat) (o8 : Nat) (o9 : Nat) (o10 : Nat) (o11 : Nat) (o12 : Nat) (o13 : Nat) (o14 : Nat) (o15 : Nat) (n : Nat) (dy : Nat) (ch : Nat) (lw : Nat) (tz : Nat) (at9 : Nat) (va9 : Nat) (ss : Nat) (im : Bool) (sn : Nat → Nat) (rf : Nat → Nat) (v : Int32) (hss : ss ≤ 20) : mI (S := Unit) l yX6_row wsX6_row ({ frames := 1, cells := 0, slots := 0, locals := 21 } : Room) D (tyc cs) sz [.ref o, .int v] [] [(o, .inr (6, [.int (nI n), .ref o1, .ref o2, .ref o3, .ref o4, .int (nI dy), .ref o5, .ref o6, .int (nI ch), .int (nI lw), .int (nI tz), .ref o7, .int (nI at9), .int (nI va9), .int (nI ss), .ref o8, .ref o9, .int (bI im), .ref o10, .ref o11, .ref o12, .ref o13, .ref o14, .ref o15])), (o8, aI cs 20 (tx_nf sn)), (o9, aI cs 7 (tx_nf rf))] (fun (r : Int32) (u : Unit) => r = tx_ai (tx_q_row v ss) (nI (ss + 1))) (fun _ => [(o, .inr (6, [.int (nI n), .ref o1, .ref o2, .ref o3, .ref o4, .int (nI dy), .ref o5, .ref o6, .int (nI ch), .int (nI lw), .int (nI tz), .ref o7, .int (nI at9), .int (nI va9), .int (nI (tx_if (tx_q_row v ss) (ss + 1) ss)), .ref o8, .ref o9, .int (bI im), .ref o10, .ref o11, .ref o12, .ref o13, .ref o14, .ref o15])), (o8, aI cs 20 (tx_nf (tx_if (tx_q_row v ss) (va_up sn ss (tx_ix v)) sn))), (o9, aI cs 7 (tx_nf (tx_rf rf (tx_q_row v ss))))]) 0 0 := by
  unfold mI
  refine Met.ofW (cc := cX6_row) (maxL := 2) (ret := (some .int)) (by decide) rfl ?_
  intro p e s m args below meth c s₁ B hml hv
  obtain ⟨rfl, hsz, hP, hK, hD0⟩ := hv
  have hx := B.exec
  have hb := B.bytes
  have hr := B.returns
  have hts := atoms_spec (ws := wsX6_row) B.pre
  have hown : s.vm.findClass RX6 = some m.cls := findClass_of_methodNamed B.named
  have hlocks := B.notSynchronized
  subst hsz
  have hR := @en_R _ _ _ [] [(o, .inr (6, [.int (nI n), .ref o1, .ref o2, .ref o3, .ref o4, .int (nI dy), .ref o5, .ref o6, .int (nI ch), .int (nI lw), .int (nI tz), .ref o7, .int (nI at9), .int (nI va9), .int (nI ss), .ref o8, .ref o9, .int (bI im), .ref o10, .ref o11, .ref o12, .ref o13, .ref o14, .ref o15])), (o8, aI cs 20 (tx_nf sn)), (o9, aI cs 7 (tx_nf rf))] _ hP hD0
  have hN := adN_of hD0
  have hD := en_D (wr := []) (ww := [(o, .inr (6, [.int (nI n), .ref o1, .ref o2, .ref o3, .ref o4, .int (nI dy), .ref o5, .ref o6, .int (nI ch), .int (nI lw), .int (nI tz), .ref o7, .int (nI at9), .int (nI va9), .int (nI ss), .ref o8, .ref o9, .int (bI im), .ref o10, .ref o11, .ref o12, .ref o13, .ref o14, .ref o15])), (o8, aI cs 20 (tx_nf sn)), (o9, aI cs 7 (tx_nf rf))]) (sz := s.heap.size) hD0
  have hP := en_P (wr := []) (ww := [(o, .inr (6, [.int (nI n), .ref o1, .ref o2, .ref o3, .ref o4, .int (nI dy), .ref o5, .ref o6, .int (nI ch), .int (nI lw), .int (nI tz), .ref o7, .int (nI at9), .int (nI va9), .int (nI ss), .ref o8, .ref o9, .int (bI im), .ref o10, .ref o11, .ref o12, .ref o13, .ref o14, .ref o15])), (o8, aI cs 20 (tx_nf sn)), (o9, aI cs 7 (tx_nf rf))]) hP
  generalize hAe : va_A [(o, .inr (6, [.int (nI n), .ref o1, .ref o2, .ref o3, .ref o4, .int (nI dy), .ref o5, .ref o6, .int (nI ch), .int (nI lw), .int (nI tz), .ref o7, .int (nI at9), .int (nI va9), .int (nI ss), .ref o8, .ref o9, .int (bI im), .ref o10, .ref o11, .ref o12, .ref o13, .ref o14, .ref o15])), (o8, aI cs 20 (tx_nf sn)), (o9, aI cs 7 (tx_nf rf))] s.heap.size = A at hD hR ⊢
  have hA : ∀ q : Nat, s.heap.size ≤ q → A q := fun q h => by rw [← hAe]; exact Or.inr h
  have hS : va_S A s.heap s.heap [] := va_S.rf
  have hN : adN [o, o8, o9] := hN
  have hf_31 := hts (.fieldLink RX6 31 "TaxedByLongestModel" "row" "[I") (by decide +kernel)
  have hf_189 := hts (.fieldLink RX6 189 "TaxedByLongestModel" "inRow" "I") (by decide +kernel)
  have in_X6 : ∀ w ∈ wsX60, w ∈ wsX6_row := by decide +kernel
  have hl := lv_entry ([.ref o, .int v]) (n := 2) (Nat.le_of_ble_eq_true rfl)
  rw [lg_entry_eq]
  generalize (lg_sl ([.ref o, .int v]) ++ List.replicate (2 - (lg_sl ([.ref o, .int v])).length) Slot.unset).toArray = ls at hl ⊢
  have hl : lv_has ls 2 [(0, .ref o), (1, .int v)] := hl
  refine lv_iload_n hx hb dX6_row_0 rfl (lv_at hl 1 rfl) ?_
  refine lv_if_ge (tgt := 11) hx hb dX6_row_1 (by decide) (fun c1 => ?_) (fun c1 => ?_)
  · refine lv_iload_n hx hb dX6_row_11 rfl (lv_at hl 1 rfl) ?_
    refine lv_bipush (v := 9) hx hb dX6_row_12 (by decide) ?_
    refine lv_icmp_gt (tgt := 26) hx hb dX6_row_14 (by decide) (fun c14 => ?_) (fun c14 => ?_)
    · refine lv_aload_n hx hb dX6_row_26 rfl (lv_at hl 0 rfl) ?_
      refine lv_bipush (v := (-6)) hx hb dX6_row_27 (by decide) ?_
      refine cV_i (As := [.int (-6)]) (rest := []) (cr := [(o, .inr (6, [.int (nI n), .ref o1, .ref o2, .ref o3, .ref o4, .int (nI dy), .ref o5, .ref o6, .int (nI ch), .int (nI lw), .int (nI tz), .ref o7, .int (nI at9), .int (nI va9), .int (nI ss), .ref o8, .ref o9, .int (bI im), .ref o10, .ref o11, .ref o12, .ref o13, .ref o14, .ref o15]))]) (cw1 := [(o9, aI cs 7 (tx_nf rf))]) ⟨hx, hb, hml, hown, hts⟩ (c_X6_no l D cs _ o o1 o2 o3 o4 o5 o6 o7 o8 o9 o10 o11 o12 o13 o14 o15 n dy ch lw tz at9 va9 ss im rf (-6) 6 (by decide) (by decide) (by decide)) (cwV 1 hts gX6_row_X6_no rfl rfl rfl (by decide +kernel) ⟨Nat.le_of_ble_eq_true rfl, Nat.le_of_ble_eq_true rfl⟩) hK hP hD hS hA (hP.sub [0, 2] rfl) (dt_of hN [0, 2] (by decide) rfl) [2] rfl 0 rfl rfl rfl hl.1 rfl (Nat.le_of_ble_eq_true rfl) dX6_row_29 ⟨Nat.le_of_ble_eq_true rfl, Nat.le_of_ble_eq_true rfl⟩ (fun _ => rfl) (fun _ => rfl) (fun r_1 u9 H locs hw_2 hP hD hS => ?_)
      have hP : va_P D vwCl [(o, .inr (6, [.int (nI n), .ref o1, .ref o2, .ref o3, .ref o4, .int (nI dy), .ref o5, .ref o6, .int (nI ch), .int (nI lw), .int (nI tz), .ref o7, .int (nI at9), .int (nI va9), .int (nI ss), .ref o8, .ref o9, .int (bI im), .ref o10, .ref o11, .ref o12, .ref o13, .ref o14, .ref o15])), (o8, aI cs 20 (tx_nf sn)), (o9, aI cs 7 (tx_nf (tx_rf rf 6)))] H := hP
      have hD : va_D A [(o, .inr (6, [.int (nI n), .ref o1, .ref o2, .ref o3, .ref o4, .int (nI dy), .ref o5, .ref o6, .int (nI ch), .int (nI lw), .int (nI tz), .ref o7, .int (nI at9), .int (nI va9), .int (nI ss), .ref o8, .ref o9, .int (bI im), .ref o10, .ref o11, .ref o12, .ref o13, .ref o14, .ref o15])), (o8, aI cs 20 (tx_nf sn)), (o9, aI cs 7 (tx_nf (tx_rf rf 6)))] := hD
      subst r_1
      have hQ : tx_q_row v ss = 6 := by simp [tx_q_row, c1, Int32.not_lt.mpr c1, c14]
      have e9 : tx_rf rf (tx_q_row v ss) = tx_rf rf 6 := by rw [hQ] <;> rfl
      have hP : va_P D vwCl [(o, .inr (6, [.int (nI n), .ref o1, .ref o2, .ref o3, .ref o4, .int (nI dy), .ref o5, .ref o6, .int (nI ch), .int (nI lw), .int (nI tz), .ref o7, .int (nI at9), .int (nI va9), .int (nI (tx_if (tx_q_row v ss) (ss + 1) ss)), .ref o8, .ref o9, .int (bI im), .ref o10, .ref o11, .ref o12, .ref o13, .ref o14, .ref o15])), (o8, aI cs 20 (tx_nf (tx_if (tx_q_row v ss) (va_up sn ss (tx_ix v)) sn))), (o9, aI cs 7 (tx_nf (tx_rf rf (tx_q_row v ss))))] H := by rw [e9]; (try simp only [hQ]); (try rw [hij]); exact hP
      have hD : va_D A [(o, .inr (6, [.int (nI n), .ref o1, .ref o2, .ref o3, .ref o4, .int (nI dy), .ref o5, .ref o6, .int (nI ch), .int (nI lw), .int (nI tz), .ref o7, .int (nI at9), .int (nI va9), .int (nI (tx_if (tx_q_row v ss) (ss + 1) ss)), .ref o8, .ref o9, .int (bI im), .ref o10, .ref o11, .ref o12, .ref o13, .ref o14, .ref o15])), (o8, aI cs 20 (tx_nf (tx_if (tx_q_row v ss) (va_up sn ss (tx_ix v)) sn))), (o9, aI cs 7 (tx_nf (tx_rf rf (tx_q_row v ss))))] := by rw [e9]; (try simp only [hQ]); (try rw [hij]); exact hD
      exact rt_i hx hb hr hlocks () (by rw [hQ] <;> (first | done | rfl)) hP hD hS dX6_row_32
    · refine lv_aload_n hx hb dX6_row_17 rfl (lv_at hl 0 rfl) ?_
      refine va_get (D := D) (ci := 6) (v := .int (nI ss)) (C := RX6) (T := TX6) (N := 24) hx hb hts in_X6 hown hK hP 0 rfl rfl 14 (by decide) hf_189 (fun _ h9 => h9) rfl dX6_row_18 ?_
      refine lv_bipush (v := 20) hx hb dX6_row_21 (by decide) ?_
      refine bn_ne (a := ss) (b := 20) (tgt := 33) hx hb rfl rfl (by omega) (by decide) dX6_row_23 (by decide) (fun c23 => ?_) (fun c23 => ?_)
      · obtain ⟨j, hj, rfl⟩ := nI_of2 (x := v) (M := 9) (n := 9) (by decide) (Int32.not_lt.mpr c1) (Int32.not_lt.mp c14)
        have hij : tx_ix (nI j) = j := tx_ix_n (by omega)
        refine lv_aload_n hx hb dX6_row_33 rfl (lv_at hl 0 rfl) ?_
        refine va_get (D := D) (ci := 6) (v := .ref o8) (C := RX6) (T := TX6) (N := 24) hx hb hts in_X6 hown hK hP 0 rfl rfl 15 (by decide) hf_31 (fun _ h9 => h9) rfl dX6_row_34 ?_
        refine lv_aload_n hx hb dX6_row_37 rfl (lv_at hl 0 rfl) ?_
        refine lv_dup hx hb dX6_row_38 rfl ?_
        refine va_get (D := D) (ci := 6) (v := .int (nI ss)) (C := RX6) (T := TX6) (N := 24) hx hb hts in_X6 hown hK hP 0 rfl rfl 14 (by decide) hf_189 (fun _ h9 => h9) rfl dX6_row_39 ?_
        refine lv_dup_x1 hx hb dX6_row_42 rfl rfl ?_
        refine lv_iconst (v := 1) hx hb dX6_row_43 (by decide) ?_
        refine lv_iadd hx hb dX6_row_44 ?_
        refine tp_i (nI_add ss 1) ?_
        refine va_put (D := D) (ci := 6) (v := .int (nI (ss + 1))) (ty := .int) (C := RX6) (T := TX6) (N := 24) hx hb hts in_X6 tyX6 tyX6_ok nmX6 hown hK hP hD hS 0 rfl rfl 14 (by decide) hf_189 (fun _ h9 => h9) rfl (by decide +kernel) rfl rfl (Nat.le_of_ble_eq_true rfl) dX6_row_45 (fun H locs hP hD hS => ?_)
        have hP : va_P D vwCl [(o, .inr (6, [.int (nI n), .ref o1, .ref o2, .ref o3, .ref o4, .int (nI dy), .ref o5, .ref o6, .int (nI ch), .int (nI lw), .int (nI tz), .ref o7, .int (nI at9), .int (nI va9), .int (nI (ss + 1)), .ref o8, .ref o9, .int (bI im), .ref o10, .ref o11, .ref o12, .ref o13, .ref o14, .ref o15])), (o8, aI cs 20 (tx_nf sn)), (o9, aI cs 7 (tx_nf rf))] H := hP
        have hD : va_D A [(o, .inr (6, [.int (nI n), .ref o1, .ref o2, .ref o3, .ref o4, .int (nI dy), .ref o5, .ref o6, .int (nI ch), .int (nI lw), .int (nI tz), .ref o7, .int (nI at9), .int (nI va9), .int (nI (ss + 1)), .ref o8, .ref o9, .int (bI im), .ref o10, .ref o11, .ref o12, .ref o13, .ref o14, .ref o15])), (o8, aI cs 20 (tx_nf sn)), (o9, aI cs 7 (tx_nf rf))] := hD
        refine lv_iload_n hx hb dX6_row_48 rfl (lv_at hl 1 rfl) ?_
        refine is_n (f := tx_nf sn) hx hb hK hP hD hS 1 0 rfl rfl (j := ss) rfl (by omega) (by decide) dX6_row_49 (fun H locs hP hD hS => ?_)
        rw [show upd (tx_nf sn) ss (nI j) = tx_nf (va_up sn ss j) from nf_up _ _ _] at hP hD
        have hP : va_P D vwCl [(o, .inr (6, [.int (nI n), .ref o1, .ref o2, .ref o3, .ref o4, .int (nI dy), .ref o5, .ref o6, .int (nI ch), .int (nI lw), .int (nI tz), .ref o7, .int (nI at9), .int (nI va9), .int (nI (ss + 1)), .ref o8, .ref o9, .int (bI im), .ref o10, .ref o11, .ref o12, .ref o13, .ref o14, .ref o15])), (o8, aI cs 20 (tx_nf (va_up sn ss j))), (o9, aI cs 7 (tx_nf rf))] H := hP
        have hD : va_D A [(o, .inr (6, [.int (nI n), .ref o1, .ref o2, .ref o3, .ref o4, .int (nI dy), .ref o5, .ref o6, .int (nI ch), .int (nI lw), .int (nI tz), .ref o7, .int (nI at9), .int (nI va9), .int (nI (ss + 1)), .ref o8, .ref o9, .int (bI im), .ref o10, .ref o11, .ref o12, .ref o13, .ref o14, .ref o15])), (o8, aI cs 20 (tx_nf (va_up sn ss j))), (o9, aI cs 7 (tx_nf rf))] := hD
        refine lv_aload_n hx hb dX6_row_50 rfl (lv_at hl 0 rfl) ?_
        refine va_get (D := D) (ci := 6) (v := .int (nI (ss + 1))) (C := RX6) (T := TX6) (N := 24) hx hb hts in_X6 hown hK hP 0 rfl rfl 14 (by decide) hf_189 (fun _ h9 => h9) rfl dX6_row_51 ?_
        have hQ : tx_q_row (nI j) ss = 0 := by simp [tx_q_row, c1, Int32.not_lt.mpr c1, c14, Int32.not_lt.mp c14, c23]
        have e9 : tx_rf rf (tx_q_row (nI j) ss) = rf := by rw [hQ] <;> rfl
        have hP : va_P D vwCl [(o, .inr (6, [.int (nI n), .ref o1, .ref o2, .ref o3, .ref o4, .int (nI dy), .ref o5, .ref o6, .int (nI ch), .int (nI lw), .int (nI tz), .ref o7, .int (nI at9), .int (nI va9), .int (nI (tx_if (tx_q_row (nI j) ss) (ss + 1) ss)), .ref o8, .ref o9, .int (bI im), .ref o10, .ref o11, .ref o12, .ref o13, .ref o14, .ref o15])), (o8, aI cs 20 (tx_nf (tx_if (tx_q_row (nI j) ss) (va_up sn ss (tx_ix (nI j))) sn))), (o9, aI cs 7 (tx_nf (tx_rf rf (tx_q_row (nI j) ss))))] H := by rw [e9]; (try simp only [hQ]); (try rw [hij]); exact hP
        have hD : va_D A [(o, .inr (6, [.int (nI n), .ref o1, .ref o2, .ref o3, .ref o4, .int (nI dy), .ref o5, .ref o6, .int (nI ch), .int (nI lw), .int (nI tz), .ref o7, .int (nI at9), .int (nI va9), .int (nI (tx_if (tx_q_row (nI j) ss) (ss + 1) ss)), .ref o8, .ref o9, .int (bI im), .ref o10, .ref o11, .ref o12, .ref o13, .ref o14, .ref o15])), (o8, aI cs 20 (tx_nf (tx_if (tx_q_row (nI j) ss) (va_up sn ss (tx_ix (nI j))) sn))), (o9, aI cs 7 (tx_nf (tx_rf rf (tx_q_row (nI j) ss))))] := by rw [e9]; (try simp only [hQ]); (try rw [hij]); exact hD
        exact rt_i hx hb hr hlocks () (by rw [hQ] <;> (rfl)) hP hD hS dX6_row_54
      · refine lv_aload_n hx hb dX6_row_26 rfl (lv_at hl 0 rfl) ?_
        refine lv_bipush (v := (-6)) hx hb dX6_row_27 (by decide) ?_
        refine cV_i (As := [.int (-6)]) (rest := []) (cr := [(o, .inr (6, [.int (nI n), .ref o1, .ref o2, .ref o3, .ref o4, .int (nI dy), .ref o5, .ref o6, .int (nI ch), .int (nI lw), .int (nI tz), .ref o7, .int (nI at9), .int (nI va9), .int (nI ss), .ref o8, .ref o9, .int (bI im), .ref o10, .ref o11, .ref o12, .ref o13, .ref o14, .ref o15]))]) (cw1 := [(o9, aI cs 7 (tx_nf rf))]) ⟨hx, hb, hml, hown, hts⟩ (c_X6_no l D cs _ o o1 o2 o3 o4 o5 o6 o7 o8 o9 o10 o11 o12 o13 o14 o15 n dy ch lw tz at9 va9 ss im rf (-6) 6 (by decide) (by decide) (by decide)) (cwV 1 hts gX6_row_X6_no rfl rfl rfl (by decide +kernel) ⟨Nat.le_of_ble_eq_true rfl, Nat.le_of_ble_eq_true rfl⟩) hK hP hD hS hA (hP.sub [0, 2] rfl) (dt_of hN [0, 2] (by decide) rfl) [2] rfl 0 rfl rfl rfl hl.1 rfl (Nat.le_of_ble_eq_true rfl) dX6_row_29 ⟨Nat.le_of_ble_eq_true rfl, Nat.le_of_ble_eq_true rfl⟩ (fun _ => rfl) (fun _ => rfl) (fun r_3 u9 H locs hw_4 hP hD hS => ?_)
        have hP : va_P D vwCl [(o, .inr (6, [.int (nI n), .ref o1, .ref o2, .ref o3, .ref o4, .int (nI dy), .ref o5, .ref o6, .int (nI ch), .int (nI lw), .int (nI tz), .ref o7, .int (nI at9), .int (nI va9), .int (nI ss), .ref o8, .ref o9, .int (bI im), .ref o10, .ref o11, .ref o12, .ref o13, .ref o14, .ref o15])), (o8, aI cs 20 (tx_nf sn)), (o9, aI cs 7 (tx_nf (tx_rf rf 6)))] H := hP
        have hD : va_D A [(o, .inr (6, [.int (nI n), .ref o1, .ref o2, .ref o3, .ref o4, .int (nI dy), .ref o5, .ref o6, .int (nI ch), .int (nI lw), .int (nI tz), .ref o7, .int (nI at9), .int (nI va9), .int (nI ss), .ref o8, .ref o9, .int (bI im), .ref o10, .ref o11, .ref o12, .ref o13, .ref o14, .ref o15])), (o8, aI cs 20 (tx_nf sn)), (o9, aI cs 7 (tx_nf (tx_rf rf 6)))] := hD
        subst r_3
        have hQ : tx_q_row v ss = 6 := by simp [tx_q_row, c1, Int32.not_lt.mpr c1, c14, Int32.not_lt.mp c14, c23]
        have e9 : tx_rf rf (tx_q_row v ss) = tx_rf rf 6 := by rw [hQ] <;> rfl
        have hP : va_P D vwCl [(o, .inr (6, [.int (nI n), .ref o1, .ref o2, .ref o3, .ref o4, .int (nI dy), .ref o5, .ref o6, .int (nI ch), .int (nI lw), .int (nI tz), .ref o7, .int (nI at9), .int (nI va9), .int (nI (tx_if (tx_q_row v ss) (ss + 1) ss)), .ref o8, .ref o9, .int (bI im), .ref o10, .ref o11, .ref o12, .ref o13, .ref o14, .ref o15])), (o8, aI cs 20 (tx_nf (tx_if (tx_q_row v ss) (va_up sn ss (tx_ix v)) sn))), (o9, aI cs 7 (tx_nf (tx_rf rf (tx_q_row v ss))))] H := by rw [e9]; (try simp only [hQ]); (try rw [hij]); exact hP
        have hD : va_D A [(o, .inr (6, [.int (nI n), .ref o1, .ref o2, .ref o3, .ref o4, .int (nI dy), .ref o5, .ref o6, .int (nI ch), .int (nI lw), .int (nI tz), .ref o7, .int (nI at9), .int (nI va9), .int (nI (tx_if (tx_q_row v ss) (ss + 1) ss)), .ref o8, .ref o9, .int (bI im), .ref o10, .ref o11, .ref o12, .ref o13, .ref o14, .ref o15])), (o8, aI cs 20 (tx_nf (tx_if (tx_q_row v ss) (va_up sn ss (tx_ix v)) sn))), (o9, aI cs 7 (tx_nf (tx_rf rf (tx_q_row v ss))))] := by rw [e9]; (try simp only [hQ]); (try rw [hij]); exact hD
        exact rt_i hx hb hr hlocks () (by rw [hQ] <;> (first | done | rfl)) hP hD hS dX6_row_32
  · refine lv_aload_n hx hb dX6_row_4 rfl (lv_at hl 0 rfl) ?_
    refine lv_bipush (v := (-4)) hx hb dX6_row_5 (by decide) ?_
    refine cV_i (As := [.int (-4)]) (rest := []) (cr := [(o, .inr (6, [.int (nI n), .ref o1, .ref o2, .ref o3, .ref o4, .int (nI dy), .ref o5, .ref o6, .int (nI ch), .int (nI lw), .int (nI tz), .ref o7, .int (nI at9), .int (nI va9), .int (nI ss), .ref o8, .ref o9, .int (bI im), .ref o10, .ref o11, .ref o12, .ref o13, .ref o14, .ref o15]))]) (cw1 := [(o9, aI cs 7 (tx_nf rf))]) ⟨hx, hb, hml, hown, hts⟩ (c_X6_no l D cs _ o o1 o2 o3 o4 o5 o6 o7 o8 o9 o10 o11 o12 o13 o14 o15 n dy ch lw tz at9 va9 ss im rf (-4) 4 (by decide) (by decide) (by decide)) (cwV 1 hts gX6_row_X6_no rfl rfl rfl (by decide +kernel) ⟨Nat.le_of_ble_eq_true rfl, Nat.le_of_ble_eq_true rfl⟩) hK hP hD hS hA (hP.sub [0, 2] rfl) (dt_of hN [0, 2] (by decide) rfl) [2] rfl 0 rfl rfl rfl hl.1 rfl (Nat.le_of_ble_eq_true rfl) dX6_row_7 ⟨Nat.le_of_ble_eq_true rfl, Nat.le_of_ble_eq_true rfl⟩ (fun _ => rfl) (fun _ => rfl) (fun r_5 u9 H locs hw_6 hP hD hS => ?_)
    have hP : va_P D vwCl [(o, .inr (6, [.int (nI n), .ref o1, .ref o2, .ref o3, .ref o4, .int (nI dy), .ref o5, .ref o6, .int (nI ch), .int (nI lw), .int (nI tz), .ref o7, .int (nI at9), .int (nI va9), .int (nI ss), .ref o8, .ref o9, .int (bI im), .ref o10, .ref o11, .ref o12, .ref o13, .ref o14, .ref o15])), (o8, aI cs 20 (tx_nf sn)), (o9, aI cs 7 (tx_nf (tx_rf rf 4)))] H := hP
    have hD : va_D A [(o, .inr (6, [.int (nI n), .ref o1, .ref o2, .ref o3, .ref o4, .int (nI dy), .ref o5, .ref o6, .int (nI ch), .int (nI lw), .int (nI tz), .ref o7, .int (nI at9), .int (nI va9), .int (nI ss), .ref o8, .ref o9, .int (bI im), .ref o10, .ref o11, .ref o12, .ref o13, .ref o14, .ref o15])), (o8, aI cs 20 (tx_nf sn)), (o9, aI cs 7 (tx_nf (tx_rf rf 4)))] := hD
    subst r_5
    have hQ : tx_q_row v ss = 4 := by simp [tx_q_row, c1, Int32.not_le.mp c1]
    have e9 : tx_rf rf (tx_q_row v ss) = tx_rf rf 4 := by rw [hQ] <;> rfl
    have hP : va_P D vwCl [(o, .inr (6, [.int (nI n), .ref o1, .ref o2, .ref o3, .ref o4, .int (nI dy), .ref o5, .ref o6, .int (nI ch), .int (nI lw), .int (nI tz), .ref o7, .int (nI at9), .int (nI va9), .int (nI (tx_if (tx_q_row v ss) (ss + 1) ss)), .ref o8, .ref o9, .int (bI im), .ref o10, .ref o11, .ref o12, .ref o13, .ref o14, .ref o15])), (o8, aI cs 20 (tx_nf (tx_if (tx_q_row v ss) (va_up sn ss (tx_ix v)) sn))), (o9, aI cs 7 (tx_nf (tx_rf rf (tx_q_row v ss))))] H := by rw [e9]; (try simp only [hQ]); (try rw [hij]); exact hP
    have hD : va_D A [(o, .inr (6, [.int (nI n), .ref o1, .ref o2, .ref o3, .ref o4, .int (nI dy), .ref o5, .ref o6, .int (nI ch), .int (nI lw), .int (nI tz), .ref o7, .int (nI at9), .int (nI va9), .int (nI (tx_if (tx_q_row v ss) (ss + 1) ss)), .ref o8, .ref o9, .int (bI im), .ref o10, .ref o11, .ref o12, .ref o13, .ref o14, .ref o15])), (o8, aI cs 20 (tx_nf (tx_if (tx_q_row v ss) (va_up sn ss (tx_ix v)) sn))), (o9, aI cs 7 (tx_nf (tx_rf rf (tx_q_row v ss))))] := by rw [e9]; (try simp only [hQ]); (try rw [hij]); exact hD
    exact rt_i hx hb hr hlocks () (by rw [hQ] <;> (first | done | rfl)) hP hD hS dX6_row_10
