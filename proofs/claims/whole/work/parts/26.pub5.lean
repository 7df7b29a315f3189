set_option maxHeartbeats 4000000 in
set_option maxRecDepth 100000 in
theorem c_X5_image (l : Launch) (D : va_G) (cs : Nat → ClassId) (sz : Nat) (xo : Nat) (hk : Nat) (im : Bool) (tx : Nat) (pn : Nat) (cn : Nat) (s0 : Nat) (ss : Nat) (r0 : Nat) (h : Nat) (k0 : Nat) (k1 : Nat) (k2 : Nat) (k3 : Nat) (k4 : Nat) (k5 : Nat) (n : Nat) (dy : Nat) (ch : Nat) (lw : Nat) (kd : Nat → Nat) (wo : Nat → Nat) (ha : Nat → Nat) (we : Nat → Nat) (td : Nat → Nat) (bo : Nat → Option Nat) (k02 : Nat) (k12 : Nat) (k22 : Nat) (k32 : Nat) (k42 : Nat) (k52 : Nat) (n2 : Nat) (dy2 : Nat) (ch2 : Nat) (lw2 : Nat) (kd2 : Nat → Nat) (wo2 : Nat → Nat) (ha2 : Nat → Nat) (we2 : Nat → Nat) (td2 : Nat → Nat) (bo2 : Nat → Option Nat) (g : Nat)  : mI (S := Unit) l yX5_image wsX5_image ({ frames := 2, cells := 0, slots := 0, locals := 85 } : Room) D (tyc cs) sz [.ref xo] [] [(xo, .inr (5, [.ref h, .ref hk, .int (bI im), .ref tx, .ref g, .ref pn, .ref cn, .ref s0, .int (nI ss), .ref r0])), (h, .inr (4, [.ref k0, .ref k1, .ref k2, .ref k3, .ref k4, .ref k5, .int (nI n), .int (nI dy), .int (nI ch), .int (nI lw)])), (k0, aI cs 4 (tx_nf kd)), (k1, aI cs 4 (tx_nf wo)), (k2, aI cs 4 (tx_nf ha)), (k3, aI cs 4 (tx_nf we)), (k4, aI cs 20 (tx_nf td)), (k5, aI cs 20 (tx_bf bo)), (hk, .inr (4, [.ref k02, .ref k12, .ref k22, .ref k32, .ref k42, .ref k52, .int (nI n2), .int (nI dy2), .int (nI ch2), .int (nI lw2)])), (k02, aI cs 4 (tx_nf kd2)), (k12, aI cs 4 (tx_nf wo2)), (k22, aI cs 4 (tx_nf ha2)), (k32, aI cs 4 (tx_nf we2)), (k42, aI cs 20 (tx_nf td2)), (k52, aI cs 20 (tx_bf bo2))] (fun (r : Int32) (u : Unit) => r = nI dy) (fun _ => [(xo, .inr (5, [.ref h, .ref hk, .int (bI true), .ref tx, .ref g, .ref pn, .ref cn, .ref s0, .int (nI ss), .ref r0])), (h, .inr (4, [.ref k0, .ref k1, .ref k2, .ref k3, .ref k4, .ref k5, .int (nI n), .int (nI dy), .int (nI ch), .int (nI lw)])), (k0, aI cs 4 (tx_nf kd)), (k1, aI cs 4 (tx_nf wo)), (k2, aI cs 4 (tx_nf ha)), (k3, aI cs 4 (tx_nf we)), (k4, aI cs 20 (tx_nf td)), (k5, aI cs 20 (tx_bf bo)), (hk, .inr (4, [.ref k02, .ref k12, .ref k22, .ref k32, .ref k42, .ref k52, .int (nI n), .int (nI dy), .int (nI ch), .int (nI lw)])), (k02, aI cs 4 (tx_nf kd)), (k12, aI cs 4 (tx_nf wo)), (k22, aI cs 4 (tx_nf ha)), (k32, aI cs 4 (tx_nf we)), (k42, aI cs 20 (tx_nf td)), (k52, aI cs 20 (tx_bf bo))]) 0 0 := by
  unfold mI
  refine Met.ofW (cc := cX5_image) (maxL := 1) (ret := (some .int)) (by decide) rfl ?_
  intro p e s m args below meth c s₁ B hml hv
  obtain ⟨rfl, hsz, hP, hK, hD0⟩ := hv
  have hx := B.exec
  have hb := B.bytes
  have hr := B.returns
  have hts := atoms_spec (ws := wsX5_image) B.pre
  have hown : s.vm.findClass RX5 = some m.cls := findClass_of_methodNamed B.named
  have hlocks := B.notSynchronized
  subst hsz
  have hR := @en_R _ _ _ [] [(xo, .inr (5, [.ref h, .ref hk, .int (bI im), .ref tx, .ref g, .ref pn, .ref cn, .ref s0, .int (nI ss), .ref r0])), (h, .inr (4, [.ref k0, .ref k1, .ref k2, .ref k3, .ref k4, .ref k5, .int (nI n), .int (nI dy), .int (nI ch), .int (nI lw)])), (k0, aI cs 4 (tx_nf kd)), (k1, aI cs 4 (tx_nf wo)), (k2, aI cs 4 (tx_nf ha)), (k3, aI cs 4 (tx_nf we)), (k4, aI cs 20 (tx_nf td)), (k5, aI cs 20 (tx_bf bo)), (hk, .inr (4, [.ref k02, .ref k12, .ref k22, .ref k32, .ref k42, .ref k52, .int (nI n2), .int (nI dy2), .int (nI ch2), .int (nI lw2)])), (k02, aI cs 4 (tx_nf kd2)), (k12, aI cs 4 (tx_nf wo2)), (k22, aI cs 4 (tx_nf ha2)), (k32, aI cs 4 (tx_nf we2)), (k42, aI cs 20 (tx_nf td2)), (k52, aI cs 20 (tx_bf bo2))] _ hP hD0
  have hN := adN_of hD0
  have hD := en_D (wr := []) (ww := [(xo, .inr (5, [.ref h, .ref hk, .int (bI im), .ref tx, .ref g, .ref pn, .ref cn, .ref s0, .int (nI ss), .ref r0])), (h, .inr (4, [.ref k0, .ref k1, .ref k2, .ref k3, .ref k4, .ref k5, .int (nI n), .int (nI dy), .int (nI ch), .int (nI lw)])), (k0, aI cs 4 (tx_nf kd)), (k1, aI cs 4 (tx_nf wo)), (k2, aI cs 4 (tx_nf ha)), (k3, aI cs 4 (tx_nf we)), (k4, aI cs 20 (tx_nf td)), (k5, aI cs 20 (tx_bf bo)), (hk, .inr (4, [.ref k02, .ref k12, .ref k22, .ref k32, .ref k42, .ref k52, .int (nI n2), .int (nI dy2), .int (nI ch2), .int (nI lw2)])), (k02, aI cs 4 (tx_nf kd2)), (k12, aI cs 4 (tx_nf wo2)), (k22, aI cs 4 (tx_nf ha2)), (k32, aI cs 4 (tx_nf we2)), (k42, aI cs 20 (tx_nf td2)), (k52, aI cs 20 (tx_bf bo2))]) (sz := s.heap.size) hD0
  have hP := en_P (wr := []) (ww := [(xo, .inr (5, [.ref h, .ref hk, .int (bI im), .ref tx, .ref g, .ref pn, .ref cn, .ref s0, .int (nI ss), .ref r0])), (h, .inr (4, [.ref k0, .ref k1, .ref k2, .ref k3, .ref k4, .ref k5, .int (nI n), .int (nI dy), .int (nI ch), .int (nI lw)])), (k0, aI cs 4 (tx_nf kd)), (k1, aI cs 4 (tx_nf wo)), (k2, aI cs 4 (tx_nf ha)), (k3, aI cs 4 (tx_nf we)), (k4, aI cs 20 (tx_nf td)), (k5, aI cs 20 (tx_bf bo)), (hk, .inr (4, [.ref k02, .ref k12, .ref k22, .ref k32, .ref k42, .ref k52, .int (nI n2), .int (nI dy2), .int (nI ch2), .int (nI lw2)])), (k02, aI cs 4 (tx_nf kd2)), (k12, aI cs 4 (tx_nf wo2)), (k22, aI cs 4 (tx_nf ha2)), (k32, aI cs 4 (tx_nf we2)), (k42, aI cs 20 (tx_nf td2)), (k52, aI cs 20 (tx_bf bo2))]) hP
  generalize hAe : va_A [(xo, .inr (5, [.ref h, .ref hk, .int (bI im), .ref tx, .ref g, .ref pn, .ref cn, .ref s0, .int (nI ss), .ref r0])), (h, .inr (4, [.ref k0, .ref k1, .ref k2, .ref k3, .ref k4, .ref k5, .int (nI n), .int (nI dy), .int (nI ch), .int (nI lw)])), (k0, aI cs 4 (tx_nf kd)), (k1, aI cs 4 (tx_nf wo)), (k2, aI cs 4 (tx_nf ha)), (k3, aI cs 4 (tx_nf we)), (k4, aI cs 20 (tx_nf td)), (k5, aI cs 20 (tx_bf bo)), (hk, .inr (4, [.ref k02, .ref k12, .ref k22, .ref k32, .ref k42, .ref k52, .int (nI n2), .int (nI dy2), .int (nI ch2), .int (nI lw2)])), (k02, aI cs 4 (tx_nf kd2)), (k12, aI cs 4 (tx_nf wo2)), (k22, aI cs 4 (tx_nf ha2)), (k32, aI cs 4 (tx_nf we2)), (k42, aI cs 20 (tx_nf td2)), (k52, aI cs 20 (tx_bf bo2))] s.heap.size = A at hD hR ⊢
  have hA : ∀ q : Nat, s.heap.size ≤ q → A q := fun q h => by rw [← hAe]; exact Or.inr h
  have hS : va_S A s.heap s.heap [] := va_S.rf
  have hN : adN [xo, h, k0, k1, k2, k3, k4, k5, hk, k02, k12, k22, k32, k42, k52] := hN
  have hf_10 := hts (.fieldLink RX5 10 "TaxedByLongest" "told" "LTaxedByLongest$Told;") (by decide +kernel)
  have hf_16 := hts (.fieldLink RX5 16 "TaxedByLongest" "kept" "LTaxedByLongest$Told;") (by decide +kernel)
  have hf_19 := hts (.fieldLink RX5 19 "TaxedByLongest" "isKept" "Z") (by decide +kernel)
  have hf_180 := hts (.fieldLink RX5 180 "TaxedByLongest$Told" "days" "I") (by decide +kernel)
  have in_X4 : ∀ w ∈ wsX40, w ∈ wsX5_image := by decide +kernel
  have in_X5 : ∀ w ∈ wsX50, w ∈ wsX5_image := by decide +kernel
  have hl := lv_entry ([.ref xo]) (n := 1) (Nat.le_of_ble_eq_true rfl)
  rw [lg_entry_eq]
  generalize (lg_sl ([.ref xo]) ++ List.replicate (1 - (lg_sl ([.ref xo])).length) Slot.unset).toArray = ls at hl ⊢
  have hl : lv_has ls 1 [(0, .ref xo)] := hl
  refine lv_aload_n hx hb dX5_image_0 rfl (lv_at hl 0 rfl) ?_
  refine va_get (D := D) (ci := 5) (v := .ref hk) (C := RX5) (T := TX5) (N := 10) hx hb hts in_X5 hown hK hP 0 rfl rfl 1 (by decide) hf_16 (fun _ h9 => h9) rfl dX5_image_1 ?_
  refine lv_aload_n hx hb dX5_image_4 rfl (lv_at hl 0 rfl) ?_
  refine va_get (D := D) (ci := 5) (v := .ref h) (C := RX5) (T := TX5) (N := 10) hx hb hts in_X5 hown hK hP 0 rfl rfl 0 (by decide) hf_10 (fun _ h9 => h9) rfl dX5_image_5 ?_
  refine cV_v (As := [.ref h]) (rest := []) (cr := []) (cw1 := [(hk, .inr (4, [.ref k02, .ref k12, .ref k22, .ref k32, .ref k42, .ref k52, .int (nI n2), .int (nI dy2), .int (nI ch2), .int (nI lw2)])), (k02, aI cs 4 (tx_nf kd2)), (k12, aI cs 4 (tx_nf wo2)), (k22, aI cs 4 (tx_nf ha2)), (k32, aI cs 4 (tx_nf we2)), (k42, aI cs 20 (tx_nf td2)), (k52, aI cs 20 (tx_bf bo2)), (h, .inr (4, [.ref k0, .ref k1, .ref k2, .ref k3, .ref k4, .ref k5, .int (nI n), .int (nI dy), .int (nI ch), .int (nI lw)])), (k0, aI cs 4 (tx_nf kd)), (k1, aI cs 4 (tx_nf wo)), (k2, aI cs 4 (tx_nf ha)), (k3, aI cs 4 (tx_nf we)), (k4, aI cs 20 (tx_nf td)), (k5, aI cs 20 (tx_bf bo))]) ⟨hx, hb, hml, hown, hts⟩ (c_X4_copyFrom l D cs _ hk k02 k12 k22 k32 k42 k52 n2 dy2 ch2 lw2 kd2 wo2 ha2 we2 td2 bo2 h k0 k1 k2 k3 k4 k5 n dy ch lw kd wo ha we td bo ) (cwV 1 hts gX5_image_X4_copyFrom rfl rfl rfl (by decide +kernel) ⟨Nat.le_of_ble_eq_true rfl, Nat.le_of_ble_eq_true rfl⟩) hK hP hD hS hA (hP.sub [8, 9, 10, 11, 12, 13, 14, 1, 2, 3, 4, 5, 6, 7] rfl) (dt_of hN [8, 9, 10, 11, 12, 13, 14, 1, 2, 3, 4, 5, 6, 7] (by decide) rfl) [8, 9, 10, 11, 12, 13, 14, 1, 2, 3, 4, 5, 6, 7] rfl 0 rfl rfl rfl hl.1 rfl (Nat.le_of_ble_eq_true rfl) dX5_image_8 ⟨Nat.le_of_ble_eq_true rfl, Nat.le_of_ble_eq_true rfl⟩ (fun _ => rfl) (fun _ => rfl) (fun u9 H locs hw_1 hP hD hS => ?_)
  have hP : va_P D vwCl [(xo, .inr (5, [.ref h, .ref hk, .int (bI im), .ref tx, .ref g, .ref pn, .ref cn, .ref s0, .int (nI ss), .ref r0])), (h, .inr (4, [.ref k0, .ref k1, .ref k2, .ref k3, .ref k4, .ref k5, .int (nI n), .int (nI dy), .int (nI ch), .int (nI lw)])), (k0, aI cs 4 (tx_nf kd)), (k1, aI cs 4 (tx_nf wo)), (k2, aI cs 4 (tx_nf ha)), (k3, aI cs 4 (tx_nf we)), (k4, aI cs 20 (tx_nf td)), (k5, aI cs 20 (tx_bf bo)), (hk, .inr (4, [.ref k02, .ref k12, .ref k22, .ref k32, .ref k42, .ref k52, .int (nI n), .int (nI dy), .int (nI ch), .int (nI lw)])), (k02, aI cs 4 (tx_nf kd)), (k12, aI cs 4 (tx_nf wo)), (k22, aI cs 4 (tx_nf ha)), (k32, aI cs 4 (tx_nf we)), (k42, aI cs 20 (tx_nf td)), (k52, aI cs 20 (tx_bf bo))] H := hP
  have hD : va_D A [(xo, .inr (5, [.ref h, .ref hk, .int (bI im), .ref tx, .ref g, .ref pn, .ref cn, .ref s0, .int (nI ss), .ref r0])), (h, .inr (4, [.ref k0, .ref k1, .ref k2, .ref k3, .ref k4, .ref k5, .int (nI n), .int (nI dy), .int (nI ch), .int (nI lw)])), (k0, aI cs 4 (tx_nf kd)), (k1, aI cs 4 (tx_nf wo)), (k2, aI cs 4 (tx_nf ha)), (k3, aI cs 4 (tx_nf we)), (k4, aI cs 20 (tx_nf td)), (k5, aI cs 20 (tx_bf bo)), (hk, .inr (4, [.ref k02, .ref k12, .ref k22, .ref k32, .ref k42, .ref k52, .int (nI n), .int (nI dy), .int (nI ch), .int (nI lw)])), (k02, aI cs 4 (tx_nf kd)), (k12, aI cs 4 (tx_nf wo)), (k22, aI cs 4 (tx_nf ha)), (k32, aI cs 4 (tx_nf we)), (k42, aI cs 20 (tx_nf td)), (k52, aI cs 20 (tx_bf bo))] := hD
  refine lv_aload_n hx hb dX5_image_11 rfl (lv_at hl 0 rfl) ?_
  refine lv_iconst (v := 1) hx hb dX5_image_12 (by decide) ?_
  refine va_put (D := D) (ci := 5) (v := .int 1) (ty := .boolean) (C := RX5) (T := TX5) (N := 10) hx hb hts in_X5 tyX5 tyX5_ok nmX5 hown hK hP hD hS 0 rfl rfl 2 (by decide) hf_19 (fun _ h9 => h9) rfl (by decide +kernel) rfl rfl (Nat.le_of_ble_eq_true rfl) dX5_image_13 (fun H locs hP hD hS => ?_)
  have hP : va_P D vwCl [(xo, .inr (5, [.ref h, .ref hk, .int 1, .ref tx, .ref g, .ref pn, .ref cn, .ref s0, .int (nI ss), .ref r0])), (h, .inr (4, [.ref k0, .ref k1, .ref k2, .ref k3, .ref k4, .ref k5, .int (nI n), .int (nI dy), .int (nI ch), .int (nI lw)])), (k0, aI cs 4 (tx_nf kd)), (k1, aI cs 4 (tx_nf wo)), (k2, aI cs 4 (tx_nf ha)), (k3, aI cs 4 (tx_nf we)), (k4, aI cs 20 (tx_nf td)), (k5, aI cs 20 (tx_bf bo)), (hk, .inr (4, [.ref k02, .ref k12, .ref k22, .ref k32, .ref k42, .ref k52, .int (nI n), .int (nI dy), .int (nI ch), .int (nI lw)])), (k02, aI cs 4 (tx_nf kd)), (k12, aI cs 4 (tx_nf wo)), (k22, aI cs 4 (tx_nf ha)), (k32, aI cs 4 (tx_nf we)), (k42, aI cs 20 (tx_nf td)), (k52, aI cs 20 (tx_bf bo))] H := hP
  have hD : va_D A [(xo, .inr (5, [.ref h, .ref hk, .int 1, .ref tx, .ref g, .ref pn, .ref cn, .ref s0, .int (nI ss), .ref r0])), (h, .inr (4, [.ref k0, .ref k1, .ref k2, .ref k3, .ref k4, .ref k5, .int (nI n), .int (nI dy), .int (nI ch), .int (nI lw)])), (k0, aI cs 4 (tx_nf kd)), (k1, aI cs 4 (tx_nf wo)), (k2, aI cs 4 (tx_nf ha)), (k3, aI cs 4 (tx_nf we)), (k4, aI cs 20 (tx_nf td)), (k5, aI cs 20 (tx_bf bo)), (hk, .inr (4, [.ref k02, .ref k12, .ref k22, .ref k32, .ref k42, .ref k52, .int (nI n), .int (nI dy), .int (nI ch), .int (nI lw)])), (k02, aI cs 4 (tx_nf kd)), (k12, aI cs 4 (tx_nf wo)), (k22, aI cs 4 (tx_nf ha)), (k32, aI cs 4 (tx_nf we)), (k42, aI cs 20 (tx_nf td)), (k52, aI cs 20 (tx_bf bo))] := hD
  refine lv_aload_n hx hb dX5_image_16 rfl (lv_at hl 0 rfl) ?_
  refine va_get (D := D) (ci := 5) (v := .ref h) (C := RX5) (T := TX5) (N := 10) hx hb hts in_X5 hown hK hP 0 rfl rfl 0 (by decide) hf_10 (fun _ h9 => h9) rfl dX5_image_17 ?_
  refine va_get (D := D) (ci := 4) (v := .int (nI dy)) (C := RX4) (T := TX4) (N := 10) hx hb hts in_X4 hown hK hP 1 rfl rfl 7 (by decide) hf_180 (fun _ h9 => h9) rfl dX5_image_20 ?_
  exact rt_i hx hb hr hlocks () (rfl) hP hD hS dX5_image_23
set_option maxHeartbeats 4000000 in
set_option maxRecDepth 100000 in
theorem c_X5_on (l : Launch) (D : va_G) (cs : Nat → ClassId) (sz : Nat) (xo : Nat) (hk : Nat) (im : Bool) (tx : Nat) (pn : Nat) (cn : Nat) (s0 : Nat) (ss : Nat) (r0 : Nat) (h : Nat) (k0 : Nat) (k1 : Nat) (k2 : Nat) (k3 : Nat) (k4 : Nat) (k5 : Nat) (n : Nat) (dy : Nat) (ch : Nat) (lw : Nat) (kd : Nat → Nat) (wo : Nat → Nat) (ha : Nat → Nat) (we : Nat → Nat) (td : Nat → Nat) (bo : Nat → Option Nat) (k02 : Nat) (k12 : Nat) (k22 : Nat) (k32 : Nat) (k42 : Nat) (k52 : Nat) (n2 : Nat) (dy2 : Nat) (ch2 : Nat) (lw2 : Nat) (kd2 : Nat → Nat) (wo2 : Nat → Nat) (ha2 : Nat → Nat) (we2 : Nat → Nat) (td2 : Nat → Nat) (bo2 : Nat → Option Nat) (g : Nat) (rf : Nat → Nat)  : mI (S := Unit) l yX5_on wsX5_on ({ frames := 2, cells := 0, slots := 0, locals := 85 } : Room) D (tyc cs) sz [.ref xo] [(xo, .inr (5, [.ref h, .ref hk, .int (bI im), .ref tx, .ref g, .ref pn, .ref cn, .ref s0, .int (nI ss), .ref r0]))] [(h, .inr (4, [.ref k0, .ref k1, .ref k2, .ref k3, .ref k4, .ref k5, .int (nI n), .int (nI dy), .int (nI ch), .int (nI lw)])), (k0, aI cs 4 (tx_nf kd)), (k1, aI cs 4 (tx_nf wo)), (k2, aI cs 4 (tx_nf ha)), (k3, aI cs 4 (tx_nf we)), (k4, aI cs 20 (tx_nf td)), (k5, aI cs 20 (tx_bf bo)), (hk, .inr (4, [.ref k02, .ref k12, .ref k22, .ref k32, .ref k42, .ref k52, .int (nI n2), .int (nI dy2), .int (nI ch2), .int (nI lw2)])), (k02, aI cs 4 (tx_nf kd2)), (k12, aI cs 4 (tx_nf wo2)), (k22, aI cs 4 (tx_nf ha2)), (k32, aI cs 4 (tx_nf we2)), (k42, aI cs 20 (tx_nf td2)), (k52, aI cs 20 (tx_bf bo2)), (r0, aI cs 7 (tx_nf rf))] (fun (r : Int32) (u : Unit) => r = tx_ai (tx_q_on im) (nI dy2)) (fun _ => [(h, .inr (4, [.ref k0, .ref k1, .ref k2, .ref k3, .ref k4, .ref k5, .int (nI (tx_if (tx_q_on im) n2 n)), .int (nI (tx_if (tx_q_on im) dy2 dy)), .int (nI (tx_if (tx_q_on im) ch2 ch)), .int (nI (tx_if (tx_q_on im) lw2 lw))])), (k0, aI cs 4 (tx_nf (tx_if (tx_q_on im) kd2 kd))), (k1, aI cs 4 (tx_nf (tx_if (tx_q_on im) wo2 wo))), (k2, aI cs 4 (tx_nf (tx_if (tx_q_on im) ha2 ha))), (k3, aI cs 4 (tx_nf (tx_if (tx_q_on im) we2 we))), (k4, aI cs 20 (tx_nf (tx_if (tx_q_on im) td2 td))), (k5, aI cs 20 (tx_bf (tx_if (tx_q_on im) bo2 bo))), (hk, .inr (4, [.ref k02, .ref k12, .ref k22, .ref k32, .ref k42, .ref k52, .int (nI n2), .int (nI dy2), .int (nI ch2), .int (nI lw2)])), (k02, aI cs 4 (tx_nf kd2)), (k12, aI cs 4 (tx_nf wo2)), (k22, aI cs 4 (tx_nf ha2)), (k32, aI cs 4 (tx_nf we2)), (k42, aI cs 20 (tx_nf td2)), (k52, aI cs 20 (tx_bf bo2)), (r0, aI cs 7 (tx_nf (tx_rf rf (tx_q_on im))))]) 0 0 := by
  unfold mI
  refine Met.ofW (cc := cX5_on) (maxL := 1) (ret := (some .int)) (by decide) rfl ?_
  intro p e s m args below meth c s₁ B hml hv
  obtain ⟨rfl, hsz, hP, hK, hD0⟩ := hv
  have hx := B.exec
  have hb := B.bytes
  have hr := B.returns
  have hts := atoms_spec (ws := wsX5_on) B.pre
  have hown : s.vm.findClass RX5 = some m.cls := findClass_of_methodNamed B.named
  have hlocks := B.notSynchronized
  subst hsz
  have hR := @en_R _ _ _ [(xo, .inr (5, [.ref h, .ref hk, .int (bI im), .ref tx, .ref g, .ref pn, .ref cn, .ref s0, .int (nI ss), .ref r0]))] [(h, .inr (4, [.ref k0, .ref k1, .ref k2, .ref k3, .ref k4, .ref k5, .int (nI n), .int (nI dy), .int (nI ch), .int (nI lw)])), (k0, aI cs 4 (tx_nf kd)), (k1, aI cs 4 (tx_nf wo)), (k2, aI cs 4 (tx_nf ha)), (k3, aI cs 4 (tx_nf we)), (k4, aI cs 20 (tx_nf td)), (k5, aI cs 20 (tx_bf bo)), (hk, .inr (4, [.ref k02, .ref k12, .ref k22, .ref k32, .ref k42, .ref k52, .int (nI n2), .int (nI dy2), .int (nI ch2), .int (nI lw2)])), (k02, aI cs 4 (tx_nf kd2)), (k12, aI cs 4 (tx_nf wo2)), (k22, aI cs 4 (tx_nf ha2)), (k32, aI cs 4 (tx_nf we2)), (k42, aI cs 20 (tx_nf td2)), (k52, aI cs 20 (tx_bf bo2)), (r0, aI cs 7 (tx_nf rf))] _ hP hD0
  have hN := adN_of hD0
  have hD := en_D (wr := [(xo, .inr (5, [.ref h, .ref hk, .int (bI im), .ref tx, .ref g, .ref pn, .ref cn, .ref s0, .int (nI ss), .ref r0]))]) (ww := [(h, .inr (4, [.ref k0, .ref k1, .ref k2, .ref k3, .ref k4, .ref k5, .int (nI n), .int (nI dy), .int (nI ch), .int (nI lw)])), (k0, aI cs 4 (tx_nf kd)), (k1, aI cs 4 (tx_nf wo)), (k2, aI cs 4 (tx_nf ha)), (k3, aI cs 4 (tx_nf we)), (k4, aI cs 20 (tx_nf td)), (k5, aI cs 20 (tx_bf bo)), (hk, .inr (4, [.ref k02, .ref k12, .ref k22, .ref k32, .ref k42, .ref k52, .int (nI n2), .int (nI dy2), .int (nI ch2), .int (nI lw2)])), (k02, aI cs 4 (tx_nf kd2)), (k12, aI cs 4 (tx_nf wo2)), (k22, aI cs 4 (tx_nf ha2)), (k32, aI cs 4 (tx_nf we2)), (k42, aI cs 20 (tx_nf td2)), (k52, aI cs 20 (tx_bf bo2)), (r0, aI cs 7 (tx_nf rf))]) (sz := s.heap.size) hD0
  have hP := en_P (wr := [(xo, .inr (5, [.ref h, .ref hk, .int (bI im), .ref tx, .ref g, .ref pn, .ref cn, .ref s0, .int (nI ss), .ref r0]))]) (ww := [(h, .inr (4, [.ref k0, .ref k1, .ref k2, .ref k3, .ref k4, .ref k5, .int (nI n), .int (nI dy), .int (nI ch), .int (nI lw)])), (k0, aI cs 4 (tx_nf kd)), (k1, aI cs 4 (tx_nf wo)), (k2, aI cs 4 (tx_nf ha)), (k3, aI cs 4 (tx_nf we)), (k4, aI cs 20 (tx_nf td)), (k5, aI cs 20 (tx_bf bo)), (hk, .inr (4, [.ref k02, .ref k12, .ref k22, .ref k32, .ref k42, .ref k52, .int (nI n2), .int (nI dy2), .int (nI ch2), .int (nI lw2)])), (k02, aI cs 4 (tx_nf kd2)), (k12, aI cs 4 (tx_nf wo2)), (k22, aI cs 4 (tx_nf ha2)), (k32, aI cs 4 (tx_nf we2)), (k42, aI cs 20 (tx_nf td2)), (k52, aI cs 20 (tx_bf bo2)), (r0, aI cs 7 (tx_nf rf))]) hP
  generalize hAe : va_A [(h, .inr (4, [.ref k0, .ref k1, .ref k2, .ref k3, .ref k4, .ref k5, .int (nI n), .int (nI dy), .int (nI ch), .int (nI lw)])), (k0, aI cs 4 (tx_nf kd)), (k1, aI cs 4 (tx_nf wo)), (k2, aI cs 4 (tx_nf ha)), (k3, aI cs 4 (tx_nf we)), (k4, aI cs 20 (tx_nf td)), (k5, aI cs 20 (tx_bf bo)), (hk, .inr (4, [.ref k02, .ref k12, .ref k22, .ref k32, .ref k42, .ref k52, .int (nI n2), .int (nI dy2), .int (nI ch2), .int (nI lw2)])), (k02, aI cs 4 (tx_nf kd2)), (k12, aI cs 4 (tx_nf wo2)), (k22, aI cs 4 (tx_nf ha2)), (k32, aI cs 4 (tx_nf we2)), (k42, aI cs 20 (tx_nf td2)), (k52, aI cs 20 (tx_bf bo2)), (r0, aI cs 7 (tx_nf rf))] s.heap.size = A at hD hR ⊢
  have hA : ∀ q : Nat, s.heap.size ≤ q → A q := fun q h => by rw [← hAe]; exact Or.inr h
  have hS : va_S A s.heap s.heap [] := va_S.rf
  have hN : adN [xo, h, k0, k1, k2, k3, k4, k5, hk, k02, k12, k22, k32, k42, k52, r0] := hN
  have hf_10 := hts (.fieldLink RX5 10 "TaxedByLongest" "told" "LTaxedByLongest$Told;") (by decide +kernel)
  have hf_16 := hts (.fieldLink RX5 16 "TaxedByLongest" "kept" "LTaxedByLongest$Told;") (by decide +kernel)
  have hf_19 := hts (.fieldLink RX5 19 "TaxedByLongest" "isKept" "Z") (by decide +kernel)
  have hf_180 := hts (.fieldLink RX5 180 "TaxedByLongest$Told" "days" "I") (by decide +kernel)
  have in_X4 : ∀ w ∈ wsX40, w ∈ wsX5_on := by decide +kernel
  have in_X5 : ∀ w ∈ wsX50, w ∈ wsX5_on := by decide +kernel
  have hl := lv_entry ([.ref xo]) (n := 1) (Nat.le_of_ble_eq_true rfl)
  rw [lg_entry_eq]
  generalize (lg_sl ([.ref xo]) ++ List.replicate (1 - (lg_sl ([.ref xo])).length) Slot.unset).toArray = ls at hl ⊢
  have hl : lv_has ls 1 [(0, .ref xo)] := hl
  refine lv_aload_n hx hb dX5_on_0 rfl (lv_at hl 0 rfl) ?_
  refine va_get (D := D) (ci := 5) (v := .int (bI im)) (C := RX5) (T := TX5) (N := 10) hx hb hts in_X5 hown hK (hR hS) 0 rfl rfl 2 (by decide) hf_19 (fun _ h9 => h9) rfl dX5_on_1 ?_
  refine bb_ne (b := im) (tgt := 14) hx hb rfl dX5_on_4 (by decide) (fun c4 => ?_) (fun c4 => ?_)
  · refine lv_aload_n hx hb dX5_on_14 rfl (lv_at hl 0 rfl) ?_
    refine va_get (D := D) (ci := 5) (v := .ref h) (C := RX5) (T := TX5) (N := 10) hx hb hts in_X5 hown hK (hR hS) 0 rfl rfl 0 (by decide) hf_10 (fun _ h9 => h9) rfl dX5_on_15 ?_
    refine lv_aload_n hx hb dX5_on_18 rfl (lv_at hl 0 rfl) ?_
    refine va_get (D := D) (ci := 5) (v := .ref hk) (C := RX5) (T := TX5) (N := 10) hx hb hts in_X5 hown hK (hR hS) 0 rfl rfl 1 (by decide) hf_16 (fun _ h9 => h9) rfl dX5_on_19 ?_
    refine cV_v (As := [.ref hk]) (rest := []) (cr := []) (cw1 := [(h, .inr (4, [.ref k0, .ref k1, .ref k2, .ref k3, .ref k4, .ref k5, .int (nI n), .int (nI dy), .int (nI ch), .int (nI lw)])), (k0, aI cs 4 (tx_nf kd)), (k1, aI cs 4 (tx_nf wo)), (k2, aI cs 4 (tx_nf ha)), (k3, aI cs 4 (tx_nf we)), (k4, aI cs 20 (tx_nf td)), (k5, aI cs 20 (tx_bf bo)), (hk, .inr (4, [.ref k02, .ref k12, .ref k22, .ref k32, .ref k42, .ref k52, .int (nI n2), .int (nI dy2), .int (nI ch2), .int (nI lw2)])), (k02, aI cs 4 (tx_nf kd2)), (k12, aI cs 4 (tx_nf wo2)), (k22, aI cs 4 (tx_nf ha2)), (k32, aI cs 4 (tx_nf we2)), (k42, aI cs 20 (tx_nf td2)), (k52, aI cs 20 (tx_bf bo2))]) ⟨hx, hb, hml, hown, hts⟩ (c_X4_copyFrom l D cs _ h k0 k1 k2 k3 k4 k5 n dy ch lw kd wo ha we td bo hk k02 k12 k22 k32 k42 k52 n2 dy2 ch2 lw2 kd2 wo2 ha2 we2 td2 bo2 ) (cwV 1 hts gX5_on_X4_copyFrom rfl rfl rfl (by decide +kernel) ⟨Nat.le_of_ble_eq_true rfl, Nat.le_of_ble_eq_true rfl⟩) hK hP hD hS hA (((hR hS).app hP).sub [1, 2, 3, 4, 5, 6, 7, 8, 9, 10, 11, 12, 13, 14] rfl) (dt_of hN [1, 2, 3, 4, 5, 6, 7, 8, 9, 10, 11, 12, 13, 14] (by decide) rfl) [0, 1, 2, 3, 4, 5, 6, 7, 8, 9, 10, 11, 12, 13] rfl 0 rfl rfl rfl hl.1 rfl (Nat.le_of_ble_eq_true rfl) dX5_on_22 ⟨Nat.le_of_ble_eq_true rfl, Nat.le_of_ble_eq_true rfl⟩ (fun _ => rfl) (fun _ => rfl) (fun u9 H locs hw_1 hP hD hS => ?_)
    have hP : va_P D vwCl [(h, .inr (4, [.ref k0, .ref k1, .ref k2, .ref k3, .ref k4, .ref k5, .int (nI n2), .int (nI dy2), .int (nI ch2), .int (nI lw2)])), (k0, aI cs 4 (tx_nf kd2)), (k1, aI cs 4 (tx_nf wo2)), (k2, aI cs 4 (tx_nf ha2)), (k3, aI cs 4 (tx_nf we2)), (k4, aI cs 20 (tx_nf td2)), (k5, aI cs 20 (tx_bf bo2)), (hk, .inr (4, [.ref k02, .ref k12, .ref k22, .ref k32, .ref k42, .ref k52, .int (nI n2), .int (nI dy2), .int (nI ch2), .int (nI lw2)])), (k02, aI cs 4 (tx_nf kd2)), (k12, aI cs 4 (tx_nf wo2)), (k22, aI cs 4 (tx_nf ha2)), (k32, aI cs 4 (tx_nf we2)), (k42, aI cs 20 (tx_nf td2)), (k52, aI cs 20 (tx_bf bo2)), (r0, aI cs 7 (tx_nf rf))] H := hP
    have hD : va_D A [(h, .inr (4, [.ref k0, .ref k1, .ref k2, .ref k3, .ref k4, .ref k5, .int (nI n2), .int (nI dy2), .int (nI ch2), .int (nI lw2)])), (k0, aI cs 4 (tx_nf kd2)), (k1, aI cs 4 (tx_nf wo2)), (k2, aI cs 4 (tx_nf ha2)), (k3, aI cs 4 (tx_nf we2)), (k4, aI cs 20 (tx_nf td2)), (k5, aI cs 20 (tx_bf bo2)), (hk, .inr (4, [.ref k02, .ref k12, .ref k22, .ref k32, .ref k42, .ref k52, .int (nI n2), .int (nI dy2), .int (nI ch2), .int (nI lw2)])), (k02, aI cs 4 (tx_nf kd2)), (k12, aI cs 4 (tx_nf wo2)), (k22, aI cs 4 (tx_nf ha2)), (k32, aI cs 4 (tx_nf we2)), (k42, aI cs 20 (tx_nf td2)), (k52, aI cs 20 (tx_bf bo2)), (r0, aI cs 7 (tx_nf rf))] := hD
    refine lv_aload_n hx hb dX5_on_25 rfl (lv_at hl 0 rfl) ?_
    refine va_get (D := D) (ci := 5) (v := .ref h) (C := RX5) (T := TX5) (N := 10) hx hb hts in_X5 hown hK (hR hS) 0 rfl rfl 0 (by decide) hf_10 (fun _ h9 => h9) rfl dX5_on_26 ?_
    refine va_get (D := D) (ci := 4) (v := .int (nI dy2)) (C := RX4) (T := TX4) (N := 10) hx hb hts in_X4 hown hK hP 0 rfl rfl 7 (by decide) hf_180 (fun _ h9 => h9) rfl dX5_on_29 ?_
    have hQ : tx_q_on im = 0 := by simp [tx_q_on, c4]
    have e9 : tx_rf rf (tx_q_on im) = rf := by rw [hQ] <;> rfl
    have hP : va_P D vwCl [(h, .inr (4, [.ref k0, .ref k1, .ref k2, .ref k3, .ref k4, .ref k5, .int (nI (tx_if (tx_q_on im) n2 n)), .int (nI (tx_if (tx_q_on im) dy2 dy)), .int (nI (tx_if (tx_q_on im) ch2 ch)), .int (nI (tx_if (tx_q_on im) lw2 lw))])), (k0, aI cs 4 (tx_nf (tx_if (tx_q_on im) kd2 kd))), (k1, aI cs 4 (tx_nf (tx_if (tx_q_on im) wo2 wo))), (k2, aI cs 4 (tx_nf (tx_if (tx_q_on im) ha2 ha))), (k3, aI cs 4 (tx_nf (tx_if (tx_q_on im) we2 we))), (k4, aI cs 20 (tx_nf (tx_if (tx_q_on im) td2 td))), (k5, aI cs 20 (tx_bf (tx_if (tx_q_on im) bo2 bo))), (hk, .inr (4, [.ref k02, .ref k12, .ref k22, .ref k32, .ref k42, .ref k52, .int (nI n2), .int (nI dy2), .int (nI ch2), .int (nI lw2)])), (k02, aI cs 4 (tx_nf kd2)), (k12, aI cs 4 (tx_nf wo2)), (k22, aI cs 4 (tx_nf ha2)), (k32, aI cs 4 (tx_nf we2)), (k42, aI cs 20 (tx_nf td2)), (k52, aI cs 20 (tx_bf bo2)), (r0, aI cs 7 (tx_nf (tx_rf rf (tx_q_on im))))] H := by rw [e9]; (try simp only [hQ]); exact hP
    have hD : va_D A [(h, .inr (4, [.ref k0, .ref k1, .ref k2, .ref k3, .ref k4, .ref k5, .int (nI (tx_if (tx_q_on im) n2 n)), .int (nI (tx_if (tx_q_on im) dy2 dy)), .int (nI (tx_if (tx_q_on im) ch2 ch)), .int (nI (tx_if (tx_q_on im) lw2 lw))])), (k0, aI cs 4 (tx_nf (tx_if (tx_q_on im) kd2 kd))), (k1, aI cs 4 (tx_nf (tx_if (tx_q_on im) wo2 wo))), (k2, aI cs 4 (tx_nf (tx_if (tx_q_on im) ha2 ha))), (k3, aI cs 4 (tx_nf (tx_if (tx_q_on im) we2 we))), (k4, aI cs 20 (tx_nf (tx_if (tx_q_on im) td2 td))), (k5, aI cs 20 (tx_bf (tx_if (tx_q_on im) bo2 bo))), (hk, .inr (4, [.ref k02, .ref k12, .ref k22, .ref k32, .ref k42, .ref k52, .int (nI n2), .int (nI dy2), .int (nI ch2), .int (nI lw2)])), (k02, aI cs 4 (tx_nf kd2)), (k12, aI cs 4 (tx_nf wo2)), (k22, aI cs 4 (tx_nf ha2)), (k32, aI cs 4 (tx_nf we2)), (k42, aI cs 20 (tx_nf td2)), (k52, aI cs 20 (tx_bf bo2)), (r0, aI cs 7 (tx_nf (tx_rf rf (tx_q_on im))))] := by rw [e9]; (try simp only [hQ]); exact hD
    exact rt_i hx hb hr hlocks () (by rw [hQ] <;> (rfl)) hP hD hS dX5_on_32
  · refine lv_aload_n hx hb dX5_on_7 rfl (lv_at hl 0 rfl) ?_
    refine lv_bipush (v := (-3)) hx hb dX5_on_8 (by decide) ?_
    refine cV_i (As := [.int (-3)]) (rest := []) (cr := [(xo, .inr (5, [.ref h, .ref hk, .int (bI im), .ref tx, .ref g, .ref pn, .ref cn, .ref s0, .int (nI ss), .ref r0]))]) (cw1 := [(r0, aI cs 7 (tx_nf rf))]) ⟨hx, hb, hml, hown, hts⟩ (c_X5_refuse l D cs _ xo hk im tx pn cn s0 ss r0 h g rf (-3) 3 (by decide) (by decide) (by decide)) (cwV 1 hts gX5_on_X5_refuse rfl rfl rfl (by decide +kernel) ⟨Nat.le_of_ble_eq_true rfl, Nat.le_of_ble_eq_true rfl⟩) hK hP hD hS hA (((hR hS).app hP).sub [0, 15] rfl) (dt_of hN [0, 15] (by decide) rfl) [14] rfl 0 rfl rfl rfl hl.1 rfl (Nat.le_of_ble_eq_true rfl) dX5_on_10 ⟨Nat.le_of_ble_eq_true rfl, Nat.le_of_ble_eq_true rfl⟩ (fun _ => rfl) (fun _ => rfl) (fun r_2 u9 H locs hw_3 hP hD hS => ?_)
    have hP : va_P D vwCl [(h, .inr (4, [.ref k0, .ref k1, .ref k2, .ref k3, .ref k4, .ref k5, .int (nI n), .int (nI dy), .int (nI ch), .int (nI lw)])), (k0, aI cs 4 (tx_nf kd)), (k1, aI cs 4 (tx_nf wo)), (k2, aI cs 4 (tx_nf ha)), (k3, aI cs 4 (tx_nf we)), (k4, aI cs 20 (tx_nf td)), (k5, aI cs 20 (tx_bf bo)), (hk, .inr (4, [.ref k02, .ref k12, .ref k22, .ref k32, .ref k42, .ref k52, .int (nI n2), .int (nI dy2), .int (nI ch2), .int (nI lw2)])), (k02, aI cs 4 (tx_nf kd2)), (k12, aI cs 4 (tx_nf wo2)), (k22, aI cs 4 (tx_nf ha2)), (k32, aI cs 4 (tx_nf we2)), (k42, aI cs 20 (tx_nf td2)), (k52, aI cs 20 (tx_bf bo2)), (r0, aI cs 7 (tx_nf (tx_rf rf 3)))] H := hP
    have hD : va_D A [(h, .inr (4, [.ref k0, .ref k1, .ref k2, .ref k3, .ref k4, .ref k5, .int (nI n), .int (nI dy), .int (nI ch), .int (nI lw)])), (k0, aI cs 4 (tx_nf kd)), (k1, aI cs 4 (tx_nf wo)), (k2, aI cs 4 (tx_nf ha)), (k3, aI cs 4 (tx_nf we)), (k4, aI cs 20 (tx_nf td)), (k5, aI cs 20 (tx_bf bo)), (hk, .inr (4, [.ref k02, .ref k12, .ref k22, .ref k32, .ref k42, .ref k52, .int (nI n2), .int (nI dy2), .int (nI ch2), .int (nI lw2)])), (k02, aI cs 4 (tx_nf kd2)), (k12, aI cs 4 (tx_nf wo2)), (k22, aI cs 4 (tx_nf ha2)), (k32, aI cs 4 (tx_nf we2)), (k42, aI cs 20 (tx_nf td2)), (k52, aI cs 20 (tx_bf bo2)), (r0, aI cs 7 (tx_nf (tx_rf rf 3)))] := hD
    subst r_2
    have hQ : tx_q_on im = 3 := by simp [tx_q_on, c4]
    have e9 : tx_rf rf (tx_q_on im) = tx_rf rf 3 := by rw [hQ] <;> rfl
    have hP : va_P D vwCl [(h, .inr (4, [.ref k0, .ref k1, .ref k2, .ref k3, .ref k4, .ref k5, .int (nI (tx_if (tx_q_on im) n2 n)), .int (nI (tx_if (tx_q_on im) dy2 dy)), .int (nI (tx_if (tx_q_on im) ch2 ch)), .int (nI (tx_if (tx_q_on im) lw2 lw))])), (k0, aI cs 4 (tx_nf (tx_if (tx_q_on im) kd2 kd))), (k1, aI cs 4 (tx_nf (tx_if (tx_q_on im) wo2 wo))), (k2, aI cs 4 (tx_nf (tx_if (tx_q_on im) ha2 ha))), (k3, aI cs 4 (tx_nf (tx_if (tx_q_on im) we2 we))), (k4, aI cs 20 (tx_nf (tx_if (tx_q_on im) td2 td))), (k5, aI cs 20 (tx_bf (tx_if (tx_q_on im) bo2 bo))), (hk, .inr (4, [.ref k02, .ref k12, .ref k22, .ref k32, .ref k42, .ref k52, .int (nI n2), .int (nI dy2), .int (nI ch2), .int (nI lw2)])), (k02, aI cs 4 (tx_nf kd2)), (k12, aI cs 4 (tx_nf wo2)), (k22, aI cs 4 (tx_nf ha2)), (k32, aI cs 4 (tx_nf we2)), (k42, aI cs 20 (tx_nf td2)), (k52, aI cs 20 (tx_bf bo2)), (r0, aI cs 7 (tx_nf (tx_rf rf (tx_q_on im))))] H := by rw [e9]; (try simp only [hQ]); exact hP
    have hD : va_D A [(h, .inr (4, [.ref k0, .ref k1, .ref k2, .ref k3, .ref k4, .ref k5, .int (nI (tx_if (tx_q_on im) n2 n)), .int (nI (tx_if (tx_q_on im) dy2 dy)), .int (nI (tx_if (tx_q_on im) ch2 ch)), .int (nI (tx_if (tx_q_on im) lw2 lw))])), (k0, aI cs 4 (tx_nf (tx_if (tx_q_on im) kd2 kd))), (k1, aI cs 4 (tx_nf (tx_if (tx_q_on im) wo2 wo))), (k2, aI cs 4 (tx_nf (tx_if (tx_q_on im) ha2 ha))), (k3, aI cs 4 (tx_nf (tx_if (tx_q_on im) we2 we))), (k4, aI cs 20 (tx_nf (tx_if (tx_q_on im) td2 td))), (k5, aI cs 20 (tx_bf (tx_if (tx_q_on im) bo2 bo))), (hk, .inr (4, [.ref k02, .ref k12, .ref k22, .ref k32, .ref k42, .ref k52, .int (nI n2), .int (nI dy2), .int (nI ch2), .int (nI lw2)])), (k02, aI cs 4 (tx_nf kd2)), (k12, aI cs 4 (tx_nf wo2)), (k22, aI cs 4 (tx_nf ha2)), (k32, aI cs 4 (tx_nf we2)), (k42, aI cs 20 (tx_nf td2)), (k52, aI cs 20 (tx_bf bo2)), (r0, aI cs 7 (tx_nf (tx_rf rf (tx_q_on im))))] := by rw [e9]; (try simp only [hQ]); exact hD
    exact rt_i hx hb hr hlocks () (by rw [hQ] <;> (first | done | rfl)) hP hD hS dX5_on_13
set_option maxHeartbeats 4000000 in
set_option maxRecDepth 100000 in
theorem c_X6_image (l : Launch) (D : va_G) (cs : Nat → ClassId) (sz : Nat) (o : Nat) (o1 : Nat) (o2 : Nat) (o3 : Nat) (o4 : Nat) (o5 : Nat) (o6 : Nat) (o7 : Nat) (o8 : Nat) (o9 : Nat) (o10 : Nat) (o11 : Nat) (o12 : Nat) (o13 : Nat) (o14 : Nat) (o15 : Nat) (n : Nat) (dy : Nat) (ch : Nat) (lw : Nat) (tz : Nat) (at9 : Nat) (va9 : Nat) (ss : Nat) (im : Bool) (kd : Nat → Nat) (wo : Nat → Nat) (ha : Nat → Nat) (we : Nat → Nat) (td : Nat → Nat) (bo : Nat → Option Nat) (img : Nat → Int32)  : mI (S := Nat → Int32) l yX6_image wsX6_image ({ frames := 1, cells := 0, slots := 0, locals := 22 } : Room) D (tyc cs) sz [.ref o] [(o1, aI cs 4 (tx_nf kd)), (o2, aI cs 4 (tx_nf wo)), (o3, aI cs 4 (tx_nf ha)), (o4, aI cs 4 (tx_nf we)), (o5, aI cs 21 (tx_nf td)), (o6, aI cs 21 (tx_bf bo))] [(o, .inr (6, [.int (nI n), .ref o1, .ref o2, .ref o3, .ref o4, .int (nI dy), .ref o5, .ref o6, .int (nI ch), .int (nI lw), .int (nI tz), .ref o7, .int (nI at9), .int (nI va9), .int (nI ss), .ref o8, .ref o9, .int (bI im), .ref o10, .ref o11, .ref o12, .ref o13, .ref o14, .ref o15])), (o10, aI cs 61 img)] (fun (r : Int32) (u : Nat → Int32) => match u with | f2 => r = nI dy ∧ ∀ i, i < 60 → f2 i = tx_kp n dy ch lw kd wo ha we td bo i) (fun (u : Nat → Int32) => match u with | f2 => [(o, .inr (6, [.int (nI n), .ref o1, .ref o2, .ref o3, .ref o4, .int (nI dy), .ref o5, .ref o6, .int (nI ch), .int (nI lw), .int (nI tz), .ref o7, .int (nI at9), .int (nI va9), .int (nI ss), .ref o8, .ref o9, .int (bI true), .ref o10, .ref o11, .ref o12, .ref o13, .ref o14, .ref o15])), (o10, aI cs 61 f2)]) 0 0 := by
  unfold mI
  refine Met.ofW (cc := cX6_image) (maxL := 1) (ret := (some .int)) (by decide) rfl ?_
  intro p e s m args below meth c s₁ B hml hv
  obtain ⟨rfl, hsz, hP, hK, hD0⟩ := hv
  have hx := B.exec
  have hb := B.bytes
  have hr := B.returns
  have hts := atoms_spec (ws := wsX6_image) B.pre
  have hown : s.vm.findClass RX6 = some m.cls := findClass_of_methodNamed B.named
  have hlocks := B.notSynchronized
  subst hsz
  have hR := @en_R _ _ _ [(o1, aI cs 4 (tx_nf kd)), (o2, aI cs 4 (tx_nf wo)), (o3, aI cs 4 (tx_nf ha)), (o4, aI cs 4 (tx_nf we)), (o5, aI cs 21 (tx_nf td)), (o6, aI cs 21 (tx_bf bo))] [(o, .inr (6, [.int (nI n), .ref o1, .ref o2, .ref o3, .ref o4, .int (nI dy), .ref o5, .ref o6, .int (nI ch), .int (nI lw), .int (nI tz), .ref o7, .int (nI at9), .int (nI va9), .int (nI ss), .ref o8, .ref o9, .int (bI im), .ref o10, .ref o11, .ref o12, .ref o13, .ref o14, .ref o15])), (o10, aI cs 61 img)] _ hP hD0
  have hN := adN_of hD0
  have hD := en_D (wr := [(o1, aI cs 4 (tx_nf kd)), (o2, aI cs 4 (tx_nf wo)), (o3, aI cs 4 (tx_nf ha)), (o4, aI cs 4 (tx_nf we)), (o5, aI cs 21 (tx_nf td)), (o6, aI cs 21 (tx_bf bo))]) (ww := [(o, .inr (6, [.int (nI n), .ref o1, .ref o2, .ref o3, .ref o4, .int (nI dy), .ref o5, .ref o6, .int (nI ch), .int (nI lw), .int (nI tz), .ref o7, .int (nI at9), .int (nI va9), .int (nI ss), .ref o8, .ref o9, .int (bI im), .ref o10, .ref o11, .ref o12, .ref o13, .ref o14, .ref o15])), (o10, aI cs 61 img)]) (sz := s.heap.size) hD0
  have hP := en_P (wr := [(o1, aI cs 4 (tx_nf kd)), (o2, aI cs 4 (tx_nf wo)), (o3, aI cs 4 (tx_nf ha)), (o4, aI cs 4 (tx_nf we)), (o5, aI cs 21 (tx_nf td)), (o6, aI cs 21 (tx_bf bo))]) (ww := [(o, .inr (6, [.int (nI n), .ref o1, .ref o2, .ref o3, .ref o4, .int (nI dy), .ref o5, .ref o6, .int (nI ch), .int (nI lw), .int (nI tz), .ref o7, .int (nI at9), .int (nI va9), .int (nI ss), .ref o8, .ref o9, .int (bI im), .ref o10, .ref o11, .ref o12, .ref o13, .ref o14, .ref o15])), (o10, aI cs 61 img)]) hP
  generalize hAe : va_A [(o, .inr (6, [.int (nI n), .ref o1, .ref o2, .ref o3, .ref o4, .int (nI dy), .ref o5, .ref o6, .int (nI ch), .int (nI lw), .int (nI tz), .ref o7, .int (nI at9), .int (nI va9), .int (nI ss), .ref o8, .ref o9, .int (bI im), .ref o10, .ref o11, .ref o12, .ref o13, .ref o14, .ref o15])), (o10, aI cs 61 img)] s.heap.size = A at hD hR ⊢
  have hA : ∀ q : Nat, s.heap.size ≤ q → A q := fun q h => by rw [← hAe]; exact Or.inr h
  have hS : va_S A s.heap s.heap [] := va_S.rf
  have hN : adN [o1, o2, o3, o4, o5, o6, o, o10] := hN
  have hf_37 := hts (.fieldLink RX6 37 "TaxedByLongestModel" "image" "[I") (by decide +kernel)
  have hf_78 := hts (.fieldLink RX6 78 "TaxedByLongestModel" "days" "I") (by decide +kernel)
  have hf_198 := hts (.fieldLink RX6 198 "TaxedByLongestModel" "imaged" "Z") (by decide +kernel)
  have in_X6 : ∀ w ∈ wsX60, w ∈ wsX6_image := by decide +kernel
  have hl := lv_entry ([.ref o]) (n := 1) (Nat.le_of_ble_eq_true rfl)
  rw [lg_entry_eq]
  generalize (lg_sl ([.ref o]) ++ List.replicate (1 - (lg_sl ([.ref o])).length) Slot.unset).toArray = ls at hl ⊢
  have hl : lv_has ls 1 [(0, .ref o)] := hl
  refine lv_aload_n hx hb dX6_image_0 rfl (lv_at hl 0 rfl) ?_
  refine lv_iconst (v := 1) hx hb dX6_image_1 (by decide) ?_
  refine va_put (D := D) (ci := 6) (v := .int 1) (ty := .boolean) (C := RX6) (T := TX6) (N := 24) hx hb hts in_X6 tyX6 tyX6_ok nmX6 hown hK hP hD hS 0 rfl rfl 17 (by decide) hf_198 (fun _ h9 => h9) rfl (by decide +kernel) rfl rfl (Nat.le_of_ble_eq_true rfl) dX6_image_2 (fun H locs hP hD hS => ?_)
  have hP : va_P D vwCl [(o, .inr (6, [.int (nI n), .ref o1, .ref o2, .ref o3, .ref o4, .int (nI dy), .ref o5, .ref o6, .int (nI ch), .int (nI lw), .int (nI tz), .ref o7, .int (nI at9), .int (nI va9), .int (nI ss), .ref o8, .ref o9, .int 1, .ref o10, .ref o11, .ref o12, .ref o13, .ref o14, .ref o15])), (o10, aI cs 61 img)] H := hP
  have hD : va_D A [(o, .inr (6, [.int (nI n), .ref o1, .ref o2, .ref o3, .ref o4, .int (nI dy), .ref o5, .ref o6, .int (nI ch), .int (nI lw), .int (nI tz), .ref o7, .int (nI at9), .int (nI va9), .int (nI ss), .ref o8, .ref o9, .int 1, .ref o10, .ref o11, .ref o12, .ref o13, .ref o14, .ref o15])), (o10, aI cs 61 img)] := hD
  refine lv_aload_n hx hb dX6_image_5 rfl (lv_at hl 0 rfl) ?_
  refine lv_aload_n hx hb dX6_image_6 rfl (lv_at hl 0 rfl) ?_
  refine va_get (D := D) (ci := 6) (v := .ref o10) (C := RX6) (T := TX6) (N := 24) hx hb hts in_X6 hown hK hP 0 rfl rfl 18 (by decide) hf_37 (fun _ h9 => h9) rfl dX6_image_7 ?_
  refine cV_v (As := [.ref o10]) (rest := []) (cr := [(o, .inr (6, [.int (nI n), .ref o1, .ref o2, .ref o3, .ref o4, .int (nI dy), .ref o5, .ref o6, .int (nI ch), .int (nI lw), .int (nI tz), .ref o7, .int (nI at9), .int (nI va9), .int (nI ss), .ref o8, .ref o9, .int (bI true), .ref o10, .ref o11, .ref o12, .ref o13, .ref o14, .ref o15])), (o1, aI cs 4 (tx_nf kd)), (o2, aI cs 4 (tx_nf wo)), (o3, aI cs 4 (tx_nf ha)), (o4, aI cs 4 (tx_nf we)), (o5, aI cs 21 (tx_nf td)), (o6, aI cs 21 (tx_bf bo))]) (cw1 := [(o10, aI cs 61 img)]) ⟨hx, hb, hml, hown, hts⟩ (c_X6_keep l D cs _ o o1 o2 o3 o4 o5 o6 o7 o8 o9 o10 o11 o12 o13 o14 o15 n dy ch lw tz at9 va9 ss true kd wo ha we td bo o10 img ) (cwV 1 hts gX6_image_X6_keep rfl rfl rfl (by decide +kernel) ⟨Nat.le_of_ble_eq_true rfl, Nat.le_of_ble_eq_true rfl⟩) hK hP hD hS hA (((hR hS).app hP).sub [6, 0, 1, 2, 3, 4, 5, 7] rfl) (dt_of hN [6, 0, 1, 2, 3, 4, 5, 7] (by decide) rfl) [1] rfl 0 rfl rfl rfl hl.1 rfl (Nat.le_of_ble_eq_true rfl) dX6_image_10 ⟨Nat.le_of_ble_eq_true rfl, Nat.le_of_ble_eq_true rfl⟩ (fun _ => rfl) (fun _ => rfl) (fun u9 H locs hw_1 hP hD hS => ?_)
  obtain ⟨f2_2, rfl⟩ : ∃ z, z = u9 := ⟨_, rfl⟩
  have hP : va_P D vwCl [(o, .inr (6, [.int (nI n), .ref o1, .ref o2, .ref o3, .ref o4, .int (nI dy), .ref o5, .ref o6, .int (nI ch), .int (nI lw), .int (nI tz), .ref o7, .int (nI at9), .int (nI va9), .int (nI ss), .ref o8, .ref o9, .int 1, .ref o10, .ref o11, .ref o12, .ref o13, .ref o14, .ref o15])), (o10, aI cs 61 f2_2)] H := hP
  have hD : va_D A [(o, .inr (6, [.int (nI n), .ref o1, .ref o2, .ref o3, .ref o4, .int (nI dy), .ref o5, .ref o6, .int (nI ch), .int (nI lw), .int (nI tz), .ref o7, .int (nI at9), .int (nI va9), .int (nI ss), .ref o8, .ref o9, .int 1, .ref o10, .ref o11, .ref o12, .ref o13, .ref o14, .ref o15])), (o10, aI cs 61 f2_2)] := hD
  refine lv_aload_n hx hb dX6_image_13 rfl (lv_at hl 0 rfl) ?_
  refine va_get (D := D) (ci := 6) (v := .int (nI dy)) (C := RX6) (T := TX6) (N := 24) hx hb hts in_X6 hown hK hP 0 rfl rfl 5 (by decide) hf_78 (fun _ h9 => h9) rfl dX6_image_14 ?_
  exact rt_i hx hb hr hlocks f2_2 (⟨rfl, hw_1⟩) hP hD hS dX6_image_17
set_option maxHeartbeats 4000000 in
set_option maxRecDepth 100000 in
theorem c_X6_on_ (l : Launch) (D : va_G) (cs : Nat → ClassId) (sz : Nat) (o : Nat) (o1 : Nat) (o2 : Nat) (o3 : Nat) (o4 : Nat) (o5 : Nat) (o6 : Nat) (o7 : Nat) (o8 : Nat) (o9 : Nat) (o10 : Nat) (o11 : Nat) (o12 : Nat) (o13 : Nat) (o14 : Nat) (o15 : Nat) (n : Nat) (dy : Nat) (ch : Nat) (lw : Nat) (tz : Nat) (at9 : Nat) (va9 : Nat) (ss : Nat) (im : Bool) (kd : Nat → Nat) (wo : Nat → Nat) (ha : Nat → Nat) (we : Nat → Nat) (td : Nat → Nat) (bo : Nat → Option Nat) (rf : Nat → Nat) (img : Nat → Int32) (n2 : Nat) (dy2 : Nat) (ch2 : Nat) (lw2 : Nat) (kd2 : Nat → Nat) (wo2 : Nat → Nat) (ha2 : Nat → Nat) (we2 : Nat → Nat) (td2 : Nat → Nat) (bo2 : Nat → Option Nat) (him : im = true → ∀ i, i < 60 → img i = tx_kp n2 dy2 ch2 lw2 kd2 wo2 ha2 we2 td2 bo2 i) (hz : ∀ d, 20 ≤ d → td d = td2 d ∧ bo d = bo2 d) : mI (S := Unit) l yX6_on_ wsX6_on_ ({ frames := 1, cells := 0, slots := 0, locals := 22 } : Room) D (tyc cs) sz [.ref o] [(o10, aI cs 61 img)] [(o, .inr (6, [.int (nI n), .ref o1, .ref o2, .ref o3, .ref o4, .int (nI dy), .ref o5, .ref o6, .int (nI ch), .int (nI lw), .int (nI tz), .ref o7, .int (nI at9), .int (nI va9), .int (nI ss), .ref o8, .ref o9, .int (bI im), .ref o10, .ref o11, .ref o12, .ref o13, .ref o14, .ref o15])), (o1, aI cs 4 (tx_nf kd)), (o2, aI cs 4 (tx_nf wo)), (o3, aI cs 4 (tx_nf ha)), (o4, aI cs 4 (tx_nf we)), (o5, aI cs 21 (tx_nf td)), (o6, aI cs 21 (tx_bf bo)), (o9, aI cs 7 (tx_nf rf))] (fun (r : Int32) (u : Unit) => r = tx_ai (tx_q_on im) (nI dy2)) (fun _ => [(o, .inr (6, [.int (nI (tx_if (tx_q_on im) n2 n)), .ref o1, .ref o2, .ref o3, .ref o4, .int (nI (tx_if (tx_q_on im) dy2 dy)), .ref o5, .ref o6, .int (nI (tx_if (tx_q_on im) ch2 ch)), .int (nI (tx_if (tx_q_on im) lw2 lw)), .int (nI tz), .ref o7, .int (nI at9), .int (nI va9), .int (nI ss), .ref o8, .ref o9, .int (bI im), .ref o10, .ref o11, .ref o12, .ref o13, .ref o14, .ref o15])), (o1, aI cs 4 (tx_nf (tx_if (tx_q_on im) kd2 kd))), (o2, aI cs 4 (tx_nf (tx_if (tx_q_on im) wo2 wo))), (o3, aI cs 4 (tx_nf (tx_if (tx_q_on im) ha2 ha))), (o4, aI cs 4 (tx_nf (tx_if (tx_q_on im) we2 we))), (o5, aI cs 21 (tx_nf (tx_if (tx_q_on im) td2 td))), (o6, aI cs 21 (tx_bf (tx_if (tx_q_on im) bo2 bo))), (o9, aI cs 7 (tx_nf (tx_rf rf (tx_q_on im))))]) 0 0 := by
  unfold mI
  refine Met.ofW (cc := cX6_on_) (maxL := 1) (ret := (some .int)) (by decide) rfl ?_
  intro p e s m args below meth c s₁ B hml hv
  obtain ⟨rfl, hsz, hP, hK, hD0⟩ := hv
  have hx := B.exec
  have hb := B.bytes
  have hr := B.returns
  have hts := atoms_spec (ws := wsX6_on_) B.pre
  have hown : s.vm.findClass RX6 = some m.cls := findClass_of_methodNamed B.named
  have hlocks := B.notSynchronized
  subst hsz
  have hR := @en_R _ _ _ [(o10, aI cs 61 img)] [(o, .inr (6, [.int (nI n), .ref o1, .ref o2, .ref o3, .ref o4, .int (nI dy), .ref o5, .ref o6, .int (nI ch), .int (nI lw), .int (nI tz), .ref o7, .int (nI at9), .int (nI va9), .int (nI ss), .ref o8, .ref o9, .int (bI im), .ref o10, .ref o11, .ref o12, .ref o13, .ref o14, .ref o15])), (o1, aI cs 4 (tx_nf kd)), (o2, aI cs 4 (tx_nf wo)), (o3, aI cs 4 (tx_nf ha)), (o4, aI cs 4 (tx_nf we)), (o5, aI cs 21 (tx_nf td)), (o6, aI cs 21 (tx_bf bo)), (o9, aI cs 7 (tx_nf rf))] _ hP hD0
  have hN := adN_of hD0
  have hD := en_D (wr := [(o10, aI cs 61 img)]) (ww := [(o, .inr (6, [.int (nI n), .ref o1, .ref o2, .ref o3, .ref o4, .int (nI dy), .ref o5, .ref o6, .int (nI ch), .int (nI lw), .int (nI tz), .ref o7, .int (nI at9), .int (nI va9), .int (nI ss), .ref o8, .ref o9, .int (bI im), .ref o10, .ref o11, .ref o12, .ref o13, .ref o14, .ref o15])), (o1, aI cs 4 (tx_nf kd)), (o2, aI cs 4 (tx_nf wo)), (o3, aI cs 4 (tx_nf ha)), (o4, aI cs 4 (tx_nf we)), (o5, aI cs 21 (tx_nf td)), (o6, aI cs 21 (tx_bf bo)), (o9, aI cs 7 (tx_nf rf))]) (sz := s.heap.size) hD0
  have hP := en_P (wr := [(o10, aI cs 61 img)]) (ww := [(o, .inr (6, [.int (nI n), .ref o1, .ref o2, .ref o3, .ref o4, .int (nI dy), .ref o5, .ref o6, .int (nI ch), .int (nI lw), .int (nI tz), .ref o7, .int (nI at9), .int (nI va9), .int (nI ss), .ref o8, .ref o9, .int (bI im), .ref o10, .ref o11, .ref o12, .ref o13, .ref o14, .ref o15])), (o1, aI cs 4 (tx_nf kd)), (o2, aI cs 4 (tx_nf wo)), (o3, aI cs 4 (tx_nf ha)), (o4, aI cs 4 (tx_nf we)), (o5, aI cs 21 (tx_nf td)), (o6, aI cs 21 (tx_bf bo)), (o9, aI cs 7 (tx_nf rf))]) hP
  generalize hAe : va_A [(o, .inr (6, [.int (nI n), .ref o1, .ref o2, .ref o3, .ref o4, .int (nI dy), .ref o5, .ref o6, .int (nI ch), .int (nI lw), .int (nI tz), .ref o7, .int (nI at9), .int (nI va9), .int (nI ss), .ref o8, .ref o9, .int (bI im), .ref o10, .ref o11, .ref o12, .ref o13, .ref o14, .ref o15])), (o1, aI cs 4 (tx_nf kd)), (o2, aI cs 4 (tx_nf wo)), (o3, aI cs 4 (tx_nf ha)), (o4, aI cs 4 (tx_nf we)), (o5, aI cs 21 (tx_nf td)), (o6, aI cs 21 (tx_bf bo)), (o9, aI cs 7 (tx_nf rf))] s.heap.size = A at hD hR ⊢
  have hA : ∀ q : Nat, s.heap.size ≤ q → A q := fun q h => by rw [← hAe]; exact Or.inr h
  have hS : va_S A s.heap s.heap [] := va_S.rf
  have hN : adN [o10, o, o1, o2, o3, o4, o5, o6, o9] := hN
  have hf_37 := hts (.fieldLink RX6 37 "TaxedByLongestModel" "image" "[I") (by decide +kernel)
  have hf_78 := hts (.fieldLink RX6 78 "TaxedByLongestModel" "days" "I") (by decide +kernel)
  have hf_198 := hts (.fieldLink RX6 198 "TaxedByLongestModel" "imaged" "Z") (by decide +kernel)
  have in_X6 : ∀ w ∈ wsX60, w ∈ wsX6_on_ := by decide +kernel
  have hl := lv_entry ([.ref o]) (n := 1) (Nat.le_of_ble_eq_true rfl)
  rw [lg_entry_eq]
  generalize (lg_sl ([.ref o]) ++ List.replicate (1 - (lg_sl ([.ref o])).length) Slot.unset).toArray = ls at hl ⊢
  have hl : lv_has ls 1 [(0, .ref o)] := hl
  refine lv_aload_n hx hb dX6_on__0 rfl (lv_at hl 0 rfl) ?_
  refine va_get (D := D) (ci := 6) (v := .int (bI im)) (C := RX6) (T := TX6) (N := 24) hx hb hts in_X6 hown hK hP 0 rfl rfl 17 (by decide) hf_198 (fun _ h9 => h9) rfl dX6_on__1 ?_
  refine bb_ne (b := im) (tgt := 14) hx hb rfl dX6_on__4 (by decide) (fun c4 => ?_) (fun c4 => ?_)
  · refine lv_aload_n hx hb dX6_on__14 rfl (lv_at hl 0 rfl) ?_
    refine lv_aload_n hx hb dX6_on__15 rfl (lv_at hl 0 rfl) ?_
    refine va_get (D := D) (ci := 6) (v := .ref o10) (C := RX6) (T := TX6) (N := 24) hx hb hts in_X6 hown hK hP 0 rfl rfl 18 (by decide) hf_37 (fun _ h9 => h9) rfl dX6_on__16 ?_
    refine cV_v (As := [.ref o10]) (rest := []) (cr := [(o10, aI cs 61 img)]) (cw1 := [(o, .inr (6, [.int (nI n), .ref o1, .ref o2, .ref o3, .ref o4, .int (nI dy), .ref o5, .ref o6, .int (nI ch), .int (nI lw), .int (nI tz), .ref o7, .int (nI at9), .int (nI va9), .int (nI ss), .ref o8, .ref o9, .int (bI im), .ref o10, .ref o11, .ref o12, .ref o13, .ref o14, .ref o15])), (o1, aI cs 4 (tx_nf kd)), (o2, aI cs 4 (tx_nf wo)), (o3, aI cs 4 (tx_nf ha)), (o4, aI cs 4 (tx_nf we)), (o5, aI cs 21 (tx_nf td)), (o6, aI cs 21 (tx_bf bo))]) ⟨hx, hb, hml, hown, hts⟩ (c_X6_again l D cs _ o o1 o2 o3 o4 o5 o6 o7 o8 o9 o10 o11 o12 o13 o14 o15 n dy ch lw tz at9 va9 ss im kd wo ha we td bo o10 img n2 dy2 ch2 lw2 kd2 wo2 ha2 we2 td2 bo2 (him c4) (by first | assumption | omega)) (cwV 1 hts gX6_on__X6_again rfl rfl rfl (by decide +kernel) ⟨Nat.le_of_ble_eq_true rfl, Nat.le_of_ble_eq_true rfl⟩) hK hP hD hS hA (((hR hS).app hP).sub [0, 1, 2, 3, 4, 5, 6, 7] rfl) (dt_of hN [0, 1, 2, 3, 4, 5, 6, 7] (by decide) rfl) [0, 1, 2, 3, 4, 5, 6] rfl 1 rfl rfl rfl hl.1 rfl (Nat.le_of_ble_eq_true rfl) dX6_on__19 ⟨Nat.le_of_ble_eq_true rfl, Nat.le_of_ble_eq_true rfl⟩ (fun _ => rfl) (fun _ => rfl) (fun u9 H locs hw_1 hP hD hS => ?_)
    have hP : va_P D vwCl [(o, .inr (6, [.int (nI n2), .ref o1, .ref o2, .ref o3, .ref o4, .int (nI dy2), .ref o5, .ref o6, .int (nI ch2), .int (nI lw2), .int (nI tz), .ref o7, .int (nI at9), .int (nI va9), .int (nI ss), .ref o8, .ref o9, .int (bI im), .ref o10, .ref o11, .ref o12, .ref o13, .ref o14, .ref o15])), (o1, aI cs 4 (tx_nf kd2)), (o2, aI cs 4 (tx_nf wo2)), (o3, aI cs 4 (tx_nf ha2)), (o4, aI cs 4 (tx_nf we2)), (o5, aI cs 21 (tx_nf td2)), (o6, aI cs 21 (tx_bf bo2)), (o9, aI cs 7 (tx_nf rf))] H := hP
    have hD : va_D A [(o, .inr (6, [.int (nI n2), .ref o1, .ref o2, .ref o3, .ref o4, .int (nI dy2), .ref o5, .ref o6, .int (nI ch2), .int (nI lw2), .int (nI tz), .ref o7, .int (nI at9), .int (nI va9), .int (nI ss), .ref o8, .ref o9, .int (bI im), .ref o10, .ref o11, .ref o12, .ref o13, .ref o14, .ref o15])), (o1, aI cs 4 (tx_nf kd2)), (o2, aI cs 4 (tx_nf wo2)), (o3, aI cs 4 (tx_nf ha2)), (o4, aI cs 4 (tx_nf we2)), (o5, aI cs 21 (tx_nf td2)), (o6, aI cs 21 (tx_bf bo2)), (o9, aI cs 7 (tx_nf rf))] := hD
    refine lv_aload_n hx hb dX6_on__22 rfl (lv_at hl 0 rfl) ?_
    refine va_get (D := D) (ci := 6) (v := .int (nI dy2)) (C := RX6) (T := TX6) (N := 24) hx hb hts in_X6 hown hK hP 0 rfl rfl 5 (by decide) hf_78 (fun _ h9 => h9) rfl dX6_on__23 ?_
    have hQ : tx_q_on im = 0 := by simp [tx_q_on, c4]
    have e9 : tx_rf rf (tx_q_on im) = rf := by rw [hQ] <;> rfl
    have hP : va_P D vwCl [(o, .inr (6, [.int (nI (tx_if (tx_q_on im) n2 n)), .ref o1, .ref o2, .ref o3, .ref o4, .int (nI (tx_if (tx_q_on im) dy2 dy)), .ref o5, .ref o6, .int (nI (tx_if (tx_q_on im) ch2 ch)), .int (nI (tx_if (tx_q_on im) lw2 lw)), .int (nI tz), .ref o7, .int (nI at9), .int (nI va9), .int (nI ss), .ref o8, .ref o9, .int (bI im), .ref o10, .ref o11, .ref o12, .ref o13, .ref o14, .ref o15])), (o1, aI cs 4 (tx_nf (tx_if (tx_q_on im) kd2 kd))), (o2, aI cs 4 (tx_nf (tx_if (tx_q_on im) wo2 wo))), (o3, aI cs 4 (tx_nf (tx_if (tx_q_on im) ha2 ha))), (o4, aI cs 4 (tx_nf (tx_if (tx_q_on im) we2 we))), (o5, aI cs 21 (tx_nf (tx_if (tx_q_on im) td2 td))), (o6, aI cs 21 (tx_bf (tx_if (tx_q_on im) bo2 bo))), (o9, aI cs 7 (tx_nf (tx_rf rf (tx_q_on im))))] H := by rw [e9]; (try simp only [hQ]); exact hP
    have hD : va_D A [(o, .inr (6, [.int (nI (tx_if (tx_q_on im) n2 n)), .ref o1, .ref o2, .ref o3, .ref o4, .int (nI (tx_if (tx_q_on im) dy2 dy)), .ref o5, .ref o6, .int (nI (tx_if (tx_q_on im) ch2 ch)), .int (nI (tx_if (tx_q_on im) lw2 lw)), .int (nI tz), .ref o7, .int (nI at9), .int (nI va9), .int (nI ss), .ref o8, .ref o9, .int (bI im), .ref o10, .ref o11, .ref o12, .ref o13, .ref o14, .ref o15])), (o1, aI cs 4 (tx_nf (tx_if (tx_q_on im) kd2 kd))), (o2, aI cs 4 (tx_nf (tx_if (tx_q_on im) wo2 wo))), (o3, aI cs 4 (tx_nf (tx_if (tx_q_on im) ha2 ha))), (o4, aI cs 4 (tx_nf (tx_if (tx_q_on im) we2 we))), (o5, aI cs 21 (tx_nf (tx_if (tx_q_on im) td2 td))), (o6, aI cs 21 (tx_bf (tx_if (tx_q_on im) bo2 bo))), (o9, aI cs 7 (tx_nf (tx_rf rf (tx_q_on im))))] := by rw [e9]; (try simp only [hQ]); exact hD
    exact rt_i hx hb hr hlocks () (by rw [hQ] <;> (rfl)) hP hD hS dX6_on__26
  · refine lv_aload_n hx hb dX6_on__7 rfl (lv_at hl 0 rfl) ?_
    refine lv_bipush (v := (-3)) hx hb dX6_on__8 (by decide) ?_
    refine cV_i (As := [.int (-3)]) (rest := []) (cr := [(o, .inr (6, [.int (nI n), .ref o1, .ref o2, .ref o3, .ref o4, .int (nI dy), .ref o5, .ref o6, .int (nI ch), .int (nI lw), .int (nI tz), .ref o7, .int (nI at9), .int (nI va9), .int (nI ss), .ref o8, .ref o9, .int (bI im), .ref o10, .ref o11, .ref o12, .ref o13, .ref o14, .ref o15]))]) (cw1 := [(o9, aI cs 7 (tx_nf rf))]) ⟨hx, hb, hml, hown, hts⟩ (c_X6_no l D cs _ o o1 o2 o3 o4 o5 o6 o7 o8 o9 o10 o11 o12 o13 o14 o15 n dy ch lw tz at9 va9 ss im rf (-3) 3 (by decide) (by decide) (by decide)) (cwV 1 hts gX6_on__X6_no rfl rfl rfl (by decide +kernel) ⟨Nat.le_of_ble_eq_true rfl, Nat.le_of_ble_eq_true rfl⟩) hK hP hD hS hA (((hR hS).app hP).sub [1, 8] rfl) (dt_of hN [1, 8] (by decide) rfl) [7] rfl 0 rfl rfl rfl hl.1 rfl (Nat.le_of_ble_eq_true rfl) dX6_on__10 ⟨Nat.le_of_ble_eq_true rfl, Nat.le_of_ble_eq_true rfl⟩ (fun _ => rfl) (fun _ => rfl) (fun r_2 u9 H locs hw_3 hP hD hS => ?_)
    have hP : va_P D vwCl [(o, .inr (6, [.int (nI n), .ref o1, .ref o2, .ref o3, .ref o4, .int (nI dy), .ref o5, .ref o6, .int (nI ch), .int (nI lw), .int (nI tz), .ref o7, .int (nI at9), .int (nI va9), .int (nI ss), .ref o8, .ref o9, .int (bI im), .ref o10, .ref o11, .ref o12, .ref o13, .ref o14, .ref o15])), (o1, aI cs 4 (tx_nf kd)), (o2, aI cs 4 (tx_nf wo)), (o3, aI cs 4 (tx_nf ha)), (o4, aI cs 4 (tx_nf we)), (o5, aI cs 21 (tx_nf td)), (o6, aI cs 21 (tx_bf bo)), (o9, aI cs 7 (tx_nf (tx_rf rf 3)))] H := hP
    have hD : va_D A [(o, .inr (6, [.int (nI n), .ref o1, .ref o2, .ref o3, .ref o4, .int (nI dy), .ref o5, .ref o6, .int (nI ch), .int (nI lw), .int (nI tz), .ref o7, .int (nI at9), .int (nI va9), .int (nI ss), .ref o8, .ref o9, .int (bI im), .ref o10, .ref o11, .ref o12, .ref o13, .ref o14, .ref o15])), (o1, aI cs 4 (tx_nf kd)), (o2, aI cs 4 (tx_nf wo)), (o3, aI cs 4 (tx_nf ha)), (o4, aI cs 4 (tx_nf we)), (o5, aI cs 21 (tx_nf td)), (o6, aI cs 21 (tx_bf bo)), (o9, aI cs 7 (tx_nf (tx_rf rf 3)))] := hD
    subst r_2
    have hQ : tx_q_on im = 3 := by simp [tx_q_on, c4]
    have e9 : tx_rf rf (tx_q_on im) = tx_rf rf 3 := by rw [hQ] <;> rfl
    have hP : va_P D vwCl [(o, .inr (6, [.int (nI (tx_if (tx_q_on im) n2 n)), .ref o1, .ref o2, .ref o3, .ref o4, .int (nI (tx_if (tx_q_on im) dy2 dy)), .ref o5, .ref o6, .int (nI (tx_if (tx_q_on im) ch2 ch)), .int (nI (tx_if (tx_q_on im) lw2 lw)), .int (nI tz), .ref o7, .int (nI at9), .int (nI va9), .int (nI ss), .ref o8, .ref o9, .int (bI im), .ref o10, .ref o11, .ref o12, .ref o13, .ref o14, .ref o15])), (o1, aI cs 4 (tx_nf (tx_if (tx_q_on im) kd2 kd))), (o2, aI cs 4 (tx_nf (tx_if (tx_q_on im) wo2 wo))), (o3, aI cs 4 (tx_nf (tx_if (tx_q_on im) ha2 ha))), (o4, aI cs 4 (tx_nf (tx_if (tx_q_on im) we2 we))), (o5, aI cs 21 (tx_nf (tx_if (tx_q_on im) td2 td))), (o6, aI cs 21 (tx_bf (tx_if (tx_q_on im) bo2 bo))), (o9, aI cs 7 (tx_nf (tx_rf rf (tx_q_on im))))] H := by rw [e9]; (try simp only [hQ]); exact hP
    have hD : va_D A [(o, .inr (6, [.int (nI (tx_if (tx_q_on im) n2 n)), .ref o1, .ref o2, .ref o3, .ref o4, .int (nI (tx_if (tx_q_on im) dy2 dy)), .ref o5, .ref o6, .int (nI (tx_if (tx_q_on im) ch2 ch)), .int (nI (tx_if (tx_q_on im) lw2 lw)), .int (nI tz), .ref o7, .int (nI at9), .int (nI va9), .int (nI ss), .ref o8, .ref o9, .int (bI im), .ref o10, .ref o11, .ref o12, .ref o13, .ref o14, .ref o15])), (o1, aI cs 4 (tx_nf (tx_if (tx_q_on im) kd2 kd))), (o2, aI cs 4 (tx_nf (tx_if (tx_q_on im) wo2 wo))), (o3, aI cs 4 (tx_nf (tx_if (tx_q_on im) ha2 ha))), (o4, aI cs 4 (tx_nf (tx_if (tx_q_on im) we2 we))), (o5, aI cs 21 (tx_nf (tx_if (tx_q_on im) td2 td))), (o6, aI cs 21 (tx_bf (tx_if (tx_q_on im) bo2 bo))), (o9, aI cs 7 (tx_nf (tx_rf rf (tx_q_on im))))] := by rw [e9]; (try simp only [hQ]); exact hD
    exact rt_i hx hb hr hlocks () (by rw [hQ] <;> (first | done | rfl)) hP hD hS dX6_on__13
set_option maxHeartbeats 4000000 in
set_option maxRecDepth 100000 in
theorem c_X5_verdictOnRow (l : Launch) (D : va_G) (cs : Nat → ClassId) (sz : Nat) (xo : Nat) (hk : Nat) (im : Bool) (tx : Nat) (pn : Nat) (cn : Nat) (s0 : Nat) (ss : Nat) (r0 : Nat) (h : Nat) (k0 : Nat) (k1 : Nat) (k2 : Nat) (k3 : Nat) (k4 : Nat) (k5 : Nat) (n : Nat) (dy : Nat) (ch : Nat) (lw : Nat) (g : Nat) (td : Nat → Nat) (sn : Nat → Nat) (hdy : dy ≤ 20) (hss : ss ≤ 20) (hsn : ∀ e, sn e ≤ 9) (htd : ∀ e, td e < 4) : mI (S := Unit) l yX5_verdictOnRow wsX5_verdictOnRow ({ frames := 1, cells := 0, slots := 0, locals := 13 } : Room) D (tyc cs) sz [.ref xo] [(xo, .inr (5, [.ref h, .ref hk, .int (bI im), .ref tx, .ref g, .ref pn, .ref cn, .ref s0, .int (nI ss), .ref r0])), (h, .inr (4, [.ref k0, .ref k1, .ref k2, .ref k3, .ref k4, .ref k5, .int (nI n), .int (nI dy), .int (nI ch), .int (nI lw)])), (k4, aI cs 20 (tx_nf td)), (s0, aI cs 20 (tx_nf sn))] [] (fun (r : Int32) (u : Unit) => r = tx_judge sn td ss dy) (fun _ => []) 0 0 := by
  unfold mI
  refine Met.ofW (cc := cX5_verdictOnRow) (maxL := 3) (ret := (some .int)) (by decide) rfl ?_
  intro p e s m args below meth c s₁ B hml hv
  obtain ⟨rfl, hsz, hP, hK, hD0⟩ := hv
  have hx := B.exec
  have hb := B.bytes
  have hr := B.returns
  have hts := atoms_spec (ws := wsX5_verdictOnRow) B.pre
  have hown : s.vm.findClass RX5 = some m.cls := findClass_of_methodNamed B.named
  have hlocks := B.notSynchronized
  subst hsz
  have hR := @en_R _ _ _ [(xo, .inr (5, [.ref h, .ref hk, .int (bI im), .ref tx, .ref g, .ref pn, .ref cn, .ref s0, .int (nI ss), .ref r0])), (h, .inr (4, [.ref k0, .ref k1, .ref k2, .ref k3, .ref k4, .ref k5, .int (nI n), .int (nI dy), .int (nI ch), .int (nI lw)])), (k4, aI cs 20 (tx_nf td)), (s0, aI cs 20 (tx_nf sn))] [] _ hP hD0
  have hN := adN_of hD0
  have hD := en_D (wr := [(xo, .inr (5, [.ref h, .ref hk, .int (bI im), .ref tx, .ref g, .ref pn, .ref cn, .ref s0, .int (nI ss), .ref r0])), (h, .inr (4, [.ref k0, .ref k1, .ref k2, .ref k3, .ref k4, .ref k5, .int (nI n), .int (nI dy), .int (nI ch), .int (nI lw)])), (k4, aI cs 20 (tx_nf td)), (s0, aI cs 20 (tx_nf sn))]) (ww := []) (sz := s.heap.size) hD0
  have hP := en_P (wr := [(xo, .inr (5, [.ref h, .ref hk, .int (bI im), .ref tx, .ref g, .ref pn, .ref cn, .ref s0, .int (nI ss), .ref r0])), (h, .inr (4, [.ref k0, .ref k1, .ref k2, .ref k3, .ref k4, .ref k5, .int (nI n), .int (nI dy), .int (nI ch), .int (nI lw)])), (k4, aI cs 20 (tx_nf td)), (s0, aI cs 20 (tx_nf sn))]) (ww := []) hP
  generalize hAe : va_A [] s.heap.size = A at hD hR ⊢
  have hA : ∀ q : Nat, s.heap.size ≤ q → A q := fun q h => by rw [← hAe]; exact Or.inr h
  have hS : va_S A s.heap s.heap [] := va_S.rf
  have hN : adN [xo, h, k4, s0] := hN
  have hf_10 := hts (.fieldLink RX5 10 "TaxedByLongest" "told" "LTaxedByLongest$Told;") (by decide +kernel)
  have hf_51 := hts (.fieldLink RX5 51 "TaxedByLongest" "seen" "[I") (by decide +kernel)
  have hf_55 := hts (.fieldLink RX5 55 "TaxedByLongest" "seenSize" "I") (by decide +kernel)
  have hf_100 := hts (.fieldLink RX5 100 "TaxedByLongest$Told" "done" "[I") (by decide +kernel)
  have hf_180 := hts (.fieldLink RX5 180 "TaxedByLongest$Told" "days" "I") (by decide +kernel)
  have in_X4 : ∀ w ∈ wsX40, w ∈ wsX5_verdictOnRow := by decide +kernel
  have in_X5 : ∀ w ∈ wsX50, w ∈ wsX5_verdictOnRow := by decide +kernel
  have hl := lv_entry ([.ref xo]) (n := 3) (Nat.le_of_ble_eq_true rfl)
  rw [lg_entry_eq]
  generalize (lg_sl ([.ref xo]) ++ List.replicate (3 - (lg_sl ([.ref xo])).length) Slot.unset).toArray = ls at hl ⊢
  have hl : lv_has ls 3 [(0, .ref xo)] := hl
  refine lv_aload_n hx hb dX5_verdictOnRow_0 rfl (lv_at hl 0 rfl) ?_
  refine va_get (D := D) (ci := 5) (v := .int (nI ss)) (C := RX5) (T := TX5) (N := 10) hx hb hts in_X5 hown hK (hR hS) 0 rfl rfl 8 (by decide) hf_55 (fun _ h9 => h9) rfl dX5_verdictOnRow_1 ?_
  refine lv_aload_n hx hb dX5_verdictOnRow_4 rfl (lv_at hl 0 rfl) ?_
  refine va_get (D := D) (ci := 5) (v := .ref h) (C := RX5) (T := TX5) (N := 10) hx hb hts in_X5 hown hK (hR hS) 0 rfl rfl 0 (by decide) hf_10 (fun _ h9 => h9) rfl dX5_verdictOnRow_5 ?_
  refine va_get (D := D) (ci := 4) (v := .int (nI dy)) (C := RX4) (T := TX4) (N := 10) hx hb hts in_X4 hown hK (hR hS) 1 rfl rfl 7 (by decide) hf_180 (fun _ h9 => h9) rfl dX5_verdictOnRow_8 ?_
  refine va_mmin hx hb (hml.trans hl.1.symm) hown (hts (.methodLink RX5 246 Lib.Math.min.name) (by decide +kernel)) (hts (.static Lib.Math.min.name) (by decide +kernel)) (hts (.initialized "java/lang/Math") (by decide +kernel)) (hts (.code Lib.Math.min.name Lib.Math.min.code 2 (some .int)) (by decide +kernel)) (Nat.le_of_ble_eq_true rfl) (Nat.le_of_ble_eq_true rfl) (Nat.le_of_ble_eq_true rfl) (Nat.le_of_ble_eq_true rfl) dX5_verdictOnRow_11 ?_
  refine tp_i (min_n (a := ss) (b := dy) rfl rfl (by omega) (by omega)) ?_
  refine lv_istore_n (lv' := [(1, .int (nI (min ss dy))), (0, .ref xo)]) hx hb dX5_verdictOnRow_14 rfl hl (by decide) rfl (fun ls hl => ?_)
  refine lv_iconst (v := 0) hx hb dX5_verdictOnRow_15 (by decide) ?_
  refine lv_istore_n (lv' := [(2, .int 0), (1, .int (nI (min ss dy))), (0, .ref xo)]) hx hb dX5_verdictOnRow_16 rfl hl (by decide) rfl (fun ls hl => ?_)
  have loop17 : ∀ (n9 : Nat) (i : Nat) (hi : i ≤ min ss dy) (hq : ∀ e, e < i → tx_jd sn td e = false), min ss dy - i < n9 → ∀ (H : Heap) (locs : List Loc), va_P D vwCl [] H → va_D A [] → va_S A s.heap H locs → ∀ (ls : Array Slot), lv_has ls 3 [(0, .ref xo), (1, .int (nI (min ss dy))), (2, .int (nI i))] → W p l e (headSpec wsX5_verdictOnRow ({ frames := 1, cells := 0, slots := 0, locals := 13 } : Room)).room s m ([.ref xo] : List Value).toArray below meth c H locs 0 0 (MQ below (va_Qi (fun (r : Int32) (u : Unit) => r = tx_judge sn td ss dy) (QB D (fun _ => []) A) A) ([.ref xo] : List Value).toArray s 0 0 A) (F0 m 17 ls []) := by
    intro n9
    induction n9 with
    | zero => intros; omega
    | succ n9 ih17 =>
      intro i hi hq hmu H locs hP hD hS ls hl
      refine lv_iload_n hx hb dX5_verdictOnRow_17 rfl (lv_at hl 2 rfl) ?_
      refine lv_iload_n hx hb dX5_verdictOnRow_18 rfl (lv_at hl 1 rfl) ?_
      refine bn_ge (a := i) (b := min ss dy) (tgt := 59) hx hb rfl rfl (by omega) (by omega) dX5_verdictOnRow_19 (by decide) (fun c19 => ?_) (fun c19 => ?_)
      · refine lv_aload_n hx hb dX5_verdictOnRow_59 rfl (lv_at hl 0 rfl) ?_
        refine va_get (D := D) (ci := 5) (v := .int (nI ss)) (C := RX5) (T := TX5) (N := 10) hx hb hts in_X5 hown hK (hR hS) 0 rfl rfl 8 (by decide) hf_55 (fun _ h9 => h9) rfl dX5_verdictOnRow_60 ?_
        refine lv_aload_n hx hb dX5_verdictOnRow_63 rfl (lv_at hl 0 rfl) ?_
        refine va_get (D := D) (ci := 5) (v := .ref h) (C := RX5) (T := TX5) (N := 10) hx hb hts in_X5 hown hK (hR hS) 0 rfl rfl 0 (by decide) hf_10 (fun _ h9 => h9) rfl dX5_verdictOnRow_64 ?_
        refine va_get (D := D) (ci := 4) (v := .int (nI dy)) (C := RX4) (T := TX4) (N := 10) hx hb hts in_X4 hown hK (hR hS) 1 rfl rfl 7 (by decide) hf_180 (fun _ h9 => h9) rfl dX5_verdictOnRow_67 ?_
        refine bn_ne (a := ss) (b := dy) (tgt := 78) hx hb rfl rfl (by omega) (by omega) dX5_verdictOnRow_70 (by decide) (fun c70 => ?_) (fun c70 => ?_)
        · refine lv_iload_n hx hb dX5_verdictOnRow_78 rfl (lv_at hl 1 rfl) ?_
          exact rt_i hx hb hr hlocks () (by rw [tx_judge_n (fun e he => hq e (by omega))]; by_cases q : ss < dy; (rw [if_pos q]; congr 1; omega); (rw [if_neg q, if_pos (by omega)]; congr 1; omega)) hP hD hS dX5_verdictOnRow_79
        · refine lv_bipush (v := (-9)) hx hb dX5_verdictOnRow_73 (by decide) ?_
          refine lv_goto (tgt := 79) hx hb dX5_verdictOnRow_75 (by decide) ?_
          exact rt_i hx hb hr hlocks () (by rw [tx_judge_n (fun e he => hq e (by omega)), if_neg (by omega), if_neg (by omega)]) hP hD hS dX5_verdictOnRow_79
      · refine lv_aload_n hx hb dX5_verdictOnRow_22 rfl (lv_at hl 0 rfl) ?_
        refine va_get (D := D) (ci := 5) (v := .ref s0) (C := RX5) (T := TX5) (N := 10) hx hb hts in_X5 hown hK (hR hS) 0 rfl rfl 7 (by decide) hf_51 (fun _ h9 => h9) rfl dX5_verdictOnRow_23 ?_
        refine lv_iload_n hx hb dX5_verdictOnRow_26 rfl (lv_at hl 2 rfl) ?_
        refine ia_n (f := tx_nf sn) hx hb hK (hR hS) 3 0 rfl rfl (j := i) rfl (by omega) (by decide) dX5_verdictOnRow_27 ?_
        refine tp_i (y := nI (sn i)) rfl ?_
        refine lv_bipush (v := 9) hx hb dX5_verdictOnRow_28 (by decide) ?_
        have := hsn i
        have := htd i
        refine bn_eq (a := sn i) (b := 9) (tgt := 53) hx hb rfl rfl (by omega) (by decide) dX5_verdictOnRow_30 (by decide) (fun c30 => ?_) (fun c30 => ?_)
        · refine lv_iinc (v := nI (i + 1)) (lv' := [(2, .int (nI (i + 1))), (0, .ref xo), (1, .int (nI (min ss dy)))]) hx hb dX5_verdictOnRow_53 hl (k := 2) rfl (inc_n i 1) (by decide) rfl (fun ls hl => ?_)
          refine lv_goto (tgt := 17) hx hb dX5_verdictOnRow_56 (by decide) ?_
          exact ih17 (i + 1) (by first | assumption | omega) (fun e he => by by_cases q : e = i; (rw [q]; exact tx_jd_9 c30); (exact hq e (by omega))) (by omega) _ _ hP hD hS ls (lv_sub hl [1, 2, 0] rfl)
        · refine lv_aload_n hx hb dX5_verdictOnRow_33 rfl (lv_at hl 0 rfl) ?_
          refine va_get (D := D) (ci := 5) (v := .ref s0) (C := RX5) (T := TX5) (N := 10) hx hb hts in_X5 hown hK (hR hS) 0 rfl rfl 7 (by decide) hf_51 (fun _ h9 => h9) rfl dX5_verdictOnRow_34 ?_
          refine lv_iload_n hx hb dX5_verdictOnRow_37 rfl (lv_at hl 2 rfl) ?_
          refine ia_n (f := tx_nf sn) hx hb hK (hR hS) 3 0 rfl rfl (j := i) rfl (by omega) (by decide) dX5_verdictOnRow_38 ?_
          refine tp_i (y := nI (sn i)) rfl ?_
          refine lv_aload_n hx hb dX5_verdictOnRow_39 rfl (lv_at hl 0 rfl) ?_
          refine va_get (D := D) (ci := 5) (v := .ref h) (C := RX5) (T := TX5) (N := 10) hx hb hts in_X5 hown hK (hR hS) 0 rfl rfl 0 (by decide) hf_10 (fun _ h9 => h9) rfl dX5_verdictOnRow_40 ?_
          refine va_get (D := D) (ci := 4) (v := .ref k4) (C := RX4) (T := TX4) (N := 10) hx hb hts in_X4 hown hK (hR hS) 1 rfl rfl 4 (by decide) hf_100 (fun _ h9 => h9) rfl dX5_verdictOnRow_43 ?_
          refine lv_iload_n hx hb dX5_verdictOnRow_46 rfl (lv_at hl 2 rfl) ?_
          refine ia_n (f := tx_nf td) hx hb hK (hR hS) 2 0 rfl rfl (j := i) rfl (by omega) (by decide) dX5_verdictOnRow_47 ?_
          refine tp_i (y := nI (td i)) rfl ?_
          refine bn_eq (a := sn i) (b := td i) (tgt := 53) hx hb rfl rfl (by omega) (by omega) dX5_verdictOnRow_48 (by decide) (fun c48 => ?_) (fun c48 => ?_)
          · refine lv_iinc (v := nI (i + 1)) (lv' := [(2, .int (nI (i + 1))), (0, .ref xo), (1, .int (nI (min ss dy)))]) hx hb dX5_verdictOnRow_53 hl (k := 2) rfl (inc_n i 1) (by decide) rfl (fun ls hl => ?_)
            refine lv_goto (tgt := 17) hx hb dX5_verdictOnRow_56 (by decide) ?_
            exact ih17 (i + 1) (by first | assumption | omega) (fun e he => by by_cases q : e = i; (rw [q]; exact tx_jd_e c48); (exact hq e (by omega))) (by omega) _ _ hP hD hS ls (lv_sub hl [1, 2, 0] rfl)
          · refine lv_iload_n hx hb dX5_verdictOnRow_51 rfl (lv_at hl 2 rfl) ?_
            exact rt_i hx hb hr hlocks () (by rw [tx_judge_s (by omega) (by omega) hq (tx_jd_t c30 c48)]) hP hD hS dX5_verdictOnRow_52
  exact loop17 _ 0 (by first | assumption | omega) (fun e he => absurd he (Nat.not_lt_zero e)) (Nat.lt_succ_self _) _ _ hP hD hS ls (lv_sub hl [2, 1, 0] rfl)
set_option maxHeartbeats 4000000 in
set_option maxRecDepth 100000 in
theorem c_X5_judge (l : Launch) (D : va_G) (cs : Nat → ClassId) (sz : Nat) (xo : Nat) (hk : Nat) (im : Bool) (tx : Nat) (pn : Nat) (cn : Nat) (s0 : Nat) (ss : Nat) (r0 : Nat) (h : Nat) (k0 : Nat) (k1 : Nat) (k2 : Nat) (k3 : Nat) (k4 : Nat) (k5 : Nat) (n : Nat) (dy : Nat) (ch : Nat) (lw : Nat) (g : Nat) (td : Nat → Nat) (sn : Nat → Nat) (hdy : dy ≤ 20) (hss : ss ≤ 20) (hsn : ∀ e, sn e ≤ 9) (htd : ∀ e, td e < 4) : mI (S := Unit) l yX5_judge wsX5_judge ({ frames := 2, cells := 0, slots := 0, locals := 35 } : Room) D (tyc cs) sz [.ref xo] [(h, .inr (4, [.ref k0, .ref k1, .ref k2, .ref k3, .ref k4, .ref k5, .int (nI n), .int (nI dy), .int (nI ch), .int (nI lw)])), (k4, aI cs 20 (tx_nf td)), (s0, aI cs 20 (tx_nf sn))] [(xo, .inr (5, [.ref h, .ref hk, .int (bI im), .ref tx, .ref g, .ref pn, .ref cn, .ref s0, .int (nI ss), .ref r0]))] (fun (r : Int32) (u : Unit) => r = tx_judge sn td ss dy) (fun _ => [(xo, .inr (5, [.ref h, .ref hk, .int (bI im), .ref tx, .ref g, .ref pn, .ref cn, .ref s0, .int (nI 0), .ref r0]))]) 0 0 := by
  unfold mI
  refine Met.ofW (cc := cX5_judge) (maxL := 2) (ret := (some .int)) (by decide) rfl ?_
  intro p e s m args below meth c s₁ B hml hv
  obtain ⟨rfl, hsz, hP, hK, hD0⟩ := hv
  have hx := B.exec
  have hb := B.bytes
  have hr := B.returns
  have hts := atoms_spec (ws := wsX5_judge) B.pre
  have hown : s.vm.findClass RX5 = some m.cls := findClass_of_methodNamed B.named
  have hlocks := B.notSynchronized
  subst hsz
  have hR := @en_R _ _ _ [(h, .inr (4, [.ref k0, .ref k1, .ref k2, .ref k3, .ref k4, .ref k5, .int (nI n), .int (nI dy), .int (nI ch), .int (nI lw)])), (k4, aI cs 20 (tx_nf td)), (s0, aI cs 20 (tx_nf sn))] [(xo, .inr (5, [.ref h, .ref hk, .int (bI im), .ref tx, .ref g, .ref pn, .ref cn, .ref s0, .int (nI ss), .ref r0]))] _ hP hD0
  have hN := adN_of hD0
  have hD := en_D (wr := [(h, .inr (4, [.ref k0, .ref k1, .ref k2, .ref k3, .ref k4, .ref k5, .int (nI n), .int (nI dy), .int (nI ch), .int (nI lw)])), (k4, aI cs 20 (tx_nf td)), (s0, aI cs 20 (tx_nf sn))]) (ww := [(xo, .inr (5, [.ref h, .ref hk, .int (bI im), .ref tx, .ref g, .ref pn, .ref cn, .ref s0, .int (nI ss), .ref r0]))]) (sz := s.heap.size) hD0
  have hP := en_P (wr := [(h, .inr (4, [.ref k0, .ref k1, .ref k2, .ref k3, .ref k4, .ref k5, .int (nI n), .int (nI dy), .int (nI ch), .int (nI lw)])), (k4, aI cs 20 (tx_nf td)), (s0, aI cs 20 (tx_nf sn))]) (ww := [(xo, .inr (5, [.ref h, .ref hk, .int (bI im), .ref tx, .ref g, .ref pn, .ref cn, .ref s0, .int (nI ss), .ref r0]))]) hP
  generalize hAe : va_A [(xo, .inr (5, [.ref h, .ref hk, .int (bI im), .ref tx, .ref g, .ref pn, .ref cn, .ref s0, .int (nI ss), .ref r0]))] s.heap.size = A at hD hR ⊢
  have hA : ∀ q : Nat, s.heap.size ≤ q → A q := fun q h => by rw [← hAe]; exact Or.inr h
  have hS : va_S A s.heap s.heap [] := va_S.rf
  have hN : adN [h, k4, s0, xo] := hN
  have hf_55 := hts (.fieldLink RX5 55 "TaxedByLongest" "seenSize" "I") (by decide +kernel)
  have in_X5 : ∀ w ∈ wsX50, w ∈ wsX5_judge := by decide +kernel
  have hl := lv_entry ([.ref xo]) (n := 2) (Nat.le_of_ble_eq_true rfl)
  rw [lg_entry_eq]
  generalize (lg_sl ([.ref xo]) ++ List.replicate (2 - (lg_sl ([.ref xo])).length) Slot.unset).toArray = ls at hl ⊢
  have hl : lv_has ls 2 [(0, .ref xo)] := hl
  refine lv_aload_n hx hb dX5_judge_0 rfl (lv_at hl 0 rfl) ?_
  refine cV_i (As := []) (rest := []) (cr := [(xo, .inr (5, [.ref h, .ref hk, .int (bI im), .ref tx, .ref g, .ref pn, .ref cn, .ref s0, .int (nI ss), .ref r0])), (h, .inr (4, [.ref k0, .ref k1, .ref k2, .ref k3, .ref k4, .ref k5, .int (nI n), .int (nI dy), .int (nI ch), .int (nI lw)])), (k4, aI cs 20 (tx_nf td)), (s0, aI cs 20 (tx_nf sn))]) (cw1 := []) ⟨hx, hb, hml, hown, hts⟩ (c_X5_verdictOnRow l D cs _ xo hk im tx pn cn s0 ss r0 h k0 k1 k2 k3 k4 k5 n dy ch lw g td sn (by first | assumption | omega) (by first | assumption | omega) (by first | assumption | omega) (by first | assumption | omega)) (cwV 0 hts gX5_judge_X5_verdictOnRow rfl rfl rfl (by decide +kernel) ⟨Nat.le_of_ble_eq_true rfl, Nat.le_of_ble_eq_true rfl⟩) hK hP hD hS hA (((hR hS).app hP).sub [3, 0, 1, 2] rfl) (dt_of hN [3, 0, 1, 2] (by decide) rfl) [] rfl 0 rfl rfl rfl hl.1 rfl (Nat.le_of_ble_eq_true rfl) dX5_judge_1 ⟨Nat.le_of_ble_eq_true rfl, Nat.le_of_ble_eq_true rfl⟩ (fun _ => rfl) (fun _ => rfl) (fun r_1 u9 H locs hw_2 hP hD hS => ?_)
  have hP : va_P D vwCl [(xo, .inr (5, [.ref h, .ref hk, .int (bI im), .ref tx, .ref g, .ref pn, .ref cn, .ref s0, .int (nI ss), .ref r0]))] H := hP
  have hD : va_D A [(xo, .inr (5, [.ref h, .ref hk, .int (bI im), .ref tx, .ref g, .ref pn, .ref cn, .ref s0, .int (nI ss), .ref r0]))] := hD
  subst r_1
  refine lv_istore_n (lv' := [(1, .int (tx_judge sn td ss dy)), (0, .ref xo)]) hx hb dX5_judge_4 rfl hl (by decide) rfl (fun ls hl => ?_)
  refine lv_aload_n hx hb dX5_judge_5 rfl (lv_at hl 1 rfl) ?_
  refine lv_iconst (v := 0) hx hb dX5_judge_6 (by decide) ?_
  refine va_put (D := D) (ci := 5) (v := .int 0) (ty := .int) (C := RX5) (T := TX5) (N := 10) hx hb hts in_X5 tyX5 tyX5_ok nmX5 hown hK hP hD hS 0 rfl rfl 8 (by decide) hf_55 (fun _ h9 => h9) rfl (by decide +kernel) rfl rfl (Nat.le_of_ble_eq_true rfl) dX5_judge_7 (fun H locs hP hD hS => ?_)
  have hP : va_P D vwCl [(xo, .inr (5, [.ref h, .ref hk, .int (bI im), .ref tx, .ref g, .ref pn, .ref cn, .ref s0, .int 0, .ref r0]))] H := hP
  have hD : va_D A [(xo, .inr (5, [.ref h, .ref hk, .int (bI im), .ref tx, .ref g, .ref pn, .ref cn, .ref s0, .int 0, .ref r0]))] := hD
  refine lv_iload_n hx hb dX5_judge_10 rfl (lv_at hl 0 rfl) ?_
  exact rt_i hx hb hr hlocks () (rfl) hP hD hS dX5_judge_11
set_option maxHeartbeats 4000000 in
set_option maxRecDepth 100000 in
theorem c_X6_judge (l : Launch) (D : va_G) (cs : Nat → ClassId) (sz : Nat) (o : Nat) (o1 : Nat) (o2 : Nat) (o3 : Nat) (o4 : Nat) (o5 : Nat) (o6 : Nat) (o7 : Nat) (o8 : Nat) (o9 : Nat) (o10 : Nat) (o11 : Nat) (o12 : Nat) (o13 : Nat) (o14 : Nat) (o15 : Nat) (n : Nat) (dy : Nat) (ch : Nat) (lw : Nat) (tz : Nat) (at9 : Nat) (va9 : Nat) (ss : Nat) (im : Bool) (td : Nat → Nat) (sn : Nat → Nat) (hdy : dy ≤ 20) (hss : ss ≤ 20) (hsn : ∀ e, sn e ≤ 9) (htd : ∀ e, td e < 4) : mI (S := Unit) l yX6_judge wsX6_judge ({ frames := 0, cells := 0, slots := 0, locals := 0 } : Room) D (tyc cs) sz [.ref o] [(o5, aI cs 21 (tx_nf td)), (o8, aI cs 20 (tx_nf sn))] [(o, .inr (6, [.int (nI n), .ref o1, .ref o2, .ref o3, .ref o4, .int (nI dy), .ref o5, .ref o6, .int (nI ch), .int (nI lw), .int (nI tz), .ref o7, .int (nI at9), .int (nI va9), .int (nI ss), .ref o8, .ref o9, .int (bI im), .ref o10, .ref o11, .ref o12, .ref o13, .ref o14, .ref o15]))] (fun (r : Int32) (u : Unit) => r = tx_judge sn td ss dy) (fun _ => [(o, .inr (6, [.int (nI n), .ref o1, .ref o2, .ref o3, .ref o4, .int (nI dy), .ref o5, .ref o6, .int (nI ch), .int (nI lw), .int (nI tz), .ref o7, .int (nI at9), .int (nI va9), .int (nI 0), .ref o8, .ref o9, .int (bI im), .ref o10, .ref o11, .ref o12, .ref o13, .ref o14, .ref o15]))]) 0 0 := by
  unfold mI
  refine Met.ofW (cc := cX6_judge) (maxL := 3) (ret := (some .int)) (by decide) rfl ?_
  intro p e s m args below meth c s₁ B hml hv
  obtain ⟨rfl, hsz, hP, hK, hD0⟩ := hv
  have hx := B.exec
  have hb := B.bytes
  have hr := B.returns
  have hts := atoms_spec (ws := wsX6_judge) B.pre
  have hown : s.vm.findClass RX6 = some m.cls := findClass_of_methodNamed B.named
  have hlocks := B.notSynchronized
  subst hsz
  have hR := @en_R _ _ _ [(o5, aI cs 21 (tx_nf td)), (o8, aI cs 20 (tx_nf sn))] [(o, .inr (6, [.int (nI n), .ref o1, .ref o2, .ref o3, .ref o4, .int (nI dy), .ref o5, .ref o6, .int (nI ch), .int (nI lw), .int (nI tz), .ref o7, .int (nI at9), .int (nI va9), .int (nI ss), .ref o8, .ref o9, .int (bI im), .ref o10, .ref o11, .ref o12, .ref o13, .ref o14, .ref o15]))] _ hP hD0
  have hN := adN_of hD0
  have hD := en_D (wr := [(o5, aI cs 21 (tx_nf td)), (o8, aI cs 20 (tx_nf sn))]) (ww := [(o, .inr (6, [.int (nI n), .ref o1, .ref o2, .ref o3, .ref o4, .int (nI dy), .ref o5, .ref o6, .int (nI ch), .int (nI lw), .int (nI tz), .ref o7, .int (nI at9), .int (nI va9), .int (nI ss), .ref o8, .ref o9, .int (bI im), .ref o10, .ref o11, .ref o12, .ref o13, .ref o14, .ref o15]))]) (sz := s.heap.size) hD0
  have hP := en_P (wr := [(o5, aI cs 21 (tx_nf td)), (o8, aI cs 20 (tx_nf sn))]) (ww := [(o, .inr (6, [.int (nI n), .ref o1, .ref o2, .ref o3, .ref o4, .int (nI dy), .ref o5, .ref o6, .int (nI ch), .int (nI lw), .int (nI tz), .ref o7, .int (nI at9), .int (nI va9), .int (nI ss), .ref o8, .ref o9, .int (bI im), .ref o10, .ref o11, .ref o12, .ref o13, .ref o14, .ref o15]))]) hP
  generalize hAe : va_A [(o, .inr (6, [.int (nI n), .ref o1, .ref o2, .ref o3, .ref o4, .int (nI dy), .ref o5, .ref o6, .int (nI ch), .int (nI lw), .int (nI tz), .ref o7, .int (nI at9), .int (nI va9), .int (nI ss), .ref o8, .ref o9, .int (bI im), .ref o10, .ref o11, .ref o12, .ref o13, .ref o14, .ref o15]))] s.heap.size = A at hD hR ⊢
  have hA : ∀ q : Nat, s.heap.size ≤ q → A q := fun q h => by rw [← hAe]; exact Or.inr h
  have hS : va_S A s.heap s.heap [] := va_S.rf
  have hN : adN [o5, o8, o] := hN
  have hf_22 := hts (.fieldLink RX6 22 "TaxedByLongestModel" "done" "[I") (by decide +kernel)
  have hf_31 := hts (.fieldLink RX6 31 "TaxedByLongestModel" "row" "[I") (by decide +kernel)
  have hf_78 := hts (.fieldLink RX6 78 "TaxedByLongestModel" "days" "I") (by decide +kernel)
  have hf_189 := hts (.fieldLink RX6 189 "TaxedByLongestModel" "inRow" "I") (by decide +kernel)
  have in_X6 : ∀ w ∈ wsX60, w ∈ wsX6_judge := by decide +kernel
  have hl := lv_entry ([.ref o]) (n := 3) (Nat.le_of_ble_eq_true rfl)
  rw [lg_entry_eq]
  generalize (lg_sl ([.ref o]) ++ List.replicate (3 - (lg_sl ([.ref o])).length) Slot.unset).toArray = ls at hl ⊢
  have hl : lv_has ls 3 [(0, .ref o)] := hl
  refine lv_aload_n hx hb dX6_judge_0 rfl (lv_at hl 0 rfl) ?_
  refine va_get (D := D) (ci := 6) (v := .int (nI ss)) (C := RX6) (T := TX6) (N := 24) hx hb hts in_X6 hown hK hP 0 rfl rfl 14 (by decide) hf_189 (fun _ h9 => h9) rfl dX6_judge_1 ?_
  refine lv_istore_n (lv' := [(1, .int (nI ss)), (0, .ref o)]) hx hb dX6_judge_4 rfl hl (by decide) rfl (fun ls hl => ?_)
  refine lv_aload_n hx hb dX6_judge_5 rfl (lv_at hl 1 rfl) ?_
  refine lv_iconst (v := 0) hx hb dX6_judge_6 (by decide) ?_
  refine va_put (D := D) (ci := 6) (v := .int 0) (ty := .int) (C := RX6) (T := TX6) (N := 24) hx hb hts in_X6 tyX6 tyX6_ok nmX6 hown hK hP hD hS 0 rfl rfl 14 (by decide) hf_189 (fun _ h9 => h9) rfl (by decide +kernel) rfl rfl (Nat.le_of_ble_eq_true rfl) dX6_judge_7 (fun H locs hP hD hS => ?_)
  have hP : va_P D vwCl [(o, .inr (6, [.int (nI n), .ref o1, .ref o2, .ref o3, .ref o4, .int (nI dy), .ref o5, .ref o6, .int (nI ch), .int (nI lw), .int (nI tz), .ref o7, .int (nI at9), .int (nI va9), .int 0, .ref o8, .ref o9, .int (bI im), .ref o10, .ref o11, .ref o12, .ref o13, .ref o14, .ref o15]))] H := hP
  have hD : va_D A [(o, .inr (6, [.int (nI n), .ref o1, .ref o2, .ref o3, .ref o4, .int (nI dy), .ref o5, .ref o6, .int (nI ch), .int (nI lw), .int (nI tz), .ref o7, .int (nI at9), .int (nI va9), .int 0, .ref o8, .ref o9, .int (bI im), .ref o10, .ref o11, .ref o12, .ref o13, .ref o14, .ref o15]))] := hD
  refine lv_iconst (v := 0) hx hb dX6_judge_10 (by decide) ?_
  refine lv_istore_n (lv' := [(2, .int 0), (1, .int (nI ss)), (0, .ref o)]) hx hb dX6_judge_11 rfl hl (by decide) rfl (fun ls hl => ?_)
  have loop12 : ∀ (n9 : Nat) (i : Nat) (hi : i ≤ min ss dy) (hq : ∀ e, e < i → tx_jd sn td e = false), min ss dy - i < n9 → ∀ (H : Heap) (locs : List Loc), va_P D vwCl [(o, .inr (6, [.int (nI n), .ref o1, .ref o2, .ref o3, .ref o4, .int (nI dy), .ref o5, .ref o6, .int (nI ch), .int (nI lw), .int (nI tz), .ref o7, .int (nI at9), .int (nI va9), .int 0, .ref o8, .ref o9, .int (bI im), .ref o10, .ref o11, .ref o12, .ref o13, .ref o14, .ref o15]))] H → va_D A [(o, .inr (6, [.int (nI n), .ref o1, .ref o2, .ref o3, .ref o4, .int (nI dy), .ref o5, .ref o6, .int (nI ch), .int (nI lw), .int (nI tz), .ref o7, .int (nI at9), .int (nI va9), .int 0, .ref o8, .ref o9, .int (bI im), .ref o10, .ref o11, .ref o12, .ref o13, .ref o14, .ref o15]))] → va_S A s.heap H locs → ∀ (ls : Array Slot), lv_has ls 3 [(0, .ref o), (1, .int (nI ss)), (2, .int (nI i))] → W p l e (headSpec wsX6_judge ({ frames := 0, cells := 0, slots := 0, locals := 0 } : Room)).room s m ([.ref o] : List Value).toArray below meth c H locs 0 0 (MQ below (va_Qi (fun (r : Int32) (u : Unit) => r = tx_judge sn td ss dy) (QB D (fun _ => [(o, .inr (6, [.int (nI n), .ref o1, .ref o2, .ref o3, .ref o4, .int (nI dy), .ref o5, .ref o6, .int (nI ch), .int (nI lw), .int (nI tz), .ref o7, .int (nI at9), .int (nI va9), .int (nI 0), .ref o8, .ref o9, .int (bI im), .ref o10, .ref o11, .ref o12, .ref o13, .ref o14, .ref o15]))]) A) A) ([.ref o] : List Value).toArray s 0 0 A) (F0 m 12 ls []) := by
    intro n9
    induction n9 with
    | zero => intros; omega
    | succ n9 ih12 =>
      intro i hi hq hmu H locs hP hD hS ls hl
      refine lv_iload_n hx hb dX6_judge_12 rfl (lv_at hl 2 rfl) ?_
      refine lv_iload_n hx hb dX6_judge_13 rfl (lv_at hl 1 rfl) ?_
      refine bn_ge (a := i) (b := ss) (tgt := 59) hx hb rfl rfl (by omega) (by omega) dX6_judge_14 (by decide) (fun c14 => ?_) (fun c14 => ?_)
      · refine lv_iload_n hx hb dX6_judge_59 rfl (lv_at hl 1 rfl) ?_
        refine lv_aload_n hx hb dX6_judge_60 rfl (lv_at hl 0 rfl) ?_
        refine va_get (D := D) (ci := 6) (v := .int (nI dy)) (C := RX6) (T := TX6) (N := 24) hx hb hts in_X6 hown hK hP 0 rfl rfl 5 (by decide) hf_78 (fun _ h9 => h9) rfl dX6_judge_61 ?_
        refine bn_ge (a := ss) (b := dy) (tgt := 71) hx hb rfl rfl (by omega) (by omega) dX6_judge_64 (by decide) (fun c64 => ?_) (fun c64 => ?_)
        · refine lv_iload_n hx hb dX6_judge_71 rfl (lv_at hl 1 rfl) ?_
          refine lv_aload_n hx hb dX6_judge_72 rfl (lv_at hl 0 rfl) ?_
          refine va_get (D := D) (ci := 6) (v := .int (nI dy)) (C := RX6) (T := TX6) (N := 24) hx hb hts in_X6 hown hK hP 0 rfl rfl 5 (by decide) hf_78 (fun _ h9 => h9) rfl dX6_judge_73 ?_
          refine bn_le (a := ss) (b := dy) (tgt := 86) hx hb rfl rfl (by omega) (by omega) dX6_judge_76 (by decide) (fun c76 => ?_) (fun c76 => ?_)
          · refine lv_bipush (v := (-9)) hx hb dX6_judge_86 (by decide) ?_
            exact rt_i hx hb hr hlocks () (by rw [tx_judge_n (fun e he => hq e (by omega))]; (repeat' split) <;> first | rfl | (exfalso; omega)) hP hD hS dX6_judge_88
          · refine lv_aload_n hx hb dX6_judge_79 rfl (lv_at hl 0 rfl) ?_
            refine va_get (D := D) (ci := 6) (v := .int (nI dy)) (C := RX6) (T := TX6) (N := 24) hx hb hts in_X6 hown hK hP 0 rfl rfl 5 (by decide) hf_78 (fun _ h9 => h9) rfl dX6_judge_80 ?_
            refine lv_goto (tgt := 88) hx hb dX6_judge_83 (by decide) ?_
            exact rt_i hx hb hr hlocks () (by rw [tx_judge_n (fun e he => hq e (by omega))]; (repeat' split) <;> first | rfl | (exfalso; omega)) hP hD hS dX6_judge_88
        · refine lv_iload_n hx hb dX6_judge_67 rfl (lv_at hl 1 rfl) ?_
          refine lv_goto (tgt := 88) hx hb dX6_judge_68 (by decide) ?_
          exact rt_i hx hb hr hlocks () (by rw [tx_judge_n (fun e he => hq e (by omega))]; (repeat' split) <;> first | rfl | (exfalso; omega)) hP hD hS dX6_judge_88
      · refine lv_iload_n hx hb dX6_judge_17 rfl (lv_at hl 2 rfl) ?_
        refine lv_aload_n hx hb dX6_judge_18 rfl (lv_at hl 0 rfl) ?_
        refine va_get (D := D) (ci := 6) (v := .int (nI dy)) (C := RX6) (T := TX6) (N := 24) hx hb hts in_X6 hown hK hP 0 rfl rfl 5 (by decide) hf_78 (fun _ h9 => h9) rfl dX6_judge_19 ?_
        refine bn_ge (a := i) (b := dy) (tgt := 59) hx hb rfl rfl (by omega) (by omega) dX6_judge_22 (by decide) (fun c22 => ?_) (fun c22 => ?_)
        · refine lv_iload_n hx hb dX6_judge_59 rfl (lv_at hl 1 rfl) ?_
          refine lv_aload_n hx hb dX6_judge_60 rfl (lv_at hl 0 rfl) ?_
          refine va_get (D := D) (ci := 6) (v := .int (nI dy)) (C := RX6) (T := TX6) (N := 24) hx hb hts in_X6 hown hK hP 0 rfl rfl 5 (by decide) hf_78 (fun _ h9 => h9) rfl dX6_judge_61 ?_
          refine bn_ge (a := ss) (b := dy) (tgt := 71) hx hb rfl rfl (by omega) (by omega) dX6_judge_64 (by decide) (fun c64 => ?_) (fun c64 => ?_)
          · refine lv_iload_n hx hb dX6_judge_71 rfl (lv_at hl 1 rfl) ?_
            refine lv_aload_n hx hb dX6_judge_72 rfl (lv_at hl 0 rfl) ?_
            refine va_get (D := D) (ci := 6) (v := .int (nI dy)) (C := RX6) (T := TX6) (N := 24) hx hb hts in_X6 hown hK hP 0 rfl rfl 5 (by decide) hf_78 (fun _ h9 => h9) rfl dX6_judge_73 ?_
            refine bn_le (a := ss) (b := dy) (tgt := 86) hx hb rfl rfl (by omega) (by omega) dX6_judge_76 (by decide) (fun c76 => ?_) (fun c76 => ?_)
            · refine lv_bipush (v := (-9)) hx hb dX6_judge_86 (by decide) ?_
              exact rt_i hx hb hr hlocks () (by rw [tx_judge_n (fun e he => hq e (by omega))]; (repeat' split) <;> first | rfl | (exfalso; omega)) hP hD hS dX6_judge_88
            · refine lv_aload_n hx hb dX6_judge_79 rfl (lv_at hl 0 rfl) ?_
              refine va_get (D := D) (ci := 6) (v := .int (nI dy)) (C := RX6) (T := TX6) (N := 24) hx hb hts in_X6 hown hK hP 0 rfl rfl 5 (by decide) hf_78 (fun _ h9 => h9) rfl dX6_judge_80 ?_
              refine lv_goto (tgt := 88) hx hb dX6_judge_83 (by decide) ?_
              exact rt_i hx hb hr hlocks () (by rw [tx_judge_n (fun e he => hq e (by omega))]; (repeat' split) <;> first | rfl | (exfalso; omega)) hP hD hS dX6_judge_88
          · refine lv_iload_n hx hb dX6_judge_67 rfl (lv_at hl 1 rfl) ?_
            refine lv_goto (tgt := 88) hx hb dX6_judge_68 (by decide) ?_
            exact rt_i hx hb hr hlocks () (by rw [tx_judge_n (fun e he => hq e (by omega))]; (repeat' split) <;> first | rfl | (exfalso; omega)) hP hD hS dX6_judge_88
        · refine lv_aload_n hx hb dX6_judge_25 rfl (lv_at hl 0 rfl) ?_
          refine va_get (D := D) (ci := 6) (v := .ref o8) (C := RX6) (T := TX6) (N := 24) hx hb hts in_X6 hown hK hP 0 rfl rfl 15 (by decide) hf_31 (fun _ h9 => h9) rfl dX6_judge_26 ?_
          refine lv_iload_n hx hb dX6_judge_29 rfl (lv_at hl 2 rfl) ?_
          refine ia_n (f := tx_nf sn) hx hb hK (hR hS) 1 0 rfl rfl (j := i) rfl (by omega) (by decide) dX6_judge_30 ?_
          refine tp_i (y := nI (sn i)) rfl ?_
          refine lv_bipush (v := 9) hx hb dX6_judge_31 (by decide) ?_
          have := hsn i
          have := htd i
          refine bn_eq (a := sn i) (b := 9) (tgt := 53) hx hb rfl rfl (by omega) (by decide) dX6_judge_33 (by decide) (fun c33 => ?_) (fun c33 => ?_)
          · refine lv_iinc (v := nI (i + 1)) (lv' := [(2, .int (nI (i + 1))), (0, .ref o), (1, .int (nI ss))]) hx hb dX6_judge_53 hl (k := 2) rfl (inc_n i 1) (by decide) rfl (fun ls hl => ?_)
            refine lv_goto (tgt := 12) hx hb dX6_judge_56 (by decide) ?_
            exact ih12 (i + 1) (by first | assumption | omega) (fun e he => by by_cases q : e = i; (rw [q]; exact tx_jd_9 c33); (exact hq e (by omega))) (by omega) _ _ hP hD hS ls (lv_sub hl [1, 2, 0] rfl)
          · refine lv_aload_n hx hb dX6_judge_36 rfl (lv_at hl 0 rfl) ?_
            refine va_get (D := D) (ci := 6) (v := .ref o8) (C := RX6) (T := TX6) (N := 24) hx hb hts in_X6 hown hK hP 0 rfl rfl 15 (by decide) hf_31 (fun _ h9 => h9) rfl dX6_judge_37 ?_
            refine lv_iload_n hx hb dX6_judge_40 rfl (lv_at hl 2 rfl) ?_
            refine ia_n (f := tx_nf sn) hx hb hK (hR hS) 1 0 rfl rfl (j := i) rfl (by omega) (by decide) dX6_judge_41 ?_
            refine tp_i (y := nI (sn i)) rfl ?_
            refine lv_aload_n hx hb dX6_judge_42 rfl (lv_at hl 0 rfl) ?_
            refine va_get (D := D) (ci := 6) (v := .ref o5) (C := RX6) (T := TX6) (N := 24) hx hb hts in_X6 hown hK hP 0 rfl rfl 6 (by decide) hf_22 (fun _ h9 => h9) rfl dX6_judge_43 ?_
            refine lv_iload_n hx hb dX6_judge_46 rfl (lv_at hl 2 rfl) ?_
            refine ia_n (f := tx_nf td) hx hb hK (hR hS) 0 0 rfl rfl (j := i) rfl (by omega) (by decide) dX6_judge_47 ?_
            refine tp_i (y := nI (td i)) rfl ?_
            refine bn_eq (a := sn i) (b := td i) (tgt := 53) hx hb rfl rfl (by omega) (by omega) dX6_judge_48 (by decide) (fun c48 => ?_) (fun c48 => ?_)
            · refine lv_iinc (v := nI (i + 1)) (lv' := [(2, .int (nI (i + 1))), (0, .ref o), (1, .int (nI ss))]) hx hb dX6_judge_53 hl (k := 2) rfl (inc_n i 1) (by decide) rfl (fun ls hl => ?_)
              refine lv_goto (tgt := 12) hx hb dX6_judge_56 (by decide) ?_
              exact ih12 (i + 1) (by first | assumption | omega) (fun e he => by by_cases q : e = i; (rw [q]; exact tx_jd_e c48); (exact hq e (by omega))) (by omega) _ _ hP hD hS ls (lv_sub hl [1, 2, 0] rfl)
            · refine lv_iload_n hx hb dX6_judge_51 rfl (lv_at hl 2 rfl) ?_
              exact rt_i hx hb hr hlocks () (by rw [tx_judge_s (by omega) (by omega) hq (tx_jd_t c33 c48)]) hP hD hS dX6_judge_52
  exact loop12 _ 0 (by first | assumption | omega) (fun e he => absurd he (Nat.not_lt_zero e)) (Nat.lt_succ_self _) _ _ hP hD hS ls (lv_sub hl [2, 1, 0] rfl)
set_option maxHeartbeats 4000000 in
set_option maxRecDepth 100000 in
theorem c_X5_count (l : Launch) (D : va_G) (cs : Nat → ClassId) (sz : Nat) (xo : Nat) (hk : Nat) (im : Bool) (tx : Nat) (pn : Nat) (cn : Nat) (s0 : Nat) (ss : Nat) (r0 : Nat) (h : Nat) (k0 : Nat) (k1 : Nat) (k2 : Nat) (k3 : Nat) (k4 : Nat) (k5 : Nat) (n : Nat) (dy : Nat) (ch : Nat) (lw : Nat) (kd : Nat → Nat) (wo : Nat → Nat) (ha : Nat → Nat) (we : Nat → Nat) (td : Nat → Nat) (g : Nat) (g0 : Nat) (dd : Nat) (er : Int) (cg : Nat) (x : tx_5) (ld : Nat → Nat) (bo : Nat → Option Nat) (t0 : Nat) (tz : Nat) (at9 : Nat) (hd9 : Int32) (t1 : Nat) (ht : Nat) (rf : Nat → Nat) (v : Int32) (hn : n ≤ 4) (hkd : ∀ e, kd e ≤ 5) (htd : ∀ e, td e < 4) (hd1 : 1 ≤ dy) (hdy : dy ≤ 20) (hld : ∀ e, ld e < 4) (hbo : tx_okb bo) : mI (S := Nat × Int × Nat × tx_5 × (Nat → Nat)) l yX5_count wsX5_count ({ frames := 5, cells := 0, slots := 0, locals := 108 } : Room) D (tyc cs) sz [.ref xo, .int v] [(xo, .inr (5, [.ref h, .ref hk, .int (bI im), .ref tx, .ref g, .ref pn, .ref cn, .ref s0, .int (nI ss), .ref r0])), (h, .inr (4, [.ref k0, .ref k1, .ref k2, .ref k3, .ref k4, .ref k5, .int (nI n), .int (nI dy), .int (nI ch), .int (nI lw)])), (k0, aI cs 4 (tx_nf kd)), (k1, aI cs 4 (tx_nf wo)), (k2, aI cs 4 (tx_nf ha)), (k3, aI cs 4 (tx_nf we)), (k5, aI cs 20 (tx_bf bo)), (tx, .inr (3, [.ref t0, .int (nI tz), .int (nI at9), .int hd9, .ref t1, .ref ht])), (r0, aI cs 7 (tx_nf rf))] [(k4, aI cs 20 (tx_nf td)), (g, .inr (1, [.ref g0, .int (nI dd), .int (iI er), .int (nI cg), .int (nI x.1), .int (nI x.2.1), .int (nI x.2.2.1), .int (nI x.2.2.2.1), .int (nI x.2.2.2.2)])), (g0, aI cs 21 (tx_nf ld))] (fun (r : Int32) (u : Nat × Int × Nat × tx_5 × (Nat → Nat)) => match u with | (dd2, er2, cg2, x2, ld2) => r = tx_count n dy ch lw td bo ss tz rf v ∧ ∀ e, ld2 e < 4) (fun (u : Nat × Int × Nat × tx_5 × (Nat → Nat)) => match u with | (dd2, er2, cg2, x2, ld2) => [(k4, aI cs 20 (tx_nf td)), (g, .inr (1, [.ref g0, .int (nI dd2), .int (iI er2), .int (nI cg2), .int (nI x2.1), .int (nI x2.2.1), .int (nI x2.2.2.1), .int (nI x2.2.2.2.1), .int (nI x2.2.2.2.2)])), (g0, aI cs 21 (tx_nf ld2))]) 0 0 := by
  unfold mI
  refine Met.ofW (cc := cX5_count) (maxL := 2) (ret := (some .int)) (by decide) rfl ?_
  intro p e s m args below meth c s₁ B hml hv
  obtain ⟨rfl, hsz, hP, hK, hD0⟩ := hv
  have hx := B.exec
  have hb := B.bytes
  have hr := B.returns
  have hts := atoms_spec (ws := wsX5_count) B.pre
  have hown : s.vm.findClass RX5 = some m.cls := findClass_of_methodNamed B.named
  have hlocks := B.notSynchronized
  subst hsz
  have hR := @en_R _ _ _ [(xo, .inr (5, [.ref h, .ref hk, .int (bI im), .ref tx, .ref g, .ref pn, .ref cn, .ref s0, .int (nI ss), .ref r0])), (h, .inr (4, [.ref k0, .ref k1, .ref k2, .ref k3, .ref k4, .ref k5, .int (nI n), .int (nI dy), .int (nI ch), .int (nI lw)])), (k0, aI cs 4 (tx_nf kd)), (k1, aI cs 4 (tx_nf wo)), (k2, aI cs 4 (tx_nf ha)), (k3, aI cs 4 (tx_nf we)), (k5, aI cs 20 (tx_bf bo)), (tx, .inr (3, [.ref t0, .int (nI tz), .int (nI at9), .int hd9, .ref t1, .ref ht])), (r0, aI cs 7 (tx_nf rf))] [(k4, aI cs 20 (tx_nf td)), (g, .inr (1, [.ref g0, .int (nI dd), .int (iI er), .int (nI cg), .int (nI x.1), .int (nI x.2.1), .int (nI x.2.2.1), .int (nI x.2.2.2.1), .int (nI x.2.2.2.2)])), (g0, aI cs 21 (tx_nf ld))] _ hP hD0
  have hN := adN_of hD0
  have hD := en_D (wr := [(xo, .inr (5, [.ref h, .ref hk, .int (bI im), .ref tx, .ref g, .ref pn, .ref cn, .ref s0, .int (nI ss), .ref r0])), (h, .inr (4, [.ref k0, .ref k1, .ref k2, .ref k3, .ref k4, .ref k5, .int (nI n), .int (nI dy), .int (nI ch), .int (nI lw)])), (k0, aI cs 4 (tx_nf kd)), (k1, aI cs 4 (tx_nf wo)), (k2, aI cs 4 (tx_nf ha)), (k3, aI cs 4 (tx_nf we)), (k5, aI cs 20 (tx_bf bo)), (tx, .inr (3, [.ref t0, .int (nI tz), .int (nI at9), .int hd9, .ref t1, .ref ht])), (r0, aI cs 7 (tx_nf rf))]) (ww := [(k4, aI cs 20 (tx_nf td)), (g, .inr (1, [.ref g0, .int (nI dd), .int (iI er), .int (nI cg), .int (nI x.1), .int (nI x.2.1), .int (nI x.2.2.1), .int (nI x.2.2.2.1), .int (nI x.2.2.2.2)])), (g0, aI cs 21 (tx_nf ld))]) (sz := s.heap.size) hD0
  have hP := en_P (wr := [(xo, .inr (5, [.ref h, .ref hk, .int (bI im), .ref tx, .ref g, .ref pn, .ref cn, .ref s0, .int (nI ss), .ref r0])), (h, .inr (4, [.ref k0, .ref k1, .ref k2, .ref k3, .ref k4, .ref k5, .int (nI n), .int (nI dy), .int (nI ch), .int (nI lw)])), (k0, aI cs 4 (tx_nf kd)), (k1, aI cs 4 (tx_nf wo)), (k2, aI cs 4 (tx_nf ha)), (k3, aI cs 4 (tx_nf we)), (k5, aI cs 20 (tx_bf bo)), (tx, .inr (3, [.ref t0, .int (nI tz), .int (nI at9), .int hd9, .ref t1, .ref ht])), (r0, aI cs 7 (tx_nf rf))]) (ww := [(k4, aI cs 20 (tx_nf td)), (g, .inr (1, [.ref g0, .int (nI dd), .int (iI er), .int (nI cg), .int (nI x.1), .int (nI x.2.1), .int (nI x.2.2.1), .int (nI x.2.2.2.1), .int (nI x.2.2.2.2)])), (g0, aI cs 21 (tx_nf ld))]) hP
  generalize hAe : va_A [(k4, aI cs 20 (tx_nf td)), (g, .inr (1, [.ref g0, .int (nI dd), .int (iI er), .int (nI cg), .int (nI x.1), .int (nI x.2.1), .int (nI x.2.2.1), .int (nI x.2.2.2.1), .int (nI x.2.2.2.2)])), (g0, aI cs 21 (tx_nf ld))] s.heap.size = A at hD hR ⊢
  have hA : ∀ q : Nat, s.heap.size ≤ q → A q := fun q h => by rw [← hAe]; exact Or.inr h
  have hS : va_S A s.heap s.heap [] := va_S.rf
  have hN : adN [xo, h, k0, k1, k2, k3, k5, tx, r0, k4, g, g0] := hN
  have hf_10 := hts (.fieldLink RX5 10 "TaxedByLongest" "told" "LTaxedByLongest$Told;") (by decide +kernel)
  have hf_26 := hts (.fieldLink RX5 26 "TaxedByLongest" "text" "LTaxedByLongest$Text;") (by decide +kernel)
  have hf_33 := hts (.fieldLink RX5 33 "TaxedByLongest" "look" "LTaxedByLongest$Look;") (by decide +kernel)
  have hf_55 := hts (.fieldLink RX5 55 "TaxedByLongest" "seenSize" "I") (by decide +kernel)
  have hf_59 := hts (.fieldLink RX5 59 "TaxedByLongest" "refusals" "[I") (by decide +kernel)
  have hf_114 := hts (.fieldLink RX5 114 "TaxedByLongest$Told" "change" "I") (by decide +kernel)
  have hf_120 := hts (.fieldLink RX5 120 "TaxedByLongest$Told" "law" "I") (by decide +kernel)
  have hf_141 := hts (.fieldLink RX5 141 "TaxedByLongest$Told" "things" "I") (by decide +kernel)
  have hf_180 := hts (.fieldLink RX5 180 "TaxedByLongest$Told" "days" "I") (by decide +kernel)
  have hf_230 := hts (.fieldLink RX5 230 "TaxedByLongest$Look" "changes" "I") (by decide +kernel)
  have hf_236 := hts (.fieldLink RX5 236 "TaxedByLongest$Text" "size" "I") (by decide +kernel)
  have in_X1 : ∀ w ∈ wsX10, w ∈ wsX5_count := by decide +kernel
  have in_X3 : ∀ w ∈ wsX30, w ∈ wsX5_count := by decide +kernel
  have in_X4 : ∀ w ∈ wsX40, w ∈ wsX5_count := by decide +kernel
  have in_X5 : ∀ w ∈ wsX50, w ∈ wsX5_count := by decide +kernel
  have hl := lv_entry ([.ref xo, .int v]) (n := 2) (Nat.le_of_ble_eq_true rfl)
  rw [lg_entry_eq]
  generalize (lg_sl ([.ref xo, .int v]) ++ List.replicate (2 - (lg_sl ([.ref xo, .int v])).length) Slot.unset).toArray = ls at hl ⊢
  have hl : lv_has ls 2 [(0, .ref xo), (1, .int v)] := hl
  refine lv_iload_n hx hb dX5_count_0 rfl (lv_at hl 1 rfl) ?_
  by_cases s1_0 : v = 0
  · refine tp_i s1_0 ?_
    refine lv_tableIn (tgt := 48) hx hb dX5_count_1 (by decide) (by decide) rfl (by decide) ?_
    refine lv_aload_n hx hb dX5_count_48 rfl (lv_at hl 0 rfl) ?_
    refine va_get (D := D) (ci := 5) (v := .ref h) (C := RX5) (T := TX5) (N := 10) hx hb hts in_X5 hown hK (hR hS) 0 rfl rfl 0 (by decide) hf_10 (fun _ h9 => h9) rfl dX5_count_49 ?_
    refine va_get (D := D) (ci := 4) (v := .int (nI n)) (C := RX4) (T := TX4) (N := 10) hx hb hts in_X4 hown hK (hR hS) 1 rfl rfl 6 (by decide) hf_141 (fun _ h9 => h9) rfl dX5_count_52 ?_
    exact rt_i hx hb hr hlocks (dd, er, cg, x, ld) (⟨by unfold tx_count; simp only [s1_0]; first | rfl | (simp <;> rfl), hld⟩) hP hD hS dX5_count_55
  · have _ := 0
    by_cases s1_1 : v = 1
    · refine tp_i s1_1 ?_
      refine lv_tableIn (tgt := 56) hx hb dX5_count_1 (by decide) (by decide) rfl (by decide) ?_
      refine lv_aload_n hx hb dX5_count_56 rfl (lv_at hl 0 rfl) ?_
      refine va_get (D := D) (ci := 5) (v := .ref h) (C := RX5) (T := TX5) (N := 10) hx hb hts in_X5 hown hK (hR hS) 0 rfl rfl 0 (by decide) hf_10 (fun _ h9 => h9) rfl dX5_count_57 ?_
      refine va_get (D := D) (ci := 4) (v := .int (nI dy)) (C := RX4) (T := TX4) (N := 10) hx hb hts in_X4 hown hK (hR hS) 1 rfl rfl 7 (by decide) hf_180 (fun _ h9 => h9) rfl dX5_count_60 ?_
      exact rt_i hx hb hr hlocks (dd, er, cg, x, ld) (⟨by unfold tx_count; simp only [s1_1]; first | rfl | (simp <;> rfl), hld⟩) hP hD hS dX5_count_63
    · have _ := 0
      by_cases s1_2 : v = 2
      · refine tp_i s1_2 ?_
        refine lv_tableIn (tgt := 64) hx hb dX5_count_1 (by decide) (by decide) rfl (by decide) ?_
        refine lv_aload_n hx hb dX5_count_64 rfl (lv_at hl 0 rfl) ?_
        refine va_get (D := D) (ci := 5) (v := .ref h) (C := RX5) (T := TX5) (N := 10) hx hb hts in_X5 hown hK (hR hS) 0 rfl rfl 0 (by decide) hf_10 (fun _ h9 => h9) rfl dX5_count_65 ?_
        refine va_get (D := D) (ci := 4) (v := .int (nI ch)) (C := RX4) (T := TX4) (N := 10) hx hb hts in_X4 hown hK (hR hS) 1 rfl rfl 8 (by decide) hf_114 (fun _ h9 => h9) rfl dX5_count_68 ?_
        exact rt_i hx hb hr hlocks (dd, er, cg, x, ld) (⟨by unfold tx_count; simp only [s1_2]; first | rfl | (simp <;> rfl), hld⟩) hP hD hS dX5_count_71
      · have _ := 0
        by_cases s1_3 : v = 3
        · refine tp_i s1_3 ?_
          refine lv_tableIn (tgt := 72) hx hb dX5_count_1 (by decide) (by decide) rfl (by decide) ?_
          refine lv_aload_n hx hb dX5_count_72 rfl (lv_at hl 0 rfl) ?_
          refine va_get (D := D) (ci := 5) (v := .ref h) (C := RX5) (T := TX5) (N := 10) hx hb hts in_X5 hown hK (hR hS) 0 rfl rfl 0 (by decide) hf_10 (fun _ h9 => h9) rfl dX5_count_73 ?_
          refine va_get (D := D) (ci := 4) (v := .int (nI lw)) (C := RX4) (T := TX4) (N := 10) hx hb hts in_X4 hown hK (hR hS) 1 rfl rfl 9 (by decide) hf_120 (fun _ h9 => h9) rfl dX5_count_76 ?_
          exact rt_i hx hb hr hlocks (dd, er, cg, x, ld) (⟨by unfold tx_count; simp only [s1_3]; first | rfl | (simp <;> rfl), hld⟩) hP hD hS dX5_count_79
        · have _ := 0
          by_cases s1_4 : v = 4
          · refine tp_i s1_4 ?_
            refine lv_tableIn (tgt := 80) hx hb dX5_count_1 (by decide) (by decide) rfl (by decide) ?_
            refine lv_aload_n hx hb dX5_count_80 rfl (lv_at hl 0 rfl) ?_
            refine cV_v (As := []) (rest := []) (cr := [(xo, .inr (5, [.ref h, .ref hk, .int (bI im), .ref tx, .ref g, .ref pn, .ref cn, .ref s0, .int (nI ss), .ref r0])), (h, .inr (4, [.ref k0, .ref k1, .ref k2, .ref k3, .ref k4, .ref k5, .int (nI n), .int (nI dy), .int (nI ch), .int (nI lw)])), (k0, aI cs 4 (tx_nf kd)), (k1, aI cs 4 (tx_nf wo)), (k2, aI cs 4 (tx_nf ha)), (k3, aI cs 4 (tx_nf we))]) (cw1 := [(k4, aI cs 20 (tx_nf td)), (g, .inr (1, [.ref g0, .int (nI dd), .int (iI er), .int (nI cg), .int (nI x.1), .int (nI x.2.1), .int (nI x.2.2.1), .int (nI x.2.2.2.1), .int (nI x.2.2.2.2)])), (g0, aI cs 21 (tx_nf ld))]) ⟨hx, hb, hml, hown, hts⟩ (c_X5_lookAtNow l D cs _ xo hk im tx pn cn s0 ss r0 h k0 k1 k2 k3 k4 k5 n dy ch lw kd wo ha we td g g0 dd er cg x ld (by first | assumption | omega) (by first | assumption | omega) (by first | assumption | omega) (by first | assumption | omega) (by first | assumption | omega) (by first | assumption | omega)) (cwV 0 hts gX5_count_X5_lookAtNow rfl rfl rfl (by decide +kernel) ⟨Nat.le_of_ble_eq_true rfl, Nat.le_of_ble_eq_true rfl⟩) hK hP hD hS hA (((hR hS).app hP).sub [0, 1, 2, 3, 4, 5, 9, 10, 11] rfl) (dt_of hN [0, 1, 2, 3, 4, 5, 9, 10, 11] (by decide) rfl) [0, 1, 2] rfl 0 rfl rfl rfl hl.1 rfl (Nat.le_of_ble_eq_true rfl) dX5_count_81 ⟨Nat.le_of_ble_eq_true rfl, Nat.le_of_ble_eq_true rfl⟩ (fun _ => rfl) (fun _ => rfl) (fun u9 H locs hw_1 hP hD hS => ?_)
            have hP : va_P D vwCl [(k4, aI cs 20 (tx_nf td)), (g, .inr (1, [.ref g0, .int (nI dy), .int (iI (tx_earn n kd wo ha we td dy ch)), .int (nI (tx_cg td (dy - 1))), .int (nI ((tx_T n kd td dy).1)), .int (nI ((tx_T n kd td dy).2.1)), .int (nI ((tx_T n kd td dy).2.2.1)), .int (nI ((tx_T n kd td dy).2.2.2.1)), .int (nI ((tx_T n kd td dy).2.2.2.2))])), (g0, aI cs 21 (tx_nf (tx_l20 td ld)))] H := hP
            have hD : va_D A [(k4, aI cs 20 (tx_nf td)), (g, .inr (1, [.ref g0, .int (nI dy), .int (iI (tx_earn n kd wo ha we td dy ch)), .int (nI (tx_cg td (dy - 1))), .int (nI ((tx_T n kd td dy).1)), .int (nI ((tx_T n kd td dy).2.1)), .int (nI ((tx_T n kd td dy).2.2.1)), .int (nI ((tx_T n kd td dy).2.2.2.1)), .int (nI ((tx_T n kd td dy).2.2.2.2))])), (g0, aI cs 21 (tx_nf (tx_l20 td ld)))] := hD
            refine lv_aload_n hx hb dX5_count_84 rfl (lv_at hl 0 rfl) ?_
            refine va_get (D := D) (ci := 5) (v := .ref g) (C := RX5) (T := TX5) (N := 10) hx hb hts in_X5 hown hK (hR hS) 0 rfl rfl 4 (by decide) hf_33 (fun _ h9 => h9) rfl dX5_count_85 ?_
            refine va_get (D := D) (ci := 1) (v := .int (nI (tx_cg td (dy - 1)))) (C := RX1) (T := TX1) (N := 9) hx hb hts in_X1 hown hK hP 1 rfl rfl 3 (by decide) hf_230 (fun _ h9 => h9) rfl dX5_count_88 ?_
            exact rt_i hx hb hr hlocks (dy, tx_earn n kd wo ha we td dy ch, tx_cg td (dy - 1), tx_T n kd td dy, tx_l20 td ld) (⟨by unfold tx_count; simp only [s1_4]; first | rfl | (simp <;> rfl), tx_l20_4 htd hld⟩) hP hD hS dX5_count_91
          · have _ := 0
            by_cases s1_5 : v = 5
            · refine tp_i s1_5 ?_
              refine lv_tableIn (tgt := 92) hx hb dX5_count_1 (by decide) (by decide) rfl (by decide) ?_
              refine lv_aload_n hx hb dX5_count_92 rfl (lv_at hl 0 rfl) ?_
              refine va_get (D := D) (ci := 5) (v := .ref h) (C := RX5) (T := TX5) (N := 10) hx hb hts in_X5 hown hK (hR hS) 0 rfl rfl 0 (by decide) hf_10 (fun _ h9 => h9) rfl dX5_count_93 ?_
              refine cV_i (As := []) (rest := []) (cr := [(h, .inr (4, [.ref k0, .ref k1, .ref k2, .ref k3, .ref k4, .ref k5, .int (nI n), .int (nI dy), .int (nI ch), .int (nI lw)])), (k5, aI cs 20 (tx_bf bo))]) (cw1 := []) ⟨hx, hb, hml, hown, hts⟩ (c_X4_boundDays l D cs _ h k0 k1 k2 k3 k4 k5 n dy ch lw bo (by first | assumption | omega) (by first | assumption | omega)) (cwV 0 hts gX5_count_X4_boundDays rfl rfl rfl (by decide +kernel) ⟨Nat.le_of_ble_eq_true rfl, Nat.le_of_ble_eq_true rfl⟩) hK hP hD hS hA (((hR hS).app hP).sub [1, 6] rfl) (dt_of hN [1, 6] (by decide) rfl) [] rfl 0 rfl rfl rfl hl.1 rfl (Nat.le_of_ble_eq_true rfl) dX5_count_96 ⟨Nat.le_of_ble_eq_true rfl, Nat.le_of_ble_eq_true rfl⟩ (fun _ => rfl) (fun _ => rfl) (fun r_2 u9 H locs hw_3 hP hD hS => ?_)
              have hP : va_P D vwCl [(k4, aI cs 20 (tx_nf td)), (g, .inr (1, [.ref g0, .int (nI dd), .int (iI er), .int (nI cg), .int (nI x.1), .int (nI x.2.1), .int (nI x.2.2.1), .int (nI x.2.2.2.1), .int (nI x.2.2.2.2)])), (g0, aI cs 21 (tx_nf ld))] H := hP
              have hD : va_D A [(k4, aI cs 20 (tx_nf td)), (g, .inr (1, [.ref g0, .int (nI dd), .int (iI er), .int (nI cg), .int (nI x.1), .int (nI x.2.1), .int (nI x.2.2.1), .int (nI x.2.2.2.1), .int (nI x.2.2.2.2)])), (g0, aI cs 21 (tx_nf ld))] := hD
              subst r_2
              exact rt_i hx hb hr hlocks (dd, er, cg, x, ld) (⟨by unfold tx_count; simp only [s1_5]; first | rfl | (simp <;> rfl), hld⟩) hP hD hS dX5_count_99
            · have _ := 0
              by_cases s1_6 : v = 6
              · refine tp_i s1_6 ?_
                refine lv_tableIn (tgt := 100) hx hb dX5_count_1 (by decide) (by decide) rfl (by decide) ?_
                refine lv_aload_n hx hb dX5_count_100 rfl (lv_at hl 0 rfl) ?_
                refine va_get (D := D) (ci := 5) (v := .int (nI ss)) (C := RX5) (T := TX5) (N := 10) hx hb hts in_X5 hown hK (hR hS) 0 rfl rfl 8 (by decide) hf_55 (fun _ h9 => h9) rfl dX5_count_101 ?_
                exact rt_i hx hb hr hlocks (dd, er, cg, x, ld) (⟨by unfold tx_count; simp only [s1_6]; first | rfl | (simp <;> rfl), hld⟩) hP hD hS dX5_count_104
              · have _ := 0
                by_cases s1_7 : v = 7
                · refine tp_i s1_7 ?_
                  refine lv_tableIn (tgt := 105) hx hb dX5_count_1 (by decide) (by decide) rfl (by decide) ?_
                  refine lv_aload_n hx hb dX5_count_105 rfl (lv_at hl 0 rfl) ?_
                  refine va_get (D := D) (ci := 5) (v := .ref tx) (C := RX5) (T := TX5) (N := 10) hx hb hts in_X5 hown hK (hR hS) 0 rfl rfl 3 (by decide) hf_26 (fun _ h9 => h9) rfl dX5_count_106 ?_
                  refine va_get (D := D) (ci := 3) (v := .int (nI tz)) (C := RX3) (T := TX3) (N := 6) hx hb hts in_X3 hown hK (hR hS) 7 rfl rfl 1 (by decide) hf_236 (fun _ h9 => h9) rfl dX5_count_109 ?_
                  exact rt_i hx hb hr hlocks (dd, er, cg, x, ld) (⟨by unfold tx_count; simp only [s1_7]; first | rfl | (simp <;> rfl), hld⟩) hP hD hS dX5_count_112
                · have _ := 0
                  refine lv_tableOut (tgt := 113) hx hb dX5_count_1 (by have := lv_neT (a := 0) s1_0 rfl; have := lv_neT (a := 1) s1_1 rfl; have := lv_neT (a := 2) s1_2 rfl; have := lv_neT (a := 3) s1_3 rfl; have := lv_neT (a := 4) s1_4 rfl; have := lv_neT (a := 5) s1_5 rfl; have := lv_neT (a := 6) s1_6 rfl; have := lv_neT (a := 7) s1_7 rfl; omega) (by decide) ?_
                  refine lv_iload_n hx hb dX5_count_113 rfl (lv_at hl 1 rfl) ?_
                  refine lv_bipush (v := 11) hx hb dX5_count_114 (by decide) ?_
                  refine lv_icmp_lt (tgt := 137) hx hb dX5_count_116 (by decide) (fun c116 => ?_) (fun c116 => ?_)
                  · refine lv_bipush (v := (-9)) hx hb dX5_count_137 (by decide) ?_
                    exact rt_i hx hb hr hlocks (dd, er, cg, x, ld) (⟨by unfold tx_count; rw [if_neg s1_0, if_neg s1_1, if_neg s1_2, if_neg s1_3, if_neg s1_4, if_neg s1_5, if_neg s1_6, if_neg s1_7]; rw [if_neg (fun q => absurd q.1 (Int32.not_le.mpr c116))], hld⟩) hP hD hS dX5_count_139
                  · refine lv_iload_n hx hb dX5_count_119 rfl (lv_at hl 1 rfl) ?_
                    refine lv_bipush (v := 16) hx hb dX5_count_120 (by decide) ?_
                    refine lv_icmp_gt (tgt := 137) hx hb dX5_count_122 (by decide) (fun c122 => ?_) (fun c122 => ?_)
                    · refine lv_bipush (v := (-9)) hx hb dX5_count_137 (by decide) ?_
                      exact rt_i hx hb hr hlocks (dd, er, cg, x, ld) (⟨by unfold tx_count; rw [if_neg s1_0, if_neg s1_1, if_neg s1_2, if_neg s1_3, if_neg s1_4, if_neg s1_5, if_neg s1_6, if_neg s1_7]; rw [if_neg (fun q => absurd q.2 (Int32.not_le.mpr c122))], hld⟩) hP hD hS dX5_count_139
                    · obtain ⟨j, hj1, hj2, rfl⟩ := tx_has16 c116 c122
                      have hij : tx_ix (nI j) = j := tx_ix_n (by omega)
                      refine lv_aload_n hx hb dX5_count_125 rfl (lv_at hl 0 rfl) ?_
                      refine va_get (D := D) (ci := 5) (v := .ref r0) (C := RX5) (T := TX5) (N := 10) hx hb hts in_X5 hown hK (hR hS) 0 rfl rfl 9 (by decide) hf_59 (fun _ h9 => h9) rfl dX5_count_126 ?_
                      refine lv_iload_n hx hb dX5_count_129 rfl (lv_at hl 1 rfl) ?_
                      refine lv_bipush (v := 10) hx hb dX5_count_130 (by decide) ?_
                      refine lv_isub hx hb dX5_count_132 ?_
                      refine tp_i (pk_sub (a := j) (b := 10) (by omega)) ?_
                      refine ia_n (f := tx_nf rf) hx hb hK (hR hS) 8 0 rfl rfl (j := j - 10) rfl (by omega) (by decide) dX5_count_133 ?_
                      refine tp_i (y := nI (rf (j - 10))) rfl ?_
                      refine lv_goto (tgt := 139) hx hb dX5_count_134 (by decide) ?_
                      exact rt_i hx hb hr hlocks (dd, er, cg, x, ld) (⟨by unfold tx_count; rw [if_neg s1_0, if_neg s1_1, if_neg s1_2, if_neg s1_3, if_neg s1_4, if_neg s1_5, if_neg s1_6, if_neg s1_7]; rw [if_pos ⟨Int32.not_lt.mp c116, Int32.not_lt.mp c122⟩, hij], hld⟩) hP hD hS dX5_count_139
set_option maxHeartbeats 4000000 in
set_option maxRecDepth 100000 in
theorem c_X6_count (l : Launch) (D : va_G) (cs : Nat → ClassId) (sz : Nat) (o : Nat) (o1 : Nat) (o2 : Nat) (o3 : Nat) (o4 : Nat) (o5 : Nat) (o6 : Nat) (o7 : Nat) (o8 : Nat) (o9 : Nat) (o10 : Nat) (o11 : Nat) (o12 : Nat) (o13 : Nat) (o14 : Nat) (o15 : Nat) (n : Nat) (dy : Nat) (ch : Nat) (lw : Nat) (tz : Nat) (at9 : Nat) (va9 : Nat) (ss : Nat) (im : Bool) (td : Nat → Nat) (bo : Nat → Option Nat) (rf : Nat → Nat) (v : Int32) (hdy : dy ≤ 20) (hd1 : 1 ≤ dy) (htd : ∀ e, td e < 4) (hbo : tx_okb bo) : mI (S := Unit) l yX6_count wsX6_count ({ frames := 1, cells := 0, slots := 0, locals := 22 } : Room) D (tyc cs) sz [.ref o, .int v] [(o, .inr (6, [.int (nI n), .ref o1, .ref o2, .ref o3, .ref o4, .int (nI dy), .ref o5, .ref o6, .int (nI ch), .int (nI lw), .int (nI tz), .ref o7, .int (nI at9), .int (nI va9), .int (nI ss), .ref o8, .ref o9, .int (bI im), .ref o10, .ref o11, .ref o12, .ref o13, .ref o14, .ref o15])), (o5, aI cs 21 (tx_nf td)), (o6, aI cs 21 (tx_bf bo)), (o9, aI cs 7 (tx_nf rf))] [] (fun (r : Int32) (u : Unit) => r = tx_count n dy ch lw td bo ss tz rf v) (fun _ => []) 0 0 := by
  unfold mI
  refine Met.ofW (cc := cX6_count) (maxL := 4) (ret := (some .int)) (by decide) rfl ?_
  intro p e s m args below meth c s₁ B hml hv
  obtain ⟨rfl, hsz, hP, hK, hD0⟩ := hv
  have hx := B.exec
  have hb := B.bytes
  have hr := B.returns
  have hts := atoms_spec (ws := wsX6_count) B.pre
  have hown : s.vm.findClass RX6 = some m.cls := findClass_of_methodNamed B.named
  have hlocks := B.notSynchronized
  subst hsz
  have hR := @en_R _ _ _ [(o, .inr (6, [.int (nI n), .ref o1, .ref o2, .ref o3, .ref o4, .int (nI dy), .ref o5, .ref o6, .int (nI ch), .int (nI lw), .int (nI tz), .ref o7, .int (nI at9), .int (nI va9), .int (nI ss), .ref o8, .ref o9, .int (bI im), .ref o10, .ref o11, .ref o12, .ref o13, .ref o14, .ref o15])), (o5, aI cs 21 (tx_nf td)), (o6, aI cs 21 (tx_bf bo)), (o9, aI cs 7 (tx_nf rf))] [] _ hP hD0
  have hN := adN_of hD0
  have hD := en_D (wr := [(o, .inr (6, [.int (nI n), .ref o1, .ref o2, .ref o3, .ref o4, .int (nI dy), .ref o5, .ref o6, .int (nI ch), .int (nI lw), .int (nI tz), .ref o7, .int (nI at9), .int (nI va9), .int (nI ss), .ref o8, .ref o9, .int (bI im), .ref o10, .ref o11, .ref o12, .ref o13, .ref o14, .ref o15])), (o5, aI cs 21 (tx_nf td)), (o6, aI cs 21 (tx_bf bo)), (o9, aI cs 7 (tx_nf rf))]) (ww := []) (sz := s.heap.size) hD0
  have hP := en_P (wr := [(o, .inr (6, [.int (nI n), .ref o1, .ref o2, .ref o3, .ref o4, .int (nI dy), .ref o5, .ref o6, .int (nI ch), .int (nI lw), .int (nI tz), .ref o7, .int (nI at9), .int (nI va9), .int (nI ss), .ref o8, .ref o9, .int (bI im), .ref o10, .ref o11, .ref o12, .ref o13, .ref o14, .ref o15])), (o5, aI cs 21 (tx_nf td)), (o6, aI cs 21 (tx_bf bo)), (o9, aI cs 7 (tx_nf rf))]) (ww := []) hP
  generalize hAe : va_A [] s.heap.size = A at hD hR ⊢
  have hA : ∀ q : Nat, s.heap.size ≤ q → A q := fun q h => by rw [← hAe]; exact Or.inr h
  have hS : va_S A s.heap s.heap [] := va_S.rf
  have hN : adN [o, o5, o6, o9] := hN
  have hf_25 := hts (.fieldLink RX6 25 "TaxedByLongestModel" "bound" "[I") (by decide +kernel)
  have hf_34 := hts (.fieldLink RX6 34 "TaxedByLongestModel" "refusals" "[I") (by decide +kernel)
  have hf_60 := hts (.fieldLink RX6 60 "TaxedByLongestModel" "change" "I") (by decide +kernel)
  have hf_71 := hts (.fieldLink RX6 71 "TaxedByLongestModel" "things" "I") (by decide +kernel)
  have hf_78 := hts (.fieldLink RX6 78 "TaxedByLongestModel" "days" "I") (by decide +kernel)
  have hf_81 := hts (.fieldLink RX6 81 "TaxedByLongestModel" "letters" "I") (by decide +kernel)
  have hf_114 := hts (.fieldLink RX6 114 "TaxedByLongestModel" "law" "I") (by decide +kernel)
  have hf_189 := hts (.fieldLink RX6 189 "TaxedByLongestModel" "inRow" "I") (by decide +kernel)
  have in_X6 : ∀ w ∈ wsX60, w ∈ wsX6_count := by decide +kernel
  have hl := lv_entry ([.ref o, .int v]) (n := 4) (Nat.le_of_ble_eq_true rfl)
  rw [lg_entry_eq]
  generalize (lg_sl ([.ref o, .int v]) ++ List.replicate (4 - (lg_sl ([.ref o, .int v])).length) Slot.unset).toArray = ls at hl ⊢
  have hl : lv_has ls 4 [(0, .ref o), (1, .int v)] := hl
  refine lv_iload_n hx hb dX6_count_0 rfl (lv_at hl 1 rfl) ?_
  by_cases s1_0 : v = 0
  · refine tp_i s1_0 ?_
    refine lv_tableIn (tgt := 48) hx hb dX6_count_1 (by decide) (by decide) rfl (by decide) ?_
    refine lv_aload_n hx hb dX6_count_48 rfl (lv_at hl 0 rfl) ?_
    refine va_get (D := D) (ci := 6) (v := .int (nI n)) (C := RX6) (T := TX6) (N := 24) hx hb hts in_X6 hown hK (hR hS) 0 rfl rfl 0 (by decide) hf_71 (fun _ h9 => h9) rfl dX6_count_49 ?_
    exact rt_i hx hb hr hlocks () (by unfold tx_count; simp only [s1_0]; first | rfl | (simp <;> rfl)) hP hD hS dX6_count_52
  · have _ := 0
    by_cases s1_1 : v = 1
    · refine tp_i s1_1 ?_
      refine lv_tableIn (tgt := 53) hx hb dX6_count_1 (by decide) (by decide) rfl (by decide) ?_
      refine lv_aload_n hx hb dX6_count_53 rfl (lv_at hl 0 rfl) ?_
      refine va_get (D := D) (ci := 6) (v := .int (nI dy)) (C := RX6) (T := TX6) (N := 24) hx hb hts in_X6 hown hK (hR hS) 0 rfl rfl 5 (by decide) hf_78 (fun _ h9 => h9) rfl dX6_count_54 ?_
      exact rt_i hx hb hr hlocks () (by unfold tx_count; simp only [s1_1]; first | rfl | (simp <;> rfl)) hP hD hS dX6_count_57
    · have _ := 0
      by_cases s1_2 : v = 2
      · refine tp_i s1_2 ?_
        refine lv_tableIn (tgt := 58) hx hb dX6_count_1 (by decide) (by decide) rfl (by decide) ?_
        refine lv_aload_n hx hb dX6_count_58 rfl (lv_at hl 0 rfl) ?_
        refine va_get (D := D) (ci := 6) (v := .int (nI ch)) (C := RX6) (T := TX6) (N := 24) hx hb hts in_X6 hown hK (hR hS) 0 rfl rfl 8 (by decide) hf_60 (fun _ h9 => h9) rfl dX6_count_59 ?_
        exact rt_i hx hb hr hlocks () (by unfold tx_count; simp only [s1_2]; first | rfl | (simp <;> rfl)) hP hD hS dX6_count_62
      · have _ := 0
        by_cases s1_3 : v = 3
        · refine tp_i s1_3 ?_
          refine lv_tableIn (tgt := 63) hx hb dX6_count_1 (by decide) (by decide) rfl (by decide) ?_
          refine lv_aload_n hx hb dX6_count_63 rfl (lv_at hl 0 rfl) ?_
          refine va_get (D := D) (ci := 6) (v := .int (nI lw)) (C := RX6) (T := TX6) (N := 24) hx hb hts in_X6 hown hK (hR hS) 0 rfl rfl 9 (by decide) hf_114 (fun _ h9 => h9) rfl dX6_count_64 ?_
          exact rt_i hx hb hr hlocks () (by unfold tx_count; simp only [s1_3]; first | rfl | (simp <;> rfl)) hP hD hS dX6_count_67
        · have _ := 0
          by_cases s1_4 : v = 4
          · refine tp_i s1_4 ?_
            refine lv_tableIn (tgt := 68) hx hb dX6_count_1 (by decide) (by decide) rfl (by decide) ?_
            refine lv_aload_n hx hb dX6_count_68 rfl (lv_at hl 0 rfl) ?_
            refine cV_i (As := []) (rest := []) (cr := [(o, .inr (6, [.int (nI n), .ref o1, .ref o2, .ref o3, .ref o4, .int (nI dy), .ref o5, .ref o6, .int (nI ch), .int (nI lw), .int (nI tz), .ref o7, .int (nI at9), .int (nI va9), .int (nI ss), .ref o8, .ref o9, .int (bI im), .ref o10, .ref o11, .ref o12, .ref o13, .ref o14, .ref o15])), (o5, aI cs 21 (tx_nf td))]) (cw1 := []) ⟨hx, hb, hml, hown, hts⟩ (c_X6_changes l D cs _ o o1 o2 o3 o4 o5 o6 o7 o8 o9 o10 o11 o12 o13 o14 o15 n dy ch lw tz at9 va9 ss im td (by first | assumption | omega) (by first | assumption | omega) (by first | assumption | omega)) (cwV 0 hts gX6_count_X6_changes rfl rfl rfl (by decide +kernel) ⟨Nat.le_of_ble_eq_true rfl, Nat.le_of_ble_eq_true rfl⟩) hK hP hD hS hA (((hR hS).app hP).sub [0, 1] rfl) (dt_of hN [0, 1] (by decide) rfl) [] rfl 0 rfl rfl rfl hl.1 rfl (Nat.le_of_ble_eq_true rfl) dX6_count_69 ⟨Nat.le_of_ble_eq_true rfl, Nat.le_of_ble_eq_true rfl⟩ (fun _ => rfl) (fun _ => rfl) (fun r_1 u9 H locs hw_2 hP hD hS => ?_)
            have hP : va_P D vwCl [] H := hP
            have hD : va_D A [] := hD
            subst r_1
            exact rt_i hx hb hr hlocks () (by unfold tx_count; simp only [s1_4]; first | rfl | (simp <;> rfl)) hP hD hS dX6_count_72
          · have _ := 0
            by_cases s1_5 : v = 5
            · refine tp_i s1_5 ?_
              refine lv_tableIn (tgt := 73) hx hb dX6_count_1 (by decide) (by decide) rfl (by decide) ?_
              refine lv_iconst (v := 0) hx hb dX6_count_73 (by decide) ?_
              refine lv_istore_n (lv' := [(2, .int 0), (0, .ref o), (1, .int v)]) hx hb dX6_count_74 rfl hl (by decide) rfl (fun ls hl => ?_)
              refine lv_iconst (v := 0) hx hb dX6_count_75 (by decide) ?_
              refine lv_istore_n (lv' := [(3, .int 0), (2, .int 0), (0, .ref o), (1, .int v)]) hx hb dX6_count_76 rfl hl (by decide) rfl (fun ls hl => ?_)
              have loop77 : ∀ (n9 : Nat) (i : Nat) (ct : Nat) (hi : i ≤ dy) (hc : ct = tx_bd bo i), dy - i < n9 → ∀ (H : Heap) (locs : List Loc), va_P D vwCl [] H → va_D A [] → va_S A s.heap H locs → ∀ (ls : Array Slot), lv_has ls 4 [(0, .ref o), (2, .int (nI ct)), (3, .int (nI i))] → W p l e (headSpec wsX6_count ({ frames := 1, cells := 0, slots := 0, locals := 22 } : Room)).room s m ([.ref o, .int v] : List Value).toArray below meth c H locs 0 0 (MQ below (va_Qi (fun (r : Int32) (u : Unit) => r = tx_count n dy ch lw td bo ss tz rf v) (QB D (fun _ => []) A) A) ([.ref o, .int v] : List Value).toArray s 0 0 A) (F0 m 77 ls []) := by
                intro n9
                induction n9 with
                | zero => intros; omega
                | succ n9 ih77 =>
                  intro i ct hi hc hmu H locs hP hD hS ls hl
                  refine lv_iload_n hx hb dX6_count_77 rfl (lv_at hl 2 rfl) ?_
                  refine lv_aload_n hx hb dX6_count_78 rfl (lv_at hl 0 rfl) ?_
                  refine va_get (D := D) (ci := 6) (v := .int (nI dy)) (C := RX6) (T := TX6) (N := 24) hx hb hts in_X6 hown hK (hR hS) 0 rfl rfl 5 (by decide) hf_78 (fun _ h9 => h9) rfl dX6_count_79 ?_
                  refine bn_ge (a := i) (b := dy) (tgt := 105) hx hb rfl rfl (by omega) (by omega) dX6_count_82 (by decide) (fun c82 => ?_) (fun c82 => ?_)
                  · refine lv_iload_n hx hb dX6_count_105 rfl (lv_at hl 1 rfl) ?_
                    exact rt_i hx hb hr hlocks () (by unfold tx_count; simp only [s1_5]; rw [hc, show i = dy by omega]; first | rfl | (simp <;> rfl)) hP hD hS dX6_count_106
                  · refine lv_aload_n hx hb dX6_count_85 rfl (lv_at hl 0 rfl) ?_
                    refine va_get (D := D) (ci := 6) (v := .ref o6) (C := RX6) (T := TX6) (N := 24) hx hb hts in_X6 hown hK (hR hS) 0 rfl rfl 7 (by decide) hf_25 (fun _ h9 => h9) rfl dX6_count_86 ?_
                    refine lv_iload_n hx hb dX6_count_89 rfl (lv_at hl 2 rfl) ?_
                    refine ia_n (f := tx_bf bo) hx hb hK (hR hS) 2 0 rfl rfl (j := i) rfl (by omega) (by decide) dX6_count_90 ?_
                    refine lv_bipush (v := (-9)) hx hb dX6_count_91 (by decide) ?_
                    refine lv_icmp_eq (tgt := 99) hx hb dX6_count_93 (by decide) (fun c93 => ?_) (fun c93 => ?_)
                    · refine lv_iinc (v := nI (i + 1)) (lv' := [(3, .int (nI (i + 1))), (0, .ref o), (2, .int (nI ct))]) hx hb dX6_count_99 hl (k := 2) rfl (inc_n i 1) (by decide) rfl (fun ls hl => ?_)
                      refine lv_goto (tgt := 77) hx hb dX6_count_102 (by decide) ?_
                      exact ih77 (i + 1) ct (by first | assumption | omega) (by rw [hc, tx_bd, (tx_bf_N hbo i).mp c93]; rfl) (by omega) _ _ hP hD hS ls (lv_sub hl [1, 2, 0] rfl)
                    · refine lv_iinc (v := nI (ct + 1)) (lv' := [(2, .int (nI (ct + 1))), (0, .ref o), (3, .int (nI i))]) hx hb dX6_count_96 hl (k := 1) rfl (inc_n ct 1) (by decide) rfl (fun ls hl => ?_)
                      refine lv_iinc (v := nI (i + 1)) (lv' := [(3, .int (nI (i + 1))), (2, .int (nI (ct + 1))), (0, .ref o)]) hx hb dX6_count_99 hl (k := 2) rfl (inc_n i 1) (by decide) rfl (fun ls hl => ?_)
                      refine lv_goto (tgt := 77) hx hb dX6_count_102 (by decide) ?_
                      exact ih77 (i + 1) (ct + 1) (by first | assumption | omega) (by rw [hc, tx_bd]; cases q : bo i with | none => exact absurd ((tx_bf_N hbo i).mpr q) c93 | some u => rfl) (by omega) _ _ hP hD hS ls (lv_sub hl [2, 1, 0] rfl)
              exact loop77 _ 0 0 (by first | assumption | omega) rfl (Nat.lt_succ_self _) _ _ hP hD hS ls (lv_sub hl [2, 1, 0] rfl)
            · have _ := 0
              by_cases s1_6 : v = 6
              · refine tp_i s1_6 ?_
                refine lv_tableIn (tgt := 107) hx hb dX6_count_1 (by decide) (by decide) rfl (by decide) ?_
                refine lv_aload_n hx hb dX6_count_107 rfl (lv_at hl 0 rfl) ?_
                refine va_get (D := D) (ci := 6) (v := .int (nI ss)) (C := RX6) (T := TX6) (N := 24) hx hb hts in_X6 hown hK (hR hS) 0 rfl rfl 14 (by decide) hf_189 (fun _ h9 => h9) rfl dX6_count_108 ?_
                exact rt_i hx hb hr hlocks () (by unfold tx_count; simp only [s1_6]; first | rfl | (simp <;> rfl)) hP hD hS dX6_count_111
              · have _ := 0
                by_cases s1_7 : v = 7
                · refine tp_i s1_7 ?_
                  refine lv_tableIn (tgt := 112) hx hb dX6_count_1 (by decide) (by decide) rfl (by decide) ?_
                  refine lv_aload_n hx hb dX6_count_112 rfl (lv_at hl 0 rfl) ?_
                  refine va_get (D := D) (ci := 6) (v := .int (nI tz)) (C := RX6) (T := TX6) (N := 24) hx hb hts in_X6 hown hK (hR hS) 0 rfl rfl 10 (by decide) hf_81 (fun _ h9 => h9) rfl dX6_count_113 ?_
                  exact rt_i hx hb hr hlocks () (by unfold tx_count; simp only [s1_7]; first | rfl | (simp <;> rfl)) hP hD hS dX6_count_116
                · have _ := 0
                  refine lv_tableOut (tgt := 117) hx hb dX6_count_1 (by have := lv_neT (a := 0) s1_0 rfl; have := lv_neT (a := 1) s1_1 rfl; have := lv_neT (a := 2) s1_2 rfl; have := lv_neT (a := 3) s1_3 rfl; have := lv_neT (a := 4) s1_4 rfl; have := lv_neT (a := 5) s1_5 rfl; have := lv_neT (a := 6) s1_6 rfl; have := lv_neT (a := 7) s1_7 rfl; omega) (by decide) ?_
                  refine lv_iload_n hx hb dX6_count_117 rfl (lv_at hl 1 rfl) ?_
                  refine lv_bipush (v := 11) hx hb dX6_count_118 (by decide) ?_
                  refine lv_bipush (v := 16) hx hb dX6_count_120 (by decide) ?_
                  refine cS_i (As := [.int v, .int 11, .int 16]) (rest := []) (cr := []) (cw1 := []) ⟨hx, hb, hml, hown, hts⟩ (c_X6_within l D cs _ v 11 16 ) (va_cwS 3 hts gX6_count_X6_within rfl rfl rfl (by decide +kernel) ⟨Nat.le_of_ble_eq_true rfl, Nat.le_of_ble_eq_true rfl⟩) hK hP hD hS hA (((hR hS).app hP).sub [] rfl) (dt_of hN [] (by decide) rfl) [] rfl rfl hl.1 rfl (Nat.le_of_ble_eq_true rfl) dX6_count_122 ⟨Nat.le_of_ble_eq_true rfl, Nat.le_of_ble_eq_true rfl⟩ (fun _ => rfl) (fun _ => rfl) (fun r_3 u9 H locs hw_4 hP hD hS => ?_)
                  have hP : va_P D vwCl [] H := hP
                  have hD : va_D A [] := hD
                  subst r_3
                  refine tp_i (show bI (decide (11 ≤ v) && decide (v ≤ 16)) = bI (decide (11 ≤ v ∧ v ≤ 16)) from by congr 1; exact (Bool.decide_and _ _).symm) ?_
                  refine bd_eq (P := 11 ≤ v ∧ v ≤ 16) (tgt := 140) hx hb rfl dX6_count_125 (by decide) (fun c125 => ?_) (fun c125 => ?_)
                  · refine lv_bipush (v := (-9)) hx hb dX6_count_140 (by decide) ?_
                    exact rt_i hx hb hr hlocks () (by unfold tx_count; rw [if_neg s1_0, if_neg s1_1, if_neg s1_2, if_neg s1_3, if_neg s1_4, if_neg s1_5, if_neg s1_6, if_neg s1_7]; rw [if_neg c125]) hP hD hS dX6_count_142
                  · obtain ⟨j, hj1, hj2, rfl⟩ := tx_has16 (Int32.not_lt.mpr c125.1) (Int32.not_lt.mpr c125.2)
                    have hij : tx_ix (nI j) = j := tx_ix_n (by omega)
                    refine lv_aload_n hx hb dX6_count_128 rfl (lv_at hl 0 rfl) ?_
                    refine va_get (D := D) (ci := 6) (v := .ref o9) (C := RX6) (T := TX6) (N := 24) hx hb hts in_X6 hown hK (hR hS) 0 rfl rfl 16 (by decide) hf_34 (fun _ h9 => h9) rfl dX6_count_129 ?_
                    refine lv_iload_n hx hb dX6_count_132 rfl (lv_at hl 1 rfl) ?_
                    refine lv_bipush (v := 10) hx hb dX6_count_133 (by decide) ?_
                    refine lv_isub hx hb dX6_count_135 ?_
                    refine tp_i (pk_sub (a := j) (b := 10) (by omega)) ?_
                    refine ia_n (f := tx_nf rf) hx hb hK (hR hS) 3 0 rfl rfl (j := j - 10) rfl (by omega) (by decide) dX6_count_136 ?_
                    refine tp_i (y := nI (rf (j - 10))) rfl ?_
                    refine lv_goto (tgt := 142) hx hb dX6_count_137 (by decide) ?_
                    exact rt_i hx hb hr hlocks () (by unfold tx_count; rw [if_neg s1_0, if_neg s1_1, if_neg s1_2, if_neg s1_3, if_neg s1_4, if_neg s1_5, if_neg s1_6, if_neg s1_7]; rw [if_pos c125, hij]) hP hD hS dX6_count_142
