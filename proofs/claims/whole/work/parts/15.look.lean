set_option maxHeartbeats 4000000 in
set_option maxRecDepth 100000 in
theorem c_X1_clear (l : Launch) (D : va_G) (cs : Nat → ClassId) (sz : Nat) (g : Nat) (g0 : Nat) (dd : Nat) (er : Int) (cg : Nat) (x : tx_5)  : mV (S := Unit) l yX1_clear wsX1_clear ({ frames := 0, cells := 0, slots := 0, locals := 0 } : Room) D (tyc cs) sz [.ref g] [] [(g, .inr (1, [.ref g0, .int (nI dd), .int (iI er), .int (nI cg), .int (nI x.1), .int (nI x.2.1), .int (nI x.2.2.1), .int (nI x.2.2.2.1), .int (nI x.2.2.2.2)]))] (fun (u : Unit) => True) (fun _ => [(g, .inr (1, [.ref g0, .int (nI dd), .int (iI 0), .int (nI 0), .int (nI (((0, 0, 0, 0, 0) : tx_5).1)), .int (nI (((0, 0, 0, 0, 0) : tx_5).2.1)), .int (nI (((0, 0, 0, 0, 0) : tx_5).2.2.1)), .int (nI (((0, 0, 0, 0, 0) : tx_5).2.2.2.1)), .int (nI (((0, 0, 0, 0, 0) : tx_5).2.2.2.2))]))]) 0 0 := by
  unfold mV
  refine Met.ofW (cc := cX1_clear) (maxL := 1) (ret := none) (by decide) rfl ?_
  intro p e s m args below meth c s₁ B hml hv
  obtain ⟨rfl, hsz, hP, hK, hD0⟩ := hv
  have hx := B.exec
  have hb := B.bytes
  have hr := B.returns
  have hts := atoms_spec (ws := wsX1_clear) B.pre
  have hown : s.vm.findClass RX1 = some m.cls := findClass_of_methodNamed B.named
  have hlocks := B.notSynchronized
  subst hsz
  have hR := @en_R _ _ _ [] [(g, .inr (1, [.ref g0, .int (nI dd), .int (iI er), .int (nI cg), .int (nI x.1), .int (nI x.2.1), .int (nI x.2.2.1), .int (nI x.2.2.2.1), .int (nI x.2.2.2.2)]))] _ hP hD0
  have hN := adN_of hD0
  have hD := en_D (wr := []) (ww := [(g, .inr (1, [.ref g0, .int (nI dd), .int (iI er), .int (nI cg), .int (nI x.1), .int (nI x.2.1), .int (nI x.2.2.1), .int (nI x.2.2.2.1), .int (nI x.2.2.2.2)]))]) (sz := s.heap.size) hD0
  have hP := en_P (wr := []) (ww := [(g, .inr (1, [.ref g0, .int (nI dd), .int (iI er), .int (nI cg), .int (nI x.1), .int (nI x.2.1), .int (nI x.2.2.1), .int (nI x.2.2.2.1), .int (nI x.2.2.2.2)]))]) hP
  generalize hAe : va_A [(g, .inr (1, [.ref g0, .int (nI dd), .int (iI er), .int (nI cg), .int (nI x.1), .int (nI x.2.1), .int (nI x.2.2.1), .int (nI x.2.2.2.1), .int (nI x.2.2.2.2)]))] s.heap.size = A at hD hR ⊢
  have hA : ∀ q : Nat, s.heap.size ≤ q → A q := fun q h => by rw [← hAe]; exact Or.inr h
  have hS : va_S A s.heap s.heap [] := va_S.rf
  have hN : adN [g] := hN
  have hf_19 := hts (.fieldLink RX1 19 "TaxedByLongest$Look" "earnings" "I") (by decide +kernel)
  have hf_22 := hts (.fieldLink RX1 22 "TaxedByLongest$Look" "changes" "I") (by decide +kernel)
  have hf_25 := hts (.fieldLink RX1 25 "TaxedByLongest$Look" "counted" "I") (by decide +kernel)
  have hf_28 := hts (.fieldLink RX1 28 "TaxedByLongest$Look" "longest" "I") (by decide +kernel)
  have hf_31 := hts (.fieldLink RX1 31 "TaxedByLongest$Look" "second" "I") (by decide +kernel)
  have hf_34 := hts (.fieldLink RX1 34 "TaxedByLongest$Look" "shortest" "I") (by decide +kernel)
  have hf_37 := hts (.fieldLink RX1 37 "TaxedByLongest$Look" "squares" "I") (by decide +kernel)
  have in_X1 : ∀ w ∈ wsX10, w ∈ wsX1_clear := by decide +kernel
  have hl := lv_entry ([.ref g]) (n := 1) (Nat.le_of_ble_eq_true rfl)
  rw [lg_entry_eq]
  generalize (lg_sl ([.ref g]) ++ List.replicate (1 - (lg_sl ([.ref g])).length) Slot.unset).toArray = ls at hl ⊢
  have hl : lv_has ls 1 [(0, .ref g)] := hl
  refine lv_aload_n hx hb dX1_clear_0 rfl (lv_at hl 0 rfl) ?_
  refine lv_iconst (v := 0) hx hb dX1_clear_1 (by decide) ?_
  refine va_put (D := D) (ci := 1) (v := .int 0) (ty := .int) (C := RX1) (T := TX1) (N := 9) hx hb hts in_X1 tyX1 tyX1_ok nmX1 hown hK hP hD hS 0 rfl rfl 2 (by decide) hf_19 (fun _ h9 => h9) rfl (by decide +kernel) rfl rfl (Nat.le_of_ble_eq_true rfl) dX1_clear_2 (fun H locs hP hD hS => ?_)
  have hP : va_P D vwCl [(g, .inr (1, [.ref g0, .int (nI dd), .int 0, .int (nI cg), .int (nI x.1), .int (nI x.2.1), .int (nI x.2.2.1), .int (nI x.2.2.2.1), .int (nI x.2.2.2.2)]))] H := hP
  have hD : va_D A [(g, .inr (1, [.ref g0, .int (nI dd), .int 0, .int (nI cg), .int (nI x.1), .int (nI x.2.1), .int (nI x.2.2.1), .int (nI x.2.2.2.1), .int (nI x.2.2.2.2)]))] := hD
  refine lv_aload_n hx hb dX1_clear_5 rfl (lv_at hl 0 rfl) ?_
  refine lv_iconst (v := 0) hx hb dX1_clear_6 (by decide) ?_
  refine va_put (D := D) (ci := 1) (v := .int 0) (ty := .int) (C := RX1) (T := TX1) (N := 9) hx hb hts in_X1 tyX1 tyX1_ok nmX1 hown hK hP hD hS 0 rfl rfl 3 (by decide) hf_22 (fun _ h9 => h9) rfl (by decide +kernel) rfl rfl (Nat.le_of_ble_eq_true rfl) dX1_clear_7 (fun H locs hP hD hS => ?_)
  have hP : va_P D vwCl [(g, .inr (1, [.ref g0, .int (nI dd), .int 0, .int 0, .int (nI x.1), .int (nI x.2.1), .int (nI x.2.2.1), .int (nI x.2.2.2.1), .int (nI x.2.2.2.2)]))] H := hP
  have hD : va_D A [(g, .inr (1, [.ref g0, .int (nI dd), .int 0, .int 0, .int (nI x.1), .int (nI x.2.1), .int (nI x.2.2.1), .int (nI x.2.2.2.1), .int (nI x.2.2.2.2)]))] := hD
  refine lv_aload_n hx hb dX1_clear_10 rfl (lv_at hl 0 rfl) ?_
  refine lv_iconst (v := 0) hx hb dX1_clear_11 (by decide) ?_
  refine va_put (D := D) (ci := 1) (v := .int 0) (ty := .int) (C := RX1) (T := TX1) (N := 9) hx hb hts in_X1 tyX1 tyX1_ok nmX1 hown hK hP hD hS 0 rfl rfl 4 (by decide) hf_25 (fun _ h9 => h9) rfl (by decide +kernel) rfl rfl (Nat.le_of_ble_eq_true rfl) dX1_clear_12 (fun H locs hP hD hS => ?_)
  have hP : va_P D vwCl [(g, .inr (1, [.ref g0, .int (nI dd), .int 0, .int 0, .int 0, .int (nI x.2.1), .int (nI x.2.2.1), .int (nI x.2.2.2.1), .int (nI x.2.2.2.2)]))] H := hP
  have hD : va_D A [(g, .inr (1, [.ref g0, .int (nI dd), .int 0, .int 0, .int 0, .int (nI x.2.1), .int (nI x.2.2.1), .int (nI x.2.2.2.1), .int (nI x.2.2.2.2)]))] := hD
  refine lv_aload_n hx hb dX1_clear_15 rfl (lv_at hl 0 rfl) ?_
  refine lv_iconst (v := 0) hx hb dX1_clear_16 (by decide) ?_
  refine va_put (D := D) (ci := 1) (v := .int 0) (ty := .int) (C := RX1) (T := TX1) (N := 9) hx hb hts in_X1 tyX1 tyX1_ok nmX1 hown hK hP hD hS 0 rfl rfl 5 (by decide) hf_28 (fun _ h9 => h9) rfl (by decide +kernel) rfl rfl (Nat.le_of_ble_eq_true rfl) dX1_clear_17 (fun H locs hP hD hS => ?_)
  have hP : va_P D vwCl [(g, .inr (1, [.ref g0, .int (nI dd), .int 0, .int 0, .int 0, .int 0, .int (nI x.2.2.1), .int (nI x.2.2.2.1), .int (nI x.2.2.2.2)]))] H := hP
  have hD : va_D A [(g, .inr (1, [.ref g0, .int (nI dd), .int 0, .int 0, .int 0, .int 0, .int (nI x.2.2.1), .int (nI x.2.2.2.1), .int (nI x.2.2.2.2)]))] := hD
  refine lv_aload_n hx hb dX1_clear_20 rfl (lv_at hl 0 rfl) ?_
  refine lv_iconst (v := 0) hx hb dX1_clear_21 (by decide) ?_
  refine va_put (D := D) (ci := 1) (v := .int 0) (ty := .int) (C := RX1) (T := TX1) (N := 9) hx hb hts in_X1 tyX1 tyX1_ok nmX1 hown hK hP hD hS 0 rfl rfl 6 (by decide) hf_31 (fun _ h9 => h9) rfl (by decide +kernel) rfl rfl (Nat.le_of_ble_eq_true rfl) dX1_clear_22 (fun H locs hP hD hS => ?_)
  have hP : va_P D vwCl [(g, .inr (1, [.ref g0, .int (nI dd), .int 0, .int 0, .int 0, .int 0, .int 0, .int (nI x.2.2.2.1), .int (nI x.2.2.2.2)]))] H := hP
  have hD : va_D A [(g, .inr (1, [.ref g0, .int (nI dd), .int 0, .int 0, .int 0, .int 0, .int 0, .int (nI x.2.2.2.1), .int (nI x.2.2.2.2)]))] := hD
  refine lv_aload_n hx hb dX1_clear_25 rfl (lv_at hl 0 rfl) ?_
  refine lv_iconst (v := 0) hx hb dX1_clear_26 (by decide) ?_
  refine va_put (D := D) (ci := 1) (v := .int 0) (ty := .int) (C := RX1) (T := TX1) (N := 9) hx hb hts in_X1 tyX1 tyX1_ok nmX1 hown hK hP hD hS 0 rfl rfl 7 (by decide) hf_34 (fun _ h9 => h9) rfl (by decide +kernel) rfl rfl (Nat.le_of_ble_eq_true rfl) dX1_clear_27 (fun H locs hP hD hS => ?_)
  have hP : va_P D vwCl [(g, .inr (1, [.ref g0, .int (nI dd), .int 0, .int 0, .int 0, .int 0, .int 0, .int 0, .int (nI x.2.2.2.2)]))] H := hP
  have hD : va_D A [(g, .inr (1, [.ref g0, .int (nI dd), .int 0, .int 0, .int 0, .int 0, .int 0, .int 0, .int (nI x.2.2.2.2)]))] := hD
  refine lv_aload_n hx hb dX1_clear_30 rfl (lv_at hl 0 rfl) ?_
  refine lv_iconst (v := 0) hx hb dX1_clear_31 (by decide) ?_
  refine va_put (D := D) (ci := 1) (v := .int 0) (ty := .int) (C := RX1) (T := TX1) (N := 9) hx hb hts in_X1 tyX1 tyX1_ok nmX1 hown hK hP hD hS 0 rfl rfl 8 (by decide) hf_37 (fun _ h9 => h9) rfl (by decide +kernel) rfl rfl (Nat.le_of_ble_eq_true rfl) dX1_clear_32 (fun H locs hP hD hS => ?_)
  have hP : va_P D vwCl [(g, .inr (1, [.ref g0, .int (nI dd), .int 0, .int 0, .int 0, .int 0, .int 0, .int 0, .int 0]))] H := hP
  have hD : va_D A [(g, .inr (1, [.ref g0, .int (nI dd), .int 0, .int 0, .int 0, .int 0, .int 0, .int 0, .int 0]))] := hD
  exact rt_v hx hb hr hlocks () (trivial) hP hD hS dX1_clear_35
set_option maxHeartbeats 4000000 in
set_option maxRecDepth 100000 in
theorem c_X1_endStretch (l : Launch) (D : va_G) (cs : Nat → ClassId) (sz : Nat) (g : Nat) (g0 : Nat) (dd : Nat) (er : Int) (cg : Nat) (x : tx_5) (h : Nat) (k0 : Nat) (k1 : Nat) (k2 : Nat) (k3 : Nat) (k4 : Nat) (k5 : Nat) (n : Nat) (dy : Nat) (ch : Nat) (lw : Nat) (kd : Nat → Nat) (t : Nat) (k : Nat) (hn : n ≤ 4) (ht : t < 4) (hkd : ∀ e, kd e ≤ 5) (hk : k ≤ 100) (hx1 : x.1 ≤ 100) (hx2 : x.2.1 ≤ 100) (hx3 : x.2.2.1 ≤ 100) (hx4 : x.2.2.2.1 ≤ 100) : mV (S := Unit) l yX1_endStretch wsX1_endStretch ({ frames := 2, cells := 0, slots := 0, locals := 42 } : Room) D (tyc cs) sz [.ref g, .ref h, .int (nI t), .int (nI k)] [(h, .inr (4, [.ref k0, .ref k1, .ref k2, .ref k3, .ref k4, .ref k5, .int (nI n), .int (nI dy), .int (nI ch), .int (nI lw)])), (k0, aI cs 4 (tx_nf kd))] [(g, .inr (1, [.ref g0, .int (nI dd), .int (iI er), .int (nI cg), .int (nI x.1), .int (nI x.2.1), .int (nI x.2.2.1), .int (nI x.2.2.2.1), .int (nI x.2.2.2.2)]))] (fun (u : Unit) => True) (fun _ => [(g, .inr (1, [.ref g0, .int (nI dd), .int (iI er), .int (nI cg), .int (nI ((tx_en (tx_tx n kd t) k x).1)), .int (nI ((tx_en (tx_tx n kd t) k x).2.1)), .int (nI ((tx_en (tx_tx n kd t) k x).2.2.1)), .int (nI ((tx_en (tx_tx n kd t) k x).2.2.2.1)), .int (nI ((tx_en (tx_tx n kd t) k x).2.2.2.2))]))]) 0 0 := by
  unfold mV
  refine Met.ofW (cc := cX1_endStretch) (maxL := 4) (ret := none) (by decide) rfl ?_
  intro p e s m args below meth c s₁ B hml hv
  obtain ⟨rfl, hsz, hP, hK, hD0⟩ := hv
  have hx := B.exec
  have hb := B.bytes
  have hr := B.returns
  have hts := atoms_spec (ws := wsX1_endStretch) B.pre
  have hown : s.vm.findClass RX1 = some m.cls := findClass_of_methodNamed B.named
  have hlocks := B.notSynchronized
  subst hsz
  have hR := @en_R _ _ _ [(h, .inr (4, [.ref k0, .ref k1, .ref k2, .ref k3, .ref k4, .ref k5, .int (nI n), .int (nI dy), .int (nI ch), .int (nI lw)])), (k0, aI cs 4 (tx_nf kd))] [(g, .inr (1, [.ref g0, .int (nI dd), .int (iI er), .int (nI cg), .int (nI x.1), .int (nI x.2.1), .int (nI x.2.2.1), .int (nI x.2.2.2.1), .int (nI x.2.2.2.2)]))] _ hP hD0
  have hN := adN_of hD0
  have hD := en_D (wr := [(h, .inr (4, [.ref k0, .ref k1, .ref k2, .ref k3, .ref k4, .ref k5, .int (nI n), .int (nI dy), .int (nI ch), .int (nI lw)])), (k0, aI cs 4 (tx_nf kd))]) (ww := [(g, .inr (1, [.ref g0, .int (nI dd), .int (iI er), .int (nI cg), .int (nI x.1), .int (nI x.2.1), .int (nI x.2.2.1), .int (nI x.2.2.2.1), .int (nI x.2.2.2.2)]))]) (sz := s.heap.size) hD0
  have hP := en_P (wr := [(h, .inr (4, [.ref k0, .ref k1, .ref k2, .ref k3, .ref k4, .ref k5, .int (nI n), .int (nI dy), .int (nI ch), .int (nI lw)])), (k0, aI cs 4 (tx_nf kd))]) (ww := [(g, .inr (1, [.ref g0, .int (nI dd), .int (iI er), .int (nI cg), .int (nI x.1), .int (nI x.2.1), .int (nI x.2.2.1), .int (nI x.2.2.2.1), .int (nI x.2.2.2.2)]))]) hP
  generalize hAe : va_A [(g, .inr (1, [.ref g0, .int (nI dd), .int (iI er), .int (nI cg), .int (nI x.1), .int (nI x.2.1), .int (nI x.2.2.1), .int (nI x.2.2.2.1), .int (nI x.2.2.2.2)]))] s.heap.size = A at hD hR ⊢
  have hA : ∀ q : Nat, s.heap.size ≤ q → A q := fun q h => by rw [← hAe]; exact Or.inr h
  have hS : va_S A s.heap s.heap [] := va_S.rf
  have hN : adN [h, k0, g] := hN
  have hf_25 := hts (.fieldLink RX1 25 "TaxedByLongest$Look" "counted" "I") (by decide +kernel)
  have hf_28 := hts (.fieldLink RX1 28 "TaxedByLongest$Look" "longest" "I") (by decide +kernel)
  have hf_31 := hts (.fieldLink RX1 31 "TaxedByLongest$Look" "second" "I") (by decide +kernel)
  have hf_34 := hts (.fieldLink RX1 34 "TaxedByLongest$Look" "shortest" "I") (by decide +kernel)
  have hf_37 := hts (.fieldLink RX1 37 "TaxedByLongest$Look" "squares" "I") (by decide +kernel)
  have in_X1 : ∀ w ∈ wsX10, w ∈ wsX1_endStretch := by decide +kernel
  have hl := lv_entry ([.ref g, .ref h, .int (nI t), .int (nI k)]) (n := 4) (Nat.le_of_ble_eq_true rfl)
  rw [lg_entry_eq]
  generalize (lg_sl ([.ref g, .ref h, .int (nI t), .int (nI k)]) ++ List.replicate (4 - (lg_sl ([.ref g, .ref h, .int (nI t), .int (nI k)])).length) Slot.unset).toArray = ls at hl ⊢
  have hl : lv_has ls 4 [(0, .ref g), (1, .ref h), (2, .int (nI t)), (3, .int (nI k))] := hl
  refine lv_aload_n hx hb dX1_endStretch_0 rfl (lv_at hl 1 rfl) ?_
  refine lv_iload_n hx hb dX1_endStretch_1 rfl (lv_at hl 2 rfl) ?_
  refine cV_i (As := [.int (nI t)]) (rest := []) (cr := [(h, .inr (4, [.ref k0, .ref k1, .ref k2, .ref k3, .ref k4, .ref k5, .int (nI n), .int (nI dy), .int (nI ch), .int (nI lw)])), (k0, aI cs 4 (tx_nf kd))]) (cw1 := []) ⟨hx, hb, hml, hown, hts⟩ (c_X4_isTaxed l D cs _ h k0 k1 k2 k3 k4 k5 n dy ch lw kd t (by first | assumption | omega) (by first | assumption | omega) (by first | assumption | omega)) (cwV 1 hts gX1_endStretch_X4_isTaxed rfl rfl rfl (by decide +kernel) ⟨Nat.le_of_ble_eq_true rfl, Nat.le_of_ble_eq_true rfl⟩) hK hP hD hS hA (((hR hS).app hP).sub [0, 1] rfl) (dt_of hN [0, 1] (by decide) rfl) [] rfl 0 rfl rfl rfl hl.1 rfl (Nat.le_of_ble_eq_true rfl) dX1_endStretch_2 ⟨Nat.le_of_ble_eq_true rfl, Nat.le_of_ble_eq_true rfl⟩ (fun _ => rfl) (fun _ => rfl) (fun r_1 u9 H locs hw_2 hP hD hS => ?_)
  have hP : va_P D vwCl [(g, .inr (1, [.ref g0, .int (nI dd), .int (iI er), .int (nI cg), .int (nI x.1), .int (nI x.2.1), .int (nI x.2.2.1), .int (nI x.2.2.2.1), .int (nI x.2.2.2.2)]))] H := hP
  have hD : va_D A [(g, .inr (1, [.ref g0, .int (nI dd), .int (iI er), .int (nI cg), .int (nI x.1), .int (nI x.2.1), .int (nI x.2.2.1), .int (nI x.2.2.2.1), .int (nI x.2.2.2.2)]))] := hD
  subst r_1
  refine bb_ne (b := tx_tx n kd t) (tgt := 9) hx hb rfl dX1_endStretch_5 (by decide) (fun c5 => ?_) (fun c5 => ?_)
  · refine lv_aload_n hx hb dX1_endStretch_9 rfl (lv_at hl 0 rfl) ?_
    refine lv_aload_n hx hb dX1_endStretch_10 rfl (lv_at hl 0 rfl) ?_
    refine va_get (D := D) (ci := 1) (v := .int (nI x.1)) (C := RX1) (T := TX1) (N := 9) hx hb hts in_X1 hown hK hP 0 rfl rfl 4 (by decide) hf_25 (fun _ h9 => h9) rfl dX1_endStretch_11 ?_
    refine bz_ne (a := x.1) (tgt := 21) hx hb rfl (by omega) dX1_endStretch_14 (by decide) (fun c14 => ?_) (fun c14 => ?_)
    · refine lv_aload_n hx hb dX1_endStretch_21 rfl (lv_at hl 0 rfl) ?_
      refine va_get (D := D) (ci := 1) (v := .int (nI x.2.2.2.1)) (C := RX1) (T := TX1) (N := 9) hx hb hts in_X1 hown hK hP 0 rfl rfl 7 (by decide) hf_34 (fun _ h9 => h9) rfl dX1_endStretch_22 ?_
      refine lv_iload_n hx hb dX1_endStretch_25 rfl (lv_at hl 3 rfl) ?_
      refine va_mmin hx hb (hml.trans hl.1.symm) hown (hts (.methodLink RX1 77 Lib.Math.min.name) (by decide +kernel)) (hts (.static Lib.Math.min.name) (by decide +kernel)) (hts (.initialized "java/lang/Math") (by decide +kernel)) (hts (.code Lib.Math.min.name Lib.Math.min.code 2 (some .int)) (by decide +kernel)) (Nat.le_of_ble_eq_true rfl) (Nat.le_of_ble_eq_true rfl) (Nat.le_of_ble_eq_true rfl) (Nat.le_of_ble_eq_true rfl) dX1_endStretch_26 ?_
      refine tp_i (min_n (a := x.2.2.2.1) (b := k) rfl rfl (by omega) (by omega)) ?_
      refine va_put (D := D) (ci := 1) (v := .int (nI (min x.2.2.2.1 k))) (ty := .int) (C := RX1) (T := TX1) (N := 9) hx hb hts in_X1 tyX1 tyX1_ok nmX1 hown hK hP hD hS 0 rfl rfl 7 (by decide) hf_34 (fun _ h9 => h9) rfl (by decide +kernel) rfl rfl (Nat.le_of_ble_eq_true rfl) dX1_endStretch_29 (fun H locs hP hD hS => ?_)
      have hP : va_P D vwCl [(g, .inr (1, [.ref g0, .int (nI dd), .int (iI er), .int (nI cg), .int (nI x.1), .int (nI x.2.1), .int (nI x.2.2.1), .int (nI (min x.2.2.2.1 k)), .int (nI x.2.2.2.2)]))] H := hP
      have hD : va_D A [(g, .inr (1, [.ref g0, .int (nI dd), .int (iI er), .int (nI cg), .int (nI x.1), .int (nI x.2.1), .int (nI x.2.2.1), .int (nI (min x.2.2.2.1 k)), .int (nI x.2.2.2.2)]))] := hD
      refine lv_aload_n hx hb dX1_endStretch_32 rfl (lv_at hl 0 rfl) ?_
      refine lv_dup hx hb dX1_endStretch_33 rfl ?_
      refine va_get (D := D) (ci := 1) (v := .int (nI x.1)) (C := RX1) (T := TX1) (N := 9) hx hb hts in_X1 hown hK hP 0 rfl rfl 4 (by decide) hf_25 (fun _ h9 => h9) rfl dX1_endStretch_34 ?_
      refine lv_iconst (v := 1) hx hb dX1_endStretch_37 (by decide) ?_
      refine lv_iadd hx hb dX1_endStretch_38 ?_
      refine tp_i (nI_add x.1 1) ?_
      refine va_put (D := D) (ci := 1) (v := .int (nI (x.1 + 1))) (ty := .int) (C := RX1) (T := TX1) (N := 9) hx hb hts in_X1 tyX1 tyX1_ok nmX1 hown hK hP hD hS 0 rfl rfl 4 (by decide) hf_25 (fun _ h9 => h9) rfl (by decide +kernel) rfl rfl (Nat.le_of_ble_eq_true rfl) dX1_endStretch_39 (fun H locs hP hD hS => ?_)
      have hP : va_P D vwCl [(g, .inr (1, [.ref g0, .int (nI dd), .int (iI er), .int (nI cg), .int (nI (x.1 + 1)), .int (nI x.2.1), .int (nI x.2.2.1), .int (nI (min x.2.2.2.1 k)), .int (nI x.2.2.2.2)]))] H := hP
      have hD : va_D A [(g, .inr (1, [.ref g0, .int (nI dd), .int (iI er), .int (nI cg), .int (nI (x.1 + 1)), .int (nI x.2.1), .int (nI x.2.2.1), .int (nI (min x.2.2.2.1 k)), .int (nI x.2.2.2.2)]))] := hD
      refine lv_aload_n hx hb dX1_endStretch_42 rfl (lv_at hl 0 rfl) ?_
      refine lv_dup hx hb dX1_endStretch_43 rfl ?_
      refine va_get (D := D) (ci := 1) (v := .int (nI x.2.2.2.2)) (C := RX1) (T := TX1) (N := 9) hx hb hts in_X1 hown hK hP 0 rfl rfl 8 (by decide) hf_37 (fun _ h9 => h9) rfl dX1_endStretch_44 ?_
      refine lv_iload_n hx hb dX1_endStretch_47 rfl (lv_at hl 3 rfl) ?_
      refine lv_iload_n hx hb dX1_endStretch_48 rfl (lv_at hl 3 rfl) ?_
      refine lv_imul hx hb dX1_endStretch_49 ?_
      refine tp_i (pk_mul k k) ?_
      refine lv_iadd hx hb dX1_endStretch_50 ?_
      refine tp_i (nI_add x.2.2.2.2 (k * k)) ?_
      refine va_put (D := D) (ci := 1) (v := .int (nI (x.2.2.2.2 + (k * k)))) (ty := .int) (C := RX1) (T := TX1) (N := 9) hx hb hts in_X1 tyX1 tyX1_ok nmX1 hown hK hP hD hS 0 rfl rfl 8 (by decide) hf_37 (fun _ h9 => h9) rfl (by decide +kernel) rfl rfl (Nat.le_of_ble_eq_true rfl) dX1_endStretch_51 (fun H locs hP hD hS => ?_)
      have hP : va_P D vwCl [(g, .inr (1, [.ref g0, .int (nI dd), .int (iI er), .int (nI cg), .int (nI (x.1 + 1)), .int (nI x.2.1), .int (nI x.2.2.1), .int (nI (min x.2.2.2.1 k)), .int (nI (x.2.2.2.2 + (k * k)))]))] H := hP
      have hD : va_D A [(g, .inr (1, [.ref g0, .int (nI dd), .int (iI er), .int (nI cg), .int (nI (x.1 + 1)), .int (nI x.2.1), .int (nI x.2.2.1), .int (nI (min x.2.2.2.1 k)), .int (nI (x.2.2.2.2 + (k * k)))]))] := hD
      refine lv_iload_n hx hb dX1_endStretch_54 rfl (lv_at hl 3 rfl) ?_
      refine lv_aload_n hx hb dX1_endStretch_55 rfl (lv_at hl 0 rfl) ?_
      refine va_get (D := D) (ci := 1) (v := .int (nI x.2.1)) (C := RX1) (T := TX1) (N := 9) hx hb hts in_X1 hown hK hP 0 rfl rfl 5 (by decide) hf_28 (fun _ h9 => h9) rfl dX1_endStretch_56 ?_
      refine bn_le (a := k) (b := x.2.1) (tgt := 78) hx hb rfl rfl (by omega) (by omega) dX1_endStretch_59 (by decide) (fun c59 => ?_) (fun c59 => ?_)
      · refine lv_iload_n hx hb dX1_endStretch_78 rfl (lv_at hl 3 rfl) ?_
        refine lv_aload_n hx hb dX1_endStretch_79 rfl (lv_at hl 0 rfl) ?_
        refine va_get (D := D) (ci := 1) (v := .int (nI x.2.2.1)) (C := RX1) (T := TX1) (N := 9) hx hb hts in_X1 hown hK hP 0 rfl rfl 6 (by decide) hf_31 (fun _ h9 => h9) rfl dX1_endStretch_80 ?_
        refine bn_le (a := k) (b := x.2.2.1) (tgt := 91) hx hb rfl rfl (by omega) (by omega) dX1_endStretch_83 (by decide) (fun c83 => ?_) (fun c83 => ?_)
        · have e9 : tx_en (tx_tx n kd t) k x = (x.1 + 1, x.2.1, x.2.2.1, min x.2.2.2.1 k, x.2.2.2.2 + (k * k)) := by simp [tx_en, c5, Nat.pos_iff_ne_zero.mp c14, Nat.not_lt.mpr c59, Nat.not_lt.mpr c83]
          have hP : va_P D vwCl [(g, .inr (1, [.ref g0, .int (nI dd), .int (iI er), .int (nI cg), .int (nI ((tx_en (tx_tx n kd t) k x).1)), .int (nI ((tx_en (tx_tx n kd t) k x).2.1)), .int (nI ((tx_en (tx_tx n kd t) k x).2.2.1)), .int (nI ((tx_en (tx_tx n kd t) k x).2.2.2.1)), .int (nI ((tx_en (tx_tx n kd t) k x).2.2.2.2))]))] H := by rw [e9]; exact hP
          have hD : va_D A [(g, .inr (1, [.ref g0, .int (nI dd), .int (iI er), .int (nI cg), .int (nI ((tx_en (tx_tx n kd t) k x).1)), .int (nI ((tx_en (tx_tx n kd t) k x).2.1)), .int (nI ((tx_en (tx_tx n kd t) k x).2.2.1)), .int (nI ((tx_en (tx_tx n kd t) k x).2.2.2.1)), .int (nI ((tx_en (tx_tx n kd t) k x).2.2.2.2))]))] := by rw [e9]; exact hD
          exact rt_v hx hb hr hlocks () (trivial) hP hD hS dX1_endStretch_91
        · refine lv_aload_n hx hb dX1_endStretch_86 rfl (lv_at hl 0 rfl) ?_
          refine lv_iload_n hx hb dX1_endStretch_87 rfl (lv_at hl 3 rfl) ?_
          refine va_put (D := D) (ci := 1) (v := .int (nI k)) (ty := .int) (C := RX1) (T := TX1) (N := 9) hx hb hts in_X1 tyX1 tyX1_ok nmX1 hown hK hP hD hS 0 rfl rfl 6 (by decide) hf_31 (fun _ h9 => h9) rfl (by decide +kernel) rfl rfl (Nat.le_of_ble_eq_true rfl) dX1_endStretch_88 (fun H locs hP hD hS => ?_)
          have hP : va_P D vwCl [(g, .inr (1, [.ref g0, .int (nI dd), .int (iI er), .int (nI cg), .int (nI (x.1 + 1)), .int (nI x.2.1), .int (nI k), .int (nI (min x.2.2.2.1 k)), .int (nI (x.2.2.2.2 + (k * k)))]))] H := hP
          have hD : va_D A [(g, .inr (1, [.ref g0, .int (nI dd), .int (iI er), .int (nI cg), .int (nI (x.1 + 1)), .int (nI x.2.1), .int (nI k), .int (nI (min x.2.2.2.1 k)), .int (nI (x.2.2.2.2 + (k * k)))]))] := hD
          have e9 : tx_en (tx_tx n kd t) k x = (x.1 + 1, x.2.1, k, min x.2.2.2.1 k, x.2.2.2.2 + (k * k)) := by simp [tx_en, c5, Nat.pos_iff_ne_zero.mp c14, Nat.not_lt.mpr c59, c83]
          have hP : va_P D vwCl [(g, .inr (1, [.ref g0, .int (nI dd), .int (iI er), .int (nI cg), .int (nI ((tx_en (tx_tx n kd t) k x).1)), .int (nI ((tx_en (tx_tx n kd t) k x).2.1)), .int (nI ((tx_en (tx_tx n kd t) k x).2.2.1)), .int (nI ((tx_en (tx_tx n kd t) k x).2.2.2.1)), .int (nI ((tx_en (tx_tx n kd t) k x).2.2.2.2))]))] H := by rw [e9]; exact hP
          have hD : va_D A [(g, .inr (1, [.ref g0, .int (nI dd), .int (iI er), .int (nI cg), .int (nI ((tx_en (tx_tx n kd t) k x).1)), .int (nI ((tx_en (tx_tx n kd t) k x).2.1)), .int (nI ((tx_en (tx_tx n kd t) k x).2.2.1)), .int (nI ((tx_en (tx_tx n kd t) k x).2.2.2.1)), .int (nI ((tx_en (tx_tx n kd t) k x).2.2.2.2))]))] := by rw [e9]; exact hD
          exact rt_v hx hb hr hlocks () (trivial) hP hD hS dX1_endStretch_91
      · refine lv_aload_n hx hb dX1_endStretch_62 rfl (lv_at hl 0 rfl) ?_
        refine lv_aload_n hx hb dX1_endStretch_63 rfl (lv_at hl 0 rfl) ?_
        refine va_get (D := D) (ci := 1) (v := .int (nI x.2.1)) (C := RX1) (T := TX1) (N := 9) hx hb hts in_X1 hown hK hP 0 rfl rfl 5 (by decide) hf_28 (fun _ h9 => h9) rfl dX1_endStretch_64 ?_
        refine va_put (D := D) (ci := 1) (v := .int (nI x.2.1)) (ty := .int) (C := RX1) (T := TX1) (N := 9) hx hb hts in_X1 tyX1 tyX1_ok nmX1 hown hK hP hD hS 0 rfl rfl 6 (by decide) hf_31 (fun _ h9 => h9) rfl (by decide +kernel) rfl rfl (Nat.le_of_ble_eq_true rfl) dX1_endStretch_67 (fun H locs hP hD hS => ?_)
        have hP : va_P D vwCl [(g, .inr (1, [.ref g0, .int (nI dd), .int (iI er), .int (nI cg), .int (nI (x.1 + 1)), .int (nI x.2.1), .int (nI x.2.1), .int (nI (min x.2.2.2.1 k)), .int (nI (x.2.2.2.2 + (k * k)))]))] H := hP
        have hD : va_D A [(g, .inr (1, [.ref g0, .int (nI dd), .int (iI er), .int (nI cg), .int (nI (x.1 + 1)), .int (nI x.2.1), .int (nI x.2.1), .int (nI (min x.2.2.2.1 k)), .int (nI (x.2.2.2.2 + (k * k)))]))] := hD
        refine lv_aload_n hx hb dX1_endStretch_70 rfl (lv_at hl 0 rfl) ?_
        refine lv_iload_n hx hb dX1_endStretch_71 rfl (lv_at hl 3 rfl) ?_
        refine va_put (D := D) (ci := 1) (v := .int (nI k)) (ty := .int) (C := RX1) (T := TX1) (N := 9) hx hb hts in_X1 tyX1 tyX1_ok nmX1 hown hK hP hD hS 0 rfl rfl 5 (by decide) hf_28 (fun _ h9 => h9) rfl (by decide +kernel) rfl rfl (Nat.le_of_ble_eq_true rfl) dX1_endStretch_72 (fun H locs hP hD hS => ?_)
        have hP : va_P D vwCl [(g, .inr (1, [.ref g0, .int (nI dd), .int (iI er), .int (nI cg), .int (nI (x.1 + 1)), .int (nI k), .int (nI x.2.1), .int (nI (min x.2.2.2.1 k)), .int (nI (x.2.2.2.2 + (k * k)))]))] H := hP
        have hD : va_D A [(g, .inr (1, [.ref g0, .int (nI dd), .int (iI er), .int (nI cg), .int (nI (x.1 + 1)), .int (nI k), .int (nI x.2.1), .int (nI (min x.2.2.2.1 k)), .int (nI (x.2.2.2.2 + (k * k)))]))] := hD
        refine lv_goto (tgt := 91) hx hb dX1_endStretch_75 (by decide) ?_
        have e9 : tx_en (tx_tx n kd t) k x = (x.1 + 1, k, x.2.1, min x.2.2.2.1 k, x.2.2.2.2 + (k * k)) := by simp [tx_en, c5, Nat.pos_iff_ne_zero.mp c14, c59]
        have hP : va_P D vwCl [(g, .inr (1, [.ref g0, .int (nI dd), .int (iI er), .int (nI cg), .int (nI ((tx_en (tx_tx n kd t) k x).1)), .int (nI ((tx_en (tx_tx n kd t) k x).2.1)), .int (nI ((tx_en (tx_tx n kd t) k x).2.2.1)), .int (nI ((tx_en (tx_tx n kd t) k x).2.2.2.1)), .int (nI ((tx_en (tx_tx n kd t) k x).2.2.2.2))]))] H := by rw [e9]; exact hP
        have hD : va_D A [(g, .inr (1, [.ref g0, .int (nI dd), .int (iI er), .int (nI cg), .int (nI ((tx_en (tx_tx n kd t) k x).1)), .int (nI ((tx_en (tx_tx n kd t) k x).2.1)), .int (nI ((tx_en (tx_tx n kd t) k x).2.2.1)), .int (nI ((tx_en (tx_tx n kd t) k x).2.2.2.1)), .int (nI ((tx_en (tx_tx n kd t) k x).2.2.2.2))]))] := by rw [e9]; exact hD
        exact rt_v hx hb hr hlocks () (trivial) hP hD hS dX1_endStretch_91
    · refine lv_iload_n hx hb dX1_endStretch_17 rfl (lv_at hl 3 rfl) ?_
      refine lv_goto (tgt := 29) hx hb dX1_endStretch_18 (by decide) ?_
      refine va_put (D := D) (ci := 1) (v := .int (nI k)) (ty := .int) (C := RX1) (T := TX1) (N := 9) hx hb hts in_X1 tyX1 tyX1_ok nmX1 hown hK hP hD hS 0 rfl rfl 7 (by decide) hf_34 (fun _ h9 => h9) rfl (by decide +kernel) rfl rfl (Nat.le_of_ble_eq_true rfl) dX1_endStretch_29 (fun H locs hP hD hS => ?_)
      have hP : va_P D vwCl [(g, .inr (1, [.ref g0, .int (nI dd), .int (iI er), .int (nI cg), .int (nI x.1), .int (nI x.2.1), .int (nI x.2.2.1), .int (nI k), .int (nI x.2.2.2.2)]))] H := hP
      have hD : va_D A [(g, .inr (1, [.ref g0, .int (nI dd), .int (iI er), .int (nI cg), .int (nI x.1), .int (nI x.2.1), .int (nI x.2.2.1), .int (nI k), .int (nI x.2.2.2.2)]))] := hD
      refine lv_aload_n hx hb dX1_endStretch_32 rfl (lv_at hl 0 rfl) ?_
      refine lv_dup hx hb dX1_endStretch_33 rfl ?_
      refine va_get (D := D) (ci := 1) (v := .int (nI x.1)) (C := RX1) (T := TX1) (N := 9) hx hb hts in_X1 hown hK hP 0 rfl rfl 4 (by decide) hf_25 (fun _ h9 => h9) rfl dX1_endStretch_34 ?_
      refine lv_iconst (v := 1) hx hb dX1_endStretch_37 (by decide) ?_
      refine lv_iadd hx hb dX1_endStretch_38 ?_
      refine tp_i (nI_add x.1 1) ?_
      refine va_put (D := D) (ci := 1) (v := .int (nI (x.1 + 1))) (ty := .int) (C := RX1) (T := TX1) (N := 9) hx hb hts in_X1 tyX1 tyX1_ok nmX1 hown hK hP hD hS 0 rfl rfl 4 (by decide) hf_25 (fun _ h9 => h9) rfl (by decide +kernel) rfl rfl (Nat.le_of_ble_eq_true rfl) dX1_endStretch_39 (fun H locs hP hD hS => ?_)
      have hP : va_P D vwCl [(g, .inr (1, [.ref g0, .int (nI dd), .int (iI er), .int (nI cg), .int (nI (x.1 + 1)), .int (nI x.2.1), .int (nI x.2.2.1), .int (nI k), .int (nI x.2.2.2.2)]))] H := hP
      have hD : va_D A [(g, .inr (1, [.ref g0, .int (nI dd), .int (iI er), .int (nI cg), .int (nI (x.1 + 1)), .int (nI x.2.1), .int (nI x.2.2.1), .int (nI k), .int (nI x.2.2.2.2)]))] := hD
      refine lv_aload_n hx hb dX1_endStretch_42 rfl (lv_at hl 0 rfl) ?_
      refine lv_dup hx hb dX1_endStretch_43 rfl ?_
      refine va_get (D := D) (ci := 1) (v := .int (nI x.2.2.2.2)) (C := RX1) (T := TX1) (N := 9) hx hb hts in_X1 hown hK hP 0 rfl rfl 8 (by decide) hf_37 (fun _ h9 => h9) rfl dX1_endStretch_44 ?_
      refine lv_iload_n hx hb dX1_endStretch_47 rfl (lv_at hl 3 rfl) ?_
      refine lv_iload_n hx hb dX1_endStretch_48 rfl (lv_at hl 3 rfl) ?_
      refine lv_imul hx hb dX1_endStretch_49 ?_
      refine tp_i (pk_mul k k) ?_
      refine lv_iadd hx hb dX1_endStretch_50 ?_
      refine tp_i (nI_add x.2.2.2.2 (k * k)) ?_
      refine va_put (D := D) (ci := 1) (v := .int (nI (x.2.2.2.2 + (k * k)))) (ty := .int) (C := RX1) (T := TX1) (N := 9) hx hb hts in_X1 tyX1 tyX1_ok nmX1 hown hK hP hD hS 0 rfl rfl 8 (by decide) hf_37 (fun _ h9 => h9) rfl (by decide +kernel) rfl rfl (Nat.le_of_ble_eq_true rfl) dX1_endStretch_51 (fun H locs hP hD hS => ?_)
      have hP : va_P D vwCl [(g, .inr (1, [.ref g0, .int (nI dd), .int (iI er), .int (nI cg), .int (nI (x.1 + 1)), .int (nI x.2.1), .int (nI x.2.2.1), .int (nI k), .int (nI (x.2.2.2.2 + (k * k)))]))] H := hP
      have hD : va_D A [(g, .inr (1, [.ref g0, .int (nI dd), .int (iI er), .int (nI cg), .int (nI (x.1 + 1)), .int (nI x.2.1), .int (nI x.2.2.1), .int (nI k), .int (nI (x.2.2.2.2 + (k * k)))]))] := hD
      refine lv_iload_n hx hb dX1_endStretch_54 rfl (lv_at hl 3 rfl) ?_
      refine lv_aload_n hx hb dX1_endStretch_55 rfl (lv_at hl 0 rfl) ?_
      refine va_get (D := D) (ci := 1) (v := .int (nI x.2.1)) (C := RX1) (T := TX1) (N := 9) hx hb hts in_X1 hown hK hP 0 rfl rfl 5 (by decide) hf_28 (fun _ h9 => h9) rfl dX1_endStretch_56 ?_
      refine bn_le (a := k) (b := x.2.1) (tgt := 78) hx hb rfl rfl (by omega) (by omega) dX1_endStretch_59 (by decide) (fun c59 => ?_) (fun c59 => ?_)
      · refine lv_iload_n hx hb dX1_endStretch_78 rfl (lv_at hl 3 rfl) ?_
        refine lv_aload_n hx hb dX1_endStretch_79 rfl (lv_at hl 0 rfl) ?_
        refine va_get (D := D) (ci := 1) (v := .int (nI x.2.2.1)) (C := RX1) (T := TX1) (N := 9) hx hb hts in_X1 hown hK hP 0 rfl rfl 6 (by decide) hf_31 (fun _ h9 => h9) rfl dX1_endStretch_80 ?_
        refine bn_le (a := k) (b := x.2.2.1) (tgt := 91) hx hb rfl rfl (by omega) (by omega) dX1_endStretch_83 (by decide) (fun c83 => ?_) (fun c83 => ?_)
        · have e9 : tx_en (tx_tx n kd t) k x = (x.1 + 1, x.2.1, x.2.2.1, k, x.2.2.2.2 + (k * k)) := by simp [tx_en, c5, c14, Nat.not_lt.mpr c59, Nat.not_lt.mpr c83]
          have hP : va_P D vwCl [(g, .inr (1, [.ref g0, .int (nI dd), .int (iI er), .int (nI cg), .int (nI ((tx_en (tx_tx n kd t) k x).1)), .int (nI ((tx_en (tx_tx n kd t) k x).2.1)), .int (nI ((tx_en (tx_tx n kd t) k x).2.2.1)), .int (nI ((tx_en (tx_tx n kd t) k x).2.2.2.1)), .int (nI ((tx_en (tx_tx n kd t) k x).2.2.2.2))]))] H := by rw [e9]; exact hP
          have hD : va_D A [(g, .inr (1, [.ref g0, .int (nI dd), .int (iI er), .int (nI cg), .int (nI ((tx_en (tx_tx n kd t) k x).1)), .int (nI ((tx_en (tx_tx n kd t) k x).2.1)), .int (nI ((tx_en (tx_tx n kd t) k x).2.2.1)), .int (nI ((tx_en (tx_tx n kd t) k x).2.2.2.1)), .int (nI ((tx_en (tx_tx n kd t) k x).2.2.2.2))]))] := by rw [e9]; exact hD
          exact rt_v hx hb hr hlocks () (trivial) hP hD hS dX1_endStretch_91
        · refine lv_aload_n hx hb dX1_endStretch_86 rfl (lv_at hl 0 rfl) ?_
          refine lv_iload_n hx hb dX1_endStretch_87 rfl (lv_at hl 3 rfl) ?_
          refine va_put (D := D) (ci := 1) (v := .int (nI k)) (ty := .int) (C := RX1) (T := TX1) (N := 9) hx hb hts in_X1 tyX1 tyX1_ok nmX1 hown hK hP hD hS 0 rfl rfl 6 (by decide) hf_31 (fun _ h9 => h9) rfl (by decide +kernel) rfl rfl (Nat.le_of_ble_eq_true rfl) dX1_endStretch_88 (fun H locs hP hD hS => ?_)
          have hP : va_P D vwCl [(g, .inr (1, [.ref g0, .int (nI dd), .int (iI er), .int (nI cg), .int (nI (x.1 + 1)), .int (nI x.2.1), .int (nI k), .int (nI k), .int (nI (x.2.2.2.2 + (k * k)))]))] H := hP
          have hD : va_D A [(g, .inr (1, [.ref g0, .int (nI dd), .int (iI er), .int (nI cg), .int (nI (x.1 + 1)), .int (nI x.2.1), .int (nI k), .int (nI k), .int (nI (x.2.2.2.2 + (k * k)))]))] := hD
          have e9 : tx_en (tx_tx n kd t) k x = (x.1 + 1, x.2.1, k, k, x.2.2.2.2 + (k * k)) := by simp [tx_en, c5, c14, Nat.not_lt.mpr c59, c83]
          have hP : va_P D vwCl [(g, .inr (1, [.ref g0, .int (nI dd), .int (iI er), .int (nI cg), .int (nI ((tx_en (tx_tx n kd t) k x).1)), .int (nI ((tx_en (tx_tx n kd t) k x).2.1)), .int (nI ((tx_en (tx_tx n kd t) k x).2.2.1)), .int (nI ((tx_en (tx_tx n kd t) k x).2.2.2.1)), .int (nI ((tx_en (tx_tx n kd t) k x).2.2.2.2))]))] H := by rw [e9]; exact hP
          have hD : va_D A [(g, .inr (1, [.ref g0, .int (nI dd), .int (iI er), .int (nI cg), .int (nI ((tx_en (tx_tx n kd t) k x).1)), .int (nI ((tx_en (tx_tx n kd t) k x).2.1)), .int (nI ((tx_en (tx_tx n kd t) k x).2.2.1)), .int (nI ((tx_en (tx_tx n kd t) k x).2.2.2.1)), .int (nI ((tx_en (tx_tx n kd t) k x).2.2.2.2))]))] := by rw [e9]; exact hD
          exact rt_v hx hb hr hlocks () (trivial) hP hD hS dX1_endStretch_91
      · refine lv_aload_n hx hb dX1_endStretch_62 rfl (lv_at hl 0 rfl) ?_
        refine lv_aload_n hx hb dX1_endStretch_63 rfl (lv_at hl 0 rfl) ?_
        refine va_get (D := D) (ci := 1) (v := .int (nI x.2.1)) (C := RX1) (T := TX1) (N := 9) hx hb hts in_X1 hown hK hP 0 rfl rfl 5 (by decide) hf_28 (fun _ h9 => h9) rfl dX1_endStretch_64 ?_
        refine va_put (D := D) (ci := 1) (v := .int (nI x.2.1)) (ty := .int) (C := RX1) (T := TX1) (N := 9) hx hb hts in_X1 tyX1 tyX1_ok nmX1 hown hK hP hD hS 0 rfl rfl 6 (by decide) hf_31 (fun _ h9 => h9) rfl (by decide +kernel) rfl rfl (Nat.le_of_ble_eq_true rfl) dX1_endStretch_67 (fun H locs hP hD hS => ?_)
        have hP : va_P D vwCl [(g, .inr (1, [.ref g0, .int (nI dd), .int (iI er), .int (nI cg), .int (nI (x.1 + 1)), .int (nI x.2.1), .int (nI x.2.1), .int (nI k), .int (nI (x.2.2.2.2 + (k * k)))]))] H := hP
        have hD : va_D A [(g, .inr (1, [.ref g0, .int (nI dd), .int (iI er), .int (nI cg), .int (nI (x.1 + 1)), .int (nI x.2.1), .int (nI x.2.1), .int (nI k), .int (nI (x.2.2.2.2 + (k * k)))]))] := hD
        refine lv_aload_n hx hb dX1_endStretch_70 rfl (lv_at hl 0 rfl) ?_
        refine lv_iload_n hx hb dX1_endStretch_71 rfl (lv_at hl 3 rfl) ?_
        refine va_put (D := D) (ci := 1) (v := .int (nI k)) (ty := .int) (C := RX1) (T := TX1) (N := 9) hx hb hts in_X1 tyX1 tyX1_ok nmX1 hown hK hP hD hS 0 rfl rfl 5 (by decide) hf_28 (fun _ h9 => h9) rfl (by decide +kernel) rfl rfl (Nat.le_of_ble_eq_true rfl) dX1_endStretch_72 (fun H locs hP hD hS => ?_)
        have hP : va_P D vwCl [(g, .inr (1, [.ref g0, .int (nI dd), .int (iI er), .int (nI cg), .int (nI (x.1 + 1)), .int (nI k), .int (nI x.2.1), .int (nI k), .int (nI (x.2.2.2.2 + (k * k)))]))] H := hP
        have hD : va_D A [(g, .inr (1, [.ref g0, .int (nI dd), .int (iI er), .int (nI cg), .int (nI (x.1 + 1)), .int (nI k), .int (nI x.2.1), .int (nI k), .int (nI (x.2.2.2.2 + (k * k)))]))] := hD
        refine lv_goto (tgt := 91) hx hb dX1_endStretch_75 (by decide) ?_
        have e9 : tx_en (tx_tx n kd t) k x = (x.1 + 1, k, x.2.1, k, x.2.2.2.2 + (k * k)) := by simp [tx_en, c5, c14, c59]
        have hP : va_P D vwCl [(g, .inr (1, [.ref g0, .int (nI dd), .int (iI er), .int (nI cg), .int (nI ((tx_en (tx_tx n kd t) k x).1)), .int (nI ((tx_en (tx_tx n kd t) k x).2.1)), .int (nI ((tx_en (tx_tx n kd t) k x).2.2.1)), .int (nI ((tx_en (tx_tx n kd t) k x).2.2.2.1)), .int (nI ((tx_en (tx_tx n kd t) k x).2.2.2.2))]))] H := by rw [e9]; exact hP
        have hD : va_D A [(g, .inr (1, [.ref g0, .int (nI dd), .int (iI er), .int (nI cg), .int (nI ((tx_en (tx_tx n kd t) k x).1)), .int (nI ((tx_en (tx_tx n kd t) k x).2.1)), .int (nI ((tx_en (tx_tx n kd t) k x).2.2.1)), .int (nI ((tx_en (tx_tx n kd t) k x).2.2.2.1)), .int (nI ((tx_en (tx_tx n kd t) k x).2.2.2.2))]))] := by rw [e9]; exact hD
        exact rt_v hx hb hr hlocks () (trivial) hP hD hS dX1_endStretch_91
  · have e9 : tx_en (tx_tx n kd t) k x = (x.1, x.2.1, x.2.2.1, x.2.2.2.1, x.2.2.2.2) := by simp [tx_en, c5]
    have hP : va_P D vwCl [(g, .inr (1, [.ref g0, .int (nI dd), .int (iI er), .int (nI cg), .int (nI ((tx_en (tx_tx n kd t) k x).1)), .int (nI ((tx_en (tx_tx n kd t) k x).2.1)), .int (nI ((tx_en (tx_tx n kd t) k x).2.2.1)), .int (nI ((tx_en (tx_tx n kd t) k x).2.2.2.1)), .int (nI ((tx_en (tx_tx n kd t) k x).2.2.2.2))]))] H := by rw [e9]; exact hP
    have hD : va_D A [(g, .inr (1, [.ref g0, .int (nI dd), .int (iI er), .int (nI cg), .int (nI ((tx_en (tx_tx n kd t) k x).1)), .int (nI ((tx_en (tx_tx n kd t) k x).2.1)), .int (nI ((tx_en (tx_tx n kd t) k x).2.2.1)), .int (nI ((tx_en (tx_tx n kd t) k x).2.2.2.1)), .int (nI ((tx_en (tx_tx n kd t) k x).2.2.2.2))]))] := by rw [e9]; exact hD
    exact rt_v hx hb hr hlocks () (trivial) hP hD hS dX1_endStretch_8
set_option maxHeartbeats 4000000 in
set_option maxRecDepth 100000 in
theorem c_X1_taxBy (l : Launch) (D : va_G) (cs : Nat → ClassId) (sz : Nat) (g : Nat) (g0 : Nat) (dd : Nat) (er : Int) (cg : Nat) (x : tx_5) (lw : Nat) (hlw : lw ≤ 5) : mI (S := Unit) l yX1_taxBy wsX1_taxBy ({ frames := 0, cells := 0, slots := 0, locals := 0 } : Room) D (tyc cs) sz [.ref g, .int (nI lw)] [(g, .inr (1, [.ref g0, .int (nI dd), .int (iI er), .int (nI cg), .int (nI x.1), .int (nI x.2.1), .int (nI x.2.2.1), .int (nI x.2.2.2.1), .int (nI x.2.2.2.2)]))] [] (fun (r : Int32) (u : Unit) => r = nI (tx_tax x cg dd lw)) (fun _ => []) 0 0 := by
  unfold mI
  refine Met.ofW (cc := cX1_taxBy) (maxL := 2) (ret := (some .int)) (by decide) rfl ?_
  intro p e s m args below meth c s₁ B hml hv
  obtain ⟨rfl, hsz, hP, hK, hD0⟩ := hv
  have hx := B.exec
  have hb := B.bytes
  have hr := B.returns
  have hts := atoms_spec (ws := wsX1_taxBy) B.pre
  have hown : s.vm.findClass RX1 = some m.cls := findClass_of_methodNamed B.named
  have hlocks := B.notSynchronized
  subst hsz
  have hR := @en_R _ _ _ [(g, .inr (1, [.ref g0, .int (nI dd), .int (iI er), .int (nI cg), .int (nI x.1), .int (nI x.2.1), .int (nI x.2.2.1), .int (nI x.2.2.2.1), .int (nI x.2.2.2.2)]))] [] _ hP hD0
  have hN := adN_of hD0
  have hD := en_D (wr := [(g, .inr (1, [.ref g0, .int (nI dd), .int (iI er), .int (nI cg), .int (nI x.1), .int (nI x.2.1), .int (nI x.2.2.1), .int (nI x.2.2.2.1), .int (nI x.2.2.2.2)]))]) (ww := []) (sz := s.heap.size) hD0
  have hP := en_P (wr := [(g, .inr (1, [.ref g0, .int (nI dd), .int (iI er), .int (nI cg), .int (nI x.1), .int (nI x.2.1), .int (nI x.2.2.1), .int (nI x.2.2.2.1), .int (nI x.2.2.2.2)]))]) (ww := []) hP
  generalize hAe : va_A [] s.heap.size = A at hD hR ⊢
  have hA : ∀ q : Nat, s.heap.size ≤ q → A q := fun q h => by rw [← hAe]; exact Or.inr h
  have hS : va_S A s.heap s.heap [] := va_S.rf
  have hN : adN [g] := hN
  have hf_15 := hts (.fieldLink RX1 15 "TaxedByLongest$Look" "days" "I") (by decide +kernel)
  have hf_22 := hts (.fieldLink RX1 22 "TaxedByLongest$Look" "changes" "I") (by decide +kernel)
  have hf_28 := hts (.fieldLink RX1 28 "TaxedByLongest$Look" "longest" "I") (by decide +kernel)
  have hf_31 := hts (.fieldLink RX1 31 "TaxedByLongest$Look" "second" "I") (by decide +kernel)
  have hf_34 := hts (.fieldLink RX1 34 "TaxedByLongest$Look" "shortest" "I") (by decide +kernel)
  have hf_37 := hts (.fieldLink RX1 37 "TaxedByLongest$Look" "squares" "I") (by decide +kernel)
  have in_X1 : ∀ w ∈ wsX10, w ∈ wsX1_taxBy := by decide +kernel
  have hl := lv_entry ([.ref g, .int (nI lw)]) (n := 2) (Nat.le_of_ble_eq_true rfl)
  rw [lg_entry_eq]
  generalize (lg_sl ([.ref g, .int (nI lw)]) ++ List.replicate (2 - (lg_sl ([.ref g, .int (nI lw)])).length) Slot.unset).toArray = ls at hl ⊢
  have hl : lv_has ls 2 [(0, .ref g), (1, .int (nI lw))] := hl
  refine lv_iload_n hx hb dX1_taxBy_0 rfl (lv_at hl 1 rfl) ?_
  by_cases s1_1 : lw = 1
  · refine tp_i (y := 1) (by rw [s1_1]; rfl) ?_
    refine lv_tableIn (tgt := 36) hx hb dX1_taxBy_1 (by decide) (by decide) rfl (by decide) ?_
    refine lv_aload_n hx hb dX1_taxBy_36 rfl (lv_at hl 0 rfl) ?_
    refine va_get (D := D) (ci := 1) (v := .int (nI x.2.2.1)) (C := RX1) (T := TX1) (N := 9) hx hb hts in_X1 hown hK (hR hS) 0 rfl rfl 6 (by decide) hf_31 (fun _ h9 => h9) rfl dX1_taxBy_37 ?_
    refine lv_aload_n hx hb dX1_taxBy_40 rfl (lv_at hl 0 rfl) ?_
    refine va_get (D := D) (ci := 1) (v := .int (nI x.2.2.1)) (C := RX1) (T := TX1) (N := 9) hx hb hts in_X1 hown hK (hR hS) 0 rfl rfl 6 (by decide) hf_31 (fun _ h9 => h9) rfl dX1_taxBy_41 ?_
    refine lv_imul hx hb dX1_taxBy_44 ?_
    refine tp_i (pk_mul x.2.2.1 x.2.2.1) ?_
    exact rt_i hx hb hr hlocks () (by unfold tx_tax; simp [s1_1]) hP hD hS dX1_taxBy_45
  · have _ := 0
    by_cases s1_2 : lw = 2
    · refine tp_i (y := 2) (by rw [s1_2]; rfl) ?_
      refine lv_tableIn (tgt := 46) hx hb dX1_taxBy_1 (by decide) (by decide) rfl (by decide) ?_
      refine lv_aload_n hx hb dX1_taxBy_46 rfl (lv_at hl 0 rfl) ?_
      refine va_get (D := D) (ci := 1) (v := .int (nI x.2.2.2.2)) (C := RX1) (T := TX1) (N := 9) hx hb hts in_X1 hown hK (hR hS) 0 rfl rfl 8 (by decide) hf_37 (fun _ h9 => h9) rfl dX1_taxBy_47 ?_
      exact rt_i hx hb hr hlocks () (by unfold tx_tax; simp [s1_2]) hP hD hS dX1_taxBy_50
    · have _ := 0
      by_cases s1_3 : lw = 3
      · refine tp_i (y := 3) (by rw [s1_3]; rfl) ?_
        refine lv_tableIn (tgt := 51) hx hb dX1_taxBy_1 (by decide) (by decide) rfl (by decide) ?_
        refine lv_bipush (v := 9) hx hb dX1_taxBy_51 (by decide) ?_
        refine lv_aload_n hx hb dX1_taxBy_53 rfl (lv_at hl 0 rfl) ?_
        refine va_get (D := D) (ci := 1) (v := .int (nI cg)) (C := RX1) (T := TX1) (N := 9) hx hb hts in_X1 hown hK (hR hS) 0 rfl rfl 3 (by decide) hf_22 (fun _ h9 => h9) rfl dX1_taxBy_54 ?_
        refine lv_imul hx hb dX1_taxBy_57 ?_
        refine tp_i (pk_mul 9 cg) ?_
        exact rt_i hx hb hr hlocks () (by unfold tx_tax; simp [s1_3]) hP hD hS dX1_taxBy_58
      · have _ := 0
        by_cases s1_4 : lw = 4
        · refine tp_i (y := 4) (by rw [s1_4]; rfl) ?_
          refine lv_tableIn (tgt := 59) hx hb dX1_taxBy_1 (by decide) (by decide) rfl (by decide) ?_
          refine lv_aload_n hx hb dX1_taxBy_59 rfl (lv_at hl 0 rfl) ?_
          refine va_get (D := D) (ci := 1) (v := .int (nI x.2.2.2.1)) (C := RX1) (T := TX1) (N := 9) hx hb hts in_X1 hown hK (hR hS) 0 rfl rfl 7 (by decide) hf_34 (fun _ h9 => h9) rfl dX1_taxBy_60 ?_
          refine lv_aload_n hx hb dX1_taxBy_63 rfl (lv_at hl 0 rfl) ?_
          refine va_get (D := D) (ci := 1) (v := .int (nI x.2.2.2.1)) (C := RX1) (T := TX1) (N := 9) hx hb hts in_X1 hown hK (hR hS) 0 rfl rfl 7 (by decide) hf_34 (fun _ h9 => h9) rfl dX1_taxBy_64 ?_
          refine lv_imul hx hb dX1_taxBy_67 ?_
          refine tp_i (pk_mul x.2.2.2.1 x.2.2.2.1) ?_
          exact rt_i hx hb hr hlocks () (by unfold tx_tax; simp [s1_4]) hP hD hS dX1_taxBy_68
        · have _ := 0
          by_cases s1_5 : lw = 5
          · refine tp_i (y := 5) (by rw [s1_5]; rfl) ?_
            refine lv_tableIn (tgt := 69) hx hb dX1_taxBy_1 (by decide) (by decide) rfl (by decide) ?_
            refine lv_aload_n hx hb dX1_taxBy_69 rfl (lv_at hl 0 rfl) ?_
            refine va_get (D := D) (ci := 1) (v := .int (nI dd)) (C := RX1) (T := TX1) (N := 9) hx hb hts in_X1 hown hK (hR hS) 0 rfl rfl 1 (by decide) hf_15 (fun _ h9 => h9) rfl dX1_taxBy_70 ?_
            exact rt_i hx hb hr hlocks () (by unfold tx_tax; simp [s1_5]) hP hD hS dX1_taxBy_73
          · have _ := 0
            refine lv_tableOut (tgt := 74) hx hb dX1_taxBy_1 (by rw [nI_toInt (by omega)]; omega) (by decide) ?_
            refine lv_aload_n hx hb dX1_taxBy_74 rfl (lv_at hl 0 rfl) ?_
            refine va_get (D := D) (ci := 1) (v := .int (nI x.2.1)) (C := RX1) (T := TX1) (N := 9) hx hb hts in_X1 hown hK (hR hS) 0 rfl rfl 5 (by decide) hf_28 (fun _ h9 => h9) rfl dX1_taxBy_75 ?_
            refine lv_aload_n hx hb dX1_taxBy_78 rfl (lv_at hl 0 rfl) ?_
            refine va_get (D := D) (ci := 1) (v := .int (nI x.2.1)) (C := RX1) (T := TX1) (N := 9) hx hb hts in_X1 hown hK (hR hS) 0 rfl rfl 5 (by decide) hf_28 (fun _ h9 => h9) rfl dX1_taxBy_79 ?_
            refine lv_imul hx hb dX1_taxBy_82 ?_
            refine tp_i (pk_mul x.2.1 x.2.1) ?_
            exact rt_i hx hb hr hlocks () (by unfold tx_tax; simp [s1_1, s1_2, s1_3, s1_4, s1_5]) hP hD hS dX1_taxBy_83
set_option maxHeartbeats 4000000 in
set_option maxRecDepth 100000 in
theorem c_X1_leftBy (l : Launch) (D : va_G) (cs : Nat → ClassId) (sz : Nat) (g : Nat) (g0 : Nat) (dd : Nat) (er : Int) (cg : Nat) (x : tx_5) (lw : Nat) (hlw : lw ≤ 5) : mI (S := Unit) l yX1_leftBy wsX1_leftBy ({ frames := 1, cells := 0, slots := 0, locals := 21 } : Room) D (tyc cs) sz [.ref g, .int (nI lw)] [(g, .inr (1, [.ref g0, .int (nI dd), .int (iI er), .int (nI cg), .int (nI x.1), .int (nI x.2.1), .int (nI x.2.2.1), .int (nI x.2.2.2.1), .int (nI x.2.2.2.2)]))] [] (fun (r : Int32) (u : Unit) => r = iI (er - (tx_tax x cg dd lw : Int))) (fun _ => []) 0 0 := by
  unfold mI
  refine Met.ofW (cc := cX1_leftBy) (maxL := 2) (ret := (some .int)) (by decide) rfl ?_
  intro p e s m args below meth c s₁ B hml hv
  obtain ⟨rfl, hsz, hP, hK, hD0⟩ := hv
  have hx := B.exec
  have hb := B.bytes
  have hr := B.returns
  have hts := atoms_spec (ws := wsX1_leftBy) B.pre
  have hown : s.vm.findClass RX1 = some m.cls := findClass_of_methodNamed B.named
  have hlocks := B.notSynchronized
  subst hsz
  have hR := @en_R _ _ _ [(g, .inr (1, [.ref g0, .int (nI dd), .int (iI er), .int (nI cg), .int (nI x.1), .int (nI x.2.1), .int (nI x.2.2.1), .int (nI x.2.2.2.1), .int (nI x.2.2.2.2)]))] [] _ hP hD0
  have hN := adN_of hD0
  have hD := en_D (wr := [(g, .inr (1, [.ref g0, .int (nI dd), .int (iI er), .int (nI cg), .int (nI x.1), .int (nI x.2.1), .int (nI x.2.2.1), .int (nI x.2.2.2.1), .int (nI x.2.2.2.2)]))]) (ww := []) (sz := s.heap.size) hD0
  have hP := en_P (wr := [(g, .inr (1, [.ref g0, .int (nI dd), .int (iI er), .int (nI cg), .int (nI x.1), .int (nI x.2.1), .int (nI x.2.2.1), .int (nI x.2.2.2.1), .int (nI x.2.2.2.2)]))]) (ww := []) hP
  generalize hAe : va_A [] s.heap.size = A at hD hR ⊢
  have hA : ∀ q : Nat, s.heap.size ≤ q → A q := fun q h => by rw [← hAe]; exact Or.inr h
  have hS : va_S A s.heap s.heap [] := va_S.rf
  have hN : adN [g] := hN
  have hf_19 := hts (.fieldLink RX1 19 "TaxedByLongest$Look" "earnings" "I") (by decide +kernel)
  have in_X1 : ∀ w ∈ wsX10, w ∈ wsX1_leftBy := by decide +kernel
  have hl := lv_entry ([.ref g, .int (nI lw)]) (n := 2) (Nat.le_of_ble_eq_true rfl)
  rw [lg_entry_eq]
  generalize (lg_sl ([.ref g, .int (nI lw)]) ++ List.replicate (2 - (lg_sl ([.ref g, .int (nI lw)])).length) Slot.unset).toArray = ls at hl ⊢
  have hl : lv_has ls 2 [(0, .ref g), (1, .int (nI lw))] := hl
  refine lv_aload_n hx hb dX1_leftBy_0 rfl (lv_at hl 0 rfl) ?_
  refine va_get (D := D) (ci := 1) (v := .int (iI er)) (C := RX1) (T := TX1) (N := 9) hx hb hts in_X1 hown hK (hR hS) 0 rfl rfl 2 (by decide) hf_19 (fun _ h9 => h9) rfl dX1_leftBy_1 ?_
  refine lv_aload_n hx hb dX1_leftBy_4 rfl (lv_at hl 0 rfl) ?_
  refine lv_iload_n hx hb dX1_leftBy_5 rfl (lv_at hl 1 rfl) ?_
  refine cV_i (As := [.int (nI lw)]) (rest := [.int (iI er)]) (cr := [(g, .inr (1, [.ref g0, .int (nI dd), .int (iI er), .int (nI cg), .int (nI x.1), .int (nI x.2.1), .int (nI x.2.2.1), .int (nI x.2.2.2.1), .int (nI x.2.2.2.2)]))]) (cw1 := []) ⟨hx, hb, hml, hown, hts⟩ (c_X1_taxBy l D cs _ g g0 dd er cg x lw (by first | assumption | omega)) (cwV 1 hts gX1_leftBy_X1_taxBy rfl rfl rfl (by decide +kernel) ⟨Nat.le_of_ble_eq_true rfl, Nat.le_of_ble_eq_true rfl⟩) hK hP hD hS hA (((hR hS).app hP).sub [0] rfl) (dt_of hN [0] (by decide) rfl) [] rfl 0 rfl rfl rfl hl.1 rfl (Nat.le_of_ble_eq_true rfl) dX1_leftBy_6 ⟨Nat.le_of_ble_eq_true rfl, Nat.le_of_ble_eq_true rfl⟩ (fun _ => rfl) (fun _ => rfl) (fun r_1 u9 H locs hw_2 hP hD hS => ?_)
  have hP : va_P D vwCl [] H := hP
  have hD : va_D A [] := hD
  subst r_1
  refine lv_isub hx hb dX1_leftBy_9 ?_
  refine tp_i (sub_iI (a := er) (b := ((tx_tax x cg dd lw : Nat) : Int)) rfl (nI_iI _)) ?_
  exact rt_i hx hb hr hlocks () (rfl) hP hD hS dX1_leftBy_10
set_option maxHeartbeats 4000000 in
set_option maxRecDepth 100000 in
theorem c_X1_addDay (l : Launch) (D : va_G) (cs : Nat → ClassId) (sz : Nat) (g : Nat) (g0 : Nat) (dd : Nat) (er : Int) (cg : Nat) (x : tx_5) (ld : Nat → Nat) (t : Nat) (hdd : dd ≤ 20) : mV (S := Unit) l yX1_addDay wsX1_addDay ({ frames := 0, cells := 0, slots := 0, locals := 0 } : Room) D (tyc cs) sz [.ref g, .int (nI t)] [] [(g, .inr (1, [.ref g0, .int (nI dd), .int (iI er), .int (nI cg), .int (nI x.1), .int (nI x.2.1), .int (nI x.2.2.1), .int (nI x.2.2.2.1), .int (nI x.2.2.2.2)])), (g0, aI cs 21 (tx_nf ld))] (fun (u : Unit) => True) (fun _ => [(g, .inr (1, [.ref g0, .int (nI (dd + 1)), .int (iI er), .int (nI cg), .int (nI x.1), .int (nI x.2.1), .int (nI x.2.2.1), .int (nI x.2.2.2.1), .int (nI x.2.2.2.2)])), (g0, aI cs 21 (tx_nf (va_up ld dd t)))]) 0 0 := by
  unfold mV
  refine Met.ofW (cc := cX1_addDay) (maxL := 2) (ret := none) (by decide) rfl ?_
  intro p e s m args below meth c s₁ B hml hv
  obtain ⟨rfl, hsz, hP, hK, hD0⟩ := hv
  have hx := B.exec
  have hb := B.bytes
  have hr := B.returns
  have hts := atoms_spec (ws := wsX1_addDay) B.pre
  have hown : s.vm.findClass RX1 = some m.cls := findClass_of_methodNamed B.named
  have hlocks := B.notSynchronized
  subst hsz
  have hR := @en_R _ _ _ [] [(g, .inr (1, [.ref g0, .int (nI dd), .int (iI er), .int (nI cg), .int (nI x.1), .int (nI x.2.1), .int (nI x.2.2.1), .int (nI x.2.2.2.1), .int (nI x.2.2.2.2)])), (g0, aI cs 21 (tx_nf ld))] _ hP hD0
  have hN := adN_of hD0
  have hD := en_D (wr := []) (ww := [(g, .inr (1, [.ref g0, .int (nI dd), .int (iI er), .int (nI cg), .int (nI x.1), .int (nI x.2.1), .int (nI x.2.2.1), .int (nI x.2.2.2.1), .int (nI x.2.2.2.2)])), (g0, aI cs 21 (tx_nf ld))]) (sz := s.heap.size) hD0
  have hP := en_P (wr := []) (ww := [(g, .inr (1, [.ref g0, .int (nI dd), .int (iI er), .int (nI cg), .int (nI x.1), .int (nI x.2.1), .int (nI x.2.2.1), .int (nI x.2.2.2.1), .int (nI x.2.2.2.2)])), (g0, aI cs 21 (tx_nf ld))]) hP
  generalize hAe : va_A [(g, .inr (1, [.ref g0, .int (nI dd), .int (iI er), .int (nI cg), .int (nI x.1), .int (nI x.2.1), .int (nI x.2.2.1), .int (nI x.2.2.2.1), .int (nI x.2.2.2.2)])), (g0, aI cs 21 (tx_nf ld))] s.heap.size = A at hD hR ⊢
  have hA : ∀ q : Nat, s.heap.size ≤ q → A q := fun q h => by rw [← hAe]; exact Or.inr h
  have hS : va_S A s.heap s.heap [] := va_S.rf
  have hN : adN [g, g0] := hN
  have hf_9 := hts (.fieldLink RX1 9 "TaxedByLongest$Look" "done" "[I") (by decide +kernel)
  have hf_15 := hts (.fieldLink RX1 15 "TaxedByLongest$Look" "days" "I") (by decide +kernel)
  have in_X1 : ∀ w ∈ wsX10, w ∈ wsX1_addDay := by decide +kernel
  have hl := lv_entry ([.ref g, .int (nI t)]) (n := 2) (Nat.le_of_ble_eq_true rfl)
  rw [lg_entry_eq]
  generalize (lg_sl ([.ref g, .int (nI t)]) ++ List.replicate (2 - (lg_sl ([.ref g, .int (nI t)])).length) Slot.unset).toArray = ls at hl ⊢
  have hl : lv_has ls 2 [(0, .ref g), (1, .int (nI t))] := hl
  refine lv_aload_n hx hb dX1_addDay_0 rfl (lv_at hl 0 rfl) ?_
  refine va_get (D := D) (ci := 1) (v := .int (nI dd)) (C := RX1) (T := TX1) (N := 9) hx hb hts in_X1 hown hK hP 0 rfl rfl 1 (by decide) hf_15 (fun _ h9 => h9) rfl dX1_addDay_1 ?_
  refine lv_aload_n hx hb dX1_addDay_4 rfl (lv_at hl 0 rfl) ?_
  refine va_get (D := D) (ci := 1) (v := .ref g0) (C := RX1) (T := TX1) (N := 9) hx hb hts in_X1 hown hK hP 0 rfl rfl 0 (by decide) hf_9 (fun _ h9 => h9) rfl dX1_addDay_5 ?_
  refine va_alen (v := nI 21) hx hb hK hP 1 0 rfl rfl rfl dX1_addDay_8 ?_
  refine bn_ge (a := dd) (b := 21) (tgt := 32) hx hb rfl rfl (by omega) (by decide) dX1_addDay_9 (by decide) (fun c9 => ?_) (fun c9 => ?_)
  · exfalso; omega
  · refine lv_aload_n hx hb dX1_addDay_12 rfl (lv_at hl 0 rfl) ?_
    refine va_get (D := D) (ci := 1) (v := .ref g0) (C := RX1) (T := TX1) (N := 9) hx hb hts in_X1 hown hK hP 0 rfl rfl 0 (by decide) hf_9 (fun _ h9 => h9) rfl dX1_addDay_13 ?_
    refine lv_aload_n hx hb dX1_addDay_16 rfl (lv_at hl 0 rfl) ?_
    refine va_get (D := D) (ci := 1) (v := .int (nI dd)) (C := RX1) (T := TX1) (N := 9) hx hb hts in_X1 hown hK hP 0 rfl rfl 1 (by decide) hf_15 (fun _ h9 => h9) rfl dX1_addDay_17 ?_
    refine lv_iload_n hx hb dX1_addDay_20 rfl (lv_at hl 1 rfl) ?_
    refine is_n (f := tx_nf ld) hx hb hK hP hD hS 1 0 rfl rfl (j := dd) rfl (by omega) (by decide) dX1_addDay_21 (fun H locs hP hD hS => ?_)
    rw [show upd (tx_nf ld) dd (nI t) = tx_nf (va_up ld dd t) from nf_up _ _ _] at hP hD
    have hP : va_P D vwCl [(g, .inr (1, [.ref g0, .int (nI dd), .int (iI er), .int (nI cg), .int (nI x.1), .int (nI x.2.1), .int (nI x.2.2.1), .int (nI x.2.2.2.1), .int (nI x.2.2.2.2)])), (g0, aI cs 21 (tx_nf (va_up ld dd t)))] H := hP
    have hD : va_D A [(g, .inr (1, [.ref g0, .int (nI dd), .int (iI er), .int (nI cg), .int (nI x.1), .int (nI x.2.1), .int (nI x.2.2.1), .int (nI x.2.2.2.1), .int (nI x.2.2.2.2)])), (g0, aI cs 21 (tx_nf (va_up ld dd t)))] := hD
    refine lv_aload_n hx hb dX1_addDay_22 rfl (lv_at hl 0 rfl) ?_
    refine lv_dup hx hb dX1_addDay_23 rfl ?_
    refine va_get (D := D) (ci := 1) (v := .int (nI dd)) (C := RX1) (T := TX1) (N := 9) hx hb hts in_X1 hown hK hP 0 rfl rfl 1 (by decide) hf_15 (fun _ h9 => h9) rfl dX1_addDay_24 ?_
    refine lv_iconst (v := 1) hx hb dX1_addDay_27 (by decide) ?_
    refine lv_iadd hx hb dX1_addDay_28 ?_
    refine tp_i (nI_add dd 1) ?_
    refine va_put (D := D) (ci := 1) (v := .int (nI (dd + 1))) (ty := .int) (C := RX1) (T := TX1) (N := 9) hx hb hts in_X1 tyX1 tyX1_ok nmX1 hown hK hP hD hS 0 rfl rfl 1 (by decide) hf_15 (fun _ h9 => h9) rfl (by decide +kernel) rfl rfl (Nat.le_of_ble_eq_true rfl) dX1_addDay_29 (fun H locs hP hD hS => ?_)
    have hP : va_P D vwCl [(g, .inr (1, [.ref g0, .int (nI (dd + 1)), .int (iI er), .int (nI cg), .int (nI x.1), .int (nI x.2.1), .int (nI x.2.2.1), .int (nI x.2.2.2.1), .int (nI x.2.2.2.2)])), (g0, aI cs 21 (tx_nf (va_up ld dd t)))] H := hP
    have hD : va_D A [(g, .inr (1, [.ref g0, .int (nI (dd + 1)), .int (iI er), .int (nI cg), .int (nI x.1), .int (nI x.2.1), .int (nI x.2.2.1), .int (nI x.2.2.2.1), .int (nI x.2.2.2.2)])), (g0, aI cs 21 (tx_nf (va_up ld dd t)))] := hD
    exact rt_v hx hb hr hlocks () (trivial) hP hD hS dX1_addDay_32
set_option maxHeartbeats 4000000 in
set_option maxRecDepth 100000 in
theorem c_X1_copyYear (l : Launch) (D : va_G) (cs : Nat → ClassId) (sz : Nat) (g : Nat) (g0 : Nat) (dd : Nat) (er : Int) (cg : Nat) (x : tx_5) (ld : Nat → Nat) (h : Nat) (k0 : Nat) (k1 : Nat) (k2 : Nat) (k3 : Nat) (k4 : Nat) (k5 : Nat) (n : Nat) (dy : Nat) (ch : Nat) (lw : Nat) (td : Nat → Nat)  : mV (S := Unit) l yX1_copyYear wsX1_copyYear ({ frames := 1, cells := 0, slots := 0, locals := 64 } : Room) D (tyc cs) sz [.ref g, .ref h] [(h, .inr (4, [.ref k0, .ref k1, .ref k2, .ref k3, .ref k4, .ref k5, .int (nI n), .int (nI dy), .int (nI ch), .int (nI lw)]))] [(g, .inr (1, [.ref g0, .int (nI dd), .int (iI er), .int (nI cg), .int (nI x.1), .int (nI x.2.1), .int (nI x.2.2.1), .int (nI x.2.2.2.1), .int (nI x.2.2.2.2)])), (g0, aI cs 21 (tx_nf ld)), (k4, aI cs 20 (tx_nf td))] (fun (u : Unit) => True) (fun _ => [(g, .inr (1, [.ref g0, .int (nI dy), .int (iI er), .int (nI cg), .int (nI x.1), .int (nI x.2.1), .int (nI x.2.2.1), .int (nI x.2.2.2.1), .int (nI x.2.2.2.2)])), (g0, aI cs 21 (tx_nf (fun d => if d < 20 then td d else ld d))), (k4, aI cs 20 (tx_nf td))]) 0 0 := by
  unfold mV
  refine Met.ofW (cc := cX1_copyYear) (maxL := 2) (ret := none) (by decide) rfl ?_
  intro p e s m args below meth c s₁ B hml hv
  obtain ⟨rfl, hsz, hP, hK, hD0⟩ := hv
  have hx := B.exec
  have hb := B.bytes
  have hr := B.returns
  have hts := atoms_spec (ws := wsX1_copyYear) B.pre
  have hown : s.vm.findClass RX1 = some m.cls := findClass_of_methodNamed B.named
  have hlocks := B.notSynchronized
  subst hsz
  have hR := @en_R _ _ _ [(h, .inr (4, [.ref k0, .ref k1, .ref k2, .ref k3, .ref k4, .ref k5, .int (nI n), .int (nI dy), .int (nI ch), .int (nI lw)]))] [(g, .inr (1, [.ref g0, .int (nI dd), .int (iI er), .int (nI cg), .int (nI x.1), .int (nI x.2.1), .int (nI x.2.2.1), .int (nI x.2.2.2.1), .int (nI x.2.2.2.2)])), (g0, aI cs 21 (tx_nf ld)), (k4, aI cs 20 (tx_nf td))] _ hP hD0
  have hN := adN_of hD0
  have hD := en_D (wr := [(h, .inr (4, [.ref k0, .ref k1, .ref k2, .ref k3, .ref k4, .ref k5, .int (nI n), .int (nI dy), .int (nI ch), .int (nI lw)]))]) (ww := [(g, .inr (1, [.ref g0, .int (nI dd), .int (iI er), .int (nI cg), .int (nI x.1), .int (nI x.2.1), .int (nI x.2.2.1), .int (nI x.2.2.2.1), .int (nI x.2.2.2.2)])), (g0, aI cs 21 (tx_nf ld)), (k4, aI cs 20 (tx_nf td))]) (sz := s.heap.size) hD0
  have hP := en_P (wr := [(h, .inr (4, [.ref k0, .ref k1, .ref k2, .ref k3, .ref k4, .ref k5, .int (nI n), .int (nI dy), .int (nI ch), .int (nI lw)]))]) (ww := [(g, .inr (1, [.ref g0, .int (nI dd), .int (iI er), .int (nI cg), .int (nI x.1), .int (nI x.2.1), .int (nI x.2.2.1), .int (nI x.2.2.2.1), .int (nI x.2.2.2.2)])), (g0, aI cs 21 (tx_nf ld)), (k4, aI cs 20 (tx_nf td))]) hP
  generalize hAe : va_A [(g, .inr (1, [.ref g0, .int (nI dd), .int (iI er), .int (nI cg), .int (nI x.1), .int (nI x.2.1), .int (nI x.2.2.1), .int (nI x.2.2.2.1), .int (nI x.2.2.2.2)])), (g0, aI cs 21 (tx_nf ld)), (k4, aI cs 20 (tx_nf td))] s.heap.size = A at hD hR ⊢
  have hA : ∀ q : Nat, s.heap.size ≤ q → A q := fun q h => by rw [← hAe]; exact Or.inr h
  have hS : va_S A s.heap s.heap [] := va_S.rf
  have hN : adN [h, g, g0, k4] := hN
  have hf_9 := hts (.fieldLink RX1 9 "TaxedByLongest$Look" "done" "[I") (by decide +kernel)
  have hf_15 := hts (.fieldLink RX1 15 "TaxedByLongest$Look" "days" "I") (by decide +kernel)
  have hf_40 := hts (.fieldLink RX1 40 "TaxedByLongest$Told" "days" "I") (by decide +kernel)
  have hf_43 := hts (.fieldLink RX1 43 "TaxedByLongest$Told" "done" "[I") (by decide +kernel)
  have in_X1 : ∀ w ∈ wsX10, w ∈ wsX1_copyYear := by decide +kernel
  have in_X4 : ∀ w ∈ wsX40, w ∈ wsX1_copyYear := by decide +kernel
  have hl := lv_entry ([.ref g, .ref h]) (n := 2) (Nat.le_of_ble_eq_true rfl)
  rw [lg_entry_eq]
  generalize (lg_sl ([.ref g, .ref h]) ++ List.replicate (2 - (lg_sl ([.ref g, .ref h])).length) Slot.unset).toArray = ls at hl ⊢
  have hl : lv_has ls 2 [(0, .ref g), (1, .ref h)] := hl
  refine lv_aload_n hx hb dX1_copyYear_0 rfl (lv_at hl 0 rfl) ?_
  refine lv_aload_n hx hb dX1_copyYear_1 rfl (lv_at hl 1 rfl) ?_
  refine va_get (D := D) (ci := 4) (v := .int (nI dy)) (C := RX4) (T := TX4) (N := 10) hx hb hts in_X4 hown hK (hR hS) 0 rfl rfl 7 (by decide) hf_40 (fun _ h9 => h9) rfl dX1_copyYear_2 ?_
  refine va_put (D := D) (ci := 1) (v := .int (nI dy)) (ty := .int) (C := RX1) (T := TX1) (N := 9) hx hb hts in_X1 tyX1 tyX1_ok nmX1 hown hK hP hD hS 0 rfl rfl 1 (by decide) hf_15 (fun _ h9 => h9) rfl (by decide +kernel) rfl rfl (Nat.le_of_ble_eq_true rfl) dX1_copyYear_5 (fun H locs hP hD hS => ?_)
  have hP : va_P D vwCl [(g, .inr (1, [.ref g0, .int (nI dy), .int (iI er), .int (nI cg), .int (nI x.1), .int (nI x.2.1), .int (nI x.2.2.1), .int (nI x.2.2.2.1), .int (nI x.2.2.2.2)])), (g0, aI cs 21 (tx_nf ld)), (k4, aI cs 20 (tx_nf td))] H := hP
  have hD : va_D A [(g, .inr (1, [.ref g0, .int (nI dy), .int (iI er), .int (nI cg), .int (nI x.1), .int (nI x.2.1), .int (nI x.2.2.1), .int (nI x.2.2.2.1), .int (nI x.2.2.2.2)])), (g0, aI cs 21 (tx_nf ld)), (k4, aI cs 20 (tx_nf td))] := hD
  refine lv_aload_n hx hb dX1_copyYear_8 rfl (lv_at hl 1 rfl) ?_
  refine va_get (D := D) (ci := 4) (v := .ref k4) (C := RX4) (T := TX4) (N := 10) hx hb hts in_X4 hown hK (hR hS) 0 rfl rfl 4 (by decide) hf_43 (fun _ h9 => h9) rfl dX1_copyYear_9 ?_
  refine lv_iconst (v := 0) hx hb dX1_copyYear_12 (by decide) ?_
  refine lv_aload_n hx hb dX1_copyYear_13 rfl (lv_at hl 0 rfl) ?_
  refine va_get (D := D) (ci := 1) (v := .ref g0) (C := RX1) (T := TX1) (N := 9) hx hb hts in_X1 hown hK hP 0 rfl rfl 0 (by decide) hf_9 (fun _ h9 => h9) rfl dX1_copyYear_14 ?_
  refine lv_iconst (v := 0) hx hb dX1_copyYear_17 (by decide) ?_
  refine lv_bipush (v := 20) hx hb dX1_copyYear_18 (by decide) ?_
  refine ac_n (f := tx_nf td) (g := tx_nf ld) hx hb (hml.trans hl.1.symm) hown (hts (.methodLink RX1 44 arraycopyName) (by decide +kernel)) (hts (.native arraycopyName) (by decide +kernel)) (hts (.static arraycopyName) (by decide +kernel)) (hts (.initialized "java/lang/System") (by decide +kernel)) hK hP hD hS 2 1 0 0 rfl rfl rfl rfl (N := 20) rfl rfl rfl (by decide) (by decide) (by decide) (Nat.le_of_ble_eq_true rfl) (Nat.le_of_ble_eq_true (by decide +kernel)) dX1_copyYear_20 (fun H locs hP hD hS => ?_)
  have hP : va_P D vwCl [(g, .inr (1, [.ref g0, .int (nI dy), .int (iI er), .int (nI cg), .int (nI x.1), .int (nI x.2.1), .int (nI x.2.2.1), .int (nI x.2.2.2.1), .int (nI x.2.2.2.2)])), (g0, aI cs 21 (va_cpy (tx_nf td) (tx_nf ld) 0 0 20)), (k4, aI cs 20 (tx_nf td))] H := hP
  have hD : va_D A [(g, .inr (1, [.ref g0, .int (nI dy), .int (iI er), .int (nI cg), .int (nI x.1), .int (nI x.2.1), .int (nI x.2.2.1), .int (nI x.2.2.2.1), .int (nI x.2.2.2.2)])), (g0, aI cs 21 (va_cpy (tx_nf td) (tx_nf ld) 0 0 20)), (k4, aI cs 20 (tx_nf td))] := hD
  have hP := w_ext hP 1 (tx_nf (fun d => if d < 20 then td d else ld d)) rfl (fun q hq => by by_cases e : q < 20; (rw [pk_cpy_in (Nat.zero_le _) (by omega)]; show nI (td (0 + (q - 0))) = nI (if q < 20 then td q else ld q); rw [if_pos e]; congr 2; omega); (rw [pk_cpy_out (Or.inr (by omega))]; show nI (ld q) = nI (if q < 20 then td q else ld q); rw [if_neg e]))
  have hD : va_D A [(g, .inr (1, [.ref g0, .int (nI dy), .int (iI er), .int (nI cg), .int (nI x.1), .int (nI x.2.1), .int (nI x.2.2.1), .int (nI x.2.2.2.1), .int (nI x.2.2.2.2)])), (g0, aI cs 21 (tx_nf (fun d => if d < 20 then td d else ld d))), (k4, aI cs 20 (tx_nf td))] := d_adr hD rfl
  have hP : va_P D vwCl [(g, .inr (1, [.ref g0, .int (nI dy), .int (iI er), .int (nI cg), .int (nI x.1), .int (nI x.2.1), .int (nI x.2.2.1), .int (nI x.2.2.2.1), .int (nI x.2.2.2.2)])), (g0, aI cs 21 (tx_nf (fun d => if d < 20 then td d else ld d))), (k4, aI cs 20 (tx_nf td))] H := hP
  have hD : va_D A [(g, .inr (1, [.ref g0, .int (nI dy), .int (iI er), .int (nI cg), .int (nI x.1), .int (nI x.2.1), .int (nI x.2.2.1), .int (nI x.2.2.2.1), .int (nI x.2.2.2.2)])), (g0, aI cs 21 (tx_nf (fun d => if d < 20 then td d else ld d))), (k4, aI cs 20 (tx_nf td))] := hD
  exact rt_v hx hb hr hlocks () (trivial) hP hD hS dX1_copyYear_23
set_option maxHeartbeats 4000000 in
set_option maxRecDepth 100000 in
theorem c_X1_tally (l : Launch) (D : va_G) (cs : Nat → ClassId) (sz : Nat) (g : Nat) (g0 : Nat) (dd : Nat) (er : Int) (cg : Nat) (x : tx_5) (ld : Nat → Nat) (h : Nat) (k0 : Nat) (k1 : Nat) (k2 : Nat) (k3 : Nat) (k4 : Nat) (k5 : Nat) (n : Nat) (dy : Nat) (ch : Nat) (lw : Nat) (kd : Nat → Nat) (wo : Nat → Nat) (ha : Nat → Nat) (we : Nat → Nat) (hn : n ≤ 4) (hkd : ∀ e, kd e ≤ 5) (hld : ∀ e, ld e < 4) (hd1 : 1 ≤ dd) (hd2 : dd ≤ 21) : mV (S := Unit) l yX1_tally wsX1_tally ({ frames := 3, cells := 0, slots := 0, locals := 65 } : Room) D (tyc cs) sz [.ref g, .ref h] [(h, .inr (4, [.ref k0, .ref k1, .ref k2, .ref k3, .ref k4, .ref k5, .int (nI n), .int (nI dy), .int (nI ch), .int (nI lw)])), (k0, aI cs 4 (tx_nf kd)), (k1, aI cs 4 (tx_nf wo)), (k2, aI cs 4 (tx_nf ha)), (k3, aI cs 4 (tx_nf we)), (g0, aI cs 21 (tx_nf ld))] [(g, .inr (1, [.ref g0, .int (nI dd), .int (iI er), .int (nI cg), .int (nI x.1), .int (nI x.2.1), .int (nI x.2.2.1), .int (nI x.2.2.2.1), .int (nI x.2.2.2.2)]))] (fun (u : Unit) => True) (fun _ => [(g, .inr (1, [.ref g0, .int (nI dd), .int (iI (tx_earn n kd wo ha we ld dd ch)), .int (nI (tx_cg ld (dd - 1))), .int (nI ((tx_T n kd ld dd).1)), .int (nI ((tx_T n kd ld dd).2.1)), .int (nI ((tx_T n kd ld dd).2.2.1)), .int (nI ((tx_T n kd ld dd).2.2.2.1)), .int (nI ((tx_T n kd ld dd).2.2.2.2))]))]) 0 0 := by
  unfold mV
  refine Met.ofW (cc := cX1_tally) (maxL := 4) (ret := none) (by decide) rfl ?_
  intro p e s m args below meth c s₁ B hml hv
  obtain ⟨rfl, hsz, hP, hK, hD0⟩ := hv
  have hx := B.exec
  have hb := B.bytes
  have hr := B.returns
  have hts := atoms_spec (ws := wsX1_tally) B.pre
  have hown : s.vm.findClass RX1 = some m.cls := findClass_of_methodNamed B.named
  have hlocks := B.notSynchronized
  subst hsz
  have hR := @en_R _ _ _ [(h, .inr (4, [.ref k0, .ref k1, .ref k2, .ref k3, .ref k4, .ref k5, .int (nI n), .int (nI dy), .int (nI ch), .int (nI lw)])), (k0, aI cs 4 (tx_nf kd)), (k1, aI cs 4 (tx_nf wo)), (k2, aI cs 4 (tx_nf ha)), (k3, aI cs 4 (tx_nf we)), (g0, aI cs 21 (tx_nf ld))] [(g, .inr (1, [.ref g0, .int (nI dd), .int (iI er), .int (nI cg), .int (nI x.1), .int (nI x.2.1), .int (nI x.2.2.1), .int (nI x.2.2.2.1), .int (nI x.2.2.2.2)]))] _ hP hD0
  have hN := adN_of hD0
  have hD := en_D (wr := [(h, .inr (4, [.ref k0, .ref k1, .ref k2, .ref k3, .ref k4, .ref k5, .int (nI n), .int (nI dy), .int (nI ch), .int (nI lw)])), (k0, aI cs 4 (tx_nf kd)), (k1, aI cs 4 (tx_nf wo)), (k2, aI cs 4 (tx_nf ha)), (k3, aI cs 4 (tx_nf we)), (g0, aI cs 21 (tx_nf ld))]) (ww := [(g, .inr (1, [.ref g0, .int (nI dd), .int (iI er), .int (nI cg), .int (nI x.1), .int (nI x.2.1), .int (nI x.2.2.1), .int (nI x.2.2.2.1), .int (nI x.2.2.2.2)]))]) (sz := s.heap.size) hD0
  have hP := en_P (wr := [(h, .inr (4, [.ref k0, .ref k1, .ref k2, .ref k3, .ref k4, .ref k5, .int (nI n), .int (nI dy), .int (nI ch), .int (nI lw)])), (k0, aI cs 4 (tx_nf kd)), (k1, aI cs 4 (tx_nf wo)), (k2, aI cs 4 (tx_nf ha)), (k3, aI cs 4 (tx_nf we)), (g0, aI cs 21 (tx_nf ld))]) (ww := [(g, .inr (1, [.ref g0, .int (nI dd), .int (iI er), .int (nI cg), .int (nI x.1), .int (nI x.2.1), .int (nI x.2.2.1), .int (nI x.2.2.2.1), .int (nI x.2.2.2.2)]))]) hP
  generalize hAe : va_A [(g, .inr (1, [.ref g0, .int (nI dd), .int (iI er), .int (nI cg), .int (nI x.1), .int (nI x.2.1), .int (nI x.2.2.1), .int (nI x.2.2.2.1), .int (nI x.2.2.2.2)]))] s.heap.size = A at hD hR ⊢
  have hA : ∀ q : Nat, s.heap.size ≤ q → A q := fun q h => by rw [← hAe]; exact Or.inr h
  have hS : va_S A s.heap s.heap [] := va_S.rf
  have hN : adN [h, k0, k1, k2, k3, g0, g] := hN
  have hf_9 := hts (.fieldLink RX1 9 "TaxedByLongest$Look" "done" "[I") (by decide +kernel)
  have hf_15 := hts (.fieldLink RX1 15 "TaxedByLongest$Look" "days" "I") (by decide +kernel)
  have hf_19 := hts (.fieldLink RX1 19 "TaxedByLongest$Look" "earnings" "I") (by decide +kernel)
  have hf_22 := hts (.fieldLink RX1 22 "TaxedByLongest$Look" "changes" "I") (by decide +kernel)
  have hf_70 := hts (.fieldLink RX1 70 "TaxedByLongest$Told" "change" "I") (by decide +kernel)
  have in_X1 : ∀ w ∈ wsX10, w ∈ wsX1_tally := by decide +kernel
  have in_X4 : ∀ w ∈ wsX40, w ∈ wsX1_tally := by decide +kernel
  have hl := lv_entry ([.ref g, .ref h]) (n := 4) (Nat.le_of_ble_eq_true rfl)
  rw [lg_entry_eq]
  generalize (lg_sl ([.ref g, .ref h]) ++ List.replicate (4 - (lg_sl ([.ref g, .ref h])).length) Slot.unset).toArray = ls at hl ⊢
  have hl : lv_has ls 4 [(0, .ref g), (1, .ref h)] := hl
  refine lv_aload_n hx hb dX1_tally_0 rfl (lv_at hl 0 rfl) ?_
  refine cV_v (As := []) (rest := []) (cr := []) (cw1 := [(g, .inr (1, [.ref g0, .int (nI dd), .int (iI er), .int (nI cg), .int (nI x.1), .int (nI x.2.1), .int (nI x.2.2.1), .int (nI x.2.2.2.1), .int (nI x.2.2.2.2)]))]) ⟨hx, hb, hml, hown, hts⟩ (c_X1_clear l D cs _ g g0 dd er cg x ) (cwV 0 hts gX1_tally_X1_clear rfl rfl rfl (by decide +kernel) ⟨Nat.le_of_ble_eq_true rfl, Nat.le_of_ble_eq_true rfl⟩) hK hP hD hS hA (((hR hS).app hP).sub [6] rfl) (dt_of hN [6] (by decide) rfl) [0] rfl 0 rfl rfl rfl hl.1 rfl (Nat.le_of_ble_eq_true rfl) dX1_tally_1 ⟨Nat.le_of_ble_eq_true rfl, Nat.le_of_ble_eq_true rfl⟩ (fun _ => rfl) (fun _ => rfl) (fun u9 H locs hw_1 hP hD hS => ?_)
  have hP : va_P D vwCl [(g, .inr (1, [.ref g0, .int (nI dd), .int (iI 0), .int (nI 0), .int (nI (((0, 0, 0, 0, 0) : tx_5).1)), .int (nI (((0, 0, 0, 0, 0) : tx_5).2.1)), .int (nI (((0, 0, 0, 0, 0) : tx_5).2.2.1)), .int (nI (((0, 0, 0, 0, 0) : tx_5).2.2.2.1)), .int (nI (((0, 0, 0, 0, 0) : tx_5).2.2.2.2))]))] H := hP
  have hD : va_D A [(g, .inr (1, [.ref g0, .int (nI dd), .int (iI 0), .int (nI 0), .int (nI (((0, 0, 0, 0, 0) : tx_5).1)), .int (nI (((0, 0, 0, 0, 0) : tx_5).2.1)), .int (nI (((0, 0, 0, 0, 0) : tx_5).2.2.1)), .int (nI (((0, 0, 0, 0, 0) : tx_5).2.2.2.1)), .int (nI (((0, 0, 0, 0, 0) : tx_5).2.2.2.2))]))] := hD
  refine lv_iconst (v := 0) hx hb dX1_tally_4 (by decide) ?_
  refine lv_istore_n (lv' := [(2, .int 0), (0, .ref g), (1, .ref h)]) hx hb dX1_tally_5 rfl hl (by decide) rfl (fun ls hl => ?_)
  refine lv_iconst (v := 0) hx hb dX1_tally_6 (by decide) ?_
  refine lv_istore_n (lv' := [(3, .int 0), (2, .int 0), (0, .ref g), (1, .ref h)]) hx hb dX1_tally_7 rfl hl (by decide) rfl (fun ls hl => ?_)
  have loop8 : ∀ (n9 : Nat) (i : Nat) (pp : Nat) (xx : tx_5) (cc9 : Nat) (ee : Int) (hi : i ≤ dd) (hpp : pp = tx_pp ld i) (hxx : xx = tx_E n kd ld (i - 1)) (hcc : cc9 = tx_cg ld (i - 1)) (hee : ee = tx_er n kd wo ha we ld i), dd - i < n9 → ∀ (H : Heap) (locs : List Loc), va_P D vwCl [(g, .inr (1, [.ref g0, .int (nI dd), .int (iI ee), .int (nI cc9), .int (nI xx.1), .int (nI xx.2.1), .int (nI xx.2.2.1), .int (nI xx.2.2.2.1), .int (nI xx.2.2.2.2)]))] H → va_D A [(g, .inr (1, [.ref g0, .int (nI dd), .int (iI ee), .int (nI cc9), .int (nI xx.1), .int (nI xx.2.1), .int (nI xx.2.2.1), .int (nI xx.2.2.2.1), .int (nI xx.2.2.2.2)]))] → va_S A s.heap H locs → ∀ (ls : Array Slot), lv_has ls 4 [(0, .ref g), (1, .ref h), (2, .int (nI pp)), (3, .int (nI i))] → W p l e (headSpec wsX1_tally ({ frames := 3, cells := 0, slots := 0, locals := 65 } : Room)).room s m ([.ref g, .ref h] : List Value).toArray below meth c H locs 0 0 (MQ below (va_Qv (fun (u : Unit) => True) (QB D (fun _ => [(g, .inr (1, [.ref g0, .int (nI dd), .int (iI (tx_earn n kd wo ha we ld dd ch)), .int (nI (tx_cg ld (dd - 1))), .int (nI ((tx_T n kd ld dd).1)), .int (nI ((tx_T n kd ld dd).2.1)), .int (nI ((tx_T n kd ld dd).2.2.1)), .int (nI ((tx_T n kd ld dd).2.2.2.1)), .int (nI ((tx_T n kd ld dd).2.2.2.2))]))]) A) A) ([.ref g, .ref h] : List Value).toArray s 0 0 A) (F0 m 8 ls []) := by
    intro n9
    induction n9 with
    | zero => intros; omega
    | succ n9 ih8 =>
      intro i pp xx cc9 ee hi hpp hxx hcc hee hmu H locs hP hD hS ls hl
      refine lv_iload_n hx hb dX1_tally_8 rfl (lv_at hl 3 rfl) ?_
      refine lv_aload_n hx hb dX1_tally_9 rfl (lv_at hl 0 rfl) ?_
      refine va_get (D := D) (ci := 1) (v := .int (nI dd)) (C := RX1) (T := TX1) (N := 9) hx hb hts in_X1 hown hK hP 0 rfl rfl 1 (by decide) hf_15 (fun _ h9 => h9) rfl dX1_tally_10 ?_
      refine bn_ge (a := i) (b := dd) (tgt := 92) hx hb rfl rfl (by omega) (by omega) dX1_tally_13 (by decide) (fun c13 => ?_) (fun c13 => ?_)
      · refine lv_aload_n hx hb dX1_tally_92 rfl (lv_at hl 0 rfl) ?_
        have hple := tx_pp_le ld i
        have hEle := tx_E_le n kd ld (i - 1)
        refine va_get (D := D) (ci := 1) (v := .int (nI dd)) (C := RX1) (T := TX1) (N := 9) hx hb hts in_X1 hown hK hP 0 rfl rfl 1 (by decide) hf_15 (fun _ h9 => h9) rfl dX1_tally_93 ?_
        refine bz_le (a := dd) (tgt := 116) hx hb rfl (by omega) dX1_tally_96 (by decide) (fun c96 => ?_) (fun c96 => ?_)
        · exfalso; omega
        · refine lv_aload_n hx hb dX1_tally_99 rfl (lv_at hl 0 rfl) ?_
          refine lv_aload_n hx hb dX1_tally_100 rfl (lv_at hl 1 rfl) ?_
          refine lv_aload_n hx hb dX1_tally_101 rfl (lv_at hl 0 rfl) ?_
          refine va_get (D := D) (ci := 1) (v := .ref g0) (C := RX1) (T := TX1) (N := 9) hx hb hts in_X1 hown hK hP 0 rfl rfl 0 (by decide) hf_9 (fun _ h9 => h9) rfl dX1_tally_102 ?_
          refine lv_aload_n hx hb dX1_tally_105 rfl (lv_at hl 0 rfl) ?_
          refine va_get (D := D) (ci := 1) (v := .int (nI dd)) (C := RX1) (T := TX1) (N := 9) hx hb hts in_X1 hown hK hP 0 rfl rfl 1 (by decide) hf_15 (fun _ h9 => h9) rfl dX1_tally_106 ?_
          refine lv_iconst (v := 1) hx hb dX1_tally_109 (by decide) ?_
          refine lv_isub hx hb dX1_tally_110 ?_
          refine tp_i (pk_sub (a := dd) (b := 1) (by omega)) ?_
          refine ia_n (f := tx_nf ld) hx hb hK (hR hS) 5 0 rfl rfl (j := dd - 1) rfl (by omega) (by decide) dX1_tally_111 ?_
          refine tp_i (y := nI (ld (dd - 1))) rfl ?_
          refine lv_iload_n hx hb dX1_tally_112 rfl (lv_at hl 2 rfl) ?_
          refine cV_v (As := [.ref h, .int (nI (ld (dd - 1))), .int (nI pp)]) (rest := []) (cr := [(h, .inr (4, [.ref k0, .ref k1, .ref k2, .ref k3, .ref k4, .ref k5, .int (nI n), .int (nI dy), .int (nI ch), .int (nI lw)])), (k0, aI cs 4 (tx_nf kd))]) (cw1 := [(g, .inr (1, [.ref g0, .int (nI dd), .int (iI ee), .int (nI cc9), .int (nI xx.1), .int (nI xx.2.1), .int (nI xx.2.2.1), .int (nI xx.2.2.2.1), .int (nI xx.2.2.2.2)]))]) ⟨hx, hb, hml, hown, hts⟩ (c_X1_endStretch l D cs _ g g0 dd ee cc9 xx h k0 k1 k2 k3 k4 k5 n dy ch lw kd (ld (dd - 1)) pp (by first | assumption | omega) (hld _) (by first | assumption | omega) (by rw [hpp]; omega) (by rw [hxx]; omega) (by rw [hxx]; omega) (by rw [hxx]; omega) (by rw [hxx]; omega)) (cwV 3 hts gX1_tally_X1_endStretch rfl rfl rfl (by decide +kernel) ⟨Nat.le_of_ble_eq_true rfl, Nat.le_of_ble_eq_true rfl⟩) hK hP hD hS hA (((hR hS).app hP).sub [0, 1, 6] rfl) (dt_of hN [0, 1, 6] (by decide) rfl) [0] rfl 2 rfl rfl rfl hl.1 rfl (Nat.le_of_ble_eq_true rfl) dX1_tally_113 ⟨Nat.le_of_ble_eq_true rfl, Nat.le_of_ble_eq_true rfl⟩ (fun _ => rfl) (fun _ => rfl) (fun u9 H locs hw_2 hP hD hS => ?_)
          have hP : va_P D vwCl [(g, .inr (1, [.ref g0, .int (nI dd), .int (iI ee), .int (nI cc9), .int (nI ((tx_en (tx_tx n kd (ld (dd - 1))) pp xx).1)), .int (nI ((tx_en (tx_tx n kd (ld (dd - 1))) pp xx).2.1)), .int (nI ((tx_en (tx_tx n kd (ld (dd - 1))) pp xx).2.2.1)), .int (nI ((tx_en (tx_tx n kd (ld (dd - 1))) pp xx).2.2.2.1)), .int (nI ((tx_en (tx_tx n kd (ld (dd - 1))) pp xx).2.2.2.2))]))] H := hP
          have hD : va_D A [(g, .inr (1, [.ref g0, .int (nI dd), .int (iI ee), .int (nI cc9), .int (nI ((tx_en (tx_tx n kd (ld (dd - 1))) pp xx).1)), .int (nI ((tx_en (tx_tx n kd (ld (dd - 1))) pp xx).2.1)), .int (nI ((tx_en (tx_tx n kd (ld (dd - 1))) pp xx).2.2.1)), .int (nI ((tx_en (tx_tx n kd (ld (dd - 1))) pp xx).2.2.2.1)), .int (nI ((tx_en (tx_tx n kd (ld (dd - 1))) pp xx).2.2.2.2))]))] := hD
          refine lv_aload_n hx hb dX1_tally_116 rfl (lv_at hl 0 rfl) ?_
          refine lv_dup hx hb dX1_tally_117 rfl ?_
          refine va_get (D := D) (ci := 1) (v := .int (iI ee)) (C := RX1) (T := TX1) (N := 9) hx hb hts in_X1 hown hK hP 0 rfl rfl 2 (by decide) hf_19 (fun _ h9 => h9) rfl dX1_tally_118 ?_
          refine lv_aload_n hx hb dX1_tally_121 rfl (lv_at hl 0 rfl) ?_
          refine va_get (D := D) (ci := 1) (v := .int (nI cc9)) (C := RX1) (T := TX1) (N := 9) hx hb hts in_X1 hown hK hP 0 rfl rfl 3 (by decide) hf_22 (fun _ h9 => h9) rfl dX1_tally_122 ?_
          refine lv_aload_n hx hb dX1_tally_125 rfl (lv_at hl 1 rfl) ?_
          refine va_get (D := D) (ci := 4) (v := .int (nI ch)) (C := RX4) (T := TX4) (N := 10) hx hb hts in_X4 hown hK (hR hS) 0 rfl rfl 8 (by decide) hf_70 (fun _ h9 => h9) rfl dX1_tally_126 ?_
          refine lv_imul hx hb dX1_tally_129 ?_
          refine tp_i (pk_mul cc9 ch) ?_
          refine lv_isub hx hb dX1_tally_130 ?_
          refine tp_i (sub_iI (a := ee) (b := ((cc9 * ch : Nat) : Int)) rfl (nI_iI _)) ?_
          refine va_put (D := D) (ci := 1) (v := .int (iI (ee - ((cc9 * ch : Nat) : Int)))) (ty := .int) (C := RX1) (T := TX1) (N := 9) hx hb hts in_X1 tyX1 tyX1_ok nmX1 hown hK hP hD hS 0 rfl rfl 2 (by decide) hf_19 (fun _ h9 => h9) rfl (by decide +kernel) rfl rfl (Nat.le_of_ble_eq_true rfl) dX1_tally_131 (fun H locs hP hD hS => ?_)
          have hP : va_P D vwCl [(g, .inr (1, [.ref g0, .int (nI dd), .int (iI (ee - ((cc9 * ch : Nat) : Int))), .int (nI cc9), .int (nI ((tx_en (tx_tx n kd (ld (dd - 1))) pp xx).1)), .int (nI ((tx_en (tx_tx n kd (ld (dd - 1))) pp xx).2.1)), .int (nI ((tx_en (tx_tx n kd (ld (dd - 1))) pp xx).2.2.1)), .int (nI ((tx_en (tx_tx n kd (ld (dd - 1))) pp xx).2.2.2.1)), .int (nI ((tx_en (tx_tx n kd (ld (dd - 1))) pp xx).2.2.2.2))]))] H := hP
          have hD : va_D A [(g, .inr (1, [.ref g0, .int (nI dd), .int (iI (ee - ((cc9 * ch : Nat) : Int))), .int (nI cc9), .int (nI ((tx_en (tx_tx n kd (ld (dd - 1))) pp xx).1)), .int (nI ((tx_en (tx_tx n kd (ld (dd - 1))) pp xx).2.1)), .int (nI ((tx_en (tx_tx n kd (ld (dd - 1))) pp xx).2.2.1)), .int (nI ((tx_en (tx_tx n kd (ld (dd - 1))) pp xx).2.2.2.1)), .int (nI ((tx_en (tx_tx n kd (ld (dd - 1))) pp xx).2.2.2.2))]))] := hD
          have hid : i = dd := by omega
          subst hid
          have e8 : tx_earn n kd wo ha we ld i ch = ee - ((cc9 * ch : Nat) : Int) := by rw [tx_earn, hee, hcc, Int.natCast_mul]
          have e7 : tx_T n kd ld i = tx_en (tx_tx n kd (ld (i - 1))) pp xx := by rw [tx_T, hpp, hxx, tx_pp, if_neg (by omega)]
          rw [← e8, ← e7, hcc] at hP hD
          have e9 : i = i := rfl
          have hP : va_P D vwCl [(g, .inr (1, [.ref g0, .int (nI i), .int (iI (tx_earn n kd wo ha we ld i ch)), .int (nI (tx_cg ld (i - 1))), .int (nI ((tx_T n kd ld i).1)), .int (nI ((tx_T n kd ld i).2.1)), .int (nI ((tx_T n kd ld i).2.2.1)), .int (nI ((tx_T n kd ld i).2.2.2.1)), .int (nI ((tx_T n kd ld i).2.2.2.2))]))] H := by rw [e9]; exact hP
          have hD : va_D A [(g, .inr (1, [.ref g0, .int (nI i), .int (iI (tx_earn n kd wo ha we ld i ch)), .int (nI (tx_cg ld (i - 1))), .int (nI ((tx_T n kd ld i).1)), .int (nI ((tx_T n kd ld i).2.1)), .int (nI ((tx_T n kd ld i).2.2.1)), .int (nI ((tx_T n kd ld i).2.2.2.1)), .int (nI ((tx_T n kd ld i).2.2.2.2))]))] := by rw [e9]; exact hD
          exact rt_v hx hb hr hlocks () (trivial) hP hD hS dX1_tally_134
      · refine lv_iload_n hx hb dX1_tally_16 rfl (lv_at hl 3 rfl) ?_
        have hple := tx_pp_le ld i
        have hEle := tx_E_le n kd ld (i - 1)
        refine bz_le (a := i) (tgt := 63) hx hb rfl (by omega) dX1_tally_17 (by decide) (fun c17 => ?_) (fun c17 => ?_)
        · refine lv_iinc (v := nI (pp + 1)) (lv' := [(2, .int (nI (pp + 1))), (0, .ref g), (1, .ref h), (3, .int (nI i))]) hx hb dX1_tally_63 hl (k := 2) rfl (inc_n pp 1) (by decide) rfl (fun ls hl => ?_)
          refine lv_aload_n hx hb dX1_tally_66 rfl (lv_at hl 1 rfl) ?_
          refine lv_dup hx hb dX1_tally_67 rfl ?_
          refine va_get (D := D) (ci := 1) (v := .int (iI ee)) (C := RX1) (T := TX1) (N := 9) hx hb hts in_X1 hown hK hP 0 rfl rfl 2 (by decide) hf_19 (fun _ h9 => h9) rfl dX1_tally_68 ?_
          refine lv_aload_n hx hb dX1_tally_71 rfl (lv_at hl 2 rfl) ?_
          refine lv_aload_n hx hb dX1_tally_72 rfl (lv_at hl 1 rfl) ?_
          refine va_get (D := D) (ci := 1) (v := .ref g0) (C := RX1) (T := TX1) (N := 9) hx hb hts in_X1 hown hK hP 0 rfl rfl 0 (by decide) hf_9 (fun _ h9 => h9) rfl dX1_tally_73 ?_
          refine lv_iload_n hx hb dX1_tally_76 rfl (lv_at hl 3 rfl) ?_
          refine ia_n (f := tx_nf ld) hx hb hK (hR hS) 5 0 rfl rfl (j := i) rfl (by omega) (by decide) dX1_tally_77 ?_
          refine tp_i (y := nI (ld i)) rfl ?_
          refine lv_iload_n hx hb dX1_tally_78 rfl (lv_at hl 0 rfl) ?_
          refine cV_i (As := [.int (nI (ld i)), .int (nI (pp + 1))]) (rest := [.int (iI ee), .ref g]) (cr := [(h, .inr (4, [.ref k0, .ref k1, .ref k2, .ref k3, .ref k4, .ref k5, .int (nI n), .int (nI dy), .int (nI ch), .int (nI lw)])), (k0, aI cs 4 (tx_nf kd)), (k1, aI cs 4 (tx_nf wo)), (k2, aI cs 4 (tx_nf ha)), (k3, aI cs 4 (tx_nf we))]) (cw1 := []) ⟨hx, hb, hml, hown, hts⟩ (c_X4_valueOf l D cs _ h k0 k1 k2 k3 k4 k5 n dy ch lw kd wo ha we (ld i) (pp + 1) (by first | assumption | omega) (hld _) (by first | decide | (rw [hpp]; omega)) (by first | assumption | omega)) (cwV 2 hts gX1_tally_X4_valueOf rfl rfl rfl (by decide +kernel) ⟨Nat.le_of_ble_eq_true rfl, Nat.le_of_ble_eq_true rfl⟩) hK hP hD hS hA (((hR hS).app hP).sub [0, 1, 2, 3, 4] rfl) (dt_of hN [0, 1, 2, 3, 4] (by decide) rfl) [] rfl 0 rfl rfl rfl hl.1 rfl (Nat.le_of_ble_eq_true rfl) dX1_tally_79 ⟨Nat.le_of_ble_eq_true rfl, Nat.le_of_ble_eq_true rfl⟩ (fun _ => rfl) (fun _ => rfl) (fun r_3 u9 H locs hw_4 hP hD hS => ?_)
          have hP : va_P D vwCl [(g, .inr (1, [.ref g0, .int (nI dd), .int (iI ee), .int (nI cc9), .int (nI xx.1), .int (nI xx.2.1), .int (nI xx.2.2.1), .int (nI xx.2.2.2.1), .int (nI xx.2.2.2.2)]))] H := hP
          have hD : va_D A [(g, .inr (1, [.ref g0, .int (nI dd), .int (iI ee), .int (nI cc9), .int (nI xx.1), .int (nI xx.2.1), .int (nI xx.2.2.1), .int (nI xx.2.2.2.1), .int (nI xx.2.2.2.2)]))] := hD
          subst r_3
          refine lv_iadd hx hb dX1_tally_82 ?_
          refine tp_i (add_iI (a := ee) (b := tx_vn n kd wo ha we (ld i) (pp + 1)) rfl rfl) ?_
          refine va_put (D := D) (ci := 1) (v := .int (iI (ee + (tx_vn n kd wo ha we (ld i) (pp + 1))))) (ty := .int) (C := RX1) (T := TX1) (N := 9) hx hb hts in_X1 tyX1 tyX1_ok nmX1 hown hK hP hD hS 0 rfl rfl 2 (by decide) hf_19 (fun _ h9 => h9) rfl (by decide +kernel) rfl rfl (Nat.le_of_ble_eq_true rfl) dX1_tally_83 (fun H locs hP hD hS => ?_)
          have hP : va_P D vwCl [(g, .inr (1, [.ref g0, .int (nI dd), .int (iI (ee + (tx_vn n kd wo ha we (ld i) (pp + 1)))), .int (nI cc9), .int (nI xx.1), .int (nI xx.2.1), .int (nI xx.2.2.1), .int (nI xx.2.2.2.1), .int (nI xx.2.2.2.2)]))] H := hP
          have hD : va_D A [(g, .inr (1, [.ref g0, .int (nI dd), .int (iI (ee + (tx_vn n kd wo ha we (ld i) (pp + 1)))), .int (nI cc9), .int (nI xx.1), .int (nI xx.2.1), .int (nI xx.2.2.1), .int (nI xx.2.2.2.1), .int (nI xx.2.2.2.2)]))] := hD
          refine lv_iinc (v := nI (i + 1)) (lv' := [(3, .int (nI (i + 1))), (2, .int (nI (pp + 1))), (0, .ref g), (1, .ref h)]) hx hb dX1_tally_86 hl (k := 3) rfl (inc_n i 1) (by decide) rfl (fun ls hl => ?_)
          refine lv_goto (tgt := 8) hx hb dX1_tally_89 (by decide) ?_
          exact ih8 (i + 1) (pp + 1) xx cc9 (ee + (tx_vn n kd wo ha we (ld i) (pp + 1))) (by first | assumption | omega) (by subst c17; rw [hpp]; rfl) (by subst c17; exact hxx) (by subst c17; exact hcc) (by subst c17; rw [hee, hpp]; rfl) (by omega) _ _ hP hD hS ls (lv_sub hl [2, 3, 1, 0] rfl)
        · refine lv_aload_n hx hb dX1_tally_20 rfl (lv_at hl 0 rfl) ?_
          refine va_get (D := D) (ci := 1) (v := .ref g0) (C := RX1) (T := TX1) (N := 9) hx hb hts in_X1 hown hK hP 0 rfl rfl 0 (by decide) hf_9 (fun _ h9 => h9) rfl dX1_tally_21 ?_
          refine lv_iload_n hx hb dX1_tally_24 rfl (lv_at hl 3 rfl) ?_
          refine ia_n (f := tx_nf ld) hx hb hK (hR hS) 5 0 rfl rfl (j := i) rfl (by omega) (by decide) dX1_tally_25 ?_
          refine tp_i (y := nI (ld i)) rfl ?_
          refine lv_aload_n hx hb dX1_tally_26 rfl (lv_at hl 0 rfl) ?_
          refine va_get (D := D) (ci := 1) (v := .ref g0) (C := RX1) (T := TX1) (N := 9) hx hb hts in_X1 hown hK hP 0 rfl rfl 0 (by decide) hf_9 (fun _ h9 => h9) rfl dX1_tally_27 ?_
          refine lv_iload_n hx hb dX1_tally_30 rfl (lv_at hl 3 rfl) ?_
          refine lv_iconst (v := 1) hx hb dX1_tally_31 (by decide) ?_
          refine lv_isub hx hb dX1_tally_32 ?_
          refine tp_i (pk_sub (a := i) (b := 1) (by omega)) ?_
          refine ia_n (f := tx_nf ld) hx hb hK (hR hS) 5 0 rfl rfl (j := i - 1) rfl (by omega) (by decide) dX1_tally_33 ?_
          refine tp_i (y := nI (ld (i - 1))) rfl ?_
          have := hld i
          have := hld (i - 1)
          refine bn_eq (a := ld i) (b := ld (i - 1)) (tgt := 63) hx hb rfl rfl (by omega) (by omega) dX1_tally_34 (by decide) (fun c34 => ?_) (fun c34 => ?_)
          · refine lv_iinc (v := nI (pp + 1)) (lv' := [(2, .int (nI (pp + 1))), (0, .ref g), (1, .ref h), (3, .int (nI i))]) hx hb dX1_tally_63 hl (k := 2) rfl (inc_n pp 1) (by decide) rfl (fun ls hl => ?_)
            refine lv_aload_n hx hb dX1_tally_66 rfl (lv_at hl 1 rfl) ?_
            refine lv_dup hx hb dX1_tally_67 rfl ?_
            refine va_get (D := D) (ci := 1) (v := .int (iI ee)) (C := RX1) (T := TX1) (N := 9) hx hb hts in_X1 hown hK hP 0 rfl rfl 2 (by decide) hf_19 (fun _ h9 => h9) rfl dX1_tally_68 ?_
            refine lv_aload_n hx hb dX1_tally_71 rfl (lv_at hl 2 rfl) ?_
            refine lv_aload_n hx hb dX1_tally_72 rfl (lv_at hl 1 rfl) ?_
            refine va_get (D := D) (ci := 1) (v := .ref g0) (C := RX1) (T := TX1) (N := 9) hx hb hts in_X1 hown hK hP 0 rfl rfl 0 (by decide) hf_9 (fun _ h9 => h9) rfl dX1_tally_73 ?_
            refine lv_iload_n hx hb dX1_tally_76 rfl (lv_at hl 3 rfl) ?_
            refine ia_n (f := tx_nf ld) hx hb hK (hR hS) 5 0 rfl rfl (j := i) rfl (by omega) (by decide) dX1_tally_77 ?_
            refine tp_i (y := nI (ld i)) rfl ?_
            refine lv_iload_n hx hb dX1_tally_78 rfl (lv_at hl 0 rfl) ?_
            refine cV_i (As := [.int (nI (ld i)), .int (nI (pp + 1))]) (rest := [.int (iI ee), .ref g]) (cr := [(h, .inr (4, [.ref k0, .ref k1, .ref k2, .ref k3, .ref k4, .ref k5, .int (nI n), .int (nI dy), .int (nI ch), .int (nI lw)])), (k0, aI cs 4 (tx_nf kd)), (k1, aI cs 4 (tx_nf wo)), (k2, aI cs 4 (tx_nf ha)), (k3, aI cs 4 (tx_nf we))]) (cw1 := []) ⟨hx, hb, hml, hown, hts⟩ (c_X4_valueOf l D cs _ h k0 k1 k2 k3 k4 k5 n dy ch lw kd wo ha we (ld i) (pp + 1) (by first | assumption | omega) (hld _) (by first | decide | (rw [hpp]; omega)) (by first | assumption | omega)) (cwV 2 hts gX1_tally_X4_valueOf rfl rfl rfl (by decide +kernel) ⟨Nat.le_of_ble_eq_true rfl, Nat.le_of_ble_eq_true rfl⟩) hK hP hD hS hA (((hR hS).app hP).sub [0, 1, 2, 3, 4] rfl) (dt_of hN [0, 1, 2, 3, 4] (by decide) rfl) [] rfl 0 rfl rfl rfl hl.1 rfl (Nat.le_of_ble_eq_true rfl) dX1_tally_79 ⟨Nat.le_of_ble_eq_true rfl, Nat.le_of_ble_eq_true rfl⟩ (fun _ => rfl) (fun _ => rfl) (fun r_5 u9 H locs hw_6 hP hD hS => ?_)
            have hP : va_P D vwCl [(g, .inr (1, [.ref g0, .int (nI dd), .int (iI ee), .int (nI cc9), .int (nI xx.1), .int (nI xx.2.1), .int (nI xx.2.2.1), .int (nI xx.2.2.2.1), .int (nI xx.2.2.2.2)]))] H := hP
            have hD : va_D A [(g, .inr (1, [.ref g0, .int (nI dd), .int (iI ee), .int (nI cc9), .int (nI xx.1), .int (nI xx.2.1), .int (nI xx.2.2.1), .int (nI xx.2.2.2.1), .int (nI xx.2.2.2.2)]))] := hD
            subst r_5
            refine lv_iadd hx hb dX1_tally_82 ?_
            refine tp_i (add_iI (a := ee) (b := tx_vn n kd wo ha we (ld i) (pp + 1)) rfl rfl) ?_
            refine va_put (D := D) (ci := 1) (v := .int (iI (ee + (tx_vn n kd wo ha we (ld i) (pp + 1))))) (ty := .int) (C := RX1) (T := TX1) (N := 9) hx hb hts in_X1 tyX1 tyX1_ok nmX1 hown hK hP hD hS 0 rfl rfl 2 (by decide) hf_19 (fun _ h9 => h9) rfl (by decide +kernel) rfl rfl (Nat.le_of_ble_eq_true rfl) dX1_tally_83 (fun H locs hP hD hS => ?_)
            have hP : va_P D vwCl [(g, .inr (1, [.ref g0, .int (nI dd), .int (iI (ee + (tx_vn n kd wo ha we (ld i) (pp + 1)))), .int (nI cc9), .int (nI xx.1), .int (nI xx.2.1), .int (nI xx.2.2.1), .int (nI xx.2.2.2.1), .int (nI xx.2.2.2.2)]))] H := hP
            have hD : va_D A [(g, .inr (1, [.ref g0, .int (nI dd), .int (iI (ee + (tx_vn n kd wo ha we (ld i) (pp + 1)))), .int (nI cc9), .int (nI xx.1), .int (nI xx.2.1), .int (nI xx.2.2.1), .int (nI xx.2.2.2.1), .int (nI xx.2.2.2.2)]))] := hD
            refine lv_iinc (v := nI (i + 1)) (lv' := [(3, .int (nI (i + 1))), (2, .int (nI (pp + 1))), (0, .ref g), (1, .ref h)]) hx hb dX1_tally_86 hl (k := 3) rfl (inc_n i 1) (by decide) rfl (fun ls hl => ?_)
            refine lv_goto (tgt := 8) hx hb dX1_tally_89 (by decide) ?_
            exact ih8 (i + 1) (pp + 1) xx cc9 (ee + (tx_vn n kd wo ha we (ld i) (pp + 1))) (by first | assumption | omega) (by show _ = tx_pp ld (i + 1); rw [tx_pp_s c17 c34, hpp]) (by show _ = tx_E n kd ld i; rw [tx_E_s c17 c34, hxx]) (by show _ = tx_cg ld i; rw [tx_cg_s c17 c34, hcc]) (by rw [hee]; show _ = tx_er n kd wo ha we ld i + _; rw [← tx_pp_1, tx_pp_s c17 c34, hpp]) (by omega) _ _ hP hD hS ls (lv_sub hl [2, 3, 1, 0] rfl)
          · refine lv_aload_n hx hb dX1_tally_37 rfl (lv_at hl 0 rfl) ?_
            refine lv_aload_n hx hb dX1_tally_38 rfl (lv_at hl 1 rfl) ?_
            refine lv_aload_n hx hb dX1_tally_39 rfl (lv_at hl 0 rfl) ?_
            refine va_get (D := D) (ci := 1) (v := .ref g0) (C := RX1) (T := TX1) (N := 9) hx hb hts in_X1 hown hK hP 0 rfl rfl 0 (by decide) hf_9 (fun _ h9 => h9) rfl dX1_tally_40 ?_
            refine lv_iload_n hx hb dX1_tally_43 rfl (lv_at hl 3 rfl) ?_
            refine lv_iconst (v := 1) hx hb dX1_tally_44 (by decide) ?_
            refine lv_isub hx hb dX1_tally_45 ?_
            refine tp_i (pk_sub (a := i) (b := 1) (by omega)) ?_
            refine ia_n (f := tx_nf ld) hx hb hK (hR hS) 5 0 rfl rfl (j := i - 1) rfl (by omega) (by decide) dX1_tally_46 ?_
            refine tp_i (y := nI (ld (i - 1))) rfl ?_
            refine lv_iload_n hx hb dX1_tally_47 rfl (lv_at hl 2 rfl) ?_
            refine cV_v (As := [.ref h, .int (nI (ld (i - 1))), .int (nI pp)]) (rest := []) (cr := [(h, .inr (4, [.ref k0, .ref k1, .ref k2, .ref k3, .ref k4, .ref k5, .int (nI n), .int (nI dy), .int (nI ch), .int (nI lw)])), (k0, aI cs 4 (tx_nf kd))]) (cw1 := [(g, .inr (1, [.ref g0, .int (nI dd), .int (iI ee), .int (nI cc9), .int (nI xx.1), .int (nI xx.2.1), .int (nI xx.2.2.1), .int (nI xx.2.2.2.1), .int (nI xx.2.2.2.2)]))]) ⟨hx, hb, hml, hown, hts⟩ (c_X1_endStretch l D cs _ g g0 dd ee cc9 xx h k0 k1 k2 k3 k4 k5 n dy ch lw kd (ld (i - 1)) pp (by first | assumption | omega) (hld _) (by first | assumption | omega) (by rw [hpp]; omega) (by rw [hxx]; omega) (by rw [hxx]; omega) (by rw [hxx]; omega) (by rw [hxx]; omega)) (cwV 3 hts gX1_tally_X1_endStretch rfl rfl rfl (by decide +kernel) ⟨Nat.le_of_ble_eq_true rfl, Nat.le_of_ble_eq_true rfl⟩) hK hP hD hS hA (((hR hS).app hP).sub [0, 1, 6] rfl) (dt_of hN [0, 1, 6] (by decide) rfl) [0] rfl 2 rfl rfl rfl hl.1 rfl (Nat.le_of_ble_eq_true rfl) dX1_tally_48 ⟨Nat.le_of_ble_eq_true rfl, Nat.le_of_ble_eq_true rfl⟩ (fun _ => rfl) (fun _ => rfl) (fun u9 H locs hw_7 hP hD hS => ?_)
            have hP : va_P D vwCl [(g, .inr (1, [.ref g0, .int (nI dd), .int (iI ee), .int (nI cc9), .int (nI ((tx_en (tx_tx n kd (ld (i - 1))) pp xx).1)), .int (nI ((tx_en (tx_tx n kd (ld (i - 1))) pp xx).2.1)), .int (nI ((tx_en (tx_tx n kd (ld (i - 1))) pp xx).2.2.1)), .int (nI ((tx_en (tx_tx n kd (ld (i - 1))) pp xx).2.2.2.1)), .int (nI ((tx_en (tx_tx n kd (ld (i - 1))) pp xx).2.2.2.2))]))] H := hP
            have hD : va_D A [(g, .inr (1, [.ref g0, .int (nI dd), .int (iI ee), .int (nI cc9), .int (nI ((tx_en (tx_tx n kd (ld (i - 1))) pp xx).1)), .int (nI ((tx_en (tx_tx n kd (ld (i - 1))) pp xx).2.1)), .int (nI ((tx_en (tx_tx n kd (ld (i - 1))) pp xx).2.2.1)), .int (nI ((tx_en (tx_tx n kd (ld (i - 1))) pp xx).2.2.2.1)), .int (nI ((tx_en (tx_tx n kd (ld (i - 1))) pp xx).2.2.2.2))]))] := hD
            refine lv_aload_n hx hb dX1_tally_51 rfl (lv_at hl 0 rfl) ?_
            refine lv_dup hx hb dX1_tally_52 rfl ?_
            refine va_get (D := D) (ci := 1) (v := .int (nI cc9)) (C := RX1) (T := TX1) (N := 9) hx hb hts in_X1 hown hK hP 0 rfl rfl 3 (by decide) hf_22 (fun _ h9 => h9) rfl dX1_tally_53 ?_
            refine lv_iconst (v := 1) hx hb dX1_tally_56 (by decide) ?_
            refine lv_iadd hx hb dX1_tally_57 ?_
            refine tp_i (nI_add cc9 1) ?_
            refine va_put (D := D) (ci := 1) (v := .int (nI (cc9 + 1))) (ty := .int) (C := RX1) (T := TX1) (N := 9) hx hb hts in_X1 tyX1 tyX1_ok nmX1 hown hK hP hD hS 0 rfl rfl 3 (by decide) hf_22 (fun _ h9 => h9) rfl (by decide +kernel) rfl rfl (Nat.le_of_ble_eq_true rfl) dX1_tally_58 (fun H locs hP hD hS => ?_)
            have hP : va_P D vwCl [(g, .inr (1, [.ref g0, .int (nI dd), .int (iI ee), .int (nI (cc9 + 1)), .int (nI ((tx_en (tx_tx n kd (ld (i - 1))) pp xx).1)), .int (nI ((tx_en (tx_tx n kd (ld (i - 1))) pp xx).2.1)), .int (nI ((tx_en (tx_tx n kd (ld (i - 1))) pp xx).2.2.1)), .int (nI ((tx_en (tx_tx n kd (ld (i - 1))) pp xx).2.2.2.1)), .int (nI ((tx_en (tx_tx n kd (ld (i - 1))) pp xx).2.2.2.2))]))] H := hP
            have hD : va_D A [(g, .inr (1, [.ref g0, .int (nI dd), .int (iI ee), .int (nI (cc9 + 1)), .int (nI ((tx_en (tx_tx n kd (ld (i - 1))) pp xx).1)), .int (nI ((tx_en (tx_tx n kd (ld (i - 1))) pp xx).2.1)), .int (nI ((tx_en (tx_tx n kd (ld (i - 1))) pp xx).2.2.1)), .int (nI ((tx_en (tx_tx n kd (ld (i - 1))) pp xx).2.2.2.1)), .int (nI ((tx_en (tx_tx n kd (ld (i - 1))) pp xx).2.2.2.2))]))] := hD
            refine lv_iconst (v := 0) hx hb dX1_tally_61 (by decide) ?_
            refine lv_istore_n (lv' := [(2, .int 0), (0, .ref g), (1, .ref h), (3, .int (nI i))]) hx hb dX1_tally_62 rfl hl (by decide) rfl (fun ls hl => ?_)
            refine lv_iinc (v := nI 1) (lv' := [(2, .int (nI 1)), (0, .ref g), (1, .ref h), (3, .int (nI i))]) hx hb dX1_tally_63 hl (k := 0) rfl (by decide) (by decide) rfl (fun ls hl => ?_)
            refine lv_aload_n hx hb dX1_tally_66 rfl (lv_at hl 1 rfl) ?_
            refine lv_dup hx hb dX1_tally_67 rfl ?_
            refine va_get (D := D) (ci := 1) (v := .int (iI ee)) (C := RX1) (T := TX1) (N := 9) hx hb hts in_X1 hown hK hP 0 rfl rfl 2 (by decide) hf_19 (fun _ h9 => h9) rfl dX1_tally_68 ?_
            refine lv_aload_n hx hb dX1_tally_71 rfl (lv_at hl 2 rfl) ?_
            refine lv_aload_n hx hb dX1_tally_72 rfl (lv_at hl 1 rfl) ?_
            refine va_get (D := D) (ci := 1) (v := .ref g0) (C := RX1) (T := TX1) (N := 9) hx hb hts in_X1 hown hK hP 0 rfl rfl 0 (by decide) hf_9 (fun _ h9 => h9) rfl dX1_tally_73 ?_
            refine lv_iload_n hx hb dX1_tally_76 rfl (lv_at hl 3 rfl) ?_
            refine ia_n (f := tx_nf ld) hx hb hK (hR hS) 5 0 rfl rfl (j := i) rfl (by omega) (by decide) dX1_tally_77 ?_
            refine tp_i (y := nI (ld i)) rfl ?_
            refine lv_iload_n hx hb dX1_tally_78 rfl (lv_at hl 0 rfl) ?_
            refine cV_i (As := [.int (nI (ld i)), .int (nI 1)]) (rest := [.int (iI ee), .ref g]) (cr := [(h, .inr (4, [.ref k0, .ref k1, .ref k2, .ref k3, .ref k4, .ref k5, .int (nI n), .int (nI dy), .int (nI ch), .int (nI lw)])), (k0, aI cs 4 (tx_nf kd)), (k1, aI cs 4 (tx_nf wo)), (k2, aI cs 4 (tx_nf ha)), (k3, aI cs 4 (tx_nf we))]) (cw1 := []) ⟨hx, hb, hml, hown, hts⟩ (c_X4_valueOf l D cs _ h k0 k1 k2 k3 k4 k5 n dy ch lw kd wo ha we (ld i) 1 (by first | assumption | omega) (hld _) (by first | decide | (rw [hpp]; omega)) (by first | assumption | omega)) (cwV 2 hts gX1_tally_X4_valueOf rfl rfl rfl (by decide +kernel) ⟨Nat.le_of_ble_eq_true rfl, Nat.le_of_ble_eq_true rfl⟩) hK hP hD hS hA (((hR hS).app hP).sub [0, 1, 2, 3, 4] rfl) (dt_of hN [0, 1, 2, 3, 4] (by decide) rfl) [] rfl 0 rfl rfl rfl hl.1 rfl (Nat.le_of_ble_eq_true rfl) dX1_tally_79 ⟨Nat.le_of_ble_eq_true rfl, Nat.le_of_ble_eq_true rfl⟩ (fun _ => rfl) (fun _ => rfl) (fun r_8 u9 H locs hw_9 hP hD hS => ?_)
            have hP : va_P D vwCl [(g, .inr (1, [.ref g0, .int (nI dd), .int (iI ee), .int (nI (cc9 + 1)), .int (nI ((tx_en (tx_tx n kd (ld (i - 1))) pp xx).1)), .int (nI ((tx_en (tx_tx n kd (ld (i - 1))) pp xx).2.1)), .int (nI ((tx_en (tx_tx n kd (ld (i - 1))) pp xx).2.2.1)), .int (nI ((tx_en (tx_tx n kd (ld (i - 1))) pp xx).2.2.2.1)), .int (nI ((tx_en (tx_tx n kd (ld (i - 1))) pp xx).2.2.2.2))]))] H := hP
            have hD : va_D A [(g, .inr (1, [.ref g0, .int (nI dd), .int (iI ee), .int (nI (cc9 + 1)), .int (nI ((tx_en (tx_tx n kd (ld (i - 1))) pp xx).1)), .int (nI ((tx_en (tx_tx n kd (ld (i - 1))) pp xx).2.1)), .int (nI ((tx_en (tx_tx n kd (ld (i - 1))) pp xx).2.2.1)), .int (nI ((tx_en (tx_tx n kd (ld (i - 1))) pp xx).2.2.2.1)), .int (nI ((tx_en (tx_tx n kd (ld (i - 1))) pp xx).2.2.2.2))]))] := hD
            subst r_8
            refine lv_iadd hx hb dX1_tally_82 ?_
            refine tp_i (add_iI (a := ee) (b := tx_vn n kd wo ha we (ld i) 1) rfl rfl) ?_
            refine va_put (D := D) (ci := 1) (v := .int (iI (ee + (tx_vn n kd wo ha we (ld i) 1)))) (ty := .int) (C := RX1) (T := TX1) (N := 9) hx hb hts in_X1 tyX1 tyX1_ok nmX1 hown hK hP hD hS 0 rfl rfl 2 (by decide) hf_19 (fun _ h9 => h9) rfl (by decide +kernel) rfl rfl (Nat.le_of_ble_eq_true rfl) dX1_tally_83 (fun H locs hP hD hS => ?_)
            have hP : va_P D vwCl [(g, .inr (1, [.ref g0, .int (nI dd), .int (iI (ee + (tx_vn n kd wo ha we (ld i) 1))), .int (nI (cc9 + 1)), .int (nI ((tx_en (tx_tx n kd (ld (i - 1))) pp xx).1)), .int (nI ((tx_en (tx_tx n kd (ld (i - 1))) pp xx).2.1)), .int (nI ((tx_en (tx_tx n kd (ld (i - 1))) pp xx).2.2.1)), .int (nI ((tx_en (tx_tx n kd (ld (i - 1))) pp xx).2.2.2.1)), .int (nI ((tx_en (tx_tx n kd (ld (i - 1))) pp xx).2.2.2.2))]))] H := hP
            have hD : va_D A [(g, .inr (1, [.ref g0, .int (nI dd), .int (iI (ee + (tx_vn n kd wo ha we (ld i) 1))), .int (nI (cc9 + 1)), .int (nI ((tx_en (tx_tx n kd (ld (i - 1))) pp xx).1)), .int (nI ((tx_en (tx_tx n kd (ld (i - 1))) pp xx).2.1)), .int (nI ((tx_en (tx_tx n kd (ld (i - 1))) pp xx).2.2.1)), .int (nI ((tx_en (tx_tx n kd (ld (i - 1))) pp xx).2.2.2.1)), .int (nI ((tx_en (tx_tx n kd (ld (i - 1))) pp xx).2.2.2.2))]))] := hD
            refine lv_iinc (v := nI (i + 1)) (lv' := [(3, .int (nI (i + 1))), (2, .int (nI 1)), (0, .ref g), (1, .ref h)]) hx hb dX1_tally_86 hl (k := 3) rfl (inc_n i 1) (by decide) rfl (fun ls hl => ?_)
            refine lv_goto (tgt := 8) hx hb dX1_tally_89 (by decide) ?_
            exact ih8 (i + 1) 1 (tx_en (tx_tx n kd (ld (i - 1))) pp xx) (cc9 + 1) (ee + (tx_vn n kd wo ha we (ld i) 1)) (by first | assumption | omega) (by show _ = tx_pp ld (i + 1); rw [tx_pp_n c17 c34]) (by show _ = tx_E n kd ld i; rw [tx_E_n c17 c34, hxx, hpp]) (by show _ = tx_cg ld i; rw [tx_cg_n c17 c34, hcc]) (by rw [hee]; show _ = tx_er n kd wo ha we ld i + _; rw [← tx_pp_1, tx_pp_n c17 c34]) (by omega) _ _ hP hD hS ls (lv_sub hl [2, 3, 1, 0] rfl)
  exact loop8 _ 0 0 ((0, 0, 0, 0, 0) : tx_5) 0 0 (by first | assumption | omega) rfl rfl rfl rfl (Nat.lt_succ_self _) _ _ hP hD hS ls (lv_sub hl [2, 3, 1, 0] rfl)
set_option maxHeartbeats 4000000 in
set_option maxRecDepth 100000 in
theorem c_X1_drawYear (l : Launch) (D : va_G) (cs : Nat → ClassId) (sz : Nat) (g : Nat) (g0 : Nat) (dd : Nat) (er : Int) (cg : Nat) (x : tx_5) (ld : Nat → Nat) (h : Nat) (k0 : Nat) (k1 : Nat) (k2 : Nat) (k3 : Nat) (k4 : Nat) (k5 : Nat) (n : Nat) (dy : Nat) (ch : Nat) (lw : Nat) (bo : Nat → Option Nat) (z : Int32) (hn : n ≤ 4) (hn0 : 0 < n) (hdy : dy ≤ 20) (hbo : tx_okb bo) : mI (S := Unit) l yX1_drawYear wsX1_drawYear ({ frames := 0, cells := 0, slots := 0, locals := 0 } : Room) D (tyc cs) sz [.ref g, .ref h, .int z] [(h, .inr (4, [.ref k0, .ref k1, .ref k2, .ref k3, .ref k4, .ref k5, .int (nI n), .int (nI dy), .int (nI ch), .int (nI lw)])), (k5, aI cs 20 (tx_bf bo))] [(g, .inr (1, [.ref g0, .int (nI dd), .int (iI er), .int (nI cg), .int (nI x.1), .int (nI x.2.1), .int (nI x.2.2.1), .int (nI x.2.2.2.1), .int (nI x.2.2.2.2)])), (g0, aI cs 21 (tx_nf ld))] (fun (r : Int32) (u : Unit) => r = tx_dz bo z dy) (fun _ => [(g, .inr (1, [.ref g0, .int (nI dy), .int (iI er), .int (nI cg), .int (nI x.1), .int (nI x.2.1), .int (nI x.2.2.1), .int (nI x.2.2.2.1), .int (nI x.2.2.2.2)])), (g0, aI cs 21 (tx_nf (fun d => if d < dy then tx_dd bo n z d else ld d)))]) 0 0 := by
  unfold mI
  refine Met.ofW (cc := cX1_drawYear) (maxL := 5) (ret := (some .int)) (by decide) rfl ?_
  intro p e s m args below meth c s₁ B hml hv
  obtain ⟨rfl, hsz, hP, hK, hD0⟩ := hv
  have hx := B.exec
  have hb := B.bytes
  have hr := B.returns
  have hts := atoms_spec (ws := wsX1_drawYear) B.pre
  have hown : s.vm.findClass RX1 = some m.cls := findClass_of_methodNamed B.named
  have hlocks := B.notSynchronized
  subst hsz
  have hR := @en_R _ _ _ [(h, .inr (4, [.ref k0, .ref k1, .ref k2, .ref k3, .ref k4, .ref k5, .int (nI n), .int (nI dy), .int (nI ch), .int (nI lw)])), (k5, aI cs 20 (tx_bf bo))] [(g, .inr (1, [.ref g0, .int (nI dd), .int (iI er), .int (nI cg), .int (nI x.1), .int (nI x.2.1), .int (nI x.2.2.1), .int (nI x.2.2.2.1), .int (nI x.2.2.2.2)])), (g0, aI cs 21 (tx_nf ld))] _ hP hD0
  have hN := adN_of hD0
  have hD := en_D (wr := [(h, .inr (4, [.ref k0, .ref k1, .ref k2, .ref k3, .ref k4, .ref k5, .int (nI n), .int (nI dy), .int (nI ch), .int (nI lw)])), (k5, aI cs 20 (tx_bf bo))]) (ww := [(g, .inr (1, [.ref g0, .int (nI dd), .int (iI er), .int (nI cg), .int (nI x.1), .int (nI x.2.1), .int (nI x.2.2.1), .int (nI x.2.2.2.1), .int (nI x.2.2.2.2)])), (g0, aI cs 21 (tx_nf ld))]) (sz := s.heap.size) hD0
  have hP := en_P (wr := [(h, .inr (4, [.ref k0, .ref k1, .ref k2, .ref k3, .ref k4, .ref k5, .int (nI n), .int (nI dy), .int (nI ch), .int (nI lw)])), (k5, aI cs 20 (tx_bf bo))]) (ww := [(g, .inr (1, [.ref g0, .int (nI dd), .int (iI er), .int (nI cg), .int (nI x.1), .int (nI x.2.1), .int (nI x.2.2.1), .int (nI x.2.2.2.1), .int (nI x.2.2.2.2)])), (g0, aI cs 21 (tx_nf ld))]) hP
  generalize hAe : va_A [(g, .inr (1, [.ref g0, .int (nI dd), .int (iI er), .int (nI cg), .int (nI x.1), .int (nI x.2.1), .int (nI x.2.2.1), .int (nI x.2.2.2.1), .int (nI x.2.2.2.2)])), (g0, aI cs 21 (tx_nf ld))] s.heap.size = A at hD hR ⊢
  have hA : ∀ q : Nat, s.heap.size ≤ q → A q := fun q h => by rw [← hAe]; exact Or.inr h
  have hS : va_S A s.heap s.heap [] := va_S.rf
  have hN : adN [h, k5, g, g0] := hN
  have hf_9 := hts (.fieldLink RX1 9 "TaxedByLongest$Look" "done" "[I") (by decide +kernel)
  have hf_15 := hts (.fieldLink RX1 15 "TaxedByLongest$Look" "days" "I") (by decide +kernel)
  have hf_40 := hts (.fieldLink RX1 40 "TaxedByLongest$Told" "days" "I") (by decide +kernel)
  have hf_50 := hts (.fieldLink RX1 50 "TaxedByLongest$Told" "bound" "[I") (by decide +kernel)
  have hf_53 := hts (.fieldLink RX1 53 "TaxedByLongest$Told" "things" "I") (by decide +kernel)
  have in_X1 : ∀ w ∈ wsX10, w ∈ wsX1_drawYear := by decide +kernel
  have in_X4 : ∀ w ∈ wsX40, w ∈ wsX1_drawYear := by decide +kernel
  have hl := lv_entry ([.ref g, .ref h, .int z]) (n := 5) (Nat.le_of_ble_eq_true rfl)
  rw [lg_entry_eq]
  generalize (lg_sl ([.ref g, .ref h, .int z]) ++ List.replicate (5 - (lg_sl ([.ref g, .ref h, .int z])).length) Slot.unset).toArray = ls at hl ⊢
  have hl : lv_has ls 5 [(0, .ref g), (1, .ref h), (2, .int z)] := hl
  refine lv_iload_n hx hb dX1_drawYear_0 rfl (lv_at hl 2 rfl) ?_
  refine lv_istore_n (lv' := [(3, .int z), (0, .ref g), (1, .ref h), (2, .int z)]) hx hb dX1_drawYear_1 rfl hl (by decide) rfl (fun ls hl => ?_)
  refine lv_aload_n hx hb dX1_drawYear_2 rfl (lv_at hl 1 rfl) ?_
  refine lv_aload_n hx hb dX1_drawYear_3 rfl (lv_at hl 2 rfl) ?_
  refine va_get (D := D) (ci := 4) (v := .int (nI dy)) (C := RX4) (T := TX4) (N := 10) hx hb hts in_X4 hown hK (hR hS) 0 rfl rfl 7 (by decide) hf_40 (fun _ h9 => h9) rfl dX1_drawYear_4 ?_
  refine va_put (D := D) (ci := 1) (v := .int (nI dy)) (ty := .int) (C := RX1) (T := TX1) (N := 9) hx hb hts in_X1 tyX1 tyX1_ok nmX1 hown hK hP hD hS 0 rfl rfl 1 (by decide) hf_15 (fun _ h9 => h9) rfl (by decide +kernel) rfl rfl (Nat.le_of_ble_eq_true rfl) dX1_drawYear_7 (fun H locs hP hD hS => ?_)
  have hP : va_P D vwCl [(g, .inr (1, [.ref g0, .int (nI dy), .int (iI er), .int (nI cg), .int (nI x.1), .int (nI x.2.1), .int (nI x.2.2.1), .int (nI x.2.2.2.1), .int (nI x.2.2.2.2)])), (g0, aI cs 21 (tx_nf ld))] H := hP
  have hD : va_D A [(g, .inr (1, [.ref g0, .int (nI dy), .int (iI er), .int (nI cg), .int (nI x.1), .int (nI x.2.1), .int (nI x.2.2.1), .int (nI x.2.2.2.1), .int (nI x.2.2.2.2)])), (g0, aI cs 21 (tx_nf ld))] := hD
  refine lv_iconst (v := 0) hx hb dX1_drawYear_10 (by decide) ?_
  refine lv_istore (lv' := [(4, .int 0), (3, .int z), (0, .ref g), (1, .ref h), (2, .int z)]) hx hb dX1_drawYear_11 hl (by decide) rfl (fun ls hl => ?_)
  have loop13 : ∀ (n9 : Nat) (i : Nat) (zz : Int32) (f1 : Nat → Nat) (hi : i ≤ dy) (hz : zz = tx_dz bo z i) (hf : ∀ d, f1 d = if d < i then tx_dd bo n z d else ld d), dy - i < n9 → ∀ (H : Heap) (locs : List Loc), va_P D vwCl [(g, .inr (1, [.ref g0, .int (nI dy), .int (iI er), .int (nI cg), .int (nI x.1), .int (nI x.2.1), .int (nI x.2.2.1), .int (nI x.2.2.2.1), .int (nI x.2.2.2.2)])), (g0, aI cs 21 (tx_nf f1))] H → va_D A [(g, .inr (1, [.ref g0, .int (nI dy), .int (iI er), .int (nI cg), .int (nI x.1), .int (nI x.2.1), .int (nI x.2.2.1), .int (nI x.2.2.2.1), .int (nI x.2.2.2.2)])), (g0, aI cs 21 (tx_nf f1))] → va_S A s.heap H locs → ∀ (ls : Array Slot), lv_has ls 5 [(0, .ref g), (1, .ref h), (3, .int zz), (4, .int (nI i))] → W p l e (headSpec wsX1_drawYear ({ frames := 0, cells := 0, slots := 0, locals := 0 } : Room)).room s m ([.ref g, .ref h, .int z] : List Value).toArray below meth c H locs 0 0 (MQ below (va_Qi (fun (r : Int32) (u : Unit) => r = tx_dz bo z dy) (QB D (fun _ => [(g, .inr (1, [.ref g0, .int (nI dy), .int (iI er), .int (nI cg), .int (nI x.1), .int (nI x.2.1), .int (nI x.2.2.1), .int (nI x.2.2.2.1), .int (nI x.2.2.2.2)])), (g0, aI cs 21 (tx_nf (fun d => if d < dy then tx_dd bo n z d else ld d)))]) A) A) ([.ref g, .ref h, .int z] : List Value).toArray s 0 0 A) (F0 m 13 ls []) := by
    intro n9
    induction n9 with
    | zero => intros; omega
    | succ n9 ih13 =>
      intro i zz f1 hi hz hf hmu H locs hP hD hS ls hl
      refine lv_iload hx hb dX1_drawYear_13 (lv_at hl 3 rfl) ?_
      refine lv_aload_n hx hb dX1_drawYear_15 rfl (lv_at hl 0 rfl) ?_
      refine va_get (D := D) (ci := 1) (v := .int (nI dy)) (C := RX1) (T := TX1) (N := 9) hx hb hts in_X1 hown hK hP 0 rfl rfl 1 (by decide) hf_15 (fun _ h9 => h9) rfl dX1_drawYear_16 ?_
      refine bn_ge (a := i) (b := dy) (tgt := 92) hx hb rfl rfl (by omega) (by omega) dX1_drawYear_19 (by decide) (fun c19 => ?_) (fun c19 => ?_)
      · have hP := w_ext hP 1 (tx_nf (fun d => if d < dy then tx_dd bo n z d else ld d)) rfl (fun q hq => by unfold tx_nf; rw [hf q, show i = dy by omega])
        have hD : va_D A [(g, .inr (1, [.ref g0, .int (nI dy), .int (iI er), .int (nI cg), .int (nI x.1), .int (nI x.2.1), .int (nI x.2.2.1), .int (nI x.2.2.2.1), .int (nI x.2.2.2.2)])), (g0, aI cs 21 (tx_nf (fun d => if d < dy then tx_dd bo n z d else ld d)))] := d_adr hD rfl
        have hP : va_P D vwCl [(g, .inr (1, [.ref g0, .int (nI dy), .int (iI er), .int (nI cg), .int (nI x.1), .int (nI x.2.1), .int (nI x.2.2.1), .int (nI x.2.2.2.1), .int (nI x.2.2.2.2)])), (g0, aI cs 21 (tx_nf (fun d => if d < dy then tx_dd bo n z d else ld d)))] H := hP
        have hD : va_D A [(g, .inr (1, [.ref g0, .int (nI dy), .int (iI er), .int (nI cg), .int (nI x.1), .int (nI x.2.1), .int (nI x.2.2.1), .int (nI x.2.2.2.1), .int (nI x.2.2.2.2)])), (g0, aI cs 21 (tx_nf (fun d => if d < dy then tx_dd bo n z d else ld d)))] := hD
        refine lv_iload_n hx hb dX1_drawYear_92 rfl (lv_at hl 2 rfl) ?_
        exact rt_i hx hb hr hlocks () (by rw [hz, show i = dy by omega]) hP hD hS dX1_drawYear_93
      · refine lv_aload_n hx hb dX1_drawYear_22 rfl (lv_at hl 1 rfl) ?_
        refine va_get (D := D) (ci := 4) (v := .ref k5) (C := RX4) (T := TX4) (N := 10) hx hb hts in_X4 hown hK (hR hS) 0 rfl rfl 5 (by decide) hf_50 (fun _ h9 => h9) rfl dX1_drawYear_23 ?_
        refine lv_iload hx hb dX1_drawYear_26 (lv_at hl 3 rfl) ?_
        refine ia_n (f := tx_bf bo) hx hb hK (hR hS) 1 0 rfl rfl (j := i) rfl (by omega) (by decide) dX1_drawYear_28 ?_
        refine lv_bipush (v := (-9)) hx hb dX1_drawYear_29 (by decide) ?_
        refine lv_icmp_eq (tgt := 51) hx hb dX1_drawYear_31 (by decide) (fun c31 => ?_) (fun c31 => ?_)
        · have hb9 := (tx_bf_N hbo i).mp c31
          refine lv_aload_n hx hb dX1_drawYear_51 rfl (lv_at hl 1 rfl) ?_
          refine va_get (D := D) (ci := 4) (v := .int (nI n)) (C := RX4) (T := TX4) (N := 10) hx hb hts in_X4 hown hK (hR hS) 0 rfl rfl 6 (by decide) hf_53 (fun _ h9 => h9) rfl dX1_drawYear_52 ?_
          refine bz_le (a := n) (tgt := 86) hx hb rfl (by omega) dX1_drawYear_55 (by decide) (fun c55 => ?_) (fun c55 => ?_)
          · exfalso; omega
          · refine lv_iload_n hx hb dX1_drawYear_58 rfl (lv_at hl 2 rfl) ?_
            refine lv_ldc (v := 1664525) hx hb hown (hts (.constant RX1 56 1664525) (by decide +kernel)) dX1_drawYear_59 ?_
            refine lv_imul hx hb dX1_drawYear_61 ?_
            refine lv_ldc (v := 1013904223) hx hb hown (hts (.constant RX1 57 1013904223) (by decide +kernel)) dX1_drawYear_62 ?_
            refine lv_iadd hx hb dX1_drawYear_64 ?_
            refine lv_istore_n (lv' := [(3, .int ((zz * 1664525) + 1013904223)), (0, .ref g), (1, .ref h), (4, .int (nI i))]) hx hb dX1_drawYear_65 rfl hl (by decide) rfl (fun ls hl => ?_)
            refine lv_aload_n hx hb dX1_drawYear_66 rfl (lv_at hl 1 rfl) ?_
            refine va_get (D := D) (ci := 1) (v := .ref g0) (C := RX1) (T := TX1) (N := 9) hx hb hts in_X1 hown hK hP 0 rfl rfl 0 (by decide) hf_9 (fun _ h9 => h9) rfl dX1_drawYear_67 ?_
            refine lv_iload hx hb dX1_drawYear_70 (lv_at hl 3 rfl) ?_
            refine lv_iload_n hx hb dX1_drawYear_72 rfl (lv_at hl 0 rfl) ?_
            refine lv_ldc (v := 2147483647) hx hb hown (hts (.constant RX1 58 2147483647) (by decide +kernel)) dX1_drawYear_73 ?_
            refine lv_iand hx hb dX1_drawYear_75 ?_
            refine lv_sipush (v := 256) hx hb dX1_drawYear_76 (by decide) ?_
            refine lv_idiv hx hb dX1_drawYear_79 (by decide) ?_
            refine lv_aload_n hx hb dX1_drawYear_80 rfl (lv_at hl 2 rfl) ?_
            refine va_get (D := D) (ci := 4) (v := .int (nI n)) (C := RX4) (T := TX4) (N := 10) hx hb hts in_X4 hown hK (hR hS) 0 rfl rfl 6 (by decide) hf_53 (fun _ h9 => h9) rfl dX1_drawYear_81 ?_
            refine lv_irem hx hb dX1_drawYear_84 (nI_ne0 hn0 (by omega)) ?_
            refine tp_i (show ((((zz * 1664525) + 1013904223) &&& 2147483647) / 256) - ((((zz * 1664525) + 1013904223) &&& 2147483647) / 256) / (nI n) * (nI n) = nI (tx_dr (zz * 1664525 + 1013904223) n) from tx_dr_eq _ hn0 (by omega)) ?_
            refine is_n (f := tx_nf f1) hx hb hK hP hD hS 1 0 rfl rfl (j := i) rfl (by omega) (by decide) dX1_drawYear_85 (fun H locs hP hD hS => ?_)
            rw [show upd (tx_nf f1) i (nI (tx_dr (zz * 1664525 + 1013904223) n)) = tx_nf (va_up f1 i (tx_dr (zz * 1664525 + 1013904223) n)) from nf_up _ _ _] at hP hD
            have hP : va_P D vwCl [(g, .inr (1, [.ref g0, .int (nI dy), .int (iI er), .int (nI cg), .int (nI x.1), .int (nI x.2.1), .int (nI x.2.2.1), .int (nI x.2.2.2.1), .int (nI x.2.2.2.2)])), (g0, aI cs 21 (tx_nf (va_up f1 i (tx_dr (zz * 1664525 + 1013904223) n))))] H := hP
            have hD : va_D A [(g, .inr (1, [.ref g0, .int (nI dy), .int (iI er), .int (nI cg), .int (nI x.1), .int (nI x.2.1), .int (nI x.2.2.1), .int (nI x.2.2.2.1), .int (nI x.2.2.2.2)])), (g0, aI cs 21 (tx_nf (va_up f1 i (tx_dr (zz * 1664525 + 1013904223) n))))] := hD
            refine lv_iinc (v := nI (i + 1)) (lv' := [(4, .int (nI (i + 1))), (3, .int ((zz * 1664525) + 1013904223)), (0, .ref g), (1, .ref h)]) hx hb dX1_drawYear_86 hl (k := 3) rfl (inc_n i 1) (by decide) rfl (fun ls hl => ?_)
            refine lv_goto (tgt := 13) hx hb dX1_drawYear_89 (by decide) ?_
            exact ih13 (i + 1) ((zz * 1664525) + 1013904223) (va_up f1 i (tx_dr (zz * 1664525 + 1013904223) n)) (by first | assumption | omega) (by rw [tx_dz, hb9, hz]) (fun d => by by_cases e : d = i; (subst e; rw [va_up_self, if_pos (by omega), tx_dd, hb9]; rw [tx_dz, hb9, hz]); (rw [va_up_ne _ _ e, hf d]; by_cases e2 : d < i; (rw [if_pos e2, if_pos (by omega)]); (rw [if_neg e2, if_neg (by omega)]))) (by omega) _ _ hP hD hS ls (lv_sub hl [2, 3, 1, 0] rfl)
        · obtain ⟨tb, hb9⟩ : ∃ tb, bo i = some tb := by
            cases q : bo i with
            | none => exact absurd ((tx_bf_N hbo i).mpr q) c31
            | some u => exact ⟨u, rfl⟩
          refine lv_aload_n hx hb dX1_drawYear_34 rfl (lv_at hl 0 rfl) ?_
          refine va_get (D := D) (ci := 1) (v := .ref g0) (C := RX1) (T := TX1) (N := 9) hx hb hts in_X1 hown hK hP 0 rfl rfl 0 (by decide) hf_9 (fun _ h9 => h9) rfl dX1_drawYear_35 ?_
          refine lv_iload hx hb dX1_drawYear_38 (lv_at hl 3 rfl) ?_
          refine lv_aload_n hx hb dX1_drawYear_40 rfl (lv_at hl 1 rfl) ?_
          refine va_get (D := D) (ci := 4) (v := .ref k5) (C := RX4) (T := TX4) (N := 10) hx hb hts in_X4 hown hK (hR hS) 0 rfl rfl 5 (by decide) hf_50 (fun _ h9 => h9) rfl dX1_drawYear_41 ?_
          refine lv_iload hx hb dX1_drawYear_44 (lv_at hl 3 rfl) ?_
          refine ia_n (f := tx_bf bo) hx hb hK (hR hS) 1 0 rfl rfl (j := i) rfl (by omega) (by decide) dX1_drawYear_46 ?_
          refine tp_i (show tx_bf bo i = nI tb from (tx_bf_T hbo i (by have := hbo i tb hb9; omega)).mpr hb9) ?_
          refine is_n (f := tx_nf f1) hx hb hK hP hD hS 1 0 rfl rfl (j := i) rfl (by omega) (by decide) dX1_drawYear_47 (fun H locs hP hD hS => ?_)
          rw [show upd (tx_nf f1) i (nI tb) = tx_nf (va_up f1 i tb) from nf_up _ _ _] at hP hD
          have hP : va_P D vwCl [(g, .inr (1, [.ref g0, .int (nI dy), .int (iI er), .int (nI cg), .int (nI x.1), .int (nI x.2.1), .int (nI x.2.2.1), .int (nI x.2.2.2.1), .int (nI x.2.2.2.2)])), (g0, aI cs 21 (tx_nf (va_up f1 i tb)))] H := hP
          have hD : va_D A [(g, .inr (1, [.ref g0, .int (nI dy), .int (iI er), .int (nI cg), .int (nI x.1), .int (nI x.2.1), .int (nI x.2.2.1), .int (nI x.2.2.2.1), .int (nI x.2.2.2.2)])), (g0, aI cs 21 (tx_nf (va_up f1 i tb)))] := hD
          refine lv_goto (tgt := 86) hx hb dX1_drawYear_48 (by decide) ?_
          refine lv_iinc (v := nI (i + 1)) (lv' := [(4, .int (nI (i + 1))), (0, .ref g), (1, .ref h), (3, .int zz)]) hx hb dX1_drawYear_86 hl (k := 3) rfl (inc_n i 1) (by decide) rfl (fun ls hl => ?_)
          refine lv_goto (tgt := 13) hx hb dX1_drawYear_89 (by decide) ?_
          exact ih13 (i + 1) zz (va_up f1 i tb) (by first | assumption | omega) (by rw [hz, tx_dz, hb9]) (fun d => by by_cases e : d = i; (subst e; rw [va_up_self, if_pos (by omega), tx_dd, hb9]); (rw [va_up_ne _ _ e, hf d]; by_cases e2 : d < i; (rw [if_pos e2, if_pos (by omega)]); (rw [if_neg e2, if_neg (by omega)]))) (by omega) _ _ hP hD hS ls (lv_sub hl [1, 2, 3, 0] rfl)
  exact loop13 _ 0 z ld (by first | assumption | omega) rfl (fun d => by rw [if_neg (Nat.not_lt_zero d)]) (Nat.lt_succ_self _) _ _ hP hD hS ls (lv_sub hl [2, 3, 1, 0] rfl)
