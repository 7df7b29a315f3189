set_option maxHeartbeats 4000000 in
set_option maxRecDepth 100000 in
theorem c_X3_isFull (l : Launch) (D : va_G) (cs : Nat → ClassId) (sz : Nat) (tx : Nat) (t0 : Nat) (tz : Nat) (at9 : Nat) (hd9 : Int32) (t1 : Nat) (ht : Nat) (tl : Nat → Nat) (htz : tz ≤ 80) : mI (S := Unit) l yX3_isFull wsX3_isFull ({ frames := 0, cells := 0, slots := 0, locals := 0 } : Room) D (tyc cs) sz [.ref tx] [(tx, .inr (3, [.ref t0, .int (nI tz), .int (nI at9), .int hd9, .ref t1, .ref ht])), (t0, aI cs 80 (tx_nf tl))] [] (fun (r : Int32) (u : Unit) => r = bI (decide (tz = 80))) (fun _ => []) 0 0 := by
  unfold mI
  refine Met.ofW (cc := cX3_isFull) (maxL := 1) (ret := (some .boolean)) (by decide) rfl ?_
  intro p e s m args below meth c s₁ B hml hv
  obtain ⟨rfl, hsz, hP, hK, hD0⟩ := hv
  have hx := B.exec
  have hb := B.bytes
  have hr := B.returns
  have hts := atoms_spec (ws := wsX3_isFull) B.pre
  have hown : s.vm.findClass RX3 = some m.cls := findClass_of_methodNamed B.named
  have hlocks := B.notSynchronized
  subst hsz
  have hR := @en_R _ _ _ [(tx, .inr (3, [.ref t0, .int (nI tz), .int (nI at9), .int hd9, .ref t1, .ref ht])), (t0, aI cs 80 (tx_nf tl))] [] _ hP hD0
  have hN := adN_of hD0
  have hD := en_D (wr := [(tx, .inr (3, [.ref t0, .int (nI tz), .int (nI at9), .int hd9, .ref t1, .ref ht])), (t0, aI cs 80 (tx_nf tl))]) (ww := []) (sz := s.heap.size) hD0
  have hP := en_P (wr := [(tx, .inr (3, [.ref t0, .int (nI tz), .int (nI at9), .int hd9, .ref t1, .ref ht])), (t0, aI cs 80 (tx_nf tl))]) (ww := []) hP
  generalize hAe : va_A [] s.heap.size = A at hD hR ⊢
  have hA : ∀ q : Nat, s.heap.size ≤ q → A q := fun q h => by rw [← hAe]; exact Or.inr h
  have hS : va_S A s.heap s.heap [] := va_S.rf
  have hN : adN [tx, t0] := hN
  have hf_9 := hts (.fieldLink RX3 9 "TaxedByLongest$Text" "letters" "[I") (by decide +kernel)
  have hf_15 := hts (.fieldLink RX3 15 "TaxedByLongest$Text" "size" "I") (by decide +kernel)
  have in_X3 : ∀ w ∈ wsX30, w ∈ wsX3_isFull := by decide +kernel
  have hl := lv_entry ([.ref tx]) (n := 1) (Nat.le_of_ble_eq_true rfl)
  rw [lg_entry_eq]
  generalize (lg_sl ([.ref tx]) ++ List.replicate (1 - (lg_sl ([.ref tx])).length) Slot.unset).toArray = ls at hl ⊢
  have hl : lv_has ls 1 [(0, .ref tx)] := hl
  refine lv_aload_n hx hb dX3_isFull_0 rfl (lv_at hl 0 rfl) ?_
  refine va_get (D := D) (ci := 3) (v := .int (nI tz)) (C := RX3) (T := TX3) (N := 6) hx hb hts in_X3 hown hK (hR hS) 0 rfl rfl 1 (by decide) hf_15 (fun _ h9 => h9) rfl dX3_isFull_1 ?_
  refine lv_aload_n hx hb dX3_isFull_4 rfl (lv_at hl 0 rfl) ?_
  refine va_get (D := D) (ci := 3) (v := .ref t0) (C := RX3) (T := TX3) (N := 6) hx hb hts in_X3 hown hK (hR hS) 0 rfl rfl 0 (by decide) hf_9 (fun _ h9 => h9) rfl dX3_isFull_5 ?_
  refine va_alen (v := nI 80) hx hb hK (hR hS) 1 0 rfl rfl rfl dX3_isFull_8 ?_
  refine bn_lt (a := tz) (b := 80) (tgt := 16) hx hb rfl rfl (by omega) (by decide) dX3_isFull_9 (by decide) (fun c9 => ?_) (fun c9 => ?_)
  · refine lv_iconst (v := 0) hx hb dX3_isFull_16 (by decide) ?_
    exact rt_z hx hb hr rfl hlocks () (by rw [decide_eq_false (by omega)]; rfl) hP hD hS dX3_isFull_17
  · refine lv_iconst (v := 1) hx hb dX3_isFull_12 (by decide) ?_
    refine lv_goto (tgt := 17) hx hb dX3_isFull_13 (by decide) ?_
    exact rt_z hx hb hr rfl hlocks () (by rw [decide_eq_true (by omega)]; rfl) hP hD hS dX3_isFull_17
set_option maxHeartbeats 4000000 in
set_option maxRecDepth 100000 in
theorem c_X3_append (l : Launch) (D : va_G) (cs : Nat → ClassId) (sz : Nat) (tx : Nat) (t0 : Nat) (tz : Nat) (at9 : Nat) (hd9 : Int32) (t1 : Nat) (ht : Nat) (tl : Nat → Nat) (x : Nat) (htz : tz < 80) : mI (S := Unit) l yX3_append wsX3_append ({ frames := 1, cells := 0, slots := 0, locals := 20 } : Room) D (tyc cs) sz [.ref tx, .int (nI x)] [] [(tx, .inr (3, [.ref t0, .int (nI tz), .int (nI at9), .int hd9, .ref t1, .ref ht])), (t0, aI cs 80 (tx_nf tl))] (fun (r : Int32) (u : Unit) => r = nI (tz + 1)) (fun _ => [(tx, .inr (3, [.ref t0, .int (nI (tz + 1)), .int (nI at9), .int hd9, .ref t1, .ref ht])), (t0, aI cs 80 (tx_nf (va_up tl tz x)))]) 0 0 := by
  unfold mI
  refine Met.ofW (cc := cX3_append) (maxL := 2) (ret := (some .int)) (by decide) rfl ?_
  intro p e s m args below meth c s₁ B hml hv
  obtain ⟨rfl, hsz, hP, hK, hD0⟩ := hv
  have hx := B.exec
  have hb := B.bytes
  have hr := B.returns
  have hts := atoms_spec (ws := wsX3_append) B.pre
  have hown : s.vm.findClass RX3 = some m.cls := findClass_of_methodNamed B.named
  have hlocks := B.notSynchronized
  subst hsz
  have hR := @en_R _ _ _ [] [(tx, .inr (3, [.ref t0, .int (nI tz), .int (nI at9), .int hd9, .ref t1, .ref ht])), (t0, aI cs 80 (tx_nf tl))] _ hP hD0
  have hN := adN_of hD0
  have hD := en_D (wr := []) (ww := [(tx, .inr (3, [.ref t0, .int (nI tz), .int (nI at9), .int hd9, .ref t1, .ref ht])), (t0, aI cs 80 (tx_nf tl))]) (sz := s.heap.size) hD0
  have hP := en_P (wr := []) (ww := [(tx, .inr (3, [.ref t0, .int (nI tz), .int (nI at9), .int hd9, .ref t1, .ref ht])), (t0, aI cs 80 (tx_nf tl))]) hP
  generalize hAe : va_A [(tx, .inr (3, [.ref t0, .int (nI tz), .int (nI at9), .int hd9, .ref t1, .ref ht])), (t0, aI cs 80 (tx_nf tl))] s.heap.size = A at hD hR ⊢
  have hA : ∀ q : Nat, s.heap.size ≤ q → A q := fun q h => by rw [← hAe]; exact Or.inr h
  have hS : va_S A s.heap s.heap [] := va_S.rf
  have hN : adN [tx, t0] := hN
  have hf_9 := hts (.fieldLink RX3 9 "TaxedByLongest$Text" "letters" "[I") (by decide +kernel)
  have hf_15 := hts (.fieldLink RX3 15 "TaxedByLongest$Text" "size" "I") (by decide +kernel)
  have in_X3 : ∀ w ∈ wsX30, w ∈ wsX3_append := by decide +kernel
  have hl := lv_entry ([.ref tx, .int (nI x)]) (n := 2) (Nat.le_of_ble_eq_true rfl)
  rw [lg_entry_eq]
  generalize (lg_sl ([.ref tx, .int (nI x)]) ++ List.replicate (2 - (lg_sl ([.ref tx, .int (nI x)])).length) Slot.unset).toArray = ls at hl ⊢
  have hl : lv_has ls 2 [(0, .ref tx), (1, .int (nI x))] := hl
  refine lv_aload_n hx hb dX3_append_0 rfl (lv_at hl 0 rfl) ?_
  refine cV_i (As := []) (rest := []) (cr := [(tx, .inr (3, [.ref t0, .int (nI tz), .int (nI at9), .int hd9, .ref t1, .ref ht])), (t0, aI cs 80 (tx_nf tl))]) (cw1 := []) ⟨hx, hb, hml, hown, hts⟩ (c_X3_isFull l D cs _ tx t0 tz at9 hd9 t1 ht tl (by first | assumption | omega)) (cwV 0 hts gX3_append_X3_isFull rfl rfl rfl (by decide +kernel) ⟨Nat.le_of_ble_eq_true rfl, Nat.le_of_ble_eq_true rfl⟩) hK hP hD hS hA (hP.sub [0, 1] rfl) (dt_of hN [0, 1] (by decide) rfl) [] rfl 0 rfl rfl rfl hl.1 rfl (Nat.le_of_ble_eq_true rfl) dX3_append_1 ⟨Nat.le_of_ble_eq_true rfl, Nat.le_of_ble_eq_true rfl⟩ (fun _ => rfl) (fun _ => rfl) (fun r_1 u9 H locs hw_2 hP hD hS => ?_)
  have hP : va_P D vwCl [(tx, .inr (3, [.ref t0, .int (nI tz), .int (nI at9), .int hd9, .ref t1, .ref ht])), (t0, aI cs 80 (tx_nf tl))] H := hP
  have hD : va_D A [(tx, .inr (3, [.ref t0, .int (nI tz), .int (nI at9), .int hd9, .ref t1, .ref ht])), (t0, aI cs 80 (tx_nf tl))] := hD
  subst r_1
  refine bd_ne (P := tz = 80) (tgt := 27) hx hb rfl dX3_append_4 (by decide) (fun c4 => ?_) (fun c4 => ?_)
  · exfalso; omega
  · refine lv_aload_n hx hb dX3_append_7 rfl (lv_at hl 0 rfl) ?_
    refine va_get (D := D) (ci := 3) (v := .ref t0) (C := RX3) (T := TX3) (N := 6) hx hb hts in_X3 hown hK hP 0 rfl rfl 0 (by decide) hf_9 (fun _ h9 => h9) rfl dX3_append_8 ?_
    refine lv_aload_n hx hb dX3_append_11 rfl (lv_at hl 0 rfl) ?_
    refine va_get (D := D) (ci := 3) (v := .int (nI tz)) (C := RX3) (T := TX3) (N := 6) hx hb hts in_X3 hown hK hP 0 rfl rfl 1 (by decide) hf_15 (fun _ h9 => h9) rfl dX3_append_12 ?_
    refine lv_iload_n hx hb dX3_append_15 rfl (lv_at hl 1 rfl) ?_
    refine is_n (f := tx_nf tl) hx hb hK hP hD hS 1 0 rfl rfl (j := tz) rfl (by omega) (by decide) dX3_append_16 (fun H locs hP hD hS => ?_)
    rw [show upd (tx_nf tl) tz (nI x) = tx_nf (va_up tl tz x) from nf_up _ _ _] at hP hD
    have hP : va_P D vwCl [(tx, .inr (3, [.ref t0, .int (nI tz), .int (nI at9), .int hd9, .ref t1, .ref ht])), (t0, aI cs 80 (tx_nf (va_up tl tz x)))] H := hP
    have hD : va_D A [(tx, .inr (3, [.ref t0, .int (nI tz), .int (nI at9), .int hd9, .ref t1, .ref ht])), (t0, aI cs 80 (tx_nf (va_up tl tz x)))] := hD
    refine lv_aload_n hx hb dX3_append_17 rfl (lv_at hl 0 rfl) ?_
    refine lv_dup hx hb dX3_append_18 rfl ?_
    refine va_get (D := D) (ci := 3) (v := .int (nI tz)) (C := RX3) (T := TX3) (N := 6) hx hb hts in_X3 hown hK hP 0 rfl rfl 1 (by decide) hf_15 (fun _ h9 => h9) rfl dX3_append_19 ?_
    refine lv_iconst (v := 1) hx hb dX3_append_22 (by decide) ?_
    refine lv_iadd hx hb dX3_append_23 ?_
    refine tp_i (nI_add tz 1) ?_
    refine va_put (D := D) (ci := 3) (v := .int (nI (tz + 1))) (ty := .int) (C := RX3) (T := TX3) (N := 6) hx hb hts in_X3 tyX3 tyX3_ok nmX3 hown hK hP hD hS 0 rfl rfl 1 (by decide) hf_15 (fun _ h9 => h9) rfl (by decide +kernel) rfl rfl (Nat.le_of_ble_eq_true rfl) dX3_append_24 (fun H locs hP hD hS => ?_)
    have hP : va_P D vwCl [(tx, .inr (3, [.ref t0, .int (nI (tz + 1)), .int (nI at9), .int hd9, .ref t1, .ref ht])), (t0, aI cs 80 (tx_nf (va_up tl tz x)))] H := hP
    have hD : va_D A [(tx, .inr (3, [.ref t0, .int (nI (tz + 1)), .int (nI at9), .int hd9, .ref t1, .ref ht])), (t0, aI cs 80 (tx_nf (va_up tl tz x)))] := hD
    refine lv_aload_n hx hb dX3_append_27 rfl (lv_at hl 0 rfl) ?_
    refine va_get (D := D) (ci := 3) (v := .int (nI (tz + 1))) (C := RX3) (T := TX3) (N := 6) hx hb hts in_X3 hown hK hP 0 rfl rfl 1 (by decide) hf_15 (fun _ h9 => h9) rfl dX3_append_28 ?_
    exact rt_i hx hb hr hlocks () (rfl) hP hD hS dX3_append_31
set_option maxHeartbeats 4000000 in
set_option maxRecDepth 100000 in
theorem c_X5_refuse (l : Launch) (D : va_G) (cs : Nat → ClassId) (sz : Nat) (xo : Nat) (hk : Nat) (im : Bool) (tx : Nat) (pn : Nat) (cn : Nat) (s0 : Nat) (ss : Nat) (r0 : Nat) (h : Nat) (g : Nat) (rf : Nat → Nat) (cd : Int32) (q : Nat) (hcd : cd = -nI q) (hq : q < 7) (hrf : 0 < q) : mI (S := Unit) l yX5_refuse wsX5_refuse ({ frames := 0, cells := 0, slots := 0, locals := 0 } : Room) D (tyc cs) sz [.ref xo, .int cd] [(xo, .inr (5, [.ref h, .ref hk, .int (bI im), .ref tx, .ref g, .ref pn, .ref cn, .ref s0, .int (nI ss), .ref r0]))] [(r0, aI cs 7 (tx_nf rf))] (fun (r : Int32) (u : Unit) => r = cd) (fun _ => [(r0, aI cs 7 (tx_nf (tx_rf rf q)))]) 0 0 := by
  unfold mI
  refine Met.ofW (cc := cX5_refuse) (maxL := 3) (ret := (some .int)) (by decide) rfl ?_
  intro p e s m args below meth c s₁ B hml hv
  obtain ⟨rfl, hsz, hP, hK, hD0⟩ := hv
  have hx := B.exec
  have hb := B.bytes
  have hr := B.returns
  have hts := atoms_spec (ws := wsX5_refuse) B.pre
  have hown : s.vm.findClass RX5 = some m.cls := findClass_of_methodNamed B.named
  have hlocks := B.notSynchronized
  subst hsz
  have hR := @en_R _ _ _ [(xo, .inr (5, [.ref h, .ref hk, .int (bI im), .ref tx, .ref g, .ref pn, .ref cn, .ref s0, .int (nI ss), .ref r0]))] [(r0, aI cs 7 (tx_nf rf))] _ hP hD0
  have hN := adN_of hD0
  have hD := en_D (wr := [(xo, .inr (5, [.ref h, .ref hk, .int (bI im), .ref tx, .ref g, .ref pn, .ref cn, .ref s0, .int (nI ss), .ref r0]))]) (ww := [(r0, aI cs 7 (tx_nf rf))]) (sz := s.heap.size) hD0
  have hP := en_P (wr := [(xo, .inr (5, [.ref h, .ref hk, .int (bI im), .ref tx, .ref g, .ref pn, .ref cn, .ref s0, .int (nI ss), .ref r0]))]) (ww := [(r0, aI cs 7 (tx_nf rf))]) hP
  generalize hAe : va_A [(r0, aI cs 7 (tx_nf rf))] s.heap.size = A at hD hR ⊢
  have hA : ∀ q : Nat, s.heap.size ≤ q → A q := fun q h => by rw [← hAe]; exact Or.inr h
  have hS : va_S A s.heap s.heap [] := va_S.rf
  have hN : adN [xo, r0] := hN
  have hf_59 := hts (.fieldLink RX5 59 "TaxedByLongest" "refusals" "[I") (by decide +kernel)
  have in_X5 : ∀ w ∈ wsX50, w ∈ wsX5_refuse := by decide +kernel
  have hl := lv_entry ([.ref xo, .int cd]) (n := 3) (Nat.le_of_ble_eq_true rfl)
  rw [lg_entry_eq]
  generalize (lg_sl ([.ref xo, .int cd]) ++ List.replicate (3 - (lg_sl ([.ref xo, .int cd])).length) Slot.unset).toArray = ls at hl ⊢
  have hl : lv_has ls 3 [(0, .ref xo), (1, .int cd)] := hl
  refine lv_iload_n hx hb dX5_refuse_0 rfl (lv_at hl 1 rfl) ?_
  refine lv_ineg hx hb dX5_refuse_1 ?_
  refine tp_i (show -cd = nI q from by rw [hcd, Int32.neg_neg]) ?_
  refine lv_istore_n (lv' := [(2, .int (nI q)), (0, .ref xo), (1, .int cd)]) hx hb dX5_refuse_2 rfl hl (by decide) rfl (fun ls hl => ?_)
  refine lv_iload_n hx hb dX5_refuse_3 rfl (lv_at hl 0 rfl) ?_
  refine bz_lt (a := q) (tgt := 26) hx hb rfl (by omega) dX5_refuse_4 (by decide) ?_
  refine lv_iload_n hx hb dX5_refuse_7 rfl (lv_at hl 0 rfl) ?_
  refine lv_aload_n hx hb dX5_refuse_8 rfl (lv_at hl 1 rfl) ?_
  refine va_get (D := D) (ci := 5) (v := .ref r0) (C := RX5) (T := TX5) (N := 10) hx hb hts in_X5 hown hK (hR hS) 0 rfl rfl 9 (by decide) hf_59 (fun _ h9 => h9) rfl dX5_refuse_9 ?_
  refine va_alen (v := nI 7) hx hb hK hP 0 0 rfl rfl rfl dX5_refuse_12 ?_
  refine bn_ge (a := q) (b := 7) (tgt := 26) hx hb rfl rfl (by omega) (by decide) dX5_refuse_13 (by decide) (fun c13 => ?_) (fun c13 => ?_)
  · exfalso; omega
  · refine lv_aload_n hx hb dX5_refuse_16 rfl (lv_at hl 1 rfl) ?_
    refine va_get (D := D) (ci := 5) (v := .ref r0) (C := RX5) (T := TX5) (N := 10) hx hb hts in_X5 hown hK (hR hS) 0 rfl rfl 9 (by decide) hf_59 (fun _ h9 => h9) rfl dX5_refuse_17 ?_
    refine lv_iload_n hx hb dX5_refuse_20 rfl (lv_at hl 0 rfl) ?_
    refine lv_dup2_11 hx hb dX5_refuse_21 rfl rfl ?_
    refine ia_n (f := tx_nf rf) hx hb hK hP 0 0 rfl rfl (j := q) rfl (by omega) (by decide) dX5_refuse_22 ?_
    refine tp_i (y := nI (rf q)) rfl ?_
    refine lv_iconst (v := 1) hx hb dX5_refuse_23 (by decide) ?_
    refine lv_iadd hx hb dX5_refuse_24 ?_
    refine tp_i (nI_add (rf q) 1) ?_
    refine is_n (f := tx_nf rf) hx hb hK hP hD hS 0 0 rfl rfl (j := q) rfl (by omega) (by decide) dX5_refuse_25 (fun H locs hP hD hS => ?_)
    rw [show upd (tx_nf rf) q (nI ((rf q) + 1)) = tx_nf (va_up rf q ((rf q) + 1)) from nf_up _ _ _] at hP hD
    have hP : va_P D vwCl [(r0, aI cs 7 (tx_nf (va_up rf q ((rf q) + 1))))] H := hP
    have hD : va_D A [(r0, aI cs 7 (tx_nf (va_up rf q ((rf q) + 1))))] := hD
    refine lv_iload_n hx hb dX5_refuse_26 rfl (lv_at hl 2 rfl) ?_
    have e9 : tx_rf rf q = va_up rf q (rf q + 1) := by rw [tx_rf, if_neg (by omega)]
    have hP : va_P D vwCl [(r0, aI cs 7 (tx_nf (tx_rf rf q)))] H := by rw [e9]; exact hP
    have hD : va_D A [(r0, aI cs 7 (tx_nf (tx_rf rf q)))] := by rw [e9]; exact hD
    exact rt_i hx hb hr hlocks () (rfl) hP hD hS dX5_refuse_27
set_option maxHeartbeats 4000000 in
set_option maxRecDepth 100000 in
theorem c_X5_refuseAmount (l : Launch) (D : va_G) (cs : Nat → ClassId) (sz : Nat) (xo : Nat) (hk : Nat) (im : Bool) (tx : Nat) (pn : Nat) (cn : Nat) (s0 : Nat) (ss : Nat) (r0 : Nat) (h : Nat) (g : Nat) (rf : Nat → Nat) (cd : Int32) (q : Nat) (hcd : cd = -nI q) (hq : q < 7) (hrf : 0 < q) : mI (S := Unit) l yX5_refuseAmount wsX5_refuseAmount ({ frames := 1, cells := 0, slots := 0, locals := 22 } : Room) D (tyc cs) sz [.ref xo, .int cd] [(xo, .inr (5, [.ref h, .ref hk, .int (bI im), .ref tx, .ref g, .ref pn, .ref cn, .ref s0, .int (nI ss), .ref r0]))] [(r0, aI cs 7 (tx_nf rf))] (fun (r : Int32) (u : Unit) => r = 1000000000 - cd) (fun _ => [(r0, aI cs 7 (tx_nf (tx_rf rf q)))]) 0 0 := by
  unfold mI
  refine Met.ofW (cc := cX5_refuseAmount) (maxL := 2) (ret := (some .int)) (by decide) rfl ?_
  intro p e s m args below meth c s₁ B hml hv
  obtain ⟨rfl, hsz, hP, hK, hD0⟩ := hv
  have hx := B.exec
  have hb := B.bytes
  have hr := B.returns
  have hts := atoms_spec (ws := wsX5_refuseAmount) B.pre
  have hown : s.vm.findClass RX5 = some m.cls := findClass_of_methodNamed B.named
  have hlocks := B.notSynchronized
  subst hsz
  have hR := @en_R _ _ _ [(xo, .inr (5, [.ref h, .ref hk, .int (bI im), .ref tx, .ref g, .ref pn, .ref cn, .ref s0, .int (nI ss), .ref r0]))] [(r0, aI cs 7 (tx_nf rf))] _ hP hD0
  have hN := adN_of hD0
  have hD := en_D (wr := [(xo, .inr (5, [.ref h, .ref hk, .int (bI im), .ref tx, .ref g, .ref pn, .ref cn, .ref s0, .int (nI ss), .ref r0]))]) (ww := [(r0, aI cs 7 (tx_nf rf))]) (sz := s.heap.size) hD0
  have hP := en_P (wr := [(xo, .inr (5, [.ref h, .ref hk, .int (bI im), .ref tx, .ref g, .ref pn, .ref cn, .ref s0, .int (nI ss), .ref r0]))]) (ww := [(r0, aI cs 7 (tx_nf rf))]) hP
  generalize hAe : va_A [(r0, aI cs 7 (tx_nf rf))] s.heap.size = A at hD hR ⊢
  have hA : ∀ q : Nat, s.heap.size ≤ q → A q := fun q h => by rw [← hAe]; exact Or.inr h
  have hS : va_S A s.heap s.heap [] := va_S.rf
  have hN : adN [xo, r0] := hN
  have hl := lv_entry ([.ref xo, .int cd]) (n := 2) (Nat.le_of_ble_eq_true rfl)
  rw [lg_entry_eq]
  generalize (lg_sl ([.ref xo, .int cd]) ++ List.replicate (2 - (lg_sl ([.ref xo, .int cd])).length) Slot.unset).toArray = ls at hl ⊢
  have hl : lv_has ls 2 [(0, .ref xo), (1, .int cd)] := hl
  refine lv_ldc (v := 1000000000) hx hb hown (hts (.constant RX5 239 1000000000) (by decide +kernel)) dX5_refuseAmount_0 ?_
  refine lv_aload_n hx hb dX5_refuseAmount_2 rfl (lv_at hl 0 rfl) ?_
  refine lv_iload_n hx hb dX5_refuseAmount_3 rfl (lv_at hl 1 rfl) ?_
  refine cV_i (As := [.int cd]) (rest := [.int 1000000000]) (cr := [(xo, .inr (5, [.ref h, .ref hk, .int (bI im), .ref tx, .ref g, .ref pn, .ref cn, .ref s0, .int (nI ss), .ref r0]))]) (cw1 := [(r0, aI cs 7 (tx_nf rf))]) ⟨hx, hb, hml, hown, hts⟩ (c_X5_refuse l D cs _ xo hk im tx pn cn s0 ss r0 h g rf cd q (by first | assumption | omega) (by first | assumption | omega) (by first | assumption | omega)) (cwV 1 hts gX5_refuseAmount_X5_refuse rfl rfl rfl (by decide +kernel) ⟨Nat.le_of_ble_eq_true rfl, Nat.le_of_ble_eq_true rfl⟩) hK hP hD hS hA (((hR hS).app hP).sub [0, 1] rfl) (dt_of hN [0, 1] (by decide) rfl) [0] rfl 0 rfl rfl rfl hl.1 rfl (Nat.le_of_ble_eq_true rfl) dX5_refuseAmount_4 ⟨Nat.le_of_ble_eq_true rfl, Nat.le_of_ble_eq_true rfl⟩ (fun _ => rfl) (fun _ => rfl) (fun r_1 u9 H locs hw_2 hP hD hS => ?_)
  have hP : va_P D vwCl [(r0, aI cs 7 (tx_nf (tx_rf rf q)))] H := hP
  have hD : va_D A [(r0, aI cs 7 (tx_nf (tx_rf rf q)))] := hD
  subst r_1
  refine lv_isub hx hb dX5_refuseAmount_7 ?_
  exact rt_i hx hb hr hlocks () (rfl) hP hD hS dX5_refuseAmount_8
set_option maxHeartbeats 4000000 in
set_option maxRecDepth 100000 in
theorem c_X5_refuseLong (l : Launch) (D : va_G) (cs : Nat → ClassId) (sz : Nat) (xo : Nat) (hk : Nat) (im : Bool) (tx : Nat) (pn : Nat) (cn : Nat) (s0 : Nat) (ss : Nat) (r0 : Nat) (h : Nat) (g : Nat) (rf : Nat → Nat) (cd : Int32) (q : Nat) (hcd : cd = -nI q) (hq : q < 7) (hrf : 0 < q) : mL (S := Unit) l yX5_refuseLong wsX5_refuseLong ({ frames := 1, cells := 0, slots := 0, locals := 22 } : Room) D (tyc cs) sz [.ref xo, .int cd] [(xo, .inr (5, [.ref h, .ref hk, .int (bI im), .ref tx, .ref g, .ref pn, .ref cn, .ref s0, .int (nI ss), .ref r0]))] [(r0, aI cs 7 (tx_nf rf))] (fun (r : Int64) (u : Unit) => r = 4000000000000000000 - cd.toInt64) (fun _ => [(r0, aI cs 7 (tx_nf (tx_rf rf q)))]) 0 0 := by
  unfold mL
  refine Met.ofW (cc := cX5_refuseLong) (maxL := 2) (ret := (some .long)) (by decide) rfl ?_
  intro p e s m args below meth c s₁ B hml hv
  obtain ⟨rfl, hsz, hP, hK, hD0⟩ := hv
  have hx := B.exec
  have hb := B.bytes
  have hr := B.returns
  have hts := atoms_spec (ws := wsX5_refuseLong) B.pre
  have hown : s.vm.findClass RX5 = some m.cls := findClass_of_methodNamed B.named
  have hlocks := B.notSynchronized
  subst hsz
  have hR := @en_R _ _ _ [(xo, .inr (5, [.ref h, .ref hk, .int (bI im), .ref tx, .ref g, .ref pn, .ref cn, .ref s0, .int (nI ss), .ref r0]))] [(r0, aI cs 7 (tx_nf rf))] _ hP hD0
  have hN := adN_of hD0
  have hD := en_D (wr := [(xo, .inr (5, [.ref h, .ref hk, .int (bI im), .ref tx, .ref g, .ref pn, .ref cn, .ref s0, .int (nI ss), .ref r0]))]) (ww := [(r0, aI cs 7 (tx_nf rf))]) (sz := s.heap.size) hD0
  have hP := en_P (wr := [(xo, .inr (5, [.ref h, .ref hk, .int (bI im), .ref tx, .ref g, .ref pn, .ref cn, .ref s0, .int (nI ss), .ref r0]))]) (ww := [(r0, aI cs 7 (tx_nf rf))]) hP
  generalize hAe : va_A [(r0, aI cs 7 (tx_nf rf))] s.heap.size = A at hD hR ⊢
  have hA : ∀ q : Nat, s.heap.size ≤ q → A q := fun q h => by rw [← hAe]; exact Or.inr h
  have hS : va_S A s.heap s.heap [] := va_S.rf
  have hN : adN [xo, r0] := hN
  have hl := lv_entry ([.ref xo, .int cd]) (n := 2) (Nat.le_of_ble_eq_true rfl)
  rw [lg_entry_eq]
  generalize (lg_sl ([.ref xo, .int cd]) ++ List.replicate (2 - (lg_sl ([.ref xo, .int cd])).length) Slot.unset).toArray = ls at hl ⊢
  have hl : lv_has ls 2 [(0, .ref xo), (1, .int cd)] := hl
  refine lv_ldc2 (v := 4000000000000000000) hx hb hown (hts (.constantLong RX5 240 4000000000000000000) (by decide +kernel)) dX5_refuseLong_0 ?_
  refine lv_aload_n hx hb dX5_refuseLong_3 rfl (lv_at hl 0 rfl) ?_
  refine lv_iload_n hx hb dX5_refuseLong_4 rfl (lv_at hl 1 rfl) ?_
  refine cV_i (As := [.int cd]) (rest := [.long 4000000000000000000]) (cr := [(xo, .inr (5, [.ref h, .ref hk, .int (bI im), .ref tx, .ref g, .ref pn, .ref cn, .ref s0, .int (nI ss), .ref r0]))]) (cw1 := [(r0, aI cs 7 (tx_nf rf))]) ⟨hx, hb, hml, hown, hts⟩ (c_X5_refuse l D cs _ xo hk im tx pn cn s0 ss r0 h g rf cd q (by first | assumption | omega) (by first | assumption | omega) (by first | assumption | omega)) (cwV 1 hts gX5_refuseLong_X5_refuse rfl rfl rfl (by decide +kernel) ⟨Nat.le_of_ble_eq_true rfl, Nat.le_of_ble_eq_true rfl⟩) hK hP hD hS hA (((hR hS).app hP).sub [0, 1] rfl) (dt_of hN [0, 1] (by decide) rfl) [0] rfl 0 rfl rfl rfl hl.1 rfl (Nat.le_of_ble_eq_true rfl) dX5_refuseLong_5 ⟨Nat.le_of_ble_eq_true rfl, Nat.le_of_ble_eq_true rfl⟩ (fun _ => rfl) (fun _ => rfl) (fun r_1 u9 H locs hw_2 hP hD hS => ?_)
  have hP : va_P D vwCl [(r0, aI cs 7 (tx_nf (tx_rf rf q)))] H := hP
  have hD : va_D A [(r0, aI cs 7 (tx_nf (tx_rf rf q)))] := hD
  subst r_1
  refine lv_i2l (v := cd.toInt64) hx hb dX5_refuseLong_8 rfl ?_
  refine lv_lsub hx hb dX5_refuseLong_9 ?_
  exact rt_l hx hb hr hlocks () (rfl) hP hD hS dX5_refuseLong_10
set_option maxHeartbeats 4000000 in
set_option maxRecDepth 100000 in
theorem c_X5_isLaw (l : Launch) (D : va_G) (cs : Nat → ClassId) (sz : Nat) (v : Int32)  : mI (S := Unit) l yX5_isLaw wsX5_isLaw ({ frames := 0, cells := 0, slots := 0, locals := 0 } : Room) D (tyc cs) sz [.int v] [] [] (fun (r : Int32) (u : Unit) => r = bI (tx_il v)) (fun _ => []) 0 0 := by
  unfold mI
  refine Met.ofW (cc := cX5_isLaw) (maxL := 1) (ret := (some .boolean)) (by decide) rfl ?_
  intro p e s m args below meth c s₁ B hml hv
  obtain ⟨rfl, hsz, hP, hK, hD0⟩ := hv
  have hx := B.exec
  have hb := B.bytes
  have hr := B.returns
  have hts := atoms_spec (ws := wsX5_isLaw) B.pre
  have hown : s.vm.findClass RX5 = some m.cls := findClass_of_methodNamed B.named
  have hlocks := B.notSynchronized
  subst hsz
  have hR := @en_R _ _ _ [] [] _ hP hD0
  have hN := adN_of hD0
  have hD := en_D (wr := []) (ww := []) (sz := s.heap.size) hD0
  have hP := en_P (wr := []) (ww := []) hP
  generalize hAe : va_A [] s.heap.size = A at hD hR ⊢
  have hA : ∀ q : Nat, s.heap.size ≤ q → A q := fun q h => by rw [← hAe]; exact Or.inr h
  have hS : va_S A s.heap s.heap [] := va_S.rf
  have hN : adN [] := hN
  have hl := lv_entry ([.int v]) (n := 1) (Nat.le_of_ble_eq_true rfl)
  rw [lg_entry_eq]
  generalize (lg_sl ([.int v]) ++ List.replicate (1 - (lg_sl ([.int v])).length) Slot.unset).toArray = ls at hl ⊢
  have hl : lv_has ls 1 [(0, .int v)] := hl
  refine lv_iload_n hx hb dX5_isLaw_0 rfl (lv_at hl 0 rfl) ?_
  refine lv_if_lt (tgt := 13) hx hb dX5_isLaw_1 (by decide) (fun c1 => ?_) (fun c1 => ?_)
  · refine lv_iconst (v := 0) hx hb dX5_isLaw_13 (by decide) ?_
    exact rt_z hx hb hr rfl hlocks () (by unfold tx_il; rw [tx_and_f1 (Int32.not_le.mpr c1)]; rfl) hP hD hS dX5_isLaw_14
  · refine lv_iload_n hx hb dX5_isLaw_4 rfl (lv_at hl 0 rfl) ?_
    refine lv_iconst (v := 5) hx hb dX5_isLaw_5 (by decide) ?_
    refine lv_icmp_gt (tgt := 13) hx hb dX5_isLaw_6 (by decide) (fun c6 => ?_) (fun c6 => ?_)
    · refine lv_iconst (v := 0) hx hb dX5_isLaw_13 (by decide) ?_
      exact rt_z hx hb hr rfl hlocks () (by unfold tx_il; rw [tx_and_f2 (Int32.not_le.mpr c6)]; rfl) hP hD hS dX5_isLaw_14
    · refine lv_iconst (v := 1) hx hb dX5_isLaw_9 (by decide) ?_
      refine lv_goto (tgt := 14) hx hb dX5_isLaw_10 (by decide) ?_
      exact rt_z hx hb hr rfl hlocks () (by unfold tx_il; rw [tx_and_t (Int32.not_lt.mp c1) (Int32.not_lt.mp c6)]; rfl) hP hD hS dX5_isLaw_14
set_option maxHeartbeats 4000000 in
set_option maxRecDepth 100000 in
theorem c_X5_lookAtNow (l : Launch) (D : va_G) (cs : Nat → ClassId) (sz : Nat) (xo : Nat) (hk : Nat) (im : Bool) (tx : Nat) (pn : Nat) (cn : Nat) (s0 : Nat) (ss : Nat) (r0 : Nat) (h : Nat) (k0 : Nat) (k1 : Nat) (k2 : Nat) (k3 : Nat) (k4 : Nat) (k5 : Nat) (n : Nat) (dy : Nat) (ch : Nat) (lw : Nat) (kd : Nat → Nat) (wo : Nat → Nat) (ha : Nat → Nat) (we : Nat → Nat) (td : Nat → Nat) (g : Nat) (g0 : Nat) (dd : Nat) (er : Int) (cg : Nat) (x : tx_5) (ld : Nat → Nat) (hn : n ≤ 4) (hkd : ∀ e, kd e ≤ 5) (htd : ∀ e, td e < 4) (hd1 : 1 ≤ dy) (hdy : dy ≤ 20) (hld : ∀ e, ld e < 4) : mV (S := Unit) l yX5_lookAtNow wsX5_lookAtNow ({ frames := 4, cells := 0, slots := 0, locals := 88 } : Room) D (tyc cs) sz [.ref xo] [(xo, .inr (5, [.ref h, .ref hk, .int (bI im), .ref tx, .ref g, .ref pn, .ref cn, .ref s0, .int (nI ss), .ref r0])), (h, .inr (4, [.ref k0, .ref k1, .ref k2, .ref k3, .ref k4, .ref k5, .int (nI n), .int (nI dy), .int (nI ch), .int (nI lw)])), (k0, aI cs 4 (tx_nf kd)), (k1, aI cs 4 (tx_nf wo)), (k2, aI cs 4 (tx_nf ha)), (k3, aI cs 4 (tx_nf we))] [(k4, aI cs 20 (tx_nf td)), (g, .inr (1, [.ref g0, .int (nI dd), .int (iI er), .int (nI cg), .int (nI x.1), .int (nI x.2.1), .int (nI x.2.2.1), .int (nI x.2.2.2.1), .int (nI x.2.2.2.2)])), (g0, aI cs 21 (tx_nf ld))] (fun (u : Unit) => True) (fun _ => [(k4, aI cs 20 (tx_nf td)), (g, .inr (1, [.ref g0, .int (nI dy), .int (iI (tx_earn n kd wo ha we td dy ch)), .int (nI (tx_cg td (dy - 1))), .int (nI ((tx_T n kd td dy).1)), .int (nI ((tx_T n kd td dy).2.1)), .int (nI ((tx_T n kd td dy).2.2.1)), .int (nI ((tx_T n kd td dy).2.2.2.1)), .int (nI ((tx_T n kd td dy).2.2.2.2))])), (g0, aI cs 21 (tx_nf (tx_l20 td ld)))]) 0 0 := by
  unfold mV
  refine Met.ofW (cc := cX5_lookAtNow) (maxL := 1) (ret := none) (by decide) rfl ?_
  intro p e s m args below meth c s₁ B hml hv
  obtain ⟨rfl, hsz, hP, hK, hD0⟩ := hv
  have hx := B.exec
  have hb := B.bytes
  have hr := B.returns
  have hts := atoms_spec (ws := wsX5_lookAtNow) B.pre
  have hown : s.vm.findClass RX5 = some m.cls := findClass_of_methodNamed B.named
  have hlocks := B.notSynchronized
  subst hsz
  have hR := @en_R _ _ _ [(xo, .inr (5, [.ref h, .ref hk, .int (bI im), .ref tx, .ref g, .ref pn, .ref cn, .ref s0, .int (nI ss), .ref r0])), (h, .inr (4, [.ref k0, .ref k1, .ref k2, .ref k3, .ref k4, .ref k5, .int (nI n), .int (nI dy), .int (nI ch), .int (nI lw)])), (k0, aI cs 4 (tx_nf kd)), (k1, aI cs 4 (tx_nf wo)), (k2, aI cs 4 (tx_nf ha)), (k3, aI cs 4 (tx_nf we))] [(k4, aI cs 20 (tx_nf td)), (g, .inr (1, [.ref g0, .int (nI dd), .int (iI er), .int (nI cg), .int (nI x.1), .int (nI x.2.1), .int (nI x.2.2.1), .int (nI x.2.2.2.1), .int (nI x.2.2.2.2)])), (g0, aI cs 21 (tx_nf ld))] _ hP hD0
  have hN := adN_of hD0
  have hD := en_D (wr := [(xo, .inr (5, [.ref h, .ref hk, .int (bI im), .ref tx, .ref g, .ref pn, .ref cn, .ref s0, .int (nI ss), .ref r0])), (h, .inr (4, [.ref k0, .ref k1, .ref k2, .ref k3, .ref k4, .ref k5, .int (nI n), .int (nI dy), .int (nI ch), .int (nI lw)])), (k0, aI cs 4 (tx_nf kd)), (k1, aI cs 4 (tx_nf wo)), (k2, aI cs 4 (tx_nf ha)), (k3, aI cs 4 (tx_nf we))]) (ww := [(k4, aI cs 20 (tx_nf td)), (g, .inr (1, [.ref g0, .int (nI dd), .int (iI er), .int (nI cg), .int (nI x.1), .int (nI x.2.1), .int (nI x.2.2.1), .int (nI x.2.2.2.1), .int (nI x.2.2.2.2)])), (g0, aI cs 21 (tx_nf ld))]) (sz := s.heap.size) hD0
  have hP := en_P (wr := [(xo, .inr (5, [.ref h, .ref hk, .int (bI im), .ref tx, .ref g, .ref pn, .ref cn, .ref s0, .int (nI ss), .ref r0])), (h, .inr (4, [.ref k0, .ref k1, .ref k2, .ref k3, .ref k4, .ref k5, .int (nI n), .int (nI dy), .int (nI ch), .int (nI lw)])), (k0, aI cs 4 (tx_nf kd)), (k1, aI cs 4 (tx_nf wo)), (k2, aI cs 4 (tx_nf ha)), (k3, aI cs 4 (tx_nf we))]) (ww := [(k4, aI cs 20 (tx_nf td)), (g, .inr (1, [.ref g0, .int (nI dd), .int (iI er), .int (nI cg), .int (nI x.1), .int (nI x.2.1), .int (nI x.2.2.1), .int (nI x.2.2.2.1), .int (nI x.2.2.2.2)])), (g0, aI cs 21 (tx_nf ld))]) hP
  generalize hAe : va_A [(k4, aI cs 20 (tx_nf td)), (g, .inr (1, [.ref g0, .int (nI dd), .int (iI er), .int (nI cg), .int (nI x.1), .int (nI x.2.1), .int (nI x.2.2.1), .int (nI x.2.2.2.1), .int (nI x.2.2.2.2)])), (g0, aI cs 21 (tx_nf ld))] s.heap.size = A at hD hR ⊢
  have hA : ∀ q : Nat, s.heap.size ≤ q → A q := fun q h => by rw [← hAe]; exact Or.inr h
  have hS : va_S A s.heap s.heap [] := va_S.rf
  have hN : adN [xo, h, k0, k1, k2, k3, k4, g, g0] := hN
  have hf_10 := hts (.fieldLink RX5 10 "TaxedByLongest" "told" "LTaxedByLongest$Told;") (by decide +kernel)
  have hf_33 := hts (.fieldLink RX5 33 "TaxedByLongest" "look" "LTaxedByLongest$Look;") (by decide +kernel)
  have in_X5 : ∀ w ∈ wsX50, w ∈ wsX5_lookAtNow := by decide +kernel
  have hl := lv_entry ([.ref xo]) (n := 1) (Nat.le_of_ble_eq_true rfl)
  rw [lg_entry_eq]
  generalize (lg_sl ([.ref xo]) ++ List.replicate (1 - (lg_sl ([.ref xo])).length) Slot.unset).toArray = ls at hl ⊢
  have hl : lv_has ls 1 [(0, .ref xo)] := hl
  refine lv_aload_n hx hb dX5_lookAtNow_0 rfl (lv_at hl 0 rfl) ?_
  refine va_get (D := D) (ci := 5) (v := .ref g) (C := RX5) (T := TX5) (N := 10) hx hb hts in_X5 hown hK (hR hS) 0 rfl rfl 4 (by decide) hf_33 (fun _ h9 => h9) rfl dX5_lookAtNow_1 ?_
  refine lv_aload_n hx hb dX5_lookAtNow_4 rfl (lv_at hl 0 rfl) ?_
  refine va_get (D := D) (ci := 5) (v := .ref h) (C := RX5) (T := TX5) (N := 10) hx hb hts in_X5 hown hK (hR hS) 0 rfl rfl 0 (by decide) hf_10 (fun _ h9 => h9) rfl dX5_lookAtNow_5 ?_
  refine cV_v (As := [.ref h]) (rest := []) (cr := [(h, .inr (4, [.ref k0, .ref k1, .ref k2, .ref k3, .ref k4, .ref k5, .int (nI n), .int (nI dy), .int (nI ch), .int (nI lw)]))]) (cw1 := [(g, .inr (1, [.ref g0, .int (nI dd), .int (iI er), .int (nI cg), .int (nI x.1), .int (nI x.2.1), .int (nI x.2.2.1), .int (nI x.2.2.2.1), .int (nI x.2.2.2.2)])), (g0, aI cs 21 (tx_nf ld)), (k4, aI cs 20 (tx_nf td))]) ⟨hx, hb, hml, hown, hts⟩ (c_X1_copyYear l D cs _ g g0 dd er cg x ld h k0 k1 k2 k3 k4 k5 n dy ch lw td ) (cwV 1 hts gX5_lookAtNow_X1_copyYear rfl rfl rfl (by decide +kernel) ⟨Nat.le_of_ble_eq_true rfl, Nat.le_of_ble_eq_true rfl⟩) hK hP hD hS hA (((hR hS).app hP).sub [1, 7, 8, 6] rfl) (dt_of hN [1, 7, 8, 6] (by decide) rfl) [1, 2, 0] rfl 1 rfl rfl rfl hl.1 rfl (Nat.le_of_ble_eq_true rfl) dX5_lookAtNow_8 ⟨Nat.le_of_ble_eq_true rfl, Nat.le_of_ble_eq_true rfl⟩ (fun _ => rfl) (fun _ => rfl) (fun u9 H locs hw_1 hP hD hS => ?_)
  have hP : va_P D vwCl [(k4, aI cs 20 (tx_nf td)), (g, .inr (1, [.ref g0, .int (nI dy), .int (iI er), .int (nI cg), .int (nI x.1), .int (nI x.2.1), .int (nI x.2.2.1), .int (nI x.2.2.2.1), .int (nI x.2.2.2.2)])), (g0, aI cs 21 (tx_nf (fun d => if d < 20 then td d else ld d)))] H := hP
  have hD : va_D A [(k4, aI cs 20 (tx_nf td)), (g, .inr (1, [.ref g0, .int (nI dy), .int (iI er), .int (nI cg), .int (nI x.1), .int (nI x.2.1), .int (nI x.2.2.1), .int (nI x.2.2.2.1), .int (nI x.2.2.2.2)])), (g0, aI cs 21 (tx_nf (fun d => if d < 20 then td d else ld d)))] := hD
  have e9 : (tx_nf (fun d => if d < 20 then td d else ld d) : Nat → _) = tx_nf (tx_l20 td ld) := rfl
  rw [e9] at hP hD
  refine lv_aload_n hx hb dX5_lookAtNow_11 rfl (lv_at hl 0 rfl) ?_
  refine va_get (D := D) (ci := 5) (v := .ref g) (C := RX5) (T := TX5) (N := 10) hx hb hts in_X5 hown hK (hR hS) 0 rfl rfl 4 (by decide) hf_33 (fun _ h9 => h9) rfl dX5_lookAtNow_12 ?_
  refine lv_aload_n hx hb dX5_lookAtNow_15 rfl (lv_at hl 0 rfl) ?_
  refine va_get (D := D) (ci := 5) (v := .ref h) (C := RX5) (T := TX5) (N := 10) hx hb hts in_X5 hown hK (hR hS) 0 rfl rfl 0 (by decide) hf_10 (fun _ h9 => h9) rfl dX5_lookAtNow_16 ?_
  refine cV_v (As := [.ref h]) (rest := []) (cr := [(h, .inr (4, [.ref k0, .ref k1, .ref k2, .ref k3, .ref k4, .ref k5, .int (nI n), .int (nI dy), .int (nI ch), .int (nI lw)])), (k0, aI cs 4 (tx_nf kd)), (k1, aI cs 4 (tx_nf wo)), (k2, aI cs 4 (tx_nf ha)), (k3, aI cs 4 (tx_nf we)), (g0, aI cs 21 (tx_nf (tx_l20 td ld)))]) (cw1 := [(g, .inr (1, [.ref g0, .int (nI dy), .int (iI er), .int (nI cg), .int (nI x.1), .int (nI x.2.1), .int (nI x.2.2.1), .int (nI x.2.2.2.1), .int (nI x.2.2.2.2)]))]) ⟨hx, hb, hml, hown, hts⟩ (c_X1_tally l D cs _ g g0 dy er cg x (tx_l20 td ld) h k0 k1 k2 k3 k4 k5 n dy ch lw kd wo ha we (by first | assumption | omega) (by first | assumption | omega) (tx_l20_4 htd hld) (by first | assumption | omega) (by first | assumption | omega)) (cwV 1 hts gX5_lookAtNow_X1_tally rfl rfl rfl (by decide +kernel) ⟨Nat.le_of_ble_eq_true rfl, Nat.le_of_ble_eq_true rfl⟩) hK hP hD hS hA (((hR hS).app hP).sub [1, 2, 3, 4, 5, 8, 7] rfl) (dt_of hN [1, 2, 3, 4, 5, 8, 7] (by decide) rfl) [1] rfl 6 rfl rfl rfl hl.1 rfl (Nat.le_of_ble_eq_true rfl) dX5_lookAtNow_19 ⟨Nat.le_of_ble_eq_true rfl, Nat.le_of_ble_eq_true rfl⟩ (fun _ => rfl) (fun _ => rfl) (fun u9 H locs hw_2 hP hD hS => ?_)
  have hP : va_P D vwCl [(k4, aI cs 20 (tx_nf td)), (g, .inr (1, [.ref g0, .int (nI dy), .int (iI (tx_earn n kd wo ha we (tx_l20 td ld) dy ch)), .int (nI (tx_cg (tx_l20 td ld) (dy - 1))), .int (nI ((tx_T n kd (tx_l20 td ld) dy).1)), .int (nI ((tx_T n kd (tx_l20 td ld) dy).2.1)), .int (nI ((tx_T n kd (tx_l20 td ld) dy).2.2.1)), .int (nI ((tx_T n kd (tx_l20 td ld) dy).2.2.2.1)), .int (nI ((tx_T n kd (tx_l20 td ld) dy).2.2.2.2))])), (g0, aI cs 21 (tx_nf (tx_l20 td ld)))] H := hP
  have hD : va_D A [(k4, aI cs 20 (tx_nf td)), (g, .inr (1, [.ref g0, .int (nI dy), .int (iI (tx_earn n kd wo ha we (tx_l20 td ld) dy ch)), .int (nI (tx_cg (tx_l20 td ld) (dy - 1))), .int (nI ((tx_T n kd (tx_l20 td ld) dy).1)), .int (nI ((tx_T n kd (tx_l20 td ld) dy).2.1)), .int (nI ((tx_T n kd (tx_l20 td ld) dy).2.2.1)), .int (nI ((tx_T n kd (tx_l20 td ld) dy).2.2.2.1)), .int (nI ((tx_T n kd (tx_l20 td ld) dy).2.2.2.2))])), (g0, aI cs 21 (tx_nf (tx_l20 td ld)))] := hD
  rw [tx_earn_cg hd1 (tx_l20_lt hdy), tx_cg_cg (dy - 1) (fun e he => tx_l20_lt hdy e (by omega)), tx_T_cg hd1 (tx_l20_lt hdy)] at hP hD
  have e9 : dy = dy := rfl
  have hP : va_P D vwCl [(k4, aI cs 20 (tx_nf td)), (g, .inr (1, [.ref g0, .int (nI dy), .int (iI (tx_earn n kd wo ha we td dy ch)), .int (nI (tx_cg td (dy - 1))), .int (nI ((tx_T n kd td dy).1)), .int (nI ((tx_T n kd td dy).2.1)), .int (nI ((tx_T n kd td dy).2.2.1)), .int (nI ((tx_T n kd td dy).2.2.2.1)), .int (nI ((tx_T n kd td dy).2.2.2.2))])), (g0, aI cs 21 (tx_nf (tx_l20 td ld)))] H := by rw [e9]; exact hP
  have hD : va_D A [(k4, aI cs 20 (tx_nf td)), (g, .inr (1, [.ref g0, .int (nI dy), .int (iI (tx_earn n kd wo ha we td dy ch)), .int (nI (tx_cg td (dy - 1))), .int (nI ((tx_T n kd td dy).1)), .int (nI ((tx_T n kd td dy).2.1)), .int (nI ((tx_T n kd td dy).2.2.1)), .int (nI ((tx_T n kd td dy).2.2.2.1)), .int (nI ((tx_T n kd td dy).2.2.2.2))])), (g0, aI cs 21 (tx_nf (tx_l20 td ld)))] := by rw [e9]; exact hD
  exact rt_v hx hb hr hlocks () (trivial) hP hD hS dX5_lookAtNow_22
set_option maxHeartbeats 4000000 in
set_option maxRecDepth 100000 in
theorem c_X5_leftNow (l : Launch) (D : va_G) (cs : Nat → ClassId) (sz : Nat) (xo : Nat) (hk : Nat) (im : Bool) (tx : Nat) (pn : Nat) (cn : Nat) (s0 : Nat) (ss : Nat) (r0 : Nat) (h : Nat) (k0 : Nat) (k1 : Nat) (k2 : Nat) (k3 : Nat) (k4 : Nat) (k5 : Nat) (n : Nat) (dy : Nat) (ch : Nat) (lw : Nat) (kd : Nat → Nat) (wo : Nat → Nat) (ha : Nat → Nat) (we : Nat → Nat) (td : Nat → Nat) (g : Nat) (g0 : Nat) (dd : Nat) (er : Int) (cg : Nat) (x : tx_5) (ld : Nat → Nat) (hn : n ≤ 4) (hkd : ∀ e, kd e ≤ 5) (htd : ∀ e, td e < 4) (hd1 : 1 ≤ dy) (hdy : dy ≤ 20) (hld : ∀ e, ld e < 4) (hlw : lw ≤ 5) : mI (S := Unit) l yX5_leftNow wsX5_leftNow ({ frames := 5, cells := 0, slots := 0, locals := 108 } : Room) D (tyc cs) sz [.ref xo] [(xo, .inr (5, [.ref h, .ref hk, .int (bI im), .ref tx, .ref g, .ref pn, .ref cn, .ref s0, .int (nI ss), .ref r0])), (h, .inr (4, [.ref k0, .ref k1, .ref k2, .ref k3, .ref k4, .ref k5, .int (nI n), .int (nI dy), .int (nI ch), .int (nI lw)])), (k0, aI cs 4 (tx_nf kd)), (k1, aI cs 4 (tx_nf wo)), (k2, aI cs 4 (tx_nf ha)), (k3, aI cs 4 (tx_nf we))] [(k4, aI cs 20 (tx_nf td)), (g, .inr (1, [.ref g0, .int (nI dd), .int (iI er), .int (nI cg), .int (nI x.1), .int (nI x.2.1), .int (nI x.2.2.1), .int (nI x.2.2.2.1), .int (nI x.2.2.2.2)])), (g0, aI cs 21 (tx_nf ld))] (fun (r : Int32) (u : Unit) => r = iI (tx_left n kd wo ha we td dy ch lw)) (fun _ => [(k4, aI cs 20 (tx_nf td)), (g, .inr (1, [.ref g0, .int (nI dy), .int (iI (tx_earn n kd wo ha we td dy ch)), .int (nI (tx_cg td (dy - 1))), .int (nI ((tx_T n kd td dy).1)), .int (nI ((tx_T n kd td dy).2.1)), .int (nI ((tx_T n kd td dy).2.2.1)), .int (nI ((tx_T n kd td dy).2.2.2.1)), .int (nI ((tx_T n kd td dy).2.2.2.2))])), (g0, aI cs 21 (tx_nf (tx_l20 td ld)))]) 0 0 := by
  unfold mI
  refine Met.ofW (cc := cX5_leftNow) (maxL := 1) (ret := (some .int)) (by decide) rfl ?_
  intro p e s m args below meth c s₁ B hml hv
  obtain ⟨rfl, hsz, hP, hK, hD0⟩ := hv
  have hx := B.exec
  have hb := B.bytes
  have hr := B.returns
  have hts := atoms_spec (ws := wsX5_leftNow) B.pre
  have hown : s.vm.findClass RX5 = some m.cls := findClass_of_methodNamed B.named
  have hlocks := B.notSynchronized
  subst hsz
  have hR := @en_R _ _ _ [(xo, .inr (5, [.ref h, .ref hk, .int (bI im), .ref tx, .ref g, .ref pn, .ref cn, .ref s0, .int (nI ss), .ref r0])), (h, .inr (4, [.ref k0, .ref k1, .ref k2, .ref k3, .ref k4, .ref k5, .int (nI n), .int (nI dy), .int (nI ch), .int (nI lw)])), (k0, aI cs 4 (tx_nf kd)), (k1, aI cs 4 (tx_nf wo)), (k2, aI cs 4 (tx_nf ha)), (k3, aI cs 4 (tx_nf we))] [(k4, aI cs 20 (tx_nf td)), (g, .inr (1, [.ref g0, .int (nI dd), .int (iI er), .int (nI cg), .int (nI x.1), .int (nI x.2.1), .int (nI x.2.2.1), .int (nI x.2.2.2.1), .int (nI x.2.2.2.2)])), (g0, aI cs 21 (tx_nf ld))] _ hP hD0
  have hN := adN_of hD0
  have hD := en_D (wr := [(xo, .inr (5, [.ref h, .ref hk, .int (bI im), .ref tx, .ref g, .ref pn, .ref cn, .ref s0, .int (nI ss), .ref r0])), (h, .inr (4, [.ref k0, .ref k1, .ref k2, .ref k3, .ref k4, .ref k5, .int (nI n), .int (nI dy), .int (nI ch), .int (nI lw)])), (k0, aI cs 4 (tx_nf kd)), (k1, aI cs 4 (tx_nf wo)), (k2, aI cs 4 (tx_nf ha)), (k3, aI cs 4 (tx_nf we))]) (ww := [(k4, aI cs 20 (tx_nf td)), (g, .inr (1, [.ref g0, .int (nI dd), .int (iI er), .int (nI cg), .int (nI x.1), .int (nI x.2.1), .int (nI x.2.2.1), .int (nI x.2.2.2.1), .int (nI x.2.2.2.2)])), (g0, aI cs 21 (tx_nf ld))]) (sz := s.heap.size) hD0
  have hP := en_P (wr := [(xo, .inr (5, [.ref h, .ref hk, .int (bI im), .ref tx, .ref g, .ref pn, .ref cn, .ref s0, .int (nI ss), .ref r0])), (h, .inr (4, [.ref k0, .ref k1, .ref k2, .ref k3, .ref k4, .ref k5, .int (nI n), .int (nI dy), .int (nI ch), .int (nI lw)])), (k0, aI cs 4 (tx_nf kd)), (k1, aI cs 4 (tx_nf wo)), (k2, aI cs 4 (tx_nf ha)), (k3, aI cs 4 (tx_nf we))]) (ww := [(k4, aI cs 20 (tx_nf td)), (g, .inr (1, [.ref g0, .int (nI dd), .int (iI er), .int (nI cg), .int (nI x.1), .int (nI x.2.1), .int (nI x.2.2.1), .int (nI x.2.2.2.1), .int (nI x.2.2.2.2)])), (g0, aI cs 21 (tx_nf ld))]) hP
  generalize hAe : va_A [(k4, aI cs 20 (tx_nf td)), (g, .inr (1, [.ref g0, .int (nI dd), .int (iI er), .int (nI cg), .int (nI x.1), .int (nI x.2.1), .int (nI x.2.2.1), .int (nI x.2.2.2.1), .int (nI x.2.2.2.2)])), (g0, aI cs 21 (tx_nf ld))] s.heap.size = A at hD hR ⊢
  have hA : ∀ q : Nat, s.heap.size ≤ q → A q := fun q h => by rw [← hAe]; exact Or.inr h
  have hS : va_S A s.heap s.heap [] := va_S.rf
  have hN : adN [xo, h, k0, k1, k2, k3, k4, g, g0] := hN
  have hf_10 := hts (.fieldLink RX5 10 "TaxedByLongest" "told" "LTaxedByLongest$Told;") (by decide +kernel)
  have hf_33 := hts (.fieldLink RX5 33 "TaxedByLongest" "look" "LTaxedByLongest$Look;") (by decide +kernel)
  have hf_120 := hts (.fieldLink RX5 120 "TaxedByLongest$Told" "law" "I") (by decide +kernel)
  have in_X4 : ∀ w ∈ wsX40, w ∈ wsX5_leftNow := by decide +kernel
  have in_X5 : ∀ w ∈ wsX50, w ∈ wsX5_leftNow := by decide +kernel
  have hl := lv_entry ([.ref xo]) (n := 1) (Nat.le_of_ble_eq_true rfl)
  rw [lg_entry_eq]
  generalize (lg_sl ([.ref xo]) ++ List.replicate (1 - (lg_sl ([.ref xo])).length) Slot.unset).toArray = ls at hl ⊢
  have hl : lv_has ls 1 [(0, .ref xo)] := hl
  refine lv_aload_n hx hb dX5_leftNow_0 rfl (lv_at hl 0 rfl) ?_
  refine cV_v (As := []) (rest := []) (cr := [(xo, .inr (5, [.ref h, .ref hk, .int (bI im), .ref tx, .ref g, .ref pn, .ref cn, .ref s0, .int (nI ss), .ref r0])), (h, .inr (4, [.ref k0, .ref k1, .ref k2, .ref k3, .ref k4, .ref k5, .int (nI n), .int (nI dy), .int (nI ch), .int (nI lw)])), (k0, aI cs 4 (tx_nf kd)), (k1, aI cs 4 (tx_nf wo)), (k2, aI cs 4 (tx_nf ha)), (k3, aI cs 4 (tx_nf we))]) (cw1 := [(k4, aI cs 20 (tx_nf td)), (g, .inr (1, [.ref g0, .int (nI dd), .int (iI er), .int (nI cg), .int (nI x.1), .int (nI x.2.1), .int (nI x.2.2.1), .int (nI x.2.2.2.1), .int (nI x.2.2.2.2)])), (g0, aI cs 21 (tx_nf ld))]) ⟨hx, hb, hml, hown, hts⟩ (c_X5_lookAtNow l D cs _ xo hk im tx pn cn s0 ss r0 h k0 k1 k2 k3 k4 k5 n dy ch lw kd wo ha we td g g0 dd er cg x ld (by first | assumption | omega) (by first | assumption | omega) (by first | assumption | omega) (by first | assumption | omega) (by first | assumption | omega) (by first | assumption | omega)) (cwV 0 hts gX5_leftNow_X5_lookAtNow rfl rfl rfl (by decide +kernel) ⟨Nat.le_of_ble_eq_true rfl, Nat.le_of_ble_eq_true rfl⟩) hK hP hD hS hA (((hR hS).app hP).sub [0, 1, 2, 3, 4, 5, 6, 7, 8] rfl) (dt_of hN [0, 1, 2, 3, 4, 5, 6, 7, 8] (by decide) rfl) [0, 1, 2] rfl 0 rfl rfl rfl hl.1 rfl (Nat.le_of_ble_eq_true rfl) dX5_leftNow_1 ⟨Nat.le_of_ble_eq_true rfl, Nat.le_of_ble_eq_true rfl⟩ (fun _ => rfl) (fun _ => rfl) (fun u9 H locs hw_1 hP hD hS => ?_)
  have hP : va_P D vwCl [(k4, aI cs 20 (tx_nf td)), (g, .inr (1, [.ref g0, .int (nI dy), .int (iI (tx_earn n kd wo ha we td dy ch)), .int (nI (tx_cg td (dy - 1))), .int (nI ((tx_T n kd td dy).1)), .int (nI ((tx_T n kd td dy).2.1)), .int (nI ((tx_T n kd td dy).2.2.1)), .int (nI ((tx_T n kd td dy).2.2.2.1)), .int (nI ((tx_T n kd td dy).2.2.2.2))])), (g0, aI cs 21 (tx_nf (tx_l20 td ld)))] H := hP
  have hD : va_D A [(k4, aI cs 20 (tx_nf td)), (g, .inr (1, [.ref g0, .int (nI dy), .int (iI (tx_earn n kd wo ha we td dy ch)), .int (nI (tx_cg td (dy - 1))), .int (nI ((tx_T n kd td dy).1)), .int (nI ((tx_T n kd td dy).2.1)), .int (nI ((tx_T n kd td dy).2.2.1)), .int (nI ((tx_T n kd td dy).2.2.2.1)), .int (nI ((tx_T n kd td dy).2.2.2.2))])), (g0, aI cs 21 (tx_nf (tx_l20 td ld)))] := hD
  refine lv_aload_n hx hb dX5_leftNow_4 rfl (lv_at hl 0 rfl) ?_
  refine va_get (D := D) (ci := 5) (v := .ref g) (C := RX5) (T := TX5) (N := 10) hx hb hts in_X5 hown hK (hR hS) 0 rfl rfl 4 (by decide) hf_33 (fun _ h9 => h9) rfl dX5_leftNow_5 ?_
  refine lv_aload_n hx hb dX5_leftNow_8 rfl (lv_at hl 0 rfl) ?_
  refine va_get (D := D) (ci := 5) (v := .ref h) (C := RX5) (T := TX5) (N := 10) hx hb hts in_X5 hown hK (hR hS) 0 rfl rfl 0 (by decide) hf_10 (fun _ h9 => h9) rfl dX5_leftNow_9 ?_
  refine va_get (D := D) (ci := 4) (v := .int (nI lw)) (C := RX4) (T := TX4) (N := 10) hx hb hts in_X4 hown hK (hR hS) 1 rfl rfl 9 (by decide) hf_120 (fun _ h9 => h9) rfl dX5_leftNow_12 ?_
  refine cV_i (As := [.int (nI lw)]) (rest := []) (cr := [(g, .inr (1, [.ref g0, .int (nI dy), .int (iI (tx_earn n kd wo ha we td dy ch)), .int (nI (tx_cg td (dy - 1))), .int (nI ((tx_T n kd td dy).1)), .int (nI ((tx_T n kd td dy).2.1)), .int (nI ((tx_T n kd td dy).2.2.1)), .int (nI ((tx_T n kd td dy).2.2.2.1)), .int (nI ((tx_T n kd td dy).2.2.2.2))]))]) (cw1 := []) ⟨hx, hb, hml, hown, hts⟩ (c_X1_leftBy l D cs _ g g0 dy (tx_earn n kd wo ha we td dy ch) (tx_cg td (dy - 1)) (tx_T n kd td dy) lw (by first | assumption | omega)) (cwV 1 hts gX5_leftNow_X1_leftBy rfl rfl rfl (by decide +kernel) ⟨Nat.le_of_ble_eq_true rfl, Nat.le_of_ble_eq_true rfl⟩) hK hP hD hS hA (((hR hS).app hP).sub [7] rfl) (dt_of hN [7] (by decide) rfl) [] rfl 0 rfl rfl rfl hl.1 rfl (Nat.le_of_ble_eq_true rfl) dX5_leftNow_15 ⟨Nat.le_of_ble_eq_true rfl, Nat.le_of_ble_eq_true rfl⟩ (fun _ => rfl) (fun _ => rfl) (fun r_2 u9 H locs hw_3 hP hD hS => ?_)
  have hP : va_P D vwCl [(k4, aI cs 20 (tx_nf td)), (g, .inr (1, [.ref g0, .int (nI dy), .int (iI (tx_earn n kd wo ha we td dy ch)), .int (nI (tx_cg td (dy - 1))), .int (nI ((tx_T n kd td dy).1)), .int (nI ((tx_T n kd td dy).2.1)), .int (nI ((tx_T n kd td dy).2.2.1)), .int (nI ((tx_T n kd td dy).2.2.2.1)), .int (nI ((tx_T n kd td dy).2.2.2.2))])), (g0, aI cs 21 (tx_nf (tx_l20 td ld)))] H := hP
  have hD : va_D A [(k4, aI cs 20 (tx_nf td)), (g, .inr (1, [.ref g0, .int (nI dy), .int (iI (tx_earn n kd wo ha we td dy ch)), .int (nI (tx_cg td (dy - 1))), .int (nI ((tx_T n kd td dy).1)), .int (nI ((tx_T n kd td dy).2.1)), .int (nI ((tx_T n kd td dy).2.2.1)), .int (nI ((tx_T n kd td dy).2.2.2.1)), .int (nI ((tx_T n kd td dy).2.2.2.2))])), (g0, aI cs 21 (tx_nf (tx_l20 td ld)))] := hD
  subst r_2
  exact rt_i hx hb hr hlocks () (rfl) hP hD hS dX5_leftNow_18
set_option maxHeartbeats 4000000 in
set_option maxRecDepth 100000 in
theorem c_X5_leftWith (l : Launch) (D : va_G) (cs : Nat → ClassId) (sz : Nat) (xo : Nat) (hk : Nat) (im : Bool) (tx : Nat) (pn : Nat) (cn : Nat) (s0 : Nat) (ss : Nat) (r0 : Nat) (h : Nat) (k0 : Nat) (k1 : Nat) (k2 : Nat) (k3 : Nat) (k4 : Nat) (k5 : Nat) (n : Nat) (dy : Nat) (ch : Nat) (lw : Nat) (kd : Nat → Nat) (wo : Nat → Nat) (ha : Nat → Nat) (we : Nat → Nat) (td : Nat → Nat) (g : Nat) (g0 : Nat) (er : Int) (cg : Nat) (x : tx_5) (ld : Nat → Nat) (d : Nat) (t : Nat) (hn : n ≤ 4) (hkd : ∀ e, kd e ≤ 5) (htd : ∀ e, td e < 4) (hd1 : 1 ≤ dy) (hdy : dy ≤ 20) (hld : ∀ e, ld e < 4) (hlw : lw ≤ 5) (hd : d < 20) (ht : t < 4) (hld9 : ∀ e, e < 20 → ld e = td e) : mI (S := Nat × Int × Nat × tx_5 × (Nat → Nat)) l yX5_leftWith wsX5_leftWith ({ frames := 4, cells := 0, slots := 0, locals := 88 } : Room) D (tyc cs) sz [.ref xo, .int (nI d), .int (nI t)] [(xo, .inr (5, [.ref h, .ref hk, .int (bI im), .ref tx, .ref g, .ref pn, .ref cn, .ref s0, .int (nI ss), .ref r0])), (h, .inr (4, [.ref k0, .ref k1, .ref k2, .ref k3, .ref k4, .ref k5, .int (nI n), .int (nI dy), .int (nI ch), .int (nI lw)])), (k0, aI cs 4 (tx_nf kd)), (k1, aI cs 4 (tx_nf wo)), (k2, aI cs 4 (tx_nf ha)), (k3, aI cs 4 (tx_nf we)), (k4, aI cs 20 (tx_nf td))] [(g, .inr (1, [.ref g0, .int (nI dy), .int (iI er), .int (nI cg), .int (nI x.1), .int (nI x.2.1), .int (nI x.2.2.1), .int (nI x.2.2.2.1), .int (nI x.2.2.2.2)])), (g0, aI cs 21 (tx_nf ld))] (fun (r : Int32) (u : Nat × Int × Nat × tx_5 × (Nat → Nat)) => match u with | (dd2, er2, cg2, x2, ld2) => r = iI (tx_left n kd wo ha we (va_up td d t) dy ch lw) ∧ dd2 = dy ∧ ld2 = ld) (fun (u : Nat × Int × Nat × tx_5 × (Nat → Nat)) => match u with | (dd2, er2, cg2, x2, ld2) => [(g, .inr (1, [.ref g0, .int (nI dd2), .int (iI er2), .int (nI cg2), .int (nI x2.1), .int (nI x2.2.1), .int (nI x2.2.2.1), .int (nI x2.2.2.2.1), .int (nI x2.2.2.2.2)])), (g0, aI cs 21 (tx_nf ld2))]) 0 0 := by
  unfold mI
  refine Met.ofW (cc := cX5_leftWith) (maxL := 3) (ret := (some .int)) (by decide) rfl ?_
  intro p e s m args below meth c s₁ B hml hv
  obtain ⟨rfl, hsz, hP, hK, hD0⟩ := hv
  have hx := B.exec
  have hb := B.bytes
  have hr := B.returns
  have hts := atoms_spec (ws := wsX5_leftWith) B.pre
  have hown : s.vm.findClass RX5 = some m.cls := findClass_of_methodNamed B.named
  have hlocks := B.notSynchronized
  subst hsz
  have hR := @en_R _ _ _ [(xo, .inr (5, [.ref h, .ref hk, .int (bI im), .ref tx, .ref g, .ref pn, .ref cn, .ref s0, .int (nI ss), .ref r0])), (h, .inr (4, [.ref k0, .ref k1, .ref k2, .ref k3, .ref k4, .ref k5, .int (nI n), .int (nI dy), .int (nI ch), .int (nI lw)])), (k0, aI cs 4 (tx_nf kd)), (k1, aI cs 4 (tx_nf wo)), (k2, aI cs 4 (tx_nf ha)), (k3, aI cs 4 (tx_nf we)), (k4, aI cs 20 (tx_nf td))] [(g, .inr (1, [.ref g0, .int (nI dy), .int (iI er), .int (nI cg), .int (nI x.1), .int (nI x.2.1), .int (nI x.2.2.1), .int (nI x.2.2.2.1), .int (nI x.2.2.2.2)])), (g0, aI cs 21 (tx_nf ld))] _ hP hD0
  have hN := adN_of hD0
  have hD := en_D (wr := [(xo, .inr (5, [.ref h, .ref hk, .int (bI im), .ref tx, .ref g, .ref pn, .ref cn, .ref s0, .int (nI ss), .ref r0])), (h, .inr (4, [.ref k0, .ref k1, .ref k2, .ref k3, .ref k4, .ref k5, .int (nI n), .int (nI dy), .int (nI ch), .int (nI lw)])), (k0, aI cs 4 (tx_nf kd)), (k1, aI cs 4 (tx_nf wo)), (k2, aI cs 4 (tx_nf ha)), (k3, aI cs 4 (tx_nf we)), (k4, aI cs 20 (tx_nf td))]) (ww := [(g, .inr (1, [.ref g0, .int (nI dy), .int (iI er), .int (nI cg), .int (nI x.1), .int (nI x.2.1), .int (nI x.2.2.1), .int (nI x.2.2.2.1), .int (nI x.2.2.2.2)])), (g0, aI cs 21 (tx_nf ld))]) (sz := s.heap.size) hD0
  have hP := en_P (wr := [(xo, .inr (5, [.ref h, .ref hk, .int (bI im), .ref tx, .ref g, .ref pn, .ref cn, .ref s0, .int (nI ss), .ref r0])), (h, .inr (4, [.ref k0, .ref k1, .ref k2, .ref k3, .ref k4, .ref k5, .int (nI n), .int (nI dy), .int (nI ch), .int (nI lw)])), (k0, aI cs 4 (tx_nf kd)), (k1, aI cs 4 (tx_nf wo)), (k2, aI cs 4 (tx_nf ha)), (k3, aI cs 4 (tx_nf we)), (k4, aI cs 20 (tx_nf td))]) (ww := [(g, .inr (1, [.ref g0, .int (nI dy), .int (iI er), .int (nI cg), .int (nI x.1), .int (nI x.2.1), .int (nI x.2.2.1), .int (nI x.2.2.2.1), .int (nI x.2.2.2.2)])), (g0, aI cs 21 (tx_nf ld))]) hP
  generalize hAe : va_A [(g, .inr (1, [.ref g0, .int (nI dy), .int (iI er), .int (nI cg), .int (nI x.1), .int (nI x.2.1), .int (nI x.2.2.1), .int (nI x.2.2.2.1), .int (nI x.2.2.2.2)])), (g0, aI cs 21 (tx_nf ld))] s.heap.size = A at hD hR ⊢
  have hA : ∀ q : Nat, s.heap.size ≤ q → A q := fun q h => by rw [← hAe]; exact Or.inr h
  have hS : va_S A s.heap s.heap [] := va_S.rf
  have hN : adN [xo, h, k0, k1, k2, k3, k4, g, g0] := hN
  have hf_10 := hts (.fieldLink RX5 10 "TaxedByLongest" "told" "LTaxedByLongest$Told;") (by decide +kernel)
  have hf_33 := hts (.fieldLink RX5 33 "TaxedByLongest" "look" "LTaxedByLongest$Look;") (by decide +kernel)
  have hf_100 := hts (.fieldLink RX5 100 "TaxedByLongest$Told" "done" "[I") (by decide +kernel)
  have hf_120 := hts (.fieldLink RX5 120 "TaxedByLongest$Told" "law" "I") (by decide +kernel)
  have hf_245 := hts (.fieldLink RX5 245 "TaxedByLongest$Look" "done" "[I") (by decide +kernel)
  have in_X1 : ∀ w ∈ wsX10, w ∈ wsX5_leftWith := by decide +kernel
  have in_X4 : ∀ w ∈ wsX40, w ∈ wsX5_leftWith := by decide +kernel
  have in_X5 : ∀ w ∈ wsX50, w ∈ wsX5_leftWith := by decide +kernel
  have hl := lv_entry ([.ref xo, .int (nI d), .int (nI t)]) (n := 3) (Nat.le_of_ble_eq_true rfl)
  rw [lg_entry_eq]
  generalize (lg_sl ([.ref xo, .int (nI d), .int (nI t)]) ++ List.replicate (3 - (lg_sl ([.ref xo, .int (nI d), .int (nI t)])).length) Slot.unset).toArray = ls at hl ⊢
  have hl : lv_has ls 3 [(0, .ref xo), (1, .int (nI d)), (2, .int (nI t))] := hl
  refine lv_aload_n hx hb dX5_leftWith_0 rfl (lv_at hl 0 rfl) ?_
  refine va_get (D := D) (ci := 5) (v := .ref g) (C := RX5) (T := TX5) (N := 10) hx hb hts in_X5 hown hK (hR hS) 0 rfl rfl 4 (by decide) hf_33 (fun _ h9 => h9) rfl dX5_leftWith_1 ?_
  refine va_get (D := D) (ci := 1) (v := .ref g0) (C := RX1) (T := TX1) (N := 9) hx hb hts in_X1 hown hK hP 0 rfl rfl 0 (by decide) hf_245 (fun _ h9 => h9) rfl dX5_leftWith_4 ?_
  refine lv_iload_n hx hb dX5_leftWith_7 rfl (lv_at hl 1 rfl) ?_
  refine lv_iload_n hx hb dX5_leftWith_8 rfl (lv_at hl 2 rfl) ?_
  refine is_n (f := tx_nf ld) hx hb hK hP hD hS 1 0 rfl rfl (j := d) rfl (by omega) (by decide) dX5_leftWith_9 (fun H locs hP hD hS => ?_)
  rw [show upd (tx_nf ld) d (nI t) = tx_nf (va_up ld d t) from nf_up _ _ _] at hP hD
  have hP : va_P D vwCl [(g, .inr (1, [.ref g0, .int (nI dy), .int (iI er), .int (nI cg), .int (nI x.1), .int (nI x.2.1), .int (nI x.2.2.1), .int (nI x.2.2.2.1), .int (nI x.2.2.2.2)])), (g0, aI cs 21 (tx_nf (va_up ld d t)))] H := hP
  have hD : va_D A [(g, .inr (1, [.ref g0, .int (nI dy), .int (iI er), .int (nI cg), .int (nI x.1), .int (nI x.2.1), .int (nI x.2.2.1), .int (nI x.2.2.2.1), .int (nI x.2.2.2.2)])), (g0, aI cs 21 (tx_nf (va_up ld d t)))] := hD
  refine lv_aload_n hx hb dX5_leftWith_10 rfl (lv_at hl 0 rfl) ?_
  refine va_get (D := D) (ci := 5) (v := .ref g) (C := RX5) (T := TX5) (N := 10) hx hb hts in_X5 hown hK (hR hS) 0 rfl rfl 4 (by decide) hf_33 (fun _ h9 => h9) rfl dX5_leftWith_11 ?_
  refine lv_aload_n hx hb dX5_leftWith_14 rfl (lv_at hl 0 rfl) ?_
  refine va_get (D := D) (ci := 5) (v := .ref h) (C := RX5) (T := TX5) (N := 10) hx hb hts in_X5 hown hK (hR hS) 0 rfl rfl 0 (by decide) hf_10 (fun _ h9 => h9) rfl dX5_leftWith_15 ?_
  refine cV_v (As := [.ref h]) (rest := []) (cr := [(h, .inr (4, [.ref k0, .ref k1, .ref k2, .ref k3, .ref k4, .ref k5, .int (nI n), .int (nI dy), .int (nI ch), .int (nI lw)])), (k0, aI cs 4 (tx_nf kd)), (k1, aI cs 4 (tx_nf wo)), (k2, aI cs 4 (tx_nf ha)), (k3, aI cs 4 (tx_nf we)), (g0, aI cs 21 (tx_nf (va_up ld d t)))]) (cw1 := [(g, .inr (1, [.ref g0, .int (nI dy), .int (iI er), .int (nI cg), .int (nI x.1), .int (nI x.2.1), .int (nI x.2.2.1), .int (nI x.2.2.2.1), .int (nI x.2.2.2.2)]))]) ⟨hx, hb, hml, hown, hts⟩ (c_X1_tally l D cs _ g g0 dy er cg x (va_up ld d t) h k0 k1 k2 k3 k4 k5 n dy ch lw kd wo ha we (by first | assumption | omega) (by first | assumption | omega) (fun e => by by_cases q : e = d; (rw [q, va_up_self]; exact ht); (rw [va_up_ne _ _ q]; exact hld e)) hd1 (by omega)) (cwV 1 hts gX5_leftWith_X1_tally rfl rfl rfl (by decide +kernel) ⟨Nat.le_of_ble_eq_true rfl, Nat.le_of_ble_eq_true rfl⟩) hK hP hD hS hA (((hR hS).app hP).sub [1, 2, 3, 4, 5, 8, 7] rfl) (dt_of hN [1, 2, 3, 4, 5, 8, 7] (by decide) rfl) [0] rfl 6 rfl rfl rfl hl.1 rfl (Nat.le_of_ble_eq_true rfl) dX5_leftWith_18 ⟨Nat.le_of_ble_eq_true rfl, Nat.le_of_ble_eq_true rfl⟩ (fun _ => rfl) (fun _ => rfl) (fun u9 H locs hw_1 hP hD hS => ?_)
  have hP : va_P D vwCl [(g, .inr (1, [.ref g0, .int (nI dy), .int (iI (tx_earn n kd wo ha we (va_up ld d t) dy ch)), .int (nI (tx_cg (va_up ld d t) (dy - 1))), .int (nI ((tx_T n kd (va_up ld d t) dy).1)), .int (nI ((tx_T n kd (va_up ld d t) dy).2.1)), .int (nI ((tx_T n kd (va_up ld d t) dy).2.2.1)), .int (nI ((tx_T n kd (va_up ld d t) dy).2.2.2.1)), .int (nI ((tx_T n kd (va_up ld d t) dy).2.2.2.2))])), (g0, aI cs 21 (tx_nf (va_up ld d t)))] H := hP
  have hD : va_D A [(g, .inr (1, [.ref g0, .int (nI dy), .int (iI (tx_earn n kd wo ha we (va_up ld d t) dy ch)), .int (nI (tx_cg (va_up ld d t) (dy - 1))), .int (nI ((tx_T n kd (va_up ld d t) dy).1)), .int (nI ((tx_T n kd (va_up ld d t) dy).2.1)), .int (nI ((tx_T n kd (va_up ld d t) dy).2.2.1)), .int (nI ((tx_T n kd (va_up ld d t) dy).2.2.2.1)), .int (nI ((tx_T n kd (va_up ld d t) dy).2.2.2.2))])), (g0, aI cs 21 (tx_nf (va_up ld d t)))] := hD
  refine lv_aload_n hx hb dX5_leftWith_21 rfl (lv_at hl 0 rfl) ?_
  refine va_get (D := D) (ci := 5) (v := .ref g) (C := RX5) (T := TX5) (N := 10) hx hb hts in_X5 hown hK (hR hS) 0 rfl rfl 4 (by decide) hf_33 (fun _ h9 => h9) rfl dX5_leftWith_22 ?_
  refine va_get (D := D) (ci := 1) (v := .ref g0) (C := RX1) (T := TX1) (N := 9) hx hb hts in_X1 hown hK hP 0 rfl rfl 0 (by decide) hf_245 (fun _ h9 => h9) rfl dX5_leftWith_25 ?_
  refine lv_iload_n hx hb dX5_leftWith_28 rfl (lv_at hl 1 rfl) ?_
  refine lv_aload_n hx hb dX5_leftWith_29 rfl (lv_at hl 0 rfl) ?_
  refine va_get (D := D) (ci := 5) (v := .ref h) (C := RX5) (T := TX5) (N := 10) hx hb hts in_X5 hown hK (hR hS) 0 rfl rfl 0 (by decide) hf_10 (fun _ h9 => h9) rfl dX5_leftWith_30 ?_
  refine va_get (D := D) (ci := 4) (v := .ref k4) (C := RX4) (T := TX4) (N := 10) hx hb hts in_X4 hown hK (hR hS) 1 rfl rfl 4 (by decide) hf_100 (fun _ h9 => h9) rfl dX5_leftWith_33 ?_
  refine lv_iload_n hx hb dX5_leftWith_36 rfl (lv_at hl 1 rfl) ?_
  refine ia_n (f := tx_nf td) hx hb hK (hR hS) 6 0 rfl rfl (j := d) rfl (by omega) (by decide) dX5_leftWith_37 ?_
  refine tp_i (y := nI (td d)) rfl ?_
  refine is_n (f := tx_nf (va_up ld d t)) hx hb hK hP hD hS 1 0 rfl rfl (j := d) rfl (by omega) (by decide) dX5_leftWith_38 (fun H locs hP hD hS => ?_)
  rw [show upd (tx_nf (va_up ld d t)) d (nI (td d)) = tx_nf (va_up (va_up ld d t) d (td d)) from nf_up _ _ _] at hP hD
  have hP : va_P D vwCl [(g, .inr (1, [.ref g0, .int (nI dy), .int (iI (tx_earn n kd wo ha we (va_up ld d t) dy ch)), .int (nI (tx_cg (va_up ld d t) (dy - 1))), .int (nI ((tx_T n kd (va_up ld d t) dy).1)), .int (nI ((tx_T n kd (va_up ld d t) dy).2.1)), .int (nI ((tx_T n kd (va_up ld d t) dy).2.2.1)), .int (nI ((tx_T n kd (va_up ld d t) dy).2.2.2.1)), .int (nI ((tx_T n kd (va_up ld d t) dy).2.2.2.2))])), (g0, aI cs 21 (tx_nf (va_up (va_up ld d t) d (td d))))] H := hP
  have hD : va_D A [(g, .inr (1, [.ref g0, .int (nI dy), .int (iI (tx_earn n kd wo ha we (va_up ld d t) dy ch)), .int (nI (tx_cg (va_up ld d t) (dy - 1))), .int (nI ((tx_T n kd (va_up ld d t) dy).1)), .int (nI ((tx_T n kd (va_up ld d t) dy).2.1)), .int (nI ((tx_T n kd (va_up ld d t) dy).2.2.1)), .int (nI ((tx_T n kd (va_up ld d t) dy).2.2.2.1)), .int (nI ((tx_T n kd (va_up ld d t) dy).2.2.2.2))])), (g0, aI cs 21 (tx_nf (va_up (va_up ld d t) d (td d))))] := hD
  have e9 : (tx_nf (va_up (va_up ld d t) d (td d)) : Nat → _) = tx_nf ld := by congr 1; funext e; by_cases q : e = d; (rw [q, va_up_self, hld9 d hd]); (rw [va_up_ne _ _ q, va_up_ne _ _ q])
  rw [e9] at hP hD
  refine lv_aload_n hx hb dX5_leftWith_39 rfl (lv_at hl 0 rfl) ?_
  refine va_get (D := D) (ci := 5) (v := .ref g) (C := RX5) (T := TX5) (N := 10) hx hb hts in_X5 hown hK (hR hS) 0 rfl rfl 4 (by decide) hf_33 (fun _ h9 => h9) rfl dX5_leftWith_40 ?_
  refine lv_aload_n hx hb dX5_leftWith_43 rfl (lv_at hl 0 rfl) ?_
  refine va_get (D := D) (ci := 5) (v := .ref h) (C := RX5) (T := TX5) (N := 10) hx hb hts in_X5 hown hK (hR hS) 0 rfl rfl 0 (by decide) hf_10 (fun _ h9 => h9) rfl dX5_leftWith_44 ?_
  refine va_get (D := D) (ci := 4) (v := .int (nI lw)) (C := RX4) (T := TX4) (N := 10) hx hb hts in_X4 hown hK (hR hS) 1 rfl rfl 9 (by decide) hf_120 (fun _ h9 => h9) rfl dX5_leftWith_47 ?_
  refine cV_i (As := [.int (nI lw)]) (rest := []) (cr := [(g, .inr (1, [.ref g0, .int (nI dy), .int (iI (tx_earn n kd wo ha we (va_up ld d t) dy ch)), .int (nI (tx_cg (va_up ld d t) (dy - 1))), .int (nI ((tx_T n kd (va_up ld d t) dy).1)), .int (nI ((tx_T n kd (va_up ld d t) dy).2.1)), .int (nI ((tx_T n kd (va_up ld d t) dy).2.2.1)), .int (nI ((tx_T n kd (va_up ld d t) dy).2.2.2.1)), .int (nI ((tx_T n kd (va_up ld d t) dy).2.2.2.2))]))]) (cw1 := []) ⟨hx, hb, hml, hown, hts⟩ (c_X1_leftBy l D cs _ g g0 dy (tx_earn n kd wo ha we (va_up ld d t) dy ch) (tx_cg (va_up ld d t) (dy - 1)) (tx_T n kd (va_up ld d t) dy) lw (by first | assumption | omega)) (cwV 1 hts gX5_leftWith_X1_leftBy rfl rfl rfl (by decide +kernel) ⟨Nat.le_of_ble_eq_true rfl, Nat.le_of_ble_eq_true rfl⟩) hK hP hD hS hA (((hR hS).app hP).sub [7] rfl) (dt_of hN [7] (by decide) rfl) [] rfl 0 rfl rfl rfl hl.1 rfl (Nat.le_of_ble_eq_true rfl) dX5_leftWith_50 ⟨Nat.le_of_ble_eq_true rfl, Nat.le_of_ble_eq_true rfl⟩ (fun _ => rfl) (fun _ => rfl) (fun r_2 u9 H locs hw_3 hP hD hS => ?_)
  have hP : va_P D vwCl [(g, .inr (1, [.ref g0, .int (nI dy), .int (iI (tx_earn n kd wo ha we (va_up ld d t) dy ch)), .int (nI (tx_cg (va_up ld d t) (dy - 1))), .int (nI ((tx_T n kd (va_up ld d t) dy).1)), .int (nI ((tx_T n kd (va_up ld d t) dy).2.1)), .int (nI ((tx_T n kd (va_up ld d t) dy).2.2.1)), .int (nI ((tx_T n kd (va_up ld d t) dy).2.2.2.1)), .int (nI ((tx_T n kd (va_up ld d t) dy).2.2.2.2))])), (g0, aI cs 21 (tx_nf ld))] H := hP
  have hD : va_D A [(g, .inr (1, [.ref g0, .int (nI dy), .int (iI (tx_earn n kd wo ha we (va_up ld d t) dy ch)), .int (nI (tx_cg (va_up ld d t) (dy - 1))), .int (nI ((tx_T n kd (va_up ld d t) dy).1)), .int (nI ((tx_T n kd (va_up ld d t) dy).2.1)), .int (nI ((tx_T n kd (va_up ld d t) dy).2.2.1)), .int (nI ((tx_T n kd (va_up ld d t) dy).2.2.2.1)), .int (nI ((tx_T n kd (va_up ld d t) dy).2.2.2.2))])), (g0, aI cs 21 (tx_nf ld))] := hD
  subst r_2
  exact rt_i hx hb hr hlocks (dy, tx_earn n kd wo ha we (va_up ld d t) dy ch, tx_cg (va_up ld d t) (dy - 1), tx_T n kd (va_up ld d t) dy, ld) (⟨by unfold tx_left; rw [tx_earn_cg (g := va_up td d t) hd1 (fun e he => by by_cases q : e = d; (rw [q, va_up_self, va_up_self]); (rw [va_up_ne _ _ q, va_up_ne _ _ q]; exact hld9 e (by omega))), tx_T_cg (g := va_up td d t) hd1 (fun e he => by by_cases q : e = d; (rw [q, va_up_self, va_up_self]); (rw [va_up_ne _ _ q, va_up_ne _ _ q]; exact hld9 e (by omega))), tx_cg_cg (g := va_up td d t) (dy - 1) (fun e he => by by_cases q : e = d; (rw [q, va_up_self, va_up_self]); (rw [va_up_ne _ _ q, va_up_ne _ _ q]; exact hld9 e (by omega)))], rfl, rfl⟩) hP hD hS dX5_leftWith_53
