set_option maxHeartbeats 4000000 in
set_option maxRecDepth 100000 in
theorem c_X6_within (l : Launch) (D : va_G) (cs : Nat → ClassId) (sz : Nat) (v : Int32) (lo : Int32) (hi : Int32)  : mI (S := Unit) l yX6_within wsX6_within ({ frames := 0, cells := 0, slots := 0, locals := 0 } : Room) D (tyc cs) sz [.int v, .int lo, .int hi] [] [] (fun (r : Int32) (u : Unit) => r = bI (decide (lo ≤ v) && decide (v ≤ hi))) (fun _ => []) 0 0 := by
  unfold mI
  refine Met.ofW (cc := cX6_within) (maxL := 3) (ret := (some .boolean)) (by decide) rfl ?_
  intro p e s m args below meth c s₁ B hml hv
  obtain ⟨rfl, hsz, hP, hK, hD0⟩ := hv
  have hx := B.exec
  have hb := B.bytes
  have hr := B.returns
  have hts := atoms_spec (ws := wsX6_within) B.pre
  have hown : s.vm.findClass RX6 = some m.cls := findClass_of_methodNamed B.named
  have hlocks := B.notSynchronized
  subst hsz
  have hR := @en_R _ _ _ [] [] _ hP hD0
  have hN := adN_of hD0
  have hD := en_D (wr := []) (ww := []) (sz := s.heap.size) hD0
  have hP := en_P (wr := []) (ww := []) hP
  generalize hAe : va_A [] s.heap.size = A at hD hR ⊢
  have hA : ∀ q : Nat, s.heap.size ≤ q → A q := fun q h => by rw [← hAe]; exact Or.inr h
  have hS : va_S A s.heap s.heap [] := va_S.rf
  have hN : adN [] := hN
  have hl := lv_entry ([.int v, .int lo, .int hi]) (n := 3) (Nat.le_of_ble_eq_true rfl)
  rw [lg_entry_eq]
  generalize (lg_sl ([.int v, .int lo, .int hi]) ++ List.replicate (3 - (lg_sl ([.int v, .int lo, .int hi])).length) Slot.unset).toArray = ls at hl ⊢
  have hl : lv_has ls 3 [(0, .int v), (1, .int lo), (2, .int hi)] := hl
  refine lv_iload_n hx hb dX6_within_0 rfl (lv_at hl 0 rfl) ?_
  refine lv_iload_n hx hb dX6_within_1 rfl (lv_at hl 1 rfl) ?_
  refine lv_icmp_lt (tgt := 14) hx hb dX6_within_2 (by decide) (fun c2 => ?_) (fun c2 => ?_)
  · refine lv_iconst (v := 0) hx hb dX6_within_14 (by decide) ?_
    exact rt_z hx hb hr rfl hlocks () (by rw [tx_and_f1 (Int32.not_le.mpr c2)]; rfl) hP hD hS dX6_within_15
  · refine lv_iload_n hx hb dX6_within_5 rfl (lv_at hl 0 rfl) ?_
    refine lv_iload_n hx hb dX6_within_6 rfl (lv_at hl 2 rfl) ?_
    refine lv_icmp_gt (tgt := 14) hx hb dX6_within_7 (by decide) (fun c7 => ?_) (fun c7 => ?_)
    · refine lv_iconst (v := 0) hx hb dX6_within_14 (by decide) ?_
      exact rt_z hx hb hr rfl hlocks () (by rw [tx_and_f2 (Int32.not_le.mpr c7)]; rfl) hP hD hS dX6_within_15
    · refine lv_iconst (v := 1) hx hb dX6_within_10 (by decide) ?_
      refine lv_goto (tgt := 15) hx hb dX6_within_11 (by decide) ?_
      exact rt_z hx hb hr rfl hlocks () (by rw [tx_and_t (Int32.not_lt.mp c2) (Int32.not_lt.mp c7)]; rfl) hP hD hS dX6_within_15
set_option maxHeartbeats 4000000 in
set_option maxRecDepth 100000 in
theorem c_X6_isThing (l : Launch) (D : va_G) (cs : Nat → ClassId) (sz : Nat) (o : Nat) (o1 : Nat) (o2 : Nat) (o3 : Nat) (o4 : Nat) (o5 : Nat) (o6 : Nat) (o7 : Nat) (o8 : Nat) (o9 : Nat) (o10 : Nat) (o11 : Nat) (o12 : Nat) (o13 : Nat) (o14 : Nat) (o15 : Nat) (n : Nat) (dy : Nat) (ch : Nat) (lw : Nat) (tz : Nat) (at9 : Nat) (va9 : Nat) (ss : Nat) (im : Bool) (t : Int32) (hn : n ≤ 4) : mI (S := Unit) l yX6_isThing wsX6_isThing ({ frames := 1, cells := 0, slots := 0, locals := 22 } : Room) D (tyc cs) sz [.ref o, .int t] [(o, .inr (6, [.int (nI n), .ref o1, .ref o2, .ref o3, .ref o4, .int (nI dy), .ref o5, .ref o6, .int (nI ch), .int (nI lw), .int (nI tz), .ref o7, .int (nI at9), .int (nI va9), .int (nI ss), .ref o8, .ref o9, .int (bI im), .ref o10, .ref o11, .ref o12, .ref o13, .ref o14, .ref o15]))] [] (fun (r : Int32) (u : Unit) => r = bI (tx_has n t)) (fun _ => []) 0 0 := by
  unfold mI
  refine Met.ofW (cc := cX6_isThing) (maxL := 2) (ret := (some .boolean)) (by decide) rfl ?_
  intro p e s m args below meth c s₁ B hml hv
  obtain ⟨rfl, hsz, hP, hK, hD0⟩ := hv
  have hx := B.exec
  have hb := B.bytes
  have hr := B.returns
  have hts := atoms_spec (ws := wsX6_isThing) B.pre
  have hown : s.vm.findClass RX6 = some m.cls := findClass_of_methodNamed B.named
  have hlocks := B.notSynchronized
  subst hsz
  have hR := @en_R _ _ _ [(o, .inr (6, [.int (nI n), .ref o1, .ref o2, .ref o3, .ref o4, .int (nI dy), .ref o5, .ref o6, .int (nI ch), .int (nI lw), .int (nI tz), .ref o7, .int (nI at9), .int (nI va9), .int (nI ss), .ref o8, .ref o9, .int (bI im), .ref o10, .ref o11, .ref o12, .ref o13, .ref o14, .ref o15]))] [] _ hP hD0
  have hN := adN_of hD0
  have hD := en_D (wr := [(o, .inr (6, [.int (nI n), .ref o1, .ref o2, .ref o3, .ref o4, .int (nI dy), .ref o5, .ref o6, .int (nI ch), .int (nI lw), .int (nI tz), .ref o7, .int (nI at9), .int (nI va9), .int (nI ss), .ref o8, .ref o9, .int (bI im), .ref o10, .ref o11, .ref o12, .ref o13, .ref o14, .ref o15]))]) (ww := []) (sz := s.heap.size) hD0
  have hP := en_P (wr := [(o, .inr (6, [.int (nI n), .ref o1, .ref o2, .ref o3, .ref o4, .int (nI dy), .ref o5, .ref o6, .int (nI ch), .int (nI lw), .int (nI tz), .ref o7, .int (nI at9), .int (nI va9), .int (nI ss), .ref o8, .ref o9, .int (bI im), .ref o10, .ref o11, .ref o12, .ref o13, .ref o14, .ref o15]))]) (ww := []) hP
  generalize hAe : va_A [] s.heap.size = A at hD hR ⊢
  have hA : ∀ q : Nat, s.heap.size ≤ q → A q := fun q h => by rw [← hAe]; exact Or.inr h
  have hS : va_S A s.heap s.heap [] := va_S.rf
  have hN : adN [o] := hN
  have hf_71 := hts (.fieldLink RX6 71 "TaxedByLongestModel" "things" "I") (by decide +kernel)
  have in_X6 : ∀ w ∈ wsX60, w ∈ wsX6_isThing := by decide +kernel
  have hl := lv_entry ([.ref o, .int t]) (n := 2) (Nat.le_of_ble_eq_true rfl)
  rw [lg_entry_eq]
  generalize (lg_sl ([.ref o, .int t]) ++ List.replicate (2 - (lg_sl ([.ref o, .int t])).length) Slot.unset).toArray = ls at hl ⊢
  have hl : lv_has ls 2 [(0, .ref o), (1, .int t)] := hl
  refine lv_iload_n hx hb dX6_isThing_0 rfl (lv_at hl 1 rfl) ?_
  refine lv_iconst (v := 0) hx hb dX6_isThing_1 (by decide) ?_
  refine lv_aload_n hx hb dX6_isThing_2 rfl (lv_at hl 0 rfl) ?_
  refine va_get (D := D) (ci := 6) (v := .int (nI n)) (C := RX6) (T := TX6) (N := 24) hx hb hts in_X6 hown hK (hR hS) 0 rfl rfl 0 (by decide) hf_71 (fun _ h9 => h9) rfl dX6_isThing_3 ?_
  refine lv_iconst (v := 1) hx hb dX6_isThing_6 (by decide) ?_
  refine lv_isub hx hb dX6_isThing_7 ?_
  refine tp_i (sub_iI (a := (n : Int)) (b := 1) (nI_iI _) (by decide)) ?_
  refine cS_i (As := [.int t, .int 0, .int (iI ((n : Int) - 1))]) (rest := []) (cr := []) (cw1 := []) ⟨hx, hb, hml, hown, hts⟩ (c_X6_within l D cs _ t 0 (iI ((n : Int) - 1)) ) (va_cwS 3 hts gX6_isThing_X6_within rfl rfl rfl (by decide +kernel) ⟨Nat.le_of_ble_eq_true rfl, Nat.le_of_ble_eq_true rfl⟩) hK hP hD hS hA (((hR hS).app hP).sub [] rfl) (dt_of hN [] (by decide) rfl) [] rfl rfl hl.1 rfl (Nat.le_of_ble_eq_true rfl) dX6_isThing_8 ⟨Nat.le_of_ble_eq_true rfl, Nat.le_of_ble_eq_true rfl⟩ (fun _ => rfl) (fun _ => rfl) (fun r_1 u9 H locs hw_2 hP hD hS => ?_)
  have hP : va_P D vwCl [] H := hP
  have hD : va_D A [] := hD
  subst r_1
  exact rt_z hx hb hr (bI_nar _) hlocks () (by rw [tx_within (by omega)]) hP hD hS dX6_isThing_11
set_option maxHeartbeats 4000000 in
set_option maxRecDepth 100000 in
theorem c_X6_isDay (l : Launch) (D : va_G) (cs : Nat → ClassId) (sz : Nat) (o : Nat) (o1 : Nat) (o2 : Nat) (o3 : Nat) (o4 : Nat) (o5 : Nat) (o6 : Nat) (o7 : Nat) (o8 : Nat) (o9 : Nat) (o10 : Nat) (o11 : Nat) (o12 : Nat) (o13 : Nat) (o14 : Nat) (o15 : Nat) (n : Nat) (dy : Nat) (ch : Nat) (lw : Nat) (tz : Nat) (at9 : Nat) (va9 : Nat) (ss : Nat) (im : Bool) (t : Int32) (hdy : dy ≤ 20) : mI (S := Unit) l yX6_isDay wsX6_isDay ({ frames := 1, cells := 0, slots := 0, locals := 22 } : Room) D (tyc cs) sz [.ref o, .int t] [(o, .inr (6, [.int (nI n), .ref o1, .ref o2, .ref o3, .ref o4, .int (nI dy), .ref o5, .ref o6, .int (nI ch), .int (nI lw), .int (nI tz), .ref o7, .int (nI at9), .int (nI va9), .int (nI ss), .ref o8, .ref o9, .int (bI im), .ref o10, .ref o11, .ref o12, .ref o13, .ref o14, .ref o15]))] [] (fun (r : Int32) (u : Unit) => r = bI (tx_has dy t)) (fun _ => []) 0 0 := by
  unfold mI
  refine Met.ofW (cc := cX6_isDay) (maxL := 2) (ret := (some .boolean)) (by decide) rfl ?_
  intro p e s m args below meth c s₁ B hml hv
  obtain ⟨rfl, hsz, hP, hK, hD0⟩ := hv
  have hx := B.exec
  have hb := B.bytes
  have hr := B.returns
  have hts := atoms_spec (ws := wsX6_isDay) B.pre
  have hown : s.vm.findClass RX6 = some m.cls := findClass_of_methodNamed B.named
  have hlocks := B.notSynchronized
  subst hsz
  have hR := @en_R _ _ _ [(o, .inr (6, [.int (nI n), .ref o1, .ref o2, .ref o3, .ref o4, .int (nI dy), .ref o5, .ref o6, .int (nI ch), .int (nI lw), .int (nI tz), .ref o7, .int (nI at9), .int (nI va9), .int (nI ss), .ref o8, .ref o9, .int (bI im), .ref o10, .ref o11, .ref o12, .ref o13, .ref o14, .ref o15]))] [] _ hP hD0
  have hN := adN_of hD0
  have hD := en_D (wr := [(o, .inr (6, [.int (nI n), .ref o1, .ref o2, .ref o3, .ref o4, .int (nI dy), .ref o5, .ref o6, .int (nI ch), .int (nI lw), .int (nI tz), .ref o7, .int (nI at9), .int (nI va9), .int (nI ss), .ref o8, .ref o9, .int (bI im), .ref o10, .ref o11, .ref o12, .ref o13, .ref o14, .ref o15]))]) (ww := []) (sz := s.heap.size) hD0
  have hP := en_P (wr := [(o, .inr (6, [.int (nI n), .ref o1, .ref o2, .ref o3, .ref o4, .int (nI dy), .ref o5, .ref o6, .int (nI ch), .int (nI lw), .int (nI tz), .ref o7, .int (nI at9), .int (nI va9), .int (nI ss), .ref o8, .ref o9, .int (bI im), .ref o10, .ref o11, .ref o12, .ref o13, .ref o14, .ref o15]))]) (ww := []) hP
  generalize hAe : va_A [] s.heap.size = A at hD hR ⊢
  have hA : ∀ q : Nat, s.heap.size ≤ q → A q := fun q h => by rw [← hAe]; exact Or.inr h
  have hS : va_S A s.heap s.heap [] := va_S.rf
  have hN : adN [o] := hN
  have hf_78 := hts (.fieldLink RX6 78 "TaxedByLongestModel" "days" "I") (by decide +kernel)
  have in_X6 : ∀ w ∈ wsX60, w ∈ wsX6_isDay := by decide +kernel
  have hl := lv_entry ([.ref o, .int t]) (n := 2) (Nat.le_of_ble_eq_true rfl)
  rw [lg_entry_eq]
  generalize (lg_sl ([.ref o, .int t]) ++ List.replicate (2 - (lg_sl ([.ref o, .int t])).length) Slot.unset).toArray = ls at hl ⊢
  have hl : lv_has ls 2 [(0, .ref o), (1, .int t)] := hl
  refine lv_iload_n hx hb dX6_isDay_0 rfl (lv_at hl 1 rfl) ?_
  refine lv_iconst (v := 0) hx hb dX6_isDay_1 (by decide) ?_
  refine lv_aload_n hx hb dX6_isDay_2 rfl (lv_at hl 0 rfl) ?_
  refine va_get (D := D) (ci := 6) (v := .int (nI dy)) (C := RX6) (T := TX6) (N := 24) hx hb hts in_X6 hown hK (hR hS) 0 rfl rfl 5 (by decide) hf_78 (fun _ h9 => h9) rfl dX6_isDay_3 ?_
  refine lv_iconst (v := 1) hx hb dX6_isDay_6 (by decide) ?_
  refine lv_isub hx hb dX6_isDay_7 ?_
  refine tp_i (sub_iI (a := (dy : Int)) (b := 1) (nI_iI _) (by decide)) ?_
  refine cS_i (As := [.int t, .int 0, .int (iI ((dy : Int) - 1))]) (rest := []) (cr := []) (cw1 := []) ⟨hx, hb, hml, hown, hts⟩ (c_X6_within l D cs _ t 0 (iI ((dy : Int) - 1)) ) (va_cwS 3 hts gX6_isDay_X6_within rfl rfl rfl (by decide +kernel) ⟨Nat.le_of_ble_eq_true rfl, Nat.le_of_ble_eq_true rfl⟩) hK hP hD hS hA (((hR hS).app hP).sub [] rfl) (dt_of hN [] (by decide) rfl) [] rfl rfl hl.1 rfl (Nat.le_of_ble_eq_true rfl) dX6_isDay_8 ⟨Nat.le_of_ble_eq_true rfl, Nat.le_of_ble_eq_true rfl⟩ (fun _ => rfl) (fun _ => rfl) (fun r_1 u9 H locs hw_2 hP hD hS => ?_)
  have hP : va_P D vwCl [] H := hP
  have hD : va_D A [] := hD
  subst r_1
  exact rt_z hx hb hr (bI_nar _) hlocks () (by rw [tx_within (by omega)]) hP hD hS dX6_isDay_11
set_option maxHeartbeats 4000000 in
set_option maxRecDepth 100000 in
theorem c_X6_no (l : Launch) (D : va_G) (cs : Nat → ClassId) (sz : Nat) (o : Nat) (o1 : Nat) (o2 : Nat) (o3 : Nat) (o4 : Nat) (o5 : Nat) (o6 : Nat) (o7 : Nat) (o8 : Nat) (o9 : Nat) (o10 : Nat) (o11 : Nat) (o12 : Nat) (o13 : Nat) (o14 : Nat) (o15 : Nat) (n : Nat) (dy : Nat) (ch : Nat) (lw : Nat) (tz : Nat) (at9 : Nat) (va9 : Nat) (ss : Nat) (im : Bool) (rf : Nat → Nat) (cd : Int32) (q : Nat) (hcd : cd = -nI q) (hq : q < 7) (hrf : 0 < q) : mI (S := Unit) l yX6_no wsX6_no ({ frames := 0, cells := 0, slots := 0, locals := 0 } : Room) D (tyc cs) sz [.ref o, .int cd] [(o, .inr (6, [.int (nI n), .ref o1, .ref o2, .ref o3, .ref o4, .int (nI dy), .ref o5, .ref o6, .int (nI ch), .int (nI lw), .int (nI tz), .ref o7, .int (nI at9), .int (nI va9), .int (nI ss), .ref o8, .ref o9, .int (bI im), .ref o10, .ref o11, .ref o12, .ref o13, .ref o14, .ref o15]))] [(o9, aI cs 7 (tx_nf rf))] (fun (r : Int32) (u : Unit) => r = cd) (fun _ => [(o9, aI cs 7 (tx_nf (tx_rf rf q)))]) 0 0 := by
  unfold mI
  refine Met.ofW (cc := cX6_no) (maxL := 2) (ret := (some .int)) (by decide) rfl ?_
  intro p e s m args below meth c s₁ B hml hv
  obtain ⟨rfl, hsz, hP, hK, hD0⟩ := hv
  have hx := B.exec
  have hb := B.bytes
  have hr := B.returns
  have hts := atoms_spec (ws := wsX6_no) B.pre
  have hown : s.vm.findClass RX6 = some m.cls := findClass_of_methodNamed B.named
  have hlocks := B.notSynchronized
  subst hsz
  have hR := @en_R _ _ _ [(o, .inr (6, [.int (nI n), .ref o1, .ref o2, .ref o3, .ref o4, .int (nI dy), .ref o5, .ref o6, .int (nI ch), .int (nI lw), .int (nI tz), .ref o7, .int (nI at9), .int (nI va9), .int (nI ss), .ref o8, .ref o9, .int (bI im), .ref o10, .ref o11, .ref o12, .ref o13, .ref o14, .ref o15]))] [(o9, aI cs 7 (tx_nf rf))] _ hP hD0
  have hN := adN_of hD0
  have hD := en_D (wr := [(o, .inr (6, [.int (nI n), .ref o1, .ref o2, .ref o3, .ref o4, .int (nI dy), .ref o5, .ref o6, .int (nI ch), .int (nI lw), .int (nI tz), .ref o7, .int (nI at9), .int (nI va9), .int (nI ss), .ref o8, .ref o9, .int (bI im), .ref o10, .ref o11, .ref o12, .ref o13, .ref o14, .ref o15]))]) (ww := [(o9, aI cs 7 (tx_nf rf))]) (sz := s.heap.size) hD0
  have hP := en_P (wr := [(o, .inr (6, [.int (nI n), .ref o1, .ref o2, .ref o3, .ref o4, .int (nI dy), .ref o5, .ref o6, .int (nI ch), .int (nI lw), .int (nI tz), .ref o7, .int (nI at9), .int (nI va9), .int (nI ss), .ref o8, .ref o9, .int (bI im), .ref o10, .ref o11, .ref o12, .ref o13, .ref o14, .ref o15]))]) (ww := [(o9, aI cs 7 (tx_nf rf))]) hP
  generalize hAe : va_A [(o9, aI cs 7 (tx_nf rf))] s.heap.size = A at hD hR ⊢
  have hA : ∀ q : Nat, s.heap.size ≤ q → A q := fun q h => by rw [← hAe]; exact Or.inr h
  have hS : va_S A s.heap s.heap [] := va_S.rf
  have hN : adN [o, o9] := hN
  have hf_34 := hts (.fieldLink RX6 34 "TaxedByLongestModel" "refusals" "[I") (by decide +kernel)
  have in_X6 : ∀ w ∈ wsX60, w ∈ wsX6_no := by decide +kernel
  have hl := lv_entry ([.ref o, .int cd]) (n := 2) (Nat.le_of_ble_eq_true rfl)
  rw [lg_entry_eq]
  generalize (lg_sl ([.ref o, .int cd]) ++ List.replicate (2 - (lg_sl ([.ref o, .int cd])).length) Slot.unset).toArray = ls at hl ⊢
  have hl : lv_has ls 2 [(0, .ref o), (1, .int cd)] := hl
  refine lv_aload_n hx hb dX6_no_0 rfl (lv_at hl 0 rfl) ?_
  refine va_get (D := D) (ci := 6) (v := .ref o9) (C := RX6) (T := TX6) (N := 24) hx hb hts in_X6 hown hK (hR hS) 0 rfl rfl 16 (by decide) hf_34 (fun _ h9 => h9) rfl dX6_no_1 ?_
  refine lv_iload_n hx hb dX6_no_4 rfl (lv_at hl 1 rfl) ?_
  refine lv_ineg hx hb dX6_no_5 ?_
  refine tp_i (show -cd = nI q from by rw [hcd, Int32.neg_neg]) ?_
  refine lv_dup2_11 hx hb dX6_no_6 rfl rfl ?_
  refine ia_n (f := tx_nf rf) hx hb hK hP 0 0 rfl rfl (j := q) rfl (by omega) (by decide) dX6_no_7 ?_
  refine tp_i (y := nI (rf q)) rfl ?_
  refine lv_iconst (v := 1) hx hb dX6_no_8 (by decide) ?_
  refine lv_iadd hx hb dX6_no_9 ?_
  refine tp_i (nI_add (rf q) 1) ?_
  refine is_n (f := tx_nf rf) hx hb hK hP hD hS 0 0 rfl rfl (j := q) rfl (by omega) (by decide) dX6_no_10 (fun H locs hP hD hS => ?_)
  rw [show upd (tx_nf rf) q (nI ((rf q) + 1)) = tx_nf (va_up rf q ((rf q) + 1)) from nf_up _ _ _] at hP hD
  have hP : va_P D vwCl [(o9, aI cs 7 (tx_nf (va_up rf q ((rf q) + 1))))] H := hP
  have hD : va_D A [(o9, aI cs 7 (tx_nf (va_up rf q ((rf q) + 1))))] := hD
  refine lv_iload_n hx hb dX6_no_11 rfl (lv_at hl 1 rfl) ?_
  have e9 : tx_rf rf q = va_up rf q (rf q + 1) := by rw [tx_rf, if_neg (by omega)]
  have hP : va_P D vwCl [(o9, aI cs 7 (tx_nf (tx_rf rf q)))] H := by rw [e9]; exact hP
  have hD : va_D A [(o9, aI cs 7 (tx_nf (tx_rf rf q)))] := by rw [e9]; exact hD
  exact rt_i hx hb hr hlocks () (rfl) hP hD hS dX6_no_12
set_option maxHeartbeats 4000000 in
set_option maxRecDepth 100000 in
theorem c_X6_noFar (l : Launch) (D : va_G) (cs : Nat → ClassId) (sz : Nat) (o : Nat) (o1 : Nat) (o2 : Nat) (o3 : Nat) (o4 : Nat) (o5 : Nat) (o6 : Nat) (o7 : Nat) (o8 : Nat) (o9 : Nat) (o10 : Nat) (o11 : Nat) (o12 : Nat) (o13 : Nat) (o14 : Nat) (o15 : Nat) (n : Nat) (dy : Nat) (ch : Nat) (lw : Nat) (tz : Nat) (at9 : Nat) (va9 : Nat) (ss : Nat) (im : Bool) (rf : Nat → Nat) (cd : Int32) (q : Nat) (hcd : cd = -nI q) (hq : q < 7) (hrf : 0 < q) : mI (S := Unit) l yX6_noFar wsX6_noFar ({ frames := 1, cells := 0, slots := 0, locals := 21 } : Room) D (tyc cs) sz [.ref o, .int cd] [(o, .inr (6, [.int (nI n), .ref o1, .ref o2, .ref o3, .ref o4, .int (nI dy), .ref o5, .ref o6, .int (nI ch), .int (nI lw), .int (nI tz), .ref o7, .int (nI at9), .int (nI va9), .int (nI ss), .ref o8, .ref o9, .int (bI im), .ref o10, .ref o11, .ref o12, .ref o13, .ref o14, .ref o15]))] [(o9, aI cs 7 (tx_nf rf))] (fun (r : Int32) (u : Unit) => r = 1000000000 - cd) (fun _ => [(o9, aI cs 7 (tx_nf (tx_rf rf q)))]) 0 0 := by
  unfold mI
  refine Met.ofW (cc := cX6_noFar) (maxL := 2) (ret := (some .int)) (by decide) rfl ?_
  intro p e s m args below meth c s₁ B hml hv
  obtain ⟨rfl, hsz, hP, hK, hD0⟩ := hv
  have hx := B.exec
  have hb := B.bytes
  have hr := B.returns
  have hts := atoms_spec (ws := wsX6_noFar) B.pre
  have hown : s.vm.findClass RX6 = some m.cls := findClass_of_methodNamed B.named
  have hlocks := B.notSynchronized
  subst hsz
  have hR := @en_R _ _ _ [(o, .inr (6, [.int (nI n), .ref o1, .ref o2, .ref o3, .ref o4, .int (nI dy), .ref o5, .ref o6, .int (nI ch), .int (nI lw), .int (nI tz), .ref o7, .int (nI at9), .int (nI va9), .int (nI ss), .ref o8, .ref o9, .int (bI im), .ref o10, .ref o11, .ref o12, .ref o13, .ref o14, .ref o15]))] [(o9, aI cs 7 (tx_nf rf))] _ hP hD0
  have hN := adN_of hD0
  have hD := en_D (wr := [(o, .inr (6, [.int (nI n), .ref o1, .ref o2, .ref o3, .ref o4, .int (nI dy), .ref o5, .ref o6, .int (nI ch), .int (nI lw), .int (nI tz), .ref o7, .int (nI at9), .int (nI va9), .int (nI ss), .ref o8, .ref o9, .int (bI im), .ref o10, .ref o11, .ref o12, .ref o13, .ref o14, .ref o15]))]) (ww := [(o9, aI cs 7 (tx_nf rf))]) (sz := s.heap.size) hD0
  have hP := en_P (wr := [(o, .inr (6, [.int (nI n), .ref o1, .ref o2, .ref o3, .ref o4, .int (nI dy), .ref o5, .ref o6, .int (nI ch), .int (nI lw), .int (nI tz), .ref o7, .int (nI at9), .int (nI va9), .int (nI ss), .ref o8, .ref o9, .int (bI im), .ref o10, .ref o11, .ref o12, .ref o13, .ref o14, .ref o15]))]) (ww := [(o9, aI cs 7 (tx_nf rf))]) hP
  generalize hAe : va_A [(o9, aI cs 7 (tx_nf rf))] s.heap.size = A at hD hR ⊢
  have hA : ∀ q : Nat, s.heap.size ≤ q → A q := fun q h => by rw [← hAe]; exact Or.inr h
  have hS : va_S A s.heap s.heap [] := va_S.rf
  have hN : adN [o, o9] := hN
  have hl := lv_entry ([.ref o, .int cd]) (n := 2) (Nat.le_of_ble_eq_true rfl)
  rw [lg_entry_eq]
  generalize (lg_sl ([.ref o, .int cd]) ++ List.replicate (2 - (lg_sl ([.ref o, .int cd])).length) Slot.unset).toArray = ls at hl ⊢
  have hl : lv_has ls 2 [(0, .ref o), (1, .int cd)] := hl
  refine lv_ldc (v := 1000000000) hx hb hown (hts (.constant RX6 64 1000000000) (by decide +kernel)) dX6_noFar_0 ?_
  refine lv_aload_n hx hb dX6_noFar_2 rfl (lv_at hl 0 rfl) ?_
  refine lv_iload_n hx hb dX6_noFar_3 rfl (lv_at hl 1 rfl) ?_
  refine cV_i (As := [.int cd]) (rest := [.int 1000000000]) (cr := [(o, .inr (6, [.int (nI n), .ref o1, .ref o2, .ref o3, .ref o4, .int (nI dy), .ref o5, .ref o6, .int (nI ch), .int (nI lw), .int (nI tz), .ref o7, .int (nI at9), .int (nI va9), .int (nI ss), .ref o8, .ref o9, .int (bI im), .ref o10, .ref o11, .ref o12, .ref o13, .ref o14, .ref o15]))]) (cw1 := [(o9, aI cs 7 (tx_nf rf))]) ⟨hx, hb, hml, hown, hts⟩ (c_X6_no l D cs _ o o1 o2 o3 o4 o5 o6 o7 o8 o9 o10 o11 o12 o13 o14 o15 n dy ch lw tz at9 va9 ss im rf cd q (by first | assumption | omega) (by first | assumption | omega) (by first | assumption | omega)) (cwV 1 hts gX6_noFar_X6_no rfl rfl rfl (by decide +kernel) ⟨Nat.le_of_ble_eq_true rfl, Nat.le_of_ble_eq_true rfl⟩) hK hP hD hS hA (((hR hS).app hP).sub [0, 1] rfl) (dt_of hN [0, 1] (by decide) rfl) [0] rfl 0 rfl rfl rfl hl.1 rfl (Nat.le_of_ble_eq_true rfl) dX6_noFar_4 ⟨Nat.le_of_ble_eq_true rfl, Nat.le_of_ble_eq_true rfl⟩ (fun _ => rfl) (fun _ => rfl) (fun r_1 u9 H locs hw_2 hP hD hS => ?_)
  have hP : va_P D vwCl [(o9, aI cs 7 (tx_nf (tx_rf rf q)))] H := hP
  have hD : va_D A [(o9, aI cs 7 (tx_nf (tx_rf rf q)))] := hD
  subst r_1
  refine lv_isub hx hb dX6_noFar_7 ?_
  exact rt_i hx hb hr hlocks () (rfl) hP hD hS dX6_noFar_8
set_option maxHeartbeats 4000000 in
set_option maxRecDepth 100000 in
theorem c_X6_noLong (l : Launch) (D : va_G) (cs : Nat → ClassId) (sz : Nat) (o : Nat) (o1 : Nat) (o2 : Nat) (o3 : Nat) (o4 : Nat) (o5 : Nat) (o6 : Nat) (o7 : Nat) (o8 : Nat) (o9 : Nat) (o10 : Nat) (o11 : Nat) (o12 : Nat) (o13 : Nat) (o14 : Nat) (o15 : Nat) (n : Nat) (dy : Nat) (ch : Nat) (lw : Nat) (tz : Nat) (at9 : Nat) (va9 : Nat) (ss : Nat) (im : Bool) (rf : Nat → Nat) (cd : Int32) (q : Nat) (hcd : cd = -nI q) (hq : q < 7) (hrf : 0 < q) : mL (S := Unit) l yX6_noLong wsX6_noLong ({ frames := 1, cells := 0, slots := 0, locals := 21 } : Room) D (tyc cs) sz [.ref o, .int cd] [(o, .inr (6, [.int (nI n), .ref o1, .ref o2, .ref o3, .ref o4, .int (nI dy), .ref o5, .ref o6, .int (nI ch), .int (nI lw), .int (nI tz), .ref o7, .int (nI at9), .int (nI va9), .int (nI ss), .ref o8, .ref o9, .int (bI im), .ref o10, .ref o11, .ref o12, .ref o13, .ref o14, .ref o15]))] [(o9, aI cs 7 (tx_nf rf))] (fun (r : Int64) (u : Unit) => r = 4000000000000000000 - cd.toInt64) (fun _ => [(o9, aI cs 7 (tx_nf (tx_rf rf q)))]) 0 0 := by
  unfold mL
  refine Met.ofW (cc := cX6_noLong) (maxL := 2) (ret := (some .long)) (by decide) rfl ?_
  intro p e s m args below meth c s₁ B hml hv
  obtain ⟨rfl, hsz, hP, hK, hD0⟩ := hv
  have hx := B.exec
  have hb := B.bytes
  have hr := B.returns
  have hts := atoms_spec (ws := wsX6_noLong) B.pre
  have hown : s.vm.findClass RX6 = some m.cls := findClass_of_methodNamed B.named
  have hlocks := B.notSynchronized
  subst hsz
  have hR := @en_R _ _ _ [(o, .inr (6, [.int (nI n), .ref o1, .ref o2, .ref o3, .ref o4, .int (nI dy), .ref o5, .ref o6, .int (nI ch), .int (nI lw), .int (nI tz), .ref o7, .int (nI at9), .int (nI va9), .int (nI ss), .ref o8, .ref o9, .int (bI im), .ref o10, .ref o11, .ref o12, .ref o13, .ref o14, .ref o15]))] [(o9, aI cs 7 (tx_nf rf))] _ hP hD0
  have hN := adN_of hD0
  have hD := en_D (wr := [(o, .inr (6, [.int (nI n), .ref o1, .ref o2, .ref o3, .ref o4, .int (nI dy), .ref o5, .ref o6, .int (nI ch), .int (nI lw), .int (nI tz), .ref o7, .int (nI at9), .int (nI va9), .int (nI ss), .ref o8, .ref o9, .int (bI im), .ref o10, .ref o11, .ref o12, .ref o13, .ref o14, .ref o15]))]) (ww := [(o9, aI cs 7 (tx_nf rf))]) (sz := s.heap.size) hD0
  have hP := en_P (wr := [(o, .inr (6, [.int (nI n), .ref o1, .ref o2, .ref o3, .ref o4, .int (nI dy), .ref o5, .ref o6, .int (nI ch), .int (nI lw), .int (nI tz), .ref o7, .int (nI at9), .int (nI va9), .int (nI ss), .ref o8, .ref o9, .int (bI im), .ref o10, .ref o11, .ref o12, .ref o13, .ref o14, .ref o15]))]) (ww := [(o9, aI cs 7 (tx_nf rf))]) hP
  generalize hAe : va_A [(o9, aI cs 7 (tx_nf rf))] s.heap.size = A at hD hR ⊢
  have hA : ∀ q : Nat, s.heap.size ≤ q → A q := fun q h => by rw [← hAe]; exact Or.inr h
  have hS : va_S A s.heap s.heap [] := va_S.rf
  have hN : adN [o, o9] := hN
  have hl := lv_entry ([.ref o, .int cd]) (n := 2) (Nat.le_of_ble_eq_true rfl)
  rw [lg_entry_eq]
  generalize (lg_sl ([.ref o, .int cd]) ++ List.replicate (2 - (lg_sl ([.ref o, .int cd])).length) Slot.unset).toArray = ls at hl ⊢
  have hl : lv_has ls 2 [(0, .ref o), (1, .int cd)] := hl
  refine lv_ldc2 (v := 4000000000000000000) hx hb hown (hts (.constantLong RX6 69 4000000000000000000) (by decide +kernel)) dX6_noLong_0 ?_
  refine lv_aload_n hx hb dX6_noLong_3 rfl (lv_at hl 0 rfl) ?_
  refine lv_iload_n hx hb dX6_noLong_4 rfl (lv_at hl 1 rfl) ?_
  refine cV_i (As := [.int cd]) (rest := [.long 4000000000000000000]) (cr := [(o, .inr (6, [.int (nI n), .ref o1, .ref o2, .ref o3, .ref o4, .int (nI dy), .ref o5, .ref o6, .int (nI ch), .int (nI lw), .int (nI tz), .ref o7, .int (nI at9), .int (nI va9), .int (nI ss), .ref o8, .ref o9, .int (bI im), .ref o10, .ref o11, .ref o12, .ref o13, .ref o14, .ref o15]))]) (cw1 := [(o9, aI cs 7 (tx_nf rf))]) ⟨hx, hb, hml, hown, hts⟩ (c_X6_no l D cs _ o o1 o2 o3 o4 o5 o6 o7 o8 o9 o10 o11 o12 o13 o14 o15 n dy ch lw tz at9 va9 ss im rf cd q (by first | assumption | omega) (by first | assumption | omega) (by first | assumption | omega)) (cwV 1 hts gX6_noLong_X6_no rfl rfl rfl (by decide +kernel) ⟨Nat.le_of_ble_eq_true rfl, Nat.le_of_ble_eq_true rfl⟩) hK hP hD hS hA (((hR hS).app hP).sub [0, 1] rfl) (dt_of hN [0, 1] (by decide) rfl) [0] rfl 0 rfl rfl rfl hl.1 rfl (Nat.le_of_ble_eq_true rfl) dX6_noLong_5 ⟨Nat.le_of_ble_eq_true rfl, Nat.le_of_ble_eq_true rfl⟩ (fun _ => rfl) (fun _ => rfl) (fun r_1 u9 H locs hw_2 hP hD hS => ?_)
  have hP : va_P D vwCl [(o9, aI cs 7 (tx_nf (tx_rf rf q)))] H := hP
  have hD : va_D A [(o9, aI cs 7 (tx_nf (tx_rf rf q)))] := hD
  subst r_1
  refine lv_i2l (v := cd.toInt64) hx hb dX6_noLong_8 rfl ?_
  refine lv_lsub hx hb dX6_noLong_9 ?_
  exact rt_l hx hb hr hlocks () (rfl) hP hD hS dX6_noLong_10
set_option maxHeartbeats 4000000 in
set_option maxRecDepth 100000 in
theorem c_X6_year (l : Launch) (D : va_G) (cs : Nat → ClassId) (sz : Nat) (o : Nat) (o1 : Nat) (o2 : Nat) (o3 : Nat) (o4 : Nat) (o5 : Nat) (o6 : Nat) (o7 : Nat) (o8 : Nat) (o9 : Nat) (o10 : Nat) (o11 : Nat) (o12 : Nat) (o13 : Nat) (o14 : Nat) (o15 : Nat) (n : Nat) (dy : Nat) (ch : Nat) (lw : Nat) (tz : Nat) (at9 : Nat) (va9 : Nat) (ss : Nat) (im : Bool) (td : Nat → Nat) (bo : Nat → Option Nat) (x : Nat)  : mV (S := Unit) l yX6_year wsX6_year ({ frames := 0, cells := 0, slots := 0, locals := 0 } : Room) D (tyc cs) sz [.ref o, .int (nI x)] [] [(o, .inr (6, [.int (nI n), .ref o1, .ref o2, .ref o3, .ref o4, .int (nI dy), .ref o5, .ref o6, .int (nI ch), .int (nI lw), .int (nI tz), .ref o7, .int (nI at9), .int (nI va9), .int (nI ss), .ref o8, .ref o9, .int (bI im), .ref o10, .ref o11, .ref o12, .ref o13, .ref o14, .ref o15])), (o5, aI cs 21 (tx_nf td)), (o6, aI cs 21 (tx_bf bo))] (fun (u : Unit) => True) (fun _ => [(o, .inr (6, [.int (nI n), .ref o1, .ref o2, .ref o3, .ref o4, .int (nI x), .ref o5, .ref o6, .int (nI ch), .int (nI lw), .int (nI tz), .ref o7, .int (nI at9), .int (nI va9), .int (nI ss), .ref o8, .ref o9, .int (bI im), .ref o10, .ref o11, .ref o12, .ref o13, .ref o14, .ref o15])), (o5, aI cs 21 (tx_nf (fun _ => 0))), (o6, aI cs 21 (tx_bf (fun _ => none)))]) 0 0 := by
  unfold mV
  refine Met.ofW (cc := cX6_year) (maxL := 3) (ret := none) (by decide) rfl ?_
  intro p e s m args below meth c s₁ B hml hv
  obtain ⟨rfl, hsz, hP, hK, hD0⟩ := hv
  have hx := B.exec
  have hb := B.bytes
  have hr := B.returns
  have hts := atoms_spec (ws := wsX6_year) B.pre
  have hown : s.vm.findClass RX6 = some m.cls := findClass_of_methodNamed B.named
  have hlocks := B.notSynchronized
  subst hsz
  have hR := @en_R _ _ _ [] [(o, .inr (6, [.int (nI n), .ref o1, .ref o2, .ref o3, .ref o4, .int (nI dy), .ref o5, .ref o6, .int (nI ch), .int (nI lw), .int (nI tz), .ref o7, .int (nI at9), .int (nI va9), .int (nI ss), .ref o8, .ref o9, .int (bI im), .ref o10, .ref o11, .ref o12, .ref o13, .ref o14, .ref o15])), (o5, aI cs 21 (tx_nf td)), (o6, aI cs 21 (tx_bf bo))] _ hP hD0
  have hN := adN_of hD0
  have hD := en_D (wr := []) (ww := [(o, .inr (6, [.int (nI n), .ref o1, .ref o2, .ref o3, .ref o4, .int (nI dy), .ref o5, .ref o6, .int (nI ch), .int (nI lw), .int (nI tz), .ref o7, .int (nI at9), .int (nI va9), .int (nI ss), .ref o8, .ref o9, .int (bI im), .ref o10, .ref o11, .ref o12, .ref o13, .ref o14, .ref o15])), (o5, aI cs 21 (tx_nf td)), (o6, aI cs 21 (tx_bf bo))]) (sz := s.heap.size) hD0
  have hP := en_P (wr := []) (ww := [(o, .inr (6, [.int (nI n), .ref o1, .ref o2, .ref o3, .ref o4, .int (nI dy), .ref o5, .ref o6, .int (nI ch), .int (nI lw), .int (nI tz), .ref o7, .int (nI at9), .int (nI va9), .int (nI ss), .ref o8, .ref o9, .int (bI im), .ref o10, .ref o11, .ref o12, .ref o13, .ref o14, .ref o15])), (o5, aI cs 21 (tx_nf td)), (o6, aI cs 21 (tx_bf bo))]) hP
  generalize hAe : va_A [(o, .inr (6, [.int (nI n), .ref o1, .ref o2, .ref o3, .ref o4, .int (nI dy), .ref o5, .ref o6, .int (nI ch), .int (nI lw), .int (nI tz), .ref o7, .int (nI at9), .int (nI va9), .int (nI ss), .ref o8, .ref o9, .int (bI im), .ref o10, .ref o11, .ref o12, .ref o13, .ref o14, .ref o15])), (o5, aI cs 21 (tx_nf td)), (o6, aI cs 21 (tx_bf bo))] s.heap.size = A at hD hR ⊢
  have hA : ∀ q : Nat, s.heap.size ≤ q → A q := fun q h => by rw [← hAe]; exact Or.inr h
  have hS : va_S A s.heap s.heap [] := va_S.rf
  have hN : adN [o, o5, o6] := hN
  have hf_22 := hts (.fieldLink RX6 22 "TaxedByLongestModel" "done" "[I") (by decide +kernel)
  have hf_25 := hts (.fieldLink RX6 25 "TaxedByLongestModel" "bound" "[I") (by decide +kernel)
  have hf_78 := hts (.fieldLink RX6 78 "TaxedByLongestModel" "days" "I") (by decide +kernel)
  have in_X6 : ∀ w ∈ wsX60, w ∈ wsX6_year := by decide +kernel
  have hl := lv_entry ([.ref o, .int (nI x)]) (n := 3) (Nat.le_of_ble_eq_true rfl)
  rw [lg_entry_eq]
  generalize (lg_sl ([.ref o, .int (nI x)]) ++ List.replicate (3 - (lg_sl ([.ref o, .int (nI x)])).length) Slot.unset).toArray = ls at hl ⊢
  have hl : lv_has ls 3 [(0, .ref o), (1, .int (nI x))] := hl
  refine lv_aload_n hx hb dX6_year_0 rfl (lv_at hl 0 rfl) ?_
  refine lv_iload_n hx hb dX6_year_1 rfl (lv_at hl 1 rfl) ?_
  refine va_put (D := D) (ci := 6) (v := .int (nI x)) (ty := .int) (C := RX6) (T := TX6) (N := 24) hx hb hts in_X6 tyX6 tyX6_ok nmX6 hown hK hP hD hS 0 rfl rfl 5 (by decide) hf_78 (fun _ h9 => h9) rfl (by decide +kernel) rfl rfl (Nat.le_of_ble_eq_true rfl) dX6_year_2 (fun H locs hP hD hS => ?_)
  have hP : va_P D vwCl [(o, .inr (6, [.int (nI n), .ref o1, .ref o2, .ref o3, .ref o4, .int (nI x), .ref o5, .ref o6, .int (nI ch), .int (nI lw), .int (nI tz), .ref o7, .int (nI at9), .int (nI va9), .int (nI ss), .ref o8, .ref o9, .int (bI im), .ref o10, .ref o11, .ref o12, .ref o13, .ref o14, .ref o15])), (o5, aI cs 21 (tx_nf td)), (o6, aI cs 21 (tx_bf bo))] H := hP
  have hD : va_D A [(o, .inr (6, [.int (nI n), .ref o1, .ref o2, .ref o3, .ref o4, .int (nI x), .ref o5, .ref o6, .int (nI ch), .int (nI lw), .int (nI tz), .ref o7, .int (nI at9), .int (nI va9), .int (nI ss), .ref o8, .ref o9, .int (bI im), .ref o10, .ref o11, .ref o12, .ref o13, .ref o14, .ref o15])), (o5, aI cs 21 (tx_nf td)), (o6, aI cs 21 (tx_bf bo))] := hD
  refine lv_iconst (v := 0) hx hb dX6_year_5 (by decide) ?_
  refine lv_istore_n (lv' := [(2, .int 0), (0, .ref o), (1, .int (nI x))]) hx hb dX6_year_6 rfl hl (by decide) rfl (fun ls hl => ?_)
  have loop7 : ∀ (n9 : Nat) (i : Nat) (f1 : Nat → Nat) (b1 : Nat → Option Nat) (hi : i ≤ 21) (hf : ∀ k, k < i → f1 k = 0) (hb1 : ∀ k, k < i → b1 k = none), 21 - i < n9 → ∀ (H : Heap) (locs : List Loc), va_P D vwCl [(o, .inr (6, [.int (nI n), .ref o1, .ref o2, .ref o3, .ref o4, .int (nI x), .ref o5, .ref o6, .int (nI ch), .int (nI lw), .int (nI tz), .ref o7, .int (nI at9), .int (nI va9), .int (nI ss), .ref o8, .ref o9, .int (bI im), .ref o10, .ref o11, .ref o12, .ref o13, .ref o14, .ref o15])), (o5, aI cs 21 (tx_nf f1)), (o6, aI cs 21 (tx_bf b1))] H → va_D A [(o, .inr (6, [.int (nI n), .ref o1, .ref o2, .ref o3, .ref o4, .int (nI x), .ref o5, .ref o6, .int (nI ch), .int (nI lw), .int (nI tz), .ref o7, .int (nI at9), .int (nI va9), .int (nI ss), .ref o8, .ref o9, .int (bI im), .ref o10, .ref o11, .ref o12, .ref o13, .ref o14, .ref o15])), (o5, aI cs 21 (tx_nf f1)), (o6, aI cs 21 (tx_bf b1))] → va_S A s.heap H locs → ∀ (ls : Array Slot), lv_has ls 3 [(0, .ref o), (2, .int (nI i))] → W p l e (headSpec wsX6_year ({ frames := 0, cells := 0, slots := 0, locals := 0 } : Room)).room s m ([.ref o, .int (nI x)] : List Value).toArray below meth c H locs 0 0 (MQ below (va_Qv (fun (u : Unit) => True) (QB D (fun _ => [(o, .inr (6, [.int (nI n), .ref o1, .ref o2, .ref o3, .ref o4, .int (nI x), .ref o5, .ref o6, .int (nI ch), .int (nI lw), .int (nI tz), .ref o7, .int (nI at9), .int (nI va9), .int (nI ss), .ref o8, .ref o9, .int (bI im), .ref o10, .ref o11, .ref o12, .ref o13, .ref o14, .ref o15])), (o5, aI cs 21 (tx_nf (fun _ => 0))), (o6, aI cs 21 (tx_bf (fun _ => none)))]) A) A) ([.ref o, .int (nI x)] : List Value).toArray s 0 0 A) (F0 m 7 ls []) := by
    intro n9
    induction n9 with
    | zero => intros; omega
    | succ n9 ih7 =>
      intro i f1 b1 hi hf hb1 hmu H locs hP hD hS ls hl
      refine lv_iload_n hx hb dX6_year_7 rfl (lv_at hl 1 rfl) ?_
      refine lv_bipush (v := 21) hx hb dX6_year_8 (by decide) ?_
      refine bn_ge (a := i) (b := 21) (tgt := 34) hx hb rfl rfl (by omega) (by decide) dX6_year_10 (by decide) (fun c10 => ?_) (fun c10 => ?_)
      · have hP := w_ext hP 1 (tx_nf (fun _ => 0)) rfl (fun k hk => by unfold tx_nf; rw [hf k (by omega)])
        have hD : va_D A [(o, .inr (6, [.int (nI n), .ref o1, .ref o2, .ref o3, .ref o4, .int (nI x), .ref o5, .ref o6, .int (nI ch), .int (nI lw), .int (nI tz), .ref o7, .int (nI at9), .int (nI va9), .int (nI ss), .ref o8, .ref o9, .int (bI im), .ref o10, .ref o11, .ref o12, .ref o13, .ref o14, .ref o15])), (o5, aI cs 21 (tx_nf (fun _ => 0))), (o6, aI cs 21 (tx_bf b1))] := d_adr hD rfl
        have hP : va_P D vwCl [(o, .inr (6, [.int (nI n), .ref o1, .ref o2, .ref o3, .ref o4, .int (nI x), .ref o5, .ref o6, .int (nI ch), .int (nI lw), .int (nI tz), .ref o7, .int (nI at9), .int (nI va9), .int (nI ss), .ref o8, .ref o9, .int (bI im), .ref o10, .ref o11, .ref o12, .ref o13, .ref o14, .ref o15])), (o5, aI cs 21 (tx_nf (fun _ => 0))), (o6, aI cs 21 (tx_bf b1))] H := hP
        have hD : va_D A [(o, .inr (6, [.int (nI n), .ref o1, .ref o2, .ref o3, .ref o4, .int (nI x), .ref o5, .ref o6, .int (nI ch), .int (nI lw), .int (nI tz), .ref o7, .int (nI at9), .int (nI va9), .int (nI ss), .ref o8, .ref o9, .int (bI im), .ref o10, .ref o11, .ref o12, .ref o13, .ref o14, .ref o15])), (o5, aI cs 21 (tx_nf (fun _ => 0))), (o6, aI cs 21 (tx_bf b1))] := hD
        have hP := w_ext hP 2 (tx_bf (fun _ => none)) rfl (fun k hk => by unfold tx_bf; rw [hb1 k (by omega)])
        have hD : va_D A [(o, .inr (6, [.int (nI n), .ref o1, .ref o2, .ref o3, .ref o4, .int (nI x), .ref o5, .ref o6, .int (nI ch), .int (nI lw), .int (nI tz), .ref o7, .int (nI at9), .int (nI va9), .int (nI ss), .ref o8, .ref o9, .int (bI im), .ref o10, .ref o11, .ref o12, .ref o13, .ref o14, .ref o15])), (o5, aI cs 21 (tx_nf (fun _ => 0))), (o6, aI cs 21 (tx_bf (fun _ => none)))] := d_adr hD rfl
        have hP : va_P D vwCl [(o, .inr (6, [.int (nI n), .ref o1, .ref o2, .ref o3, .ref o4, .int (nI x), .ref o5, .ref o6, .int (nI ch), .int (nI lw), .int (nI tz), .ref o7, .int (nI at9), .int (nI va9), .int (nI ss), .ref o8, .ref o9, .int (bI im), .ref o10, .ref o11, .ref o12, .ref o13, .ref o14, .ref o15])), (o5, aI cs 21 (tx_nf (fun _ => 0))), (o6, aI cs 21 (tx_bf (fun _ => none)))] H := hP
        have hD : va_D A [(o, .inr (6, [.int (nI n), .ref o1, .ref o2, .ref o3, .ref o4, .int (nI x), .ref o5, .ref o6, .int (nI ch), .int (nI lw), .int (nI tz), .ref o7, .int (nI at9), .int (nI va9), .int (nI ss), .ref o8, .ref o9, .int (bI im), .ref o10, .ref o11, .ref o12, .ref o13, .ref o14, .ref o15])), (o5, aI cs 21 (tx_nf (fun _ => 0))), (o6, aI cs 21 (tx_bf (fun _ => none)))] := hD
        exact rt_v hx hb hr hlocks () (trivial) hP hD hS dX6_year_34
      · refine lv_aload_n hx hb dX6_year_13 rfl (lv_at hl 0 rfl) ?_
        refine va_get (D := D) (ci := 6) (v := .ref o5) (C := RX6) (T := TX6) (N := 24) hx hb hts in_X6 hown hK hP 0 rfl rfl 6 (by decide) hf_22 (fun _ h9 => h9) rfl dX6_year_14 ?_
        refine lv_iload_n hx hb dX6_year_17 rfl (lv_at hl 1 rfl) ?_
        refine lv_iconst (v := 0) hx hb dX6_year_18 (by decide) ?_
        refine is_n (f := tx_nf f1) hx hb hK hP hD hS 1 0 rfl rfl (j := i) rfl (by omega) (by decide) dX6_year_19 (fun H locs hP hD hS => ?_)
        rw [show upd (tx_nf f1) i 0 = tx_nf (va_up f1 i 0) from nf_up _ _ _] at hP hD
        have hP : va_P D vwCl [(o, .inr (6, [.int (nI n), .ref o1, .ref o2, .ref o3, .ref o4, .int (nI x), .ref o5, .ref o6, .int (nI ch), .int (nI lw), .int (nI tz), .ref o7, .int (nI at9), .int (nI va9), .int (nI ss), .ref o8, .ref o9, .int (bI im), .ref o10, .ref o11, .ref o12, .ref o13, .ref o14, .ref o15])), (o5, aI cs 21 (tx_nf (va_up f1 i 0))), (o6, aI cs 21 (tx_bf b1))] H := hP
        have hD : va_D A [(o, .inr (6, [.int (nI n), .ref o1, .ref o2, .ref o3, .ref o4, .int (nI x), .ref o5, .ref o6, .int (nI ch), .int (nI lw), .int (nI tz), .ref o7, .int (nI at9), .int (nI va9), .int (nI ss), .ref o8, .ref o9, .int (bI im), .ref o10, .ref o11, .ref o12, .ref o13, .ref o14, .ref o15])), (o5, aI cs 21 (tx_nf (va_up f1 i 0))), (o6, aI cs 21 (tx_bf b1))] := hD
        refine lv_aload_n hx hb dX6_year_20 rfl (lv_at hl 0 rfl) ?_
        refine va_get (D := D) (ci := 6) (v := .ref o6) (C := RX6) (T := TX6) (N := 24) hx hb hts in_X6 hown hK hP 0 rfl rfl 7 (by decide) hf_25 (fun _ h9 => h9) rfl dX6_year_21 ?_
        refine lv_iload_n hx hb dX6_year_24 rfl (lv_at hl 1 rfl) ?_
        refine lv_bipush (v := (-9)) hx hb dX6_year_25 (by decide) ?_
        refine is_n (f := tx_bf b1) hx hb hK hP hD hS 2 0 rfl rfl (j := i) rfl (by omega) (by decide) dX6_year_27 (fun H locs hP hD hS => ?_)
        rw [show upd (tx_bf b1) i (-9) = tx_bf (va_up b1 i none) from bf_upN _ _] at hP hD
        have hP : va_P D vwCl [(o, .inr (6, [.int (nI n), .ref o1, .ref o2, .ref o3, .ref o4, .int (nI x), .ref o5, .ref o6, .int (nI ch), .int (nI lw), .int (nI tz), .ref o7, .int (nI at9), .int (nI va9), .int (nI ss), .ref o8, .ref o9, .int (bI im), .ref o10, .ref o11, .ref o12, .ref o13, .ref o14, .ref o15])), (o5, aI cs 21 (tx_nf (va_up f1 i 0))), (o6, aI cs 21 (tx_bf (va_up b1 i none)))] H := hP
        have hD : va_D A [(o, .inr (6, [.int (nI n), .ref o1, .ref o2, .ref o3, .ref o4, .int (nI x), .ref o5, .ref o6, .int (nI ch), .int (nI lw), .int (nI tz), .ref o7, .int (nI at9), .int (nI va9), .int (nI ss), .ref o8, .ref o9, .int (bI im), .ref o10, .ref o11, .ref o12, .ref o13, .ref o14, .ref o15])), (o5, aI cs 21 (tx_nf (va_up f1 i 0))), (o6, aI cs 21 (tx_bf (va_up b1 i none)))] := hD
        refine lv_iinc (v := nI (i + 1)) (lv' := [(2, .int (nI (i + 1))), (0, .ref o)]) hx hb dX6_year_28 hl (k := 1) rfl (inc_n i 1) (by decide) rfl (fun ls hl => ?_)
        refine lv_goto (tgt := 7) hx hb dX6_year_31 (by decide) ?_
        exact ih7 (i + 1) (va_up f1 i 0) (va_up b1 i none) (by first | assumption | omega) (fun k hk => by by_cases e : k = i; (subst e; exact va_up_self _ _ _); (rw [va_up_ne _ _ e]; exact hf k (by omega))) (fun k hk => by by_cases e : k = i; (subst e; exact va_up_self _ _ _); (rw [va_up_ne _ _ e]; exact hb1 k (by omega))) (by omega) _ _ hP hD hS ls (lv_sub hl [1, 0] rfl)
  exact loop7 _ 0 td bo (by first | assumption | omega) (fun k hk => absurd hk (Nat.not_lt_zero k)) (fun k hk => absurd hk (Nat.not_lt_zero k)) (Nat.lt_succ_self _) _ _ hP hD hS ls (lv_sub hl [1, 0] rfl)
set_option maxHeartbeats 4000000 in
set_option maxRecDepth 100000 in
theorem c_X6_counts (l : Launch) (D : va_G) (cs : Nat → ClassId) (sz : Nat) (o : Nat) (o1 : Nat) (o2 : Nat) (o3 : Nat) (o4 : Nat) (o5 : Nat) (o6 : Nat) (o7 : Nat) (o8 : Nat) (o9 : Nat) (o10 : Nat) (o11 : Nat) (o12 : Nat) (o13 : Nat) (o14 : Nat) (o15 : Nat) (n : Nat) (dy : Nat) (ch : Nat) (lw : Nat) (tz : Nat) (at9 : Nat) (va9 : Nat) (ss : Nat) (im : Bool) (kd : Nat → Nat) (t : Nat) (hn : n ≤ 4) (ht : t < 4) (htn : 0 < n → t < n) (hkd : ∀ e, kd e ≤ 5) : mI (S := Unit) l yX6_counts wsX6_counts ({ frames := 0, cells := 0, slots := 0, locals := 0 } : Room) D (tyc cs) sz [.ref o, .int (nI t)] [(o, .inr (6, [.int (nI n), .ref o1, .ref o2, .ref o3, .ref o4, .int (nI dy), .ref o5, .ref o6, .int (nI ch), .int (nI lw), .int (nI tz), .ref o7, .int (nI at9), .int (nI va9), .int (nI ss), .ref o8, .ref o9, .int (bI im), .ref o10, .ref o11, .ref o12, .ref o13, .ref o14, .ref o15])), (o1, aI cs 4 (tx_nf kd))] [] (fun (r : Int32) (u : Unit) => r = bI (tx_tx n kd t)) (fun _ => []) 0 0 := by
  unfold mI
  refine Met.ofW (cc := cX6_counts) (maxL := 2) (ret := (some .boolean)) (by decide) rfl ?_
  intro p e s m args below meth c s₁ B hml hv
  obtain ⟨rfl, hsz, hP, hK, hD0⟩ := hv
  have hx := B.exec
  have hb := B.bytes
  have hr := B.returns
  have hts := atoms_spec (ws := wsX6_counts) B.pre
  have hown : s.vm.findClass RX6 = some m.cls := findClass_of_methodNamed B.named
  have hlocks := B.notSynchronized
  subst hsz
  have hR := @en_R _ _ _ [(o, .inr (6, [.int (nI n), .ref o1, .ref o2, .ref o3, .ref o4, .int (nI dy), .ref o5, .ref o6, .int (nI ch), .int (nI lw), .int (nI tz), .ref o7, .int (nI at9), .int (nI va9), .int (nI ss), .ref o8, .ref o9, .int (bI im), .ref o10, .ref o11, .ref o12, .ref o13, .ref o14, .ref o15])), (o1, aI cs 4 (tx_nf kd))] [] _ hP hD0
  have hN := adN_of hD0
  have hD := en_D (wr := [(o, .inr (6, [.int (nI n), .ref o1, .ref o2, .ref o3, .ref o4, .int (nI dy), .ref o5, .ref o6, .int (nI ch), .int (nI lw), .int (nI tz), .ref o7, .int (nI at9), .int (nI va9), .int (nI ss), .ref o8, .ref o9, .int (bI im), .ref o10, .ref o11, .ref o12, .ref o13, .ref o14, .ref o15])), (o1, aI cs 4 (tx_nf kd))]) (ww := []) (sz := s.heap.size) hD0
  have hP := en_P (wr := [(o, .inr (6, [.int (nI n), .ref o1, .ref o2, .ref o3, .ref o4, .int (nI dy), .ref o5, .ref o6, .int (nI ch), .int (nI lw), .int (nI tz), .ref o7, .int (nI at9), .int (nI va9), .int (nI ss), .ref o8, .ref o9, .int (bI im), .ref o10, .ref o11, .ref o12, .ref o13, .ref o14, .ref o15])), (o1, aI cs 4 (tx_nf kd))]) (ww := []) hP
  generalize hAe : va_A [] s.heap.size = A at hD hR ⊢
  have hA : ∀ q : Nat, s.heap.size ≤ q → A q := fun q h => by rw [← hAe]; exact Or.inr h
  have hS : va_S A s.heap s.heap [] := va_S.rf
  have hN : adN [o, o1] := hN
  have hf_7 := hts (.fieldLink RX6 7 "TaxedByLongestModel" "kind" "[I") (by decide +kernel)
  have hf_71 := hts (.fieldLink RX6 71 "TaxedByLongestModel" "things" "I") (by decide +kernel)
  have in_X6 : ∀ w ∈ wsX60, w ∈ wsX6_counts := by decide +kernel
  have hl := lv_entry ([.ref o, .int (nI t)]) (n := 2) (Nat.le_of_ble_eq_true rfl)
  rw [lg_entry_eq]
  generalize (lg_sl ([.ref o, .int (nI t)]) ++ List.replicate (2 - (lg_sl ([.ref o, .int (nI t)])).length) Slot.unset).toArray = ls at hl ⊢
  have hl : lv_has ls 2 [(0, .ref o), (1, .int (nI t))] := hl
  refine lv_aload_n hx hb dX6_counts_0 rfl (lv_at hl 0 rfl) ?_
  refine va_get (D := D) (ci := 6) (v := .int (nI n)) (C := RX6) (T := TX6) (N := 24) hx hb hts in_X6 hown hK (hR hS) 0 rfl rfl 0 (by decide) hf_71 (fun _ h9 => h9) rfl dX6_counts_1 ?_
  refine bz_le (a := n) (tgt := 31) hx hb rfl (by omega) dX6_counts_4 (by decide) (fun c4 => ?_) (fun c4 => ?_)
  · refine lv_iconst (v := 0) hx hb dX6_counts_31 (by decide) ?_
    exact rt_z hx hb hr rfl hlocks () (by unfold tx_tx; subst c4; simp [bI]) hP hD hS dX6_counts_32
  · refine lv_aload_n hx hb dX6_counts_7 rfl (lv_at hl 0 rfl) ?_
    refine va_get (D := D) (ci := 6) (v := .ref o1) (C := RX6) (T := TX6) (N := 24) hx hb hts in_X6 hown hK (hR hS) 0 rfl rfl 1 (by decide) hf_7 (fun _ h9 => h9) rfl dX6_counts_8 ?_
    refine lv_iload_n hx hb dX6_counts_11 rfl (lv_at hl 1 rfl) ?_
    refine ia_n (f := tx_nf kd) hx hb hK (hR hS) 1 0 rfl rfl (j := t) rfl (by omega) (by decide) dX6_counts_12 ?_
    refine tp_i (y := nI (kd t)) rfl ?_
    refine lv_iconst (v := 1) hx hb dX6_counts_13 (by decide) ?_
    have := hkd t
    refine bn_eq (a := kd t) (b := 1) (tgt := 31) hx hb rfl rfl (by omega) (by decide) dX6_counts_14 (by decide) (fun c14 => ?_) (fun c14 => ?_)
    · refine lv_iconst (v := 0) hx hb dX6_counts_31 (by decide) ?_
      exact rt_z hx hb hr rfl hlocks () (by unfold tx_tx; simp [htn c4, c4, c14, bI]) hP hD hS dX6_counts_32
    · refine lv_aload_n hx hb dX6_counts_17 rfl (lv_at hl 0 rfl) ?_
      refine va_get (D := D) (ci := 6) (v := .ref o1) (C := RX6) (T := TX6) (N := 24) hx hb hts in_X6 hown hK (hR hS) 0 rfl rfl 1 (by decide) hf_7 (fun _ h9 => h9) rfl dX6_counts_18 ?_
      refine lv_iload_n hx hb dX6_counts_21 rfl (lv_at hl 1 rfl) ?_
      refine ia_n (f := tx_nf kd) hx hb hK (hR hS) 1 0 rfl rfl (j := t) rfl (by omega) (by decide) dX6_counts_22 ?_
      refine tp_i (y := nI (kd t)) rfl ?_
      refine lv_iconst (v := 5) hx hb dX6_counts_23 (by decide) ?_
      have := hkd t
      refine bn_eq (a := kd t) (b := 5) (tgt := 31) hx hb rfl rfl (by omega) (by decide) dX6_counts_24 (by decide) (fun c24 => ?_) (fun c24 => ?_)
      · refine lv_iconst (v := 0) hx hb dX6_counts_31 (by decide) ?_
        exact rt_z hx hb hr rfl hlocks () (by unfold tx_tx; simp [htn c4, c4, c14, c24, bI]) hP hD hS dX6_counts_32
      · refine lv_iconst (v := 1) hx hb dX6_counts_27 (by decide) ?_
        refine lv_goto (tgt := 32) hx hb dX6_counts_28 (by decide) ?_
        exact rt_z hx hb hr rfl hlocks () (by unfold tx_tx; simp [htn c4, c4, c14, c24, bI]) hP hD hS dX6_counts_32
set_option maxHeartbeats 4000000 in
set_option maxRecDepth 100000 in
theorem c_X6_which (l : Launch) (D : va_G) (cs : Nat → ClassId) (sz : Nat) (o : Nat) (o1 : Nat) (o2 : Nat) (o3 : Nat) (o4 : Nat) (o5 : Nat) (o6 : Nat) (o7 : Nat) (o8 : Nat) (o9 : Nat) (o10 : Nat) (o11 : Nat) (o12 : Nat) (o13 : Nat) (o14 : Nat) (o15 : Nat) (n : Nat) (dy : Nat) (ch : Nat) (lw : Nat) (tz : Nat) (at9 : Nat) (va9 : Nat) (ss : Nat) (im : Bool) (td : Nat → Nat) (d : Nat) (hd : d < 21) (htd : ∀ e, td e < 4) : mI (S := Unit) l yX6_which wsX6_which ({ frames := 0, cells := 0, slots := 0, locals := 0 } : Room) D (tyc cs) sz [.ref o, .int (nI d)] [(o, .inr (6, [.int (nI n), .ref o1, .ref o2, .ref o3, .ref o4, .int (nI dy), .ref o5, .ref o6, .int (nI ch), .int (nI lw), .int (nI tz), .ref o7, .int (nI at9), .int (nI va9), .int (nI ss), .ref o8, .ref o9, .int (bI im), .ref o10, .ref o11, .ref o12, .ref o13, .ref o14, .ref o15])), (o5, aI cs 21 (tx_nf td))] [] (fun (r : Int32) (u : Unit) => r = nI (tx_pl td d)) (fun _ => []) 0 0 := by
  unfold mI
  refine Met.ofW (cc := cX6_which) (maxL := 3) (ret := (some .int)) (by decide) rfl ?_
  intro p e s m args below meth c s₁ B hml hv
  obtain ⟨rfl, hsz, hP, hK, hD0⟩ := hv
  have hx := B.exec
  have hb := B.bytes
  have hr := B.returns
  have hts := atoms_spec (ws := wsX6_which) B.pre
  have hown : s.vm.findClass RX6 = some m.cls := findClass_of_methodNamed B.named
  have hlocks := B.notSynchronized
  subst hsz
  have hR := @en_R _ _ _ [(o, .inr (6, [.int (nI n), .ref o1, .ref o2, .ref o3, .ref o4, .int (nI dy), .ref o5, .ref o6, .int (nI ch), .int (nI lw), .int (nI tz), .ref o7, .int (nI at9), .int (nI va9), .int (nI ss), .ref o8, .ref o9, .int (bI im), .ref o10, .ref o11, .ref o12, .ref o13, .ref o14, .ref o15])), (o5, aI cs 21 (tx_nf td))] [] _ hP hD0
  have hN := adN_of hD0
  have hD := en_D (wr := [(o, .inr (6, [.int (nI n), .ref o1, .ref o2, .ref o3, .ref o4, .int (nI dy), .ref o5, .ref o6, .int (nI ch), .int (nI lw), .int (nI tz), .ref o7, .int (nI at9), .int (nI va9), .int (nI ss), .ref o8, .ref o9, .int (bI im), .ref o10, .ref o11, .ref o12, .ref o13, .ref o14, .ref o15])), (o5, aI cs 21 (tx_nf td))]) (ww := []) (sz := s.heap.size) hD0
  have hP := en_P (wr := [(o, .inr (6, [.int (nI n), .ref o1, .ref o2, .ref o3, .ref o4, .int (nI dy), .ref o5, .ref o6, .int (nI ch), .int (nI lw), .int (nI tz), .ref o7, .int (nI at9), .int (nI va9), .int (nI ss), .ref o8, .ref o9, .int (bI im), .ref o10, .ref o11, .ref o12, .ref o13, .ref o14, .ref o15])), (o5, aI cs 21 (tx_nf td))]) (ww := []) hP
  generalize hAe : va_A [] s.heap.size = A at hD hR ⊢
  have hA : ∀ q : Nat, s.heap.size ≤ q → A q := fun q h => by rw [← hAe]; exact Or.inr h
  have hS : va_S A s.heap s.heap [] := va_S.rf
  have hN : adN [o, o5] := hN
  have hf_22 := hts (.fieldLink RX6 22 "TaxedByLongestModel" "done" "[I") (by decide +kernel)
  have in_X6 : ∀ w ∈ wsX60, w ∈ wsX6_which := by decide +kernel
  have hl := lv_entry ([.ref o, .int (nI d)]) (n := 3) (Nat.le_of_ble_eq_true rfl)
  rw [lg_entry_eq]
  generalize (lg_sl ([.ref o, .int (nI d)]) ++ List.replicate (3 - (lg_sl ([.ref o, .int (nI d)])).length) Slot.unset).toArray = ls at hl ⊢
  have hl : lv_has ls 3 [(0, .ref o), (1, .int (nI d))] := hl
  refine lv_iconst (v := 1) hx hb dX6_which_0 (by decide) ?_
  refine lv_istore_n (lv' := [(2, .int 1), (0, .ref o), (1, .int (nI d))]) hx hb dX6_which_1 rfl hl (by decide) rfl (fun ls hl => ?_)
  have loop2 : ∀ (n9 : Nat) (k : Nat) (hk1 : 1 ≤ k) (hk2 : k ≤ d + 1) (hq : ∀ e, d + 1 - k ≤ e → e ≤ d → td e = td d), d + 1 - k < n9 → ∀ (H : Heap) (locs : List Loc), va_P D vwCl [] H → va_D A [] → va_S A s.heap H locs → ∀ (ls : Array Slot), lv_has ls 3 [(0, .ref o), (1, .int (nI d)), (2, .int (nI k))] → W p l e (headSpec wsX6_which ({ frames := 0, cells := 0, slots := 0, locals := 0 } : Room)).room s m ([.ref o, .int (nI d)] : List Value).toArray below meth c H locs 0 0 (MQ below (va_Qi (fun (r : Int32) (u : Unit) => r = nI (tx_pl td d)) (QB D (fun _ => []) A) A) ([.ref o, .int (nI d)] : List Value).toArray s 0 0 A) (F0 m 2 ls []) := by
    intro n9
    induction n9 with
    | zero => intros; omega
    | succ n9 ih2 =>
      intro k hk1 hk2 hq hmu H locs hP hD hS ls hl
      refine lv_iload_n hx hb dX6_which_2 rfl (lv_at hl 1 rfl) ?_
      refine lv_iload_n hx hb dX6_which_3 rfl (lv_at hl 2 rfl) ?_
      refine bn_lt (a := d) (b := k) (tgt := 30) hx hb rfl rfl (by omega) (by omega) dX6_which_4 (by decide) (fun c4 => ?_) (fun c4 => ?_)
      · refine lv_iload_n hx hb dX6_which_30 rfl (lv_at hl 2 rfl) ?_
        exact rt_i hx hb hr hlocks () (by rw [tx_pl_of td d (d + 1 - k) (by omega) hq (Or.inl (by omega))]; congr 1; omega) hP hD hS dX6_which_31
      · refine lv_aload_n hx hb dX6_which_7 rfl (lv_at hl 0 rfl) ?_
        refine va_get (D := D) (ci := 6) (v := .ref o5) (C := RX6) (T := TX6) (N := 24) hx hb hts in_X6 hown hK (hR hS) 0 rfl rfl 6 (by decide) hf_22 (fun _ h9 => h9) rfl dX6_which_8 ?_
        refine lv_iload_n hx hb dX6_which_11 rfl (lv_at hl 1 rfl) ?_
        refine lv_iload_n hx hb dX6_which_12 rfl (lv_at hl 2 rfl) ?_
        refine lv_isub hx hb dX6_which_13 ?_
        refine tp_i (pk_sub (a := d) (b := k) (by omega)) ?_
        refine ia_n (f := tx_nf td) hx hb hK (hR hS) 1 0 rfl rfl (j := d - k) rfl (by omega) (by decide) dX6_which_14 ?_
        refine tp_i (y := nI (td (d - k))) rfl ?_
        refine lv_aload_n hx hb dX6_which_15 rfl (lv_at hl 0 rfl) ?_
        refine va_get (D := D) (ci := 6) (v := .ref o5) (C := RX6) (T := TX6) (N := 24) hx hb hts in_X6 hown hK (hR hS) 0 rfl rfl 6 (by decide) hf_22 (fun _ h9 => h9) rfl dX6_which_16 ?_
        refine lv_iload_n hx hb dX6_which_19 rfl (lv_at hl 1 rfl) ?_
        refine ia_n (f := tx_nf td) hx hb hK (hR hS) 1 0 rfl rfl (j := d) rfl (by omega) (by decide) dX6_which_20 ?_
        refine tp_i (y := nI (td d)) rfl ?_
        have := htd (d - k)
        have := htd d
        refine bn_ne (a := td (d - k)) (b := td d) (tgt := 30) hx hb rfl rfl (by omega) (by omega) dX6_which_21 (by decide) (fun c21 => ?_) (fun c21 => ?_)
        · refine lv_iload_n hx hb dX6_which_30 rfl (lv_at hl 2 rfl) ?_
          exact rt_i hx hb hr hlocks () (by rw [tx_pl_of td d (d + 1 - k) (by omega) hq (Or.inr (by rw [show d + 1 - k - 1 = d - k by omega]; exact c21))]; congr 1; omega) hP hD hS dX6_which_31
        · refine lv_iinc (v := nI (k + 1)) (lv' := [(2, .int (nI (k + 1))), (0, .ref o), (1, .int (nI d))]) hx hb dX6_which_24 hl (k := 2) rfl (inc_n k 1) (by decide) rfl (fun ls hl => ?_)
          refine lv_goto (tgt := 2) hx hb dX6_which_27 (by decide) ?_
          exact ih2 (k + 1) (by first | assumption | omega) (by first | assumption | omega) (fun e h1 h2 => by by_cases q : e = d - k; (rw [q]; exact c21); (exact hq e (by omega) h2)) (by omega) _ _ hP hD hS ls (lv_sub hl [1, 2, 0] rfl)
  exact loop2 _ 1 (by first | assumption | omega) (by first | assumption | omega) (fun e h1 h2 => by rw [show e = d by omega]) (Nat.lt_succ_self _) _ _ hP hD hS ls (lv_sub hl [1, 2, 0] rfl)
set_option maxHeartbeats 4000000 in
set_option maxRecDepth 100000 in
theorem c_X6_isLast (l : Launch) (D : va_G) (cs : Nat → ClassId) (sz : Nat) (o : Nat) (o1 : Nat) (o2 : Nat) (o3 : Nat) (o4 : Nat) (o5 : Nat) (o6 : Nat) (o7 : Nat) (o8 : Nat) (o9 : Nat) (o10 : Nat) (o11 : Nat) (o12 : Nat) (o13 : Nat) (o14 : Nat) (o15 : Nat) (n : Nat) (dy : Nat) (ch : Nat) (lw : Nat) (tz : Nat) (at9 : Nat) (va9 : Nat) (ss : Nat) (im : Bool) (td : Nat → Nat) (d : Nat) (hd : d < dy) (hdy : dy ≤ 21) (htd : ∀ e, td e < 4) : mI (S := Unit) l yX6_isLast wsX6_isLast ({ frames := 0, cells := 0, slots := 0, locals := 0 } : Room) D (tyc cs) sz [.ref o, .int (nI d)] [(o, .inr (6, [.int (nI n), .ref o1, .ref o2, .ref o3, .ref o4, .int (nI dy), .ref o5, .ref o6, .int (nI ch), .int (nI lw), .int (nI tz), .ref o7, .int (nI at9), .int (nI va9), .int (nI ss), .ref o8, .ref o9, .int (bI im), .ref o10, .ref o11, .ref o12, .ref o13, .ref o14, .ref o15])), (o5, aI cs 21 (tx_nf td))] [] (fun (r : Int32) (u : Unit) => r = bI (decide (d + 1 = dy ∨ td (d + 1) ≠ td d))) (fun _ => []) 0 0 := by
  unfold mI
  refine Met.ofW (cc := cX6_isLast) (maxL := 2) (ret := (some .boolean)) (by decide) rfl ?_
  intro p e s m args below meth c s₁ B hml hv
  obtain ⟨rfl, hsz, hP, hK, hD0⟩ := hv
  have hx := B.exec
  have hb := B.bytes
  have hr := B.returns
  have hts := atoms_spec (ws := wsX6_isLast) B.pre
  have hown : s.vm.findClass RX6 = some m.cls := findClass_of_methodNamed B.named
  have hlocks := B.notSynchronized
  subst hsz
  have hR := @en_R _ _ _ [(o, .inr (6, [.int (nI n), .ref o1, .ref o2, .ref o3, .ref o4, .int (nI dy), .ref o5, .ref o6, .int (nI ch), .int (nI lw), .int (nI tz), .ref o7, .int (nI at9), .int (nI va9), .int (nI ss), .ref o8, .ref o9, .int (bI im), .ref o10, .ref o11, .ref o12, .ref o13, .ref o14, .ref o15])), (o5, aI cs 21 (tx_nf td))] [] _ hP hD0
  have hN := adN_of hD0
  have hD := en_D (wr := [(o, .inr (6, [.int (nI n), .ref o1, .ref o2, .ref o3, .ref o4, .int (nI dy), .ref o5, .ref o6, .int (nI ch), .int (nI lw), .int (nI tz), .ref o7, .int (nI at9), .int (nI va9), .int (nI ss), .ref o8, .ref o9, .int (bI im), .ref o10, .ref o11, .ref o12, .ref o13, .ref o14, .ref o15])), (o5, aI cs 21 (tx_nf td))]) (ww := []) (sz := s.heap.size) hD0
  have hP := en_P (wr := [(o, .inr (6, [.int (nI n), .ref o1, .ref o2, .ref o3, .ref o4, .int (nI dy), .ref o5, .ref o6, .int (nI ch), .int (nI lw), .int (nI tz), .ref o7, .int (nI at9), .int (nI va9), .int (nI ss), .ref o8, .ref o9, .int (bI im), .ref o10, .ref o11, .ref o12, .ref o13, .ref o14, .ref o15])), (o5, aI cs 21 (tx_nf td))]) (ww := []) hP
  generalize hAe : va_A [] s.heap.size = A at hD hR ⊢
  have hA : ∀ q : Nat, s.heap.size ≤ q → A q := fun q h => by rw [← hAe]; exact Or.inr h
  have hS : va_S A s.heap s.heap [] := va_S.rf
  have hN : adN [o, o5] := hN
  have hf_22 := hts (.fieldLink RX6 22 "TaxedByLongestModel" "done" "[I") (by decide +kernel)
  have hf_78 := hts (.fieldLink RX6 78 "TaxedByLongestModel" "days" "I") (by decide +kernel)
  have in_X6 : ∀ w ∈ wsX60, w ∈ wsX6_isLast := by decide +kernel
  have hl := lv_entry ([.ref o, .int (nI d)]) (n := 2) (Nat.le_of_ble_eq_true rfl)
  rw [lg_entry_eq]
  generalize (lg_sl ([.ref o, .int (nI d)]) ++ List.replicate (2 - (lg_sl ([.ref o, .int (nI d)])).length) Slot.unset).toArray = ls at hl ⊢
  have hl : lv_has ls 2 [(0, .ref o), (1, .int (nI d))] := hl
  refine lv_iload_n hx hb dX6_isLast_0 rfl (lv_at hl 1 rfl) ?_
  refine lv_aload_n hx hb dX6_isLast_1 rfl (lv_at hl 0 rfl) ?_
  refine va_get (D := D) (ci := 6) (v := .int (nI dy)) (C := RX6) (T := TX6) (N := 24) hx hb hts in_X6 hown hK (hR hS) 0 rfl rfl 5 (by decide) hf_78 (fun _ h9 => h9) rfl dX6_isLast_2 ?_
  refine lv_iconst (v := 1) hx hb dX6_isLast_5 (by decide) ?_
  refine lv_isub hx hb dX6_isLast_6 ?_
  refine tp_i (pk_sub (a := dy) (b := 1) (by omega)) ?_
  refine bn_eq (a := d) (b := dy - 1) (tgt := 27) hx hb rfl rfl (by omega) (by omega) dX6_isLast_7 (by decide) (fun c7 => ?_) (fun c7 => ?_)
  · refine lv_iconst (v := 1) hx hb dX6_isLast_27 (by decide) ?_
    refine lv_goto (tgt := 32) hx hb dX6_isLast_28 (by decide) ?_
    exact rt_z hx hb hr rfl hlocks () (by rw [decide_eq_true (Or.inl (by omega))]; rfl) hP hD hS dX6_isLast_32
  · refine lv_aload_n hx hb dX6_isLast_10 rfl (lv_at hl 0 rfl) ?_
    refine va_get (D := D) (ci := 6) (v := .ref o5) (C := RX6) (T := TX6) (N := 24) hx hb hts in_X6 hown hK (hR hS) 0 rfl rfl 6 (by decide) hf_22 (fun _ h9 => h9) rfl dX6_isLast_11 ?_
    refine lv_iload_n hx hb dX6_isLast_14 rfl (lv_at hl 1 rfl) ?_
    refine lv_iconst (v := 1) hx hb dX6_isLast_15 (by decide) ?_
    refine lv_iadd hx hb dX6_isLast_16 ?_
    refine tp_i (nI_add d 1) ?_
    refine ia_n (f := tx_nf td) hx hb hK (hR hS) 1 0 rfl rfl (j := d + 1) rfl (by omega) (by decide) dX6_isLast_17 ?_
    refine tp_i (y := nI (td (d + 1))) rfl ?_
    refine lv_aload_n hx hb dX6_isLast_18 rfl (lv_at hl 0 rfl) ?_
    refine va_get (D := D) (ci := 6) (v := .ref o5) (C := RX6) (T := TX6) (N := 24) hx hb hts in_X6 hown hK (hR hS) 0 rfl rfl 6 (by decide) hf_22 (fun _ h9 => h9) rfl dX6_isLast_19 ?_
    refine lv_iload_n hx hb dX6_isLast_22 rfl (lv_at hl 1 rfl) ?_
    refine ia_n (f := tx_nf td) hx hb hK (hR hS) 1 0 rfl rfl (j := d) rfl (by omega) (by decide) dX6_isLast_23 ?_
    refine tp_i (y := nI (td d)) rfl ?_
    have := htd (d + 1)
    have := htd d
    refine bn_eq (a := td (d + 1)) (b := td d) (tgt := 31) hx hb rfl rfl (by omega) (by omega) dX6_isLast_24 (by decide) (fun c24 => ?_) (fun c24 => ?_)
    · refine lv_iconst (v := 0) hx hb dX6_isLast_31 (by decide) ?_
      exact rt_z hx hb hr rfl hlocks () (by rw [decide_eq_false (by rintro (q | q); omega; exact q c24)]; rfl) hP hD hS dX6_isLast_32
    · refine lv_iconst (v := 1) hx hb dX6_isLast_27 (by decide) ?_
      refine lv_goto (tgt := 32) hx hb dX6_isLast_28 (by decide) ?_
      exact rt_z hx hb hr rfl hlocks () (by rw [decide_eq_true (Or.inr c24)]; rfl) hP hD hS dX6_isLast_32
set_option maxHeartbeats 4000000 in
set_option maxRecDepth 100000 in
theorem c_X6_changes (l : Launch) (D : va_G) (cs : Nat → ClassId) (sz : Nat) (o : Nat) (o1 : Nat) (o2 : Nat) (o3 : Nat) (o4 : Nat) (o5 : Nat) (o6 : Nat) (o7 : Nat) (o8 : Nat) (o9 : Nat) (o10 : Nat) (o11 : Nat) (o12 : Nat) (o13 : Nat) (o14 : Nat) (o15 : Nat) (n : Nat) (dy : Nat) (ch : Nat) (lw : Nat) (tz : Nat) (at9 : Nat) (va9 : Nat) (ss : Nat) (im : Bool) (td : Nat → Nat) (hd1 : 1 ≤ dy) (hdy : dy ≤ 21) (htd : ∀ e, td e < 4) : mI (S := Unit) l yX6_changes wsX6_changes ({ frames := 0, cells := 0, slots := 0, locals := 0 } : Room) D (tyc cs) sz [.ref o] [(o, .inr (6, [.int (nI n), .ref o1, .ref o2, .ref o3, .ref o4, .int (nI dy), .ref o5, .ref o6, .int (nI ch), .int (nI lw), .int (nI tz), .ref o7, .int (nI at9), .int (nI va9), .int (nI ss), .ref o8, .ref o9, .int (bI im), .ref o10, .ref o11, .ref o12, .ref o13, .ref o14, .ref o15])), (o5, aI cs 21 (tx_nf td))] [] (fun (r : Int32) (u : Unit) => r = nI (tx_cg td (dy - 1))) (fun _ => []) 0 0 := by
  unfold mI
  refine Met.ofW (cc := cX6_changes) (maxL := 3) (ret := (some .int)) (by decide) rfl ?_
  intro p e s m args below meth c s₁ B hml hv
  obtain ⟨rfl, hsz, hP, hK, hD0⟩ := hv
  have hx := B.exec
  have hb := B.bytes
  have hr := B.returns
  have hts := atoms_spec (ws := wsX6_changes) B.pre
  have hown : s.vm.findClass RX6 = some m.cls := findClass_of_methodNamed B.named
  have hlocks := B.notSynchronized
  subst hsz
  have hR := @en_R _ _ _ [(o, .inr (6, [.int (nI n), .ref o1, .ref o2, .ref o3, .ref o4, .int (nI dy), .ref o5, .ref o6, .int (nI ch), .int (nI lw), .int (nI tz), .ref o7, .int (nI at9), .int (nI va9), .int (nI ss), .ref o8, .ref o9, .int (bI im), .ref o10, .ref o11, .ref o12, .ref o13, .ref o14, .ref o15])), (o5, aI cs 21 (tx_nf td))] [] _ hP hD0
  have hN := adN_of hD0
  have hD := en_D (wr := [(o, .inr (6, [.int (nI n), .ref o1, .ref o2, .ref o3, .ref o4, .int (nI dy), .ref o5, .ref o6, .int (nI ch), .int (nI lw), .int (nI tz), .ref o7, .int (nI at9), .int (nI va9), .int (nI ss), .ref o8, .ref o9, .int (bI im), .ref o10, .ref o11, .ref o12, .ref o13, .ref o14, .ref o15])), (o5, aI cs 21 (tx_nf td))]) (ww := []) (sz := s.heap.size) hD0
  have hP := en_P (wr := [(o, .inr (6, [.int (nI n), .ref o1, .ref o2, .ref o3, .ref o4, .int (nI dy), .ref o5, .ref o6, .int (nI ch), .int (nI lw), .int (nI tz), .ref o7, .int (nI at9), .int (nI va9), .int (nI ss), .ref o8, .ref o9, .int (bI im), .ref o10, .ref o11, .ref o12, .ref o13, .ref o14, .ref o15])), (o5, aI cs 21 (tx_nf td))]) (ww := []) hP
  generalize hAe : va_A [] s.heap.size = A at hD hR ⊢
  have hA : ∀ q : Nat, s.heap.size ≤ q → A q := fun q h => by rw [← hAe]; exact Or.inr h
  have hS : va_S A s.heap s.heap [] := va_S.rf
  have hN : adN [o, o5] := hN
  have hf_22 := hts (.fieldLink RX6 22 "TaxedByLongestModel" "done" "[I") (by decide +kernel)
  have hf_78 := hts (.fieldLink RX6 78 "TaxedByLongestModel" "days" "I") (by decide +kernel)
  have in_X6 : ∀ w ∈ wsX60, w ∈ wsX6_changes := by decide +kernel
  have hl := lv_entry ([.ref o]) (n := 3) (Nat.le_of_ble_eq_true rfl)
  rw [lg_entry_eq]
  generalize (lg_sl ([.ref o]) ++ List.replicate (3 - (lg_sl ([.ref o])).length) Slot.unset).toArray = ls at hl ⊢
  have hl : lv_has ls 3 [(0, .ref o)] := hl
  refine lv_iconst (v := 0) hx hb dX6_changes_0 (by decide) ?_
  refine lv_istore_n (lv' := [(1, .int 0), (0, .ref o)]) hx hb dX6_changes_1 rfl hl (by decide) rfl (fun ls hl => ?_)
  refine lv_iconst (v := 1) hx hb dX6_changes_2 (by decide) ?_
  refine lv_istore_n (lv' := [(2, .int 1), (1, .int 0), (0, .ref o)]) hx hb dX6_changes_3 rfl hl (by decide) rfl (fun ls hl => ?_)
  have loop4 : ∀ (n9 : Nat) (i : Nat) (ct : Nat) (hi1 : 1 ≤ i) (hi : i ≤ dy) (hc : ct = tx_cg td (i - 1)), dy - i < n9 → ∀ (H : Heap) (locs : List Loc), va_P D vwCl [] H → va_D A [] → va_S A s.heap H locs → ∀ (ls : Array Slot), lv_has ls 3 [(0, .ref o), (1, .int (nI ct)), (2, .int (nI i))] → W p l e (headSpec wsX6_changes ({ frames := 0, cells := 0, slots := 0, locals := 0 } : Room)).room s m ([.ref o] : List Value).toArray below meth c H locs 0 0 (MQ below (va_Qi (fun (r : Int32) (u : Unit) => r = nI (tx_cg td (dy - 1))) (QB D (fun _ => []) A) A) ([.ref o] : List Value).toArray s 0 0 A) (F0 m 4 ls []) := by
    intro n9
    induction n9 with
    | zero => intros; omega
    | succ n9 ih4 =>
      intro i ct hi1 hi hc hmu H locs hP hD hS ls hl
      refine lv_iload_n hx hb dX6_changes_4 rfl (lv_at hl 2 rfl) ?_
      refine lv_aload_n hx hb dX6_changes_5 rfl (lv_at hl 0 rfl) ?_
      refine va_get (D := D) (ci := 6) (v := .int (nI dy)) (C := RX6) (T := TX6) (N := 24) hx hb hts in_X6 hown hK (hR hS) 0 rfl rfl 5 (by decide) hf_78 (fun _ h9 => h9) rfl dX6_changes_6 ?_
      refine bn_ge (a := i) (b := dy) (tgt := 38) hx hb rfl rfl (by omega) (by omega) dX6_changes_9 (by decide) (fun c9 => ?_) (fun c9 => ?_)
      · refine lv_iload_n hx hb dX6_changes_38 rfl (lv_at hl 1 rfl) ?_
        exact rt_i hx hb hr hlocks () (by rw [hc, show i = dy by omega]) hP hD hS dX6_changes_39
      · refine lv_aload_n hx hb dX6_changes_12 rfl (lv_at hl 0 rfl) ?_
        refine va_get (D := D) (ci := 6) (v := .ref o5) (C := RX6) (T := TX6) (N := 24) hx hb hts in_X6 hown hK (hR hS) 0 rfl rfl 6 (by decide) hf_22 (fun _ h9 => h9) rfl dX6_changes_13 ?_
        refine lv_iload_n hx hb dX6_changes_16 rfl (lv_at hl 2 rfl) ?_
        refine ia_n (f := tx_nf td) hx hb hK (hR hS) 1 0 rfl rfl (j := i) rfl (by omega) (by decide) dX6_changes_17 ?_
        refine tp_i (y := nI (td i)) rfl ?_
        refine lv_aload_n hx hb dX6_changes_18 rfl (lv_at hl 0 rfl) ?_
        refine va_get (D := D) (ci := 6) (v := .ref o5) (C := RX6) (T := TX6) (N := 24) hx hb hts in_X6 hown hK (hR hS) 0 rfl rfl 6 (by decide) hf_22 (fun _ h9 => h9) rfl dX6_changes_19 ?_
        refine lv_iload_n hx hb dX6_changes_22 rfl (lv_at hl 2 rfl) ?_
        refine lv_iconst (v := 1) hx hb dX6_changes_23 (by decide) ?_
        refine lv_isub hx hb dX6_changes_24 ?_
        refine tp_i (pk_sub (a := i) (b := 1) (by omega)) ?_
        refine ia_n (f := tx_nf td) hx hb hK (hR hS) 1 0 rfl rfl (j := i - 1) rfl (by omega) (by decide) dX6_changes_25 ?_
        refine tp_i (y := nI (td (i - 1))) rfl ?_
        have := htd i
        have := htd (i - 1)
        refine bn_eq (a := td i) (b := td (i - 1)) (tgt := 32) hx hb rfl rfl (by omega) (by omega) dX6_changes_26 (by decide) (fun c26 => ?_) (fun c26 => ?_)
        · refine lv_iinc (v := nI (i + 1)) (lv' := [(2, .int (nI (i + 1))), (0, .ref o), (1, .int (nI ct))]) hx hb dX6_changes_32 hl (k := 2) rfl (inc_n i 1) (by decide) rfl (fun ls hl => ?_)
          refine lv_goto (tgt := 4) hx hb dX6_changes_35 (by decide) ?_
          exact ih4 (i + 1) ct (by first | assumption | omega) (by first | assumption | omega) (by show _ = tx_cg td i; rw [tx_cg_s (by omega) c26, hc]) (by omega) _ _ hP hD hS ls (lv_sub hl [1, 2, 0] rfl)
        · refine lv_iinc (v := nI (ct + 1)) (lv' := [(1, .int (nI (ct + 1))), (0, .ref o), (2, .int (nI i))]) hx hb dX6_changes_29 hl (k := 1) rfl (inc_n ct 1) (by decide) rfl (fun ls hl => ?_)
          refine lv_iinc (v := nI (i + 1)) (lv' := [(2, .int (nI (i + 1))), (1, .int (nI (ct + 1))), (0, .ref o)]) hx hb dX6_changes_32 hl (k := 2) rfl (inc_n i 1) (by decide) rfl (fun ls hl => ?_)
          refine lv_goto (tgt := 4) hx hb dX6_changes_35 (by decide) ?_
          exact ih4 (i + 1) (ct + 1) (by first | assumption | omega) (by first | assumption | omega) (by show _ = tx_cg td i; rw [tx_cg_n (by omega) c26, hc]) (by omega) _ _ hP hD hS ls (lv_sub hl [2, 1, 0] rfl)
  exact loop4 _ 1 0 (by first | assumption | omega) (by first | assumption | omega) rfl (Nat.lt_succ_self _) _ _ hP hD hS ls (lv_sub hl [2, 1, 0] rfl)
set_option maxHeartbeats 4000000 in
set_option maxRecDepth 100000 in
theorem c_X6_worthOf (l : Launch) (D : va_G) (cs : Nat → ClassId) (sz : Nat) (o : Nat) (o1 : Nat) (o2 : Nat) (o3 : Nat) (o4 : Nat) (o5 : Nat) (o6 : Nat) (o7 : Nat) (o8 : Nat) (o9 : Nat) (o10 : Nat) (o11 : Nat) (o12 : Nat) (o13 : Nat) (o14 : Nat) (o15 : Nat) (n : Nat) (dy : Nat) (ch : Nat) (lw : Nat) (tz : Nat) (at9 : Nat) (va9 : Nat) (ss : Nat) (im : Bool) (kd : Nat → Nat) (wo : Nat → Nat) (ha : Nat → Nat) (we : Nat → Nat) (t : Nat) (k : Nat) (ht : t < 4) (hk : k < 2 ^ 31) (hkd : ∀ e, kd e ≤ 5) : mI (S := Unit) l yX6_worthOf wsX6_worthOf ({ frames := 0, cells := 0, slots := 0, locals := 0 } : Room) D (tyc cs) sz [.ref o, .int (nI t), .int (nI k)] [(o, .inr (6, [.int (nI n), .ref o1, .ref o2, .ref o3, .ref o4, .int (nI dy), .ref o5, .ref o6, .int (nI ch), .int (nI lw), .int (nI tz), .ref o7, .int (nI at9), .int (nI va9), .int (nI ss), .ref o8, .ref o9, .int (bI im), .ref o10, .ref o11, .ref o12, .ref o13, .ref o14, .ref o15])), (o1, aI cs 4 (tx_nf kd)), (o2, aI cs 4 (tx_nf wo)), (o3, aI cs 4 (tx_nf ha)), (o4, aI cs 4 (tx_nf we))] [] (fun (r : Int32) (u : Unit) => r = iI (tx_vl kd wo ha we t k)) (fun _ => []) 0 0 := by
  unfold mI
  refine Met.ofW (cc := cX6_worthOf) (maxL := 4) (ret := (some .int)) (by decide) rfl ?_
  intro p e s m args below meth c s₁ B hml hv
  obtain ⟨rfl, hsz, hP, hK, hD0⟩ := hv
  have hx := B.exec
  have hb := B.bytes
  have hr := B.returns
  have hts := atoms_spec (ws := wsX6_worthOf) B.pre
  have hown : s.vm.findClass RX6 = some m.cls := findClass_of_methodNamed B.named
  have hlocks := B.notSynchronized
  subst hsz
  have hR := @en_R _ _ _ [(o, .inr (6, [.int (nI n), .ref o1, .ref o2, .ref o3, .ref o4, .int (nI dy), .ref o5, .ref o6, .int (nI ch), .int (nI lw), .int (nI tz), .ref o7, .int (nI at9), .int (nI va9), .int (nI ss), .ref o8, .ref o9, .int (bI im), .ref o10, .ref o11, .ref o12, .ref o13, .ref o14, .ref o15])), (o1, aI cs 4 (tx_nf kd)), (o2, aI cs 4 (tx_nf wo)), (o3, aI cs 4 (tx_nf ha)), (o4, aI cs 4 (tx_nf we))] [] _ hP hD0
  have hN := adN_of hD0
  have hD := en_D (wr := [(o, .inr (6, [.int (nI n), .ref o1, .ref o2, .ref o3, .ref o4, .int (nI dy), .ref o5, .ref o6, .int (nI ch), .int (nI lw), .int (nI tz), .ref o7, .int (nI at9), .int (nI va9), .int (nI ss), .ref o8, .ref o9, .int (bI im), .ref o10, .ref o11, .ref o12, .ref o13, .ref o14, .ref o15])), (o1, aI cs 4 (tx_nf kd)), (o2, aI cs 4 (tx_nf wo)), (o3, aI cs 4 (tx_nf ha)), (o4, aI cs 4 (tx_nf we))]) (ww := []) (sz := s.heap.size) hD0
  have hP := en_P (wr := [(o, .inr (6, [.int (nI n), .ref o1, .ref o2, .ref o3, .ref o4, .int (nI dy), .ref o5, .ref o6, .int (nI ch), .int (nI lw), .int (nI tz), .ref o7, .int (nI at9), .int (nI va9), .int (nI ss), .ref o8, .ref o9, .int (bI im), .ref o10, .ref o11, .ref o12, .ref o13, .ref o14, .ref o15])), (o1, aI cs 4 (tx_nf kd)), (o2, aI cs 4 (tx_nf wo)), (o3, aI cs 4 (tx_nf ha)), (o4, aI cs 4 (tx_nf we))]) (ww := []) hP
  generalize hAe : va_A [] s.heap.size = A at hD hR ⊢
  have hA : ∀ q : Nat, s.heap.size ≤ q → A q := fun q h => by rw [← hAe]; exact Or.inr h
  have hS : va_S A s.heap s.heap [] := va_S.rf
  have hN : adN [o, o1, o2, o3, o4] := hN
  have hf_7 := hts (.fieldLink RX6 7 "TaxedByLongestModel" "kind" "[I") (by decide +kernel)
  have hf_13 := hts (.fieldLink RX6 13 "TaxedByLongestModel" "worth" "[I") (by decide +kernel)
  have hf_16 := hts (.fieldLink RX6 16 "TaxedByLongestModel" "habit" "[I") (by decide +kernel)
  have hf_19 := hts (.fieldLink RX6 19 "TaxedByLongestModel" "weary" "[I") (by decide +kernel)
  have in_X6 : ∀ w ∈ wsX60, w ∈ wsX6_worthOf := by decide +kernel
  have hl := lv_entry ([.ref o, .int (nI t), .int (nI k)]) (n := 4) (Nat.le_of_ble_eq_true rfl)
  rw [lg_entry_eq]
  generalize (lg_sl ([.ref o, .int (nI t), .int (nI k)]) ++ List.replicate (4 - (lg_sl ([.ref o, .int (nI t), .int (nI k)])).length) Slot.unset).toArray = ls at hl ⊢
  have hl : lv_has ls 4 [(0, .ref o), (1, .int (nI t)), (2, .int (nI k))] := hl
  refine lv_aload_n hx hb dX6_worthOf_0 rfl (lv_at hl 0 rfl) ?_
  refine va_get (D := D) (ci := 6) (v := .ref o1) (C := RX6) (T := TX6) (N := 24) hx hb hts in_X6 hown hK (hR hS) 0 rfl rfl 1 (by decide) hf_7 (fun _ h9 => h9) rfl dX6_worthOf_1 ?_
  refine lv_iload_n hx hb dX6_worthOf_4 rfl (lv_at hl 1 rfl) ?_
  refine ia_n (f := tx_nf kd) hx hb hK (hR hS) 1 0 rfl rfl (j := t) rfl (by omega) (by decide) dX6_worthOf_5 ?_
  refine tp_i (y := nI (kd t)) rfl ?_
  refine lv_iconst (v := 1) hx hb dX6_worthOf_6 (by decide) ?_
  have hk9 := hkd t
  refine bn_ne (a := kd t) (b := 1) (tgt := 12) hx hb rfl rfl (by omega) (by decide) dX6_worthOf_7 (by decide) (fun c7 => ?_) (fun c7 => ?_)
  · refine lv_aload_n hx hb dX6_worthOf_12 rfl (lv_at hl 0 rfl) ?_
    refine va_get (D := D) (ci := 6) (v := .ref o1) (C := RX6) (T := TX6) (N := 24) hx hb hts in_X6 hown hK (hR hS) 0 rfl rfl 1 (by decide) hf_7 (fun _ h9 => h9) rfl dX6_worthOf_13 ?_
    refine lv_iload_n hx hb dX6_worthOf_16 rfl (lv_at hl 1 rfl) ?_
    refine ia_n (f := tx_nf kd) hx hb hK (hR hS) 1 0 rfl rfl (j := t) rfl (by omega) (by decide) dX6_worthOf_17 ?_
    refine tp_i (y := nI (kd t)) rfl ?_
    refine lv_iconst (v := 5) hx hb dX6_worthOf_18 (by decide) ?_
    refine bn_ne (a := kd t) (b := 5) (tgt := 38) hx hb rfl rfl (by omega) (by decide) dX6_worthOf_19 (by decide) (fun c19 => ?_) (fun c19 => ?_)
    · refine lv_aload_n hx hb dX6_worthOf_38 rfl (lv_at hl 0 rfl) ?_
      refine va_get (D := D) (ci := 6) (v := .ref o2) (C := RX6) (T := TX6) (N := 24) hx hb hts in_X6 hown hK (hR hS) 0 rfl rfl 2 (by decide) hf_13 (fun _ h9 => h9) rfl dX6_worthOf_39 ?_
      refine lv_iload_n hx hb dX6_worthOf_42 rfl (lv_at hl 1 rfl) ?_
      refine ia_n (f := tx_nf wo) hx hb hK (hR hS) 2 0 rfl rfl (j := t) rfl (by omega) (by decide) dX6_worthOf_43 ?_
      refine tp_i (y := nI (wo t)) rfl ?_
      refine lv_istore_n (lv' := [(3, .int (nI (wo t))), (0, .ref o), (1, .int (nI t)), (2, .int (nI k))]) hx hb dX6_worthOf_44 rfl hl (by decide) rfl (fun ls hl => ?_)
      refine lv_iload_n hx hb dX6_worthOf_45 rfl (lv_at hl 3 rfl) ?_
      refine lv_aload_n hx hb dX6_worthOf_46 rfl (lv_at hl 1 rfl) ?_
      refine va_get (D := D) (ci := 6) (v := .ref o1) (C := RX6) (T := TX6) (N := 24) hx hb hts in_X6 hown hK (hR hS) 0 rfl rfl 1 (by decide) hf_7 (fun _ h9 => h9) rfl dX6_worthOf_47 ?_
      refine lv_iload_n hx hb dX6_worthOf_50 rfl (lv_at hl 2 rfl) ?_
      refine ia_n (f := tx_nf kd) hx hb hK (hR hS) 1 0 rfl rfl (j := t) rfl (by omega) (by decide) dX6_worthOf_51 ?_
      refine tp_i (y := nI (kd t)) rfl ?_
      refine lv_iconst (v := 2) hx hb dX6_worthOf_52 (by decide) ?_
      refine bn_eq (a := kd t) (b := 2) (tgt := 66) hx hb rfl rfl (by omega) (by decide) dX6_worthOf_53 (by decide) (fun c53 => ?_) (fun c53 => ?_)
      · refine lv_iconst (v := 1) hx hb dX6_worthOf_66 (by decide) ?_
        refine lv_goto (tgt := 71) hx hb dX6_worthOf_67 (by decide) ?_
        refine bn_le (a := k) (b := 1) (tgt := 83) hx hb rfl rfl (by omega) (by decide) dX6_worthOf_71 (by decide) (fun c71 => ?_) (fun c71 => ?_)
        · refine lv_iload_n hx hb dX6_worthOf_83 rfl (lv_at hl 3 rfl) ?_
          refine lv_aload_n hx hb dX6_worthOf_84 rfl (lv_at hl 1 rfl) ?_
          refine va_get (D := D) (ci := 6) (v := .ref o1) (C := RX6) (T := TX6) (N := 24) hx hb hts in_X6 hown hK (hR hS) 0 rfl rfl 1 (by decide) hf_7 (fun _ h9 => h9) rfl dX6_worthOf_85 ?_
          refine lv_iload_n hx hb dX6_worthOf_88 rfl (lv_at hl 2 rfl) ?_
          refine ia_n (f := tx_nf kd) hx hb hK (hR hS) 1 0 rfl rfl (j := t) rfl (by omega) (by decide) dX6_worthOf_89 ?_
          refine tp_i (y := nI (kd t)) rfl ?_
          refine lv_iconst (v := 3) hx hb dX6_worthOf_90 (by decide) ?_
          refine bn_ne (a := kd t) (b := 3) (tgt := 98) hx hb rfl rfl (by omega) (by decide) dX6_worthOf_91 (by decide) (fun c91 => ?_) (fun c91 => ?_)
          · refine lv_bipush (v := 6) hx hb dX6_worthOf_98 (by decide) ?_
            refine bn_le (a := k) (b := 6) (tgt := 112) hx hb rfl rfl (by omega) (by decide) dX6_worthOf_100 (by decide) (fun c100 => ?_) (fun c100 => ?_)
            · refine lv_aload_n hx hb dX6_worthOf_112 rfl (lv_at hl 1 rfl) ?_
              refine va_get (D := D) (ci := 6) (v := .ref o1) (C := RX6) (T := TX6) (N := 24) hx hb hts in_X6 hown hK (hR hS) 0 rfl rfl 1 (by decide) hf_7 (fun _ h9 => h9) rfl dX6_worthOf_113 ?_
              refine lv_iload_n hx hb dX6_worthOf_116 rfl (lv_at hl 2 rfl) ?_
              refine ia_n (f := tx_nf kd) hx hb hK (hR hS) 1 0 rfl rfl (j := t) rfl (by omega) (by decide) dX6_worthOf_117 ?_
              refine tp_i (y := nI (kd t)) rfl ?_
              refine lv_iconst (v := 4) hx hb dX6_worthOf_118 (by decide) ?_
              refine bn_ne (a := kd t) (b := 4) (tgt := 128) hx hb rfl rfl (by omega) (by decide) dX6_worthOf_119 (by decide) (fun c119 => ?_) (fun c119 => ?_)
              · refine lv_iload_n hx hb dX6_worthOf_128 rfl (lv_at hl 0 rfl) ?_
                exact rt_i hx hb hr hlocks () (by rw [show tx_vl kd wo ha we t k = ((wo t : Nat) : Int) from by unfold tx_vl tx_wv; (repeat' split) <;> omega]; first | rfl | exact nI_iI _) hP hD hS dX6_worthOf_129
              · refine lv_iconst (v := 2) hx hb dX6_worthOf_122 (by decide) ?_
                refine lv_iload_n hx hb dX6_worthOf_123 rfl (lv_at hl 0 rfl) ?_
                refine lv_imul hx hb dX6_worthOf_124 ?_
                refine tp_i (pk_mul 2 (wo t)) ?_
                refine lv_goto (tgt := 129) hx hb dX6_worthOf_125 (by decide) ?_
                exact rt_i hx hb hr hlocks () (by rw [show tx_vl kd wo ha we t k = ((2 * (wo t) : Nat) : Int) from by unfold tx_vl tx_wv; (repeat' split) <;> omega]; first | rfl | exact nI_iI _) hP hD hS dX6_worthOf_129
            · refine lv_iload_n hx hb dX6_worthOf_103 rfl (lv_at hl 0 rfl) ?_
              refine lv_aload_n hx hb dX6_worthOf_104 rfl (lv_at hl 1 rfl) ?_
              refine va_get (D := D) (ci := 6) (v := .ref o4) (C := RX6) (T := TX6) (N := 24) hx hb hts in_X6 hown hK (hR hS) 0 rfl rfl 4 (by decide) hf_19 (fun _ h9 => h9) rfl dX6_worthOf_105 ?_
              refine lv_iload_n hx hb dX6_worthOf_108 rfl (lv_at hl 2 rfl) ?_
              refine ia_n (f := tx_nf we) hx hb hK (hR hS) 4 0 rfl rfl (j := t) rfl (by omega) (by decide) dX6_worthOf_109 ?_
              refine tp_i (y := nI (we t)) rfl ?_
              refine lv_isub hx hb dX6_worthOf_110 ?_
              refine tp_i (sub_iI (a := ((wo t : Nat) : Int)) (b := ((we t : Nat) : Int)) (nI_iI _) (nI_iI _)) ?_
              refine lv_istore_n (lv' := [(3, .int (iI (((wo t : Nat) : Int) - ((we t : Nat) : Int)))), (0, .ref o), (1, .int (nI t)), (2, .int (nI k))]) hx hb dX6_worthOf_111 rfl hl (by decide) rfl (fun ls hl => ?_)
              refine lv_aload_n hx hb dX6_worthOf_112 rfl (lv_at hl 1 rfl) ?_
              refine va_get (D := D) (ci := 6) (v := .ref o1) (C := RX6) (T := TX6) (N := 24) hx hb hts in_X6 hown hK (hR hS) 0 rfl rfl 1 (by decide) hf_7 (fun _ h9 => h9) rfl dX6_worthOf_113 ?_
              refine lv_iload_n hx hb dX6_worthOf_116 rfl (lv_at hl 2 rfl) ?_
              refine ia_n (f := tx_nf kd) hx hb hK (hR hS) 1 0 rfl rfl (j := t) rfl (by omega) (by decide) dX6_worthOf_117 ?_
              refine tp_i (y := nI (kd t)) rfl ?_
              refine lv_iconst (v := 4) hx hb dX6_worthOf_118 (by decide) ?_
              refine bn_ne (a := kd t) (b := 4) (tgt := 128) hx hb rfl rfl (by omega) (by decide) dX6_worthOf_119 (by decide) (fun c119 => ?_) (fun c119 => ?_)
              · refine lv_iload_n hx hb dX6_worthOf_128 rfl (lv_at hl 0 rfl) ?_
                exact rt_i hx hb hr hlocks () (by rw [show tx_vl kd wo ha we t k = ((wo t : Nat) : Int) - ((we t : Nat) : Int) from by unfold tx_vl tx_wv; (repeat' split) <;> omega]) hP hD hS dX6_worthOf_129
              · refine lv_iconst (v := 2) hx hb dX6_worthOf_122 (by decide) ?_
                refine lv_iload_n hx hb dX6_worthOf_123 rfl (lv_at hl 0 rfl) ?_
                refine lv_imul hx hb dX6_worthOf_124 ?_
                refine tp_i (mul_iI (a := 2) (b := ((wo t : Nat) : Int) - ((we t : Nat) : Int)) (by decide) rfl) ?_
                refine lv_goto (tgt := 129) hx hb dX6_worthOf_125 (by decide) ?_
                exact rt_i hx hb hr hlocks () (by rw [show tx_vl kd wo ha we t k = 2 * (((wo t : Nat) : Int) - ((we t : Nat) : Int)) from by unfold tx_vl tx_wv; (repeat' split) <;> omega]) hP hD hS dX6_worthOf_129
          · refine lv_iconst (v := 3) hx hb dX6_worthOf_94 (by decide) ?_
            refine lv_goto (tgt := 100) hx hb dX6_worthOf_95 (by decide) ?_
            refine bn_le (a := k) (b := 3) (tgt := 112) hx hb rfl rfl (by omega) (by decide) dX6_worthOf_100 (by decide) (fun c100 => ?_) (fun c100 => ?_)
            · refine lv_aload_n hx hb dX6_worthOf_112 rfl (lv_at hl 1 rfl) ?_
              refine va_get (D := D) (ci := 6) (v := .ref o1) (C := RX6) (T := TX6) (N := 24) hx hb hts in_X6 hown hK (hR hS) 0 rfl rfl 1 (by decide) hf_7 (fun _ h9 => h9) rfl dX6_worthOf_113 ?_
              refine lv_iload_n hx hb dX6_worthOf_116 rfl (lv_at hl 2 rfl) ?_
              refine ia_n (f := tx_nf kd) hx hb hK (hR hS) 1 0 rfl rfl (j := t) rfl (by omega) (by decide) dX6_worthOf_117 ?_
              refine tp_i (y := nI (kd t)) rfl ?_
              refine lv_iconst (v := 4) hx hb dX6_worthOf_118 (by decide) ?_
              refine bn_ne (a := kd t) (b := 4) (tgt := 128) hx hb rfl rfl (by omega) (by decide) dX6_worthOf_119 (by decide) (fun c119 => ?_) (fun c119 => ?_)
              · refine lv_iload_n hx hb dX6_worthOf_128 rfl (lv_at hl 0 rfl) ?_
                exact rt_i hx hb hr hlocks () (by rw [show tx_vl kd wo ha we t k = ((wo t : Nat) : Int) from by unfold tx_vl tx_wv; (repeat' split) <;> omega]; first | rfl | exact nI_iI _) hP hD hS dX6_worthOf_129
              · refine lv_iconst (v := 2) hx hb dX6_worthOf_122 (by decide) ?_
                refine lv_iload_n hx hb dX6_worthOf_123 rfl (lv_at hl 0 rfl) ?_
                refine lv_imul hx hb dX6_worthOf_124 ?_
                refine tp_i (pk_mul 2 (wo t)) ?_
                refine lv_goto (tgt := 129) hx hb dX6_worthOf_125 (by decide) ?_
                exact rt_i hx hb hr hlocks () (by rw [show tx_vl kd wo ha we t k = ((2 * (wo t) : Nat) : Int) from by unfold tx_vl tx_wv; (repeat' split) <;> omega]; first | rfl | exact nI_iI _) hP hD hS dX6_worthOf_129
            · refine lv_iload_n hx hb dX6_worthOf_103 rfl (lv_at hl 0 rfl) ?_
              refine lv_aload_n hx hb dX6_worthOf_104 rfl (lv_at hl 1 rfl) ?_
              refine va_get (D := D) (ci := 6) (v := .ref o4) (C := RX6) (T := TX6) (N := 24) hx hb hts in_X6 hown hK (hR hS) 0 rfl rfl 4 (by decide) hf_19 (fun _ h9 => h9) rfl dX6_worthOf_105 ?_
              refine lv_iload_n hx hb dX6_worthOf_108 rfl (lv_at hl 2 rfl) ?_
              refine ia_n (f := tx_nf we) hx hb hK (hR hS) 4 0 rfl rfl (j := t) rfl (by omega) (by decide) dX6_worthOf_109 ?_
              refine tp_i (y := nI (we t)) rfl ?_
              refine lv_isub hx hb dX6_worthOf_110 ?_
              refine tp_i (sub_iI (a := ((wo t : Nat) : Int)) (b := ((we t : Nat) : Int)) (nI_iI _) (nI_iI _)) ?_
              refine lv_istore_n (lv' := [(3, .int (iI (((wo t : Nat) : Int) - ((we t : Nat) : Int)))), (0, .ref o), (1, .int (nI t)), (2, .int (nI k))]) hx hb dX6_worthOf_111 rfl hl (by decide) rfl (fun ls hl => ?_)
              refine lv_aload_n hx hb dX6_worthOf_112 rfl (lv_at hl 1 rfl) ?_
              refine va_get (D := D) (ci := 6) (v := .ref o1) (C := RX6) (T := TX6) (N := 24) hx hb hts in_X6 hown hK (hR hS) 0 rfl rfl 1 (by decide) hf_7 (fun _ h9 => h9) rfl dX6_worthOf_113 ?_
              refine lv_iload_n hx hb dX6_worthOf_116 rfl (lv_at hl 2 rfl) ?_
              refine ia_n (f := tx_nf kd) hx hb hK (hR hS) 1 0 rfl rfl (j := t) rfl (by omega) (by decide) dX6_worthOf_117 ?_
              refine tp_i (y := nI (kd t)) rfl ?_
              refine lv_iconst (v := 4) hx hb dX6_worthOf_118 (by decide) ?_
              refine bn_ne (a := kd t) (b := 4) (tgt := 128) hx hb rfl rfl (by omega) (by decide) dX6_worthOf_119 (by decide) (fun c119 => ?_) (fun c119 => ?_)
              · refine lv_iload_n hx hb dX6_worthOf_128 rfl (lv_at hl 0 rfl) ?_
                exact rt_i hx hb hr hlocks () (by rw [show tx_vl kd wo ha we t k = ((wo t : Nat) : Int) - ((we t : Nat) : Int) from by unfold tx_vl tx_wv; (repeat' split) <;> omega]) hP hD hS dX6_worthOf_129
              · refine lv_iconst (v := 2) hx hb dX6_worthOf_122 (by decide) ?_
                refine lv_iload_n hx hb dX6_worthOf_123 rfl (lv_at hl 0 rfl) ?_
                refine lv_imul hx hb dX6_worthOf_124 ?_
                refine tp_i (mul_iI (a := 2) (b := ((wo t : Nat) : Int) - ((we t : Nat) : Int)) (by decide) rfl) ?_
                refine lv_goto (tgt := 129) hx hb dX6_worthOf_125 (by decide) ?_
                exact rt_i hx hb hr hlocks () (by rw [show tx_vl kd wo ha we t k = 2 * (((wo t : Nat) : Int) - ((we t : Nat) : Int)) from by unfold tx_vl tx_wv; (repeat' split) <;> omega]) hP hD hS dX6_worthOf_129
        · refine lv_iload_n hx hb dX6_worthOf_74 rfl (lv_at hl 0 rfl) ?_
          refine lv_aload_n hx hb dX6_worthOf_75 rfl (lv_at hl 1 rfl) ?_
          refine va_get (D := D) (ci := 6) (v := .ref o3) (C := RX6) (T := TX6) (N := 24) hx hb hts in_X6 hown hK (hR hS) 0 rfl rfl 3 (by decide) hf_16 (fun _ h9 => h9) rfl dX6_worthOf_76 ?_
          refine lv_iload_n hx hb dX6_worthOf_79 rfl (lv_at hl 2 rfl) ?_
          refine ia_n (f := tx_nf ha) hx hb hK (hR hS) 3 0 rfl rfl (j := t) rfl (by omega) (by decide) dX6_worthOf_80 ?_
          refine tp_i (y := nI (ha t)) rfl ?_
          refine lv_iadd hx hb dX6_worthOf_81 ?_
          refine tp_i (nI_add (wo t) (ha t)) ?_
          refine lv_istore_n (lv' := [(3, .int (nI ((wo t) + (ha t)))), (0, .ref o), (1, .int (nI t)), (2, .int (nI k))]) hx hb dX6_worthOf_82 rfl hl (by decide) rfl (fun ls hl => ?_)
          refine lv_iload_n hx hb dX6_worthOf_83 rfl (lv_at hl 3 rfl) ?_
          refine lv_aload_n hx hb dX6_worthOf_84 rfl (lv_at hl 1 rfl) ?_
          refine va_get (D := D) (ci := 6) (v := .ref o1) (C := RX6) (T := TX6) (N := 24) hx hb hts in_X6 hown hK (hR hS) 0 rfl rfl 1 (by decide) hf_7 (fun _ h9 => h9) rfl dX6_worthOf_85 ?_
          refine lv_iload_n hx hb dX6_worthOf_88 rfl (lv_at hl 2 rfl) ?_
          refine ia_n (f := tx_nf kd) hx hb hK (hR hS) 1 0 rfl rfl (j := t) rfl (by omega) (by decide) dX6_worthOf_89 ?_
          refine tp_i (y := nI (kd t)) rfl ?_
          refine lv_iconst (v := 3) hx hb dX6_worthOf_90 (by decide) ?_
          refine bn_ne (a := kd t) (b := 3) (tgt := 98) hx hb rfl rfl (by omega) (by decide) dX6_worthOf_91 (by decide) (fun c91 => ?_) (fun c91 => ?_)
          · refine lv_bipush (v := 6) hx hb dX6_worthOf_98 (by decide) ?_
            refine bn_le (a := k) (b := 6) (tgt := 112) hx hb rfl rfl (by omega) (by decide) dX6_worthOf_100 (by decide) (fun c100 => ?_) (fun c100 => ?_)
            · refine lv_aload_n hx hb dX6_worthOf_112 rfl (lv_at hl 1 rfl) ?_
              refine va_get (D := D) (ci := 6) (v := .ref o1) (C := RX6) (T := TX6) (N := 24) hx hb hts in_X6 hown hK (hR hS) 0 rfl rfl 1 (by decide) hf_7 (fun _ h9 => h9) rfl dX6_worthOf_113 ?_
              refine lv_iload_n hx hb dX6_worthOf_116 rfl (lv_at hl 2 rfl) ?_
              refine ia_n (f := tx_nf kd) hx hb hK (hR hS) 1 0 rfl rfl (j := t) rfl (by omega) (by decide) dX6_worthOf_117 ?_
              refine tp_i (y := nI (kd t)) rfl ?_
              refine lv_iconst (v := 4) hx hb dX6_worthOf_118 (by decide) ?_
              refine bn_ne (a := kd t) (b := 4) (tgt := 128) hx hb rfl rfl (by omega) (by decide) dX6_worthOf_119 (by decide) (fun c119 => ?_) (fun c119 => ?_)
              · refine lv_iload_n hx hb dX6_worthOf_128 rfl (lv_at hl 0 rfl) ?_
                exact rt_i hx hb hr hlocks () (by rw [show tx_vl kd wo ha we t k = (((wo t) + (ha t) : Nat) : Int) from by unfold tx_vl tx_wv; (repeat' split) <;> omega]; first | rfl | exact nI_iI _) hP hD hS dX6_worthOf_129
              · refine lv_iconst (v := 2) hx hb dX6_worthOf_122 (by decide) ?_
                refine lv_iload_n hx hb dX6_worthOf_123 rfl (lv_at hl 0 rfl) ?_
                refine lv_imul hx hb dX6_worthOf_124 ?_
                refine tp_i (pk_mul 2 ((wo t) + (ha t))) ?_
                refine lv_goto (tgt := 129) hx hb dX6_worthOf_125 (by decide) ?_
                exact rt_i hx hb hr hlocks () (by rw [show tx_vl kd wo ha we t k = ((2 * ((wo t) + (ha t)) : Nat) : Int) from by unfold tx_vl tx_wv; (repeat' split) <;> omega]; first | rfl | exact nI_iI _) hP hD hS dX6_worthOf_129
            · refine lv_iload_n hx hb dX6_worthOf_103 rfl (lv_at hl 0 rfl) ?_
              refine lv_aload_n hx hb dX6_worthOf_104 rfl (lv_at hl 1 rfl) ?_
              refine va_get (D := D) (ci := 6) (v := .ref o4) (C := RX6) (T := TX6) (N := 24) hx hb hts in_X6 hown hK (hR hS) 0 rfl rfl 4 (by decide) hf_19 (fun _ h9 => h9) rfl dX6_worthOf_105 ?_
              refine lv_iload_n hx hb dX6_worthOf_108 rfl (lv_at hl 2 rfl) ?_
              refine ia_n (f := tx_nf we) hx hb hK (hR hS) 4 0 rfl rfl (j := t) rfl (by omega) (by decide) dX6_worthOf_109 ?_
              refine tp_i (y := nI (we t)) rfl ?_
              refine lv_isub hx hb dX6_worthOf_110 ?_
              refine tp_i (sub_iI (a := (((wo t) + (ha t) : Nat) : Int)) (b := ((we t : Nat) : Int)) (nI_iI _) (nI_iI _)) ?_
              refine lv_istore_n (lv' := [(3, .int (iI ((((wo t) + (ha t) : Nat) : Int) - ((we t : Nat) : Int)))), (0, .ref o), (1, .int (nI t)), (2, .int (nI k))]) hx hb dX6_worthOf_111 rfl hl (by decide) rfl (fun ls hl => ?_)
              refine lv_aload_n hx hb dX6_worthOf_112 rfl (lv_at hl 1 rfl) ?_
              refine va_get (D := D) (ci := 6) (v := .ref o1) (C := RX6) (T := TX6) (N := 24) hx hb hts in_X6 hown hK (hR hS) 0 rfl rfl 1 (by decide) hf_7 (fun _ h9 => h9) rfl dX6_worthOf_113 ?_
              refine lv_iload_n hx hb dX6_worthOf_116 rfl (lv_at hl 2 rfl) ?_
              refine ia_n (f := tx_nf kd) hx hb hK (hR hS) 1 0 rfl rfl (j := t) rfl (by omega) (by decide) dX6_worthOf_117 ?_
              refine tp_i (y := nI (kd t)) rfl ?_
              refine lv_iconst (v := 4) hx hb dX6_worthOf_118 (by decide) ?_
              refine bn_ne (a := kd t) (b := 4) (tgt := 128) hx hb rfl rfl (by omega) (by decide) dX6_worthOf_119 (by decide) (fun c119 => ?_) (fun c119 => ?_)
              · refine lv_iload_n hx hb dX6_worthOf_128 rfl (lv_at hl 0 rfl) ?_
                exact rt_i hx hb hr hlocks () (by rw [show tx_vl kd wo ha we t k = (((wo t) + (ha t) : Nat) : Int) - ((we t : Nat) : Int) from by unfold tx_vl tx_wv; (repeat' split) <;> omega]) hP hD hS dX6_worthOf_129
              · refine lv_iconst (v := 2) hx hb dX6_worthOf_122 (by decide) ?_
                refine lv_iload_n hx hb dX6_worthOf_123 rfl (lv_at hl 0 rfl) ?_
                refine lv_imul hx hb dX6_worthOf_124 ?_
                refine tp_i (mul_iI (a := 2) (b := (((wo t) + (ha t) : Nat) : Int) - ((we t : Nat) : Int)) (by decide) rfl) ?_
                refine lv_goto (tgt := 129) hx hb dX6_worthOf_125 (by decide) ?_
                exact rt_i hx hb hr hlocks () (by rw [show tx_vl kd wo ha we t k = 2 * ((((wo t) + (ha t) : Nat) : Int) - ((we t : Nat) : Int)) from by unfold tx_vl tx_wv; (repeat' split) <;> omega]) hP hD hS dX6_worthOf_129
          · refine lv_iconst (v := 3) hx hb dX6_worthOf_94 (by decide) ?_
            refine lv_goto (tgt := 100) hx hb dX6_worthOf_95 (by decide) ?_
            refine bn_le (a := k) (b := 3) (tgt := 112) hx hb rfl rfl (by omega) (by decide) dX6_worthOf_100 (by decide) (fun c100 => ?_) (fun c100 => ?_)
            · refine lv_aload_n hx hb dX6_worthOf_112 rfl (lv_at hl 1 rfl) ?_
              refine va_get (D := D) (ci := 6) (v := .ref o1) (C := RX6) (T := TX6) (N := 24) hx hb hts in_X6 hown hK (hR hS) 0 rfl rfl 1 (by decide) hf_7 (fun _ h9 => h9) rfl dX6_worthOf_113 ?_
              refine lv_iload_n hx hb dX6_worthOf_116 rfl (lv_at hl 2 rfl) ?_
              refine ia_n (f := tx_nf kd) hx hb hK (hR hS) 1 0 rfl rfl (j := t) rfl (by omega) (by decide) dX6_worthOf_117 ?_
              refine tp_i (y := nI (kd t)) rfl ?_
              refine lv_iconst (v := 4) hx hb dX6_worthOf_118 (by decide) ?_
              refine bn_ne (a := kd t) (b := 4) (tgt := 128) hx hb rfl rfl (by omega) (by decide) dX6_worthOf_119 (by decide) (fun c119 => ?_) (fun c119 => ?_)
              · refine lv_iload_n hx hb dX6_worthOf_128 rfl (lv_at hl 0 rfl) ?_
                exact rt_i hx hb hr hlocks () (by rw [show tx_vl kd wo ha we t k = (((wo t) + (ha t) : Nat) : Int) from by unfold tx_vl tx_wv; (repeat' split) <;> omega]; first | rfl | exact nI_iI _) hP hD hS dX6_worthOf_129
              · refine lv_iconst (v := 2) hx hb dX6_worthOf_122 (by decide) ?_
                refine lv_iload_n hx hb dX6_worthOf_123 rfl (lv_at hl 0 rfl) ?_
                refine lv_imul hx hb dX6_worthOf_124 ?_
                refine tp_i (pk_mul 2 ((wo t) + (ha t))) ?_
                refine lv_goto (tgt := 129) hx hb dX6_worthOf_125 (by decide) ?_
                exact rt_i hx hb hr hlocks () (by rw [show tx_vl kd wo ha we t k = ((2 * ((wo t) + (ha t)) : Nat) : Int) from by unfold tx_vl tx_wv; (repeat' split) <;> omega]; first | rfl | exact nI_iI _) hP hD hS dX6_worthOf_129
            · refine lv_iload_n hx hb dX6_worthOf_103 rfl (lv_at hl 0 rfl) ?_
              refine lv_aload_n hx hb dX6_worthOf_104 rfl (lv_at hl 1 rfl) ?_
              refine va_get (D := D) (ci := 6) (v := .ref o4) (C := RX6) (T := TX6) (N := 24) hx hb hts in_X6 hown hK (hR hS) 0 rfl rfl 4 (by decide) hf_19 (fun _ h9 => h9) rfl dX6_worthOf_105 ?_
              refine lv_iload_n hx hb dX6_worthOf_108 rfl (lv_at hl 2 rfl) ?_
              refine ia_n (f := tx_nf we) hx hb hK (hR hS) 4 0 rfl rfl (j := t) rfl (by omega) (by decide) dX6_worthOf_109 ?_
              refine tp_i (y := nI (we t)) rfl ?_
              refine lv_isub hx hb dX6_worthOf_110 ?_
              refine tp_i (sub_iI (a := (((wo t) + (ha t) : Nat) : Int)) (b := ((we t : Nat) : Int)) (nI_iI _) (nI_iI _)) ?_
              refine lv_istore_n (lv' := [(3, .int (iI ((((wo t) + (ha t) : Nat) : Int) - ((we t : Nat) : Int)))), (0, .ref o), (1, .int (nI t)), (2, .int (nI k))]) hx hb dX6_worthOf_111 rfl hl (by decide) rfl (fun ls hl => ?_)
              refine lv_aload_n hx hb dX6_worthOf_112 rfl (lv_at hl 1 rfl) ?_
              refine va_get (D := D) (ci := 6) (v := .ref o1) (C := RX6) (T := TX6) (N := 24) hx hb hts in_X6 hown hK (hR hS) 0 rfl rfl 1 (by decide) hf_7 (fun _ h9 => h9) rfl dX6_worthOf_113 ?_
              refine lv_iload_n hx hb dX6_worthOf_116 rfl (lv_at hl 2 rfl) ?_
              refine ia_n (f := tx_nf kd) hx hb hK (hR hS) 1 0 rfl rfl (j := t) rfl (by omega) (by decide) dX6_worthOf_117 ?_
              refine tp_i (y := nI (kd t)) rfl ?_
              refine lv_iconst (v := 4) hx hb dX6_worthOf_118 (by decide) ?_
              refine bn_ne (a := kd t) (b := 4) (tgt := 128) hx hb rfl rfl (by omega) (by decide) dX6_worthOf_119 (by decide) (fun c119 => ?_) (fun c119 => ?_)
              · refine lv_iload_n hx hb dX6_worthOf_128 rfl (lv_at hl 0 rfl) ?_
                exact rt_i hx hb hr hlocks () (by rw [show tx_vl kd wo ha we t k = (((wo t) + (ha t) : Nat) : Int) - ((we t : Nat) : Int) from by unfold tx_vl tx_wv; (repeat' split) <;> omega]) hP hD hS dX6_worthOf_129
              · refine lv_iconst (v := 2) hx hb dX6_worthOf_122 (by decide) ?_
                refine lv_iload_n hx hb dX6_worthOf_123 rfl (lv_at hl 0 rfl) ?_
                refine lv_imul hx hb dX6_worthOf_124 ?_
                refine tp_i (mul_iI (a := 2) (b := (((wo t) + (ha t) : Nat) : Int) - ((we t : Nat) : Int)) (by decide) rfl) ?_
                refine lv_goto (tgt := 129) hx hb dX6_worthOf_125 (by decide) ?_
                exact rt_i hx hb hr hlocks () (by rw [show tx_vl kd wo ha we t k = 2 * ((((wo t) + (ha t) : Nat) : Int) - ((we t : Nat) : Int)) from by unfold tx_vl tx_wv; (repeat' split) <;> omega]) hP hD hS dX6_worthOf_129
      · refine lv_aload_n hx hb dX6_worthOf_56 rfl (lv_at hl 1 rfl) ?_
        refine va_get (D := D) (ci := 6) (v := .ref o1) (C := RX6) (T := TX6) (N := 24) hx hb hts in_X6 hown hK (hR hS) 0 rfl rfl 1 (by decide) hf_7 (fun _ h9 => h9) rfl dX6_worthOf_57 ?_
        refine lv_iload_n hx hb dX6_worthOf_60 rfl (lv_at hl 2 rfl) ?_
        refine ia_n (f := tx_nf kd) hx hb hK (hR hS) 1 0 rfl rfl (j := t) rfl (by omega) (by decide) dX6_worthOf_61 ?_
        refine tp_i (y := nI (kd t)) rfl ?_
        refine lv_iconst (v := 4) hx hb dX6_worthOf_62 (by decide) ?_
        refine bn_ne (a := kd t) (b := 4) (tgt := 70) hx hb rfl rfl (by omega) (by decide) dX6_worthOf_63 (by decide) (fun c63 => ?_) (fun c63 => ?_)
        · refine lv_iconst (v := 3) hx hb dX6_worthOf_70 (by decide) ?_
          refine bn_le (a := k) (b := 3) (tgt := 83) hx hb rfl rfl (by omega) (by decide) dX6_worthOf_71 (by decide) (fun c71 => ?_) (fun c71 => ?_)
          · refine lv_iload_n hx hb dX6_worthOf_83 rfl (lv_at hl 3 rfl) ?_
            refine lv_aload_n hx hb dX6_worthOf_84 rfl (lv_at hl 1 rfl) ?_
            refine va_get (D := D) (ci := 6) (v := .ref o1) (C := RX6) (T := TX6) (N := 24) hx hb hts in_X6 hown hK (hR hS) 0 rfl rfl 1 (by decide) hf_7 (fun _ h9 => h9) rfl dX6_worthOf_85 ?_
            refine lv_iload_n hx hb dX6_worthOf_88 rfl (lv_at hl 2 rfl) ?_
            refine ia_n (f := tx_nf kd) hx hb hK (hR hS) 1 0 rfl rfl (j := t) rfl (by omega) (by decide) dX6_worthOf_89 ?_
            refine tp_i (y := nI (kd t)) rfl ?_
            refine lv_iconst (v := 3) hx hb dX6_worthOf_90 (by decide) ?_
            refine bn_ne (a := kd t) (b := 3) (tgt := 98) hx hb rfl rfl (by omega) (by decide) dX6_worthOf_91 (by decide) (fun c91 => ?_) (fun c91 => ?_)
            · refine lv_bipush (v := 6) hx hb dX6_worthOf_98 (by decide) ?_
              refine bn_le (a := k) (b := 6) (tgt := 112) hx hb rfl rfl (by omega) (by decide) dX6_worthOf_100 (by decide) (fun c100 => ?_) (fun c100 => ?_)
              · refine lv_aload_n hx hb dX6_worthOf_112 rfl (lv_at hl 1 rfl) ?_
                refine va_get (D := D) (ci := 6) (v := .ref o1) (C := RX6) (T := TX6) (N := 24) hx hb hts in_X6 hown hK (hR hS) 0 rfl rfl 1 (by decide) hf_7 (fun _ h9 => h9) rfl dX6_worthOf_113 ?_
                refine lv_iload_n hx hb dX6_worthOf_116 rfl (lv_at hl 2 rfl) ?_
                refine ia_n (f := tx_nf kd) hx hb hK (hR hS) 1 0 rfl rfl (j := t) rfl (by omega) (by decide) dX6_worthOf_117 ?_
                refine tp_i (y := nI (kd t)) rfl ?_
                refine lv_iconst (v := 4) hx hb dX6_worthOf_118 (by decide) ?_
                refine bn_ne (a := kd t) (b := 4) (tgt := 128) hx hb rfl rfl (by omega) (by decide) dX6_worthOf_119 (by decide) (fun c119 => ?_) (fun c119 => ?_)
                · refine lv_iload_n hx hb dX6_worthOf_128 rfl (lv_at hl 0 rfl) ?_
                  exact rt_i hx hb hr hlocks () (by rw [show tx_vl kd wo ha we t k = ((wo t : Nat) : Int) from by unfold tx_vl tx_wv; (repeat' split) <;> omega]; first | rfl | exact nI_iI _) hP hD hS dX6_worthOf_129
                · refine lv_iconst (v := 2) hx hb dX6_worthOf_122 (by decide) ?_
                  refine lv_iload_n hx hb dX6_worthOf_123 rfl (lv_at hl 0 rfl) ?_
                  refine lv_imul hx hb dX6_worthOf_124 ?_
                  refine tp_i (pk_mul 2 (wo t)) ?_
                  refine lv_goto (tgt := 129) hx hb dX6_worthOf_125 (by decide) ?_
                  exact rt_i hx hb hr hlocks () (by rw [show tx_vl kd wo ha we t k = ((2 * (wo t) : Nat) : Int) from by unfold tx_vl tx_wv; (repeat' split) <;> omega]; first | rfl | exact nI_iI _) hP hD hS dX6_worthOf_129
              · refine lv_iload_n hx hb dX6_worthOf_103 rfl (lv_at hl 0 rfl) ?_
                refine lv_aload_n hx hb dX6_worthOf_104 rfl (lv_at hl 1 rfl) ?_
                refine va_get (D := D) (ci := 6) (v := .ref o4) (C := RX6) (T := TX6) (N := 24) hx hb hts in_X6 hown hK (hR hS) 0 rfl rfl 4 (by decide) hf_19 (fun _ h9 => h9) rfl dX6_worthOf_105 ?_
                refine lv_iload_n hx hb dX6_worthOf_108 rfl (lv_at hl 2 rfl) ?_
                refine ia_n (f := tx_nf we) hx hb hK (hR hS) 4 0 rfl rfl (j := t) rfl (by omega) (by decide) dX6_worthOf_109 ?_
                refine tp_i (y := nI (we t)) rfl ?_
                refine lv_isub hx hb dX6_worthOf_110 ?_
                refine tp_i (sub_iI (a := ((wo t : Nat) : Int)) (b := ((we t : Nat) : Int)) (nI_iI _) (nI_iI _)) ?_
                refine lv_istore_n (lv' := [(3, .int (iI (((wo t : Nat) : Int) - ((we t : Nat) : Int)))), (0, .ref o), (1, .int (nI t)), (2, .int (nI k))]) hx hb dX6_worthOf_111 rfl hl (by decide) rfl (fun ls hl => ?_)
                refine lv_aload_n hx hb dX6_worthOf_112 rfl (lv_at hl 1 rfl) ?_
                refine va_get (D := D) (ci := 6) (v := .ref o1) (C := RX6) (T := TX6) (N := 24) hx hb hts in_X6 hown hK (hR hS) 0 rfl rfl 1 (by decide) hf_7 (fun _ h9 => h9) rfl dX6_worthOf_113 ?_
                refine lv_iload_n hx hb dX6_worthOf_116 rfl (lv_at hl 2 rfl) ?_
                refine ia_n (f := tx_nf kd) hx hb hK (hR hS) 1 0 rfl rfl (j := t) rfl (by omega) (by decide) dX6_worthOf_117 ?_
                refine tp_i (y := nI (kd t)) rfl ?_
                refine lv_iconst (v := 4) hx hb dX6_worthOf_118 (by decide) ?_
                refine bn_ne (a := kd t) (b := 4) (tgt := 128) hx hb rfl rfl (by omega) (by decide) dX6_worthOf_119 (by decide) (fun c119 => ?_) (fun c119 => ?_)
                · refine lv_iload_n hx hb dX6_worthOf_128 rfl (lv_at hl 0 rfl) ?_
                  exact rt_i hx hb hr hlocks () (by rw [show tx_vl kd wo ha we t k = ((wo t : Nat) : Int) - ((we t : Nat) : Int) from by unfold tx_vl tx_wv; (repeat' split) <;> omega]) hP hD hS dX6_worthOf_129
                · refine lv_iconst (v := 2) hx hb dX6_worthOf_122 (by decide) ?_
                  refine lv_iload_n hx hb dX6_worthOf_123 rfl (lv_at hl 0 rfl) ?_
                  refine lv_imul hx hb dX6_worthOf_124 ?_
                  refine tp_i (mul_iI (a := 2) (b := ((wo t : Nat) : Int) - ((we t : Nat) : Int)) (by decide) rfl) ?_
                  refine lv_goto (tgt := 129) hx hb dX6_worthOf_125 (by decide) ?_
                  exact rt_i hx hb hr hlocks () (by rw [show tx_vl kd wo ha we t k = 2 * (((wo t : Nat) : Int) - ((we t : Nat) : Int)) from by unfold tx_vl tx_wv; (repeat' split) <;> omega]) hP hD hS dX6_worthOf_129
            · refine lv_iconst (v := 3) hx hb dX6_worthOf_94 (by decide) ?_
              refine lv_goto (tgt := 100) hx hb dX6_worthOf_95 (by decide) ?_
              refine bn_le (a := k) (b := 3) (tgt := 112) hx hb rfl rfl (by omega) (by decide) dX6_worthOf_100 (by decide) (fun c100 => ?_) (fun c100 => ?_)
              · refine lv_aload_n hx hb dX6_worthOf_112 rfl (lv_at hl 1 rfl) ?_
                refine va_get (D := D) (ci := 6) (v := .ref o1) (C := RX6) (T := TX6) (N := 24) hx hb hts in_X6 hown hK (hR hS) 0 rfl rfl 1 (by decide) hf_7 (fun _ h9 => h9) rfl dX6_worthOf_113 ?_
                refine lv_iload_n hx hb dX6_worthOf_116 rfl (lv_at hl 2 rfl) ?_
                refine ia_n (f := tx_nf kd) hx hb hK (hR hS) 1 0 rfl rfl (j := t) rfl (by omega) (by decide) dX6_worthOf_117 ?_
                refine tp_i (y := nI (kd t)) rfl ?_
                refine lv_iconst (v := 4) hx hb dX6_worthOf_118 (by decide) ?_
                refine bn_ne (a := kd t) (b := 4) (tgt := 128) hx hb rfl rfl (by omega) (by decide) dX6_worthOf_119 (by decide) (fun c119 => ?_) (fun c119 => ?_)
                · refine lv_iload_n hx hb dX6_worthOf_128 rfl (lv_at hl 0 rfl) ?_
                  exact rt_i hx hb hr hlocks () (by rw [show tx_vl kd wo ha we t k = ((wo t : Nat) : Int) from by unfold tx_vl tx_wv; (repeat' split) <;> omega]; first | rfl | exact nI_iI _) hP hD hS dX6_worthOf_129
                · refine lv_iconst (v := 2) hx hb dX6_worthOf_122 (by decide) ?_
                  refine lv_iload_n hx hb dX6_worthOf_123 rfl (lv_at hl 0 rfl) ?_
                  refine lv_imul hx hb dX6_worthOf_124 ?_
                  refine tp_i (pk_mul 2 (wo t)) ?_
                  refine lv_goto (tgt := 129) hx hb dX6_worthOf_125 (by decide) ?_
                  exact rt_i hx hb hr hlocks () (by rw [show tx_vl kd wo ha we t k = ((2 * (wo t) : Nat) : Int) from by unfold tx_vl tx_wv; (repeat' split) <;> omega]; first | rfl | exact nI_iI _) hP hD hS dX6_worthOf_129
              · refine lv_iload_n hx hb dX6_worthOf_103 rfl (lv_at hl 0 rfl) ?_
                refine lv_aload_n hx hb dX6_worthOf_104 rfl (lv_at hl 1 rfl) ?_
                refine va_get (D := D) (ci := 6) (v := .ref o4) (C := RX6) (T := TX6) (N := 24) hx hb hts in_X6 hown hK (hR hS) 0 rfl rfl 4 (by decide) hf_19 (fun _ h9 => h9) rfl dX6_worthOf_105 ?_
                refine lv_iload_n hx hb dX6_worthOf_108 rfl (lv_at hl 2 rfl) ?_
                refine ia_n (f := tx_nf we) hx hb hK (hR hS) 4 0 rfl rfl (j := t) rfl (by omega) (by decide) dX6_worthOf_109 ?_
                refine tp_i (y := nI (we t)) rfl ?_
                refine lv_isub hx hb dX6_worthOf_110 ?_
                refine tp_i (sub_iI (a := ((wo t : Nat) : Int)) (b := ((we t : Nat) : Int)) (nI_iI _) (nI_iI _)) ?_
                refine lv_istore_n (lv' := [(3, .int (iI (((wo t : Nat) : Int) - ((we t : Nat) : Int)))), (0, .ref o), (1, .int (nI t)), (2, .int (nI k))]) hx hb dX6_worthOf_111 rfl hl (by decide) rfl (fun ls hl => ?_)
                refine lv_aload_n hx hb dX6_worthOf_112 rfl (lv_at hl 1 rfl) ?_
                refine va_get (D := D) (ci := 6) (v := .ref o1) (C := RX6) (T := TX6) (N := 24) hx hb hts in_X6 hown hK (hR hS) 0 rfl rfl 1 (by decide) hf_7 (fun _ h9 => h9) rfl dX6_worthOf_113 ?_
                refine lv_iload_n hx hb dX6_worthOf_116 rfl (lv_at hl 2 rfl) ?_
                refine ia_n (f := tx_nf kd) hx hb hK (hR hS) 1 0 rfl rfl (j := t) rfl (by omega) (by decide) dX6_worthOf_117 ?_
                refine tp_i (y := nI (kd t)) rfl ?_
                refine lv_iconst (v := 4) hx hb dX6_worthOf_118 (by decide) ?_
                refine bn_ne (a := kd t) (b := 4) (tgt := 128) hx hb rfl rfl (by omega) (by decide) dX6_worthOf_119 (by decide) (fun c119 => ?_) (fun c119 => ?_)
                · refine lv_iload_n hx hb dX6_worthOf_128 rfl (lv_at hl 0 rfl) ?_
                  exact rt_i hx hb hr hlocks () (by rw [show tx_vl kd wo ha we t k = ((wo t : Nat) : Int) - ((we t : Nat) : Int) from by unfold tx_vl tx_wv; (repeat' split) <;> omega]) hP hD hS dX6_worthOf_129
                · refine lv_iconst (v := 2) hx hb dX6_worthOf_122 (by decide) ?_
                  refine lv_iload_n hx hb dX6_worthOf_123 rfl (lv_at hl 0 rfl) ?_
                  refine lv_imul hx hb dX6_worthOf_124 ?_
                  refine tp_i (mul_iI (a := 2) (b := ((wo t : Nat) : Int) - ((we t : Nat) : Int)) (by decide) rfl) ?_
                  refine lv_goto (tgt := 129) hx hb dX6_worthOf_125 (by decide) ?_
                  exact rt_i hx hb hr hlocks () (by rw [show tx_vl kd wo ha we t k = 2 * (((wo t : Nat) : Int) - ((we t : Nat) : Int)) from by unfold tx_vl tx_wv; (repeat' split) <;> omega]) hP hD hS dX6_worthOf_129
          · refine lv_iload_n hx hb dX6_worthOf_74 rfl (lv_at hl 0 rfl) ?_
            refine lv_aload_n hx hb dX6_worthOf_75 rfl (lv_at hl 1 rfl) ?_
            refine va_get (D := D) (ci := 6) (v := .ref o3) (C := RX6) (T := TX6) (N := 24) hx hb hts in_X6 hown hK (hR hS) 0 rfl rfl 3 (by decide) hf_16 (fun _ h9 => h9) rfl dX6_worthOf_76 ?_
            refine lv_iload_n hx hb dX6_worthOf_79 rfl (lv_at hl 2 rfl) ?_
            refine ia_n (f := tx_nf ha) hx hb hK (hR hS) 3 0 rfl rfl (j := t) rfl (by omega) (by decide) dX6_worthOf_80 ?_
            refine tp_i (y := nI (ha t)) rfl ?_
            refine lv_iadd hx hb dX6_worthOf_81 ?_
            refine tp_i (nI_add (wo t) (ha t)) ?_
            refine lv_istore_n (lv' := [(3, .int (nI ((wo t) + (ha t)))), (0, .ref o), (1, .int (nI t)), (2, .int (nI k))]) hx hb dX6_worthOf_82 rfl hl (by decide) rfl (fun ls hl => ?_)
            refine lv_iload_n hx hb dX6_worthOf_83 rfl (lv_at hl 3 rfl) ?_
            refine lv_aload_n hx hb dX6_worthOf_84 rfl (lv_at hl 1 rfl) ?_
            refine va_get (D := D) (ci := 6) (v := .ref o1) (C := RX6) (T := TX6) (N := 24) hx hb hts in_X6 hown hK (hR hS) 0 rfl rfl 1 (by decide) hf_7 (fun _ h9 => h9) rfl dX6_worthOf_85 ?_
            refine lv_iload_n hx hb dX6_worthOf_88 rfl (lv_at hl 2 rfl) ?_
            refine ia_n (f := tx_nf kd) hx hb hK (hR hS) 1 0 rfl rfl (j := t) rfl (by omega) (by decide) dX6_worthOf_89 ?_
            refine tp_i (y := nI (kd t)) rfl ?_
            refine lv_iconst (v := 3) hx hb dX6_worthOf_90 (by decide) ?_
            refine bn_ne (a := kd t) (b := 3) (tgt := 98) hx hb rfl rfl (by omega) (by decide) dX6_worthOf_91 (by decide) (fun c91 => ?_) (fun c91 => ?_)
            · refine lv_bipush (v := 6) hx hb dX6_worthOf_98 (by decide) ?_
              refine bn_le (a := k) (b := 6) (tgt := 112) hx hb rfl rfl (by omega) (by decide) dX6_worthOf_100 (by decide) (fun c100 => ?_) (fun c100 => ?_)
              · refine lv_aload_n hx hb dX6_worthOf_112 rfl (lv_at hl 1 rfl) ?_
                refine va_get (D := D) (ci := 6) (v := .ref o1) (C := RX6) (T := TX6) (N := 24) hx hb hts in_X6 hown hK (hR hS) 0 rfl rfl 1 (by decide) hf_7 (fun _ h9 => h9) rfl dX6_worthOf_113 ?_
                refine lv_iload_n hx hb dX6_worthOf_116 rfl (lv_at hl 2 rfl) ?_
                refine ia_n (f := tx_nf kd) hx hb hK (hR hS) 1 0 rfl rfl (j := t) rfl (by omega) (by decide) dX6_worthOf_117 ?_
                refine tp_i (y := nI (kd t)) rfl ?_
                refine lv_iconst (v := 4) hx hb dX6_worthOf_118 (by decide) ?_
                refine bn_ne (a := kd t) (b := 4) (tgt := 128) hx hb rfl rfl (by omega) (by decide) dX6_worthOf_119 (by decide) (fun c119 => ?_) (fun c119 => ?_)
                · refine lv_iload_n hx hb dX6_worthOf_128 rfl (lv_at hl 0 rfl) ?_
                  exact rt_i hx hb hr hlocks () (by rw [show tx_vl kd wo ha we t k = (((wo t) + (ha t) : Nat) : Int) from by unfold tx_vl tx_wv; (repeat' split) <;> omega]; first | rfl | exact nI_iI _) hP hD hS dX6_worthOf_129
                · refine lv_iconst (v := 2) hx hb dX6_worthOf_122 (by decide) ?_
                  refine lv_iload_n hx hb dX6_worthOf_123 rfl (lv_at hl 0 rfl) ?_
                  refine lv_imul hx hb dX6_worthOf_124 ?_
                  refine tp_i (pk_mul 2 ((wo t) + (ha t))) ?_
                  refine lv_goto (tgt := 129) hx hb dX6_worthOf_125 (by decide) ?_
                  exact rt_i hx hb hr hlocks () (by rw [show tx_vl kd wo ha we t k = ((2 * ((wo t) + (ha t)) : Nat) : Int) from by unfold tx_vl tx_wv; (repeat' split) <;> omega]; first | rfl | exact nI_iI _) hP hD hS dX6_worthOf_129
              · refine lv_iload_n hx hb dX6_worthOf_103 rfl (lv_at hl 0 rfl) ?_
                refine lv_aload_n hx hb dX6_worthOf_104 rfl (lv_at hl 1 rfl) ?_
                refine va_get (D := D) (ci := 6) (v := .ref o4) (C := RX6) (T := TX6) (N := 24) hx hb hts in_X6 hown hK (hR hS) 0 rfl rfl 4 (by decide) hf_19 (fun _ h9 => h9) rfl dX6_worthOf_105 ?_
                refine lv_iload_n hx hb dX6_worthOf_108 rfl (lv_at hl 2 rfl) ?_
                refine ia_n (f := tx_nf we) hx hb hK (hR hS) 4 0 rfl rfl (j := t) rfl (by omega) (by decide) dX6_worthOf_109 ?_
                refine tp_i (y := nI (we t)) rfl ?_
                refine lv_isub hx hb dX6_worthOf_110 ?_
                refine tp_i (sub_iI (a := (((wo t) + (ha t) : Nat) : Int)) (b := ((we t : Nat) : Int)) (nI_iI _) (nI_iI _)) ?_
                refine lv_istore_n (lv' := [(3, .int (iI ((((wo t) + (ha t) : Nat) : Int) - ((we t : Nat) : Int)))), (0, .ref o), (1, .int (nI t)), (2, .int (nI k))]) hx hb dX6_worthOf_111 rfl hl (by decide) rfl (fun ls hl => ?_)
                refine lv_aload_n hx hb dX6_worthOf_112 rfl (lv_at hl 1 rfl) ?_
                refine va_get (D := D) (ci := 6) (v := .ref o1) (C := RX6) (T := TX6) (N := 24) hx hb hts in_X6 hown hK (hR hS) 0 rfl rfl 1 (by decide) hf_7 (fun _ h9 => h9) rfl dX6_worthOf_113 ?_
                refine lv_iload_n hx hb dX6_worthOf_116 rfl (lv_at hl 2 rfl) ?_
                refine ia_n (f := tx_nf kd) hx hb hK (hR hS) 1 0 rfl rfl (j := t) rfl (by omega) (by decide) dX6_worthOf_117 ?_
                refine tp_i (y := nI (kd t)) rfl ?_
                refine lv_iconst (v := 4) hx hb dX6_worthOf_118 (by decide) ?_
                refine bn_ne (a := kd t) (b := 4) (tgt := 128) hx hb rfl rfl (by omega) (by decide) dX6_worthOf_119 (by decide) (fun c119 => ?_) (fun c119 => ?_)
                · refine lv_iload_n hx hb dX6_worthOf_128 rfl (lv_at hl 0 rfl) ?_
                  exact rt_i hx hb hr hlocks () (by rw [show tx_vl kd wo ha we t k = (((wo t) + (ha t) : Nat) : Int) - ((we t : Nat) : Int) from by unfold tx_vl tx_wv; (repeat' split) <;> omega]) hP hD hS dX6_worthOf_129
                · refine lv_iconst (v := 2) hx hb dX6_worthOf_122 (by decide) ?_
                  refine lv_iload_n hx hb dX6_worthOf_123 rfl (lv_at hl 0 rfl) ?_
                  refine lv_imul hx hb dX6_worthOf_124 ?_
                  refine tp_i (mul_iI (a := 2) (b := (((wo t) + (ha t) : Nat) : Int) - ((we t : Nat) : Int)) (by decide) rfl) ?_
                  refine lv_goto (tgt := 129) hx hb dX6_worthOf_125 (by decide) ?_
                  exact rt_i hx hb hr hlocks () (by rw [show tx_vl kd wo ha we t k = 2 * ((((wo t) + (ha t) : Nat) : Int) - ((we t : Nat) : Int)) from by unfold tx_vl tx_wv; (repeat' split) <;> omega]) hP hD hS dX6_worthOf_129
            · refine lv_iconst (v := 3) hx hb dX6_worthOf_94 (by decide) ?_
              refine lv_goto (tgt := 100) hx hb dX6_worthOf_95 (by decide) ?_
              refine bn_le (a := k) (b := 3) (tgt := 112) hx hb rfl rfl (by omega) (by decide) dX6_worthOf_100 (by decide) (fun c100 => ?_) (fun c100 => ?_)
              · refine lv_aload_n hx hb dX6_worthOf_112 rfl (lv_at hl 1 rfl) ?_
                refine va_get (D := D) (ci := 6) (v := .ref o1) (C := RX6) (T := TX6) (N := 24) hx hb hts in_X6 hown hK (hR hS) 0 rfl rfl 1 (by decide) hf_7 (fun _ h9 => h9) rfl dX6_worthOf_113 ?_
                refine lv_iload_n hx hb dX6_worthOf_116 rfl (lv_at hl 2 rfl) ?_
                refine ia_n (f := tx_nf kd) hx hb hK (hR hS) 1 0 rfl rfl (j := t) rfl (by omega) (by decide) dX6_worthOf_117 ?_
                refine tp_i (y := nI (kd t)) rfl ?_
                refine lv_iconst (v := 4) hx hb dX6_worthOf_118 (by decide) ?_
                refine bn_ne (a := kd t) (b := 4) (tgt := 128) hx hb rfl rfl (by omega) (by decide) dX6_worthOf_119 (by decide) (fun c119 => ?_) (fun c119 => ?_)
                · refine lv_iload_n hx hb dX6_worthOf_128 rfl (lv_at hl 0 rfl) ?_
                  exact rt_i hx hb hr hlocks () (by rw [show tx_vl kd wo ha we t k = (((wo t) + (ha t) : Nat) : Int) from by unfold tx_vl tx_wv; (repeat' split) <;> omega]; first | rfl | exact nI_iI _) hP hD hS dX6_worthOf_129
                · refine lv_iconst (v := 2) hx hb dX6_worthOf_122 (by decide) ?_
                  refine lv_iload_n hx hb dX6_worthOf_123 rfl (lv_at hl 0 rfl) ?_
                  refine lv_imul hx hb dX6_worthOf_124 ?_
                  refine tp_i (pk_mul 2 ((wo t) + (ha t))) ?_
                  refine lv_goto (tgt := 129) hx hb dX6_worthOf_125 (by decide) ?_
                  exact rt_i hx hb hr hlocks () (by rw [show tx_vl kd wo ha we t k = ((2 * ((wo t) + (ha t)) : Nat) : Int) from by unfold tx_vl tx_wv; (repeat' split) <;> omega]; first | rfl | exact nI_iI _) hP hD hS dX6_worthOf_129
              · refine lv_iload_n hx hb dX6_worthOf_103 rfl (lv_at hl 0 rfl) ?_
                refine lv_aload_n hx hb dX6_worthOf_104 rfl (lv_at hl 1 rfl) ?_
                refine va_get (D := D) (ci := 6) (v := .ref o4) (C := RX6) (T := TX6) (N := 24) hx hb hts in_X6 hown hK (hR hS) 0 rfl rfl 4 (by decide) hf_19 (fun _ h9 => h9) rfl dX6_worthOf_105 ?_
                refine lv_iload_n hx hb dX6_worthOf_108 rfl (lv_at hl 2 rfl) ?_
                refine ia_n (f := tx_nf we) hx hb hK (hR hS) 4 0 rfl rfl (j := t) rfl (by omega) (by decide) dX6_worthOf_109 ?_
                refine tp_i (y := nI (we t)) rfl ?_
                refine lv_isub hx hb dX6_worthOf_110 ?_
                refine tp_i (sub_iI (a := (((wo t) + (ha t) : Nat) : Int)) (b := ((we t : Nat) : Int)) (nI_iI _) (nI_iI _)) ?_
                refine lv_istore_n (lv' := [(3, .int (iI ((((wo t) + (ha t) : Nat) : Int) - ((we t : Nat) : Int)))), (0, .ref o), (1, .int (nI t)), (2, .int (nI k))]) hx hb dX6_worthOf_111 rfl hl (by decide) rfl (fun ls hl => ?_)
                refine lv_aload_n hx hb dX6_worthOf_112 rfl (lv_at hl 1 rfl) ?_
                refine va_get (D := D) (ci := 6) (v := .ref o1) (C := RX6) (T := TX6) (N := 24) hx hb hts in_X6 hown hK (hR hS) 0 rfl rfl 1 (by decide) hf_7 (fun _ h9 => h9) rfl dX6_worthOf_113 ?_
                refine lv_iload_n hx hb dX6_worthOf_116 rfl (lv_at hl 2 rfl) ?_
                refine ia_n (f := tx_nf kd) hx hb hK (hR hS) 1 0 rfl rfl (j := t) rfl (by omega) (by decide) dX6_worthOf_117 ?_
                refine tp_i (y := nI (kd t)) rfl ?_
                refine lv_iconst (v := 4) hx hb dX6_worthOf_118 (by decide) ?_
                refine bn_ne (a := kd t) (b := 4) (tgt := 128) hx hb rfl rfl (by omega) (by decide) dX6_worthOf_119 (by decide) (fun c119 => ?_) (fun c119 => ?_)
                · refine lv_iload_n hx hb dX6_worthOf_128 rfl (lv_at hl 0 rfl) ?_
                  exact rt_i hx hb hr hlocks () (by rw [show tx_vl kd wo ha we t k = (((wo t) + (ha t) : Nat) : Int) - ((we t : Nat) : Int) from by unfold tx_vl tx_wv; (repeat' split) <;> omega]) hP hD hS dX6_worthOf_129
                · refine lv_iconst (v := 2) hx hb dX6_worthOf_122 (by decide) ?_
                  refine lv_iload_n hx hb dX6_worthOf_123 rfl (lv_at hl 0 rfl) ?_
                  refine lv_imul hx hb dX6_worthOf_124 ?_
                  refine tp_i (mul_iI (a := 2) (b := (((wo t) + (ha t) : Nat) : Int) - ((we t : Nat) : Int)) (by decide) rfl) ?_
                  refine lv_goto (tgt := 129) hx hb dX6_worthOf_125 (by decide) ?_
                  exact rt_i hx hb hr hlocks () (by rw [show tx_vl kd wo ha we t k = 2 * ((((wo t) + (ha t) : Nat) : Int) - ((we t : Nat) : Int)) from by unfold tx_vl tx_wv; (repeat' split) <;> omega]) hP hD hS dX6_worthOf_129
        · refine lv_iconst (v := 1) hx hb dX6_worthOf_66 (by decide) ?_
          refine lv_goto (tgt := 71) hx hb dX6_worthOf_67 (by decide) ?_
          refine bn_le (a := k) (b := 1) (tgt := 83) hx hb rfl rfl (by omega) (by decide) dX6_worthOf_71 (by decide) (fun c71 => ?_) (fun c71 => ?_)
          · refine lv_iload_n hx hb dX6_worthOf_83 rfl (lv_at hl 3 rfl) ?_
            refine lv_aload_n hx hb dX6_worthOf_84 rfl (lv_at hl 1 rfl) ?_
            refine va_get (D := D) (ci := 6) (v := .ref o1) (C := RX6) (T := TX6) (N := 24) hx hb hts in_X6 hown hK (hR hS) 0 rfl rfl 1 (by decide) hf_7 (fun _ h9 => h9) rfl dX6_worthOf_85 ?_
            refine lv_iload_n hx hb dX6_worthOf_88 rfl (lv_at hl 2 rfl) ?_
            refine ia_n (f := tx_nf kd) hx hb hK (hR hS) 1 0 rfl rfl (j := t) rfl (by omega) (by decide) dX6_worthOf_89 ?_
            refine tp_i (y := nI (kd t)) rfl ?_
            refine lv_iconst (v := 3) hx hb dX6_worthOf_90 (by decide) ?_
            refine bn_ne (a := kd t) (b := 3) (tgt := 98) hx hb rfl rfl (by omega) (by decide) dX6_worthOf_91 (by decide) (fun c91 => ?_) (fun c91 => ?_)
            · refine lv_bipush (v := 6) hx hb dX6_worthOf_98 (by decide) ?_
              refine bn_le (a := k) (b := 6) (tgt := 112) hx hb rfl rfl (by omega) (by decide) dX6_worthOf_100 (by decide) (fun c100 => ?_) (fun c100 => ?_)
              · refine lv_aload_n hx hb dX6_worthOf_112 rfl (lv_at hl 1 rfl) ?_
                refine va_get (D := D) (ci := 6) (v := .ref o1) (C := RX6) (T := TX6) (N := 24) hx hb hts in_X6 hown hK (hR hS) 0 rfl rfl 1 (by decide) hf_7 (fun _ h9 => h9) rfl dX6_worthOf_113 ?_
                refine lv_iload_n hx hb dX6_worthOf_116 rfl (lv_at hl 2 rfl) ?_
                refine ia_n (f := tx_nf kd) hx hb hK (hR hS) 1 0 rfl rfl (j := t) rfl (by omega) (by decide) dX6_worthOf_117 ?_
                refine tp_i (y := nI (kd t)) rfl ?_
                refine lv_iconst (v := 4) hx hb dX6_worthOf_118 (by decide) ?_
                refine bn_ne (a := kd t) (b := 4) (tgt := 128) hx hb rfl rfl (by omega) (by decide) dX6_worthOf_119 (by decide) (fun c119 => ?_) (fun c119 => ?_)
                · refine lv_iload_n hx hb dX6_worthOf_128 rfl (lv_at hl 0 rfl) ?_
                  exact rt_i hx hb hr hlocks () (by rw [show tx_vl kd wo ha we t k = ((wo t : Nat) : Int) from by unfold tx_vl tx_wv; (repeat' split) <;> omega]; first | rfl | exact nI_iI _) hP hD hS dX6_worthOf_129
                · refine lv_iconst (v := 2) hx hb dX6_worthOf_122 (by decide) ?_
                  refine lv_iload_n hx hb dX6_worthOf_123 rfl (lv_at hl 0 rfl) ?_
                  refine lv_imul hx hb dX6_worthOf_124 ?_
                  refine tp_i (pk_mul 2 (wo t)) ?_
                  refine lv_goto (tgt := 129) hx hb dX6_worthOf_125 (by decide) ?_
                  exact rt_i hx hb hr hlocks () (by rw [show tx_vl kd wo ha we t k = ((2 * (wo t) : Nat) : Int) from by unfold tx_vl tx_wv; (repeat' split) <;> omega]; first | rfl | exact nI_iI _) hP hD hS dX6_worthOf_129
              · refine lv_iload_n hx hb dX6_worthOf_103 rfl (lv_at hl 0 rfl) ?_
                refine lv_aload_n hx hb dX6_worthOf_104 rfl (lv_at hl 1 rfl) ?_
                refine va_get (D := D) (ci := 6) (v := .ref o4) (C := RX6) (T := TX6) (N := 24) hx hb hts in_X6 hown hK (hR hS) 0 rfl rfl 4 (by decide) hf_19 (fun _ h9 => h9) rfl dX6_worthOf_105 ?_
                refine lv_iload_n hx hb dX6_worthOf_108 rfl (lv_at hl 2 rfl) ?_
                refine ia_n (f := tx_nf we) hx hb hK (hR hS) 4 0 rfl rfl (j := t) rfl (by omega) (by decide) dX6_worthOf_109 ?_
                refine tp_i (y := nI (we t)) rfl ?_
                refine lv_isub hx hb dX6_worthOf_110 ?_
                refine tp_i (sub_iI (a := ((wo t : Nat) : Int)) (b := ((we t : Nat) : Int)) (nI_iI _) (nI_iI _)) ?_
                refine lv_istore_n (lv' := [(3, .int (iI (((wo t : Nat) : Int) - ((we t : Nat) : Int)))), (0, .ref o), (1, .int (nI t)), (2, .int (nI k))]) hx hb dX6_worthOf_111 rfl hl (by decide) rfl (fun ls hl => ?_)
                refine lv_aload_n hx hb dX6_worthOf_112 rfl (lv_at hl 1 rfl) ?_
                refine va_get (D := D) (ci := 6) (v := .ref o1) (C := RX6) (T := TX6) (N := 24) hx hb hts in_X6 hown hK (hR hS) 0 rfl rfl 1 (by decide) hf_7 (fun _ h9 => h9) rfl dX6_worthOf_113 ?_
                refine lv_iload_n hx hb dX6_worthOf_116 rfl (lv_at hl 2 rfl) ?_
                refine ia_n (f := tx_nf kd) hx hb hK (hR hS) 1 0 rfl rfl (j := t) rfl (by omega) (by decide) dX6_worthOf_117 ?_
                refine tp_i (y := nI (kd t)) rfl ?_
                refine lv_iconst (v := 4) hx hb dX6_worthOf_118 (by decide) ?_
                refine bn_ne (a := kd t) (b := 4) (tgt := 128) hx hb rfl rfl (by omega) (by decide) dX6_worthOf_119 (by decide) (fun c119 => ?_) (fun c119 => ?_)
                · refine lv_iload_n hx hb dX6_worthOf_128 rfl (lv_at hl 0 rfl) ?_
                  exact rt_i hx hb hr hlocks () (by rw [show tx_vl kd wo ha we t k = ((wo t : Nat) : Int) - ((we t : Nat) : Int) from by unfold tx_vl tx_wv; (repeat' split) <;> omega]) hP hD hS dX6_worthOf_129
                · refine lv_iconst (v := 2) hx hb dX6_worthOf_122 (by decide) ?_
                  refine lv_iload_n hx hb dX6_worthOf_123 rfl (lv_at hl 0 rfl) ?_
                  refine lv_imul hx hb dX6_worthOf_124 ?_
                  refine tp_i (mul_iI (a := 2) (b := ((wo t : Nat) : Int) - ((we t : Nat) : Int)) (by decide) rfl) ?_
                  refine lv_goto (tgt := 129) hx hb dX6_worthOf_125 (by decide) ?_
                  exact rt_i hx hb hr hlocks () (by rw [show tx_vl kd wo ha we t k = 2 * (((wo t : Nat) : Int) - ((we t : Nat) : Int)) from by unfold tx_vl tx_wv; (repeat' split) <;> omega]) hP hD hS dX6_worthOf_129
            · refine lv_iconst (v := 3) hx hb dX6_worthOf_94 (by decide) ?_
              refine lv_goto (tgt := 100) hx hb dX6_worthOf_95 (by decide) ?_
              refine bn_le (a := k) (b := 3) (tgt := 112) hx hb rfl rfl (by omega) (by decide) dX6_worthOf_100 (by decide) (fun c100 => ?_) (fun c100 => ?_)
              · refine lv_aload_n hx hb dX6_worthOf_112 rfl (lv_at hl 1 rfl) ?_
                refine va_get (D := D) (ci := 6) (v := .ref o1) (C := RX6) (T := TX6) (N := 24) hx hb hts in_X6 hown hK (hR hS) 0 rfl rfl 1 (by decide) hf_7 (fun _ h9 => h9) rfl dX6_worthOf_113 ?_
                refine lv_iload_n hx hb dX6_worthOf_116 rfl (lv_at hl 2 rfl) ?_
                refine ia_n (f := tx_nf kd) hx hb hK (hR hS) 1 0 rfl rfl (j := t) rfl (by omega) (by decide) dX6_worthOf_117 ?_
                refine tp_i (y := nI (kd t)) rfl ?_
                refine lv_iconst (v := 4) hx hb dX6_worthOf_118 (by decide) ?_
                refine bn_ne (a := kd t) (b := 4) (tgt := 128) hx hb rfl rfl (by omega) (by decide) dX6_worthOf_119 (by decide) (fun c119 => ?_) (fun c119 => ?_)
                · refine lv_iload_n hx hb dX6_worthOf_128 rfl (lv_at hl 0 rfl) ?_
                  exact rt_i hx hb hr hlocks () (by rw [show tx_vl kd wo ha we t k = ((wo t : Nat) : Int) from by unfold tx_vl tx_wv; (repeat' split) <;> omega]; first | rfl | exact nI_iI _) hP hD hS dX6_worthOf_129
                · refine lv_iconst (v := 2) hx hb dX6_worthOf_122 (by decide) ?_
                  refine lv_iload_n hx hb dX6_worthOf_123 rfl (lv_at hl 0 rfl) ?_
                  refine lv_imul hx hb dX6_worthOf_124 ?_
                  refine tp_i (pk_mul 2 (wo t)) ?_
                  refine lv_goto (tgt := 129) hx hb dX6_worthOf_125 (by decide) ?_
                  exact rt_i hx hb hr hlocks () (by rw [show tx_vl kd wo ha we t k = ((2 * (wo t) : Nat) : Int) from by unfold tx_vl tx_wv; (repeat' split) <;> omega]; first | rfl | exact nI_iI _) hP hD hS dX6_worthOf_129
              · refine lv_iload_n hx hb dX6_worthOf_103 rfl (lv_at hl 0 rfl) ?_
                refine lv_aload_n hx hb dX6_worthOf_104 rfl (lv_at hl 1 rfl) ?_
                refine va_get (D := D) (ci := 6) (v := .ref o4) (C := RX6) (T := TX6) (N := 24) hx hb hts in_X6 hown hK (hR hS) 0 rfl rfl 4 (by decide) hf_19 (fun _ h9 => h9) rfl dX6_worthOf_105 ?_
                refine lv_iload_n hx hb dX6_worthOf_108 rfl (lv_at hl 2 rfl) ?_
                refine ia_n (f := tx_nf we) hx hb hK (hR hS) 4 0 rfl rfl (j := t) rfl (by omega) (by decide) dX6_worthOf_109 ?_
                refine tp_i (y := nI (we t)) rfl ?_
                refine lv_isub hx hb dX6_worthOf_110 ?_
                refine tp_i (sub_iI (a := ((wo t : Nat) : Int)) (b := ((we t : Nat) : Int)) (nI_iI _) (nI_iI _)) ?_
                refine lv_istore_n (lv' := [(3, .int (iI (((wo t : Nat) : Int) - ((we t : Nat) : Int)))), (0, .ref o), (1, .int (nI t)), (2, .int (nI k))]) hx hb dX6_worthOf_111 rfl hl (by decide) rfl (fun ls hl => ?_)
                refine lv_aload_n hx hb dX6_worthOf_112 rfl (lv_at hl 1 rfl) ?_
                refine va_get (D := D) (ci := 6) (v := .ref o1) (C := RX6) (T := TX6) (N := 24) hx hb hts in_X6 hown hK (hR hS) 0 rfl rfl 1 (by decide) hf_7 (fun _ h9 => h9) rfl dX6_worthOf_113 ?_
                refine lv_iload_n hx hb dX6_worthOf_116 rfl (lv_at hl 2 rfl) ?_
                refine ia_n (f := tx_nf kd) hx hb hK (hR hS) 1 0 rfl rfl (j := t) rfl (by omega) (by decide) dX6_worthOf_117 ?_
                refine tp_i (y := nI (kd t)) rfl ?_
                refine lv_iconst (v := 4) hx hb dX6_worthOf_118 (by decide) ?_
                refine bn_ne (a := kd t) (b := 4) (tgt := 128) hx hb rfl rfl (by omega) (by decide) dX6_worthOf_119 (by decide) (fun c119 => ?_) (fun c119 => ?_)
                · refine lv_iload_n hx hb dX6_worthOf_128 rfl (lv_at hl 0 rfl) ?_
                  exact rt_i hx hb hr hlocks () (by rw [show tx_vl kd wo ha we t k = ((wo t : Nat) : Int) - ((we t : Nat) : Int) from by unfold tx_vl tx_wv; (repeat' split) <;> omega]) hP hD hS dX6_worthOf_129
                · refine lv_iconst (v := 2) hx hb dX6_worthOf_122 (by decide) ?_
                  refine lv_iload_n hx hb dX6_worthOf_123 rfl (lv_at hl 0 rfl) ?_
                  refine lv_imul hx hb dX6_worthOf_124 ?_
                  refine tp_i (mul_iI (a := 2) (b := ((wo t : Nat) : Int) - ((we t : Nat) : Int)) (by decide) rfl) ?_
                  refine lv_goto (tgt := 129) hx hb dX6_worthOf_125 (by decide) ?_
                  exact rt_i hx hb hr hlocks () (by rw [show tx_vl kd wo ha we t k = 2 * (((wo t : Nat) : Int) - ((we t : Nat) : Int)) from by unfold tx_vl tx_wv; (repeat' split) <;> omega]) hP hD hS dX6_worthOf_129
          · refine lv_iload_n hx hb dX6_worthOf_74 rfl (lv_at hl 0 rfl) ?_
            refine lv_aload_n hx hb dX6_worthOf_75 rfl (lv_at hl 1 rfl) ?_
            refine va_get (D := D) (ci := 6) (v := .ref o3) (C := RX6) (T := TX6) (N := 24) hx hb hts in_X6 hown hK (hR hS) 0 rfl rfl 3 (by decide) hf_16 (fun _ h9 => h9) rfl dX6_worthOf_76 ?_
            refine lv_iload_n hx hb dX6_worthOf_79 rfl (lv_at hl 2 rfl) ?_
            refine ia_n (f := tx_nf ha) hx hb hK (hR hS) 3 0 rfl rfl (j := t) rfl (by omega) (by decide) dX6_worthOf_80 ?_
            refine tp_i (y := nI (ha t)) rfl ?_
            refine lv_iadd hx hb dX6_worthOf_81 ?_
            refine tp_i (nI_add (wo t) (ha t)) ?_
            refine lv_istore_n (lv' := [(3, .int (nI ((wo t) + (ha t)))), (0, .ref o), (1, .int (nI t)), (2, .int (nI k))]) hx hb dX6_worthOf_82 rfl hl (by decide) rfl (fun ls hl => ?_)
            refine lv_iload_n hx hb dX6_worthOf_83 rfl (lv_at hl 3 rfl) ?_
            refine lv_aload_n hx hb dX6_worthOf_84 rfl (lv_at hl 1 rfl) ?_
            refine va_get (D := D) (ci := 6) (v := .ref o1) (C := RX6) (T := TX6) (N := 24) hx hb hts in_X6 hown hK (hR hS) 0 rfl rfl 1 (by decide) hf_7 (fun _ h9 => h9) rfl dX6_worthOf_85 ?_
            refine lv_iload_n hx hb dX6_worthOf_88 rfl (lv_at hl 2 rfl) ?_
            refine ia_n (f := tx_nf kd) hx hb hK (hR hS) 1 0 rfl rfl (j := t) rfl (by omega) (by decide) dX6_worthOf_89 ?_
            refine tp_i (y := nI (kd t)) rfl ?_
            refine lv_iconst (v := 3) hx hb dX6_worthOf_90 (by decide) ?_
            refine bn_ne (a := kd t) (b := 3) (tgt := 98) hx hb rfl rfl (by omega) (by decide) dX6_worthOf_91 (by decide) (fun c91 => ?_) (fun c91 => ?_)
            · refine lv_bipush (v := 6) hx hb dX6_worthOf_98 (by decide) ?_
              refine bn_le (a := k) (b := 6) (tgt := 112) hx hb rfl rfl (by omega) (by decide) dX6_worthOf_100 (by decide) (fun c100 => ?_) (fun c100 => ?_)
              · refine lv_aload_n hx hb dX6_worthOf_112 rfl (lv_at hl 1 rfl) ?_
                refine va_get (D := D) (ci := 6) (v := .ref o1) (C := RX6) (T := TX6) (N := 24) hx hb hts in_X6 hown hK (hR hS) 0 rfl rfl 1 (by decide) hf_7 (fun _ h9 => h9) rfl dX6_worthOf_113 ?_
                refine lv_iload_n hx hb dX6_worthOf_116 rfl (lv_at hl 2 rfl) ?_
                refine ia_n (f := tx_nf kd) hx hb hK (hR hS) 1 0 rfl rfl (j := t) rfl (by omega) (by decide) dX6_worthOf_117 ?_
                refine tp_i (y := nI (kd t)) rfl ?_
                refine lv_iconst (v := 4) hx hb dX6_worthOf_118 (by decide) ?_
                refine bn_ne (a := kd t) (b := 4) (tgt := 128) hx hb rfl rfl (by omega) (by decide) dX6_worthOf_119 (by decide) (fun c119 => ?_) (fun c119 => ?_)
                · refine lv_iload_n hx hb dX6_worthOf_128 rfl (lv_at hl 0 rfl) ?_
                  exact rt_i hx hb hr hlocks () (by rw [show tx_vl kd wo ha we t k = (((wo t) + (ha t) : Nat) : Int) from by unfold tx_vl tx_wv; (repeat' split) <;> omega]; first | rfl | exact nI_iI _) hP hD hS dX6_worthOf_129
                · refine lv_iconst (v := 2) hx hb dX6_worthOf_122 (by decide) ?_
                  refine lv_iload_n hx hb dX6_worthOf_123 rfl (lv_at hl 0 rfl) ?_
                  refine lv_imul hx hb dX6_worthOf_124 ?_
                  refine tp_i (pk_mul 2 ((wo t) + (ha t))) ?_
                  refine lv_goto (tgt := 129) hx hb dX6_worthOf_125 (by decide) ?_
                  exact rt_i hx hb hr hlocks () (by rw [show tx_vl kd wo ha we t k = ((2 * ((wo t) + (ha t)) : Nat) : Int) from by unfold tx_vl tx_wv; (repeat' split) <;> omega]; first | rfl | exact nI_iI _) hP hD hS dX6_worthOf_129
              · refine lv_iload_n hx hb dX6_worthOf_103 rfl (lv_at hl 0 rfl) ?_
                refine lv_aload_n hx hb dX6_worthOf_104 rfl (lv_at hl 1 rfl) ?_
                refine va_get (D := D) (ci := 6) (v := .ref o4) (C := RX6) (T := TX6) (N := 24) hx hb hts in_X6 hown hK (hR hS) 0 rfl rfl 4 (by decide) hf_19 (fun _ h9 => h9) rfl dX6_worthOf_105 ?_
                refine lv_iload_n hx hb dX6_worthOf_108 rfl (lv_at hl 2 rfl) ?_
                refine ia_n (f := tx_nf we) hx hb hK (hR hS) 4 0 rfl rfl (j := t) rfl (by omega) (by decide) dX6_worthOf_109 ?_
                refine tp_i (y := nI (we t)) rfl ?_
                refine lv_isub hx hb dX6_worthOf_110 ?_
                refine tp_i (sub_iI (a := (((wo t) + (ha t) : Nat) : Int)) (b := ((we t : Nat) : Int)) (nI_iI _) (nI_iI _)) ?_
                refine lv_istore_n (lv' := [(3, .int (iI ((((wo t) + (ha t) : Nat) : Int) - ((we t : Nat) : Int)))), (0, .ref o), (1, .int (nI t)), (2, .int (nI k))]) hx hb dX6_worthOf_111 rfl hl (by decide) rfl (fun ls hl => ?_)
                refine lv_aload_n hx hb dX6_worthOf_112 rfl (lv_at hl 1 rfl) ?_
                refine va_get (D := D) (ci := 6) (v := .ref o1) (C := RX6) (T := TX6) (N := 24) hx hb hts in_X6 hown hK (hR hS) 0 rfl rfl 1 (by decide) hf_7 (fun _ h9 => h9) rfl dX6_worthOf_113 ?_
                refine lv_iload_n hx hb dX6_worthOf_116 rfl (lv_at hl 2 rfl) ?_
                refine ia_n (f := tx_nf kd) hx hb hK (hR hS) 1 0 rfl rfl (j := t) rfl (by omega) (by decide) dX6_worthOf_117 ?_
                refine tp_i (y := nI (kd t)) rfl ?_
                refine lv_iconst (v := 4) hx hb dX6_worthOf_118 (by decide) ?_
                refine bn_ne (a := kd t) (b := 4) (tgt := 128) hx hb rfl rfl (by omega) (by decide) dX6_worthOf_119 (by decide) (fun c119 => ?_) (fun c119 => ?_)
                · refine lv_iload_n hx hb dX6_worthOf_128 rfl (lv_at hl 0 rfl) ?_
                  exact rt_i hx hb hr hlocks () (by rw [show tx_vl kd wo ha we t k = (((wo t) + (ha t) : Nat) : Int) - ((we t : Nat) : Int) from by unfold tx_vl tx_wv; (repeat' split) <;> omega]) hP hD hS dX6_worthOf_129
                · refine lv_iconst (v := 2) hx hb dX6_worthOf_122 (by decide) ?_
                  refine lv_iload_n hx hb dX6_worthOf_123 rfl (lv_at hl 0 rfl) ?_
                  refine lv_imul hx hb dX6_worthOf_124 ?_
                  refine tp_i (mul_iI (a := 2) (b := (((wo t) + (ha t) : Nat) : Int) - ((we t : Nat) : Int)) (by decide) rfl) ?_
                  refine lv_goto (tgt := 129) hx hb dX6_worthOf_125 (by decide) ?_
                  exact rt_i hx hb hr hlocks () (by rw [show tx_vl kd wo ha we t k = 2 * ((((wo t) + (ha t) : Nat) : Int) - ((we t : Nat) : Int)) from by unfold tx_vl tx_wv; (repeat' split) <;> omega]) hP hD hS dX6_worthOf_129
            · refine lv_iconst (v := 3) hx hb dX6_worthOf_94 (by decide) ?_
              refine lv_goto (tgt := 100) hx hb dX6_worthOf_95 (by decide) ?_
              refine bn_le (a := k) (b := 3) (tgt := 112) hx hb rfl rfl (by omega) (by decide) dX6_worthOf_100 (by decide) (fun c100 => ?_) (fun c100 => ?_)
              · refine lv_aload_n hx hb dX6_worthOf_112 rfl (lv_at hl 1 rfl) ?_
                refine va_get (D := D) (ci := 6) (v := .ref o1) (C := RX6) (T := TX6) (N := 24) hx hb hts in_X6 hown hK (hR hS) 0 rfl rfl 1 (by decide) hf_7 (fun _ h9 => h9) rfl dX6_worthOf_113 ?_
                refine lv_iload_n hx hb dX6_worthOf_116 rfl (lv_at hl 2 rfl) ?_
                refine ia_n (f := tx_nf kd) hx hb hK (hR hS) 1 0 rfl rfl (j := t) rfl (by omega) (by decide) dX6_worthOf_117 ?_
                refine tp_i (y := nI (kd t)) rfl ?_
                refine lv_iconst (v := 4) hx hb dX6_worthOf_118 (by decide) ?_
                refine bn_ne (a := kd t) (b := 4) (tgt := 128) hx hb rfl rfl (by omega) (by decide) dX6_worthOf_119 (by decide) (fun c119 => ?_) (fun c119 => ?_)
                · refine lv_iload_n hx hb dX6_worthOf_128 rfl (lv_at hl 0 rfl) ?_
                  exact rt_i hx hb hr hlocks () (by rw [show tx_vl kd wo ha we t k = (((wo t) + (ha t) : Nat) : Int) from by unfold tx_vl tx_wv; (repeat' split) <;> omega]; first | rfl | exact nI_iI _) hP hD hS dX6_worthOf_129
                · refine lv_iconst (v := 2) hx hb dX6_worthOf_122 (by decide) ?_
                  refine lv_iload_n hx hb dX6_worthOf_123 rfl (lv_at hl 0 rfl) ?_
                  refine lv_imul hx hb dX6_worthOf_124 ?_
                  refine tp_i (pk_mul 2 ((wo t) + (ha t))) ?_
                  refine lv_goto (tgt := 129) hx hb dX6_worthOf_125 (by decide) ?_
                  exact rt_i hx hb hr hlocks () (by rw [show tx_vl kd wo ha we t k = ((2 * ((wo t) + (ha t)) : Nat) : Int) from by unfold tx_vl tx_wv; (repeat' split) <;> omega]; first | rfl | exact nI_iI _) hP hD hS dX6_worthOf_129
              · refine lv_iload_n hx hb dX6_worthOf_103 rfl (lv_at hl 0 rfl) ?_
                refine lv_aload_n hx hb dX6_worthOf_104 rfl (lv_at hl 1 rfl) ?_
                refine va_get (D := D) (ci := 6) (v := .ref o4) (C := RX6) (T := TX6) (N := 24) hx hb hts in_X6 hown hK (hR hS) 0 rfl rfl 4 (by decide) hf_19 (fun _ h9 => h9) rfl dX6_worthOf_105 ?_
                refine lv_iload_n hx hb dX6_worthOf_108 rfl (lv_at hl 2 rfl) ?_
                refine ia_n (f := tx_nf we) hx hb hK (hR hS) 4 0 rfl rfl (j := t) rfl (by omega) (by decide) dX6_worthOf_109 ?_
                refine tp_i (y := nI (we t)) rfl ?_
                refine lv_isub hx hb dX6_worthOf_110 ?_
                refine tp_i (sub_iI (a := (((wo t) + (ha t) : Nat) : Int)) (b := ((we t : Nat) : Int)) (nI_iI _) (nI_iI _)) ?_
                refine lv_istore_n (lv' := [(3, .int (iI ((((wo t) + (ha t) : Nat) : Int) - ((we t : Nat) : Int)))), (0, .ref o), (1, .int (nI t)), (2, .int (nI k))]) hx hb dX6_worthOf_111 rfl hl (by decide) rfl (fun ls hl => ?_)
                refine lv_aload_n hx hb dX6_worthOf_112 rfl (lv_at hl 1 rfl) ?_
                refine va_get (D := D) (ci := 6) (v := .ref o1) (C := RX6) (T := TX6) (N := 24) hx hb hts in_X6 hown hK (hR hS) 0 rfl rfl 1 (by decide) hf_7 (fun _ h9 => h9) rfl dX6_worthOf_113 ?_
                refine lv_iload_n hx hb dX6_worthOf_116 rfl (lv_at hl 2 rfl) ?_
                refine ia_n (f := tx_nf kd) hx hb hK (hR hS) 1 0 rfl rfl (j := t) rfl (by omega) (by decide) dX6_worthOf_117 ?_
                refine tp_i (y := nI (kd t)) rfl ?_
                refine lv_iconst (v := 4) hx hb dX6_worthOf_118 (by decide) ?_
                refine bn_ne (a := kd t) (b := 4) (tgt := 128) hx hb rfl rfl (by omega) (by decide) dX6_worthOf_119 (by decide) (fun c119 => ?_) (fun c119 => ?_)
                · refine lv_iload_n hx hb dX6_worthOf_128 rfl (lv_at hl 0 rfl) ?_
                  exact rt_i hx hb hr hlocks () (by rw [show tx_vl kd wo ha we t k = (((wo t) + (ha t) : Nat) : Int) - ((we t : Nat) : Int) from by unfold tx_vl tx_wv; (repeat' split) <;> omega]) hP hD hS dX6_worthOf_129
                · refine lv_iconst (v := 2) hx hb dX6_worthOf_122 (by decide) ?_
                  refine lv_iload_n hx hb dX6_worthOf_123 rfl (lv_at hl 0 rfl) ?_
                  refine lv_imul hx hb dX6_worthOf_124 ?_
                  refine tp_i (mul_iI (a := 2) (b := (((wo t) + (ha t) : Nat) : Int) - ((we t : Nat) : Int)) (by decide) rfl) ?_
                  refine lv_goto (tgt := 129) hx hb dX6_worthOf_125 (by decide) ?_
                  exact rt_i hx hb hr hlocks () (by rw [show tx_vl kd wo ha we t k = 2 * ((((wo t) + (ha t) : Nat) : Int) - ((we t : Nat) : Int)) from by unfold tx_vl tx_wv; (repeat' split) <;> omega]) hP hD hS dX6_worthOf_129
    · refine lv_iload_n hx hb dX6_worthOf_22 rfl (lv_at hl 2 rfl) ?_
      refine lv_iconst (v := 1) hx hb dX6_worthOf_23 (by decide) ?_
      refine bn_ne (a := k) (b := 1) (tgt := 36) hx hb rfl rfl (by omega) (by decide) dX6_worthOf_24 (by decide) (fun c24 => ?_) (fun c24 => ?_)
      · refine lv_iconst (v := 0) hx hb dX6_worthOf_36 (by decide) ?_
        exact rt_i hx hb hr hlocks () (by rw [show tx_vl kd wo ha we t k = 0 from by unfold tx_vl tx_wv; (repeat' split) <;> omega]; first | rfl | exact nI_iI _) hP hD hS dX6_worthOf_37
      · refine lv_aload_n hx hb dX6_worthOf_27 rfl (lv_at hl 0 rfl) ?_
        refine va_get (D := D) (ci := 6) (v := .ref o2) (C := RX6) (T := TX6) (N := 24) hx hb hts in_X6 hown hK (hR hS) 0 rfl rfl 2 (by decide) hf_13 (fun _ h9 => h9) rfl dX6_worthOf_28 ?_
        refine lv_iload_n hx hb dX6_worthOf_31 rfl (lv_at hl 1 rfl) ?_
        refine ia_n (f := tx_nf wo) hx hb hK (hR hS) 2 0 rfl rfl (j := t) rfl (by omega) (by decide) dX6_worthOf_32 ?_
        refine tp_i (y := nI (wo t)) rfl ?_
        refine lv_goto (tgt := 37) hx hb dX6_worthOf_33 (by decide) ?_
        exact rt_i hx hb hr hlocks () (by rw [show tx_vl kd wo ha we t k = ((wo t : Nat) : Int) from by unfold tx_vl tx_wv; (repeat' split) <;> omega]; first | rfl | exact nI_iI _) hP hD hS dX6_worthOf_37
  · refine lv_iconst (v := 0) hx hb dX6_worthOf_10 (by decide) ?_
    exact rt_i hx hb hr hlocks () (by rw [show tx_vl kd wo ha we t k = 0 from by unfold tx_vl tx_wv; (repeat' split) <;> omega]; first | rfl | exact nI_iI _) hP hD hS dX6_worthOf_11
set_option maxHeartbeats 4000000 in
set_option maxRecDepth 100000 in
theorem c_X6_longestNow (l : Launch) (D : va_G) (cs : Nat → ClassId) (sz : Nat) (o : Nat) (o1 : Nat) (o2 : Nat) (o3 : Nat) (o4 : Nat) (o5 : Nat) (o6 : Nat) (o7 : Nat) (o8 : Nat) (o9 : Nat) (o10 : Nat) (o11 : Nat) (o12 : Nat) (o13 : Nat) (o14 : Nat) (o15 : Nat) (n : Nat) (dy : Nat) (ch : Nat) (lw : Nat) (tz : Nat) (at9 : Nat) (va9 : Nat) (ss : Nat) (im : Bool) (kd : Nat → Nat) (td : Nat → Nat) (hn : n ≤ 4) (hd1 : 1 ≤ dy) (hdy : dy ≤ 21) (htd : ∀ e, td e < 4) (htn : ∀ e, 0 < n → td e < n) (hkd : ∀ e, kd e ≤ 5) : mI (S := Unit) l yX6_longestNow wsX6_longestNow ({ frames := 1, cells := 0, slots := 0, locals := 22 } : Room) D (tyc cs) sz [.ref o] [(o, .inr (6, [.int (nI n), .ref o1, .ref o2, .ref o3, .ref o4, .int (nI dy), .ref o5, .ref o6, .int (nI ch), .int (nI lw), .int (nI tz), .ref o7, .int (nI at9), .int (nI va9), .int (nI ss), .ref o8, .ref o9, .int (bI im), .ref o10, .ref o11, .ref o12, .ref o13, .ref o14, .ref o15])), (o1, aI cs 4 (tx_nf kd)), (o5, aI cs 21 (tx_nf td))] [] (fun (r : Int32) (u : Unit) => r = nI (tx_T n kd td dy).2.1) (fun _ => []) 0 0 := by
  unfold mI
  refine Met.ofW (cc := cX6_longestNow) (maxL := 3) (ret := (some .int)) (by decide) rfl ?_
  intro p e s m args below meth c s₁ B hml hv
  obtain ⟨rfl, hsz, hP, hK, hD0⟩ := hv
  have hx := B.exec
  have hb := B.bytes
  have hr := B.returns
  have hts := atoms_spec (ws := wsX6_longestNow) B.pre
  have hown : s.vm.findClass RX6 = some m.cls := findClass_of_methodNamed B.named
  have hlocks := B.notSynchronized
  subst hsz
  have hR := @en_R _ _ _ [(o, .inr (6, [.int (nI n), .ref o1, .ref o2, .ref o3, .ref o4, .int (nI dy), .ref o5, .ref o6, .int (nI ch), .int (nI lw), .int (nI tz), .ref o7, .int (nI at9), .int (nI va9), .int (nI ss), .ref o8, .ref o9, .int (bI im), .ref o10, .ref o11, .ref o12, .ref o13, .ref o14, .ref o15])), (o1, aI cs 4 (tx_nf kd)), (o5, aI cs 21 (tx_nf td))] [] _ hP hD0
  have hN := adN_of hD0
  have hD := en_D (wr := [(o, .inr (6, [.int (nI n), .ref o1, .ref o2, .ref o3, .ref o4, .int (nI dy), .ref o5, .ref o6, .int (nI ch), .int (nI lw), .int (nI tz), .ref o7, .int (nI at9), .int (nI va9), .int (nI ss), .ref o8, .ref o9, .int (bI im), .ref o10, .ref o11, .ref o12, .ref o13, .ref o14, .ref o15])), (o1, aI cs 4 (tx_nf kd)), (o5, aI cs 21 (tx_nf td))]) (ww := []) (sz := s.heap.size) hD0
  have hP := en_P (wr := [(o, .inr (6, [.int (nI n), .ref o1, .ref o2, .ref o3, .ref o4, .int (nI dy), .ref o5, .ref o6, .int (nI ch), .int (nI lw), .int (nI tz), .ref o7, .int (nI at9), .int (nI va9), .int (nI ss), .ref o8, .ref o9, .int (bI im), .ref o10, .ref o11, .ref o12, .ref o13, .ref o14, .ref o15])), (o1, aI cs 4 (tx_nf kd)), (o5, aI cs 21 (tx_nf td))]) (ww := []) hP
  generalize hAe : va_A [] s.heap.size = A at hD hR ⊢
  have hA : ∀ q : Nat, s.heap.size ≤ q → A q := fun q h => by rw [← hAe]; exact Or.inr h
  have hS : va_S A s.heap s.heap [] := va_S.rf
  have hN : adN [o, o1, o5] := hN
  have hf_22 := hts (.fieldLink RX6 22 "TaxedByLongestModel" "done" "[I") (by decide +kernel)
  have hf_78 := hts (.fieldLink RX6 78 "TaxedByLongestModel" "days" "I") (by decide +kernel)
  have in_X6 : ∀ w ∈ wsX60, w ∈ wsX6_longestNow := by decide +kernel
  have hl := lv_entry ([.ref o]) (n := 3) (Nat.le_of_ble_eq_true rfl)
  rw [lg_entry_eq]
  generalize (lg_sl ([.ref o]) ++ List.replicate (3 - (lg_sl ([.ref o])).length) Slot.unset).toArray = ls at hl ⊢
  have hl : lv_has ls 3 [(0, .ref o)] := hl
  refine lv_iconst (v := 0) hx hb dX6_longestNow_0 (by decide) ?_
  refine lv_istore_n (lv' := [(1, .int 0), (0, .ref o)]) hx hb dX6_longestNow_1 rfl hl (by decide) rfl (fun ls hl => ?_)
  refine lv_iconst (v := 0) hx hb dX6_longestNow_2 (by decide) ?_
  refine lv_istore_n (lv' := [(2, .int 0), (1, .int 0), (0, .ref o)]) hx hb dX6_longestNow_3 rfl hl (by decide) rfl (fun ls hl => ?_)
  have loop4 : ∀ (n9 : Nat) (i : Nat) (ct : Nat) (hi : i ≤ dy) (hc : ct = tx_lm n kd td i), dy - i < n9 → ∀ (H : Heap) (locs : List Loc), va_P D vwCl [] H → va_D A [] → va_S A s.heap H locs → ∀ (ls : Array Slot), lv_has ls 3 [(0, .ref o), (1, .int (nI ct)), (2, .int (nI i))] → W p l e (headSpec wsX6_longestNow ({ frames := 1, cells := 0, slots := 0, locals := 22 } : Room)).room s m ([.ref o] : List Value).toArray below meth c H locs 0 0 (MQ below (va_Qi (fun (r : Int32) (u : Unit) => r = nI (tx_T n kd td dy).2.1) (QB D (fun _ => []) A) A) ([.ref o] : List Value).toArray s 0 0 A) (F0 m 4 ls []) := by
    intro n9
    induction n9 with
    | zero => intros; omega
    | succ n9 ih4 =>
      intro i ct hi hc hmu H locs hP hD hS ls hl
      refine lv_iload_n hx hb dX6_longestNow_4 rfl (lv_at hl 2 rfl) ?_
      refine lv_aload_n hx hb dX6_longestNow_5 rfl (lv_at hl 0 rfl) ?_
      refine va_get (D := D) (ci := 6) (v := .int (nI dy)) (C := RX6) (T := TX6) (N := 24) hx hb hts in_X6 hown hK (hR hS) 0 rfl rfl 5 (by decide) hf_78 (fun _ h9 => h9) rfl dX6_longestNow_6 ?_
      refine bn_ge (a := i) (b := dy) (tgt := 41) hx hb rfl rfl (by omega) (by omega) dX6_longestNow_9 (by decide) (fun c9 => ?_) (fun c9 => ?_)
      · refine lv_iload_n hx hb dX6_longestNow_41 rfl (lv_at hl 1 rfl) ?_
        exact rt_i hx hb hr hlocks () (by obtain ⟨j, rfl⟩ : ∃ j, dy = j + 1 := ⟨dy - 1, by omega⟩; rw [hc, show i = j + 1 by omega, tx_lm_T]) hP hD hS dX6_longestNow_42
      · refine lv_aload_n hx hb dX6_longestNow_12 rfl (lv_at hl 0 rfl) ?_
        refine lv_aload_n hx hb dX6_longestNow_13 rfl (lv_at hl 0 rfl) ?_
        refine va_get (D := D) (ci := 6) (v := .ref o5) (C := RX6) (T := TX6) (N := 24) hx hb hts in_X6 hown hK (hR hS) 0 rfl rfl 6 (by decide) hf_22 (fun _ h9 => h9) rfl dX6_longestNow_14 ?_
        refine lv_iload_n hx hb dX6_longestNow_17 rfl (lv_at hl 2 rfl) ?_
        refine ia_n (f := tx_nf td) hx hb hK (hR hS) 2 0 rfl rfl (j := i) rfl (by omega) (by decide) dX6_longestNow_18 ?_
        refine tp_i (y := nI (td i)) rfl ?_
        refine cV_i (As := [.int (nI (td i))]) (rest := []) (cr := [(o, .inr (6, [.int (nI n), .ref o1, .ref o2, .ref o3, .ref o4, .int (nI dy), .ref o5, .ref o6, .int (nI ch), .int (nI lw), .int (nI tz), .ref o7, .int (nI at9), .int (nI va9), .int (nI ss), .ref o8, .ref o9, .int (bI im), .ref o10, .ref o11, .ref o12, .ref o13, .ref o14, .ref o15])), (o1, aI cs 4 (tx_nf kd))]) (cw1 := []) ⟨hx, hb, hml, hown, hts⟩ (c_X6_counts l D cs _ o o1 o2 o3 o4 o5 o6 o7 o8 o9 o10 o11 o12 o13 o14 o15 n dy ch lw tz at9 va9 ss im kd (td i) (by first | assumption | omega) (htd _) (htn _) (by first | assumption | omega)) (cwV 1 hts gX6_longestNow_X6_counts rfl rfl rfl (by decide +kernel) ⟨Nat.le_of_ble_eq_true rfl, Nat.le_of_ble_eq_true rfl⟩) hK hP hD hS hA (((hR hS).app hP).sub [0, 1] rfl) (dt_of hN [0, 1] (by decide) rfl) [] rfl 0 rfl rfl rfl hl.1 rfl (Nat.le_of_ble_eq_true rfl) dX6_longestNow_19 ⟨Nat.le_of_ble_eq_true rfl, Nat.le_of_ble_eq_true rfl⟩ (fun _ => rfl) (fun _ => rfl) (fun r_1 u9 H locs hw_2 hP hD hS => ?_)
        have hP : va_P D vwCl [] H := hP
        have hD : va_D A [] := hD
        subst r_1
        refine bb_eq (b := tx_tx n kd (td i)) (tgt := 35) hx hb rfl dX6_longestNow_22 (by decide) (fun c22 => ?_) (fun c22 => ?_)
        · refine lv_iinc (v := nI (i + 1)) (lv' := [(2, .int (nI (i + 1))), (0, .ref o), (1, .int (nI ct))]) hx hb dX6_longestNow_35 hl (k := 2) rfl (inc_n i 1) (by decide) rfl (fun ls hl => ?_)
          refine lv_goto (tgt := 4) hx hb dX6_longestNow_38 (by decide) ?_
          exact ih4 (i + 1) ct (by first | assumption | omega) (by rw [tx_lm, if_neg (by rw [c22]; decide), hc]) (by omega) _ _ hP hD hS ls (lv_sub hl [1, 2, 0] rfl)
        · refine lv_iload_n hx hb dX6_longestNow_25 rfl (lv_at hl 1 rfl) ?_
          refine lv_aload_n hx hb dX6_longestNow_26 rfl (lv_at hl 0 rfl) ?_
          refine lv_iload_n hx hb dX6_longestNow_27 rfl (lv_at hl 2 rfl) ?_
          refine cV_i (As := [.int (nI i)]) (rest := [.int (nI ct)]) (cr := [(o, .inr (6, [.int (nI n), .ref o1, .ref o2, .ref o3, .ref o4, .int (nI dy), .ref o5, .ref o6, .int (nI ch), .int (nI lw), .int (nI tz), .ref o7, .int (nI at9), .int (nI va9), .int (nI ss), .ref o8, .ref o9, .int (bI im), .ref o10, .ref o11, .ref o12, .ref o13, .ref o14, .ref o15])), (o5, aI cs 21 (tx_nf td))]) (cw1 := []) ⟨hx, hb, hml, hown, hts⟩ (c_X6_which l D cs _ o o1 o2 o3 o4 o5 o6 o7 o8 o9 o10 o11 o12 o13 o14 o15 n dy ch lw tz at9 va9 ss im td i (by first | assumption | omega) (by first | assumption | omega)) (cwV 1 hts gX6_longestNow_X6_which rfl rfl rfl (by decide +kernel) ⟨Nat.le_of_ble_eq_true rfl, Nat.le_of_ble_eq_true rfl⟩) hK hP hD hS hA (((hR hS).app hP).sub [0, 2] rfl) (dt_of hN [0, 2] (by decide) rfl) [] rfl 0 rfl rfl rfl hl.1 rfl (Nat.le_of_ble_eq_true rfl) dX6_longestNow_28 ⟨Nat.le_of_ble_eq_true rfl, Nat.le_of_ble_eq_true rfl⟩ (fun _ => rfl) (fun _ => rfl) (fun r_3 u9 H locs hw_4 hP hD hS => ?_)
          have hP : va_P D vwCl [] H := hP
          have hD : va_D A [] := hD
          subst r_3
          have := tx_pl_le td i
          have := tx_lm_le n kd td i
          refine va_mmax hx hb (hml.trans hl.1.symm) hown (hts (.methodLink RX6 140 Lib.Math.max.name) (by decide +kernel)) (hts (.static Lib.Math.max.name) (by decide +kernel)) (hts (.initialized "java/lang/Math") (by decide +kernel)) (hts (.code Lib.Math.max.name Lib.Math.max.code 2 (some .int)) (by decide +kernel)) (Nat.le_of_ble_eq_true rfl) (Nat.le_of_ble_eq_true rfl) (Nat.le_of_ble_eq_true rfl) (Nat.le_of_ble_eq_true rfl) dX6_longestNow_31 ?_
          refine tp_i (max_n (a := ct) (b := tx_pl td i) rfl rfl (by omega) (by omega)) ?_
          refine lv_istore_n (lv' := [(1, .int (nI (max ct (tx_pl td i)))), (0, .ref o), (2, .int (nI i))]) hx hb dX6_longestNow_34 rfl hl (by decide) rfl (fun ls hl => ?_)
          refine lv_iinc (v := nI (i + 1)) (lv' := [(2, .int (nI (i + 1))), (1, .int (nI (max ct (tx_pl td i)))), (0, .ref o)]) hx hb dX6_longestNow_35 hl (k := 2) rfl (inc_n i 1) (by decide) rfl (fun ls hl => ?_)
          refine lv_goto (tgt := 4) hx hb dX6_longestNow_38 (by decide) ?_
          exact ih4 (i + 1) (max ct (tx_pl td i)) (by first | assumption | omega) (by rw [tx_lm, if_pos c22, hc]) (by omega) _ _ hP hD hS ls (lv_sub hl [2, 1, 0] rfl)
  exact loop4 _ 0 0 (by first | assumption | omega) rfl (Nat.lt_succ_self _) _ _ hP hD hS ls (lv_sub hl [2, 1, 0] rfl)
set_option maxHeartbeats 4000000 in
set_option maxRecDepth 100000 in
theorem c_X6_stretches (l : Launch) (D : va_G) (cs : Nat → ClassId) (sz : Nat) (o : Nat) (o1 : Nat) (o2 : Nat) (o3 : Nat) (o4 : Nat) (o5 : Nat) (o6 : Nat) (o7 : Nat) (o8 : Nat) (o9 : Nat) (o10 : Nat) (o11 : Nat) (o12 : Nat) (o13 : Nat) (o14 : Nat) (o15 : Nat) (n : Nat) (dy : Nat) (ch : Nat) (lw : Nat) (tz : Nat) (at9 : Nat) (va9 : Nat) (ss : Nat) (im : Bool) (kd : Nat → Nat) (td : Nat → Nat) (hn : n ≤ 4) (hd1 : 1 ≤ dy) (hdy : dy ≤ 21) (htd : ∀ e, td e < 4) (htn : ∀ e, 0 < n → td e < n) (hkd : ∀ e, kd e ≤ 5) : mI (S := Unit) l yX6_stretches wsX6_stretches ({ frames := 1, cells := 0, slots := 0, locals := 21 } : Room) D (tyc cs) sz [.ref o] [(o, .inr (6, [.int (nI n), .ref o1, .ref o2, .ref o3, .ref o4, .int (nI dy), .ref o5, .ref o6, .int (nI ch), .int (nI lw), .int (nI tz), .ref o7, .int (nI at9), .int (nI va9), .int (nI ss), .ref o8, .ref o9, .int (bI im), .ref o10, .ref o11, .ref o12, .ref o13, .ref o14, .ref o15])), (o1, aI cs 4 (tx_nf kd)), (o5, aI cs 21 (tx_nf td))] [] (fun (r : Int32) (u : Unit) => r = nI (tx_T n kd td dy).1) (fun _ => []) 0 0 := by
  unfold mI
  refine Met.ofW (cc := cX6_stretches) (maxL := 3) (ret := (some .int)) (by decide) rfl ?_
  intro p e s m args below meth c s₁ B hml hv
  obtain ⟨rfl, hsz, hP, hK, hD0⟩ := hv
  have hx := B.exec
  have hb := B.bytes
  have hr := B.returns
  have hts := atoms_spec (ws := wsX6_stretches) B.pre
  have hown : s.vm.findClass RX6 = some m.cls := findClass_of_methodNamed B.named
  have hlocks := B.notSynchronized
  subst hsz
  have hR := @en_R _ _ _ [(o, .inr (6, [.int (nI n), .ref o1, .ref o2, .ref o3, .ref o4, .int (nI dy), .ref o5, .ref o6, .int (nI ch), .int (nI lw), .int (nI tz), .ref o7, .int (nI at9), .int (nI va9), .int (nI ss), .ref o8, .ref o9, .int (bI im), .ref o10, .ref o11, .ref o12, .ref o13, .ref o14, .ref o15])), (o1, aI cs 4 (tx_nf kd)), (o5, aI cs 21 (tx_nf td))] [] _ hP hD0
  have hN := adN_of hD0
  have hD := en_D (wr := [(o, .inr (6, [.int (nI n), .ref o1, .ref o2, .ref o3, .ref o4, .int (nI dy), .ref o5, .ref o6, .int (nI ch), .int (nI lw), .int (nI tz), .ref o7, .int (nI at9), .int (nI va9), .int (nI ss), .ref o8, .ref o9, .int (bI im), .ref o10, .ref o11, .ref o12, .ref o13, .ref o14, .ref o15])), (o1, aI cs 4 (tx_nf kd)), (o5, aI cs 21 (tx_nf td))]) (ww := []) (sz := s.heap.size) hD0
  have hP := en_P (wr := [(o, .inr (6, [.int (nI n), .ref o1, .ref o2, .ref o3, .ref o4, .int (nI dy), .ref o5, .ref o6, .int (nI ch), .int (nI lw), .int (nI tz), .ref o7, .int (nI at9), .int (nI va9), .int (nI ss), .ref o8, .ref o9, .int (bI im), .ref o10, .ref o11, .ref o12, .ref o13, .ref o14, .ref o15])), (o1, aI cs 4 (tx_nf kd)), (o5, aI cs 21 (tx_nf td))]) (ww := []) hP
  generalize hAe : va_A [] s.heap.size = A at hD hR ⊢
  have hA : ∀ q : Nat, s.heap.size ≤ q → A q := fun q h => by rw [← hAe]; exact Or.inr h
  have hS : va_S A s.heap s.heap [] := va_S.rf
  have hN : adN [o, o1, o5] := hN
  have hf_22 := hts (.fieldLink RX6 22 "TaxedByLongestModel" "done" "[I") (by decide +kernel)
  have hf_78 := hts (.fieldLink RX6 78 "TaxedByLongestModel" "days" "I") (by decide +kernel)
  have in_X6 : ∀ w ∈ wsX60, w ∈ wsX6_stretches := by decide +kernel
  have hl := lv_entry ([.ref o]) (n := 3) (Nat.le_of_ble_eq_true rfl)
  rw [lg_entry_eq]
  generalize (lg_sl ([.ref o]) ++ List.replicate (3 - (lg_sl ([.ref o])).length) Slot.unset).toArray = ls at hl ⊢
  have hl : lv_has ls 3 [(0, .ref o)] := hl
  refine lv_iconst (v := 0) hx hb dX6_stretches_0 (by decide) ?_
  refine lv_istore_n (lv' := [(1, .int 0), (0, .ref o)]) hx hb dX6_stretches_1 rfl hl (by decide) rfl (fun ls hl => ?_)
  refine lv_iconst (v := 0) hx hb dX6_stretches_2 (by decide) ?_
  refine lv_istore_n (lv' := [(2, .int 0), (1, .int 0), (0, .ref o)]) hx hb dX6_stretches_3 rfl hl (by decide) rfl (fun ls hl => ?_)
  have loop4 : ∀ (n9 : Nat) (i : Nat) (ct : Nat) (hi : i ≤ dy) (hc : ct = (tx_G n kd td dy i).1), dy - i < n9 → ∀ (H : Heap) (locs : List Loc), va_P D vwCl [] H → va_D A [] → va_S A s.heap H locs → ∀ (ls : Array Slot), lv_has ls 3 [(0, .ref o), (1, .int (nI ct)), (2, .int (nI i))] → W p l e (headSpec wsX6_stretches ({ frames := 1, cells := 0, slots := 0, locals := 21 } : Room)).room s m ([.ref o] : List Value).toArray below meth c H locs 0 0 (MQ below (va_Qi (fun (r : Int32) (u : Unit) => r = nI (tx_T n kd td dy).1) (QB D (fun _ => []) A) A) ([.ref o] : List Value).toArray s 0 0 A) (F0 m 4 ls []) := by
    intro n9
    induction n9 with
    | zero => intros; omega
    | succ n9 ih4 =>
      intro i ct hi hc hmu H locs hP hD hS ls hl
      refine lv_iload_n hx hb dX6_stretches_4 rfl (lv_at hl 2 rfl) ?_
      refine lv_aload_n hx hb dX6_stretches_5 rfl (lv_at hl 0 rfl) ?_
      refine va_get (D := D) (ci := 6) (v := .int (nI dy)) (C := RX6) (T := TX6) (N := 24) hx hb hts in_X6 hown hK (hR hS) 0 rfl rfl 5 (by decide) hf_78 (fun _ h9 => h9) rfl dX6_stretches_6 ?_
      refine bn_ge (a := i) (b := dy) (tgt := 42) hx hb rfl rfl (by omega) (by omega) dX6_stretches_9 (by decide) (fun c9 => ?_) (fun c9 => ?_)
      · refine lv_iload_n hx hb dX6_stretches_42 rfl (lv_at hl 1 rfl) ?_
        exact rt_i hx hb hr hlocks () (by rw [hc, show i = dy by omega, tx_G_dy]) hP hD hS dX6_stretches_43
      · refine lv_aload_n hx hb dX6_stretches_12 rfl (lv_at hl 0 rfl) ?_
        refine lv_iload_n hx hb dX6_stretches_13 rfl (lv_at hl 2 rfl) ?_
        refine cV_i (As := [.int (nI i)]) (rest := []) (cr := [(o, .inr (6, [.int (nI n), .ref o1, .ref o2, .ref o3, .ref o4, .int (nI dy), .ref o5, .ref o6, .int (nI ch), .int (nI lw), .int (nI tz), .ref o7, .int (nI at9), .int (nI va9), .int (nI ss), .ref o8, .ref o9, .int (bI im), .ref o10, .ref o11, .ref o12, .ref o13, .ref o14, .ref o15])), (o5, aI cs 21 (tx_nf td))]) (cw1 := []) ⟨hx, hb, hml, hown, hts⟩ (c_X6_isLast l D cs _ o o1 o2 o3 o4 o5 o6 o7 o8 o9 o10 o11 o12 o13 o14 o15 n dy ch lw tz at9 va9 ss im td i (by first | assumption | omega) (by first | assumption | omega) (by first | assumption | omega)) (cwV 1 hts gX6_stretches_X6_isLast rfl rfl rfl (by decide +kernel) ⟨Nat.le_of_ble_eq_true rfl, Nat.le_of_ble_eq_true rfl⟩) hK hP hD hS hA (((hR hS).app hP).sub [0, 2] rfl) (dt_of hN [0, 2] (by decide) rfl) [] rfl 0 rfl rfl rfl hl.1 rfl (Nat.le_of_ble_eq_true rfl) dX6_stretches_14 ⟨Nat.le_of_ble_eq_true rfl, Nat.le_of_ble_eq_true rfl⟩ (fun _ => rfl) (fun _ => rfl) (fun r_1 u9 H locs hw_2 hP hD hS => ?_)
        have hP : va_P D vwCl [] H := hP
        have hD : va_D A [] := hD
        subst r_1
        refine bd_eq (P := i + 1 = dy ∨ td (i + 1) ≠ td i) (tgt := 36) hx hb rfl dX6_stretches_17 (by decide) (fun c17 => ?_) (fun c17 => ?_)
        · refine lv_iinc (v := nI (i + 1)) (lv' := [(2, .int (nI (i + 1))), (0, .ref o), (1, .int (nI ct))]) hx hb dX6_stretches_36 hl (k := 2) rfl (inc_n i 1) (by decide) rfl (fun ls hl => ?_)
          refine lv_goto (tgt := 4) hx hb dX6_stretches_39 (by decide) ?_
          exact ih4 (i + 1) ct (by first | assumption | omega) (by rw [tx_G_n (by omega) c17, hc]) (by omega) _ _ hP hD hS ls (lv_sub hl [1, 2, 0] rfl)
        · refine lv_aload_n hx hb dX6_stretches_20 rfl (lv_at hl 0 rfl) ?_
          refine lv_aload_n hx hb dX6_stretches_21 rfl (lv_at hl 0 rfl) ?_
          refine va_get (D := D) (ci := 6) (v := .ref o5) (C := RX6) (T := TX6) (N := 24) hx hb hts in_X6 hown hK (hR hS) 0 rfl rfl 6 (by decide) hf_22 (fun _ h9 => h9) rfl dX6_stretches_22 ?_
          refine lv_iload_n hx hb dX6_stretches_25 rfl (lv_at hl 2 rfl) ?_
          refine ia_n (f := tx_nf td) hx hb hK (hR hS) 2 0 rfl rfl (j := i) rfl (by omega) (by decide) dX6_stretches_26 ?_
          refine tp_i (y := nI (td i)) rfl ?_
          refine cV_i (As := [.int (nI (td i))]) (rest := []) (cr := [(o, .inr (6, [.int (nI n), .ref o1, .ref o2, .ref o3, .ref o4, .int (nI dy), .ref o5, .ref o6, .int (nI ch), .int (nI lw), .int (nI tz), .ref o7, .int (nI at9), .int (nI va9), .int (nI ss), .ref o8, .ref o9, .int (bI im), .ref o10, .ref o11, .ref o12, .ref o13, .ref o14, .ref o15])), (o1, aI cs 4 (tx_nf kd))]) (cw1 := []) ⟨hx, hb, hml, hown, hts⟩ (c_X6_counts l D cs _ o o1 o2 o3 o4 o5 o6 o7 o8 o9 o10 o11 o12 o13 o14 o15 n dy ch lw tz at9 va9 ss im kd (td i) (by first | assumption | omega) (htd _) (htn _) (by first | assumption | omega)) (cwV 1 hts gX6_stretches_X6_counts rfl rfl rfl (by decide +kernel) ⟨Nat.le_of_ble_eq_true rfl, Nat.le_of_ble_eq_true rfl⟩) hK hP hD hS hA (((hR hS).app hP).sub [0, 1] rfl) (dt_of hN [0, 1] (by decide) rfl) [] rfl 0 rfl rfl rfl hl.1 rfl (Nat.le_of_ble_eq_true rfl) dX6_stretches_27 ⟨Nat.le_of_ble_eq_true rfl, Nat.le_of_ble_eq_true rfl⟩ (fun _ => rfl) (fun _ => rfl) (fun r_3 u9 H locs hw_4 hP hD hS => ?_)
          have hP : va_P D vwCl [] H := hP
          have hD : va_D A [] := hD
          subst r_3
          refine bb_eq (b := tx_tx n kd (td i)) (tgt := 36) hx hb rfl dX6_stretches_30 (by decide) (fun c30 => ?_) (fun c30 => ?_)
          · refine lv_iinc (v := nI (i + 1)) (lv' := [(2, .int (nI (i + 1))), (0, .ref o), (1, .int (nI ct))]) hx hb dX6_stretches_36 hl (k := 2) rfl (inc_n i 1) (by decide) rfl (fun ls hl => ?_)
            refine lv_goto (tgt := 4) hx hb dX6_stretches_39 (by decide) ?_
            exact ih4 (i + 1) ct (by first | assumption | omega) (by rw [tx_G_l (by omega) c17, tx_en_f c30, hc]) (by omega) _ _ hP hD hS ls (lv_sub hl [1, 2, 0] rfl)
          · refine lv_iinc (v := nI (ct + 1)) (lv' := [(1, .int (nI (ct + 1))), (0, .ref o), (2, .int (nI i))]) hx hb dX6_stretches_33 hl (k := 1) rfl (inc_n ct 1) (by decide) rfl (fun ls hl => ?_)
            refine lv_iinc (v := nI (i + 1)) (lv' := [(2, .int (nI (i + 1))), (1, .int (nI (ct + 1))), (0, .ref o)]) hx hb dX6_stretches_36 hl (k := 2) rfl (inc_n i 1) (by decide) rfl (fun ls hl => ?_)
            refine lv_goto (tgt := 4) hx hb dX6_stretches_39 (by decide) ?_
            exact ih4 (i + 1) (ct + 1) (by first | assumption | omega) (by rw [tx_G_l (by omega) c17, hc]; unfold tx_en; rw [if_pos c30]) (by omega) _ _ hP hD hS ls (lv_sub hl [2, 1, 0] rfl)
  exact loop4 _ 0 0 (by first | assumption | omega) (by rw [tx_G_0 hd1]) (Nat.lt_succ_self _) _ _ hP hD hS ls (lv_sub hl [2, 1, 0] rfl)
set_option maxHeartbeats 4000000 in
set_option maxRecDepth 100000 in
theorem c_X6_taxes (l : Launch) (D : va_G) (cs : Nat → ClassId) (sz : Nat) (o : Nat) (o1 : Nat) (o2 : Nat) (o3 : Nat) (o4 : Nat) (o5 : Nat) (o6 : Nat) (o7 : Nat) (o8 : Nat) (o9 : Nat) (o10 : Nat) (o11 : Nat) (o12 : Nat) (o13 : Nat) (o14 : Nat) (o15 : Nat) (n : Nat) (dy : Nat) (ch : Nat) (lw : Nat) (tz : Nat) (at9 : Nat) (va9 : Nat) (ss : Nat) (im : Bool) (kd : Nat → Nat) (td : Nat → Nat) (by9 : Nat) (hn : n ≤ 4) (hd1 : 1 ≤ dy) (hdy : dy ≤ 21) (htd : ∀ e, td e < 4) (htn : ∀ e, 0 < n → td e < n) (hkd : ∀ e, kd e ≤ 5) (hby : by9 ≤ 5) : mI (S := Unit) l yX6_taxes wsX6_taxes ({ frames := 1, cells := 0, slots := 0, locals := 22 } : Room) D (tyc cs) sz [.ref o, .int (nI by9)] [(o, .inr (6, [.int (nI n), .ref o1, .ref o2, .ref o3, .ref o4, .int (nI dy), .ref o5, .ref o6, .int (nI ch), .int (nI lw), .int (nI tz), .ref o7, .int (nI at9), .int (nI va9), .int (nI ss), .ref o8, .ref o9, .int (bI im), .ref o10, .ref o11, .ref o12, .ref o13, .ref o14, .ref o15])), (o1, aI cs 4 (tx_nf kd)), (o5, aI cs 21 (tx_nf td))] [] (fun (r : Int32) (u : Unit) => r = nI (tx_tax (tx_T n kd td dy) (tx_cg td (dy - 1)) dy by9)) (fun _ => []) 0 0 := by
  unfold mI
  refine Met.ofW (cc := cX6_taxes) (maxL := 8) (ret := (some .int)) (by decide) rfl ?_
  intro p e s m args below meth c s₁ B hml hv
  obtain ⟨rfl, hsz, hP, hK, hD0⟩ := hv
  have hx := B.exec
  have hb := B.bytes
  have hr := B.returns
  have hts := atoms_spec (ws := wsX6_taxes) B.pre
  have hown : s.vm.findClass RX6 = some m.cls := findClass_of_methodNamed B.named
  have hlocks := B.notSynchronized
  subst hsz
  have hR := @en_R _ _ _ [(o, .inr (6, [.int (nI n), .ref o1, .ref o2, .ref o3, .ref o4, .int (nI dy), .ref o5, .ref o6, .int (nI ch), .int (nI lw), .int (nI tz), .ref o7, .int (nI at9), .int (nI va9), .int (nI ss), .ref o8, .ref o9, .int (bI im), .ref o10, .ref o11, .ref o12, .ref o13, .ref o14, .ref o15])), (o1, aI cs 4 (tx_nf kd)), (o5, aI cs 21 (tx_nf td))] [] _ hP hD0
  have hN := adN_of hD0
  have hD := en_D (wr := [(o, .inr (6, [.int (nI n), .ref o1, .ref o2, .ref o3, .ref o4, .int (nI dy), .ref o5, .ref o6, .int (nI ch), .int (nI lw), .int (nI tz), .ref o7, .int (nI at9), .int (nI va9), .int (nI ss), .ref o8, .ref o9, .int (bI im), .ref o10, .ref o11, .ref o12, .ref o13, .ref o14, .ref o15])), (o1, aI cs 4 (tx_nf kd)), (o5, aI cs 21 (tx_nf td))]) (ww := []) (sz := s.heap.size) hD0
  have hP := en_P (wr := [(o, .inr (6, [.int (nI n), .ref o1, .ref o2, .ref o3, .ref o4, .int (nI dy), .ref o5, .ref o6, .int (nI ch), .int (nI lw), .int (nI tz), .ref o7, .int (nI at9), .int (nI va9), .int (nI ss), .ref o8, .ref o9, .int (bI im), .ref o10, .ref o11, .ref o12, .ref o13, .ref o14, .ref o15])), (o1, aI cs 4 (tx_nf kd)), (o5, aI cs 21 (tx_nf td))]) (ww := []) hP
  generalize hAe : va_A [] s.heap.size = A at hD hR ⊢
  have hA : ∀ q : Nat, s.heap.size ≤ q → A q := fun q h => by rw [← hAe]; exact Or.inr h
  have hS : va_S A s.heap s.heap [] := va_S.rf
  have hN : adN [o, o1, o5] := hN
  have hf_22 := hts (.fieldLink RX6 22 "TaxedByLongestModel" "done" "[I") (by decide +kernel)
  have hf_78 := hts (.fieldLink RX6 78 "TaxedByLongestModel" "days" "I") (by decide +kernel)
  have in_X6 : ∀ w ∈ wsX60, w ∈ wsX6_taxes := by decide +kernel
  have hl := lv_entry ([.ref o, .int (nI by9)]) (n := 8) (Nat.le_of_ble_eq_true rfl)
  rw [lg_entry_eq]
  generalize (lg_sl ([.ref o, .int (nI by9)]) ++ List.replicate (8 - (lg_sl ([.ref o, .int (nI by9)])).length) Slot.unset).toArray = ls at hl ⊢
  have hl : lv_has ls 8 [(0, .ref o), (1, .int (nI by9))] := hl
  refine lv_iload_n hx hb dX6_taxes_0 rfl (lv_at hl 1 rfl) ?_
  refine lv_iconst (v := 3) hx hb dX6_taxes_1 (by decide) ?_
  refine bn_ne (a := by9) (b := 3) (tgt := 13) hx hb rfl rfl (by omega) (by decide) dX6_taxes_2 (by decide) (fun c2 => ?_) (fun c2 => ?_)
  · refine lv_iload_n hx hb dX6_taxes_13 rfl (lv_at hl 1 rfl) ?_
    refine lv_iconst (v := 5) hx hb dX6_taxes_14 (by decide) ?_
    refine bn_ne (a := by9) (b := 5) (tgt := 23) hx hb rfl rfl (by omega) (by decide) dX6_taxes_15 (by decide) (fun c15 => ?_) (fun c15 => ?_)
    · refine lv_iconst (v := 0) hx hb dX6_taxes_23 (by decide) ?_
      refine lv_istore_n (lv' := [(2, .int 0), (0, .ref o), (1, .int (nI by9))]) hx hb dX6_taxes_24 rfl hl (by decide) rfl (fun ls hl => ?_)
      refine lv_iconst (v := 0) hx hb dX6_taxes_25 (by decide) ?_
      refine lv_istore_n (lv' := [(3, .int 0), (2, .int 0), (0, .ref o), (1, .int (nI by9))]) hx hb dX6_taxes_26 rfl hl (by decide) rfl (fun ls hl => ?_)
      refine lv_iconst (v := 0) hx hb dX6_taxes_27 (by decide) ?_
      refine lv_istore (lv' := [(4, .int 0), (3, .int 0), (2, .int 0), (0, .ref o), (1, .int (nI by9))]) hx hb dX6_taxes_28 hl (by decide) rfl (fun ls hl => ?_)
      refine lv_iconst (v := 0) hx hb dX6_taxes_30 (by decide) ?_
      refine lv_istore (lv' := [(5, .int 0), (4, .int 0), (3, .int 0), (2, .int 0), (0, .ref o), (1, .int (nI by9))]) hx hb dX6_taxes_31 hl (by decide) rfl (fun ls hl => ?_)
      refine lv_iconst (v := 0) hx hb dX6_taxes_33 (by decide) ?_
      refine lv_istore (lv' := [(6, .int 0), (5, .int 0), (4, .int 0), (3, .int 0), (2, .int 0), (0, .ref o), (1, .int (nI by9))]) hx hb dX6_taxes_34 hl (by decide) rfl (fun ls hl => ?_)
      have loop36 : ∀ (n9 : Nat) (i : Nat) (lo : Nat) (se : Nat) (sh : Nat) (al : Nat) (hi : i ≤ dy) (hlo : lo = (tx_G n kd td dy i).2.1) (hse : se = (tx_G n kd td dy i).2.2.1) (hsh : sh = (tx_G n kd td dy i).2.2.2.1) (hal : al = (tx_G n kd td dy i).2.2.2.2), dy - i < n9 → ∀ (H : Heap) (locs : List Loc), va_P D vwCl [] H → va_D A [] → va_S A s.heap H locs → ∀ (ls : Array Slot), lv_has ls 8 [(0, .ref o), (1, .int (nI by9)), (2, .int (nI lo)), (3, .int (nI se)), (4, .int (nI sh)), (5, .int (nI al)), (6, .int (nI i))] → W p l e (headSpec wsX6_taxes ({ frames := 1, cells := 0, slots := 0, locals := 22 } : Room)).room s m ([.ref o, .int (nI by9)] : List Value).toArray below meth c H locs 0 0 (MQ below (va_Qi (fun (r : Int32) (u : Unit) => r = nI (tx_tax (tx_T n kd td dy) (tx_cg td (dy - 1)) dy by9)) (QB D (fun _ => []) A) A) ([.ref o, .int (nI by9)] : List Value).toArray s 0 0 A) (F0 m 36 ls []) := by
        intro n9
        induction n9 with
        | zero => intros; omega
        | succ n9 ih36 =>
          intro i lo se sh al hi hlo hse hsh hal hmu H locs hP hD hS ls hl
          refine lv_iload hx hb dX6_taxes_36 (lv_at hl 6 rfl) ?_
          refine lv_aload_n hx hb dX6_taxes_38 rfl (lv_at hl 0 rfl) ?_
          refine va_get (D := D) (ci := 6) (v := .int (nI dy)) (C := RX6) (T := TX6) (N := 24) hx hb hts in_X6 hown hK (hR hS) 0 rfl rfl 5 (by decide) hf_78 (fun _ h9 => h9) rfl dX6_taxes_39 ?_
          refine bn_ge (a := i) (b := dy) (tgt := 134) hx hb rfl rfl (by omega) (by omega) dX6_taxes_42 (by decide) (fun c42 => ?_) (fun c42 => ?_)
          · refine lv_iload_n hx hb dX6_taxes_134 rfl (lv_at hl 1 rfl) ?_
            refine bz_ne (a := by9) (tgt := 144) hx hb rfl (by omega) dX6_taxes_135 (by decide) (fun c135 => ?_) (fun c135 => ?_)
            · refine lv_iload_n hx hb dX6_taxes_144 rfl (lv_at hl 1 rfl) ?_
              refine lv_iconst (v := 1) hx hb dX6_taxes_145 (by decide) ?_
              refine bn_ne (a := by9) (b := 1) (tgt := 155) hx hb rfl rfl (by omega) (by decide) dX6_taxes_146 (by decide) (fun c146 => ?_) (fun c146 => ?_)
              · refine lv_iload_n hx hb dX6_taxes_155 rfl (lv_at hl 1 rfl) ?_
                refine lv_iconst (v := 2) hx hb dX6_taxes_156 (by decide) ?_
                refine bn_ne (a := by9) (b := 2) (tgt := 165) hx hb rfl rfl (by omega) (by decide) dX6_taxes_157 (by decide) (fun c157 => ?_) (fun c157 => ?_)
                · refine lv_iload hx hb dX6_taxes_165 (lv_at hl 4 rfl) ?_
                  refine lv_iload hx hb dX6_taxes_167 (lv_at hl 4 rfl) ?_
                  refine lv_imul hx hb dX6_taxes_169 ?_
                  refine tp_i (pk_mul sh sh) ?_
                  have e9 : i = dy := by omega
                  rw [e9] at hlo hse hsh hal
                  exact rt_i hx hb hr hlocks () (by rw [tx_tax, ← tx_G_dy, ← hlo, ← hse, ← hsh, ← hal]; (repeat' split) <;> first | rfl | (exfalso; omega)) hP hD hS dX6_taxes_170
                · refine lv_iload hx hb dX6_taxes_160 (lv_at hl 5 rfl) ?_
                  refine lv_goto (tgt := 170) hx hb dX6_taxes_162 (by decide) ?_
                  have e9 : i = dy := by omega
                  rw [e9] at hlo hse hsh hal
                  exact rt_i hx hb hr hlocks () (by rw [tx_tax, ← tx_G_dy, ← hlo, ← hse, ← hsh, ← hal]; (repeat' split) <;> first | rfl | (exfalso; omega)) hP hD hS dX6_taxes_170
              · refine lv_iload_n hx hb dX6_taxes_149 rfl (lv_at hl 3 rfl) ?_
                refine lv_iload_n hx hb dX6_taxes_150 rfl (lv_at hl 3 rfl) ?_
                refine lv_imul hx hb dX6_taxes_151 ?_
                refine tp_i (pk_mul se se) ?_
                refine lv_goto (tgt := 170) hx hb dX6_taxes_152 (by decide) ?_
                have e9 : i = dy := by omega
                rw [e9] at hlo hse hsh hal
                exact rt_i hx hb hr hlocks () (by rw [tx_tax, ← tx_G_dy, ← hlo, ← hse, ← hsh, ← hal]; (repeat' split) <;> first | rfl | (exfalso; omega)) hP hD hS dX6_taxes_170
            · refine lv_iload_n hx hb dX6_taxes_138 rfl (lv_at hl 2 rfl) ?_
              refine lv_iload_n hx hb dX6_taxes_139 rfl (lv_at hl 2 rfl) ?_
              refine lv_imul hx hb dX6_taxes_140 ?_
              refine tp_i (pk_mul lo lo) ?_
              refine lv_goto (tgt := 170) hx hb dX6_taxes_141 (by decide) ?_
              have e9 : i = dy := by omega
              rw [e9] at hlo hse hsh hal
              exact rt_i hx hb hr hlocks () (by rw [tx_tax, ← tx_G_dy, ← hlo, ← hse, ← hsh, ← hal]; (repeat' split) <;> first | rfl | (exfalso; omega)) hP hD hS dX6_taxes_170
          · refine lv_aload_n hx hb dX6_taxes_45 rfl (lv_at hl 0 rfl) ?_
            refine lv_iload hx hb dX6_taxes_46 (lv_at hl 6 rfl) ?_
            refine cV_i (As := [.int (nI i)]) (rest := []) (cr := [(o, .inr (6, [.int (nI n), .ref o1, .ref o2, .ref o3, .ref o4, .int (nI dy), .ref o5, .ref o6, .int (nI ch), .int (nI lw), .int (nI tz), .ref o7, .int (nI at9), .int (nI va9), .int (nI ss), .ref o8, .ref o9, .int (bI im), .ref o10, .ref o11, .ref o12, .ref o13, .ref o14, .ref o15])), (o5, aI cs 21 (tx_nf td))]) (cw1 := []) ⟨hx, hb, hml, hown, hts⟩ (c_X6_isLast l D cs _ o o1 o2 o3 o4 o5 o6 o7 o8 o9 o10 o11 o12 o13 o14 o15 n dy ch lw tz at9 va9 ss im td i (by first | assumption | omega) (by first | assumption | omega) (by first | assumption | omega)) (cwV 1 hts gX6_taxes_X6_isLast rfl rfl rfl (by decide +kernel) ⟨Nat.le_of_ble_eq_true rfl, Nat.le_of_ble_eq_true rfl⟩) hK hP hD hS hA (((hR hS).app hP).sub [0, 2] rfl) (dt_of hN [0, 2] (by decide) rfl) [] rfl 0 rfl rfl rfl hl.1 rfl (Nat.le_of_ble_eq_true rfl) dX6_taxes_48 ⟨Nat.le_of_ble_eq_true rfl, Nat.le_of_ble_eq_true rfl⟩ (fun _ => rfl) (fun _ => rfl) (fun r_1 u9 H locs hw_2 hP hD hS => ?_)
            have hP : va_P D vwCl [] H := hP
            have hD : va_D A [] := hD
            subst r_1
            refine bd_eq (P := i + 1 = dy ∨ td (i + 1) ≠ td i) (tgt := 128) hx hb rfl dX6_taxes_51 (by decide) (fun c51 => ?_) (fun c51 => ?_)
            · refine lv_iinc (v := nI (i + 1)) (lv' := [(6, .int (nI (i + 1))), (0, .ref o), (1, .int (nI by9)), (2, .int (nI lo)), (3, .int (nI se)), (4, .int (nI sh)), (5, .int (nI al))]) hx hb dX6_taxes_128 hl (k := 6) rfl (inc_n i 1) (by decide) rfl (fun ls hl => ?_)
              refine lv_goto (tgt := 36) hx hb dX6_taxes_131 (by decide) ?_
              exact ih36 (i + 1) lo se sh al (by first | assumption | omega) (by rw [tx_G_n (by omega) c51]; exact hlo) (by rw [tx_G_n (by omega) c51]; exact hse) (by rw [tx_G_n (by omega) c51]; exact hsh) (by rw [tx_G_n (by omega) c51]; exact hal) (by omega) _ _ hP hD hS ls (lv_sub hl [1, 2, 3, 4, 5, 6, 0] rfl)
            · refine lv_aload_n hx hb dX6_taxes_54 rfl (lv_at hl 0 rfl) ?_
              refine lv_aload_n hx hb dX6_taxes_55 rfl (lv_at hl 0 rfl) ?_
              refine va_get (D := D) (ci := 6) (v := .ref o5) (C := RX6) (T := TX6) (N := 24) hx hb hts in_X6 hown hK (hR hS) 0 rfl rfl 6 (by decide) hf_22 (fun _ h9 => h9) rfl dX6_taxes_56 ?_
              refine lv_iload hx hb dX6_taxes_59 (lv_at hl 6 rfl) ?_
              refine ia_n (f := tx_nf td) hx hb hK (hR hS) 2 0 rfl rfl (j := i) rfl (by omega) (by decide) dX6_taxes_61 ?_
              refine tp_i (y := nI (td i)) rfl ?_
              refine cV_i (As := [.int (nI (td i))]) (rest := []) (cr := [(o, .inr (6, [.int (nI n), .ref o1, .ref o2, .ref o3, .ref o4, .int (nI dy), .ref o5, .ref o6, .int (nI ch), .int (nI lw), .int (nI tz), .ref o7, .int (nI at9), .int (nI va9), .int (nI ss), .ref o8, .ref o9, .int (bI im), .ref o10, .ref o11, .ref o12, .ref o13, .ref o14, .ref o15])), (o1, aI cs 4 (tx_nf kd))]) (cw1 := []) ⟨hx, hb, hml, hown, hts⟩ (c_X6_counts l D cs _ o o1 o2 o3 o4 o5 o6 o7 o8 o9 o10 o11 o12 o13 o14 o15 n dy ch lw tz at9 va9 ss im kd (td i) (by first | assumption | omega) (htd _) (htn _) (by first | assumption | omega)) (cwV 1 hts gX6_taxes_X6_counts rfl rfl rfl (by decide +kernel) ⟨Nat.le_of_ble_eq_true rfl, Nat.le_of_ble_eq_true rfl⟩) hK hP hD hS hA (((hR hS).app hP).sub [0, 1] rfl) (dt_of hN [0, 1] (by decide) rfl) [] rfl 0 rfl rfl rfl hl.1 rfl (Nat.le_of_ble_eq_true rfl) dX6_taxes_62 ⟨Nat.le_of_ble_eq_true rfl, Nat.le_of_ble_eq_true rfl⟩ (fun _ => rfl) (fun _ => rfl) (fun r_3 u9 H locs hw_4 hP hD hS => ?_)
              have hP : va_P D vwCl [] H := hP
              have hD : va_D A [] := hD
              subst r_3
              refine bb_ne (b := tx_tx n kd (td i)) (tgt := 71) hx hb rfl dX6_taxes_65 (by decide) (fun c65 => ?_) (fun c65 => ?_)
              · refine lv_aload_n hx hb dX6_taxes_71 rfl (lv_at hl 0 rfl) ?_
                refine lv_iload hx hb dX6_taxes_72 (lv_at hl 6 rfl) ?_
                refine cV_i (As := [.int (nI i)]) (rest := []) (cr := [(o, .inr (6, [.int (nI n), .ref o1, .ref o2, .ref o3, .ref o4, .int (nI dy), .ref o5, .ref o6, .int (nI ch), .int (nI lw), .int (nI tz), .ref o7, .int (nI at9), .int (nI va9), .int (nI ss), .ref o8, .ref o9, .int (bI im), .ref o10, .ref o11, .ref o12, .ref o13, .ref o14, .ref o15])), (o5, aI cs 21 (tx_nf td))]) (cw1 := []) ⟨hx, hb, hml, hown, hts⟩ (c_X6_which l D cs _ o o1 o2 o3 o4 o5 o6 o7 o8 o9 o10 o11 o12 o13 o14 o15 n dy ch lw tz at9 va9 ss im td i (by first | assumption | omega) (by first | assumption | omega)) (cwV 1 hts gX6_taxes_X6_which rfl rfl rfl (by decide +kernel) ⟨Nat.le_of_ble_eq_true rfl, Nat.le_of_ble_eq_true rfl⟩) hK hP hD hS hA (((hR hS).app hP).sub [0, 2] rfl) (dt_of hN [0, 2] (by decide) rfl) [] rfl 0 rfl rfl rfl hl.1 rfl (Nat.le_of_ble_eq_true rfl) dX6_taxes_74 ⟨Nat.le_of_ble_eq_true rfl, Nat.le_of_ble_eq_true rfl⟩ (fun _ => rfl) (fun _ => rfl) (fun r_5 u9 H locs hw_6 hP hD hS => ?_)
                have hP : va_P D vwCl [] H := hP
                have hD : va_D A [] := hD
                subst r_5
                refine lv_istore (lv' := [(7, .int (nI (tx_pl td i))), (0, .ref o), (1, .int (nI by9)), (2, .int (nI lo)), (3, .int (nI se)), (4, .int (nI sh)), (5, .int (nI al)), (6, .int (nI i))]) hx hb dX6_taxes_77 hl (by decide) rfl (fun ls hl => ?_)
                refine lv_iload hx hb dX6_taxes_79 (lv_at hl 6 rfl) ?_
                refine lv_iload hx hb dX6_taxes_81 (lv_at hl 0 rfl) ?_
                refine lv_iload hx hb dX6_taxes_83 (lv_at hl 0 rfl) ?_
                refine lv_imul hx hb dX6_taxes_85 ?_
                refine tp_i (pk_mul (tx_pl td i) (tx_pl td i)) ?_
                refine lv_iadd hx hb dX6_taxes_86 ?_
                refine tp_i (nI_add al ((tx_pl td i) * (tx_pl td i))) ?_
                refine lv_istore (lv' := [(5, .int (nI (al + ((tx_pl td i) * (tx_pl td i))))), (7, .int (nI (tx_pl td i))), (0, .ref o), (1, .int (nI by9)), (2, .int (nI lo)), (3, .int (nI se)), (4, .int (nI sh)), (6, .int (nI i))]) hx hb dX6_taxes_87 hl (by decide) rfl (fun ls hl => ?_)
                have hg9 := tx_G_le (n := n) (kd := kd) (td := td) (dy := dy) (i := i) (by omega)
                have hp9 := tx_pl_le td i
                rw [← hlo, ← hse, ← hsh] at hg9
                refine lv_iload hx hb dX6_taxes_89 (lv_at hl 6 rfl) ?_
                refine bz_eq (a := sh) (tgt := 101) hx hb rfl (by omega) dX6_taxes_91 (by decide) (fun c91 => ?_) (fun c91 => ?_)
                · refine lv_iload hx hb dX6_taxes_101 (lv_at hl 1 rfl) ?_
                  refine lv_istore (lv' := [(4, .int (nI (tx_pl td i))), (5, .int (nI (al + ((tx_pl td i) * (tx_pl td i))))), (7, .int (nI (tx_pl td i))), (0, .ref o), (1, .int (nI by9)), (2, .int (nI lo)), (3, .int (nI se)), (6, .int (nI i))]) hx hb dX6_taxes_103 hl (by decide) rfl (fun ls hl => ?_)
                  refine lv_iload hx hb dX6_taxes_105 (lv_at hl 2 rfl) ?_
                  refine lv_iload_n hx hb dX6_taxes_107 rfl (lv_at hl 5 rfl) ?_
                  refine bn_le (a := tx_pl td i) (b := lo) (tgt := 119) hx hb rfl rfl (by omega) (by omega) dX6_taxes_108 (by decide) (fun c108 => ?_) (fun c108 => ?_)
                  · refine lv_iload hx hb dX6_taxes_119 (lv_at hl 2 rfl) ?_
                    refine lv_iload_n hx hb dX6_taxes_121 rfl (lv_at hl 6 rfl) ?_
                    refine bn_le (a := tx_pl td i) (b := se) (tgt := 128) hx hb rfl rfl (by omega) (by omega) dX6_taxes_122 (by decide) (fun c122 => ?_) (fun c122 => ?_)
                    · refine lv_iinc (v := nI (i + 1)) (lv' := [(6, .int (nI (i + 1))), (4, .int (nI (tx_pl td i))), (5, .int (nI (al + ((tx_pl td i) * (tx_pl td i))))), (7, .int (nI (tx_pl td i))), (0, .ref o), (1, .int (nI by9)), (2, .int (nI lo)), (3, .int (nI se))]) hx hb dX6_taxes_128 hl (k := 7) rfl (inc_n i 1) (by decide) rfl (fun ls hl => ?_)
                      refine lv_goto (tgt := 36) hx hb dX6_taxes_131 (by decide) ?_
                      exact ih36 (i + 1) lo se (tx_pl td i) (al + ((tx_pl td i) * (tx_pl td i))) (by first | assumption | omega) (by rw [tx_G_l (by omega) c51, tx_en_t c65 (tx_G_sh (by omega))]; simp only [← hlo, ← hse, ← hsh, ← hal, c91, Nat.not_lt.mpr c108, Nat.not_lt.mpr c122, if_true, if_false, true_or, or_true, or_false, false_or]) (by rw [tx_G_l (by omega) c51, tx_en_t c65 (tx_G_sh (by omega))]; simp only [← hlo, ← hse, ← hsh, ← hal, c91, Nat.not_lt.mpr c108, Nat.not_lt.mpr c122, if_true, if_false, true_or, or_true, or_false, false_or]) (by rw [tx_G_l (by omega) c51, tx_en_t c65 (tx_G_sh (by omega))]; simp only [← hlo, ← hse, ← hsh, ← hal, c91, Nat.not_lt.mpr c108, Nat.not_lt.mpr c122, if_true, if_false, true_or, or_true, or_false, false_or]) (by rw [tx_G_l (by omega) c51, tx_en_t c65 (tx_G_sh (by omega))]; simp only [← hlo, ← hse, ← hsh, ← hal, c91, Nat.not_lt.mpr c108, Nat.not_lt.mpr c122, if_true, if_false, true_or, or_true, or_false, false_or]) (by omega) _ _ hP hD hS ls (lv_sub hl [4, 5, 6, 7, 1, 2, 0] rfl)
                    · refine lv_iload hx hb dX6_taxes_125 (lv_at hl 2 rfl) ?_
                      refine lv_istore_n (lv' := [(3, .int (nI (tx_pl td i))), (4, .int (nI (tx_pl td i))), (5, .int (nI (al + ((tx_pl td i) * (tx_pl td i))))), (7, .int (nI (tx_pl td i))), (0, .ref o), (1, .int (nI by9)), (2, .int (nI lo)), (6, .int (nI i))]) hx hb dX6_taxes_127 rfl hl (by decide) rfl (fun ls hl => ?_)
                      refine lv_iinc (v := nI (i + 1)) (lv' := [(6, .int (nI (i + 1))), (3, .int (nI (tx_pl td i))), (4, .int (nI (tx_pl td i))), (5, .int (nI (al + ((tx_pl td i) * (tx_pl td i))))), (7, .int (nI (tx_pl td i))), (0, .ref o), (1, .int (nI by9)), (2, .int (nI lo))]) hx hb dX6_taxes_128 hl (k := 7) rfl (inc_n i 1) (by decide) rfl (fun ls hl => ?_)
                      refine lv_goto (tgt := 36) hx hb dX6_taxes_131 (by decide) ?_
                      exact ih36 (i + 1) lo (tx_pl td i) (tx_pl td i) (al + ((tx_pl td i) * (tx_pl td i))) (by first | assumption | omega) (by rw [tx_G_l (by omega) c51, tx_en_t c65 (tx_G_sh (by omega))]; simp only [← hlo, ← hse, ← hsh, ← hal, c91, Nat.not_lt.mpr c108, c122, if_true, if_false, true_or, or_true, or_false, false_or]) (by rw [tx_G_l (by omega) c51, tx_en_t c65 (tx_G_sh (by omega))]; simp only [← hlo, ← hse, ← hsh, ← hal, c91, Nat.not_lt.mpr c108, c122, if_true, if_false, true_or, or_true, or_false, false_or]) (by rw [tx_G_l (by omega) c51, tx_en_t c65 (tx_G_sh (by omega))]; simp only [← hlo, ← hse, ← hsh, ← hal, c91, Nat.not_lt.mpr c108, c122, if_true, if_false, true_or, or_true, or_false, false_or]) (by rw [tx_G_l (by omega) c51, tx_en_t c65 (tx_G_sh (by omega))]; simp only [← hlo, ← hse, ← hsh, ← hal, c91, Nat.not_lt.mpr c108, c122, if_true, if_false, true_or, or_true, or_false, false_or]) (by omega) _ _ hP hD hS ls (lv_sub hl [5, 6, 7, 1, 2, 3, 0] rfl)
                  · refine lv_iload_n hx hb dX6_taxes_111 rfl (lv_at hl 5 rfl) ?_
                    refine lv_istore_n (lv' := [(3, .int (nI lo)), (4, .int (nI (tx_pl td i))), (5, .int (nI (al + ((tx_pl td i) * (tx_pl td i))))), (7, .int (nI (tx_pl td i))), (0, .ref o), (1, .int (nI by9)), (2, .int (nI lo)), (6, .int (nI i))]) hx hb dX6_taxes_112 rfl hl (by decide) rfl (fun ls hl => ?_)
                    refine lv_iload hx hb dX6_taxes_113 (lv_at hl 3 rfl) ?_
                    refine lv_istore_n (lv' := [(2, .int (nI (tx_pl td i))), (3, .int (nI lo)), (4, .int (nI (tx_pl td i))), (5, .int (nI (al + ((tx_pl td i) * (tx_pl td i))))), (7, .int (nI (tx_pl td i))), (0, .ref o), (1, .int (nI by9)), (6, .int (nI i))]) hx hb dX6_taxes_115 rfl hl (by decide) rfl (fun ls hl => ?_)
                    refine lv_goto (tgt := 128) hx hb dX6_taxes_116 (by decide) ?_
                    refine lv_iinc (v := nI (i + 1)) (lv' := [(6, .int (nI (i + 1))), (2, .int (nI (tx_pl td i))), (3, .int (nI lo)), (4, .int (nI (tx_pl td i))), (5, .int (nI (al + ((tx_pl td i) * (tx_pl td i))))), (7, .int (nI (tx_pl td i))), (0, .ref o), (1, .int (nI by9))]) hx hb dX6_taxes_128 hl (k := 7) rfl (inc_n i 1) (by decide) rfl (fun ls hl => ?_)
                    refine lv_goto (tgt := 36) hx hb dX6_taxes_131 (by decide) ?_
                    exact ih36 (i + 1) (tx_pl td i) lo (tx_pl td i) (al + ((tx_pl td i) * (tx_pl td i))) (by first | assumption | omega) (by rw [tx_G_l (by omega) c51, tx_en_t c65 (tx_G_sh (by omega))]; simp only [← hlo, ← hse, ← hsh, ← hal, c91, c108, if_true, if_false, true_or, or_true, or_false, false_or]) (by rw [tx_G_l (by omega) c51, tx_en_t c65 (tx_G_sh (by omega))]; simp only [← hlo, ← hse, ← hsh, ← hal, c91, c108, if_true, if_false, true_or, or_true, or_false, false_or]) (by rw [tx_G_l (by omega) c51, tx_en_t c65 (tx_G_sh (by omega))]; simp only [← hlo, ← hse, ← hsh, ← hal, c91, c108, if_true, if_false, true_or, or_true, or_false, false_or]) (by rw [tx_G_l (by omega) c51, tx_en_t c65 (tx_G_sh (by omega))]; simp only [← hlo, ← hse, ← hsh, ← hal, c91, c108, if_true, if_false, true_or, or_true, or_false, false_or]) (by omega) _ _ hP hD hS ls (lv_sub hl [6, 7, 1, 2, 3, 4, 0] rfl)
                · refine lv_iload hx hb dX6_taxes_94 (lv_at hl 1 rfl) ?_
                  refine lv_iload hx hb dX6_taxes_96 (lv_at hl 6 rfl) ?_
                  refine bn_ge (a := tx_pl td i) (b := sh) (tgt := 105) hx hb rfl rfl (by omega) (by omega) dX6_taxes_98 (by decide) (fun c98 => ?_) (fun c98 => ?_)
                  · refine lv_iload hx hb dX6_taxes_105 (lv_at hl 1 rfl) ?_
                    refine lv_iload_n hx hb dX6_taxes_107 rfl (lv_at hl 4 rfl) ?_
                    refine bn_le (a := tx_pl td i) (b := lo) (tgt := 119) hx hb rfl rfl (by omega) (by omega) dX6_taxes_108 (by decide) (fun c108 => ?_) (fun c108 => ?_)
                    · refine lv_iload hx hb dX6_taxes_119 (lv_at hl 1 rfl) ?_
                      refine lv_iload_n hx hb dX6_taxes_121 rfl (lv_at hl 5 rfl) ?_
                      refine bn_le (a := tx_pl td i) (b := se) (tgt := 128) hx hb rfl rfl (by omega) (by omega) dX6_taxes_122 (by decide) (fun c122 => ?_) (fun c122 => ?_)
                      · refine lv_iinc (v := nI (i + 1)) (lv' := [(6, .int (nI (i + 1))), (5, .int (nI (al + ((tx_pl td i) * (tx_pl td i))))), (7, .int (nI (tx_pl td i))), (0, .ref o), (1, .int (nI by9)), (2, .int (nI lo)), (3, .int (nI se)), (4, .int (nI sh))]) hx hb dX6_taxes_128 hl (k := 7) rfl (inc_n i 1) (by decide) rfl (fun ls hl => ?_)
                        refine lv_goto (tgt := 36) hx hb dX6_taxes_131 (by decide) ?_
                        exact ih36 (i + 1) lo se sh (al + ((tx_pl td i) * (tx_pl td i))) (by first | assumption | omega) (by rw [tx_G_l (by omega) c51, tx_en_t c65 (tx_G_sh (by omega))]; simp only [← hlo, ← hse, ← hsh, ← hal, Nat.pos_iff_ne_zero.mp c91, Nat.not_lt.mpr c98, Nat.not_lt.mpr c108, Nat.not_lt.mpr c122, if_true, if_false, true_or, or_true, or_false, false_or]) (by rw [tx_G_l (by omega) c51, tx_en_t c65 (tx_G_sh (by omega))]; simp only [← hlo, ← hse, ← hsh, ← hal, Nat.pos_iff_ne_zero.mp c91, Nat.not_lt.mpr c98, Nat.not_lt.mpr c108, Nat.not_lt.mpr c122, if_true, if_false, true_or, or_true, or_false, false_or]) (by rw [tx_G_l (by omega) c51, tx_en_t c65 (tx_G_sh (by omega))]; simp only [← hlo, ← hse, ← hsh, ← hal, Nat.pos_iff_ne_zero.mp c91, Nat.not_lt.mpr c98, Nat.not_lt.mpr c108, Nat.not_lt.mpr c122, if_true, if_false, true_or, or_true, or_false, false_or]) (by rw [tx_G_l (by omega) c51, tx_en_t c65 (tx_G_sh (by omega))]; simp only [← hlo, ← hse, ← hsh, ← hal, Nat.pos_iff_ne_zero.mp c91, Nat.not_lt.mpr c98, Nat.not_lt.mpr c108, Nat.not_lt.mpr c122, if_true, if_false, true_or, or_true, or_false, false_or]) (by omega) _ _ hP hD hS ls (lv_sub hl [3, 4, 5, 6, 7, 1, 0] rfl)
                      · refine lv_iload hx hb dX6_taxes_125 (lv_at hl 1 rfl) ?_
                        refine lv_istore_n (lv' := [(3, .int (nI (tx_pl td i))), (5, .int (nI (al + ((tx_pl td i) * (tx_pl td i))))), (7, .int (nI (tx_pl td i))), (0, .ref o), (1, .int (nI by9)), (2, .int (nI lo)), (4, .int (nI sh)), (6, .int (nI i))]) hx hb dX6_taxes_127 rfl hl (by decide) rfl (fun ls hl => ?_)
                        refine lv_iinc (v := nI (i + 1)) (lv' := [(6, .int (nI (i + 1))), (3, .int (nI (tx_pl td i))), (5, .int (nI (al + ((tx_pl td i) * (tx_pl td i))))), (7, .int (nI (tx_pl td i))), (0, .ref o), (1, .int (nI by9)), (2, .int (nI lo)), (4, .int (nI sh))]) hx hb dX6_taxes_128 hl (k := 7) rfl (inc_n i 1) (by decide) rfl (fun ls hl => ?_)
                        refine lv_goto (tgt := 36) hx hb dX6_taxes_131 (by decide) ?_
                        exact ih36 (i + 1) lo (tx_pl td i) sh (al + ((tx_pl td i) * (tx_pl td i))) (by first | assumption | omega) (by rw [tx_G_l (by omega) c51, tx_en_t c65 (tx_G_sh (by omega))]; simp only [← hlo, ← hse, ← hsh, ← hal, Nat.pos_iff_ne_zero.mp c91, Nat.not_lt.mpr c98, Nat.not_lt.mpr c108, c122, if_true, if_false, true_or, or_true, or_false, false_or]) (by rw [tx_G_l (by omega) c51, tx_en_t c65 (tx_G_sh (by omega))]; simp only [← hlo, ← hse, ← hsh, ← hal, Nat.pos_iff_ne_zero.mp c91, Nat.not_lt.mpr c98, Nat.not_lt.mpr c108, c122, if_true, if_false, true_or, or_true, or_false, false_or]) (by rw [tx_G_l (by omega) c51, tx_en_t c65 (tx_G_sh (by omega))]; simp only [← hlo, ← hse, ← hsh, ← hal, Nat.pos_iff_ne_zero.mp c91, Nat.not_lt.mpr c98, Nat.not_lt.mpr c108, c122, if_true, if_false, true_or, or_true, or_false, false_or]) (by rw [tx_G_l (by omega) c51, tx_en_t c65 (tx_G_sh (by omega))]; simp only [← hlo, ← hse, ← hsh, ← hal, Nat.pos_iff_ne_zero.mp c91, Nat.not_lt.mpr c98, Nat.not_lt.mpr c108, c122, if_true, if_false, true_or, or_true, or_false, false_or]) (by omega) _ _ hP hD hS ls (lv_sub hl [4, 5, 6, 1, 7, 2, 0] rfl)
                    · refine lv_iload_n hx hb dX6_taxes_111 rfl (lv_at hl 4 rfl) ?_
                      refine lv_istore_n (lv' := [(3, .int (nI lo)), (5, .int (nI (al + ((tx_pl td i) * (tx_pl td i))))), (7, .int (nI (tx_pl td i))), (0, .ref o), (1, .int (nI by9)), (2, .int (nI lo)), (4, .int (nI sh)), (6, .int (nI i))]) hx hb dX6_taxes_112 rfl hl (by decide) rfl (fun ls hl => ?_)
                      refine lv_iload hx hb dX6_taxes_113 (lv_at hl 2 rfl) ?_
                      refine lv_istore_n (lv' := [(2, .int (nI (tx_pl td i))), (3, .int (nI lo)), (5, .int (nI (al + ((tx_pl td i) * (tx_pl td i))))), (7, .int (nI (tx_pl td i))), (0, .ref o), (1, .int (nI by9)), (4, .int (nI sh)), (6, .int (nI i))]) hx hb dX6_taxes_115 rfl hl (by decide) rfl (fun ls hl => ?_)
                      refine lv_goto (tgt := 128) hx hb dX6_taxes_116 (by decide) ?_
                      refine lv_iinc (v := nI (i + 1)) (lv' := [(6, .int (nI (i + 1))), (2, .int (nI (tx_pl td i))), (3, .int (nI lo)), (5, .int (nI (al + ((tx_pl td i) * (tx_pl td i))))), (7, .int (nI (tx_pl td i))), (0, .ref o), (1, .int (nI by9)), (4, .int (nI sh))]) hx hb dX6_taxes_128 hl (k := 7) rfl (inc_n i 1) (by decide) rfl (fun ls hl => ?_)
                      refine lv_goto (tgt := 36) hx hb dX6_taxes_131 (by decide) ?_
                      exact ih36 (i + 1) (tx_pl td i) lo sh (al + ((tx_pl td i) * (tx_pl td i))) (by first | assumption | omega) (by rw [tx_G_l (by omega) c51, tx_en_t c65 (tx_G_sh (by omega))]; simp only [← hlo, ← hse, ← hsh, ← hal, Nat.pos_iff_ne_zero.mp c91, Nat.not_lt.mpr c98, c108, if_true, if_false, true_or, or_true, or_false, false_or]) (by rw [tx_G_l (by omega) c51, tx_en_t c65 (tx_G_sh (by omega))]; simp only [← hlo, ← hse, ← hsh, ← hal, Nat.pos_iff_ne_zero.mp c91, Nat.not_lt.mpr c98, c108, if_true, if_false, true_or, or_true, or_false, false_or]) (by rw [tx_G_l (by omega) c51, tx_en_t c65 (tx_G_sh (by omega))]; simp only [← hlo, ← hse, ← hsh, ← hal, Nat.pos_iff_ne_zero.mp c91, Nat.not_lt.mpr c98, c108, if_true, if_false, true_or, or_true, or_false, false_or]) (by rw [tx_G_l (by omega) c51, tx_en_t c65 (tx_G_sh (by omega))]; simp only [← hlo, ← hse, ← hsh, ← hal, Nat.pos_iff_ne_zero.mp c91, Nat.not_lt.mpr c98, c108, if_true, if_false, true_or, or_true, or_false, false_or]) (by omega) _ _ hP hD hS ls (lv_sub hl [5, 6, 1, 2, 7, 3, 0] rfl)
                  · refine lv_iload hx hb dX6_taxes_101 (lv_at hl 1 rfl) ?_
                    refine lv_istore (lv' := [(4, .int (nI (tx_pl td i))), (5, .int (nI (al + ((tx_pl td i) * (tx_pl td i))))), (7, .int (nI (tx_pl td i))), (0, .ref o), (1, .int (nI by9)), (2, .int (nI lo)), (3, .int (nI se)), (6, .int (nI i))]) hx hb dX6_taxes_103 hl (by decide) rfl (fun ls hl => ?_)
                    refine lv_iload hx hb dX6_taxes_105 (lv_at hl 2 rfl) ?_
                    refine lv_iload_n hx hb dX6_taxes_107 rfl (lv_at hl 5 rfl) ?_
                    refine bn_le (a := tx_pl td i) (b := lo) (tgt := 119) hx hb rfl rfl (by omega) (by omega) dX6_taxes_108 (by decide) (fun c108 => ?_) (fun c108 => ?_)
                    · refine lv_iload hx hb dX6_taxes_119 (lv_at hl 2 rfl) ?_
                      refine lv_iload_n hx hb dX6_taxes_121 rfl (lv_at hl 6 rfl) ?_
                      refine bn_le (a := tx_pl td i) (b := se) (tgt := 128) hx hb rfl rfl (by omega) (by omega) dX6_taxes_122 (by decide) (fun c122 => ?_) (fun c122 => ?_)
                      · refine lv_iinc (v := nI (i + 1)) (lv' := [(6, .int (nI (i + 1))), (4, .int (nI (tx_pl td i))), (5, .int (nI (al + ((tx_pl td i) * (tx_pl td i))))), (7, .int (nI (tx_pl td i))), (0, .ref o), (1, .int (nI by9)), (2, .int (nI lo)), (3, .int (nI se))]) hx hb dX6_taxes_128 hl (k := 7) rfl (inc_n i 1) (by decide) rfl (fun ls hl => ?_)
                        refine lv_goto (tgt := 36) hx hb dX6_taxes_131 (by decide) ?_
                        exact ih36 (i + 1) lo se (tx_pl td i) (al + ((tx_pl td i) * (tx_pl td i))) (by first | assumption | omega) (by rw [tx_G_l (by omega) c51, tx_en_t c65 (tx_G_sh (by omega))]; simp only [← hlo, ← hse, ← hsh, ← hal, Nat.pos_iff_ne_zero.mp c91, c98, Nat.not_lt.mpr c108, Nat.not_lt.mpr c122, if_true, if_false, true_or, or_true, or_false, false_or]) (by rw [tx_G_l (by omega) c51, tx_en_t c65 (tx_G_sh (by omega))]; simp only [← hlo, ← hse, ← hsh, ← hal, Nat.pos_iff_ne_zero.mp c91, c98, Nat.not_lt.mpr c108, Nat.not_lt.mpr c122, if_true, if_false, true_or, or_true, or_false, false_or]) (by rw [tx_G_l (by omega) c51, tx_en_t c65 (tx_G_sh (by omega))]; simp only [← hlo, ← hse, ← hsh, ← hal, Nat.pos_iff_ne_zero.mp c91, c98, Nat.not_lt.mpr c108, Nat.not_lt.mpr c122, if_true, if_false, true_or, or_true, or_false, false_or]) (by rw [tx_G_l (by omega) c51, tx_en_t c65 (tx_G_sh (by omega))]; simp only [← hlo, ← hse, ← hsh, ← hal, Nat.pos_iff_ne_zero.mp c91, c98, Nat.not_lt.mpr c108, Nat.not_lt.mpr c122, if_true, if_false, true_or, or_true, or_false, false_or]) (by omega) _ _ hP hD hS ls (lv_sub hl [4, 5, 6, 7, 1, 2, 0] rfl)
                      · refine lv_iload hx hb dX6_taxes_125 (lv_at hl 2 rfl) ?_
                        refine lv_istore_n (lv' := [(3, .int (nI (tx_pl td i))), (4, .int (nI (tx_pl td i))), (5, .int (nI (al + ((tx_pl td i) * (tx_pl td i))))), (7, .int (nI (tx_pl td i))), (0, .ref o), (1, .int (nI by9)), (2, .int (nI lo)), (6, .int (nI i))]) hx hb dX6_taxes_127 rfl hl (by decide) rfl (fun ls hl => ?_)
                        refine lv_iinc (v := nI (i + 1)) (lv' := [(6, .int (nI (i + 1))), (3, .int (nI (tx_pl td i))), (4, .int (nI (tx_pl td i))), (5, .int (nI (al + ((tx_pl td i) * (tx_pl td i))))), (7, .int (nI (tx_pl td i))), (0, .ref o), (1, .int (nI by9)), (2, .int (nI lo))]) hx hb dX6_taxes_128 hl (k := 7) rfl (inc_n i 1) (by decide) rfl (fun ls hl => ?_)
                        refine lv_goto (tgt := 36) hx hb dX6_taxes_131 (by decide) ?_
                        exact ih36 (i + 1) lo (tx_pl td i) (tx_pl td i) (al + ((tx_pl td i) * (tx_pl td i))) (by first | assumption | omega) (by rw [tx_G_l (by omega) c51, tx_en_t c65 (tx_G_sh (by omega))]; simp only [← hlo, ← hse, ← hsh, ← hal, Nat.pos_iff_ne_zero.mp c91, c98, Nat.not_lt.mpr c108, c122, if_true, if_false, true_or, or_true, or_false, false_or]) (by rw [tx_G_l (by omega) c51, tx_en_t c65 (tx_G_sh (by omega))]; simp only [← hlo, ← hse, ← hsh, ← hal, Nat.pos_iff_ne_zero.mp c91, c98, Nat.not_lt.mpr c108, c122, if_true, if_false, true_or, or_true, or_false, false_or]) (by rw [tx_G_l (by omega) c51, tx_en_t c65 (tx_G_sh (by omega))]; simp only [← hlo, ← hse, ← hsh, ← hal, Nat.pos_iff_ne_zero.mp c91, c98, Nat.not_lt.mpr c108, c122, if_true, if_false, true_or, or_true, or_false, false_or]) (by rw [tx_G_l (by omega) c51, tx_en_t c65 (tx_G_sh (by omega))]; simp only [← hlo, ← hse, ← hsh, ← hal, Nat.pos_iff_ne_zero.mp c91, c98, Nat.not_lt.mpr c108, c122, if_true, if_false, true_or, or_true, or_false, false_or]) (by omega) _ _ hP hD hS ls (lv_sub hl [5, 6, 7, 1, 2, 3, 0] rfl)
                    · refine lv_iload_n hx hb dX6_taxes_111 rfl (lv_at hl 5 rfl) ?_
                      refine lv_istore_n (lv' := [(3, .int (nI lo)), (4, .int (nI (tx_pl td i))), (5, .int (nI (al + ((tx_pl td i) * (tx_pl td i))))), (7, .int (nI (tx_pl td i))), (0, .ref o), (1, .int (nI by9)), (2, .int (nI lo)), (6, .int (nI i))]) hx hb dX6_taxes_112 rfl hl (by decide) rfl (fun ls hl => ?_)
                      refine lv_iload hx hb dX6_taxes_113 (lv_at hl 3 rfl) ?_
                      refine lv_istore_n (lv' := [(2, .int (nI (tx_pl td i))), (3, .int (nI lo)), (4, .int (nI (tx_pl td i))), (5, .int (nI (al + ((tx_pl td i) * (tx_pl td i))))), (7, .int (nI (tx_pl td i))), (0, .ref o), (1, .int (nI by9)), (6, .int (nI i))]) hx hb dX6_taxes_115 rfl hl (by decide) rfl (fun ls hl => ?_)
                      refine lv_goto (tgt := 128) hx hb dX6_taxes_116 (by decide) ?_
                      refine lv_iinc (v := nI (i + 1)) (lv' := [(6, .int (nI (i + 1))), (2, .int (nI (tx_pl td i))), (3, .int (nI lo)), (4, .int (nI (tx_pl td i))), (5, .int (nI (al + ((tx_pl td i) * (tx_pl td i))))), (7, .int (nI (tx_pl td i))), (0, .ref o), (1, .int (nI by9))]) hx hb dX6_taxes_128 hl (k := 7) rfl (inc_n i 1) (by decide) rfl (fun ls hl => ?_)
                      refine lv_goto (tgt := 36) hx hb dX6_taxes_131 (by decide) ?_
                      exact ih36 (i + 1) (tx_pl td i) lo (tx_pl td i) (al + ((tx_pl td i) * (tx_pl td i))) (by first | assumption | omega) (by rw [tx_G_l (by omega) c51, tx_en_t c65 (tx_G_sh (by omega))]; simp only [← hlo, ← hse, ← hsh, ← hal, Nat.pos_iff_ne_zero.mp c91, c98, c108, if_true, if_false, true_or, or_true, or_false, false_or]) (by rw [tx_G_l (by omega) c51, tx_en_t c65 (tx_G_sh (by omega))]; simp only [← hlo, ← hse, ← hsh, ← hal, Nat.pos_iff_ne_zero.mp c91, c98, c108, if_true, if_false, true_or, or_true, or_false, false_or]) (by rw [tx_G_l (by omega) c51, tx_en_t c65 (tx_G_sh (by omega))]; simp only [← hlo, ← hse, ← hsh, ← hal, Nat.pos_iff_ne_zero.mp c91, c98, c108, if_true, if_false, true_or, or_true, or_false, false_or]) (by rw [tx_G_l (by omega) c51, tx_en_t c65 (tx_G_sh (by omega))]; simp only [← hlo, ← hse, ← hsh, ← hal, Nat.pos_iff_ne_zero.mp c91, c98, c108, if_true, if_false, true_or, or_true, or_false, false_or]) (by omega) _ _ hP hD hS ls (lv_sub hl [6, 7, 1, 2, 3, 4, 0] rfl)
              · refine lv_goto (tgt := 128) hx hb dX6_taxes_68 (by decide) ?_
                refine lv_iinc (v := nI (i + 1)) (lv' := [(6, .int (nI (i + 1))), (0, .ref o), (1, .int (nI by9)), (2, .int (nI lo)), (3, .int (nI se)), (4, .int (nI sh)), (5, .int (nI al))]) hx hb dX6_taxes_128 hl (k := 6) rfl (inc_n i 1) (by decide) rfl (fun ls hl => ?_)
                refine lv_goto (tgt := 36) hx hb dX6_taxes_131 (by decide) ?_
                exact ih36 (i + 1) lo se sh al (by first | assumption | omega) (by rw [tx_G_l (by omega) c51, tx_en_f c65]; exact hlo) (by rw [tx_G_l (by omega) c51, tx_en_f c65]; exact hse) (by rw [tx_G_l (by omega) c51, tx_en_f c65]; exact hsh) (by rw [tx_G_l (by omega) c51, tx_en_f c65]; exact hal) (by omega) _ _ hP hD hS ls (lv_sub hl [1, 2, 3, 4, 5, 6, 0] rfl)
      exact loop36 _ 0 0 0 0 0 (by first | assumption | omega) (by rw [tx_G_0 hd1]) (by rw [tx_G_0 hd1]) (by rw [tx_G_0 hd1]) (by rw [tx_G_0 hd1]) (Nat.lt_succ_self _) _ _ hP hD hS ls (lv_sub hl [5, 6, 4, 3, 2, 1, 0] rfl)
    · refine lv_aload_n hx hb dX6_taxes_18 rfl (lv_at hl 0 rfl) ?_
      refine va_get (D := D) (ci := 6) (v := .int (nI dy)) (C := RX6) (T := TX6) (N := 24) hx hb hts in_X6 hown hK (hR hS) 0 rfl rfl 5 (by decide) hf_78 (fun _ h9 => h9) rfl dX6_taxes_19 ?_
      exact rt_i hx hb hr hlocks () (by rw [tx_tax]; simp [c2, c15]) hP hD hS dX6_taxes_22
  · refine lv_bipush (v := 9) hx hb dX6_taxes_5 (by decide) ?_
    refine lv_aload_n hx hb dX6_taxes_7 rfl (lv_at hl 0 rfl) ?_
    refine cV_i (As := []) (rest := [.int 9]) (cr := [(o, .inr (6, [.int (nI n), .ref o1, .ref o2, .ref o3, .ref o4, .int (nI dy), .ref o5, .ref o6, .int (nI ch), .int (nI lw), .int (nI tz), .ref o7, .int (nI at9), .int (nI va9), .int (nI ss), .ref o8, .ref o9, .int (bI im), .ref o10, .ref o11, .ref o12, .ref o13, .ref o14, .ref o15])), (o5, aI cs 21 (tx_nf td))]) (cw1 := []) ⟨hx, hb, hml, hown, hts⟩ (c_X6_changes l D cs _ o o1 o2 o3 o4 o5 o6 o7 o8 o9 o10 o11 o12 o13 o14 o15 n dy ch lw tz at9 va9 ss im td (by first | assumption | omega) (by first | assumption | omega) (by first | assumption | omega)) (cwV 0 hts gX6_taxes_X6_changes rfl rfl rfl (by decide +kernel) ⟨Nat.le_of_ble_eq_true rfl, Nat.le_of_ble_eq_true rfl⟩) hK hP hD hS hA (((hR hS).app hP).sub [0, 2] rfl) (dt_of hN [0, 2] (by decide) rfl) [] rfl 0 rfl rfl rfl hl.1 rfl (Nat.le_of_ble_eq_true rfl) dX6_taxes_8 ⟨Nat.le_of_ble_eq_true rfl, Nat.le_of_ble_eq_true rfl⟩ (fun _ => rfl) (fun _ => rfl) (fun r_7 u9 H locs hw_8 hP hD hS => ?_)
    have hP : va_P D vwCl [] H := hP
    have hD : va_D A [] := hD
    subst r_7
    refine lv_imul hx hb dX6_taxes_11 ?_
    refine tp_i (pk_mul 9 (tx_cg td (dy - 1))) ?_
    exact rt_i hx hb hr hlocks () (by rw [tx_tax]; simp [c2]) hP hD hS dX6_taxes_12
set_option maxHeartbeats 4000000 in
set_option maxRecDepth 100000 in
theorem c_X6_earnedNow (l : Launch) (D : va_G) (cs : Nat → ClassId) (sz : Nat) (o : Nat) (o1 : Nat) (o2 : Nat) (o3 : Nat) (o4 : Nat) (o5 : Nat) (o6 : Nat) (o7 : Nat) (o8 : Nat) (o9 : Nat) (o10 : Nat) (o11 : Nat) (o12 : Nat) (o13 : Nat) (o14 : Nat) (o15 : Nat) (n : Nat) (dy : Nat) (ch : Nat) (lw : Nat) (tz : Nat) (at9 : Nat) (va9 : Nat) (ss : Nat) (im : Bool) (kd : Nat → Nat) (wo : Nat → Nat) (ha : Nat → Nat) (we : Nat → Nat) (td : Nat → Nat) (hn : n ≤ 4) (hd1 : 1 ≤ dy) (hdy : dy ≤ 21) (htd : ∀ e, td e < 4) (htn : ∀ e, 0 < n → td e < n) (hkd : ∀ e, kd e ≤ 5) (hn0 : 0 < n) : mI (S := Unit) l yX6_earnedNow wsX6_earnedNow ({ frames := 1, cells := 0, slots := 0, locals := 23 } : Room) D (tyc cs) sz [.ref o] [(o, .inr (6, [.int (nI n), .ref o1, .ref o2, .ref o3, .ref o4, .int (nI dy), .ref o5, .ref o6, .int (nI ch), .int (nI lw), .int (nI tz), .ref o7, .int (nI at9), .int (nI va9), .int (nI ss), .ref o8, .ref o9, .int (bI im), .ref o10, .ref o11, .ref o12, .ref o13, .ref o14, .ref o15])), (o1, aI cs 4 (tx_nf kd)), (o2, aI cs 4 (tx_nf wo)), (o3, aI cs 4 (tx_nf ha)), (o4, aI cs 4 (tx_nf we)), (o5, aI cs 21 (tx_nf td))] [] (fun (r : Int32) (u : Unit) => r = iI (tx_earn n kd wo ha we td dy ch)) (fun _ => []) 0 0 := by
  unfold mI
  refine Met.ofW (cc := cX6_earnedNow) (maxL := 3) (ret := (some .int)) (by decide) rfl ?_
  intro p e s m args below meth c s₁ B hml hv
  obtain ⟨rfl, hsz, hP, hK, hD0⟩ := hv
  have hx := B.exec
  have hb := B.bytes
  have hr := B.returns
  have hts := atoms_spec (ws := wsX6_earnedNow) B.pre
  have hown : s.vm.findClass RX6 = some m.cls := findClass_of_methodNamed B.named
  have hlocks := B.notSynchronized
  subst hsz
  have hR := @en_R _ _ _ [(o, .inr (6, [.int (nI n), .ref o1, .ref o2, .ref o3, .ref o4, .int (nI dy), .ref o5, .ref o6, .int (nI ch), .int (nI lw), .int (nI tz), .ref o7, .int (nI at9), .int (nI va9), .int (nI ss), .ref o8, .ref o9, .int (bI im), .ref o10, .ref o11, .ref o12, .ref o13, .ref o14, .ref o15])), (o1, aI cs 4 (tx_nf kd)), (o2, aI cs 4 (tx_nf wo)), (o3, aI cs 4 (tx_nf ha)), (o4, aI cs 4 (tx_nf we)), (o5, aI cs 21 (tx_nf td))] [] _ hP hD0
  have hN := adN_of hD0
  have hD := en_D (wr := [(o, .inr (6, [.int (nI n), .ref o1, .ref o2, .ref o3, .ref o4, .int (nI dy), .ref o5, .ref o6, .int (nI ch), .int (nI lw), .int (nI tz), .ref o7, .int (nI at9), .int (nI va9), .int (nI ss), .ref o8, .ref o9, .int (bI im), .ref o10, .ref o11, .ref o12, .ref o13, .ref o14, .ref o15])), (o1, aI cs 4 (tx_nf kd)), (o2, aI cs 4 (tx_nf wo)), (o3, aI cs 4 (tx_nf ha)), (o4, aI cs 4 (tx_nf we)), (o5, aI cs 21 (tx_nf td))]) (ww := []) (sz := s.heap.size) hD0
  have hP := en_P (wr := [(o, .inr (6, [.int (nI n), .ref o1, .ref o2, .ref o3, .ref o4, .int (nI dy), .ref o5, .ref o6, .int (nI ch), .int (nI lw), .int (nI tz), .ref o7, .int (nI at9), .int (nI va9), .int (nI ss), .ref o8, .ref o9, .int (bI im), .ref o10, .ref o11, .ref o12, .ref o13, .ref o14, .ref o15])), (o1, aI cs 4 (tx_nf kd)), (o2, aI cs 4 (tx_nf wo)), (o3, aI cs 4 (tx_nf ha)), (o4, aI cs 4 (tx_nf we)), (o5, aI cs 21 (tx_nf td))]) (ww := []) hP
  generalize hAe : va_A [] s.heap.size = A at hD hR ⊢
  have hA : ∀ q : Nat, s.heap.size ≤ q → A q := fun q h => by rw [← hAe]; exact Or.inr h
  have hS : va_S A s.heap s.heap [] := va_S.rf
  have hN : adN [o, o1, o2, o3, o4, o5] := hN
  have hf_22 := hts (.fieldLink RX6 22 "TaxedByLongestModel" "done" "[I") (by decide +kernel)
  have hf_60 := hts (.fieldLink RX6 60 "TaxedByLongestModel" "change" "I") (by decide +kernel)
  have hf_78 := hts (.fieldLink RX6 78 "TaxedByLongestModel" "days" "I") (by decide +kernel)
  have in_X6 : ∀ w ∈ wsX60, w ∈ wsX6_earnedNow := by decide +kernel
  have hl := lv_entry ([.ref o]) (n := 3) (Nat.le_of_ble_eq_true rfl)
  rw [lg_entry_eq]
  generalize (lg_sl ([.ref o]) ++ List.replicate (3 - (lg_sl ([.ref o])).length) Slot.unset).toArray = ls at hl ⊢
  have hl : lv_has ls 3 [(0, .ref o)] := hl
  refine lv_aload_n hx hb dX6_earnedNow_0 rfl (lv_at hl 0 rfl) ?_
  refine va_get (D := D) (ci := 6) (v := .int (nI ch)) (C := RX6) (T := TX6) (N := 24) hx hb hts in_X6 hown hK (hR hS) 0 rfl rfl 8 (by decide) hf_60 (fun _ h9 => h9) rfl dX6_earnedNow_1 ?_
  refine lv_ineg hx hb dX6_earnedNow_4 ?_
  refine tp_i (neg_iI (a := (ch : Int)) (nI_iI _)) ?_
  refine lv_aload_n hx hb dX6_earnedNow_5 rfl (lv_at hl 0 rfl) ?_
  refine cV_i (As := []) (rest := [.int (iI (-(ch : Int)))]) (cr := [(o, .inr (6, [.int (nI n), .ref o1, .ref o2, .ref o3, .ref o4, .int (nI dy), .ref o5, .ref o6, .int (nI ch), .int (nI lw), .int (nI tz), .ref o7, .int (nI at9), .int (nI va9), .int (nI ss), .ref o8, .ref o9, .int (bI im), .ref o10, .ref o11, .ref o12, .ref o13, .ref o14, .ref o15])), (o5, aI cs 21 (tx_nf td))]) (cw1 := []) ⟨hx, hb, hml, hown, hts⟩ (c_X6_changes l D cs _ o o1 o2 o3 o4 o5 o6 o7 o8 o9 o10 o11 o12 o13 o14 o15 n dy ch lw tz at9 va9 ss im td (by first | assumption | omega) (by first | assumption | omega) (by first | assumption | omega)) (cwV 0 hts gX6_earnedNow_X6_changes rfl rfl rfl (by decide +kernel) ⟨Nat.le_of_ble_eq_true rfl, Nat.le_of_ble_eq_true rfl⟩) hK hP hD hS hA (((hR hS).app hP).sub [0, 5] rfl) (dt_of hN [0, 5] (by decide) rfl) [] rfl 0 rfl rfl rfl hl.1 rfl (Nat.le_of_ble_eq_true rfl) dX6_earnedNow_6 ⟨Nat.le_of_ble_eq_true rfl, Nat.le_of_ble_eq_true rfl⟩ (fun _ => rfl) (fun _ => rfl) (fun r_1 u9 H locs hw_2 hP hD hS => ?_)
  have hP : va_P D vwCl [] H := hP
  have hD : va_D A [] := hD
  subst r_1
  refine lv_imul hx hb dX6_earnedNow_9 ?_
  refine tp_i (mul_iI (a := -(ch : Int)) (b := ((tx_cg td (dy - 1) : Nat) : Int)) rfl (nI_iI _)) ?_
  refine lv_istore_n (lv' := [(1, .int (iI ((-(ch : Int)) * ((tx_cg td (dy - 1) : Nat) : Int)))), (0, .ref o)]) hx hb dX6_earnedNow_10 rfl hl (by decide) rfl (fun ls hl => ?_)
  refine lv_iconst (v := 0) hx hb dX6_earnedNow_11 (by decide) ?_
  refine lv_istore_n (lv' := [(2, .int 0), (1, .int (iI ((-(ch : Int)) * ((tx_cg td (dy - 1) : Nat) : Int)))), (0, .ref o)]) hx hb dX6_earnedNow_12 rfl hl (by decide) rfl (fun ls hl => ?_)
  have loop13 : ∀ (n9 : Nat) (i : Nat) (sm : Int) (hi : i ≤ dy) (hc : sm = tx_er n kd wo ha we td i - (tx_cg td (dy - 1) : Int) * (ch : Int)), dy - i < n9 → ∀ (H : Heap) (locs : List Loc), va_P D vwCl [] H → va_D A [] → va_S A s.heap H locs → ∀ (ls : Array Slot), lv_has ls 3 [(0, .ref o), (1, .int (iI sm)), (2, .int (nI i))] → W p l e (headSpec wsX6_earnedNow ({ frames := 1, cells := 0, slots := 0, locals := 23 } : Room)).room s m ([.ref o] : List Value).toArray below meth c H locs 0 0 (MQ below (va_Qi (fun (r : Int32) (u : Unit) => r = iI (tx_earn n kd wo ha we td dy ch)) (QB D (fun _ => []) A) A) ([.ref o] : List Value).toArray s 0 0 A) (F0 m 13 ls []) := by
    intro n9
    induction n9 with
    | zero => intros; omega
    | succ n9 ih13 =>
      intro i sm hi hc hmu H locs hP hD hS ls hl
      refine lv_iload_n hx hb dX6_earnedNow_13 rfl (lv_at hl 2 rfl) ?_
      refine lv_aload_n hx hb dX6_earnedNow_14 rfl (lv_at hl 0 rfl) ?_
      refine va_get (D := D) (ci := 6) (v := .int (nI dy)) (C := RX6) (T := TX6) (N := 24) hx hb hts in_X6 hown hK (hR hS) 0 rfl rfl 5 (by decide) hf_78 (fun _ h9 => h9) rfl dX6_earnedNow_15 ?_
      refine bn_ge (a := i) (b := dy) (tgt := 45) hx hb rfl rfl (by omega) (by omega) dX6_earnedNow_18 (by decide) (fun c18 => ?_) (fun c18 => ?_)
      · refine lv_iload_n hx hb dX6_earnedNow_45 rfl (lv_at hl 1 rfl) ?_
        exact rt_i hx hb hr hlocks () (by rw [hc, tx_earn, show i = dy by omega]) hP hD hS dX6_earnedNow_46
      · refine lv_iload_n hx hb dX6_earnedNow_21 rfl (lv_at hl 1 rfl) ?_
        refine lv_aload_n hx hb dX6_earnedNow_22 rfl (lv_at hl 0 rfl) ?_
        refine lv_aload_n hx hb dX6_earnedNow_23 rfl (lv_at hl 0 rfl) ?_
        refine va_get (D := D) (ci := 6) (v := .ref o5) (C := RX6) (T := TX6) (N := 24) hx hb hts in_X6 hown hK (hR hS) 0 rfl rfl 6 (by decide) hf_22 (fun _ h9 => h9) rfl dX6_earnedNow_24 ?_
        refine lv_iload_n hx hb dX6_earnedNow_27 rfl (lv_at hl 2 rfl) ?_
        refine ia_n (f := tx_nf td) hx hb hK (hR hS) 5 0 rfl rfl (j := i) rfl (by omega) (by decide) dX6_earnedNow_28 ?_
        refine tp_i (y := nI (td i)) rfl ?_
        refine lv_aload_n hx hb dX6_earnedNow_29 rfl (lv_at hl 0 rfl) ?_
        refine lv_iload_n hx hb dX6_earnedNow_30 rfl (lv_at hl 2 rfl) ?_
        refine cV_i (As := [.int (nI i)]) (rest := [.int (nI (td i)), .ref o, .int (iI sm)]) (cr := [(o, .inr (6, [.int (nI n), .ref o1, .ref o2, .ref o3, .ref o4, .int (nI dy), .ref o5, .ref o6, .int (nI ch), .int (nI lw), .int (nI tz), .ref o7, .int (nI at9), .int (nI va9), .int (nI ss), .ref o8, .ref o9, .int (bI im), .ref o10, .ref o11, .ref o12, .ref o13, .ref o14, .ref o15])), (o5, aI cs 21 (tx_nf td))]) (cw1 := []) ⟨hx, hb, hml, hown, hts⟩ (c_X6_which l D cs _ o o1 o2 o3 o4 o5 o6 o7 o8 o9 o10 o11 o12 o13 o14 o15 n dy ch lw tz at9 va9 ss im td i (by first | assumption | omega) (by first | assumption | omega)) (cwV 1 hts gX6_earnedNow_X6_which rfl rfl rfl (by decide +kernel) ⟨Nat.le_of_ble_eq_true rfl, Nat.le_of_ble_eq_true rfl⟩) hK hP hD hS hA (((hR hS).app hP).sub [0, 5] rfl) (dt_of hN [0, 5] (by decide) rfl) [] rfl 0 rfl rfl rfl hl.1 rfl (Nat.le_of_ble_eq_true rfl) dX6_earnedNow_31 ⟨Nat.le_of_ble_eq_true rfl, Nat.le_of_ble_eq_true rfl⟩ (fun _ => rfl) (fun _ => rfl) (fun r_3 u9 H locs hw_4 hP hD hS => ?_)
        have hP : va_P D vwCl [] H := hP
        have hD : va_D A [] := hD
        subst r_3
        refine cV_i (As := [.int (nI (td i)), .int (nI (tx_pl td i))]) (rest := [.int (iI sm)]) (cr := [(o, .inr (6, [.int (nI n), .ref o1, .ref o2, .ref o3, .ref o4, .int (nI dy), .ref o5, .ref o6, .int (nI ch), .int (nI lw), .int (nI tz), .ref o7, .int (nI at9), .int (nI va9), .int (nI ss), .ref o8, .ref o9, .int (bI im), .ref o10, .ref o11, .ref o12, .ref o13, .ref o14, .ref o15])), (o1, aI cs 4 (tx_nf kd)), (o2, aI cs 4 (tx_nf wo)), (o3, aI cs 4 (tx_nf ha)), (o4, aI cs 4 (tx_nf we))]) (cw1 := []) ⟨hx, hb, hml, hown, hts⟩ (c_X6_worthOf l D cs _ o o1 o2 o3 o4 o5 o6 o7 o8 o9 o10 o11 o12 o13 o14 o15 n dy ch lw tz at9 va9 ss im kd wo ha we (td i) (tx_pl td i) (htd _) (by have := tx_pl_le td i; omega) (by first | assumption | omega)) (cwV 2 hts gX6_earnedNow_X6_worthOf rfl rfl rfl (by decide +kernel) ⟨Nat.le_of_ble_eq_true rfl, Nat.le_of_ble_eq_true rfl⟩) hK hP hD hS hA (((hR hS).app hP).sub [0, 1, 2, 3, 4] rfl) (dt_of hN [0, 1, 2, 3, 4] (by decide) rfl) [] rfl 0 rfl rfl rfl hl.1 rfl (Nat.le_of_ble_eq_true rfl) dX6_earnedNow_34 ⟨Nat.le_of_ble_eq_true rfl, Nat.le_of_ble_eq_true rfl⟩ (fun _ => rfl) (fun _ => rfl) (fun r_5 u9 H locs hw_6 hP hD hS => ?_)
        have hP : va_P D vwCl [] H := hP
        have hD : va_D A [] := hD
        subst r_5
        refine lv_iadd hx hb dX6_earnedNow_37 ?_
        refine tp_i (add_iI (a := sm) (b := tx_vl kd wo ha we (td i) (tx_pl td i)) rfl rfl) ?_
        refine lv_istore_n (lv' := [(1, .int (iI (sm + (tx_vl kd wo ha we (td i) (tx_pl td i))))), (0, .ref o), (2, .int (nI i))]) hx hb dX6_earnedNow_38 rfl hl (by decide) rfl (fun ls hl => ?_)
        refine lv_iinc (v := nI (i + 1)) (lv' := [(2, .int (nI (i + 1))), (1, .int (iI (sm + (tx_vl kd wo ha we (td i) (tx_pl td i))))), (0, .ref o)]) hx hb dX6_earnedNow_39 hl (k := 2) rfl (inc_n i 1) (by decide) rfl (fun ls hl => ?_)
        refine lv_goto (tgt := 13) hx hb dX6_earnedNow_42 (by decide) ?_
        exact ih13 (i + 1) (sm + (tx_vl kd wo ha we (td i) (tx_pl td i))) (by first | assumption | omega) (by rw [tx_er, tx_vn, if_pos (htn _ hn0), hc]; omega) (by omega) _ _ hP hD hS ls (lv_sub hl [2, 1, 0] rfl)
  exact loop13 _ 0 ((-(ch : Int)) * ((tx_cg td (dy - 1) : Nat) : Int)) (by first | assumption | omega) (by rw [tx_er, Int.neg_mul, Int.mul_comm, Int.zero_sub]) (Nat.lt_succ_self _) _ _ hP hD hS ls (lv_sub hl [2, 1, 0] rfl)
set_option maxHeartbeats 4000000 in
set_option maxRecDepth 100000 in
theorem c_X6_leftNow (l : Launch) (D : va_G) (cs : Nat → ClassId) (sz : Nat) (o : Nat) (o1 : Nat) (o2 : Nat) (o3 : Nat) (o4 : Nat) (o5 : Nat) (o6 : Nat) (o7 : Nat) (o8 : Nat) (o9 : Nat) (o10 : Nat) (o11 : Nat) (o12 : Nat) (o13 : Nat) (o14 : Nat) (o15 : Nat) (n : Nat) (dy : Nat) (ch : Nat) (lw : Nat) (tz : Nat) (at9 : Nat) (va9 : Nat) (ss : Nat) (im : Bool) (kd : Nat → Nat) (wo : Nat → Nat) (ha : Nat → Nat) (we : Nat → Nat) (td : Nat → Nat) (hn : n ≤ 4) (hd1 : 1 ≤ dy) (hdy : dy ≤ 21) (htd : ∀ e, td e < 4) (htn : ∀ e, 0 < n → td e < n) (hkd : ∀ e, kd e ≤ 5) (hn0 : 0 < n) (hlw : lw ≤ 5) : mI (S := Unit) l yX6_leftNow wsX6_leftNow ({ frames := 2, cells := 0, slots := 0, locals := 49 } : Room) D (tyc cs) sz [.ref o] [(o, .inr (6, [.int (nI n), .ref o1, .ref o2, .ref o3, .ref o4, .int (nI dy), .ref o5, .ref o6, .int (nI ch), .int (nI lw), .int (nI tz), .ref o7, .int (nI at9), .int (nI va9), .int (nI ss), .ref o8, .ref o9, .int (bI im), .ref o10, .ref o11, .ref o12, .ref o13, .ref o14, .ref o15])), (o1, aI cs 4 (tx_nf kd)), (o2, aI cs 4 (tx_nf wo)), (o3, aI cs 4 (tx_nf ha)), (o4, aI cs 4 (tx_nf we)), (o5, aI cs 21 (tx_nf td))] [] (fun (r : Int32) (u : Unit) => r = iI (tx_left n kd wo ha we td dy ch lw)) (fun _ => []) 0 0 := by
  unfold mI
  refine Met.ofW (cc := cX6_leftNow) (maxL := 1) (ret := (some .int)) (by decide) rfl ?_
  intro p e s m args below meth c s₁ B hml hv
  obtain ⟨rfl, hsz, hP, hK, hD0⟩ := hv
  have hx := B.exec
  have hb := B.bytes
  have hr := B.returns
  have hts := atoms_spec (ws := wsX6_leftNow) B.pre
  have hown : s.vm.findClass RX6 = some m.cls := findClass_of_methodNamed B.named
  have hlocks := B.notSynchronized
  subst hsz
  have hR := @en_R _ _ _ [(o, .inr (6, [.int (nI n), .ref o1, .ref o2, .ref o3, .ref o4, .int (nI dy), .ref o5, .ref o6, .int (nI ch), .int (nI lw), .int (nI tz), .ref o7, .int (nI at9), .int (nI va9), .int (nI ss), .ref o8, .ref o9, .int (bI im), .ref o10, .ref o11, .ref o12, .ref o13, .ref o14, .ref o15])), (o1, aI cs 4 (tx_nf kd)), (o2, aI cs 4 (tx_nf wo)), (o3, aI cs 4 (tx_nf ha)), (o4, aI cs 4 (tx_nf we)), (o5, aI cs 21 (tx_nf td))] [] _ hP hD0
  have hN := adN_of hD0
  have hD := en_D (wr := [(o, .inr (6, [.int (nI n), .ref o1, .ref o2, .ref o3, .ref o4, .int (nI dy), .ref o5, .ref o6, .int (nI ch), .int (nI lw), .int (nI tz), .ref o7, .int (nI at9), .int (nI va9), .int (nI ss), .ref o8, .ref o9, .int (bI im), .ref o10, .ref o11, .ref o12, .ref o13, .ref o14, .ref o15])), (o1, aI cs 4 (tx_nf kd)), (o2, aI cs 4 (tx_nf wo)), (o3, aI cs 4 (tx_nf ha)), (o4, aI cs 4 (tx_nf we)), (o5, aI cs 21 (tx_nf td))]) (ww := []) (sz := s.heap.size) hD0
  have hP := en_P (wr := [(o, .inr (6, [.int (nI n), .ref o1, .ref o2, .ref o3, .ref o4, .int (nI dy), .ref o5, .ref o6, .int (nI ch), .int (nI lw), .int (nI tz), .ref o7, .int (nI at9), .int (nI va9), .int (nI ss), .ref o8, .ref o9, .int (bI im), .ref o10, .ref o11, .ref o12, .ref o13, .ref o14, .ref o15])), (o1, aI cs 4 (tx_nf kd)), (o2, aI cs 4 (tx_nf wo)), (o3, aI cs 4 (tx_nf ha)), (o4, aI cs 4 (tx_nf we)), (o5, aI cs 21 (tx_nf td))]) (ww := []) hP
  generalize hAe : va_A [] s.heap.size = A at hD hR ⊢
  have hA : ∀ q : Nat, s.heap.size ≤ q → A q := fun q h => by rw [← hAe]; exact Or.inr h
  have hS : va_S A s.heap s.heap [] := va_S.rf
  have hN : adN [o, o1, o2, o3, o4, o5] := hN
  have hf_114 := hts (.fieldLink RX6 114 "TaxedByLongestModel" "law" "I") (by decide +kernel)
  have in_X6 : ∀ w ∈ wsX60, w ∈ wsX6_leftNow := by decide +kernel
  have hl := lv_entry ([.ref o]) (n := 1) (Nat.le_of_ble_eq_true rfl)
  rw [lg_entry_eq]
  generalize (lg_sl ([.ref o]) ++ List.replicate (1 - (lg_sl ([.ref o])).length) Slot.unset).toArray = ls at hl ⊢
  have hl : lv_has ls 1 [(0, .ref o)] := hl
  refine lv_aload_n hx hb dX6_leftNow_0 rfl (lv_at hl 0 rfl) ?_
  refine cV_i (As := []) (rest := []) (cr := [(o, .inr (6, [.int (nI n), .ref o1, .ref o2, .ref o3, .ref o4, .int (nI dy), .ref o5, .ref o6, .int (nI ch), .int (nI lw), .int (nI tz), .ref o7, .int (nI at9), .int (nI va9), .int (nI ss), .ref o8, .ref o9, .int (bI im), .ref o10, .ref o11, .ref o12, .ref o13, .ref o14, .ref o15])), (o1, aI cs 4 (tx_nf kd)), (o2, aI cs 4 (tx_nf wo)), (o3, aI cs 4 (tx_nf ha)), (o4, aI cs 4 (tx_nf we)), (o5, aI cs 21 (tx_nf td))]) (cw1 := []) ⟨hx, hb, hml, hown, hts⟩ (c_X6_earnedNow l D cs _ o o1 o2 o3 o4 o5 o6 o7 o8 o9 o10 o11 o12 o13 o14 o15 n dy ch lw tz at9 va9 ss im kd wo ha we td (by first | assumption | omega) (by first | assumption | omega) (by first | assumption | omega) (by first | assumption | omega) (by first | assumption | omega) (by first | assumption | omega) (by first | assumption | omega)) (cwV 0 hts gX6_leftNow_X6_earnedNow rfl rfl rfl (by decide +kernel) ⟨Nat.le_of_ble_eq_true rfl, Nat.le_of_ble_eq_true rfl⟩) hK hP hD hS hA (((hR hS).app hP).sub [0, 1, 2, 3, 4, 5] rfl) (dt_of hN [0, 1, 2, 3, 4, 5] (by decide) rfl) [] rfl 0 rfl rfl rfl hl.1 rfl (Nat.le_of_ble_eq_true rfl) dX6_leftNow_1 ⟨Nat.le_of_ble_eq_true rfl, Nat.le_of_ble_eq_true rfl⟩ (fun _ => rfl) (fun _ => rfl) (fun r_1 u9 H locs hw_2 hP hD hS => ?_)
  have hP : va_P D vwCl [] H := hP
  have hD : va_D A [] := hD
  subst r_1
  refine lv_aload_n hx hb dX6_leftNow_4 rfl (lv_at hl 0 rfl) ?_
  refine lv_aload_n hx hb dX6_leftNow_5 rfl (lv_at hl 0 rfl) ?_
  refine va_get (D := D) (ci := 6) (v := .int (nI lw)) (C := RX6) (T := TX6) (N := 24) hx hb hts in_X6 hown hK (hR hS) 0 rfl rfl 9 (by decide) hf_114 (fun _ h9 => h9) rfl dX6_leftNow_6 ?_
  refine cV_i (As := [.int (nI lw)]) (rest := [.int (iI (tx_earn n kd wo ha we td dy ch))]) (cr := [(o, .inr (6, [.int (nI n), .ref o1, .ref o2, .ref o3, .ref o4, .int (nI dy), .ref o5, .ref o6, .int (nI ch), .int (nI lw), .int (nI tz), .ref o7, .int (nI at9), .int (nI va9), .int (nI ss), .ref o8, .ref o9, .int (bI im), .ref o10, .ref o11, .ref o12, .ref o13, .ref o14, .ref o15])), (o1, aI cs 4 (tx_nf kd)), (o5, aI cs 21 (tx_nf td))]) (cw1 := []) ⟨hx, hb, hml, hown, hts⟩ (c_X6_taxes l D cs _ o o1 o2 o3 o4 o5 o6 o7 o8 o9 o10 o11 o12 o13 o14 o15 n dy ch lw tz at9 va9 ss im kd td lw (by first | assumption | omega) (by first | assumption | omega) (by first | assumption | omega) (by first | assumption | omega) (by first | assumption | omega) (by first | assumption | omega) (by first | assumption | omega)) (cwV 1 hts gX6_leftNow_X6_taxes rfl rfl rfl (by decide +kernel) ⟨Nat.le_of_ble_eq_true rfl, Nat.le_of_ble_eq_true rfl⟩) hK hP hD hS hA (((hR hS).app hP).sub [0, 1, 5] rfl) (dt_of hN [0, 1, 5] (by decide) rfl) [] rfl 0 rfl rfl rfl hl.1 rfl (Nat.le_of_ble_eq_true rfl) dX6_leftNow_9 ⟨Nat.le_of_ble_eq_true rfl, Nat.le_of_ble_eq_true rfl⟩ (fun _ => rfl) (fun _ => rfl) (fun r_3 u9 H locs hw_4 hP hD hS => ?_)
  have hP : va_P D vwCl [] H := hP
  have hD : va_D A [] := hD
  subst r_3
  refine lv_isub hx hb dX6_leftNow_12 ?_
  refine tp_i (sub_iI (a := tx_earn n kd wo ha we td dy ch) (b := ((tx_tax (tx_T n kd td dy) (tx_cg td (dy - 1)) dy lw : Nat) : Int)) rfl (nI_iI _)) ?_
  exact rt_i hx hb hr hlocks () (rfl) hP hD hS dX6_leftNow_13
