set_option maxHeartbeats 4000000 in
set_option maxRecDepth 100000 in
theorem c_fill (l : Launch) (D : va_G) (cs : Nat → ClassId) (sz : Nat) (a0 : Nat) (nn : Nat) (f0 : Nat → Int32) (v0 : Int32) (hnn : nn < 2 ^ 31) : mV (S := Unit) l yJ7_fill_53178 wsJ7_fill_53178 ({ frames := 0, cells := 0, slots := 0, locals := 0 } : Room) D (tyc cs) sz [.ref a0, .int v0] [] [(a0, aI cs nn f0)] (fun (u : Unit) => True) (fun _ => [(a0, aI cs nn (fun _ => v0))]) 0 0 := by
  unfold mV
  refine Met.ofW (cc := cJ7_fill_53178) (maxL := 4) (ret := none) (by decide) rfl ?_
  intro p e s m args below meth c s₁ B hml hv
  obtain ⟨rfl, hsz, hP, hK, hD0⟩ := hv
  have hx := B.exec
  have hb := B.bytes
  have hr := B.returns
  have hts := atoms_spec (ws := wsJ7_fill_53178) B.pre
  have hown : s.vm.findClass RJ7 = some m.cls := findClass_of_methodNamed B.named
  have hlocks := B.notSynchronized
  subst hsz
  have hR := @en_R _ _ _ [] [(a0, aI cs nn f0)] _ hP hD0
  have hN := adN_of hD0
  have hD := en_D (wr := []) (ww := [(a0, aI cs nn f0)]) (sz := s.heap.size) hD0
  have hP := en_P (wr := []) (ww := [(a0, aI cs nn f0)]) hP
  generalize hAe : va_A [(a0, aI cs nn f0)] s.heap.size = A at hD hR ⊢
  have hA : ∀ q : Nat, s.heap.size ≤ q → A q := fun q h => by rw [← hAe]; exact Or.inr h
  have hS : va_S A s.heap s.heap [] := va_S.rf
  have hN : adN [a0] := hN
  have hl := lv_entry ([.ref a0, .int v0]) (n := 4) (Nat.le_of_ble_eq_true rfl)
  rw [lg_entry_eq]
  generalize (lg_sl ([.ref a0, .int v0]) ++ List.replicate (4 - (lg_sl ([.ref a0, .int v0])).length) Slot.unset).toArray = ls at hl ⊢
  have hl : lv_has ls 4 [(0, .ref a0), (1, .int v0)] := hl
  refine lv_iconst (v := 0) hx hb dJ7_fill_53178_0 (by decide) ?_
  refine lv_istore_n (lv' := [(2, .int 0), (0, .ref a0), (1, .int v0)]) hx hb dJ7_fill_53178_1 rfl hl (by decide) rfl (fun ls hl => ?_)
  refine lv_aload_n hx hb dJ7_fill_53178_2 rfl (lv_at hl 1 rfl) ?_
  refine va_alen (v := nI nn) hx hb hK hP 0 0 rfl rfl rfl dJ7_fill_53178_3 ?_
  refine lv_istore_n (lv' := [(3, .int (nI nn)), (2, .int 0), (0, .ref a0), (1, .int v0)]) hx hb dJ7_fill_53178_4 rfl hl (by decide) rfl (fun ls hl => ?_)
  have loop5 : ∀ (n9 : Nat) (i : Nat) (f1 : Nat → Int32) (hi : i ≤ nn) (hf1 : ∀ k, k < i → f1 k = v0), nn - i < n9 → ∀ (H : Heap) (locs : List Loc), va_P D vwCl [(a0, aI cs nn f1)] H → va_D A [(a0, aI cs nn f1)] → va_S A s.heap H locs → ∀ (ls : Array Slot), lv_has ls 4 [(0, .ref a0), (1, .int v0), (2, .int (nI i)), (3, .int (nI nn))] → W p l e (headSpec wsJ7_fill_53178 ({ frames := 0, cells := 0, slots := 0, locals := 0 } : Room)).room s m ([.ref a0, .int v0] : List Value).toArray below meth c H locs 0 0 (MQ below (va_Qv (fun (u : Unit) => True) (QB D (fun _ => [(a0, aI cs nn (fun _ => v0))]) A) A) ([.ref a0, .int v0] : List Value).toArray s 0 0 A) (F0 m 5 ls []) := by
    intro n9
    induction n9 with
    | zero => intros; omega
    | succ n9 ih5 =>
      intro i f1 hi hf1 hmu H locs hP hD hS ls hl
      refine lv_iload_n hx hb dJ7_fill_53178_5 rfl (lv_at hl 2 rfl) ?_
      refine lv_iload_n hx hb dJ7_fill_53178_6 rfl (lv_at hl 3 rfl) ?_
      refine bn_ge (a := i) (b := nn) (tgt := 20) hx hb rfl rfl (by omega) (by omega) dJ7_fill_53178_7 (by decide) (fun c7 => ?_) (fun c7 => ?_)
      · have hP := w_ext hP 0 (fun _ => v0) rfl (fun k hk => hf1 k (by omega))
        have hD : va_D A [(a0, aI cs nn (fun _ => v0))] := d_adr hD rfl
        have hP : va_P D vwCl [(a0, aI cs nn (fun _ => v0))] H := hP
        have hD : va_D A [(a0, aI cs nn (fun _ => v0))] := hD
        exact rt_v hx hb hr hlocks () (trivial) hP hD hS dJ7_fill_53178_20
      · refine lv_aload_n hx hb dJ7_fill_53178_10 rfl (lv_at hl 0 rfl) ?_
        refine lv_iload_n hx hb dJ7_fill_53178_11 rfl (lv_at hl 2 rfl) ?_
        refine lv_iload_n hx hb dJ7_fill_53178_12 rfl (lv_at hl 1 rfl) ?_
        refine is_n (f := f1) hx hb hK hP hD hS 0 0 rfl rfl (j := i) rfl (by omega) (by omega) dJ7_fill_53178_13 (fun H locs hP hD hS => ?_)
        have hP : va_P D vwCl [(a0, aI cs nn (upd f1 i v0))] H := hP
        have hD : va_D A [(a0, aI cs nn (upd f1 i v0))] := hD
        refine lv_iinc (v := nI (i + 1)) (lv' := [(2, .int (nI (i + 1))), (0, .ref a0), (1, .int v0), (3, .int (nI nn))]) hx hb dJ7_fill_53178_14 hl (k := 2) rfl (inc_n i 1) (by decide) rfl (fun ls hl => ?_)
        refine lv_goto (tgt := 5) hx hb dJ7_fill_53178_17 (by decide) ?_
        exact ih5 (i + 1) (upd f1 i v0) (by first | assumption | omega) (fun k hk => by by_cases e : k = i; (subst e; exact pk_us); (rw [pk_un e]; exact hf1 k (by omega))) (by omega) _ _ hP hD hS ls (lv_sub hl [1, 2, 0, 3] rfl)
  exact loop5 _ 0 f0 (by first | assumption | omega) (fun k hk => absurd hk (Nat.not_lt_zero k)) (Nat.lt_succ_self _) _ _ hP hD hS ls (lv_sub hl [2, 3, 1, 0] rfl)
set_option maxHeartbeats 4000000 in
set_option maxRecDepth 100000 in
theorem c_X4_hasThing_n (l : Launch) (D : va_G) (cs : Nat → ClassId) (sz : Nat) (h : Nat) (k0 : Nat) (k1 : Nat) (k2 : Nat) (k3 : Nat) (k4 : Nat) (k5 : Nat) (n : Nat) (dy : Nat) (ch : Nat) (lw : Nat) (t : Nat) (hn : n ≤ 4) (ht : t < 2 ^ 31) : mI (S := Unit) l yX4_hasThing wsX4_hasThing ({ frames := 0, cells := 0, slots := 0, locals := 0 } : Room) D (tyc cs) sz [.ref h, .int (nI t)] [(h, .inr (4, [.ref k0, .ref k1, .ref k2, .ref k3, .ref k4, .ref k5, .int (nI n), .int (nI dy), .int (nI ch), .int (nI lw)]))] [] (fun (r : Int32) (u : Unit) => r = bI (decide (t < n))) (fun _ => []) 0 0 := by
  unfold mI
  refine Met.ofW (cc := cX4_hasThing) (maxL := 2) (ret := (some .boolean)) (by decide) rfl ?_
  intro p e s m args below meth c s₁ B hml hv
  obtain ⟨rfl, hsz, hP, hK, hD0⟩ := hv
  have hx := B.exec
  have hb := B.bytes
  have hr := B.returns
  have hts := atoms_spec (ws := wsX4_hasThing) B.pre
  have hown : s.vm.findClass RX4 = some m.cls := findClass_of_methodNamed B.named
  have hlocks := B.notSynchronized
  subst hsz
  have hR := @en_R _ _ _ [(h, .inr (4, [.ref k0, .ref k1, .ref k2, .ref k3, .ref k4, .ref k5, .int (nI n), .int (nI dy), .int (nI ch), .int (nI lw)]))] [] _ hP hD0
  have hN := adN_of hD0
  have hD := en_D (wr := [(h, .inr (4, [.ref k0, .ref k1, .ref k2, .ref k3, .ref k4, .ref k5, .int (nI n), .int (nI dy), .int (nI ch), .int (nI lw)]))]) (ww := []) (sz := s.heap.size) hD0
  have hP := en_P (wr := [(h, .inr (4, [.ref k0, .ref k1, .ref k2, .ref k3, .ref k4, .ref k5, .int (nI n), .int (nI dy), .int (nI ch), .int (nI lw)]))]) (ww := []) hP
  generalize hAe : va_A [] s.heap.size = A at hD hR ⊢
  have hA : ∀ q : Nat, s.heap.size ≤ q → A q := fun q h => by rw [← hAe]; exact Or.inr h
  have hS : va_S A s.heap s.heap [] := va_S.rf
  have hN : adN [h] := hN
  have hf_30 := hts (.fieldLink RX4 30 "TaxedByLongest$Told" "things" "I") (by decide +kernel)
  have in_X4 : ∀ w ∈ wsX40, w ∈ wsX4_hasThing := by decide +kernel
  have hl := lv_entry ([.ref h, .int (nI t)]) (n := 2) (Nat.le_of_ble_eq_true rfl)
  rw [lg_entry_eq]
  generalize (lg_sl ([.ref h, .int (nI t)]) ++ List.replicate (2 - (lg_sl ([.ref h, .int (nI t)])).length) Slot.unset).toArray = ls at hl ⊢
  have hl : lv_has ls 2 [(0, .ref h), (1, .int (nI t))] := hl
  refine lv_iload_n hx hb dX4_hasThing_0 rfl (lv_at hl 1 rfl) ?_
  refine bz_lt (a := t) (tgt := 16) hx hb rfl (by omega) dX4_hasThing_1 (by decide) ?_
  refine lv_iload_n hx hb dX4_hasThing_4 rfl (lv_at hl 1 rfl) ?_
  refine lv_aload_n hx hb dX4_hasThing_5 rfl (lv_at hl 0 rfl) ?_
  refine va_get (D := D) (ci := 4) (v := .int (nI n)) (C := RX4) (T := TX4) (N := 10) hx hb hts in_X4 hown hK (hR hS) 0 rfl rfl 6 (by decide) hf_30 (fun _ h9 => h9) rfl dX4_hasThing_6 ?_
  refine bn_ge (a := t) (b := n) (tgt := 16) hx hb rfl rfl (by omega) (by omega) dX4_hasThing_9 (by decide) (fun c9 => ?_) (fun c9 => ?_)
  · refine lv_iconst (v := 0) hx hb dX4_hasThing_16 (by decide) ?_
    exact rt_z hx hb hr rfl hlocks () (by rw [decide_eq_false (by omega)]; rfl) hP hD hS dX4_hasThing_17
  · refine lv_iconst (v := 1) hx hb dX4_hasThing_12 (by decide) ?_
    refine lv_goto (tgt := 17) hx hb dX4_hasThing_13 (by decide) ?_
    exact rt_z hx hb hr rfl hlocks () (by rw [decide_eq_true (by omega)]; rfl) hP hD hS dX4_hasThing_17
set_option maxHeartbeats 4000000 in
set_option maxRecDepth 100000 in
theorem c_X4_hasDay_n (l : Launch) (D : va_G) (cs : Nat → ClassId) (sz : Nat) (h : Nat) (k0 : Nat) (k1 : Nat) (k2 : Nat) (k3 : Nat) (k4 : Nat) (k5 : Nat) (n : Nat) (dy : Nat) (ch : Nat) (lw : Nat) (t : Nat) (hdy : dy ≤ 20) (ht : t < 2 ^ 31) : mI (S := Unit) l yX4_hasDay wsX4_hasDay ({ frames := 0, cells := 0, slots := 0, locals := 0 } : Room) D (tyc cs) sz [.ref h, .int (nI t)] [(h, .inr (4, [.ref k0, .ref k1, .ref k2, .ref k3, .ref k4, .ref k5, .int (nI n), .int (nI dy), .int (nI ch), .int (nI lw)]))] [] (fun (r : Int32) (u : Unit) => r = bI (decide (t < dy))) (fun _ => []) 0 0 := by
  unfold mI
  refine Met.ofW (cc := cX4_hasDay) (maxL := 2) (ret := (some .boolean)) (by decide) rfl ?_
  intro p e s m args below meth c s₁ B hml hv
  obtain ⟨rfl, hsz, hP, hK, hD0⟩ := hv
  have hx := B.exec
  have hb := B.bytes
  have hr := B.returns
  have hts := atoms_spec (ws := wsX4_hasDay) B.pre
  have hown : s.vm.findClass RX4 = some m.cls := findClass_of_methodNamed B.named
  have hlocks := B.notSynchronized
  subst hsz
  have hR := @en_R _ _ _ [(h, .inr (4, [.ref k0, .ref k1, .ref k2, .ref k3, .ref k4, .ref k5, .int (nI n), .int (nI dy), .int (nI ch), .int (nI lw)]))] [] _ hP hD0
  have hN := adN_of hD0
  have hD := en_D (wr := [(h, .inr (4, [.ref k0, .ref k1, .ref k2, .ref k3, .ref k4, .ref k5, .int (nI n), .int (nI dy), .int (nI ch), .int (nI lw)]))]) (ww := []) (sz := s.heap.size) hD0
  have hP := en_P (wr := [(h, .inr (4, [.ref k0, .ref k1, .ref k2, .ref k3, .ref k4, .ref k5, .int (nI n), .int (nI dy), .int (nI ch), .int (nI lw)]))]) (ww := []) hP
  generalize hAe : va_A [] s.heap.size = A at hD hR ⊢
  have hA : ∀ q : Nat, s.heap.size ≤ q → A q := fun q h => by rw [← hAe]; exact Or.inr h
  have hS : va_S A s.heap s.heap [] := va_S.rf
  have hN : adN [h] := hN
  have hf_34 := hts (.fieldLink RX4 34 "TaxedByLongest$Told" "days" "I") (by decide +kernel)
  have in_X4 : ∀ w ∈ wsX40, w ∈ wsX4_hasDay := by decide +kernel
  have hl := lv_entry ([.ref h, .int (nI t)]) (n := 2) (Nat.le_of_ble_eq_true rfl)
  rw [lg_entry_eq]
  generalize (lg_sl ([.ref h, .int (nI t)]) ++ List.replicate (2 - (lg_sl ([.ref h, .int (nI t)])).length) Slot.unset).toArray = ls at hl ⊢
  have hl : lv_has ls 2 [(0, .ref h), (1, .int (nI t))] := hl
  refine lv_iload_n hx hb dX4_hasDay_0 rfl (lv_at hl 1 rfl) ?_
  refine bz_lt (a := t) (tgt := 16) hx hb rfl (by omega) dX4_hasDay_1 (by decide) ?_
  refine lv_iload_n hx hb dX4_hasDay_4 rfl (lv_at hl 1 rfl) ?_
  refine lv_aload_n hx hb dX4_hasDay_5 rfl (lv_at hl 0 rfl) ?_
  refine va_get (D := D) (ci := 4) (v := .int (nI dy)) (C := RX4) (T := TX4) (N := 10) hx hb hts in_X4 hown hK (hR hS) 0 rfl rfl 7 (by decide) hf_34 (fun _ h9 => h9) rfl dX4_hasDay_6 ?_
  refine bn_ge (a := t) (b := dy) (tgt := 16) hx hb rfl rfl (by omega) (by omega) dX4_hasDay_9 (by decide) (fun c9 => ?_) (fun c9 => ?_)
  · refine lv_iconst (v := 0) hx hb dX4_hasDay_16 (by decide) ?_
    exact rt_z hx hb hr rfl hlocks () (by rw [decide_eq_false (by omega)]; rfl) hP hD hS dX4_hasDay_17
  · refine lv_iconst (v := 1) hx hb dX4_hasDay_12 (by decide) ?_
    refine lv_goto (tgt := 17) hx hb dX4_hasDay_13 (by decide) ?_
    exact rt_z hx hb hr rfl hlocks () (by rw [decide_eq_true (by omega)]; rfl) hP hD hS dX4_hasDay_17
set_option maxHeartbeats 4000000 in
set_option maxRecDepth 100000 in
theorem c_X4_hasThing (l : Launch) (D : va_G) (cs : Nat → ClassId) (sz : Nat) (h : Nat) (k0 : Nat) (k1 : Nat) (k2 : Nat) (k3 : Nat) (k4 : Nat) (k5 : Nat) (n : Nat) (dy : Nat) (ch : Nat) (lw : Nat) (t : Int32)  : mI (S := Unit) l yX4_hasThing wsX4_hasThing ({ frames := 0, cells := 0, slots := 0, locals := 0 } : Room) D (tyc cs) sz [.ref h, .int t] [(h, .inr (4, [.ref k0, .ref k1, .ref k2, .ref k3, .ref k4, .ref k5, .int (nI n), .int (nI dy), .int (nI ch), .int (nI lw)]))] [] (fun (r : Int32) (u : Unit) => r = bI (tx_has n t)) (fun _ => []) 0 0 := by
  unfold mI
  refine Met.ofW (cc := cX4_hasThing) (maxL := 2) (ret := (some .boolean)) (by decide) rfl ?_
  intro p e s m args below meth c s₁ B hml hv
  obtain ⟨rfl, hsz, hP, hK, hD0⟩ := hv
  have hx := B.exec
  have hb := B.bytes
  have hr := B.returns
  have hts := atoms_spec (ws := wsX4_hasThing) B.pre
  have hown : s.vm.findClass RX4 = some m.cls := findClass_of_methodNamed B.named
  have hlocks := B.notSynchronized
  subst hsz
  have hR := @en_R _ _ _ [(h, .inr (4, [.ref k0, .ref k1, .ref k2, .ref k3, .ref k4, .ref k5, .int (nI n), .int (nI dy), .int (nI ch), .int (nI lw)]))] [] _ hP hD0
  have hN := adN_of hD0
  have hD := en_D (wr := [(h, .inr (4, [.ref k0, .ref k1, .ref k2, .ref k3, .ref k4, .ref k5, .int (nI n), .int (nI dy), .int (nI ch), .int (nI lw)]))]) (ww := []) (sz := s.heap.size) hD0
  have hP := en_P (wr := [(h, .inr (4, [.ref k0, .ref k1, .ref k2, .ref k3, .ref k4, .ref k5, .int (nI n), .int (nI dy), .int (nI ch), .int (nI lw)]))]) (ww := []) hP
  generalize hAe : va_A [] s.heap.size = A at hD hR ⊢
  have hA : ∀ q : Nat, s.heap.size ≤ q → A q := fun q h => by rw [← hAe]; exact Or.inr h
  have hS : va_S A s.heap s.heap [] := va_S.rf
  have hN : adN [h] := hN
  have hf_30 := hts (.fieldLink RX4 30 "TaxedByLongest$Told" "things" "I") (by decide +kernel)
  have in_X4 : ∀ w ∈ wsX40, w ∈ wsX4_hasThing := by decide +kernel
  have hl := lv_entry ([.ref h, .int t]) (n := 2) (Nat.le_of_ble_eq_true rfl)
  rw [lg_entry_eq]
  generalize (lg_sl ([.ref h, .int t]) ++ List.replicate (2 - (lg_sl ([.ref h, .int t])).length) Slot.unset).toArray = ls at hl ⊢
  have hl : lv_has ls 2 [(0, .ref h), (1, .int t)] := hl
  refine lv_iload_n hx hb dX4_hasThing_0 rfl (lv_at hl 1 rfl) ?_
  refine lv_if_lt (tgt := 16) hx hb dX4_hasThing_1 (by decide) (fun c1 => ?_) (fun c1 => ?_)
  · refine lv_iconst (v := 0) hx hb dX4_hasThing_16 (by decide) ?_
    exact rt_z hx hb hr rfl hlocks () (by rw [tx_has_lo c1]; rfl) hP hD hS dX4_hasThing_17
  · refine lv_iload_n hx hb dX4_hasThing_4 rfl (lv_at hl 1 rfl) ?_
    refine lv_aload_n hx hb dX4_hasThing_5 rfl (lv_at hl 0 rfl) ?_
    refine va_get (D := D) (ci := 4) (v := .int (nI n)) (C := RX4) (T := TX4) (N := 10) hx hb hts in_X4 hown hK (hR hS) 0 rfl rfl 6 (by decide) hf_30 (fun _ h9 => h9) rfl dX4_hasThing_6 ?_
    refine lv_icmp_ge (tgt := 16) hx hb dX4_hasThing_9 (by decide) (fun c9 => ?_) (fun c9 => ?_)
    · refine lv_iconst (v := 0) hx hb dX4_hasThing_16 (by decide) ?_
      exact rt_z hx hb hr rfl hlocks () (by rw [tx_has_hi c9]; rfl) hP hD hS dX4_hasThing_17
    · refine lv_iconst (v := 1) hx hb dX4_hasThing_12 (by decide) ?_
      refine lv_goto (tgt := 17) hx hb dX4_hasThing_13 (by decide) ?_
      exact rt_z hx hb hr rfl hlocks () (by rw [tx_has_in c1 c9]; rfl) hP hD hS dX4_hasThing_17
set_option maxHeartbeats 4000000 in
set_option maxRecDepth 100000 in
theorem c_X4_hasDay (l : Launch) (D : va_G) (cs : Nat → ClassId) (sz : Nat) (h : Nat) (k0 : Nat) (k1 : Nat) (k2 : Nat) (k3 : Nat) (k4 : Nat) (k5 : Nat) (n : Nat) (dy : Nat) (ch : Nat) (lw : Nat) (t : Int32)  : mI (S := Unit) l yX4_hasDay wsX4_hasDay ({ frames := 0, cells := 0, slots := 0, locals := 0 } : Room) D (tyc cs) sz [.ref h, .int t] [(h, .inr (4, [.ref k0, .ref k1, .ref k2, .ref k3, .ref k4, .ref k5, .int (nI n), .int (nI dy), .int (nI ch), .int (nI lw)]))] [] (fun (r : Int32) (u : Unit) => r = bI (tx_has dy t)) (fun _ => []) 0 0 := by
  unfold mI
  refine Met.ofW (cc := cX4_hasDay) (maxL := 2) (ret := (some .boolean)) (by decide) rfl ?_
  intro p e s m args below meth c s₁ B hml hv
  obtain ⟨rfl, hsz, hP, hK, hD0⟩ := hv
  have hx := B.exec
  have hb := B.bytes
  have hr := B.returns
  have hts := atoms_spec (ws := wsX4_hasDay) B.pre
  have hown : s.vm.findClass RX4 = some m.cls := findClass_of_methodNamed B.named
  have hlocks := B.notSynchronized
  subst hsz
  have hR := @en_R _ _ _ [(h, .inr (4, [.ref k0, .ref k1, .ref k2, .ref k3, .ref k4, .ref k5, .int (nI n), .int (nI dy), .int (nI ch), .int (nI lw)]))] [] _ hP hD0
  have hN := adN_of hD0
  have hD := en_D (wr := [(h, .inr (4, [.ref k0, .ref k1, .ref k2, .ref k3, .ref k4, .ref k5, .int (nI n), .int (nI dy), .int (nI ch), .int (nI lw)]))]) (ww := []) (sz := s.heap.size) hD0
  have hP := en_P (wr := [(h, .inr (4, [.ref k0, .ref k1, .ref k2, .ref k3, .ref k4, .ref k5, .int (nI n), .int (nI dy), .int (nI ch), .int (nI lw)]))]) (ww := []) hP
  generalize hAe : va_A [] s.heap.size = A at hD hR ⊢
  have hA : ∀ q : Nat, s.heap.size ≤ q → A q := fun q h => by rw [← hAe]; exact Or.inr h
  have hS : va_S A s.heap s.heap [] := va_S.rf
  have hN : adN [h] := hN
  have hf_34 := hts (.fieldLink RX4 34 "TaxedByLongest$Told" "days" "I") (by decide +kernel)
  have in_X4 : ∀ w ∈ wsX40, w ∈ wsX4_hasDay := by decide +kernel
  have hl := lv_entry ([.ref h, .int t]) (n := 2) (Nat.le_of_ble_eq_true rfl)
  rw [lg_entry_eq]
  generalize (lg_sl ([.ref h, .int t]) ++ List.replicate (2 - (lg_sl ([.ref h, .int t])).length) Slot.unset).toArray = ls at hl ⊢
  have hl : lv_has ls 2 [(0, .ref h), (1, .int t)] := hl
  refine lv_iload_n hx hb dX4_hasDay_0 rfl (lv_at hl 1 rfl) ?_
  refine lv_if_lt (tgt := 16) hx hb dX4_hasDay_1 (by decide) (fun c1 => ?_) (fun c1 => ?_)
  · refine lv_iconst (v := 0) hx hb dX4_hasDay_16 (by decide) ?_
    exact rt_z hx hb hr rfl hlocks () (by rw [tx_has_lo c1]; rfl) hP hD hS dX4_hasDay_17
  · refine lv_iload_n hx hb dX4_hasDay_4 rfl (lv_at hl 1 rfl) ?_
    refine lv_aload_n hx hb dX4_hasDay_5 rfl (lv_at hl 0 rfl) ?_
    refine va_get (D := D) (ci := 4) (v := .int (nI dy)) (C := RX4) (T := TX4) (N := 10) hx hb hts in_X4 hown hK (hR hS) 0 rfl rfl 7 (by decide) hf_34 (fun _ h9 => h9) rfl dX4_hasDay_6 ?_
    refine lv_icmp_ge (tgt := 16) hx hb dX4_hasDay_9 (by decide) (fun c9 => ?_) (fun c9 => ?_)
    · refine lv_iconst (v := 0) hx hb dX4_hasDay_16 (by decide) ?_
      exact rt_z hx hb hr rfl hlocks () (by rw [tx_has_hi c9]; rfl) hP hD hS dX4_hasDay_17
    · refine lv_iconst (v := 1) hx hb dX4_hasDay_12 (by decide) ?_
      refine lv_goto (tgt := 17) hx hb dX4_hasDay_13 (by decide) ?_
      exact rt_z hx hb hr rfl hlocks () (by rw [tx_has_in c1 c9]; rfl) hP hD hS dX4_hasDay_17
set_option maxHeartbeats 4000000 in
set_option maxRecDepth 100000 in
theorem c_X4_isBoundElse (l : Launch) (D : va_G) (cs : Nat → ClassId) (sz : Nat) (h : Nat) (k0 : Nat) (k1 : Nat) (k2 : Nat) (k3 : Nat) (k4 : Nat) (k5 : Nat) (n : Nat) (dy : Nat) (ch : Nat) (lw : Nat) (bo : Nat → Option Nat) (d : Nat) (t : Nat) (hbo : tx_okb bo) (hd : d < 20) (ht : t < 2 ^ 31) : mI (S := Unit) l yX4_isBoundElse wsX4_isBoundElse ({ frames := 0, cells := 0, slots := 0, locals := 0 } : Room) D (tyc cs) sz [.ref h, .int (nI d), .int (nI t)] [(h, .inr (4, [.ref k0, .ref k1, .ref k2, .ref k3, .ref k4, .ref k5, .int (nI n), .int (nI dy), .int (nI ch), .int (nI lw)])), (k5, aI cs 20 (tx_bf bo))] [] (fun (r : Int32) (u : Unit) => r = bI (tx_be bo d t)) (fun _ => []) 0 0 := by
  unfold mI
  refine Met.ofW (cc := cX4_isBoundElse) (maxL := 3) (ret := (some .boolean)) (by decide) rfl ?_
  intro p e s m args below meth c s₁ B hml hv
  obtain ⟨rfl, hsz, hP, hK, hD0⟩ := hv
  have hx := B.exec
  have hb := B.bytes
  have hr := B.returns
  have hts := atoms_spec (ws := wsX4_isBoundElse) B.pre
  have hown : s.vm.findClass RX4 = some m.cls := findClass_of_methodNamed B.named
  have hlocks := B.notSynchronized
  subst hsz
  have hR := @en_R _ _ _ [(h, .inr (4, [.ref k0, .ref k1, .ref k2, .ref k3, .ref k4, .ref k5, .int (nI n), .int (nI dy), .int (nI ch), .int (nI lw)])), (k5, aI cs 20 (tx_bf bo))] [] _ hP hD0
  have hN := adN_of hD0
  have hD := en_D (wr := [(h, .inr (4, [.ref k0, .ref k1, .ref k2, .ref k3, .ref k4, .ref k5, .int (nI n), .int (nI dy), .int (nI ch), .int (nI lw)])), (k5, aI cs 20 (tx_bf bo))]) (ww := []) (sz := s.heap.size) hD0
  have hP := en_P (wr := [(h, .inr (4, [.ref k0, .ref k1, .ref k2, .ref k3, .ref k4, .ref k5, .int (nI n), .int (nI dy), .int (nI ch), .int (nI lw)])), (k5, aI cs 20 (tx_bf bo))]) (ww := []) hP
  generalize hAe : va_A [] s.heap.size = A at hD hR ⊢
  have hA : ∀ q : Nat, s.heap.size ≤ q → A q := fun q h => by rw [← hAe]; exact Or.inr h
  have hS : va_S A s.heap s.heap [] := va_S.rf
  have hN : adN [h, k5] := hN
  have hf_27 := hts (.fieldLink RX4 27 "TaxedByLongest$Told" "bound" "[I") (by decide +kernel)
  have in_X4 : ∀ w ∈ wsX40, w ∈ wsX4_isBoundElse := by decide +kernel
  have hl := lv_entry ([.ref h, .int (nI d), .int (nI t)]) (n := 3) (Nat.le_of_ble_eq_true rfl)
  rw [lg_entry_eq]
  generalize (lg_sl ([.ref h, .int (nI d), .int (nI t)]) ++ List.replicate (3 - (lg_sl ([.ref h, .int (nI d), .int (nI t)])).length) Slot.unset).toArray = ls at hl ⊢
  have hl : lv_has ls 3 [(0, .ref h), (1, .int (nI d)), (2, .int (nI t))] := hl
  refine lv_aload_n hx hb dX4_isBoundElse_0 rfl (lv_at hl 0 rfl) ?_
  refine va_get (D := D) (ci := 4) (v := .ref k5) (C := RX4) (T := TX4) (N := 10) hx hb hts in_X4 hown hK (hR hS) 0 rfl rfl 5 (by decide) hf_27 (fun _ h9 => h9) rfl dX4_isBoundElse_1 ?_
  refine lv_iload_n hx hb dX4_isBoundElse_4 rfl (lv_at hl 1 rfl) ?_
  refine ia_n (f := tx_bf bo) hx hb hK (hR hS) 1 0 rfl rfl (j := d) rfl (by omega) (by decide) dX4_isBoundElse_5 ?_
  refine lv_bipush (v := (-9)) hx hb dX4_isBoundElse_6 (by decide) ?_
  refine lv_icmp_eq (tgt := 25) hx hb dX4_isBoundElse_8 (by decide) (fun c8 => ?_) (fun c8 => ?_)
  · refine lv_iconst (v := 0) hx hb dX4_isBoundElse_25 (by decide) ?_
    exact rt_z hx hb hr rfl hlocks () (by rw [show tx_be bo d t = false from by unfold tx_be; rw [(tx_bf_N hbo d).mp c8]]; rfl) hP hD hS dX4_isBoundElse_26
  · refine lv_aload_n hx hb dX4_isBoundElse_11 rfl (lv_at hl 0 rfl) ?_
    refine va_get (D := D) (ci := 4) (v := .ref k5) (C := RX4) (T := TX4) (N := 10) hx hb hts in_X4 hown hK (hR hS) 0 rfl rfl 5 (by decide) hf_27 (fun _ h9 => h9) rfl dX4_isBoundElse_12 ?_
    refine lv_iload_n hx hb dX4_isBoundElse_15 rfl (lv_at hl 1 rfl) ?_
    refine ia_n (f := tx_bf bo) hx hb hK (hR hS) 1 0 rfl rfl (j := d) rfl (by omega) (by decide) dX4_isBoundElse_16 ?_
    refine lv_iload_n hx hb dX4_isBoundElse_17 rfl (lv_at hl 2 rfl) ?_
    refine lv_icmp_eq (tgt := 25) hx hb dX4_isBoundElse_18 (by decide) (fun c18 => ?_) (fun c18 => ?_)
    · refine lv_iconst (v := 0) hx hb dX4_isBoundElse_25 (by decide) ?_
      exact rt_z hx hb hr rfl hlocks () (by rw [show tx_be bo d t = false from by unfold tx_be; rw [(tx_bf_T hbo d ht).mp c18]; simp]; rfl) hP hD hS dX4_isBoundElse_26
    · refine lv_iconst (v := 1) hx hb dX4_isBoundElse_21 (by decide) ?_
      refine lv_goto (tgt := 26) hx hb dX4_isBoundElse_22 (by decide) ?_
      exact rt_z hx hb hr rfl hlocks () (by rw [tx_be_eq.mpr (by cases q : bo d with | none => exact absurd ((tx_bf_N hbo d).mpr q) c8 | some u => exact ⟨u, rfl, fun e => c18 ((tx_bf_T hbo d ht).mpr (by rw [q, e]))⟩)]; rfl) hP hD hS dX4_isBoundElse_26
set_option maxHeartbeats 4000000 in
set_option maxRecDepth 100000 in
theorem c_X4_addThing_ok (l : Launch) (D : va_G) (cs : Nat → ClassId) (sz : Nat) (h : Nat) (k0 : Nat) (k1 : Nat) (k2 : Nat) (k3 : Nat) (k4 : Nat) (k5 : Nat) (n : Nat) (dy : Nat) (ch : Nat) (lw : Nat) (kd : Nat → Nat) (wo : Nat → Nat) (ha : Nat → Nat) (we : Nat → Nat) (x1 : Nat) (x2 : Nat) (x3 : Nat) (x4 : Nat) (h1 : n < 4) (h2 : x2 ≤ 9) (h3 : x3 ≤ 3) (h4 : x4 ≤ 3) : mI (S := Unit) l yX4_addThing wsX4_addThing ({ frames := 0, cells := 0, slots := 0, locals := 0 } : Room) D (tyc cs) sz [.ref h, .int (nI x1), .int (nI x2), .int (nI x3), .int (nI x4)] [] [(h, .inr (4, [.ref k0, .ref k1, .ref k2, .ref k3, .ref k4, .ref k5, .int (nI n), .int (nI dy), .int (nI ch), .int (nI lw)])), (k0, aI cs 4 (tx_nf kd)), (k1, aI cs 4 (tx_nf wo)), (k2, aI cs 4 (tx_nf ha)), (k3, aI cs 4 (tx_nf we))] (fun (r : Int32) (u : Unit) => r = bI true) (fun _ => [(h, .inr (4, [.ref k0, .ref k1, .ref k2, .ref k3, .ref k4, .ref k5, .int (nI (n + 1)), .int (nI dy), .int (nI ch), .int (nI lw)])), (k0, aI cs 4 (tx_nf (va_up kd n x1))), (k1, aI cs 4 (tx_nf (va_up wo n x2))), (k2, aI cs 4 (tx_nf (va_up ha n x3))), (k3, aI cs 4 (tx_nf (va_up we n x4)))]) 0 0 := by
  unfold mI
  refine Met.ofW (cc := cX4_addThing) (maxL := 5) (ret := (some .boolean)) (by decide) rfl ?_
  intro p e s m args below meth c s₁ B hml hv
  obtain ⟨rfl, hsz, hP, hK, hD0⟩ := hv
  have hx := B.exec
  have hb := B.bytes
  have hr := B.returns
  have hts := atoms_spec (ws := wsX4_addThing) B.pre
  have hown : s.vm.findClass RX4 = some m.cls := findClass_of_methodNamed B.named
  have hlocks := B.notSynchronized
  subst hsz
  have hR := @en_R _ _ _ [] [(h, .inr (4, [.ref k0, .ref k1, .ref k2, .ref k3, .ref k4, .ref k5, .int (nI n), .int (nI dy), .int (nI ch), .int (nI lw)])), (k0, aI cs 4 (tx_nf kd)), (k1, aI cs 4 (tx_nf wo)), (k2, aI cs 4 (tx_nf ha)), (k3, aI cs 4 (tx_nf we))] _ hP hD0
  have hN := adN_of hD0
  have hD := en_D (wr := []) (ww := [(h, .inr (4, [.ref k0, .ref k1, .ref k2, .ref k3, .ref k4, .ref k5, .int (nI n), .int (nI dy), .int (nI ch), .int (nI lw)])), (k0, aI cs 4 (tx_nf kd)), (k1, aI cs 4 (tx_nf wo)), (k2, aI cs 4 (tx_nf ha)), (k3, aI cs 4 (tx_nf we))]) (sz := s.heap.size) hD0
  have hP := en_P (wr := []) (ww := [(h, .inr (4, [.ref k0, .ref k1, .ref k2, .ref k3, .ref k4, .ref k5, .int (nI n), .int (nI dy), .int (nI ch), .int (nI lw)])), (k0, aI cs 4 (tx_nf kd)), (k1, aI cs 4 (tx_nf wo)), (k2, aI cs 4 (tx_nf ha)), (k3, aI cs 4 (tx_nf we))]) hP
  generalize hAe : va_A [(h, .inr (4, [.ref k0, .ref k1, .ref k2, .ref k3, .ref k4, .ref k5, .int (nI n), .int (nI dy), .int (nI ch), .int (nI lw)])), (k0, aI cs 4 (tx_nf kd)), (k1, aI cs 4 (tx_nf wo)), (k2, aI cs 4 (tx_nf ha)), (k3, aI cs 4 (tx_nf we))] s.heap.size = A at hD hR ⊢
  have hA : ∀ q : Nat, s.heap.size ≤ q → A q := fun q h => by rw [← hAe]; exact Or.inr h
  have hS : va_S A s.heap s.heap [] := va_S.rf
  have hN : adN [h, k0, k1, k2, k3] := hN
  have hf_9 := hts (.fieldLink RX4 9 "TaxedByLongest$Told" "kinds" "[I") (by decide +kernel)
  have hf_15 := hts (.fieldLink RX4 15 "TaxedByLongest$Told" "worths" "[I") (by decide +kernel)
  have hf_18 := hts (.fieldLink RX4 18 "TaxedByLongest$Told" "habits" "[I") (by decide +kernel)
  have hf_21 := hts (.fieldLink RX4 21 "TaxedByLongest$Told" "wearies" "[I") (by decide +kernel)
  have hf_30 := hts (.fieldLink RX4 30 "TaxedByLongest$Told" "things" "I") (by decide +kernel)
  have in_X4 : ∀ w ∈ wsX40, w ∈ wsX4_addThing := by decide +kernel
  have hl := lv_entry ([.ref h, .int (nI x1), .int (nI x2), .int (nI x3), .int (nI x4)]) (n := 5) (Nat.le_of_ble_eq_true rfl)
  rw [lg_entry_eq]
  generalize (lg_sl ([.ref h, .int (nI x1), .int (nI x2), .int (nI x3), .int (nI x4)]) ++ List.replicate (5 - (lg_sl ([.ref h, .int (nI x1), .int (nI x2), .int (nI x3), .int (nI x4)])).length) Slot.unset).toArray = ls at hl ⊢
  have hl : lv_has ls 5 [(0, .ref h), (1, .int (nI x1)), (2, .int (nI x2)), (3, .int (nI x3)), (4, .int (nI x4))] := hl
  refine lv_aload_n hx hb dX4_addThing_0 rfl (lv_at hl 0 rfl) ?_
  refine va_get (D := D) (ci := 4) (v := .int (nI n)) (C := RX4) (T := TX4) (N := 10) hx hb hts in_X4 hown hK hP 0 rfl rfl 6 (by decide) hf_30 (fun _ h9 => h9) rfl dX4_addThing_1 ?_
  refine lv_iconst (v := 4) hx hb dX4_addThing_4 (by decide) ?_
  refine bn_ge (a := n) (b := 4) (tgt := 25) hx hb rfl rfl (by omega) (by decide) dX4_addThing_5 (by decide) (fun c5 => ?_) (fun c5 => ?_)
  · exfalso; omega
  · refine lv_iload_n hx hb dX4_addThing_8 rfl (lv_at hl 2 rfl) ?_
    refine lv_bipush (v := 9) hx hb dX4_addThing_9 (by decide) ?_
    refine bn_gt (a := x2) (b := 9) (tgt := 25) hx hb rfl rfl (by omega) (by decide) dX4_addThing_11 (by decide) (fun c11 => ?_) (fun c11 => ?_)
    · exfalso; omega
    · refine lv_iload_n hx hb dX4_addThing_14 rfl (lv_at hl 3 rfl) ?_
      refine lv_iconst (v := 3) hx hb dX4_addThing_15 (by decide) ?_
      refine bn_gt (a := x3) (b := 3) (tgt := 25) hx hb rfl rfl (by omega) (by decide) dX4_addThing_16 (by decide) (fun c16 => ?_) (fun c16 => ?_)
      · exfalso; omega
      · refine lv_iload hx hb dX4_addThing_19 (lv_at hl 4 rfl) ?_
        refine lv_iconst (v := 3) hx hb dX4_addThing_21 (by decide) ?_
        refine bn_le (a := x4) (b := 3) (tgt := 27) hx hb rfl rfl (by omega) (by decide) dX4_addThing_22 (by decide) (fun c22 => ?_) (fun c22 => ?_)
        · refine lv_aload_n hx hb dX4_addThing_27 rfl (lv_at hl 0 rfl) ?_
          refine va_get (D := D) (ci := 4) (v := .ref k0) (C := RX4) (T := TX4) (N := 10) hx hb hts in_X4 hown hK hP 0 rfl rfl 0 (by decide) hf_9 (fun _ h9 => h9) rfl dX4_addThing_28 ?_
          refine lv_aload_n hx hb dX4_addThing_31 rfl (lv_at hl 0 rfl) ?_
          refine va_get (D := D) (ci := 4) (v := .int (nI n)) (C := RX4) (T := TX4) (N := 10) hx hb hts in_X4 hown hK hP 0 rfl rfl 6 (by decide) hf_30 (fun _ h9 => h9) rfl dX4_addThing_32 ?_
          refine lv_iload_n hx hb dX4_addThing_35 rfl (lv_at hl 1 rfl) ?_
          refine is_n (f := tx_nf kd) hx hb hK hP hD hS 1 0 rfl rfl (j := n) rfl (by omega) (by decide) dX4_addThing_36 (fun H locs hP hD hS => ?_)
          rw [show upd (tx_nf kd) n (nI x1) = tx_nf (va_up kd n x1) from nf_up _ _ _] at hP hD
          have hP : va_P D vwCl [(h, .inr (4, [.ref k0, .ref k1, .ref k2, .ref k3, .ref k4, .ref k5, .int (nI n), .int (nI dy), .int (nI ch), .int (nI lw)])), (k0, aI cs 4 (tx_nf (va_up kd n x1))), (k1, aI cs 4 (tx_nf wo)), (k2, aI cs 4 (tx_nf ha)), (k3, aI cs 4 (tx_nf we))] H := hP
          have hD : va_D A [(h, .inr (4, [.ref k0, .ref k1, .ref k2, .ref k3, .ref k4, .ref k5, .int (nI n), .int (nI dy), .int (nI ch), .int (nI lw)])), (k0, aI cs 4 (tx_nf (va_up kd n x1))), (k1, aI cs 4 (tx_nf wo)), (k2, aI cs 4 (tx_nf ha)), (k3, aI cs 4 (tx_nf we))] := hD
          refine lv_aload_n hx hb dX4_addThing_37 rfl (lv_at hl 0 rfl) ?_
          refine va_get (D := D) (ci := 4) (v := .ref k1) (C := RX4) (T := TX4) (N := 10) hx hb hts in_X4 hown hK hP 0 rfl rfl 1 (by decide) hf_15 (fun _ h9 => h9) rfl dX4_addThing_38 ?_
          refine lv_aload_n hx hb dX4_addThing_41 rfl (lv_at hl 0 rfl) ?_
          refine va_get (D := D) (ci := 4) (v := .int (nI n)) (C := RX4) (T := TX4) (N := 10) hx hb hts in_X4 hown hK hP 0 rfl rfl 6 (by decide) hf_30 (fun _ h9 => h9) rfl dX4_addThing_42 ?_
          refine lv_iload_n hx hb dX4_addThing_45 rfl (lv_at hl 2 rfl) ?_
          refine is_n (f := tx_nf wo) hx hb hK hP hD hS 2 0 rfl rfl (j := n) rfl (by omega) (by decide) dX4_addThing_46 (fun H locs hP hD hS => ?_)
          rw [show upd (tx_nf wo) n (nI x2) = tx_nf (va_up wo n x2) from nf_up _ _ _] at hP hD
          have hP : va_P D vwCl [(h, .inr (4, [.ref k0, .ref k1, .ref k2, .ref k3, .ref k4, .ref k5, .int (nI n), .int (nI dy), .int (nI ch), .int (nI lw)])), (k0, aI cs 4 (tx_nf (va_up kd n x1))), (k1, aI cs 4 (tx_nf (va_up wo n x2))), (k2, aI cs 4 (tx_nf ha)), (k3, aI cs 4 (tx_nf we))] H := hP
          have hD : va_D A [(h, .inr (4, [.ref k0, .ref k1, .ref k2, .ref k3, .ref k4, .ref k5, .int (nI n), .int (nI dy), .int (nI ch), .int (nI lw)])), (k0, aI cs 4 (tx_nf (va_up kd n x1))), (k1, aI cs 4 (tx_nf (va_up wo n x2))), (k2, aI cs 4 (tx_nf ha)), (k3, aI cs 4 (tx_nf we))] := hD
          refine lv_aload_n hx hb dX4_addThing_47 rfl (lv_at hl 0 rfl) ?_
          refine va_get (D := D) (ci := 4) (v := .ref k2) (C := RX4) (T := TX4) (N := 10) hx hb hts in_X4 hown hK hP 0 rfl rfl 2 (by decide) hf_18 (fun _ h9 => h9) rfl dX4_addThing_48 ?_
          refine lv_aload_n hx hb dX4_addThing_51 rfl (lv_at hl 0 rfl) ?_
          refine va_get (D := D) (ci := 4) (v := .int (nI n)) (C := RX4) (T := TX4) (N := 10) hx hb hts in_X4 hown hK hP 0 rfl rfl 6 (by decide) hf_30 (fun _ h9 => h9) rfl dX4_addThing_52 ?_
          refine lv_iload_n hx hb dX4_addThing_55 rfl (lv_at hl 3 rfl) ?_
          refine is_n (f := tx_nf ha) hx hb hK hP hD hS 3 0 rfl rfl (j := n) rfl (by omega) (by decide) dX4_addThing_56 (fun H locs hP hD hS => ?_)
          rw [show upd (tx_nf ha) n (nI x3) = tx_nf (va_up ha n x3) from nf_up _ _ _] at hP hD
          have hP : va_P D vwCl [(h, .inr (4, [.ref k0, .ref k1, .ref k2, .ref k3, .ref k4, .ref k5, .int (nI n), .int (nI dy), .int (nI ch), .int (nI lw)])), (k0, aI cs 4 (tx_nf (va_up kd n x1))), (k1, aI cs 4 (tx_nf (va_up wo n x2))), (k2, aI cs 4 (tx_nf (va_up ha n x3))), (k3, aI cs 4 (tx_nf we))] H := hP
          have hD : va_D A [(h, .inr (4, [.ref k0, .ref k1, .ref k2, .ref k3, .ref k4, .ref k5, .int (nI n), .int (nI dy), .int (nI ch), .int (nI lw)])), (k0, aI cs 4 (tx_nf (va_up kd n x1))), (k1, aI cs 4 (tx_nf (va_up wo n x2))), (k2, aI cs 4 (tx_nf (va_up ha n x3))), (k3, aI cs 4 (tx_nf we))] := hD
          refine lv_aload_n hx hb dX4_addThing_57 rfl (lv_at hl 0 rfl) ?_
          refine va_get (D := D) (ci := 4) (v := .ref k3) (C := RX4) (T := TX4) (N := 10) hx hb hts in_X4 hown hK hP 0 rfl rfl 3 (by decide) hf_21 (fun _ h9 => h9) rfl dX4_addThing_58 ?_
          refine lv_aload_n hx hb dX4_addThing_61 rfl (lv_at hl 0 rfl) ?_
          refine va_get (D := D) (ci := 4) (v := .int (nI n)) (C := RX4) (T := TX4) (N := 10) hx hb hts in_X4 hown hK hP 0 rfl rfl 6 (by decide) hf_30 (fun _ h9 => h9) rfl dX4_addThing_62 ?_
          refine lv_iload hx hb dX4_addThing_65 (lv_at hl 4 rfl) ?_
          refine is_n (f := tx_nf we) hx hb hK hP hD hS 4 0 rfl rfl (j := n) rfl (by omega) (by decide) dX4_addThing_67 (fun H locs hP hD hS => ?_)
          rw [show upd (tx_nf we) n (nI x4) = tx_nf (va_up we n x4) from nf_up _ _ _] at hP hD
          have hP : va_P D vwCl [(h, .inr (4, [.ref k0, .ref k1, .ref k2, .ref k3, .ref k4, .ref k5, .int (nI n), .int (nI dy), .int (nI ch), .int (nI lw)])), (k0, aI cs 4 (tx_nf (va_up kd n x1))), (k1, aI cs 4 (tx_nf (va_up wo n x2))), (k2, aI cs 4 (tx_nf (va_up ha n x3))), (k3, aI cs 4 (tx_nf (va_up we n x4)))] H := hP
          have hD : va_D A [(h, .inr (4, [.ref k0, .ref k1, .ref k2, .ref k3, .ref k4, .ref k5, .int (nI n), .int (nI dy), .int (nI ch), .int (nI lw)])), (k0, aI cs 4 (tx_nf (va_up kd n x1))), (k1, aI cs 4 (tx_nf (va_up wo n x2))), (k2, aI cs 4 (tx_nf (va_up ha n x3))), (k3, aI cs 4 (tx_nf (va_up we n x4)))] := hD
          refine lv_aload_n hx hb dX4_addThing_68 rfl (lv_at hl 0 rfl) ?_
          refine lv_dup hx hb dX4_addThing_69 rfl ?_
          refine va_get (D := D) (ci := 4) (v := .int (nI n)) (C := RX4) (T := TX4) (N := 10) hx hb hts in_X4 hown hK hP 0 rfl rfl 6 (by decide) hf_30 (fun _ h9 => h9) rfl dX4_addThing_70 ?_
          refine lv_iconst (v := 1) hx hb dX4_addThing_73 (by decide) ?_
          refine lv_iadd hx hb dX4_addThing_74 ?_
          refine tp_i (nI_add n 1) ?_
          refine va_put (D := D) (ci := 4) (v := .int (nI (n + 1))) (ty := .int) (C := RX4) (T := TX4) (N := 10) hx hb hts in_X4 tyX4 tyX4_ok nmX4 hown hK hP hD hS 0 rfl rfl 6 (by decide) hf_30 (fun _ h9 => h9) rfl (by decide +kernel) rfl rfl (Nat.le_of_ble_eq_true rfl) dX4_addThing_75 (fun H locs hP hD hS => ?_)
          have hP : va_P D vwCl [(h, .inr (4, [.ref k0, .ref k1, .ref k2, .ref k3, .ref k4, .ref k5, .int (nI (n + 1)), .int (nI dy), .int (nI ch), .int (nI lw)])), (k0, aI cs 4 (tx_nf (va_up kd n x1))), (k1, aI cs 4 (tx_nf (va_up wo n x2))), (k2, aI cs 4 (tx_nf (va_up ha n x3))), (k3, aI cs 4 (tx_nf (va_up we n x4)))] H := hP
          have hD : va_D A [(h, .inr (4, [.ref k0, .ref k1, .ref k2, .ref k3, .ref k4, .ref k5, .int (nI (n + 1)), .int (nI dy), .int (nI ch), .int (nI lw)])), (k0, aI cs 4 (tx_nf (va_up kd n x1))), (k1, aI cs 4 (tx_nf (va_up wo n x2))), (k2, aI cs 4 (tx_nf (va_up ha n x3))), (k3, aI cs 4 (tx_nf (va_up we n x4)))] := hD
          refine lv_iconst (v := 1) hx hb dX4_addThing_78 (by decide) ?_
          exact rt_z hx hb hr rfl hlocks () (rfl) hP hD hS dX4_addThing_79
        · exfalso; omega
set_option maxHeartbeats 4000000 in
set_option maxRecDepth 100000 in
theorem c_X4_addThing_no (l : Launch) (D : va_G) (cs : Nat → ClassId) (sz : Nat) (h : Nat) (k0 : Nat) (k1 : Nat) (k2 : Nat) (k3 : Nat) (k4 : Nat) (k5 : Nat) (n : Nat) (dy : Nat) (ch : Nat) (lw : Nat) (kd : Nat → Nat) (wo : Nat → Nat) (ha : Nat → Nat) (we : Nat → Nat) (x1 : Nat) (x2 : Nat) (x3 : Nat) (x4 : Nat) (h0 : n ≤ 4) (h1 : ¬ (n < 4 ∧ x2 ≤ 9 ∧ x3 ≤ 3 ∧ x4 ≤ 3)) (h2 : x2 < 2 ^ 31) (h3 : x3 < 2 ^ 31) (h4 : x4 < 2 ^ 31) : mI (S := Unit) l yX4_addThing wsX4_addThing ({ frames := 0, cells := 0, slots := 0, locals := 0 } : Room) D (tyc cs) sz [.ref h, .int (nI x1), .int (nI x2), .int (nI x3), .int (nI x4)] [] [(h, .inr (4, [.ref k0, .ref k1, .ref k2, .ref k3, .ref k4, .ref k5, .int (nI n), .int (nI dy), .int (nI ch), .int (nI lw)])), (k0, aI cs 4 (tx_nf kd)), (k1, aI cs 4 (tx_nf wo)), (k2, aI cs 4 (tx_nf ha)), (k3, aI cs 4 (tx_nf we))] (fun (r : Int32) (u : Unit) => r = bI false) (fun _ => [(h, .inr (4, [.ref k0, .ref k1, .ref k2, .ref k3, .ref k4, .ref k5, .int (nI n), .int (nI dy), .int (nI ch), .int (nI lw)])), (k0, aI cs 4 (tx_nf kd)), (k1, aI cs 4 (tx_nf wo)), (k2, aI cs 4 (tx_nf ha)), (k3, aI cs 4 (tx_nf we))]) 0 0 := by
  unfold mI
  refine Met.ofW (cc := cX4_addThing) (maxL := 5) (ret := (some .boolean)) (by decide) rfl ?_
  intro p e s m args below meth c s₁ B hml hv
  obtain ⟨rfl, hsz, hP, hK, hD0⟩ := hv
  have hx := B.exec
  have hb := B.bytes
  have hr := B.returns
  have hts := atoms_spec (ws := wsX4_addThing) B.pre
  have hown : s.vm.findClass RX4 = some m.cls := findClass_of_methodNamed B.named
  have hlocks := B.notSynchronized
  subst hsz
  have hR := @en_R _ _ _ [] [(h, .inr (4, [.ref k0, .ref k1, .ref k2, .ref k3, .ref k4, .ref k5, .int (nI n), .int (nI dy), .int (nI ch), .int (nI lw)])), (k0, aI cs 4 (tx_nf kd)), (k1, aI cs 4 (tx_nf wo)), (k2, aI cs 4 (tx_nf ha)), (k3, aI cs 4 (tx_nf we))] _ hP hD0
  have hN := adN_of hD0
  have hD := en_D (wr := []) (ww := [(h, .inr (4, [.ref k0, .ref k1, .ref k2, .ref k3, .ref k4, .ref k5, .int (nI n), .int (nI dy), .int (nI ch), .int (nI lw)])), (k0, aI cs 4 (tx_nf kd)), (k1, aI cs 4 (tx_nf wo)), (k2, aI cs 4 (tx_nf ha)), (k3, aI cs 4 (tx_nf we))]) (sz := s.heap.size) hD0
  have hP := en_P (wr := []) (ww := [(h, .inr (4, [.ref k0, .ref k1, .ref k2, .ref k3, .ref k4, .ref k5, .int (nI n), .int (nI dy), .int (nI ch), .int (nI lw)])), (k0, aI cs 4 (tx_nf kd)), (k1, aI cs 4 (tx_nf wo)), (k2, aI cs 4 (tx_nf ha)), (k3, aI cs 4 (tx_nf we))]) hP
  generalize hAe : va_A [(h, .inr (4, [.ref k0, .ref k1, .ref k2, .ref k3, .ref k4, .ref k5, .int (nI n), .int (nI dy), .int (nI ch), .int (nI lw)])), (k0, aI cs 4 (tx_nf kd)), (k1, aI cs 4 (tx_nf wo)), (k2, aI cs 4 (tx_nf ha)), (k3, aI cs 4 (tx_nf we))] s.heap.size = A at hD hR ⊢
  have hA : ∀ q : Nat, s.heap.size ≤ q → A q := fun q h => by rw [← hAe]; exact Or.inr h
  have hS : va_S A s.heap s.heap [] := va_S.rf
  have hN : adN [h, k0, k1, k2, k3] := hN
  have hf_30 := hts (.fieldLink RX4 30 "TaxedByLongest$Told" "things" "I") (by decide +kernel)
  have in_X4 : ∀ w ∈ wsX40, w ∈ wsX4_addThing := by decide +kernel
  have hl := lv_entry ([.ref h, .int (nI x1), .int (nI x2), .int (nI x3), .int (nI x4)]) (n := 5) (Nat.le_of_ble_eq_true rfl)
  rw [lg_entry_eq]
  generalize (lg_sl ([.ref h, .int (nI x1), .int (nI x2), .int (nI x3), .int (nI x4)]) ++ List.replicate (5 - (lg_sl ([.ref h, .int (nI x1), .int (nI x2), .int (nI x3), .int (nI x4)])).length) Slot.unset).toArray = ls at hl ⊢
  have hl : lv_has ls 5 [(0, .ref h), (1, .int (nI x1)), (2, .int (nI x2)), (3, .int (nI x3)), (4, .int (nI x4))] := hl
  refine lv_aload_n hx hb dX4_addThing_0 rfl (lv_at hl 0 rfl) ?_
  refine va_get (D := D) (ci := 4) (v := .int (nI n)) (C := RX4) (T := TX4) (N := 10) hx hb hts in_X4 hown hK hP 0 rfl rfl 6 (by decide) hf_30 (fun _ h9 => h9) rfl dX4_addThing_1 ?_
  refine lv_iconst (v := 4) hx hb dX4_addThing_4 (by decide) ?_
  refine bn_ge (a := n) (b := 4) (tgt := 25) hx hb rfl rfl (by omega) (by decide) dX4_addThing_5 (by decide) (fun c5 => ?_) (fun c5 => ?_)
  · refine lv_iconst (v := 0) hx hb dX4_addThing_25 (by decide) ?_
    exact rt_z hx hb hr rfl hlocks () (rfl) hP hD hS dX4_addThing_26
  · refine lv_iload_n hx hb dX4_addThing_8 rfl (lv_at hl 2 rfl) ?_
    refine lv_bipush (v := 9) hx hb dX4_addThing_9 (by decide) ?_
    refine bn_gt (a := x2) (b := 9) (tgt := 25) hx hb rfl rfl (by omega) (by decide) dX4_addThing_11 (by decide) (fun c11 => ?_) (fun c11 => ?_)
    · refine lv_iconst (v := 0) hx hb dX4_addThing_25 (by decide) ?_
      exact rt_z hx hb hr rfl hlocks () (rfl) hP hD hS dX4_addThing_26
    · refine lv_iload_n hx hb dX4_addThing_14 rfl (lv_at hl 3 rfl) ?_
      refine lv_iconst (v := 3) hx hb dX4_addThing_15 (by decide) ?_
      refine bn_gt (a := x3) (b := 3) (tgt := 25) hx hb rfl rfl (by omega) (by decide) dX4_addThing_16 (by decide) (fun c16 => ?_) (fun c16 => ?_)
      · refine lv_iconst (v := 0) hx hb dX4_addThing_25 (by decide) ?_
        exact rt_z hx hb hr rfl hlocks () (rfl) hP hD hS dX4_addThing_26
      · refine lv_iload hx hb dX4_addThing_19 (lv_at hl 4 rfl) ?_
        refine lv_iconst (v := 3) hx hb dX4_addThing_21 (by decide) ?_
        refine bn_le (a := x4) (b := 3) (tgt := 27) hx hb rfl rfl (by omega) (by decide) dX4_addThing_22 (by decide) (fun c22 => ?_) (fun c22 => ?_)
        · exfalso; omega
        · refine lv_iconst (v := 0) hx hb dX4_addThing_25 (by decide) ?_
          exact rt_z hx hb hr rfl hlocks () (rfl) hP hD hS dX4_addThing_26
set_option maxHeartbeats 4000000 in
set_option maxRecDepth 100000 in
theorem c_X4_beginYear_ok (l : Launch) (D : va_G) (cs : Nat → ClassId) (sz : Nat) (h : Nat) (k0 : Nat) (k1 : Nat) (k2 : Nat) (k3 : Nat) (k4 : Nat) (k5 : Nat) (n : Nat) (dy : Nat) (ch : Nat) (lw : Nat) (td : Nat → Nat) (bo : Nat → Option Nat) (x : Nat) (h1 : 1 ≤ x) (h2 : x ≤ 20) : mI (S := Unit) l yX4_beginYear wsX4_beginYear ({ frames := 1, cells := 0, slots := 0, locals := 23 } : Room) D (tyc cs) sz [.ref h, .int (nI x)] [] [(h, .inr (4, [.ref k0, .ref k1, .ref k2, .ref k3, .ref k4, .ref k5, .int (nI n), .int (nI dy), .int (nI ch), .int (nI lw)])), (k4, aI cs 20 (tx_nf td)), (k5, aI cs 20 (tx_bf bo))] (fun (r : Int32) (u : Unit) => r = bI true) (fun _ => [(h, .inr (4, [.ref k0, .ref k1, .ref k2, .ref k3, .ref k4, .ref k5, .int (nI n), .int (nI x), .int (nI ch), .int (nI lw)])), (k4, aI cs 20 (tx_nf (fun _ => 0))), (k5, aI cs 20 (tx_bf (fun _ => none)))]) 0 0 := by
  unfold mI
  refine Met.ofW (cc := cX4_beginYear) (maxL := 2) (ret := (some .boolean)) (by decide) rfl ?_
  intro p e s m args below meth c s₁ B hml hv
  obtain ⟨rfl, hsz, hP, hK, hD0⟩ := hv
  have hx := B.exec
  have hb := B.bytes
  have hr := B.returns
  have hts := atoms_spec (ws := wsX4_beginYear) B.pre
  have hown : s.vm.findClass RX4 = some m.cls := findClass_of_methodNamed B.named
  have hlocks := B.notSynchronized
  subst hsz
  have hR := @en_R _ _ _ [] [(h, .inr (4, [.ref k0, .ref k1, .ref k2, .ref k3, .ref k4, .ref k5, .int (nI n), .int (nI dy), .int (nI ch), .int (nI lw)])), (k4, aI cs 20 (tx_nf td)), (k5, aI cs 20 (tx_bf bo))] _ hP hD0
  have hN := adN_of hD0
  have hD := en_D (wr := []) (ww := [(h, .inr (4, [.ref k0, .ref k1, .ref k2, .ref k3, .ref k4, .ref k5, .int (nI n), .int (nI dy), .int (nI ch), .int (nI lw)])), (k4, aI cs 20 (tx_nf td)), (k5, aI cs 20 (tx_bf bo))]) (sz := s.heap.size) hD0
  have hP := en_P (wr := []) (ww := [(h, .inr (4, [.ref k0, .ref k1, .ref k2, .ref k3, .ref k4, .ref k5, .int (nI n), .int (nI dy), .int (nI ch), .int (nI lw)])), (k4, aI cs 20 (tx_nf td)), (k5, aI cs 20 (tx_bf bo))]) hP
  generalize hAe : va_A [(h, .inr (4, [.ref k0, .ref k1, .ref k2, .ref k3, .ref k4, .ref k5, .int (nI n), .int (nI dy), .int (nI ch), .int (nI lw)])), (k4, aI cs 20 (tx_nf td)), (k5, aI cs 20 (tx_bf bo))] s.heap.size = A at hD hR ⊢
  have hA : ∀ q : Nat, s.heap.size ≤ q → A q := fun q h => by rw [← hAe]; exact Or.inr h
  have hS : va_S A s.heap s.heap [] := va_S.rf
  have hN : adN [h, k4, k5] := hN
  have hf_24 := hts (.fieldLink RX4 24 "TaxedByLongest$Told" "done" "[I") (by decide +kernel)
  have hf_27 := hts (.fieldLink RX4 27 "TaxedByLongest$Told" "bound" "[I") (by decide +kernel)
  have hf_34 := hts (.fieldLink RX4 34 "TaxedByLongest$Told" "days" "I") (by decide +kernel)
  have in_X4 : ∀ w ∈ wsX40, w ∈ wsX4_beginYear := by decide +kernel
  have hl := lv_entry ([.ref h, .int (nI x)]) (n := 2) (Nat.le_of_ble_eq_true rfl)
  rw [lg_entry_eq]
  generalize (lg_sl ([.ref h, .int (nI x)]) ++ List.replicate (2 - (lg_sl ([.ref h, .int (nI x)])).length) Slot.unset).toArray = ls at hl ⊢
  have hl : lv_has ls 2 [(0, .ref h), (1, .int (nI x))] := hl
  refine lv_iload_n hx hb dX4_beginYear_0 rfl (lv_at hl 1 rfl) ?_
  refine lv_iconst (v := 1) hx hb dX4_beginYear_1 (by decide) ?_
  refine bn_lt (a := x) (b := 1) (tgt := 11) hx hb rfl rfl (by omega) (by decide) dX4_beginYear_2 (by decide) (fun c2 => ?_) (fun c2 => ?_)
  · exfalso; omega
  · refine lv_iload_n hx hb dX4_beginYear_5 rfl (lv_at hl 1 rfl) ?_
    refine lv_bipush (v := 20) hx hb dX4_beginYear_6 (by decide) ?_
    refine bn_le (a := x) (b := 20) (tgt := 13) hx hb rfl rfl (by omega) (by decide) dX4_beginYear_8 (by decide) (fun c8 => ?_) (fun c8 => ?_)
    · refine lv_aload_n hx hb dX4_beginYear_13 rfl (lv_at hl 0 rfl) ?_
      refine lv_iload_n hx hb dX4_beginYear_14 rfl (lv_at hl 1 rfl) ?_
      refine va_put (D := D) (ci := 4) (v := .int (nI x)) (ty := .int) (C := RX4) (T := TX4) (N := 10) hx hb hts in_X4 tyX4 tyX4_ok nmX4 hown hK hP hD hS 0 rfl rfl 7 (by decide) hf_34 (fun _ h9 => h9) rfl (by decide +kernel) rfl rfl (Nat.le_of_ble_eq_true rfl) dX4_beginYear_15 (fun H locs hP hD hS => ?_)
      have hP : va_P D vwCl [(h, .inr (4, [.ref k0, .ref k1, .ref k2, .ref k3, .ref k4, .ref k5, .int (nI n), .int (nI x), .int (nI ch), .int (nI lw)])), (k4, aI cs 20 (tx_nf td)), (k5, aI cs 20 (tx_bf bo))] H := hP
      have hD : va_D A [(h, .inr (4, [.ref k0, .ref k1, .ref k2, .ref k3, .ref k4, .ref k5, .int (nI n), .int (nI x), .int (nI ch), .int (nI lw)])), (k4, aI cs 20 (tx_nf td)), (k5, aI cs 20 (tx_bf bo))] := hD
      refine lv_aload_n hx hb dX4_beginYear_18 rfl (lv_at hl 0 rfl) ?_
      refine va_get (D := D) (ci := 4) (v := .ref k4) (C := RX4) (T := TX4) (N := 10) hx hb hts in_X4 hown hK hP 0 rfl rfl 4 (by decide) hf_24 (fun _ h9 => h9) rfl dX4_beginYear_19 ?_
      refine lv_iconst (v := 0) hx hb dX4_beginYear_22 (by decide) ?_
      refine cS_v (As := [.ref k4, .int 0]) (rest := []) (cr := []) (cw1 := [(k4, aI cs 20 (tx_nf td))]) ⟨hx, hb, hml, hown, hts⟩ (c_fill l D cs _ k4 20 (tx_nf td) 0 (by first | assumption | omega)) (va_cwS 2 hts gX4_beginYear_J7_fill_53178 rfl rfl rfl (by decide +kernel) ⟨Nat.le_of_ble_eq_true rfl, Nat.le_of_ble_eq_true rfl⟩) hK hP hD hS hA (hP.sub [1] rfl) (dt_of hN [1] (by decide) rfl) [1] rfl rfl hl.1 rfl (Nat.le_of_ble_eq_true rfl) dX4_beginYear_23 ⟨Nat.le_of_ble_eq_true rfl, Nat.le_of_ble_eq_true rfl⟩ (fun _ => rfl) (fun _ => rfl) (fun u9 H locs hw_1 hP hD hS => ?_)
      have hP : va_P D vwCl [(h, .inr (4, [.ref k0, .ref k1, .ref k2, .ref k3, .ref k4, .ref k5, .int (nI n), .int (nI x), .int (nI ch), .int (nI lw)])), (k4, aI cs 20 (fun _ => 0)), (k5, aI cs 20 (tx_bf bo))] H := hP
      have hD : va_D A [(h, .inr (4, [.ref k0, .ref k1, .ref k2, .ref k3, .ref k4, .ref k5, .int (nI n), .int (nI x), .int (nI ch), .int (nI lw)])), (k4, aI cs 20 (fun _ => 0)), (k5, aI cs 20 (tx_bf bo))] := hD
      have e9 : (fun _ => 0 : Nat → _) = tx_nf (fun _ => 0) := rfl
      rw [e9] at hP hD
      refine lv_aload_n hx hb dX4_beginYear_26 rfl (lv_at hl 0 rfl) ?_
      refine va_get (D := D) (ci := 4) (v := .ref k5) (C := RX4) (T := TX4) (N := 10) hx hb hts in_X4 hown hK hP 0 rfl rfl 5 (by decide) hf_27 (fun _ h9 => h9) rfl dX4_beginYear_27 ?_
      refine lv_bipush (v := (-9)) hx hb dX4_beginYear_30 (by decide) ?_
      refine cS_v (As := [.ref k5, .int (-9)]) (rest := []) (cr := []) (cw1 := [(k5, aI cs 20 (tx_bf bo))]) ⟨hx, hb, hml, hown, hts⟩ (c_fill l D cs _ k5 20 (tx_bf bo) (-9) (by first | assumption | omega)) (va_cwS 2 hts gX4_beginYear_J7_fill_53178 rfl rfl rfl (by decide +kernel) ⟨Nat.le_of_ble_eq_true rfl, Nat.le_of_ble_eq_true rfl⟩) hK hP hD hS hA (hP.sub [2] rfl) (dt_of hN [2] (by decide) rfl) [2] rfl rfl hl.1 rfl (Nat.le_of_ble_eq_true rfl) dX4_beginYear_32 ⟨Nat.le_of_ble_eq_true rfl, Nat.le_of_ble_eq_true rfl⟩ (fun _ => rfl) (fun _ => rfl) (fun u9 H locs hw_2 hP hD hS => ?_)
      have hP : va_P D vwCl [(h, .inr (4, [.ref k0, .ref k1, .ref k2, .ref k3, .ref k4, .ref k5, .int (nI n), .int (nI x), .int (nI ch), .int (nI lw)])), (k4, aI cs 20 (tx_nf (fun _ => 0))), (k5, aI cs 20 (fun _ => (-9)))] H := hP
      have hD : va_D A [(h, .inr (4, [.ref k0, .ref k1, .ref k2, .ref k3, .ref k4, .ref k5, .int (nI n), .int (nI x), .int (nI ch), .int (nI lw)])), (k4, aI cs 20 (tx_nf (fun _ => 0))), (k5, aI cs 20 (fun _ => (-9)))] := hD
      have e9 : (fun _ => (-9) : Nat → _) = tx_bf (fun _ => none) := rfl
      rw [e9] at hP hD
      refine lv_iconst (v := 1) hx hb dX4_beginYear_35 (by decide) ?_
      exact rt_z hx hb hr rfl hlocks () (rfl) hP hD hS dX4_beginYear_36
    · exfalso; omega
set_option maxHeartbeats 4000000 in
set_option maxRecDepth 100000 in
theorem c_X4_beginYear_no (l : Launch) (D : va_G) (cs : Nat → ClassId) (sz : Nat) (h : Nat) (k0 : Nat) (k1 : Nat) (k2 : Nat) (k3 : Nat) (k4 : Nat) (k5 : Nat) (n : Nat) (dy : Nat) (ch : Nat) (lw : Nat) (td : Nat → Nat) (bo : Nat → Option Nat) (x : Nat) (h1 : ¬ (1 ≤ x ∧ x ≤ 20)) (h2 : x < 2 ^ 31) : mI (S := Unit) l yX4_beginYear wsX4_beginYear ({ frames := 0, cells := 0, slots := 0, locals := 0 } : Room) D (tyc cs) sz [.ref h, .int (nI x)] [] [(h, .inr (4, [.ref k0, .ref k1, .ref k2, .ref k3, .ref k4, .ref k5, .int (nI n), .int (nI dy), .int (nI ch), .int (nI lw)])), (k4, aI cs 20 (tx_nf td)), (k5, aI cs 20 (tx_bf bo))] (fun (r : Int32) (u : Unit) => r = bI false) (fun _ => [(h, .inr (4, [.ref k0, .ref k1, .ref k2, .ref k3, .ref k4, .ref k5, .int (nI n), .int (nI dy), .int (nI ch), .int (nI lw)])), (k4, aI cs 20 (tx_nf td)), (k5, aI cs 20 (tx_bf bo))]) 0 0 := by
  unfold mI
  refine Met.ofW (cc := cX4_beginYear) (maxL := 2) (ret := (some .boolean)) (by decide) rfl ?_
  intro p e s m args below meth c s₁ B hml hv
  obtain ⟨rfl, hsz, hP, hK, hD0⟩ := hv
  have hx := B.exec
  have hb := B.bytes
  have hr := B.returns
  have hts := atoms_spec (ws := wsX4_beginYear) B.pre
  have hown : s.vm.findClass RX4 = some m.cls := findClass_of_methodNamed B.named
  have hlocks := B.notSynchronized
  subst hsz
  have hR := @en_R _ _ _ [] [(h, .inr (4, [.ref k0, .ref k1, .ref k2, .ref k3, .ref k4, .ref k5, .int (nI n), .int (nI dy), .int (nI ch), .int (nI lw)])), (k4, aI cs 20 (tx_nf td)), (k5, aI cs 20 (tx_bf bo))] _ hP hD0
  have hN := adN_of hD0
  have hD := en_D (wr := []) (ww := [(h, .inr (4, [.ref k0, .ref k1, .ref k2, .ref k3, .ref k4, .ref k5, .int (nI n), .int (nI dy), .int (nI ch), .int (nI lw)])), (k4, aI cs 20 (tx_nf td)), (k5, aI cs 20 (tx_bf bo))]) (sz := s.heap.size) hD0
  have hP := en_P (wr := []) (ww := [(h, .inr (4, [.ref k0, .ref k1, .ref k2, .ref k3, .ref k4, .ref k5, .int (nI n), .int (nI dy), .int (nI ch), .int (nI lw)])), (k4, aI cs 20 (tx_nf td)), (k5, aI cs 20 (tx_bf bo))]) hP
  generalize hAe : va_A [(h, .inr (4, [.ref k0, .ref k1, .ref k2, .ref k3, .ref k4, .ref k5, .int (nI n), .int (nI dy), .int (nI ch), .int (nI lw)])), (k4, aI cs 20 (tx_nf td)), (k5, aI cs 20 (tx_bf bo))] s.heap.size = A at hD hR ⊢
  have hA : ∀ q : Nat, s.heap.size ≤ q → A q := fun q h => by rw [← hAe]; exact Or.inr h
  have hS : va_S A s.heap s.heap [] := va_S.rf
  have hN : adN [h, k4, k5] := hN
  have hl := lv_entry ([.ref h, .int (nI x)]) (n := 2) (Nat.le_of_ble_eq_true rfl)
  rw [lg_entry_eq]
  generalize (lg_sl ([.ref h, .int (nI x)]) ++ List.replicate (2 - (lg_sl ([.ref h, .int (nI x)])).length) Slot.unset).toArray = ls at hl ⊢
  have hl : lv_has ls 2 [(0, .ref h), (1, .int (nI x))] := hl
  refine lv_iload_n hx hb dX4_beginYear_0 rfl (lv_at hl 1 rfl) ?_
  refine lv_iconst (v := 1) hx hb dX4_beginYear_1 (by decide) ?_
  refine bn_lt (a := x) (b := 1) (tgt := 11) hx hb rfl rfl (by omega) (by decide) dX4_beginYear_2 (by decide) (fun c2 => ?_) (fun c2 => ?_)
  · refine lv_iconst (v := 0) hx hb dX4_beginYear_11 (by decide) ?_
    exact rt_z hx hb hr rfl hlocks () (rfl) hP hD hS dX4_beginYear_12
  · refine lv_iload_n hx hb dX4_beginYear_5 rfl (lv_at hl 1 rfl) ?_
    refine lv_bipush (v := 20) hx hb dX4_beginYear_6 (by decide) ?_
    refine bn_le (a := x) (b := 20) (tgt := 13) hx hb rfl rfl (by omega) (by decide) dX4_beginYear_8 (by decide) (fun c8 => ?_) (fun c8 => ?_)
    · exfalso; omega
    · refine lv_iconst (v := 0) hx hb dX4_beginYear_11 (by decide) ?_
      exact rt_z hx hb hr rfl hlocks () (rfl) hP hD hS dX4_beginYear_12
set_option maxHeartbeats 4000000 in
set_option maxRecDepth 100000 in
theorem c_X4_bindDay (l : Launch) (D : va_G) (cs : Nat → ClassId) (sz : Nat) (h : Nat) (k0 : Nat) (k1 : Nat) (k2 : Nat) (k3 : Nat) (k4 : Nat) (k5 : Nat) (n : Nat) (dy : Nat) (ch : Nat) (lw : Nat) (td : Nat → Nat) (bo : Nat → Option Nat) (d : Nat) (t : Nat) (hd : d < 20) : mV (S := Unit) l yX4_bindDay wsX4_bindDay ({ frames := 0, cells := 0, slots := 0, locals := 0 } : Room) D (tyc cs) sz [.ref h, .int (nI d), .int (nI t)] [(h, .inr (4, [.ref k0, .ref k1, .ref k2, .ref k3, .ref k4, .ref k5, .int (nI n), .int (nI dy), .int (nI ch), .int (nI lw)]))] [(k4, aI cs 20 (tx_nf td)), (k5, aI cs 20 (tx_bf bo))] (fun (u : Unit) => True) (fun _ => [(k4, aI cs 20 (tx_nf (va_up td d t))), (k5, aI cs 20 (tx_bf (va_up bo d (some t))))]) 0 0 := by
  unfold mV
  refine Met.ofW (cc := cX4_bindDay) (maxL := 3) (ret := none) (by decide) rfl ?_
  intro p e s m args below meth c s₁ B hml hv
  obtain ⟨rfl, hsz, hP, hK, hD0⟩ := hv
  have hx := B.exec
  have hb := B.bytes
  have hr := B.returns
  have hts := atoms_spec (ws := wsX4_bindDay) B.pre
  have hown : s.vm.findClass RX4 = some m.cls := findClass_of_methodNamed B.named
  have hlocks := B.notSynchronized
  subst hsz
  have hR := @en_R _ _ _ [(h, .inr (4, [.ref k0, .ref k1, .ref k2, .ref k3, .ref k4, .ref k5, .int (nI n), .int (nI dy), .int (nI ch), .int (nI lw)]))] [(k4, aI cs 20 (tx_nf td)), (k5, aI cs 20 (tx_bf bo))] _ hP hD0
  have hN := adN_of hD0
  have hD := en_D (wr := [(h, .inr (4, [.ref k0, .ref k1, .ref k2, .ref k3, .ref k4, .ref k5, .int (nI n), .int (nI dy), .int (nI ch), .int (nI lw)]))]) (ww := [(k4, aI cs 20 (tx_nf td)), (k5, aI cs 20 (tx_bf bo))]) (sz := s.heap.size) hD0
  have hP := en_P (wr := [(h, .inr (4, [.ref k0, .ref k1, .ref k2, .ref k3, .ref k4, .ref k5, .int (nI n), .int (nI dy), .int (nI ch), .int (nI lw)]))]) (ww := [(k4, aI cs 20 (tx_nf td)), (k5, aI cs 20 (tx_bf bo))]) hP
  generalize hAe : va_A [(k4, aI cs 20 (tx_nf td)), (k5, aI cs 20 (tx_bf bo))] s.heap.size = A at hD hR ⊢
  have hA : ∀ q : Nat, s.heap.size ≤ q → A q := fun q h => by rw [← hAe]; exact Or.inr h
  have hS : va_S A s.heap s.heap [] := va_S.rf
  have hN : adN [h, k4, k5] := hN
  have hf_24 := hts (.fieldLink RX4 24 "TaxedByLongest$Told" "done" "[I") (by decide +kernel)
  have hf_27 := hts (.fieldLink RX4 27 "TaxedByLongest$Told" "bound" "[I") (by decide +kernel)
  have in_X4 : ∀ w ∈ wsX40, w ∈ wsX4_bindDay := by decide +kernel
  have hl := lv_entry ([.ref h, .int (nI d), .int (nI t)]) (n := 3) (Nat.le_of_ble_eq_true rfl)
  rw [lg_entry_eq]
  generalize (lg_sl ([.ref h, .int (nI d), .int (nI t)]) ++ List.replicate (3 - (lg_sl ([.ref h, .int (nI d), .int (nI t)])).length) Slot.unset).toArray = ls at hl ⊢
  have hl : lv_has ls 3 [(0, .ref h), (1, .int (nI d)), (2, .int (nI t))] := hl
  refine lv_aload_n hx hb dX4_bindDay_0 rfl (lv_at hl 0 rfl) ?_
  refine va_get (D := D) (ci := 4) (v := .ref k5) (C := RX4) (T := TX4) (N := 10) hx hb hts in_X4 hown hK (hR hS) 0 rfl rfl 5 (by decide) hf_27 (fun _ h9 => h9) rfl dX4_bindDay_1 ?_
  refine lv_iload_n hx hb dX4_bindDay_4 rfl (lv_at hl 1 rfl) ?_
  refine lv_iload_n hx hb dX4_bindDay_5 rfl (lv_at hl 2 rfl) ?_
  refine is_n (f := tx_bf bo) hx hb hK hP hD hS 1 0 rfl rfl (j := d) rfl (by omega) (by decide) dX4_bindDay_6 (fun H locs hP hD hS => ?_)
  rw [show upd (tx_bf bo) d (nI t) = tx_bf (va_up bo d (some t)) from bf_up _ _ _] at hP hD
  have hP : va_P D vwCl [(k4, aI cs 20 (tx_nf td)), (k5, aI cs 20 (tx_bf (va_up bo d (some t))))] H := hP
  have hD : va_D A [(k4, aI cs 20 (tx_nf td)), (k5, aI cs 20 (tx_bf (va_up bo d (some t))))] := hD
  refine lv_aload_n hx hb dX4_bindDay_7 rfl (lv_at hl 0 rfl) ?_
  refine va_get (D := D) (ci := 4) (v := .ref k4) (C := RX4) (T := TX4) (N := 10) hx hb hts in_X4 hown hK (hR hS) 0 rfl rfl 4 (by decide) hf_24 (fun _ h9 => h9) rfl dX4_bindDay_8 ?_
  refine lv_iload_n hx hb dX4_bindDay_11 rfl (lv_at hl 1 rfl) ?_
  refine lv_iload_n hx hb dX4_bindDay_12 rfl (lv_at hl 2 rfl) ?_
  refine is_n (f := tx_nf td) hx hb hK hP hD hS 0 0 rfl rfl (j := d) rfl (by omega) (by decide) dX4_bindDay_13 (fun H locs hP hD hS => ?_)
  rw [show upd (tx_nf td) d (nI t) = tx_nf (va_up td d t) from nf_up _ _ _] at hP hD
  have hP : va_P D vwCl [(k4, aI cs 20 (tx_nf (va_up td d t))), (k5, aI cs 20 (tx_bf (va_up bo d (some t))))] H := hP
  have hD : va_D A [(k4, aI cs 20 (tx_nf (va_up td d t))), (k5, aI cs 20 (tx_bf (va_up bo d (some t))))] := hD
  exact rt_v hx hb hr hlocks () (trivial) hP hD hS dX4_bindDay_14
set_option maxHeartbeats 4000000 in
set_option maxRecDepth 100000 in
theorem c_X4_unbindDay (l : Launch) (D : va_G) (cs : Nat → ClassId) (sz : Nat) (h : Nat) (k0 : Nat) (k1 : Nat) (k2 : Nat) (k3 : Nat) (k4 : Nat) (k5 : Nat) (n : Nat) (dy : Nat) (ch : Nat) (lw : Nat) (bo : Nat → Option Nat) (d : Nat) (hd : d < 20) : mV (S := Unit) l yX4_unbindDay wsX4_unbindDay ({ frames := 0, cells := 0, slots := 0, locals := 0 } : Room) D (tyc cs) sz [.ref h, .int (nI d)] [(h, .inr (4, [.ref k0, .ref k1, .ref k2, .ref k3, .ref k4, .ref k5, .int (nI n), .int (nI dy), .int (nI ch), .int (nI lw)]))] [(k5, aI cs 20 (tx_bf bo))] (fun (u : Unit) => True) (fun _ => [(k5, aI cs 20 (tx_bf (va_up bo d none)))]) 0 0 := by
  unfold mV
  refine Met.ofW (cc := cX4_unbindDay) (maxL := 2) (ret := none) (by decide) rfl ?_
  intro p e s m args below meth c s₁ B hml hv
  obtain ⟨rfl, hsz, hP, hK, hD0⟩ := hv
  have hx := B.exec
  have hb := B.bytes
  have hr := B.returns
  have hts := atoms_spec (ws := wsX4_unbindDay) B.pre
  have hown : s.vm.findClass RX4 = some m.cls := findClass_of_methodNamed B.named
  have hlocks := B.notSynchronized
  subst hsz
  have hR := @en_R _ _ _ [(h, .inr (4, [.ref k0, .ref k1, .ref k2, .ref k3, .ref k4, .ref k5, .int (nI n), .int (nI dy), .int (nI ch), .int (nI lw)]))] [(k5, aI cs 20 (tx_bf bo))] _ hP hD0
  have hN := adN_of hD0
  have hD := en_D (wr := [(h, .inr (4, [.ref k0, .ref k1, .ref k2, .ref k3, .ref k4, .ref k5, .int (nI n), .int (nI dy), .int (nI ch), .int (nI lw)]))]) (ww := [(k5, aI cs 20 (tx_bf bo))]) (sz := s.heap.size) hD0
  have hP := en_P (wr := [(h, .inr (4, [.ref k0, .ref k1, .ref k2, .ref k3, .ref k4, .ref k5, .int (nI n), .int (nI dy), .int (nI ch), .int (nI lw)]))]) (ww := [(k5, aI cs 20 (tx_bf bo))]) hP
  generalize hAe : va_A [(k5, aI cs 20 (tx_bf bo))] s.heap.size = A at hD hR ⊢
  have hA : ∀ q : Nat, s.heap.size ≤ q → A q := fun q h => by rw [← hAe]; exact Or.inr h
  have hS : va_S A s.heap s.heap [] := va_S.rf
  have hN : adN [h, k5] := hN
  have hf_27 := hts (.fieldLink RX4 27 "TaxedByLongest$Told" "bound" "[I") (by decide +kernel)
  have in_X4 : ∀ w ∈ wsX40, w ∈ wsX4_unbindDay := by decide +kernel
  have hl := lv_entry ([.ref h, .int (nI d)]) (n := 2) (Nat.le_of_ble_eq_true rfl)
  rw [lg_entry_eq]
  generalize (lg_sl ([.ref h, .int (nI d)]) ++ List.replicate (2 - (lg_sl ([.ref h, .int (nI d)])).length) Slot.unset).toArray = ls at hl ⊢
  have hl : lv_has ls 2 [(0, .ref h), (1, .int (nI d))] := hl
  refine lv_aload_n hx hb dX4_unbindDay_0 rfl (lv_at hl 0 rfl) ?_
  refine va_get (D := D) (ci := 4) (v := .ref k5) (C := RX4) (T := TX4) (N := 10) hx hb hts in_X4 hown hK (hR hS) 0 rfl rfl 5 (by decide) hf_27 (fun _ h9 => h9) rfl dX4_unbindDay_1 ?_
  refine lv_iload_n hx hb dX4_unbindDay_4 rfl (lv_at hl 1 rfl) ?_
  refine lv_bipush (v := (-9)) hx hb dX4_unbindDay_5 (by decide) ?_
  refine is_n (f := tx_bf bo) hx hb hK hP hD hS 0 0 rfl rfl (j := d) rfl (by omega) (by decide) dX4_unbindDay_7 (fun H locs hP hD hS => ?_)
  rw [show upd (tx_bf bo) d (-9) = tx_bf (va_up bo d none) from bf_upN _ _] at hP hD
  have hP : va_P D vwCl [(k5, aI cs 20 (tx_bf (va_up bo d none)))] H := hP
  have hD : va_D A [(k5, aI cs 20 (tx_bf (va_up bo d none)))] := hD
  exact rt_v hx hb hr hlocks () (trivial) hP hD hS dX4_unbindDay_8
set_option maxHeartbeats 4000000 in
set_option maxRecDepth 100000 in
theorem c_X4_boundDays (l : Launch) (D : va_G) (cs : Nat → ClassId) (sz : Nat) (h : Nat) (k0 : Nat) (k1 : Nat) (k2 : Nat) (k3 : Nat) (k4 : Nat) (k5 : Nat) (n : Nat) (dy : Nat) (ch : Nat) (lw : Nat) (bo : Nat → Option Nat) (hbo : tx_okb bo) (hdy : dy ≤ 20) : mI (S := Unit) l yX4_boundDays wsX4_boundDays ({ frames := 0, cells := 0, slots := 0, locals := 0 } : Room) D (tyc cs) sz [.ref h] [(h, .inr (4, [.ref k0, .ref k1, .ref k2, .ref k3, .ref k4, .ref k5, .int (nI n), .int (nI dy), .int (nI ch), .int (nI lw)])), (k5, aI cs 20 (tx_bf bo))] [] (fun (r : Int32) (u : Unit) => r = nI (tx_bd bo dy)) (fun _ => []) 0 0 := by
  unfold mI
  refine Met.ofW (cc := cX4_boundDays) (maxL := 3) (ret := (some .int)) (by decide) rfl ?_
  intro p e s m args below meth c s₁ B hml hv
  obtain ⟨rfl, hsz, hP, hK, hD0⟩ := hv
  have hx := B.exec
  have hb := B.bytes
  have hr := B.returns
  have hts := atoms_spec (ws := wsX4_boundDays) B.pre
  have hown : s.vm.findClass RX4 = some m.cls := findClass_of_methodNamed B.named
  have hlocks := B.notSynchronized
  subst hsz
  have hR := @en_R _ _ _ [(h, .inr (4, [.ref k0, .ref k1, .ref k2, .ref k3, .ref k4, .ref k5, .int (nI n), .int (nI dy), .int (nI ch), .int (nI lw)])), (k5, aI cs 20 (tx_bf bo))] [] _ hP hD0
  have hN := adN_of hD0
  have hD := en_D (wr := [(h, .inr (4, [.ref k0, .ref k1, .ref k2, .ref k3, .ref k4, .ref k5, .int (nI n), .int (nI dy), .int (nI ch), .int (nI lw)])), (k5, aI cs 20 (tx_bf bo))]) (ww := []) (sz := s.heap.size) hD0
  have hP := en_P (wr := [(h, .inr (4, [.ref k0, .ref k1, .ref k2, .ref k3, .ref k4, .ref k5, .int (nI n), .int (nI dy), .int (nI ch), .int (nI lw)])), (k5, aI cs 20 (tx_bf bo))]) (ww := []) hP
  generalize hAe : va_A [] s.heap.size = A at hD hR ⊢
  have hA : ∀ q : Nat, s.heap.size ≤ q → A q := fun q h => by rw [← hAe]; exact Or.inr h
  have hS : va_S A s.heap s.heap [] := va_S.rf
  have hN : adN [h, k5] := hN
  have hf_27 := hts (.fieldLink RX4 27 "TaxedByLongest$Told" "bound" "[I") (by decide +kernel)
  have hf_34 := hts (.fieldLink RX4 34 "TaxedByLongest$Told" "days" "I") (by decide +kernel)
  have in_X4 : ∀ w ∈ wsX40, w ∈ wsX4_boundDays := by decide +kernel
  have hl := lv_entry ([.ref h]) (n := 3) (Nat.le_of_ble_eq_true rfl)
  rw [lg_entry_eq]
  generalize (lg_sl ([.ref h]) ++ List.replicate (3 - (lg_sl ([.ref h])).length) Slot.unset).toArray = ls at hl ⊢
  have hl : lv_has ls 3 [(0, .ref h)] := hl
  refine lv_iconst (v := 0) hx hb dX4_boundDays_0 (by decide) ?_
  refine lv_istore_n (lv' := [(1, .int 0), (0, .ref h)]) hx hb dX4_boundDays_1 rfl hl (by decide) rfl (fun ls hl => ?_)
  refine lv_iconst (v := 0) hx hb dX4_boundDays_2 (by decide) ?_
  refine lv_istore_n (lv' := [(2, .int 0), (1, .int 0), (0, .ref h)]) hx hb dX4_boundDays_3 rfl hl (by decide) rfl (fun ls hl => ?_)
  have loop4 : ∀ (n9 : Nat) (i : Nat) (ct : Nat) (hi : i ≤ dy) (hc : ct = tx_bd bo i), dy - i < n9 → ∀ (H : Heap) (locs : List Loc), va_P D vwCl [] H → va_D A [] → va_S A s.heap H locs → ∀ (ls : Array Slot), lv_has ls 3 [(0, .ref h), (1, .int (nI ct)), (2, .int (nI i))] → W p l e (headSpec wsX4_boundDays ({ frames := 0, cells := 0, slots := 0, locals := 0 } : Room)).room s m ([.ref h] : List Value).toArray below meth c H locs 0 0 (MQ below (va_Qi (fun (r : Int32) (u : Unit) => r = nI (tx_bd bo dy)) (QB D (fun _ => []) A) A) ([.ref h] : List Value).toArray s 0 0 A) (F0 m 4 ls []) := by
    intro n9
    induction n9 with
    | zero => intros; omega
    | succ n9 ih4 =>
      intro i ct hi hc hmu H locs hP hD hS ls hl
      refine lv_iload_n hx hb dX4_boundDays_4 rfl (lv_at hl 2 rfl) ?_
      refine lv_aload_n hx hb dX4_boundDays_5 rfl (lv_at hl 0 rfl) ?_
      refine va_get (D := D) (ci := 4) (v := .int (nI dy)) (C := RX4) (T := TX4) (N := 10) hx hb hts in_X4 hown hK (hR hS) 0 rfl rfl 7 (by decide) hf_34 (fun _ h9 => h9) rfl dX4_boundDays_6 ?_
      refine bn_ge (a := i) (b := dy) (tgt := 32) hx hb rfl rfl (by omega) (by omega) dX4_boundDays_9 (by decide) (fun c9 => ?_) (fun c9 => ?_)
      · refine lv_iload_n hx hb dX4_boundDays_32 rfl (lv_at hl 1 rfl) ?_
        exact rt_i hx hb hr hlocks () (by rw [hc, show i = dy by omega]) hP hD hS dX4_boundDays_33
      · refine lv_aload_n hx hb dX4_boundDays_12 rfl (lv_at hl 0 rfl) ?_
        refine va_get (D := D) (ci := 4) (v := .ref k5) (C := RX4) (T := TX4) (N := 10) hx hb hts in_X4 hown hK (hR hS) 0 rfl rfl 5 (by decide) hf_27 (fun _ h9 => h9) rfl dX4_boundDays_13 ?_
        refine lv_iload_n hx hb dX4_boundDays_16 rfl (lv_at hl 2 rfl) ?_
        refine ia_n (f := tx_bf bo) hx hb hK (hR hS) 1 0 rfl rfl (j := i) rfl (by omega) (by decide) dX4_boundDays_17 ?_
        refine lv_bipush (v := (-9)) hx hb dX4_boundDays_18 (by decide) ?_
        refine lv_icmp_eq (tgt := 26) hx hb dX4_boundDays_20 (by decide) (fun c20 => ?_) (fun c20 => ?_)
        · refine lv_iinc (v := nI (i + 1)) (lv' := [(2, .int (nI (i + 1))), (0, .ref h), (1, .int (nI ct))]) hx hb dX4_boundDays_26 hl (k := 2) rfl (inc_n i 1) (by decide) rfl (fun ls hl => ?_)
          refine lv_goto (tgt := 4) hx hb dX4_boundDays_29 (by decide) ?_
          exact ih4 (i + 1) ct (by first | assumption | omega) (by rw [hc, tx_bd, (tx_bf_N hbo i).mp c20]; rfl) (by omega) _ _ hP hD hS ls (lv_sub hl [1, 2, 0] rfl)
        · refine lv_iinc (v := nI (ct + 1)) (lv' := [(1, .int (nI (ct + 1))), (0, .ref h), (2, .int (nI i))]) hx hb dX4_boundDays_23 hl (k := 1) rfl (inc_n ct 1) (by decide) rfl (fun ls hl => ?_)
          refine lv_iinc (v := nI (i + 1)) (lv' := [(2, .int (nI (i + 1))), (1, .int (nI (ct + 1))), (0, .ref h)]) hx hb dX4_boundDays_26 hl (k := 2) rfl (inc_n i 1) (by decide) rfl (fun ls hl => ?_)
          refine lv_goto (tgt := 4) hx hb dX4_boundDays_29 (by decide) ?_
          exact ih4 (i + 1) (ct + 1) (by first | assumption | omega) (by rw [hc, tx_bd]; cases q : bo i with | none => exact absurd ((tx_bf_N hbo i).mpr q) c20 | some u => rfl) (by omega) _ _ hP hD hS ls (lv_sub hl [2, 1, 0] rfl)
  exact loop4 _ 0 0 (by first | assumption | omega) rfl (Nat.lt_succ_self _) _ _ hP hD hS ls (lv_sub hl [2, 1, 0] rfl)
set_option maxHeartbeats 4000000 in
set_option maxRecDepth 100000 in
theorem c_X4_placeInStretch (l : Launch) (D : va_G) (cs : Nat → ClassId) (sz : Nat) (h : Nat) (k0 : Nat) (k1 : Nat) (k2 : Nat) (k3 : Nat) (k4 : Nat) (k5 : Nat) (n : Nat) (dy : Nat) (ch : Nat) (lw : Nat) (td : Nat → Nat) (d : Nat) (hd : d < 20) (htd : ∀ e, td e < 4) : mI (S := Unit) l yX4_placeInStretch wsX4_placeInStretch ({ frames := 0, cells := 0, slots := 0, locals := 0 } : Room) D (tyc cs) sz [.ref h, .int (nI d)] [(h, .inr (4, [.ref k0, .ref k1, .ref k2, .ref k3, .ref k4, .ref k5, .int (nI n), .int (nI dy), .int (nI ch), .int (nI lw)])), (k4, aI cs 20 (tx_nf td))] [] (fun (r : Int32) (u : Unit) => r = nI (tx_pl td d)) (fun _ => []) 0 0 := by
  unfold mI
  refine Met.ofW (cc := cX4_placeInStretch) (maxL := 3) (ret := (some .int)) (by decide) rfl ?_
  intro p e s m args below meth c s₁ B hml hv
  obtain ⟨rfl, hsz, hP, hK, hD0⟩ := hv
  have hx := B.exec
  have hb := B.bytes
  have hr := B.returns
  have hts := atoms_spec (ws := wsX4_placeInStretch) B.pre
  have hown : s.vm.findClass RX4 = some m.cls := findClass_of_methodNamed B.named
  have hlocks := B.notSynchronized
  subst hsz
  have hR := @en_R _ _ _ [(h, .inr (4, [.ref k0, .ref k1, .ref k2, .ref k3, .ref k4, .ref k5, .int (nI n), .int (nI dy), .int (nI ch), .int (nI lw)])), (k4, aI cs 20 (tx_nf td))] [] _ hP hD0
  have hN := adN_of hD0
  have hD := en_D (wr := [(h, .inr (4, [.ref k0, .ref k1, .ref k2, .ref k3, .ref k4, .ref k5, .int (nI n), .int (nI dy), .int (nI ch), .int (nI lw)])), (k4, aI cs 20 (tx_nf td))]) (ww := []) (sz := s.heap.size) hD0
  have hP := en_P (wr := [(h, .inr (4, [.ref k0, .ref k1, .ref k2, .ref k3, .ref k4, .ref k5, .int (nI n), .int (nI dy), .int (nI ch), .int (nI lw)])), (k4, aI cs 20 (tx_nf td))]) (ww := []) hP
  generalize hAe : va_A [] s.heap.size = A at hD hR ⊢
  have hA : ∀ q : Nat, s.heap.size ≤ q → A q := fun q h => by rw [← hAe]; exact Or.inr h
  have hS : va_S A s.heap s.heap [] := va_S.rf
  have hN : adN [h, k4] := hN
  have hf_24 := hts (.fieldLink RX4 24 "TaxedByLongest$Told" "done" "[I") (by decide +kernel)
  have in_X4 : ∀ w ∈ wsX40, w ∈ wsX4_placeInStretch := by decide +kernel
  have hl := lv_entry ([.ref h, .int (nI d)]) (n := 3) (Nat.le_of_ble_eq_true rfl)
  rw [lg_entry_eq]
  generalize (lg_sl ([.ref h, .int (nI d)]) ++ List.replicate (3 - (lg_sl ([.ref h, .int (nI d)])).length) Slot.unset).toArray = ls at hl ⊢
  have hl : lv_has ls 3 [(0, .ref h), (1, .int (nI d))] := hl
  refine lv_iload_n hx hb dX4_placeInStretch_0 rfl (lv_at hl 1 rfl) ?_
  refine lv_istore_n (lv' := [(2, .int (nI d)), (0, .ref h), (1, .int (nI d))]) hx hb dX4_placeInStretch_1 rfl hl (by decide) rfl (fun ls hl => ?_)
  have loop2 : ∀ (n9 : Nat) (j : Nat) (hj : j ≤ d) (hq : ∀ e, j ≤ e → e ≤ d → td e = td d), j < n9 → ∀ (H : Heap) (locs : List Loc), va_P D vwCl [] H → va_D A [] → va_S A s.heap H locs → ∀ (ls : Array Slot), lv_has ls 3 [(0, .ref h), (1, .int (nI d)), (2, .int (nI j))] → W p l e (headSpec wsX4_placeInStretch ({ frames := 0, cells := 0, slots := 0, locals := 0 } : Room)).room s m ([.ref h, .int (nI d)] : List Value).toArray below meth c H locs 0 0 (MQ below (va_Qi (fun (r : Int32) (u : Unit) => r = nI (tx_pl td d)) (QB D (fun _ => []) A) A) ([.ref h, .int (nI d)] : List Value).toArray s 0 0 A) (F0 m 2 ls []) := by
    intro n9
    induction n9 with
    | zero => intros; omega
    | succ n9 ih2 =>
      intro j hj hq hmu H locs hP hD hS ls hl
      refine lv_iload_n hx hb dX4_placeInStretch_2 rfl (lv_at hl 2 rfl) ?_
      refine bz_le (a := j) (tgt := 29) hx hb rfl (by omega) dX4_placeInStretch_3 (by decide) (fun c3 => ?_) (fun c3 => ?_)
      · refine lv_iload_n hx hb dX4_placeInStretch_29 rfl (lv_at hl 1 rfl) ?_
        refine lv_iload_n hx hb dX4_placeInStretch_30 rfl (lv_at hl 2 rfl) ?_
        refine lv_isub hx hb dX4_placeInStretch_31 ?_
        refine tp_i (pk_sub (a := d) (b := j) (by omega)) ?_
        refine lv_iconst (v := 1) hx hb dX4_placeInStretch_32 (by decide) ?_
        refine lv_iadd hx hb dX4_placeInStretch_33 ?_
        refine tp_i (nI_add (d - j) 1) ?_
        exact rt_i hx hb hr hlocks () (by rw [tx_pl_of td d j hj hq (Or.inl c3)]) hP hD hS dX4_placeInStretch_34
      · refine lv_aload_n hx hb dX4_placeInStretch_6 rfl (lv_at hl 0 rfl) ?_
        refine va_get (D := D) (ci := 4) (v := .ref k4) (C := RX4) (T := TX4) (N := 10) hx hb hts in_X4 hown hK (hR hS) 0 rfl rfl 4 (by decide) hf_24 (fun _ h9 => h9) rfl dX4_placeInStretch_7 ?_
        refine lv_iload_n hx hb dX4_placeInStretch_10 rfl (lv_at hl 2 rfl) ?_
        refine lv_iconst (v := 1) hx hb dX4_placeInStretch_11 (by decide) ?_
        refine lv_isub hx hb dX4_placeInStretch_12 ?_
        refine tp_i (pk_sub (a := j) (b := 1) (by omega)) ?_
        refine ia_n (f := tx_nf td) hx hb hK (hR hS) 1 0 rfl rfl (j := j - 1) rfl (by omega) (by decide) dX4_placeInStretch_13 ?_
        refine tp_i (y := nI (td (j - 1))) rfl ?_
        refine lv_aload_n hx hb dX4_placeInStretch_14 rfl (lv_at hl 0 rfl) ?_
        refine va_get (D := D) (ci := 4) (v := .ref k4) (C := RX4) (T := TX4) (N := 10) hx hb hts in_X4 hown hK (hR hS) 0 rfl rfl 4 (by decide) hf_24 (fun _ h9 => h9) rfl dX4_placeInStretch_15 ?_
        refine lv_iload_n hx hb dX4_placeInStretch_18 rfl (lv_at hl 1 rfl) ?_
        refine ia_n (f := tx_nf td) hx hb hK (hR hS) 1 0 rfl rfl (j := d) rfl (by omega) (by decide) dX4_placeInStretch_19 ?_
        refine tp_i (y := nI (td d)) rfl ?_
        have := htd (j - 1)
        have := htd d
        refine bn_ne (a := td (j - 1)) (b := td d) (tgt := 29) hx hb rfl rfl (by omega) (by omega) dX4_placeInStretch_20 (by decide) (fun c20 => ?_) (fun c20 => ?_)
        · refine lv_iload_n hx hb dX4_placeInStretch_29 rfl (lv_at hl 1 rfl) ?_
          refine lv_iload_n hx hb dX4_placeInStretch_30 rfl (lv_at hl 2 rfl) ?_
          refine lv_isub hx hb dX4_placeInStretch_31 ?_
          refine tp_i (pk_sub (a := d) (b := j) (by omega)) ?_
          refine lv_iconst (v := 1) hx hb dX4_placeInStretch_32 (by decide) ?_
          refine lv_iadd hx hb dX4_placeInStretch_33 ?_
          refine tp_i (nI_add (d - j) 1) ?_
          exact rt_i hx hb hr hlocks () (by rw [tx_pl_of td d j hj hq (Or.inr c20)]) hP hD hS dX4_placeInStretch_34
        · refine lv_iinc (v := nI (j - 1)) (lv' := [(2, .int (nI (j - 1))), (0, .ref h), (1, .int (nI d))]) hx hb dX4_placeInStretch_23 hl (k := 2) rfl (dec_n (by omega)) (by decide) rfl (fun ls hl => ?_)
          refine lv_goto (tgt := 2) hx hb dX4_placeInStretch_26 (by decide) ?_
          exact ih2 (j - 1) (by first | assumption | omega) (fun e h1 h2 => by by_cases q : e = j - 1; (rw [q]; exact c20); (exact hq e (by omega) h2)) (by omega) _ _ hP hD hS ls (lv_sub hl [1, 2, 0] rfl)
  exact loop2 _ d (by first | assumption | omega) (fun e h1 h2 => by rw [show e = d by omega]) (Nat.lt_succ_self _) _ _ hP hD hS ls (lv_sub hl [1, 2, 0] rfl)
set_option maxHeartbeats 4000000 in
set_option maxRecDepth 100000 in
theorem c_X4_daysToGoOn (l : Launch) (D : va_G) (cs : Nat → ClassId) (sz : Nat) (h : Nat) (k0 : Nat) (k1 : Nat) (k2 : Nat) (k3 : Nat) (k4 : Nat) (k5 : Nat) (n : Nat) (dy : Nat) (ch : Nat) (lw : Nat) (td : Nat → Nat) (d : Nat) (hd : d < dy) (hdy : dy ≤ 20) (htd : ∀ e, td e < 4) : mI (S := Unit) l yX4_daysToGoOn wsX4_daysToGoOn ({ frames := 0, cells := 0, slots := 0, locals := 0 } : Room) D (tyc cs) sz [.ref h, .int (nI d)] [(h, .inr (4, [.ref k0, .ref k1, .ref k2, .ref k3, .ref k4, .ref k5, .int (nI n), .int (nI dy), .int (nI ch), .int (nI lw)])), (k4, aI cs 20 (tx_nf td))] [] (fun (r : Int32) (u : Unit) => r = nI (tx_fw td dy 20 d - d)) (fun _ => []) 0 0 := by
  unfold mI
  refine Met.ofW (cc := cX4_daysToGoOn) (maxL := 3) (ret := (some .int)) (by decide) rfl ?_
  intro p e s m args below meth c s₁ B hml hv
  obtain ⟨rfl, hsz, hP, hK, hD0⟩ := hv
  have hx := B.exec
  have hb := B.bytes
  have hr := B.returns
  have hts := atoms_spec (ws := wsX4_daysToGoOn) B.pre
  have hown : s.vm.findClass RX4 = some m.cls := findClass_of_methodNamed B.named
  have hlocks := B.notSynchronized
  subst hsz
  have hR := @en_R _ _ _ [(h, .inr (4, [.ref k0, .ref k1, .ref k2, .ref k3, .ref k4, .ref k5, .int (nI n), .int (nI dy), .int (nI ch), .int (nI lw)])), (k4, aI cs 20 (tx_nf td))] [] _ hP hD0
  have hN := adN_of hD0
  have hD := en_D (wr := [(h, .inr (4, [.ref k0, .ref k1, .ref k2, .ref k3, .ref k4, .ref k5, .int (nI n), .int (nI dy), .int (nI ch), .int (nI lw)])), (k4, aI cs 20 (tx_nf td))]) (ww := []) (sz := s.heap.size) hD0
  have hP := en_P (wr := [(h, .inr (4, [.ref k0, .ref k1, .ref k2, .ref k3, .ref k4, .ref k5, .int (nI n), .int (nI dy), .int (nI ch), .int (nI lw)])), (k4, aI cs 20 (tx_nf td))]) (ww := []) hP
  generalize hAe : va_A [] s.heap.size = A at hD hR ⊢
  have hA : ∀ q : Nat, s.heap.size ≤ q → A q := fun q h => by rw [← hAe]; exact Or.inr h
  have hS : va_S A s.heap s.heap [] := va_S.rf
  have hN : adN [h, k4] := hN
  have hf_24 := hts (.fieldLink RX4 24 "TaxedByLongest$Told" "done" "[I") (by decide +kernel)
  have hf_34 := hts (.fieldLink RX4 34 "TaxedByLongest$Told" "days" "I") (by decide +kernel)
  have in_X4 : ∀ w ∈ wsX40, w ∈ wsX4_daysToGoOn := by decide +kernel
  have hl := lv_entry ([.ref h, .int (nI d)]) (n := 3) (Nat.le_of_ble_eq_true rfl)
  rw [lg_entry_eq]
  generalize (lg_sl ([.ref h, .int (nI d)]) ++ List.replicate (3 - (lg_sl ([.ref h, .int (nI d)])).length) Slot.unset).toArray = ls at hl ⊢
  have hl : lv_has ls 3 [(0, .ref h), (1, .int (nI d))] := hl
  refine lv_iload_n hx hb dX4_daysToGoOn_0 rfl (lv_at hl 1 rfl) ?_
  refine lv_istore_n (lv' := [(2, .int (nI d)), (0, .ref h), (1, .int (nI d))]) hx hb dX4_daysToGoOn_1 rfl hl (by decide) rfl (fun ls hl => ?_)
  have loop2 : ∀ (n9 : Nat) (j : Nat) (hj : d ≤ j) (hj2 : j < dy) (hq : ∀ e, d ≤ e → e ≤ j → td e = td d), dy - j < n9 → ∀ (H : Heap) (locs : List Loc), va_P D vwCl [] H → va_D A [] → va_S A s.heap H locs → ∀ (ls : Array Slot), lv_has ls 3 [(0, .ref h), (1, .int (nI d)), (2, .int (nI j))] → W p l e (headSpec wsX4_daysToGoOn ({ frames := 0, cells := 0, slots := 0, locals := 0 } : Room)).room s m ([.ref h, .int (nI d)] : List Value).toArray below meth c H locs 0 0 (MQ below (va_Qi (fun (r : Int32) (u : Unit) => r = nI (tx_fw td dy 20 d - d)) (QB D (fun _ => []) A) A) ([.ref h, .int (nI d)] : List Value).toArray s 0 0 A) (F0 m 2 ls []) := by
    intro n9
    induction n9 with
    | zero => intros; omega
    | succ n9 ih2 =>
      intro j hj hj2 hq hmu H locs hP hD hS ls hl
      refine lv_iload_n hx hb dX4_daysToGoOn_2 rfl (lv_at hl 2 rfl) ?_
      refine lv_iconst (v := 1) hx hb dX4_daysToGoOn_3 (by decide) ?_
      refine lv_iadd hx hb dX4_daysToGoOn_4 ?_
      refine tp_i (nI_add j 1) ?_
      refine lv_aload_n hx hb dX4_daysToGoOn_5 rfl (lv_at hl 0 rfl) ?_
      refine va_get (D := D) (ci := 4) (v := .int (nI dy)) (C := RX4) (T := TX4) (N := 10) hx hb hts in_X4 hown hK (hR hS) 0 rfl rfl 7 (by decide) hf_34 (fun _ h9 => h9) rfl dX4_daysToGoOn_6 ?_
      refine bn_ge (a := j + 1) (b := dy) (tgt := 35) hx hb rfl rfl (by omega) (by omega) dX4_daysToGoOn_9 (by decide) (fun c9 => ?_) (fun c9 => ?_)
      · refine lv_iload_n hx hb dX4_daysToGoOn_35 rfl (lv_at hl 2 rfl) ?_
        refine lv_iload_n hx hb dX4_daysToGoOn_36 rfl (lv_at hl 1 rfl) ?_
        refine lv_isub hx hb dX4_daysToGoOn_37 ?_
        refine tp_i (pk_sub (a := j) (b := d) (by omega)) ?_
        exact rt_i hx hb hr hlocks () (by rw [tx_fw_of td dy 20 d j hj (by omega) hq hj2 (Or.inl c9)]) hP hD hS dX4_daysToGoOn_38
      · refine lv_aload_n hx hb dX4_daysToGoOn_12 rfl (lv_at hl 0 rfl) ?_
        refine va_get (D := D) (ci := 4) (v := .ref k4) (C := RX4) (T := TX4) (N := 10) hx hb hts in_X4 hown hK (hR hS) 0 rfl rfl 4 (by decide) hf_24 (fun _ h9 => h9) rfl dX4_daysToGoOn_13 ?_
        refine lv_iload_n hx hb dX4_daysToGoOn_16 rfl (lv_at hl 2 rfl) ?_
        refine lv_iconst (v := 1) hx hb dX4_daysToGoOn_17 (by decide) ?_
        refine lv_iadd hx hb dX4_daysToGoOn_18 ?_
        refine tp_i (nI_add j 1) ?_
        refine ia_n (f := tx_nf td) hx hb hK (hR hS) 1 0 rfl rfl (j := j + 1) rfl (by omega) (by decide) dX4_daysToGoOn_19 ?_
        refine tp_i (y := nI (td (j + 1))) rfl ?_
        refine lv_aload_n hx hb dX4_daysToGoOn_20 rfl (lv_at hl 0 rfl) ?_
        refine va_get (D := D) (ci := 4) (v := .ref k4) (C := RX4) (T := TX4) (N := 10) hx hb hts in_X4 hown hK (hR hS) 0 rfl rfl 4 (by decide) hf_24 (fun _ h9 => h9) rfl dX4_daysToGoOn_21 ?_
        refine lv_iload_n hx hb dX4_daysToGoOn_24 rfl (lv_at hl 1 rfl) ?_
        refine ia_n (f := tx_nf td) hx hb hK (hR hS) 1 0 rfl rfl (j := d) rfl (by omega) (by decide) dX4_daysToGoOn_25 ?_
        refine tp_i (y := nI (td d)) rfl ?_
        have := htd (j + 1)
        have := htd d
        refine bn_ne (a := td (j + 1)) (b := td d) (tgt := 35) hx hb rfl rfl (by omega) (by omega) dX4_daysToGoOn_26 (by decide) (fun c26 => ?_) (fun c26 => ?_)
        · refine lv_iload_n hx hb dX4_daysToGoOn_35 rfl (lv_at hl 2 rfl) ?_
          refine lv_iload_n hx hb dX4_daysToGoOn_36 rfl (lv_at hl 1 rfl) ?_
          refine lv_isub hx hb dX4_daysToGoOn_37 ?_
          refine tp_i (pk_sub (a := j) (b := d) (by omega)) ?_
          exact rt_i hx hb hr hlocks () (by rw [tx_fw_of td dy 20 d j hj (by omega) hq hj2 (Or.inr c26)]) hP hD hS dX4_daysToGoOn_38
        · refine lv_iinc (v := nI (j + 1)) (lv' := [(2, .int (nI (j + 1))), (0, .ref h), (1, .int (nI d))]) hx hb dX4_daysToGoOn_29 hl (k := 2) rfl (inc_n j 1) (by decide) rfl (fun ls hl => ?_)
          refine lv_goto (tgt := 2) hx hb dX4_daysToGoOn_32 (by decide) ?_
          exact ih2 (j + 1) (by first | assumption | omega) (by first | assumption | omega) (fun e h1 h2 => by by_cases q : e = j + 1; (rw [q]; exact c26); (exact hq e h1 (by omega))) (by omega) _ _ hP hD hS ls (lv_sub hl [1, 2, 0] rfl)
  exact loop2 _ d (by first | assumption | omega) (by first | assumption | omega) (fun e h1 h2 => by rw [show e = d by omega]) (Nat.lt_succ_self _) _ _ hP hD hS ls (lv_sub hl [1, 2, 0] rfl)
set_option maxHeartbeats 4000000 in
set_option maxRecDepth 100000 in
theorem c_X4_workValue (l : Launch) (D : va_G) (cs : Nat → ClassId) (sz : Nat) (h : Nat) (k0 : Nat) (k1 : Nat) (k2 : Nat) (k3 : Nat) (k4 : Nat) (k5 : Nat) (n : Nat) (dy : Nat) (ch : Nat) (lw : Nat) (wo : Nat → Nat) (ha : Nat → Nat) (we : Nat → Nat) (t : Nat) (k : Nat) (hf : Nat) (wf : Nat) (ht : t < 4) (hk : k < 2 ^ 31) (hhf : hf < 2 ^ 31) (hwf : wf < 2 ^ 31) : mI (S := Unit) l yX4_workValue wsX4_workValue ({ frames := 0, cells := 0, slots := 0, locals := 0 } : Room) D (tyc cs) sz [.ref h, .int (nI t), .int (nI k), .int (nI hf), .int (nI wf)] [(h, .inr (4, [.ref k0, .ref k1, .ref k2, .ref k3, .ref k4, .ref k5, .int (nI n), .int (nI dy), .int (nI ch), .int (nI lw)])), (k1, aI cs 4 (tx_nf wo)), (k2, aI cs 4 (tx_nf ha)), (k3, aI cs 4 (tx_nf we))] [] (fun (r : Int32) (u : Unit) => r = iI (tx_wv (wo t) (ha t) (we t) k hf wf)) (fun _ => []) 0 0 := by
  unfold mI
  refine Met.ofW (cc := cX4_workValue) (maxL := 6) (ret := (some .int)) (by decide) rfl ?_
  intro p e s m args below meth c s₁ B hml hv
  obtain ⟨rfl, hsz, hP, hK, hD0⟩ := hv
  have hx := B.exec
  have hb := B.bytes
  have hr := B.returns
  have hts := atoms_spec (ws := wsX4_workValue) B.pre
  have hown : s.vm.findClass RX4 = some m.cls := findClass_of_methodNamed B.named
  have hlocks := B.notSynchronized
  subst hsz
  have hR := @en_R _ _ _ [(h, .inr (4, [.ref k0, .ref k1, .ref k2, .ref k3, .ref k4, .ref k5, .int (nI n), .int (nI dy), .int (nI ch), .int (nI lw)])), (k1, aI cs 4 (tx_nf wo)), (k2, aI cs 4 (tx_nf ha)), (k3, aI cs 4 (tx_nf we))] [] _ hP hD0
  have hN := adN_of hD0
  have hD := en_D (wr := [(h, .inr (4, [.ref k0, .ref k1, .ref k2, .ref k3, .ref k4, .ref k5, .int (nI n), .int (nI dy), .int (nI ch), .int (nI lw)])), (k1, aI cs 4 (tx_nf wo)), (k2, aI cs 4 (tx_nf ha)), (k3, aI cs 4 (tx_nf we))]) (ww := []) (sz := s.heap.size) hD0
  have hP := en_P (wr := [(h, .inr (4, [.ref k0, .ref k1, .ref k2, .ref k3, .ref k4, .ref k5, .int (nI n), .int (nI dy), .int (nI ch), .int (nI lw)])), (k1, aI cs 4 (tx_nf wo)), (k2, aI cs 4 (tx_nf ha)), (k3, aI cs 4 (tx_nf we))]) (ww := []) hP
  generalize hAe : va_A [] s.heap.size = A at hD hR ⊢
  have hA : ∀ q : Nat, s.heap.size ≤ q → A q := fun q h => by rw [← hAe]; exact Or.inr h
  have hS : va_S A s.heap s.heap [] := va_S.rf
  have hN : adN [h, k1, k2, k3] := hN
  have hf_15 := hts (.fieldLink RX4 15 "TaxedByLongest$Told" "worths" "[I") (by decide +kernel)
  have hf_18 := hts (.fieldLink RX4 18 "TaxedByLongest$Told" "habits" "[I") (by decide +kernel)
  have hf_21 := hts (.fieldLink RX4 21 "TaxedByLongest$Told" "wearies" "[I") (by decide +kernel)
  have in_X4 : ∀ w ∈ wsX40, w ∈ wsX4_workValue := by decide +kernel
  have hl := lv_entry ([.ref h, .int (nI t), .int (nI k), .int (nI hf), .int (nI wf)]) (n := 6) (Nat.le_of_ble_eq_true rfl)
  rw [lg_entry_eq]
  generalize (lg_sl ([.ref h, .int (nI t), .int (nI k), .int (nI hf), .int (nI wf)]) ++ List.replicate (6 - (lg_sl ([.ref h, .int (nI t), .int (nI k), .int (nI hf), .int (nI wf)])).length) Slot.unset).toArray = ls at hl ⊢
  have hl : lv_has ls 6 [(0, .ref h), (1, .int (nI t)), (2, .int (nI k)), (3, .int (nI hf)), (4, .int (nI wf))] := hl
  refine lv_aload_n hx hb dX4_workValue_0 rfl (lv_at hl 0 rfl) ?_
  refine va_get (D := D) (ci := 4) (v := .ref k1) (C := RX4) (T := TX4) (N := 10) hx hb hts in_X4 hown hK (hR hS) 0 rfl rfl 1 (by decide) hf_15 (fun _ h9 => h9) rfl dX4_workValue_1 ?_
  refine lv_iload_n hx hb dX4_workValue_4 rfl (lv_at hl 1 rfl) ?_
  refine ia_n (f := tx_nf wo) hx hb hK (hR hS) 1 0 rfl rfl (j := t) rfl (by omega) (by decide) dX4_workValue_5 ?_
  refine tp_i (y := nI (wo t)) rfl ?_
  refine lv_istore (lv' := [(5, .int (nI (wo t))), (0, .ref h), (1, .int (nI t)), (2, .int (nI k)), (3, .int (nI hf)), (4, .int (nI wf))]) hx hb dX4_workValue_6 hl (by decide) rfl (fun ls hl => ?_)
  refine lv_iload_n hx hb dX4_workValue_8 rfl (lv_at hl 3 rfl) ?_
  refine lv_iload_n hx hb dX4_workValue_9 rfl (lv_at hl 4 rfl) ?_
  refine bn_lt (a := k) (b := hf) (tgt := 24) hx hb rfl rfl (by omega) (by omega) dX4_workValue_10 (by decide) (fun c10 => ?_) (fun c10 => ?_)
  · refine lv_iload_n hx hb dX4_workValue_24 rfl (lv_at hl 3 rfl) ?_
    refine lv_iload hx hb dX4_workValue_25 (lv_at hl 5 rfl) ?_
    refine bn_lt (a := k) (b := wf) (tgt := 41) hx hb rfl rfl (by omega) (by omega) dX4_workValue_27 (by decide) (fun c27 => ?_) (fun c27 => ?_)
    · refine lv_iload hx hb dX4_workValue_41 (lv_at hl 0 rfl) ?_
      exact rt_i hx hb hr hlocks () (by unfold tx_wv; rw [if_neg (Nat.not_le.mpr c10), if_neg (Nat.not_le.mpr c27)] <;> first | rfl | simp [nI_iI]) hP hD hS dX4_workValue_43
    · refine lv_iload hx hb dX4_workValue_30 (lv_at hl 0 rfl) ?_
      refine lv_aload_n hx hb dX4_workValue_32 rfl (lv_at hl 1 rfl) ?_
      refine va_get (D := D) (ci := 4) (v := .ref k3) (C := RX4) (T := TX4) (N := 10) hx hb hts in_X4 hown hK (hR hS) 0 rfl rfl 3 (by decide) hf_21 (fun _ h9 => h9) rfl dX4_workValue_33 ?_
      refine lv_iload_n hx hb dX4_workValue_36 rfl (lv_at hl 2 rfl) ?_
      refine ia_n (f := tx_nf we) hx hb hK (hR hS) 3 0 rfl rfl (j := t) rfl (by omega) (by decide) dX4_workValue_37 ?_
      refine tp_i (y := nI (we t)) rfl ?_
      refine lv_isub hx hb dX4_workValue_38 ?_
      refine tp_i (sub_iI (a := ((wo t : Nat) : Int)) (b := ((we t : Nat) : Int)) (nI_iI _) (nI_iI _)) ?_
      refine lv_istore (lv' := [(5, .int (iI (((wo t : Nat) : Int) - ((we t : Nat) : Int)))), (0, .ref h), (1, .int (nI t)), (2, .int (nI k)), (3, .int (nI hf)), (4, .int (nI wf))]) hx hb dX4_workValue_39 hl (by decide) rfl (fun ls hl => ?_)
      refine lv_iload hx hb dX4_workValue_41 (lv_at hl 0 rfl) ?_
      exact rt_i hx hb hr hlocks () (by unfold tx_wv; rw [if_neg (Nat.not_le.mpr c10), if_pos c27] <;> first | rfl | simp [nI_iI]) hP hD hS dX4_workValue_43
  · refine lv_iload hx hb dX4_workValue_13 (lv_at hl 0 rfl) ?_
    refine lv_aload_n hx hb dX4_workValue_15 rfl (lv_at hl 1 rfl) ?_
    refine va_get (D := D) (ci := 4) (v := .ref k2) (C := RX4) (T := TX4) (N := 10) hx hb hts in_X4 hown hK (hR hS) 0 rfl rfl 2 (by decide) hf_18 (fun _ h9 => h9) rfl dX4_workValue_16 ?_
    refine lv_iload_n hx hb dX4_workValue_19 rfl (lv_at hl 2 rfl) ?_
    refine ia_n (f := tx_nf ha) hx hb hK (hR hS) 2 0 rfl rfl (j := t) rfl (by omega) (by decide) dX4_workValue_20 ?_
    refine tp_i (y := nI (ha t)) rfl ?_
    refine lv_iadd hx hb dX4_workValue_21 ?_
    refine tp_i (nI_add (wo t) (ha t)) ?_
    refine lv_istore (lv' := [(5, .int (nI ((wo t) + (ha t)))), (0, .ref h), (1, .int (nI t)), (2, .int (nI k)), (3, .int (nI hf)), (4, .int (nI wf))]) hx hb dX4_workValue_22 hl (by decide) rfl (fun ls hl => ?_)
    refine lv_iload_n hx hb dX4_workValue_24 rfl (lv_at hl 3 rfl) ?_
    refine lv_iload hx hb dX4_workValue_25 (lv_at hl 5 rfl) ?_
    refine bn_lt (a := k) (b := wf) (tgt := 41) hx hb rfl rfl (by omega) (by omega) dX4_workValue_27 (by decide) (fun c27 => ?_) (fun c27 => ?_)
    · refine lv_iload hx hb dX4_workValue_41 (lv_at hl 0 rfl) ?_
      exact rt_i hx hb hr hlocks () (by unfold tx_wv; rw [if_pos c10, if_neg (Nat.not_le.mpr c27)] <;> first | rfl | simp [nI_iI]) hP hD hS dX4_workValue_43
    · refine lv_iload hx hb dX4_workValue_30 (lv_at hl 0 rfl) ?_
      refine lv_aload_n hx hb dX4_workValue_32 rfl (lv_at hl 1 rfl) ?_
      refine va_get (D := D) (ci := 4) (v := .ref k3) (C := RX4) (T := TX4) (N := 10) hx hb hts in_X4 hown hK (hR hS) 0 rfl rfl 3 (by decide) hf_21 (fun _ h9 => h9) rfl dX4_workValue_33 ?_
      refine lv_iload_n hx hb dX4_workValue_36 rfl (lv_at hl 2 rfl) ?_
      refine ia_n (f := tx_nf we) hx hb hK (hR hS) 3 0 rfl rfl (j := t) rfl (by omega) (by decide) dX4_workValue_37 ?_
      refine tp_i (y := nI (we t)) rfl ?_
      refine lv_isub hx hb dX4_workValue_38 ?_
      refine tp_i (sub_iI (a := (((wo t) + (ha t) : Nat) : Int)) (b := ((we t : Nat) : Int)) (nI_iI _) (nI_iI _)) ?_
      refine lv_istore (lv' := [(5, .int (iI ((((wo t) + (ha t) : Nat) : Int) - ((we t : Nat) : Int)))), (0, .ref h), (1, .int (nI t)), (2, .int (nI k)), (3, .int (nI hf)), (4, .int (nI wf))]) hx hb dX4_workValue_39 hl (by decide) rfl (fun ls hl => ?_)
      refine lv_iload hx hb dX4_workValue_41 (lv_at hl 0 rfl) ?_
      exact rt_i hx hb hr hlocks () (by unfold tx_wv; rw [if_pos c10, if_pos c27] <;> first | rfl | simp [nI_iI]) hP hD hS dX4_workValue_43
set_option maxHeartbeats 4000000 in
set_option maxRecDepth 100000 in
theorem c_X4_valueOf (l : Launch) (D : va_G) (cs : Nat → ClassId) (sz : Nat) (h : Nat) (k0 : Nat) (k1 : Nat) (k2 : Nat) (k3 : Nat) (k4 : Nat) (k5 : Nat) (n : Nat) (dy : Nat) (ch : Nat) (lw : Nat) (kd : Nat → Nat) (wo : Nat → Nat) (ha : Nat → Nat) (we : Nat → Nat) (t : Nat) (k : Nat) (hn : n ≤ 4) (ht : t < 4) (hk : k < 2 ^ 31) (hkd : ∀ e, kd e ≤ 5) : mI (S := Unit) l yX4_valueOf wsX4_valueOf ({ frames := 1, cells := 0, slots := 0, locals := 25 } : Room) D (tyc cs) sz [.ref h, .int (nI t), .int (nI k)] [(h, .inr (4, [.ref k0, .ref k1, .ref k2, .ref k3, .ref k4, .ref k5, .int (nI n), .int (nI dy), .int (nI ch), .int (nI lw)])), (k0, aI cs 4 (tx_nf kd)), (k1, aI cs 4 (tx_nf wo)), (k2, aI cs 4 (tx_nf ha)), (k3, aI cs 4 (tx_nf we))] [] (fun (r : Int32) (u : Unit) => r = iI (tx_vn n kd wo ha we t k)) (fun _ => []) 0 0 := by
  unfold mI
  refine Met.ofW (cc := cX4_valueOf) (maxL := 3) (ret := (some .int)) (by decide) rfl ?_
  intro p e s m args below meth c s₁ B hml hv
  obtain ⟨rfl, hsz, hP, hK, hD0⟩ := hv
  have hx := B.exec
  have hb := B.bytes
  have hr := B.returns
  have hts := atoms_spec (ws := wsX4_valueOf) B.pre
  have hown : s.vm.findClass RX4 = some m.cls := findClass_of_methodNamed B.named
  have hlocks := B.notSynchronized
  subst hsz
  have hR := @en_R _ _ _ [(h, .inr (4, [.ref k0, .ref k1, .ref k2, .ref k3, .ref k4, .ref k5, .int (nI n), .int (nI dy), .int (nI ch), .int (nI lw)])), (k0, aI cs 4 (tx_nf kd)), (k1, aI cs 4 (tx_nf wo)), (k2, aI cs 4 (tx_nf ha)), (k3, aI cs 4 (tx_nf we))] [] _ hP hD0
  have hN := adN_of hD0
  have hD := en_D (wr := [(h, .inr (4, [.ref k0, .ref k1, .ref k2, .ref k3, .ref k4, .ref k5, .int (nI n), .int (nI dy), .int (nI ch), .int (nI lw)])), (k0, aI cs 4 (tx_nf kd)), (k1, aI cs 4 (tx_nf wo)), (k2, aI cs 4 (tx_nf ha)), (k3, aI cs 4 (tx_nf we))]) (ww := []) (sz := s.heap.size) hD0
  have hP := en_P (wr := [(h, .inr (4, [.ref k0, .ref k1, .ref k2, .ref k3, .ref k4, .ref k5, .int (nI n), .int (nI dy), .int (nI ch), .int (nI lw)])), (k0, aI cs 4 (tx_nf kd)), (k1, aI cs 4 (tx_nf wo)), (k2, aI cs 4 (tx_nf ha)), (k3, aI cs 4 (tx_nf we))]) (ww := []) hP
  generalize hAe : va_A [] s.heap.size = A at hD hR ⊢
  have hA : ∀ q : Nat, s.heap.size ≤ q → A q := fun q h => by rw [← hAe]; exact Or.inr h
  have hS : va_S A s.heap s.heap [] := va_S.rf
  have hN : adN [h, k0, k1, k2, k3] := hN
  have hf_9 := hts (.fieldLink RX4 9 "TaxedByLongest$Told" "kinds" "[I") (by decide +kernel)
  have hf_15 := hts (.fieldLink RX4 15 "TaxedByLongest$Told" "worths" "[I") (by decide +kernel)
  have in_X4 : ∀ w ∈ wsX40, w ∈ wsX4_valueOf := by decide +kernel
  have hl := lv_entry ([.ref h, .int (nI t), .int (nI k)]) (n := 3) (Nat.le_of_ble_eq_true rfl)
  rw [lg_entry_eq]
  generalize (lg_sl ([.ref h, .int (nI t), .int (nI k)]) ++ List.replicate (3 - (lg_sl ([.ref h, .int (nI t), .int (nI k)])).length) Slot.unset).toArray = ls at hl ⊢
  have hl : lv_has ls 3 [(0, .ref h), (1, .int (nI t)), (2, .int (nI k))] := hl
  refine lv_aload_n hx hb dX4_valueOf_0 rfl (lv_at hl 0 rfl) ?_
  refine lv_iload_n hx hb dX4_valueOf_1 rfl (lv_at hl 1 rfl) ?_
  refine cV_i (As := [.int (nI t)]) (rest := []) (cr := [(h, .inr (4, [.ref k0, .ref k1, .ref k2, .ref k3, .ref k4, .ref k5, .int (nI n), .int (nI dy), .int (nI ch), .int (nI lw)]))]) (cw1 := []) ⟨hx, hb, hml, hown, hts⟩ (c_X4_hasThing_n l D cs _ h k0 k1 k2 k3 k4 k5 n dy ch lw t (by first | assumption | omega) (by first | assumption | omega)) (cwV 1 hts gX4_valueOf_X4_hasThing rfl rfl rfl (by decide +kernel) ⟨Nat.le_of_ble_eq_true rfl, Nat.le_of_ble_eq_true rfl⟩) hK hP hD hS hA (((hR hS).app hP).sub [0] rfl) (dt_of hN [0] (by decide) rfl) [] rfl 0 rfl rfl rfl hl.1 rfl (Nat.le_of_ble_eq_true rfl) dX4_valueOf_2 ⟨Nat.le_of_ble_eq_true rfl, Nat.le_of_ble_eq_true rfl⟩ (fun _ => rfl) (fun _ => rfl) (fun r_1 u9 H locs hw_2 hP hD hS => ?_)
  have hP : va_P D vwCl [] H := hP
  have hD : va_D A [] := hD
  subst hw_2
  refine bd_ne (P := t < n) (tgt := 10) hx hb rfl dX4_valueOf_5 (by decide) (fun c5 => ?_) (fun c5 => ?_)
  · refine lv_aload_n hx hb dX4_valueOf_10 rfl (lv_at hl 0 rfl) ?_
    refine va_get (D := D) (ci := 4) (v := .ref k0) (C := RX4) (T := TX4) (N := 10) hx hb hts in_X4 hown hK (hR hS) 0 rfl rfl 0 (by decide) hf_9 (fun _ h9 => h9) rfl dX4_valueOf_11 ?_
    refine lv_iload_n hx hb dX4_valueOf_14 rfl (lv_at hl 1 rfl) ?_
    refine ia_n (f := tx_nf kd) hx hb hK (hR hS) 1 0 rfl rfl (j := t) rfl (by omega) (by decide) dX4_valueOf_15 ?_
    refine tp_i (y := nI (kd t)) rfl ?_
    have hk9 := hkd t
    by_cases s16_1 : kd t = 1
    · refine tp_i (y := 1) (by rw [s16_1]; rfl) ?_
      refine lv_tableIn (tgt := 52) hx hb dX4_valueOf_16 (by decide) (by decide) rfl (by decide) ?_
      refine lv_iconst (v := 0) hx hb dX4_valueOf_52 (by decide) ?_
      exact rt_i hx hb hr hlocks () (by unfold tx_vn; rw [if_pos c5]; unfold tx_vl; simp [c5, s16_1, nI_iI] <;> first | rfl | done) hP hD hS dX4_valueOf_53
    · have _ := 0
      by_cases s16_2 : kd t = 2
      · refine tp_i (y := 2) (by rw [s16_2]; rfl) ?_
        refine lv_tableIn (tgt := 54) hx hb dX4_valueOf_16 (by decide) (by decide) rfl (by decide) ?_
        refine lv_aload_n hx hb dX4_valueOf_54 rfl (lv_at hl 0 rfl) ?_
        refine lv_iload_n hx hb dX4_valueOf_55 rfl (lv_at hl 1 rfl) ?_
        refine lv_iload_n hx hb dX4_valueOf_56 rfl (lv_at hl 2 rfl) ?_
        refine lv_iconst (v := 2) hx hb dX4_valueOf_57 (by decide) ?_
        refine lv_bipush (v := 7) hx hb dX4_valueOf_58 (by decide) ?_
        refine cV_i (As := [.int (nI t), .int (nI k), .int 2, .int 7]) (rest := []) (cr := [(h, .inr (4, [.ref k0, .ref k1, .ref k2, .ref k3, .ref k4, .ref k5, .int (nI n), .int (nI dy), .int (nI ch), .int (nI lw)])), (k1, aI cs 4 (tx_nf wo)), (k2, aI cs 4 (tx_nf ha)), (k3, aI cs 4 (tx_nf we))]) (cw1 := []) ⟨hx, hb, hml, hown, hts⟩ (c_X4_workValue l D cs _ h k0 k1 k2 k3 k4 k5 n dy ch lw wo ha we t k 2 7 (by first | assumption | omega) (by first | assumption | omega) (by first | assumption | omega) (by first | assumption | omega)) (cwV 4 hts gX4_valueOf_X4_workValue rfl rfl rfl (by decide +kernel) ⟨Nat.le_of_ble_eq_true rfl, Nat.le_of_ble_eq_true rfl⟩) hK hP hD hS hA (((hR hS).app hP).sub [0, 2, 3, 4] rfl) (dt_of hN [0, 2, 3, 4] (by decide) rfl) [] rfl 0 rfl rfl rfl hl.1 rfl (Nat.le_of_ble_eq_true rfl) dX4_valueOf_60 ⟨Nat.le_of_ble_eq_true rfl, Nat.le_of_ble_eq_true rfl⟩ (fun _ => rfl) (fun _ => rfl) (fun r_3 u9 H locs hw_4 hP hD hS => ?_)
        have hP : va_P D vwCl [] H := hP
        have hD : va_D A [] := hD
        subst hw_4
        exact rt_i hx hb hr hlocks () (by unfold tx_vn; rw [if_pos c5]; unfold tx_vl; simp [c5, s16_2, nI_iI] <;> first | rfl | done) hP hD hS dX4_valueOf_63
      · have _ := 0
        by_cases s16_3 : kd t = 3
        · refine tp_i (y := 3) (by rw [s16_3]; rfl) ?_
          refine lv_tableIn (tgt := 64) hx hb dX4_valueOf_16 (by decide) (by decide) rfl (by decide) ?_
          refine lv_aload_n hx hb dX4_valueOf_64 rfl (lv_at hl 0 rfl) ?_
          refine lv_iload_n hx hb dX4_valueOf_65 rfl (lv_at hl 1 rfl) ?_
          refine lv_iload_n hx hb dX4_valueOf_66 rfl (lv_at hl 2 rfl) ?_
          refine lv_iconst (v := 4) hx hb dX4_valueOf_67 (by decide) ?_
          refine lv_iconst (v := 4) hx hb dX4_valueOf_68 (by decide) ?_
          refine cV_i (As := [.int (nI t), .int (nI k), .int 4, .int 4]) (rest := []) (cr := [(h, .inr (4, [.ref k0, .ref k1, .ref k2, .ref k3, .ref k4, .ref k5, .int (nI n), .int (nI dy), .int (nI ch), .int (nI lw)])), (k1, aI cs 4 (tx_nf wo)), (k2, aI cs 4 (tx_nf ha)), (k3, aI cs 4 (tx_nf we))]) (cw1 := []) ⟨hx, hb, hml, hown, hts⟩ (c_X4_workValue l D cs _ h k0 k1 k2 k3 k4 k5 n dy ch lw wo ha we t k 4 4 (by first | assumption | omega) (by first | assumption | omega) (by first | assumption | omega) (by first | assumption | omega)) (cwV 4 hts gX4_valueOf_X4_workValue rfl rfl rfl (by decide +kernel) ⟨Nat.le_of_ble_eq_true rfl, Nat.le_of_ble_eq_true rfl⟩) hK hP hD hS hA (((hR hS).app hP).sub [0, 2, 3, 4] rfl) (dt_of hN [0, 2, 3, 4] (by decide) rfl) [] rfl 0 rfl rfl rfl hl.1 rfl (Nat.le_of_ble_eq_true rfl) dX4_valueOf_69 ⟨Nat.le_of_ble_eq_true rfl, Nat.le_of_ble_eq_true rfl⟩ (fun _ => rfl) (fun _ => rfl) (fun r_5 u9 H locs hw_6 hP hD hS => ?_)
          have hP : va_P D vwCl [] H := hP
          have hD : va_D A [] := hD
          subst hw_6
          exact rt_i hx hb hr hlocks () (by unfold tx_vn; rw [if_pos c5]; unfold tx_vl; simp [c5, s16_3, nI_iI] <;> first | rfl | done) hP hD hS dX4_valueOf_72
        · have _ := 0
          by_cases s16_4 : kd t = 4
          · refine tp_i (y := 4) (by rw [s16_4]; rfl) ?_
            refine lv_tableIn (tgt := 73) hx hb dX4_valueOf_16 (by decide) (by decide) rfl (by decide) ?_
            refine lv_iconst (v := 2) hx hb dX4_valueOf_73 (by decide) ?_
            refine lv_aload_n hx hb dX4_valueOf_74 rfl (lv_at hl 0 rfl) ?_
            refine lv_iload_n hx hb dX4_valueOf_75 rfl (lv_at hl 1 rfl) ?_
            refine lv_iload_n hx hb dX4_valueOf_76 rfl (lv_at hl 2 rfl) ?_
            refine lv_iconst (v := 2) hx hb dX4_valueOf_77 (by decide) ?_
            refine lv_bipush (v := 7) hx hb dX4_valueOf_78 (by decide) ?_
            refine cV_i (As := [.int (nI t), .int (nI k), .int 2, .int 7]) (rest := [.int 2]) (cr := [(h, .inr (4, [.ref k0, .ref k1, .ref k2, .ref k3, .ref k4, .ref k5, .int (nI n), .int (nI dy), .int (nI ch), .int (nI lw)])), (k1, aI cs 4 (tx_nf wo)), (k2, aI cs 4 (tx_nf ha)), (k3, aI cs 4 (tx_nf we))]) (cw1 := []) ⟨hx, hb, hml, hown, hts⟩ (c_X4_workValue l D cs _ h k0 k1 k2 k3 k4 k5 n dy ch lw wo ha we t k 2 7 (by first | assumption | omega) (by first | assumption | omega) (by first | assumption | omega) (by first | assumption | omega)) (cwV 4 hts gX4_valueOf_X4_workValue rfl rfl rfl (by decide +kernel) ⟨Nat.le_of_ble_eq_true rfl, Nat.le_of_ble_eq_true rfl⟩) hK hP hD hS hA (((hR hS).app hP).sub [0, 2, 3, 4] rfl) (dt_of hN [0, 2, 3, 4] (by decide) rfl) [] rfl 0 rfl rfl rfl hl.1 rfl (Nat.le_of_ble_eq_true rfl) dX4_valueOf_80 ⟨Nat.le_of_ble_eq_true rfl, Nat.le_of_ble_eq_true rfl⟩ (fun _ => rfl) (fun _ => rfl) (fun r_7 u9 H locs hw_8 hP hD hS => ?_)
            have hP : va_P D vwCl [] H := hP
            have hD : va_D A [] := hD
            subst hw_8
            refine lv_imul hx hb dX4_valueOf_83 ?_
            refine tp_i (mul_iI (a := 2) (b := tx_wv (wo t) (ha t) (we t) k 2 7) (by decide) rfl) ?_
            exact rt_i hx hb hr hlocks () (by unfold tx_vn; rw [if_pos c5]; unfold tx_vl; simp [c5, s16_4, nI_iI] <;> first | rfl | done) hP hD hS dX4_valueOf_84
          · have _ := 0
            by_cases s16_5 : kd t = 5
            · refine tp_i (y := 5) (by rw [s16_5]; rfl) ?_
              refine lv_tableIn (tgt := 85) hx hb dX4_valueOf_16 (by decide) (by decide) rfl (by decide) ?_
              refine lv_iload_n hx hb dX4_valueOf_85 rfl (lv_at hl 2 rfl) ?_
              refine lv_iconst (v := 1) hx hb dX4_valueOf_86 (by decide) ?_
              refine bn_ne (a := k) (b := 1) (tgt := 99) hx hb rfl rfl (by omega) (by decide) dX4_valueOf_87 (by decide) (fun c87 => ?_) (fun c87 => ?_)
              · refine lv_iconst (v := 0) hx hb dX4_valueOf_99 (by decide) ?_
                exact rt_i hx hb hr hlocks () (by unfold tx_vn; rw [if_pos c5]; unfold tx_vl; simp [c5, c87, s16_5, nI_iI] <;> first | rfl | done) hP hD hS dX4_valueOf_100
              · refine lv_aload_n hx hb dX4_valueOf_90 rfl (lv_at hl 0 rfl) ?_
                refine va_get (D := D) (ci := 4) (v := .ref k1) (C := RX4) (T := TX4) (N := 10) hx hb hts in_X4 hown hK (hR hS) 0 rfl rfl 1 (by decide) hf_15 (fun _ h9 => h9) rfl dX4_valueOf_91 ?_
                refine lv_iload_n hx hb dX4_valueOf_94 rfl (lv_at hl 1 rfl) ?_
                refine ia_n (f := tx_nf wo) hx hb hK (hR hS) 2 0 rfl rfl (j := t) rfl (by omega) (by decide) dX4_valueOf_95 ?_
                refine tp_i (y := nI (wo t)) rfl ?_
                refine lv_goto (tgt := 100) hx hb dX4_valueOf_96 (by decide) ?_
                exact rt_i hx hb hr hlocks () (by unfold tx_vn; rw [if_pos c5]; unfold tx_vl; simp [c5, c87, s16_5, nI_iI] <;> first | rfl | done) hP hD hS dX4_valueOf_100
            · have _ := 0
              refine lv_tableOut (tgt := 101) hx hb dX4_valueOf_16 (by rw [nI_toInt (by omega)]; omega) (by decide) ?_
              refine lv_aload_n hx hb dX4_valueOf_101 rfl (lv_at hl 0 rfl) ?_
              refine lv_iload_n hx hb dX4_valueOf_102 rfl (lv_at hl 1 rfl) ?_
              refine lv_iload_n hx hb dX4_valueOf_103 rfl (lv_at hl 2 rfl) ?_
              refine lv_iconst (v := 4) hx hb dX4_valueOf_104 (by decide) ?_
              refine lv_bipush (v := 7) hx hb dX4_valueOf_105 (by decide) ?_
              refine cV_i (As := [.int (nI t), .int (nI k), .int 4, .int 7]) (rest := []) (cr := [(h, .inr (4, [.ref k0, .ref k1, .ref k2, .ref k3, .ref k4, .ref k5, .int (nI n), .int (nI dy), .int (nI ch), .int (nI lw)])), (k1, aI cs 4 (tx_nf wo)), (k2, aI cs 4 (tx_nf ha)), (k3, aI cs 4 (tx_nf we))]) (cw1 := []) ⟨hx, hb, hml, hown, hts⟩ (c_X4_workValue l D cs _ h k0 k1 k2 k3 k4 k5 n dy ch lw wo ha we t k 4 7 (by first | assumption | omega) (by first | assumption | omega) (by first | assumption | omega) (by first | assumption | omega)) (cwV 4 hts gX4_valueOf_X4_workValue rfl rfl rfl (by decide +kernel) ⟨Nat.le_of_ble_eq_true rfl, Nat.le_of_ble_eq_true rfl⟩) hK hP hD hS hA (((hR hS).app hP).sub [0, 2, 3, 4] rfl) (dt_of hN [0, 2, 3, 4] (by decide) rfl) [] rfl 0 rfl rfl rfl hl.1 rfl (Nat.le_of_ble_eq_true rfl) dX4_valueOf_107 ⟨Nat.le_of_ble_eq_true rfl, Nat.le_of_ble_eq_true rfl⟩ (fun _ => rfl) (fun _ => rfl) (fun r_9 u9 H locs hw_10 hP hD hS => ?_)
              have hP : va_P D vwCl [] H := hP
              have hD : va_D A [] := hD
              subst hw_10
              exact rt_i hx hb hr hlocks () (by unfold tx_vn; rw [if_pos c5]; unfold tx_vl; simp [c5, s16_1, s16_2, s16_3, s16_4, s16_5, nI_iI] <;> first | rfl | done) hP hD hS dX4_valueOf_110
  · refine lv_iconst (v := 0) hx hb dX4_valueOf_8 (by decide) ?_
    exact rt_i hx hb hr hlocks () (by unfold tx_vn; rw [if_neg c5]; rfl) hP hD hS dX4_valueOf_9
set_option maxHeartbeats 4000000 in
set_option maxRecDepth 100000 in
theorem c_X4_isTaxed (l : Launch) (D : va_G) (cs : Nat → ClassId) (sz : Nat) (h : Nat) (k0 : Nat) (k1 : Nat) (k2 : Nat) (k3 : Nat) (k4 : Nat) (k5 : Nat) (n : Nat) (dy : Nat) (ch : Nat) (lw : Nat) (kd : Nat → Nat) (t : Nat) (hn : n ≤ 4) (ht : t < 4) (hkd : ∀ e, kd e ≤ 5) : mI (S := Unit) l yX4_isTaxed wsX4_isTaxed ({ frames := 1, cells := 0, slots := 0, locals := 21 } : Room) D (tyc cs) sz [.ref h, .int (nI t)] [(h, .inr (4, [.ref k0, .ref k1, .ref k2, .ref k3, .ref k4, .ref k5, .int (nI n), .int (nI dy), .int (nI ch), .int (nI lw)])), (k0, aI cs 4 (tx_nf kd))] [] (fun (r : Int32) (u : Unit) => r = bI (tx_tx n kd t)) (fun _ => []) 0 0 := by
  unfold mI
  refine Met.ofW (cc := cX4_isTaxed) (maxL := 2) (ret := (some .boolean)) (by decide) rfl ?_
  intro p e s m args below meth c s₁ B hml hv
  obtain ⟨rfl, hsz, hP, hK, hD0⟩ := hv
  have hx := B.exec
  have hb := B.bytes
  have hr := B.returns
  have hts := atoms_spec (ws := wsX4_isTaxed) B.pre
  have hown : s.vm.findClass RX4 = some m.cls := findClass_of_methodNamed B.named
  have hlocks := B.notSynchronized
  subst hsz
  have hR := @en_R _ _ _ [(h, .inr (4, [.ref k0, .ref k1, .ref k2, .ref k3, .ref k4, .ref k5, .int (nI n), .int (nI dy), .int (nI ch), .int (nI lw)])), (k0, aI cs 4 (tx_nf kd))] [] _ hP hD0
  have hN := adN_of hD0
  have hD := en_D (wr := [(h, .inr (4, [.ref k0, .ref k1, .ref k2, .ref k3, .ref k4, .ref k5, .int (nI n), .int (nI dy), .int (nI ch), .int (nI lw)])), (k0, aI cs 4 (tx_nf kd))]) (ww := []) (sz := s.heap.size) hD0
  have hP := en_P (wr := [(h, .inr (4, [.ref k0, .ref k1, .ref k2, .ref k3, .ref k4, .ref k5, .int (nI n), .int (nI dy), .int (nI ch), .int (nI lw)])), (k0, aI cs 4 (tx_nf kd))]) (ww := []) hP
  generalize hAe : va_A [] s.heap.size = A at hD hR ⊢
  have hA : ∀ q : Nat, s.heap.size ≤ q → A q := fun q h => by rw [← hAe]; exact Or.inr h
  have hS : va_S A s.heap s.heap [] := va_S.rf
  have hN : adN [h, k0] := hN
  have hf_9 := hts (.fieldLink RX4 9 "TaxedByLongest$Told" "kinds" "[I") (by decide +kernel)
  have in_X4 : ∀ w ∈ wsX40, w ∈ wsX4_isTaxed := by decide +kernel
  have hl := lv_entry ([.ref h, .int (nI t)]) (n := 2) (Nat.le_of_ble_eq_true rfl)
  rw [lg_entry_eq]
  generalize (lg_sl ([.ref h, .int (nI t)]) ++ List.replicate (2 - (lg_sl ([.ref h, .int (nI t)])).length) Slot.unset).toArray = ls at hl ⊢
  have hl : lv_has ls 2 [(0, .ref h), (1, .int (nI t))] := hl
  refine lv_aload_n hx hb dX4_isTaxed_0 rfl (lv_at hl 0 rfl) ?_
  refine lv_iload_n hx hb dX4_isTaxed_1 rfl (lv_at hl 1 rfl) ?_
  refine cV_i (As := [.int (nI t)]) (rest := []) (cr := [(h, .inr (4, [.ref k0, .ref k1, .ref k2, .ref k3, .ref k4, .ref k5, .int (nI n), .int (nI dy), .int (nI ch), .int (nI lw)]))]) (cw1 := []) ⟨hx, hb, hml, hown, hts⟩ (c_X4_hasThing_n l D cs _ h k0 k1 k2 k3 k4 k5 n dy ch lw t (by first | assumption | omega) (by first | assumption | omega)) (cwV 1 hts gX4_isTaxed_X4_hasThing rfl rfl rfl (by decide +kernel) ⟨Nat.le_of_ble_eq_true rfl, Nat.le_of_ble_eq_true rfl⟩) hK hP hD hS hA (((hR hS).app hP).sub [0] rfl) (dt_of hN [0] (by decide) rfl) [] rfl 0 rfl rfl rfl hl.1 rfl (Nat.le_of_ble_eq_true rfl) dX4_isTaxed_2 ⟨Nat.le_of_ble_eq_true rfl, Nat.le_of_ble_eq_true rfl⟩ (fun _ => rfl) (fun _ => rfl) (fun r_1 u9 H locs hw_2 hP hD hS => ?_)
  have hP : va_P D vwCl [] H := hP
  have hD : va_D A [] := hD
  subst hw_2
  refine bd_eq (P := t < n) (tgt := 32) hx hb rfl dX4_isTaxed_5 (by decide) (fun c5 => ?_) (fun c5 => ?_)
  · refine lv_iconst (v := 0) hx hb dX4_isTaxed_32 (by decide) ?_
    exact rt_z hx hb hr rfl hlocks () (by unfold tx_tx; simp [c5, bI]) hP hD hS dX4_isTaxed_33
  · refine lv_aload_n hx hb dX4_isTaxed_8 rfl (lv_at hl 0 rfl) ?_
    refine va_get (D := D) (ci := 4) (v := .ref k0) (C := RX4) (T := TX4) (N := 10) hx hb hts in_X4 hown hK (hR hS) 0 rfl rfl 0 (by decide) hf_9 (fun _ h9 => h9) rfl dX4_isTaxed_9 ?_
    refine lv_iload_n hx hb dX4_isTaxed_12 rfl (lv_at hl 1 rfl) ?_
    refine ia_n (f := tx_nf kd) hx hb hK (hR hS) 1 0 rfl rfl (j := t) rfl (by omega) (by decide) dX4_isTaxed_13 ?_
    refine tp_i (y := nI (kd t)) rfl ?_
    refine lv_iconst (v := 1) hx hb dX4_isTaxed_14 (by decide) ?_
    have := hkd t
    refine bn_eq (a := kd t) (b := 1) (tgt := 32) hx hb rfl rfl (by omega) (by decide) dX4_isTaxed_15 (by decide) (fun c15 => ?_) (fun c15 => ?_)
    · refine lv_iconst (v := 0) hx hb dX4_isTaxed_32 (by decide) ?_
      exact rt_z hx hb hr rfl hlocks () (by unfold tx_tx; simp [c5, c15, bI]) hP hD hS dX4_isTaxed_33
    · refine lv_aload_n hx hb dX4_isTaxed_18 rfl (lv_at hl 0 rfl) ?_
      refine va_get (D := D) (ci := 4) (v := .ref k0) (C := RX4) (T := TX4) (N := 10) hx hb hts in_X4 hown hK (hR hS) 0 rfl rfl 0 (by decide) hf_9 (fun _ h9 => h9) rfl dX4_isTaxed_19 ?_
      refine lv_iload_n hx hb dX4_isTaxed_22 rfl (lv_at hl 1 rfl) ?_
      refine ia_n (f := tx_nf kd) hx hb hK (hR hS) 1 0 rfl rfl (j := t) rfl (by omega) (by decide) dX4_isTaxed_23 ?_
      refine tp_i (y := nI (kd t)) rfl ?_
      refine lv_iconst (v := 5) hx hb dX4_isTaxed_24 (by decide) ?_
      have := hkd t
      refine bn_eq (a := kd t) (b := 5) (tgt := 32) hx hb rfl rfl (by omega) (by decide) dX4_isTaxed_25 (by decide) (fun c25 => ?_) (fun c25 => ?_)
      · refine lv_iconst (v := 0) hx hb dX4_isTaxed_32 (by decide) ?_
        exact rt_z hx hb hr rfl hlocks () (by unfold tx_tx; simp [c5, c15, c25, bI]) hP hD hS dX4_isTaxed_33
      · refine lv_iconst (v := 1) hx hb dX4_isTaxed_28 (by decide) ?_
        refine lv_goto (tgt := 33) hx hb dX4_isTaxed_29 (by decide) ?_
        exact rt_z hx hb hr rfl hlocks () (by unfold tx_tx; simp [c5, c15, c25, bI]) hP hD hS dX4_isTaxed_33
set_option maxHeartbeats 4000000 in
set_option maxRecDepth 100000 in
theorem c_X4_valueNow (l : Launch) (D : va_G) (cs : Nat → ClassId) (sz : Nat) (h : Nat) (k0 : Nat) (k1 : Nat) (k2 : Nat) (k3 : Nat) (k4 : Nat) (k5 : Nat) (n : Nat) (dy : Nat) (ch : Nat) (lw : Nat) (kd : Nat → Nat) (wo : Nat → Nat) (ha : Nat → Nat) (we : Nat → Nat) (td : Nat → Nat) (d : Nat) (hn : n ≤ 4) (hd : d < 20) (htd : ∀ e, td e < 4) (hkd : ∀ e, kd e ≤ 5) : mI (S := Unit) l yX4_valueNow wsX4_valueNow ({ frames := 2, cells := 0, slots := 0, locals := 47 } : Room) D (tyc cs) sz [.ref h, .int (nI d)] [(h, .inr (4, [.ref k0, .ref k1, .ref k2, .ref k3, .ref k4, .ref k5, .int (nI n), .int (nI dy), .int (nI ch), .int (nI lw)])), (k0, aI cs 4 (tx_nf kd)), (k1, aI cs 4 (tx_nf wo)), (k2, aI cs 4 (tx_nf ha)), (k3, aI cs 4 (tx_nf we)), (k4, aI cs 20 (tx_nf td))] [] (fun (r : Int32) (u : Unit) => r = iI (tx_vn n kd wo ha we (td d) (tx_pl td d))) (fun _ => []) 0 0 := by
  unfold mI
  refine Met.ofW (cc := cX4_valueNow) (maxL := 2) (ret := (some .int)) (by decide) rfl ?_
  intro p e s m args below meth c s₁ B hml hv
  obtain ⟨rfl, hsz, hP, hK, hD0⟩ := hv
  have hx := B.exec
  have hb := B.bytes
  have hr := B.returns
  have hts := atoms_spec (ws := wsX4_valueNow) B.pre
  have hown : s.vm.findClass RX4 = some m.cls := findClass_of_methodNamed B.named
  have hlocks := B.notSynchronized
  subst hsz
  have hR := @en_R _ _ _ [(h, .inr (4, [.ref k0, .ref k1, .ref k2, .ref k3, .ref k4, .ref k5, .int (nI n), .int (nI dy), .int (nI ch), .int (nI lw)])), (k0, aI cs 4 (tx_nf kd)), (k1, aI cs 4 (tx_nf wo)), (k2, aI cs 4 (tx_nf ha)), (k3, aI cs 4 (tx_nf we)), (k4, aI cs 20 (tx_nf td))] [] _ hP hD0
  have hN := adN_of hD0
  have hD := en_D (wr := [(h, .inr (4, [.ref k0, .ref k1, .ref k2, .ref k3, .ref k4, .ref k5, .int (nI n), .int (nI dy), .int (nI ch), .int (nI lw)])), (k0, aI cs 4 (tx_nf kd)), (k1, aI cs 4 (tx_nf wo)), (k2, aI cs 4 (tx_nf ha)), (k3, aI cs 4 (tx_nf we)), (k4, aI cs 20 (tx_nf td))]) (ww := []) (sz := s.heap.size) hD0
  have hP := en_P (wr := [(h, .inr (4, [.ref k0, .ref k1, .ref k2, .ref k3, .ref k4, .ref k5, .int (nI n), .int (nI dy), .int (nI ch), .int (nI lw)])), (k0, aI cs 4 (tx_nf kd)), (k1, aI cs 4 (tx_nf wo)), (k2, aI cs 4 (tx_nf ha)), (k3, aI cs 4 (tx_nf we)), (k4, aI cs 20 (tx_nf td))]) (ww := []) hP
  generalize hAe : va_A [] s.heap.size = A at hD hR ⊢
  have hA : ∀ q : Nat, s.heap.size ≤ q → A q := fun q h => by rw [← hAe]; exact Or.inr h
  have hS : va_S A s.heap s.heap [] := va_S.rf
  have hN : adN [h, k0, k1, k2, k3, k4] := hN
  have hf_24 := hts (.fieldLink RX4 24 "TaxedByLongest$Told" "done" "[I") (by decide +kernel)
  have in_X4 : ∀ w ∈ wsX40, w ∈ wsX4_valueNow := by decide +kernel
  have hl := lv_entry ([.ref h, .int (nI d)]) (n := 2) (Nat.le_of_ble_eq_true rfl)
  rw [lg_entry_eq]
  generalize (lg_sl ([.ref h, .int (nI d)]) ++ List.replicate (2 - (lg_sl ([.ref h, .int (nI d)])).length) Slot.unset).toArray = ls at hl ⊢
  have hl : lv_has ls 2 [(0, .ref h), (1, .int (nI d))] := hl
  refine lv_aload_n hx hb dX4_valueNow_0 rfl (lv_at hl 0 rfl) ?_
  refine lv_aload_n hx hb dX4_valueNow_1 rfl (lv_at hl 0 rfl) ?_
  refine va_get (D := D) (ci := 4) (v := .ref k4) (C := RX4) (T := TX4) (N := 10) hx hb hts in_X4 hown hK (hR hS) 0 rfl rfl 4 (by decide) hf_24 (fun _ h9 => h9) rfl dX4_valueNow_2 ?_
  refine lv_iload_n hx hb dX4_valueNow_5 rfl (lv_at hl 1 rfl) ?_
  refine ia_n (f := tx_nf td) hx hb hK (hR hS) 5 0 rfl rfl (j := d) rfl (by omega) (by decide) dX4_valueNow_6 ?_
  refine tp_i (y := nI (td d)) rfl ?_
  refine lv_aload_n hx hb dX4_valueNow_7 rfl (lv_at hl 0 rfl) ?_
  refine lv_iload_n hx hb dX4_valueNow_8 rfl (lv_at hl 1 rfl) ?_
  refine cV_i (As := [.int (nI d)]) (rest := [.int (nI (td d)), .ref h]) (cr := [(h, .inr (4, [.ref k0, .ref k1, .ref k2, .ref k3, .ref k4, .ref k5, .int (nI n), .int (nI dy), .int (nI ch), .int (nI lw)])), (k4, aI cs 20 (tx_nf td))]) (cw1 := []) ⟨hx, hb, hml, hown, hts⟩ (c_X4_placeInStretch l D cs _ h k0 k1 k2 k3 k4 k5 n dy ch lw td d (by first | assumption | omega) (by first | assumption | omega)) (cwV 1 hts gX4_valueNow_X4_placeInStretch rfl rfl rfl (by decide +kernel) ⟨Nat.le_of_ble_eq_true rfl, Nat.le_of_ble_eq_true rfl⟩) hK hP hD hS hA (((hR hS).app hP).sub [0, 5] rfl) (dt_of hN [0, 5] (by decide) rfl) [] rfl 0 rfl rfl rfl hl.1 rfl (Nat.le_of_ble_eq_true rfl) dX4_valueNow_9 ⟨Nat.le_of_ble_eq_true rfl, Nat.le_of_ble_eq_true rfl⟩ (fun _ => rfl) (fun _ => rfl) (fun r_1 u9 H locs hw_2 hP hD hS => ?_)
  have hP : va_P D vwCl [] H := hP
  have hD : va_D A [] := hD
  subst hw_2
  refine cV_i (As := [.int (nI (td d)), .int (nI (tx_pl td d))]) (rest := []) (cr := [(h, .inr (4, [.ref k0, .ref k1, .ref k2, .ref k3, .ref k4, .ref k5, .int (nI n), .int (nI dy), .int (nI ch), .int (nI lw)])), (k0, aI cs 4 (tx_nf kd)), (k1, aI cs 4 (tx_nf wo)), (k2, aI cs 4 (tx_nf ha)), (k3, aI cs 4 (tx_nf we))]) (cw1 := []) ⟨hx, hb, hml, hown, hts⟩ (c_X4_valueOf l D cs _ h k0 k1 k2 k3 k4 k5 n dy ch lw kd wo ha we (td d) (tx_pl td d) (by first | assumption | omega) (htd d) (by have := tx_pl_le td d; omega) (by first | assumption | omega)) (cwV 2 hts gX4_valueNow_X4_valueOf rfl rfl rfl (by decide +kernel) ⟨Nat.le_of_ble_eq_true rfl, Nat.le_of_ble_eq_true rfl⟩) hK hP hD hS hA (((hR hS).app hP).sub [0, 1, 2, 3, 4] rfl) (dt_of hN [0, 1, 2, 3, 4] (by decide) rfl) [] rfl 0 rfl rfl rfl hl.1 rfl (Nat.le_of_ble_eq_true rfl) dX4_valueNow_12 ⟨Nat.le_of_ble_eq_true rfl, Nat.le_of_ble_eq_true rfl⟩ (fun _ => rfl) (fun _ => rfl) (fun r_3 u9 H locs hw_4 hP hD hS => ?_)
  have hP : va_P D vwCl [] H := hP
  have hD : va_D A [] := hD
  subst hw_4
  exact rt_i hx hb hr hlocks () (rfl) hP hD hS dX4_valueNow_15
set_option maxHeartbeats 4000000 in
set_option maxRecDepth 100000 in
theorem c_X4_copyFrom (l : Launch) (D : va_G) (cs : Nat → ClassId) (sz : Nat) (h : Nat) (k0 : Nat) (k1 : Nat) (k2 : Nat) (k3 : Nat) (k4 : Nat) (k5 : Nat) (n : Nat) (dy : Nat) (ch : Nat) (lw : Nat) (kd : Nat → Nat) (wo : Nat → Nat) (ha : Nat → Nat) (we : Nat → Nat) (td : Nat → Nat) (bo : Nat → Option Nat) (h2 : Nat) (k02 : Nat) (k12 : Nat) (k22 : Nat) (k32 : Nat) (k42 : Nat) (k52 : Nat) (n2 : Nat) (dy2 : Nat) (ch2 : Nat) (lw2 : Nat) (kd2 : Nat → Nat) (wo2 : Nat → Nat) (ha2 : Nat → Nat) (we2 : Nat → Nat) (td2 : Nat → Nat) (bo2 : Nat → Option Nat)  : mV (S := Unit) l yX4_copyFrom wsX4_copyFrom ({ frames := 1, cells := 0, slots := 0, locals := 64 } : Room) D (tyc cs) sz [.ref h, .ref h2] [] [(h, .inr (4, [.ref k0, .ref k1, .ref k2, .ref k3, .ref k4, .ref k5, .int (nI n), .int (nI dy), .int (nI ch), .int (nI lw)])), (k0, aI cs 4 (tx_nf kd)), (k1, aI cs 4 (tx_nf wo)), (k2, aI cs 4 (tx_nf ha)), (k3, aI cs 4 (tx_nf we)), (k4, aI cs 20 (tx_nf td)), (k5, aI cs 20 (tx_bf bo)), (h2, .inr (4, [.ref k02, .ref k12, .ref k22, .ref k32, .ref k42, .ref k52, .int (nI n2), .int (nI dy2), .int (nI ch2), .int (nI lw2)])), (k02, aI cs 4 (tx_nf kd2)), (k12, aI cs 4 (tx_nf wo2)), (k22, aI cs 4 (tx_nf ha2)), (k32, aI cs 4 (tx_nf we2)), (k42, aI cs 20 (tx_nf td2)), (k52, aI cs 20 (tx_bf bo2))] (fun (u : Unit) => True) (fun _ => [(h, .inr (4, [.ref k0, .ref k1, .ref k2, .ref k3, .ref k4, .ref k5, .int (nI n2), .int (nI dy2), .int (nI ch2), .int (nI lw2)])), (k0, aI cs 4 (tx_nf kd2)), (k1, aI cs 4 (tx_nf wo2)), (k2, aI cs 4 (tx_nf ha2)), (k3, aI cs 4 (tx_nf we2)), (k4, aI cs 20 (tx_nf td2)), (k5, aI cs 20 (tx_bf bo2)), (h2, .inr (4, [.ref k02, .ref k12, .ref k22, .ref k32, .ref k42, .ref k52, .int (nI n2), .int (nI dy2), .int (nI ch2), .int (nI lw2)])), (k02, aI cs 4 (tx_nf kd2)), (k12, aI cs 4 (tx_nf wo2)), (k22, aI cs 4 (tx_nf ha2)), (k32, aI cs 4 (tx_nf we2)), (k42, aI cs 20 (tx_nf td2)), (k52, aI cs 20 (tx_bf bo2))]) 0 0 := by
  unfold mV
  refine Met.ofW (cc := cX4_copyFrom) (maxL := 2) (ret := none) (by decide) rfl ?_
  intro p e s m args below meth c s₁ B hml hv
  obtain ⟨rfl, hsz, hP, hK, hD0⟩ := hv
  have hx := B.exec
  have hb := B.bytes
  have hr := B.returns
  have hts := atoms_spec (ws := wsX4_copyFrom) B.pre
  have hown : s.vm.findClass RX4 = some m.cls := findClass_of_methodNamed B.named
  have hlocks := B.notSynchronized
  subst hsz
  have hR := @en_R _ _ _ [] [(h, .inr (4, [.ref k0, .ref k1, .ref k2, .ref k3, .ref k4, .ref k5, .int (nI n), .int (nI dy), .int (nI ch), .int (nI lw)])), (k0, aI cs 4 (tx_nf kd)), (k1, aI cs 4 (tx_nf wo)), (k2, aI cs 4 (tx_nf ha)), (k3, aI cs 4 (tx_nf we)), (k4, aI cs 20 (tx_nf td)), (k5, aI cs 20 (tx_bf bo)), (h2, .inr (4, [.ref k02, .ref k12, .ref k22, .ref k32, .ref k42, .ref k52, .int (nI n2), .int (nI dy2), .int (nI ch2), .int (nI lw2)])), (k02, aI cs 4 (tx_nf kd2)), (k12, aI cs 4 (tx_nf wo2)), (k22, aI cs 4 (tx_nf ha2)), (k32, aI cs 4 (tx_nf we2)), (k42, aI cs 20 (tx_nf td2)), (k52, aI cs 20 (tx_bf bo2))] _ hP hD0
  have hN := adN_of hD0
  have hD := en_D (wr := []) (ww := [(h, .inr (4, [.ref k0, .ref k1, .ref k2, .ref k3, .ref k4, .ref k5, .int (nI n), .int (nI dy), .int (nI ch), .int (nI lw)])), (k0, aI cs 4 (tx_nf kd)), (k1, aI cs 4 (tx_nf wo)), (k2, aI cs 4 (tx_nf ha)), (k3, aI cs 4 (tx_nf we)), (k4, aI cs 20 (tx_nf td)), (k5, aI cs 20 (tx_bf bo)), (h2, .inr (4, [.ref k02, .ref k12, .ref k22, .ref k32, .ref k42, .ref k52, .int (nI n2), .int (nI dy2), .int (nI ch2), .int (nI lw2)])), (k02, aI cs 4 (tx_nf kd2)), (k12, aI cs 4 (tx_nf wo2)), (k22, aI cs 4 (tx_nf ha2)), (k32, aI cs 4 (tx_nf we2)), (k42, aI cs 20 (tx_nf td2)), (k52, aI cs 20 (tx_bf bo2))]) (sz := s.heap.size) hD0
  have hP := en_P (wr := []) (ww := [(h, .inr (4, [.ref k0, .ref k1, .ref k2, .ref k3, .ref k4, .ref k5, .int (nI n), .int (nI dy), .int (nI ch), .int (nI lw)])), (k0, aI cs 4 (tx_nf kd)), (k1, aI cs 4 (tx_nf wo)), (k2, aI cs 4 (tx_nf ha)), (k3, aI cs 4 (tx_nf we)), (k4, aI cs 20 (tx_nf td)), (k5, aI cs 20 (tx_bf bo)), (h2, .inr (4, [.ref k02, .ref k12, .ref k22, .ref k32, .ref k42, .ref k52, .int (nI n2), .int (nI dy2), .int (nI ch2), .int (nI lw2)])), (k02, aI cs 4 (tx_nf kd2)), (k12, aI cs 4 (tx_nf wo2)), (k22, aI cs 4 (tx_nf ha2)), (k32, aI cs 4 (tx_nf we2)), (k42, aI cs 20 (tx_nf td2)), (k52, aI cs 20 (tx_bf bo2))]) hP
  generalize hAe : va_A [(h, .inr (4, [.ref k0, .ref k1, .ref k2, .ref k3, .ref k4, .ref k5, .int (nI n), .int (nI dy), .int (nI ch), .int (nI lw)])), (k0, aI cs 4 (tx_nf kd)), (k1, aI cs 4 (tx_nf wo)), (k2, aI cs 4 (tx_nf ha)), (k3, aI cs 4 (tx_nf we)), (k4, aI cs 20 (tx_nf td)), (k5, aI cs 20 (tx_bf bo)), (h2, .inr (4, [.ref k02, .ref k12, .ref k22, .ref k32, .ref k42, .ref k52, .int (nI n2), .int (nI dy2), .int (nI ch2), .int (nI lw2)])), (k02, aI cs 4 (tx_nf kd2)), (k12, aI cs 4 (tx_nf wo2)), (k22, aI cs 4 (tx_nf ha2)), (k32, aI cs 4 (tx_nf we2)), (k42, aI cs 20 (tx_nf td2)), (k52, aI cs 20 (tx_bf bo2))] s.heap.size = A at hD hR ⊢
  have hA : ∀ q : Nat, s.heap.size ≤ q → A q := fun q h => by rw [← hAe]; exact Or.inr h
  have hS : va_S A s.heap s.heap [] := va_S.rf
  have hN : adN [h, k0, k1, k2, k3, k4, k5, h2, k02, k12, k22, k32, k42, k52] := hN
  have hf_9 := hts (.fieldLink RX4 9 "TaxedByLongest$Told" "kinds" "[I") (by decide +kernel)
  have hf_15 := hts (.fieldLink RX4 15 "TaxedByLongest$Told" "worths" "[I") (by decide +kernel)
  have hf_18 := hts (.fieldLink RX4 18 "TaxedByLongest$Told" "habits" "[I") (by decide +kernel)
  have hf_21 := hts (.fieldLink RX4 21 "TaxedByLongest$Told" "wearies" "[I") (by decide +kernel)
  have hf_24 := hts (.fieldLink RX4 24 "TaxedByLongest$Told" "done" "[I") (by decide +kernel)
  have hf_27 := hts (.fieldLink RX4 27 "TaxedByLongest$Told" "bound" "[I") (by decide +kernel)
  have hf_30 := hts (.fieldLink RX4 30 "TaxedByLongest$Told" "things" "I") (by decide +kernel)
  have hf_34 := hts (.fieldLink RX4 34 "TaxedByLongest$Told" "days" "I") (by decide +kernel)
  have hf_37 := hts (.fieldLink RX4 37 "TaxedByLongest$Told" "change" "I") (by decide +kernel)
  have hf_40 := hts (.fieldLink RX4 40 "TaxedByLongest$Told" "law" "I") (by decide +kernel)
  have in_X4 : ∀ w ∈ wsX40, w ∈ wsX4_copyFrom := by decide +kernel
  have hl := lv_entry ([.ref h, .ref h2]) (n := 2) (Nat.le_of_ble_eq_true rfl)
  rw [lg_entry_eq]
  generalize (lg_sl ([.ref h, .ref h2]) ++ List.replicate (2 - (lg_sl ([.ref h, .ref h2])).length) Slot.unset).toArray = ls at hl ⊢
  have hl : lv_has ls 2 [(0, .ref h), (1, .ref h2)] := hl
  refine lv_aload_n hx hb dX4_copyFrom_0 rfl (lv_at hl 1 rfl) ?_
  refine va_get (D := D) (ci := 4) (v := .ref k02) (C := RX4) (T := TX4) (N := 10) hx hb hts in_X4 hown hK hP 7 rfl rfl 0 (by decide) hf_9 (fun _ h9 => h9) rfl dX4_copyFrom_1 ?_
  refine lv_iconst (v := 0) hx hb dX4_copyFrom_4 (by decide) ?_
  refine lv_aload_n hx hb dX4_copyFrom_5 rfl (lv_at hl 0 rfl) ?_
  refine va_get (D := D) (ci := 4) (v := .ref k0) (C := RX4) (T := TX4) (N := 10) hx hb hts in_X4 hown hK hP 0 rfl rfl 0 (by decide) hf_9 (fun _ h9 => h9) rfl dX4_copyFrom_6 ?_
  refine lv_iconst (v := 0) hx hb dX4_copyFrom_9 (by decide) ?_
  refine lv_iconst (v := 4) hx hb dX4_copyFrom_10 (by decide) ?_
  refine ac_n (f := tx_nf kd2) (g := tx_nf kd) hx hb (hml.trans hl.1.symm) hown (hts (.methodLink RX4 49 arraycopyName) (by decide +kernel)) (hts (.native arraycopyName) (by decide +kernel)) (hts (.static arraycopyName) (by decide +kernel)) (hts (.initialized "java/lang/System") (by decide +kernel)) hK hP hD hS 8 1 0 0 rfl rfl rfl rfl (N := 4) rfl rfl rfl (by decide) (by decide) (by decide) (Nat.le_of_ble_eq_true rfl) (Nat.le_of_ble_eq_true (by decide +kernel)) dX4_copyFrom_11 (fun H locs hP hD hS => ?_)
  have hP : va_P D vwCl [(h, .inr (4, [.ref k0, .ref k1, .ref k2, .ref k3, .ref k4, .ref k5, .int (nI n), .int (nI dy), .int (nI ch), .int (nI lw)])), (k0, aI cs 4 (va_cpy (tx_nf kd2) (tx_nf kd) 0 0 4)), (k1, aI cs 4 (tx_nf wo)), (k2, aI cs 4 (tx_nf ha)), (k3, aI cs 4 (tx_nf we)), (k4, aI cs 20 (tx_nf td)), (k5, aI cs 20 (tx_bf bo)), (h2, .inr (4, [.ref k02, .ref k12, .ref k22, .ref k32, .ref k42, .ref k52, .int (nI n2), .int (nI dy2), .int (nI ch2), .int (nI lw2)])), (k02, aI cs 4 (tx_nf kd2)), (k12, aI cs 4 (tx_nf wo2)), (k22, aI cs 4 (tx_nf ha2)), (k32, aI cs 4 (tx_nf we2)), (k42, aI cs 20 (tx_nf td2)), (k52, aI cs 20 (tx_bf bo2))] H := hP
  have hD : va_D A [(h, .inr (4, [.ref k0, .ref k1, .ref k2, .ref k3, .ref k4, .ref k5, .int (nI n), .int (nI dy), .int (nI ch), .int (nI lw)])), (k0, aI cs 4 (va_cpy (tx_nf kd2) (tx_nf kd) 0 0 4)), (k1, aI cs 4 (tx_nf wo)), (k2, aI cs 4 (tx_nf ha)), (k3, aI cs 4 (tx_nf we)), (k4, aI cs 20 (tx_nf td)), (k5, aI cs 20 (tx_bf bo)), (h2, .inr (4, [.ref k02, .ref k12, .ref k22, .ref k32, .ref k42, .ref k52, .int (nI n2), .int (nI dy2), .int (nI ch2), .int (nI lw2)])), (k02, aI cs 4 (tx_nf kd2)), (k12, aI cs 4 (tx_nf wo2)), (k22, aI cs 4 (tx_nf ha2)), (k32, aI cs 4 (tx_nf we2)), (k42, aI cs 20 (tx_nf td2)), (k52, aI cs 20 (tx_bf bo2))] := hD
  have hP := w_ext hP 1 (tx_nf kd2) rfl (fun q hq => by rw [pk_cpy_in (Nat.zero_le _) (by omega)]; congr 1; omega)
  have hD : va_D A [(h, .inr (4, [.ref k0, .ref k1, .ref k2, .ref k3, .ref k4, .ref k5, .int (nI n), .int (nI dy), .int (nI ch), .int (nI lw)])), (k0, aI cs 4 (tx_nf kd2)), (k1, aI cs 4 (tx_nf wo)), (k2, aI cs 4 (tx_nf ha)), (k3, aI cs 4 (tx_nf we)), (k4, aI cs 20 (tx_nf td)), (k5, aI cs 20 (tx_bf bo)), (h2, .inr (4, [.ref k02, .ref k12, .ref k22, .ref k32, .ref k42, .ref k52, .int (nI n2), .int (nI dy2), .int (nI ch2), .int (nI lw2)])), (k02, aI cs 4 (tx_nf kd2)), (k12, aI cs 4 (tx_nf wo2)), (k22, aI cs 4 (tx_nf ha2)), (k32, aI cs 4 (tx_nf we2)), (k42, aI cs 20 (tx_nf td2)), (k52, aI cs 20 (tx_bf bo2))] := d_adr hD rfl
  have hP : va_P D vwCl [(h, .inr (4, [.ref k0, .ref k1, .ref k2, .ref k3, .ref k4, .ref k5, .int (nI n), .int (nI dy), .int (nI ch), .int (nI lw)])), (k0, aI cs 4 (tx_nf kd2)), (k1, aI cs 4 (tx_nf wo)), (k2, aI cs 4 (tx_nf ha)), (k3, aI cs 4 (tx_nf we)), (k4, aI cs 20 (tx_nf td)), (k5, aI cs 20 (tx_bf bo)), (h2, .inr (4, [.ref k02, .ref k12, .ref k22, .ref k32, .ref k42, .ref k52, .int (nI n2), .int (nI dy2), .int (nI ch2), .int (nI lw2)])), (k02, aI cs 4 (tx_nf kd2)), (k12, aI cs 4 (tx_nf wo2)), (k22, aI cs 4 (tx_nf ha2)), (k32, aI cs 4 (tx_nf we2)), (k42, aI cs 20 (tx_nf td2)), (k52, aI cs 20 (tx_bf bo2))] H := hP
  have hD : va_D A [(h, .inr (4, [.ref k0, .ref k1, .ref k2, .ref k3, .ref k4, .ref k5, .int (nI n), .int (nI dy), .int (nI ch), .int (nI lw)])), (k0, aI cs 4 (tx_nf kd2)), (k1, aI cs 4 (tx_nf wo)), (k2, aI cs 4 (tx_nf ha)), (k3, aI cs 4 (tx_nf we)), (k4, aI cs 20 (tx_nf td)), (k5, aI cs 20 (tx_bf bo)), (h2, .inr (4, [.ref k02, .ref k12, .ref k22, .ref k32, .ref k42, .ref k52, .int (nI n2), .int (nI dy2), .int (nI ch2), .int (nI lw2)])), (k02, aI cs 4 (tx_nf kd2)), (k12, aI cs 4 (tx_nf wo2)), (k22, aI cs 4 (tx_nf ha2)), (k32, aI cs 4 (tx_nf we2)), (k42, aI cs 20 (tx_nf td2)), (k52, aI cs 20 (tx_bf bo2))] := hD
  refine lv_aload_n hx hb dX4_copyFrom_14 rfl (lv_at hl 1 rfl) ?_
  refine va_get (D := D) (ci := 4) (v := .ref k12) (C := RX4) (T := TX4) (N := 10) hx hb hts in_X4 hown hK hP 7 rfl rfl 1 (by decide) hf_15 (fun _ h9 => h9) rfl dX4_copyFrom_15 ?_
  refine lv_iconst (v := 0) hx hb dX4_copyFrom_18 (by decide) ?_
  refine lv_aload_n hx hb dX4_copyFrom_19 rfl (lv_at hl 0 rfl) ?_
  refine va_get (D := D) (ci := 4) (v := .ref k1) (C := RX4) (T := TX4) (N := 10) hx hb hts in_X4 hown hK hP 0 rfl rfl 1 (by decide) hf_15 (fun _ h9 => h9) rfl dX4_copyFrom_20 ?_
  refine lv_iconst (v := 0) hx hb dX4_copyFrom_23 (by decide) ?_
  refine lv_iconst (v := 4) hx hb dX4_copyFrom_24 (by decide) ?_
  refine ac_n (f := tx_nf wo2) (g := tx_nf wo) hx hb (hml.trans hl.1.symm) hown (hts (.methodLink RX4 49 arraycopyName) (by decide +kernel)) (hts (.native arraycopyName) (by decide +kernel)) (hts (.static arraycopyName) (by decide +kernel)) (hts (.initialized "java/lang/System") (by decide +kernel)) hK hP hD hS 9 2 0 0 rfl rfl rfl rfl (N := 4) rfl rfl rfl (by decide) (by decide) (by decide) (Nat.le_of_ble_eq_true rfl) (Nat.le_of_ble_eq_true (by decide +kernel)) dX4_copyFrom_25 (fun H locs hP hD hS => ?_)
  have hP : va_P D vwCl [(h, .inr (4, [.ref k0, .ref k1, .ref k2, .ref k3, .ref k4, .ref k5, .int (nI n), .int (nI dy), .int (nI ch), .int (nI lw)])), (k0, aI cs 4 (tx_nf kd2)), (k1, aI cs 4 (va_cpy (tx_nf wo2) (tx_nf wo) 0 0 4)), (k2, aI cs 4 (tx_nf ha)), (k3, aI cs 4 (tx_nf we)), (k4, aI cs 20 (tx_nf td)), (k5, aI cs 20 (tx_bf bo)), (h2, .inr (4, [.ref k02, .ref k12, .ref k22, .ref k32, .ref k42, .ref k52, .int (nI n2), .int (nI dy2), .int (nI ch2), .int (nI lw2)])), (k02, aI cs 4 (tx_nf kd2)), (k12, aI cs 4 (tx_nf wo2)), (k22, aI cs 4 (tx_nf ha2)), (k32, aI cs 4 (tx_nf we2)), (k42, aI cs 20 (tx_nf td2)), (k52, aI cs 20 (tx_bf bo2))] H := hP
  have hD : va_D A [(h, .inr (4, [.ref k0, .ref k1, .ref k2, .ref k3, .ref k4, .ref k5, .int (nI n), .int (nI dy), .int (nI ch), .int (nI lw)])), (k0, aI cs 4 (tx_nf kd2)), (k1, aI cs 4 (va_cpy (tx_nf wo2) (tx_nf wo) 0 0 4)), (k2, aI cs 4 (tx_nf ha)), (k3, aI cs 4 (tx_nf we)), (k4, aI cs 20 (tx_nf td)), (k5, aI cs 20 (tx_bf bo)), (h2, .inr (4, [.ref k02, .ref k12, .ref k22, .ref k32, .ref k42, .ref k52, .int (nI n2), .int (nI dy2), .int (nI ch2), .int (nI lw2)])), (k02, aI cs 4 (tx_nf kd2)), (k12, aI cs 4 (tx_nf wo2)), (k22, aI cs 4 (tx_nf ha2)), (k32, aI cs 4 (tx_nf we2)), (k42, aI cs 20 (tx_nf td2)), (k52, aI cs 20 (tx_bf bo2))] := hD
  have hP := w_ext hP 2 (tx_nf wo2) rfl (fun q hq => by rw [pk_cpy_in (Nat.zero_le _) (by omega)]; congr 1; omega)
  have hD : va_D A [(h, .inr (4, [.ref k0, .ref k1, .ref k2, .ref k3, .ref k4, .ref k5, .int (nI n), .int (nI dy), .int (nI ch), .int (nI lw)])), (k0, aI cs 4 (tx_nf kd2)), (k1, aI cs 4 (tx_nf wo2)), (k2, aI cs 4 (tx_nf ha)), (k3, aI cs 4 (tx_nf we)), (k4, aI cs 20 (tx_nf td)), (k5, aI cs 20 (tx_bf bo)), (h2, .inr (4, [.ref k02, .ref k12, .ref k22, .ref k32, .ref k42, .ref k52, .int (nI n2), .int (nI dy2), .int (nI ch2), .int (nI lw2)])), (k02, aI cs 4 (tx_nf kd2)), (k12, aI cs 4 (tx_nf wo2)), (k22, aI cs 4 (tx_nf ha2)), (k32, aI cs 4 (tx_nf we2)), (k42, aI cs 20 (tx_nf td2)), (k52, aI cs 20 (tx_bf bo2))] := d_adr hD rfl
  have hP : va_P D vwCl [(h, .inr (4, [.ref k0, .ref k1, .ref k2, .ref k3, .ref k4, .ref k5, .int (nI n), .int (nI dy), .int (nI ch), .int (nI lw)])), (k0, aI cs 4 (tx_nf kd2)), (k1, aI cs 4 (tx_nf wo2)), (k2, aI cs 4 (tx_nf ha)), (k3, aI cs 4 (tx_nf we)), (k4, aI cs 20 (tx_nf td)), (k5, aI cs 20 (tx_bf bo)), (h2, .inr (4, [.ref k02, .ref k12, .ref k22, .ref k32, .ref k42, .ref k52, .int (nI n2), .int (nI dy2), .int (nI ch2), .int (nI lw2)])), (k02, aI cs 4 (tx_nf kd2)), (k12, aI cs 4 (tx_nf wo2)), (k22, aI cs 4 (tx_nf ha2)), (k32, aI cs 4 (tx_nf we2)), (k42, aI cs 20 (tx_nf td2)), (k52, aI cs 20 (tx_bf bo2))] H := hP
  have hD : va_D A [(h, .inr (4, [.ref k0, .ref k1, .ref k2, .ref k3, .ref k4, .ref k5, .int (nI n), .int (nI dy), .int (nI ch), .int (nI lw)])), (k0, aI cs 4 (tx_nf kd2)), (k1, aI cs 4 (tx_nf wo2)), (k2, aI cs 4 (tx_nf ha)), (k3, aI cs 4 (tx_nf we)), (k4, aI cs 20 (tx_nf td)), (k5, aI cs 20 (tx_bf bo)), (h2, .inr (4, [.ref k02, .ref k12, .ref k22, .ref k32, .ref k42, .ref k52, .int (nI n2), .int (nI dy2), .int (nI ch2), .int (nI lw2)])), (k02, aI cs 4 (tx_nf kd2)), (k12, aI cs 4 (tx_nf wo2)), (k22, aI cs 4 (tx_nf ha2)), (k32, aI cs 4 (tx_nf we2)), (k42, aI cs 20 (tx_nf td2)), (k52, aI cs 20 (tx_bf bo2))] := hD
  refine lv_aload_n hx hb dX4_copyFrom_28 rfl (lv_at hl 1 rfl) ?_
  refine va_get (D := D) (ci := 4) (v := .ref k22) (C := RX4) (T := TX4) (N := 10) hx hb hts in_X4 hown hK hP 7 rfl rfl 2 (by decide) hf_18 (fun _ h9 => h9) rfl dX4_copyFrom_29 ?_
  refine lv_iconst (v := 0) hx hb dX4_copyFrom_32 (by decide) ?_
  refine lv_aload_n hx hb dX4_copyFrom_33 rfl (lv_at hl 0 rfl) ?_
  refine va_get (D := D) (ci := 4) (v := .ref k2) (C := RX4) (T := TX4) (N := 10) hx hb hts in_X4 hown hK hP 0 rfl rfl 2 (by decide) hf_18 (fun _ h9 => h9) rfl dX4_copyFrom_34 ?_
  refine lv_iconst (v := 0) hx hb dX4_copyFrom_37 (by decide) ?_
  refine lv_iconst (v := 4) hx hb dX4_copyFrom_38 (by decide) ?_
  refine ac_n (f := tx_nf ha2) (g := tx_nf ha) hx hb (hml.trans hl.1.symm) hown (hts (.methodLink RX4 49 arraycopyName) (by decide +kernel)) (hts (.native arraycopyName) (by decide +kernel)) (hts (.static arraycopyName) (by decide +kernel)) (hts (.initialized "java/lang/System") (by decide +kernel)) hK hP hD hS 10 3 0 0 rfl rfl rfl rfl (N := 4) rfl rfl rfl (by decide) (by decide) (by decide) (Nat.le_of_ble_eq_true rfl) (Nat.le_of_ble_eq_true (by decide +kernel)) dX4_copyFrom_39 (fun H locs hP hD hS => ?_)
  have hP : va_P D vwCl [(h, .inr (4, [.ref k0, .ref k1, .ref k2, .ref k3, .ref k4, .ref k5, .int (nI n), .int (nI dy), .int (nI ch), .int (nI lw)])), (k0, aI cs 4 (tx_nf kd2)), (k1, aI cs 4 (tx_nf wo2)), (k2, aI cs 4 (va_cpy (tx_nf ha2) (tx_nf ha) 0 0 4)), (k3, aI cs 4 (tx_nf we)), (k4, aI cs 20 (tx_nf td)), (k5, aI cs 20 (tx_bf bo)), (h2, .inr (4, [.ref k02, .ref k12, .ref k22, .ref k32, .ref k42, .ref k52, .int (nI n2), .int (nI dy2), .int (nI ch2), .int (nI lw2)])), (k02, aI cs 4 (tx_nf kd2)), (k12, aI cs 4 (tx_nf wo2)), (k22, aI cs 4 (tx_nf ha2)), (k32, aI cs 4 (tx_nf we2)), (k42, aI cs 20 (tx_nf td2)), (k52, aI cs 20 (tx_bf bo2))] H := hP
  have hD : va_D A [(h, .inr (4, [.ref k0, .ref k1, .ref k2, .ref k3, .ref k4, .ref k5, .int (nI n), .int (nI dy), .int (nI ch), .int (nI lw)])), (k0, aI cs 4 (tx_nf kd2)), (k1, aI cs 4 (tx_nf wo2)), (k2, aI cs 4 (va_cpy (tx_nf ha2) (tx_nf ha) 0 0 4)), (k3, aI cs 4 (tx_nf we)), (k4, aI cs 20 (tx_nf td)), (k5, aI cs 20 (tx_bf bo)), (h2, .inr (4, [.ref k02, .ref k12, .ref k22, .ref k32, .ref k42, .ref k52, .int (nI n2), .int (nI dy2), .int (nI ch2), .int (nI lw2)])), (k02, aI cs 4 (tx_nf kd2)), (k12, aI cs 4 (tx_nf wo2)), (k22, aI cs 4 (tx_nf ha2)), (k32, aI cs 4 (tx_nf we2)), (k42, aI cs 20 (tx_nf td2)), (k52, aI cs 20 (tx_bf bo2))] := hD
  have hP := w_ext hP 3 (tx_nf ha2) rfl (fun q hq => by rw [pk_cpy_in (Nat.zero_le _) (by omega)]; congr 1; omega)
  have hD : va_D A [(h, .inr (4, [.ref k0, .ref k1, .ref k2, .ref k3, .ref k4, .ref k5, .int (nI n), .int (nI dy), .int (nI ch), .int (nI lw)])), (k0, aI cs 4 (tx_nf kd2)), (k1, aI cs 4 (tx_nf wo2)), (k2, aI cs 4 (tx_nf ha2)), (k3, aI cs 4 (tx_nf we)), (k4, aI cs 20 (tx_nf td)), (k5, aI cs 20 (tx_bf bo)), (h2, .inr (4, [.ref k02, .ref k12, .ref k22, .ref k32, .ref k42, .ref k52, .int (nI n2), .int (nI dy2), .int (nI ch2), .int (nI lw2)])), (k02, aI cs 4 (tx_nf kd2)), (k12, aI cs 4 (tx_nf wo2)), (k22, aI cs 4 (tx_nf ha2)), (k32, aI cs 4 (tx_nf we2)), (k42, aI cs 20 (tx_nf td2)), (k52, aI cs 20 (tx_bf bo2))] := d_adr hD rfl
  have hP : va_P D vwCl [(h, .inr (4, [.ref k0, .ref k1, .ref k2, .ref k3, .ref k4, .ref k5, .int (nI n), .int (nI dy), .int (nI ch), .int (nI lw)])), (k0, aI cs 4 (tx_nf kd2)), (k1, aI cs 4 (tx_nf wo2)), (k2, aI cs 4 (tx_nf ha2)), (k3, aI cs 4 (tx_nf we)), (k4, aI cs 20 (tx_nf td)), (k5, aI cs 20 (tx_bf bo)), (h2, .inr (4, [.ref k02, .ref k12, .ref k22, .ref k32, .ref k42, .ref k52, .int (nI n2), .int (nI dy2), .int (nI ch2), .int (nI lw2)])), (k02, aI cs 4 (tx_nf kd2)), (k12, aI cs 4 (tx_nf wo2)), (k22, aI cs 4 (tx_nf ha2)), (k32, aI cs 4 (tx_nf we2)), (k42, aI cs 20 (tx_nf td2)), (k52, aI cs 20 (tx_bf bo2))] H := hP
  have hD : va_D A [(h, .inr (4, [.ref k0, .ref k1, .ref k2, .ref k3, .ref k4, .ref k5, .int (nI n), .int (nI dy), .int (nI ch), .int (nI lw)])), (k0, aI cs 4 (tx_nf kd2)), (k1, aI cs 4 (tx_nf wo2)), (k2, aI cs 4 (tx_nf ha2)), (k3, aI cs 4 (tx_nf we)), (k4, aI cs 20 (tx_nf td)), (k5, aI cs 20 (tx_bf bo)), (h2, .inr (4, [.ref k02, .ref k12, .ref k22, .ref k32, .ref k42, .ref k52, .int (nI n2), .int (nI dy2), .int (nI ch2), .int (nI lw2)])), (k02, aI cs 4 (tx_nf kd2)), (k12, aI cs 4 (tx_nf wo2)), (k22, aI cs 4 (tx_nf ha2)), (k32, aI cs 4 (tx_nf we2)), (k42, aI cs 20 (tx_nf td2)), (k52, aI cs 20 (tx_bf bo2))] := hD
  refine lv_aload_n hx hb dX4_copyFrom_42 rfl (lv_at hl 1 rfl) ?_
  refine va_get (D := D) (ci := 4) (v := .ref k32) (C := RX4) (T := TX4) (N := 10) hx hb hts in_X4 hown hK hP 7 rfl rfl 3 (by decide) hf_21 (fun _ h9 => h9) rfl dX4_copyFrom_43 ?_
  refine lv_iconst (v := 0) hx hb dX4_copyFrom_46 (by decide) ?_
  refine lv_aload_n hx hb dX4_copyFrom_47 rfl (lv_at hl 0 rfl) ?_
  refine va_get (D := D) (ci := 4) (v := .ref k3) (C := RX4) (T := TX4) (N := 10) hx hb hts in_X4 hown hK hP 0 rfl rfl 3 (by decide) hf_21 (fun _ h9 => h9) rfl dX4_copyFrom_48 ?_
  refine lv_iconst (v := 0) hx hb dX4_copyFrom_51 (by decide) ?_
  refine lv_iconst (v := 4) hx hb dX4_copyFrom_52 (by decide) ?_
  refine ac_n (f := tx_nf we2) (g := tx_nf we) hx hb (hml.trans hl.1.symm) hown (hts (.methodLink RX4 49 arraycopyName) (by decide +kernel)) (hts (.native arraycopyName) (by decide +kernel)) (hts (.static arraycopyName) (by decide +kernel)) (hts (.initialized "java/lang/System") (by decide +kernel)) hK hP hD hS 11 4 0 0 rfl rfl rfl rfl (N := 4) rfl rfl rfl (by decide) (by decide) (by decide) (Nat.le_of_ble_eq_true rfl) (Nat.le_of_ble_eq_true (by decide +kernel)) dX4_copyFrom_53 (fun H locs hP hD hS => ?_)
  have hP : va_P D vwCl [(h, .inr (4, [.ref k0, .ref k1, .ref k2, .ref k3, .ref k4, .ref k5, .int (nI n), .int (nI dy), .int (nI ch), .int (nI lw)])), (k0, aI cs 4 (tx_nf kd2)), (k1, aI cs 4 (tx_nf wo2)), (k2, aI cs 4 (tx_nf ha2)), (k3, aI cs 4 (va_cpy (tx_nf we2) (tx_nf we) 0 0 4)), (k4, aI cs 20 (tx_nf td)), (k5, aI cs 20 (tx_bf bo)), (h2, .inr (4, [.ref k02, .ref k12, .ref k22, .ref k32, .ref k42, .ref k52, .int (nI n2), .int (nI dy2), .int (nI ch2), .int (nI lw2)])), (k02, aI cs 4 (tx_nf kd2)), (k12, aI cs 4 (tx_nf wo2)), (k22, aI cs 4 (tx_nf ha2)), (k32, aI cs 4 (tx_nf we2)), (k42, aI cs 20 (tx_nf td2)), (k52, aI cs 20 (tx_bf bo2))] H := hP
  have hD : va_D A [(h, .inr (4, [.ref k0, .ref k1, .ref k2, .ref k3, .ref k4, .ref k5, .int (nI n), .int (nI dy), .int (nI ch), .int (nI lw)])), (k0, aI cs 4 (tx_nf kd2)), (k1, aI cs 4 (tx_nf wo2)), (k2, aI cs 4 (tx_nf ha2)), (k3, aI cs 4 (va_cpy (tx_nf we2) (tx_nf we) 0 0 4)), (k4, aI cs 20 (tx_nf td)), (k5, aI cs 20 (tx_bf bo)), (h2, .inr (4, [.ref k02, .ref k12, .ref k22, .ref k32, .ref k42, .ref k52, .int (nI n2), .int (nI dy2), .int (nI ch2), .int (nI lw2)])), (k02, aI cs 4 (tx_nf kd2)), (k12, aI cs 4 (tx_nf wo2)), (k22, aI cs 4 (tx_nf ha2)), (k32, aI cs 4 (tx_nf we2)), (k42, aI cs 20 (tx_nf td2)), (k52, aI cs 20 (tx_bf bo2))] := hD
  have hP := w_ext hP 4 (tx_nf we2) rfl (fun q hq => by rw [pk_cpy_in (Nat.zero_le _) (by omega)]; congr 1; omega)
  have hD : va_D A [(h, .inr (4, [.ref k0, .ref k1, .ref k2, .ref k3, .ref k4, .ref k5, .int (nI n), .int (nI dy), .int (nI ch), .int (nI lw)])), (k0, aI cs 4 (tx_nf kd2)), (k1, aI cs 4 (tx_nf wo2)), (k2, aI cs 4 (tx_nf ha2)), (k3, aI cs 4 (tx_nf we2)), (k4, aI cs 20 (tx_nf td)), (k5, aI cs 20 (tx_bf bo)), (h2, .inr (4, [.ref k02, .ref k12, .ref k22, .ref k32, .ref k42, .ref k52, .int (nI n2), .int (nI dy2), .int (nI ch2), .int (nI lw2)])), (k02, aI cs 4 (tx_nf kd2)), (k12, aI cs 4 (tx_nf wo2)), (k22, aI cs 4 (tx_nf ha2)), (k32, aI cs 4 (tx_nf we2)), (k42, aI cs 20 (tx_nf td2)), (k52, aI cs 20 (tx_bf bo2))] := d_adr hD rfl
  have hP : va_P D vwCl [(h, .inr (4, [.ref k0, .ref k1, .ref k2, .ref k3, .ref k4, .ref k5, .int (nI n), .int (nI dy), .int (nI ch), .int (nI lw)])), (k0, aI cs 4 (tx_nf kd2)), (k1, aI cs 4 (tx_nf wo2)), (k2, aI cs 4 (tx_nf ha2)), (k3, aI cs 4 (tx_nf we2)), (k4, aI cs 20 (tx_nf td)), (k5, aI cs 20 (tx_bf bo)), (h2, .inr (4, [.ref k02, .ref k12, .ref k22, .ref k32, .ref k42, .ref k52, .int (nI n2), .int (nI dy2), .int (nI ch2), .int (nI lw2)])), (k02, aI cs 4 (tx_nf kd2)), (k12, aI cs 4 (tx_nf wo2)), (k22, aI cs 4 (tx_nf ha2)), (k32, aI cs 4 (tx_nf we2)), (k42, aI cs 20 (tx_nf td2)), (k52, aI cs 20 (tx_bf bo2))] H := hP
  have hD : va_D A [(h, .inr (4, [.ref k0, .ref k1, .ref k2, .ref k3, .ref k4, .ref k5, .int (nI n), .int (nI dy), .int (nI ch), .int (nI lw)])), (k0, aI cs 4 (tx_nf kd2)), (k1, aI cs 4 (tx_nf wo2)), (k2, aI cs 4 (tx_nf ha2)), (k3, aI cs 4 (tx_nf we2)), (k4, aI cs 20 (tx_nf td)), (k5, aI cs 20 (tx_bf bo)), (h2, .inr (4, [.ref k02, .ref k12, .ref k22, .ref k32, .ref k42, .ref k52, .int (nI n2), .int (nI dy2), .int (nI ch2), .int (nI lw2)])), (k02, aI cs 4 (tx_nf kd2)), (k12, aI cs 4 (tx_nf wo2)), (k22, aI cs 4 (tx_nf ha2)), (k32, aI cs 4 (tx_nf we2)), (k42, aI cs 20 (tx_nf td2)), (k52, aI cs 20 (tx_bf bo2))] := hD
  refine lv_aload_n hx hb dX4_copyFrom_56 rfl (lv_at hl 1 rfl) ?_
  refine va_get (D := D) (ci := 4) (v := .ref k42) (C := RX4) (T := TX4) (N := 10) hx hb hts in_X4 hown hK hP 7 rfl rfl 4 (by decide) hf_24 (fun _ h9 => h9) rfl dX4_copyFrom_57 ?_
  refine lv_iconst (v := 0) hx hb dX4_copyFrom_60 (by decide) ?_
  refine lv_aload_n hx hb dX4_copyFrom_61 rfl (lv_at hl 0 rfl) ?_
  refine va_get (D := D) (ci := 4) (v := .ref k4) (C := RX4) (T := TX4) (N := 10) hx hb hts in_X4 hown hK hP 0 rfl rfl 4 (by decide) hf_24 (fun _ h9 => h9) rfl dX4_copyFrom_62 ?_
  refine lv_iconst (v := 0) hx hb dX4_copyFrom_65 (by decide) ?_
  refine lv_bipush (v := 20) hx hb dX4_copyFrom_66 (by decide) ?_
  refine ac_n (f := tx_nf td2) (g := tx_nf td) hx hb (hml.trans hl.1.symm) hown (hts (.methodLink RX4 49 arraycopyName) (by decide +kernel)) (hts (.native arraycopyName) (by decide +kernel)) (hts (.static arraycopyName) (by decide +kernel)) (hts (.initialized "java/lang/System") (by decide +kernel)) hK hP hD hS 12 5 0 0 rfl rfl rfl rfl (N := 20) rfl rfl rfl (by decide) (by decide) (by decide) (Nat.le_of_ble_eq_true rfl) (Nat.le_of_ble_eq_true (by decide +kernel)) dX4_copyFrom_68 (fun H locs hP hD hS => ?_)
  have hP : va_P D vwCl [(h, .inr (4, [.ref k0, .ref k1, .ref k2, .ref k3, .ref k4, .ref k5, .int (nI n), .int (nI dy), .int (nI ch), .int (nI lw)])), (k0, aI cs 4 (tx_nf kd2)), (k1, aI cs 4 (tx_nf wo2)), (k2, aI cs 4 (tx_nf ha2)), (k3, aI cs 4 (tx_nf we2)), (k4, aI cs 20 (va_cpy (tx_nf td2) (tx_nf td) 0 0 20)), (k5, aI cs 20 (tx_bf bo)), (h2, .inr (4, [.ref k02, .ref k12, .ref k22, .ref k32, .ref k42, .ref k52, .int (nI n2), .int (nI dy2), .int (nI ch2), .int (nI lw2)])), (k02, aI cs 4 (tx_nf kd2)), (k12, aI cs 4 (tx_nf wo2)), (k22, aI cs 4 (tx_nf ha2)), (k32, aI cs 4 (tx_nf we2)), (k42, aI cs 20 (tx_nf td2)), (k52, aI cs 20 (tx_bf bo2))] H := hP
  have hD : va_D A [(h, .inr (4, [.ref k0, .ref k1, .ref k2, .ref k3, .ref k4, .ref k5, .int (nI n), .int (nI dy), .int (nI ch), .int (nI lw)])), (k0, aI cs 4 (tx_nf kd2)), (k1, aI cs 4 (tx_nf wo2)), (k2, aI cs 4 (tx_nf ha2)), (k3, aI cs 4 (tx_nf we2)), (k4, aI cs 20 (va_cpy (tx_nf td2) (tx_nf td) 0 0 20)), (k5, aI cs 20 (tx_bf bo)), (h2, .inr (4, [.ref k02, .ref k12, .ref k22, .ref k32, .ref k42, .ref k52, .int (nI n2), .int (nI dy2), .int (nI ch2), .int (nI lw2)])), (k02, aI cs 4 (tx_nf kd2)), (k12, aI cs 4 (tx_nf wo2)), (k22, aI cs 4 (tx_nf ha2)), (k32, aI cs 4 (tx_nf we2)), (k42, aI cs 20 (tx_nf td2)), (k52, aI cs 20 (tx_bf bo2))] := hD
  have hP := w_ext hP 5 (tx_nf td2) rfl (fun q hq => by rw [pk_cpy_in (Nat.zero_le _) (by omega)]; congr 1; omega)
  have hD : va_D A [(h, .inr (4, [.ref k0, .ref k1, .ref k2, .ref k3, .ref k4, .ref k5, .int (nI n), .int (nI dy), .int (nI ch), .int (nI lw)])), (k0, aI cs 4 (tx_nf kd2)), (k1, aI cs 4 (tx_nf wo2)), (k2, aI cs 4 (tx_nf ha2)), (k3, aI cs 4 (tx_nf we2)), (k4, aI cs 20 (tx_nf td2)), (k5, aI cs 20 (tx_bf bo)), (h2, .inr (4, [.ref k02, .ref k12, .ref k22, .ref k32, .ref k42, .ref k52, .int (nI n2), .int (nI dy2), .int (nI ch2), .int (nI lw2)])), (k02, aI cs 4 (tx_nf kd2)), (k12, aI cs 4 (tx_nf wo2)), (k22, aI cs 4 (tx_nf ha2)), (k32, aI cs 4 (tx_nf we2)), (k42, aI cs 20 (tx_nf td2)), (k52, aI cs 20 (tx_bf bo2))] := d_adr hD rfl
  have hP : va_P D vwCl [(h, .inr (4, [.ref k0, .ref k1, .ref k2, .ref k3, .ref k4, .ref k5, .int (nI n), .int (nI dy), .int (nI ch), .int (nI lw)])), (k0, aI cs 4 (tx_nf kd2)), (k1, aI cs 4 (tx_nf wo2)), (k2, aI cs 4 (tx_nf ha2)), (k3, aI cs 4 (tx_nf we2)), (k4, aI cs 20 (tx_nf td2)), (k5, aI cs 20 (tx_bf bo)), (h2, .inr (4, [.ref k02, .ref k12, .ref k22, .ref k32, .ref k42, .ref k52, .int (nI n2), .int (nI dy2), .int (nI ch2), .int (nI lw2)])), (k02, aI cs 4 (tx_nf kd2)), (k12, aI cs 4 (tx_nf wo2)), (k22, aI cs 4 (tx_nf ha2)), (k32, aI cs 4 (tx_nf we2)), (k42, aI cs 20 (tx_nf td2)), (k52, aI cs 20 (tx_bf bo2))] H := hP
  have hD : va_D A [(h, .inr (4, [.ref k0, .ref k1, .ref k2, .ref k3, .ref k4, .ref k5, .int (nI n), .int (nI dy), .int (nI ch), .int (nI lw)])), (k0, aI cs 4 (tx_nf kd2)), (k1, aI cs 4 (tx_nf wo2)), (k2, aI cs 4 (tx_nf ha2)), (k3, aI cs 4 (tx_nf we2)), (k4, aI cs 20 (tx_nf td2)), (k5, aI cs 20 (tx_bf bo)), (h2, .inr (4, [.ref k02, .ref k12, .ref k22, .ref k32, .ref k42, .ref k52, .int (nI n2), .int (nI dy2), .int (nI ch2), .int (nI lw2)])), (k02, aI cs 4 (tx_nf kd2)), (k12, aI cs 4 (tx_nf wo2)), (k22, aI cs 4 (tx_nf ha2)), (k32, aI cs 4 (tx_nf we2)), (k42, aI cs 20 (tx_nf td2)), (k52, aI cs 20 (tx_bf bo2))] := hD
  refine lv_aload_n hx hb dX4_copyFrom_71 rfl (lv_at hl 1 rfl) ?_
  refine va_get (D := D) (ci := 4) (v := .ref k52) (C := RX4) (T := TX4) (N := 10) hx hb hts in_X4 hown hK hP 7 rfl rfl 5 (by decide) hf_27 (fun _ h9 => h9) rfl dX4_copyFrom_72 ?_
  refine lv_iconst (v := 0) hx hb dX4_copyFrom_75 (by decide) ?_
  refine lv_aload_n hx hb dX4_copyFrom_76 rfl (lv_at hl 0 rfl) ?_
  refine va_get (D := D) (ci := 4) (v := .ref k5) (C := RX4) (T := TX4) (N := 10) hx hb hts in_X4 hown hK hP 0 rfl rfl 5 (by decide) hf_27 (fun _ h9 => h9) rfl dX4_copyFrom_77 ?_
  refine lv_iconst (v := 0) hx hb dX4_copyFrom_80 (by decide) ?_
  refine lv_bipush (v := 20) hx hb dX4_copyFrom_81 (by decide) ?_
  refine ac_n (f := tx_bf bo2) (g := tx_bf bo) hx hb (hml.trans hl.1.symm) hown (hts (.methodLink RX4 49 arraycopyName) (by decide +kernel)) (hts (.native arraycopyName) (by decide +kernel)) (hts (.static arraycopyName) (by decide +kernel)) (hts (.initialized "java/lang/System") (by decide +kernel)) hK hP hD hS 13 6 0 0 rfl rfl rfl rfl (N := 20) rfl rfl rfl (by decide) (by decide) (by decide) (Nat.le_of_ble_eq_true rfl) (Nat.le_of_ble_eq_true (by decide +kernel)) dX4_copyFrom_83 (fun H locs hP hD hS => ?_)
  have hP : va_P D vwCl [(h, .inr (4, [.ref k0, .ref k1, .ref k2, .ref k3, .ref k4, .ref k5, .int (nI n), .int (nI dy), .int (nI ch), .int (nI lw)])), (k0, aI cs 4 (tx_nf kd2)), (k1, aI cs 4 (tx_nf wo2)), (k2, aI cs 4 (tx_nf ha2)), (k3, aI cs 4 (tx_nf we2)), (k4, aI cs 20 (tx_nf td2)), (k5, aI cs 20 (va_cpy (tx_bf bo2) (tx_bf bo) 0 0 20)), (h2, .inr (4, [.ref k02, .ref k12, .ref k22, .ref k32, .ref k42, .ref k52, .int (nI n2), .int (nI dy2), .int (nI ch2), .int (nI lw2)])), (k02, aI cs 4 (tx_nf kd2)), (k12, aI cs 4 (tx_nf wo2)), (k22, aI cs 4 (tx_nf ha2)), (k32, aI cs 4 (tx_nf we2)), (k42, aI cs 20 (tx_nf td2)), (k52, aI cs 20 (tx_bf bo2))] H := hP
  have hD : va_D A [(h, .inr (4, [.ref k0, .ref k1, .ref k2, .ref k3, .ref k4, .ref k5, .int (nI n), .int (nI dy), .int (nI ch), .int (nI lw)])), (k0, aI cs 4 (tx_nf kd2)), (k1, aI cs 4 (tx_nf wo2)), (k2, aI cs 4 (tx_nf ha2)), (k3, aI cs 4 (tx_nf we2)), (k4, aI cs 20 (tx_nf td2)), (k5, aI cs 20 (va_cpy (tx_bf bo2) (tx_bf bo) 0 0 20)), (h2, .inr (4, [.ref k02, .ref k12, .ref k22, .ref k32, .ref k42, .ref k52, .int (nI n2), .int (nI dy2), .int (nI ch2), .int (nI lw2)])), (k02, aI cs 4 (tx_nf kd2)), (k12, aI cs 4 (tx_nf wo2)), (k22, aI cs 4 (tx_nf ha2)), (k32, aI cs 4 (tx_nf we2)), (k42, aI cs 20 (tx_nf td2)), (k52, aI cs 20 (tx_bf bo2))] := hD
  have hP := w_ext hP 6 (tx_bf bo2) rfl (fun q hq => by rw [pk_cpy_in (Nat.zero_le _) (by omega)]; congr 1; omega)
  have hD : va_D A [(h, .inr (4, [.ref k0, .ref k1, .ref k2, .ref k3, .ref k4, .ref k5, .int (nI n), .int (nI dy), .int (nI ch), .int (nI lw)])), (k0, aI cs 4 (tx_nf kd2)), (k1, aI cs 4 (tx_nf wo2)), (k2, aI cs 4 (tx_nf ha2)), (k3, aI cs 4 (tx_nf we2)), (k4, aI cs 20 (tx_nf td2)), (k5, aI cs 20 (tx_bf bo2)), (h2, .inr (4, [.ref k02, .ref k12, .ref k22, .ref k32, .ref k42, .ref k52, .int (nI n2), .int (nI dy2), .int (nI ch2), .int (nI lw2)])), (k02, aI cs 4 (tx_nf kd2)), (k12, aI cs 4 (tx_nf wo2)), (k22, aI cs 4 (tx_nf ha2)), (k32, aI cs 4 (tx_nf we2)), (k42, aI cs 20 (tx_nf td2)), (k52, aI cs 20 (tx_bf bo2))] := d_adr hD rfl
  have hP : va_P D vwCl [(h, .inr (4, [.ref k0, .ref k1, .ref k2, .ref k3, .ref k4, .ref k5, .int (nI n), .int (nI dy), .int (nI ch), .int (nI lw)])), (k0, aI cs 4 (tx_nf kd2)), (k1, aI cs 4 (tx_nf wo2)), (k2, aI cs 4 (tx_nf ha2)), (k3, aI cs 4 (tx_nf we2)), (k4, aI cs 20 (tx_nf td2)), (k5, aI cs 20 (tx_bf bo2)), (h2, .inr (4, [.ref k02, .ref k12, .ref k22, .ref k32, .ref k42, .ref k52, .int (nI n2), .int (nI dy2), .int (nI ch2), .int (nI lw2)])), (k02, aI cs 4 (tx_nf kd2)), (k12, aI cs 4 (tx_nf wo2)), (k22, aI cs 4 (tx_nf ha2)), (k32, aI cs 4 (tx_nf we2)), (k42, aI cs 20 (tx_nf td2)), (k52, aI cs 20 (tx_bf bo2))] H := hP
  have hD : va_D A [(h, .inr (4, [.ref k0, .ref k1, .ref k2, .ref k3, .ref k4, .ref k5, .int (nI n), .int (nI dy), .int (nI ch), .int (nI lw)])), (k0, aI cs 4 (tx_nf kd2)), (k1, aI cs 4 (tx_nf wo2)), (k2, aI cs 4 (tx_nf ha2)), (k3, aI cs 4 (tx_nf we2)), (k4, aI cs 20 (tx_nf td2)), (k5, aI cs 20 (tx_bf bo2)), (h2, .inr (4, [.ref k02, .ref k12, .ref k22, .ref k32, .ref k42, .ref k52, .int (nI n2), .int (nI dy2), .int (nI ch2), .int (nI lw2)])), (k02, aI cs 4 (tx_nf kd2)), (k12, aI cs 4 (tx_nf wo2)), (k22, aI cs 4 (tx_nf ha2)), (k32, aI cs 4 (tx_nf we2)), (k42, aI cs 20 (tx_nf td2)), (k52, aI cs 20 (tx_bf bo2))] := hD
  refine lv_aload_n hx hb dX4_copyFrom_86 rfl (lv_at hl 0 rfl) ?_
  refine lv_aload_n hx hb dX4_copyFrom_87 rfl (lv_at hl 1 rfl) ?_
  refine va_get (D := D) (ci := 4) (v := .int (nI n2)) (C := RX4) (T := TX4) (N := 10) hx hb hts in_X4 hown hK hP 7 rfl rfl 6 (by decide) hf_30 (fun _ h9 => h9) rfl dX4_copyFrom_88 ?_
  refine va_put (D := D) (ci := 4) (v := .int (nI n2)) (ty := .int) (C := RX4) (T := TX4) (N := 10) hx hb hts in_X4 tyX4 tyX4_ok nmX4 hown hK hP hD hS 0 rfl rfl 6 (by decide) hf_30 (fun _ h9 => h9) rfl (by decide +kernel) rfl rfl (Nat.le_of_ble_eq_true rfl) dX4_copyFrom_91 (fun H locs hP hD hS => ?_)
  have hP : va_P D vwCl [(h, .inr (4, [.ref k0, .ref k1, .ref k2, .ref k3, .ref k4, .ref k5, .int (nI n2), .int (nI dy), .int (nI ch), .int (nI lw)])), (k0, aI cs 4 (tx_nf kd2)), (k1, aI cs 4 (tx_nf wo2)), (k2, aI cs 4 (tx_nf ha2)), (k3, aI cs 4 (tx_nf we2)), (k4, aI cs 20 (tx_nf td2)), (k5, aI cs 20 (tx_bf bo2)), (h2, .inr (4, [.ref k02, .ref k12, .ref k22, .ref k32, .ref k42, .ref k52, .int (nI n2), .int (nI dy2), .int (nI ch2), .int (nI lw2)])), (k02, aI cs 4 (tx_nf kd2)), (k12, aI cs 4 (tx_nf wo2)), (k22, aI cs 4 (tx_nf ha2)), (k32, aI cs 4 (tx_nf we2)), (k42, aI cs 20 (tx_nf td2)), (k52, aI cs 20 (tx_bf bo2))] H := hP
  have hD : va_D A [(h, .inr (4, [.ref k0, .ref k1, .ref k2, .ref k3, .ref k4, .ref k5, .int (nI n2), .int (nI dy), .int (nI ch), .int (nI lw)])), (k0, aI cs 4 (tx_nf kd2)), (k1, aI cs 4 (tx_nf wo2)), (k2, aI cs 4 (tx_nf ha2)), (k3, aI cs 4 (tx_nf we2)), (k4, aI cs 20 (tx_nf td2)), (k5, aI cs 20 (tx_bf bo2)), (h2, .inr (4, [.ref k02, .ref k12, .ref k22, .ref k32, .ref k42, .ref k52, .int (nI n2), .int (nI dy2), .int (nI ch2), .int (nI lw2)])), (k02, aI cs 4 (tx_nf kd2)), (k12, aI cs 4 (tx_nf wo2)), (k22, aI cs 4 (tx_nf ha2)), (k32, aI cs 4 (tx_nf we2)), (k42, aI cs 20 (tx_nf td2)), (k52, aI cs 20 (tx_bf bo2))] := hD
  refine lv_aload_n hx hb dX4_copyFrom_94 rfl (lv_at hl 0 rfl) ?_
  refine lv_aload_n hx hb dX4_copyFrom_95 rfl (lv_at hl 1 rfl) ?_
  refine va_get (D := D) (ci := 4) (v := .int (nI dy2)) (C := RX4) (T := TX4) (N := 10) hx hb hts in_X4 hown hK hP 7 rfl rfl 7 (by decide) hf_34 (fun _ h9 => h9) rfl dX4_copyFrom_96 ?_
  refine va_put (D := D) (ci := 4) (v := .int (nI dy2)) (ty := .int) (C := RX4) (T := TX4) (N := 10) hx hb hts in_X4 tyX4 tyX4_ok nmX4 hown hK hP hD hS 0 rfl rfl 7 (by decide) hf_34 (fun _ h9 => h9) rfl (by decide +kernel) rfl rfl (Nat.le_of_ble_eq_true rfl) dX4_copyFrom_99 (fun H locs hP hD hS => ?_)
  have hP : va_P D vwCl [(h, .inr (4, [.ref k0, .ref k1, .ref k2, .ref k3, .ref k4, .ref k5, .int (nI n2), .int (nI dy2), .int (nI ch), .int (nI lw)])), (k0, aI cs 4 (tx_nf kd2)), (k1, aI cs 4 (tx_nf wo2)), (k2, aI cs 4 (tx_nf ha2)), (k3, aI cs 4 (tx_nf we2)), (k4, aI cs 20 (tx_nf td2)), (k5, aI cs 20 (tx_bf bo2)), (h2, .inr (4, [.ref k02, .ref k12, .ref k22, .ref k32, .ref k42, .ref k52, .int (nI n2), .int (nI dy2), .int (nI ch2), .int (nI lw2)])), (k02, aI cs 4 (tx_nf kd2)), (k12, aI cs 4 (tx_nf wo2)), (k22, aI cs 4 (tx_nf ha2)), (k32, aI cs 4 (tx_nf we2)), (k42, aI cs 20 (tx_nf td2)), (k52, aI cs 20 (tx_bf bo2))] H := hP
  have hD : va_D A [(h, .inr (4, [.ref k0, .ref k1, .ref k2, .ref k3, .ref k4, .ref k5, .int (nI n2), .int (nI dy2), .int (nI ch), .int (nI lw)])), (k0, aI cs 4 (tx_nf kd2)), (k1, aI cs 4 (tx_nf wo2)), (k2, aI cs 4 (tx_nf ha2)), (k3, aI cs 4 (tx_nf we2)), (k4, aI cs 20 (tx_nf td2)), (k5, aI cs 20 (tx_bf bo2)), (h2, .inr (4, [.ref k02, .ref k12, .ref k22, .ref k32, .ref k42, .ref k52, .int (nI n2), .int (nI dy2), .int (nI ch2), .int (nI lw2)])), (k02, aI cs 4 (tx_nf kd2)), (k12, aI cs 4 (tx_nf wo2)), (k22, aI cs 4 (tx_nf ha2)), (k32, aI cs 4 (tx_nf we2)), (k42, aI cs 20 (tx_nf td2)), (k52, aI cs 20 (tx_bf bo2))] := hD
  refine lv_aload_n hx hb dX4_copyFrom_102 rfl (lv_at hl 0 rfl) ?_
  refine lv_aload_n hx hb dX4_copyFrom_103 rfl (lv_at hl 1 rfl) ?_
  refine va_get (D := D) (ci := 4) (v := .int (nI ch2)) (C := RX4) (T := TX4) (N := 10) hx hb hts in_X4 hown hK hP 7 rfl rfl 8 (by decide) hf_37 (fun _ h9 => h9) rfl dX4_copyFrom_104 ?_
  refine va_put (D := D) (ci := 4) (v := .int (nI ch2)) (ty := .int) (C := RX4) (T := TX4) (N := 10) hx hb hts in_X4 tyX4 tyX4_ok nmX4 hown hK hP hD hS 0 rfl rfl 8 (by decide) hf_37 (fun _ h9 => h9) rfl (by decide +kernel) rfl rfl (Nat.le_of_ble_eq_true rfl) dX4_copyFrom_107 (fun H locs hP hD hS => ?_)
  have hP : va_P D vwCl [(h, .inr (4, [.ref k0, .ref k1, .ref k2, .ref k3, .ref k4, .ref k5, .int (nI n2), .int (nI dy2), .int (nI ch2), .int (nI lw)])), (k0, aI cs 4 (tx_nf kd2)), (k1, aI cs 4 (tx_nf wo2)), (k2, aI cs 4 (tx_nf ha2)), (k3, aI cs 4 (tx_nf we2)), (k4, aI cs 20 (tx_nf td2)), (k5, aI cs 20 (tx_bf bo2)), (h2, .inr (4, [.ref k02, .ref k12, .ref k22, .ref k32, .ref k42, .ref k52, .int (nI n2), .int (nI dy2), .int (nI ch2), .int (nI lw2)])), (k02, aI cs 4 (tx_nf kd2)), (k12, aI cs 4 (tx_nf wo2)), (k22, aI cs 4 (tx_nf ha2)), (k32, aI cs 4 (tx_nf we2)), (k42, aI cs 20 (tx_nf td2)), (k52, aI cs 20 (tx_bf bo2))] H := hP
  have hD : va_D A [(h, .inr (4, [.ref k0, .ref k1, .ref k2, .ref k3, .ref k4, .ref k5, .int (nI n2), .int (nI dy2), .int (nI ch2), .int (nI lw)])), (k0, aI cs 4 (tx_nf kd2)), (k1, aI cs 4 (tx_nf wo2)), (k2, aI cs 4 (tx_nf ha2)), (k3, aI cs 4 (tx_nf we2)), (k4, aI cs 20 (tx_nf td2)), (k5, aI cs 20 (tx_bf bo2)), (h2, .inr (4, [.ref k02, .ref k12, .ref k22, .ref k32, .ref k42, .ref k52, .int (nI n2), .int (nI dy2), .int (nI ch2), .int (nI lw2)])), (k02, aI cs 4 (tx_nf kd2)), (k12, aI cs 4 (tx_nf wo2)), (k22, aI cs 4 (tx_nf ha2)), (k32, aI cs 4 (tx_nf we2)), (k42, aI cs 20 (tx_nf td2)), (k52, aI cs 20 (tx_bf bo2))] := hD
  refine lv_aload_n hx hb dX4_copyFrom_110 rfl (lv_at hl 0 rfl) ?_
  refine lv_aload_n hx hb dX4_copyFrom_111 rfl (lv_at hl 1 rfl) ?_
  refine va_get (D := D) (ci := 4) (v := .int (nI lw2)) (C := RX4) (T := TX4) (N := 10) hx hb hts in_X4 hown hK hP 7 rfl rfl 9 (by decide) hf_40 (fun _ h9 => h9) rfl dX4_copyFrom_112 ?_
  refine va_put (D := D) (ci := 4) (v := .int (nI lw2)) (ty := .int) (C := RX4) (T := TX4) (N := 10) hx hb hts in_X4 tyX4 tyX4_ok nmX4 hown hK hP hD hS 0 rfl rfl 9 (by decide) hf_40 (fun _ h9 => h9) rfl (by decide +kernel) rfl rfl (Nat.le_of_ble_eq_true rfl) dX4_copyFrom_115 (fun H locs hP hD hS => ?_)
  have hP : va_P D vwCl [(h, .inr (4, [.ref k0, .ref k1, .ref k2, .ref k3, .ref k4, .ref k5, .int (nI n2), .int (nI dy2), .int (nI ch2), .int (nI lw2)])), (k0, aI cs 4 (tx_nf kd2)), (k1, aI cs 4 (tx_nf wo2)), (k2, aI cs 4 (tx_nf ha2)), (k3, aI cs 4 (tx_nf we2)), (k4, aI cs 20 (tx_nf td2)), (k5, aI cs 20 (tx_bf bo2)), (h2, .inr (4, [.ref k02, .ref k12, .ref k22, .ref k32, .ref k42, .ref k52, .int (nI n2), .int (nI dy2), .int (nI ch2), .int (nI lw2)])), (k02, aI cs 4 (tx_nf kd2)), (k12, aI cs 4 (tx_nf wo2)), (k22, aI cs 4 (tx_nf ha2)), (k32, aI cs 4 (tx_nf we2)), (k42, aI cs 20 (tx_nf td2)), (k52, aI cs 20 (tx_bf bo2))] H := hP
  have hD : va_D A [(h, .inr (4, [.ref k0, .ref k1, .ref k2, .ref k3, .ref k4, .ref k5, .int (nI n2), .int (nI dy2), .int (nI ch2), .int (nI lw2)])), (k0, aI cs 4 (tx_nf kd2)), (k1, aI cs 4 (tx_nf wo2)), (k2, aI cs 4 (tx_nf ha2)), (k3, aI cs 4 (tx_nf we2)), (k4, aI cs 20 (tx_nf td2)), (k5, aI cs 20 (tx_bf bo2)), (h2, .inr (4, [.ref k02, .ref k12, .ref k22, .ref k32, .ref k42, .ref k52, .int (nI n2), .int (nI dy2), .int (nI ch2), .int (nI lw2)])), (k02, aI cs 4 (tx_nf kd2)), (k12, aI cs 4 (tx_nf wo2)), (k22, aI cs 4 (tx_nf ha2)), (k32, aI cs 4 (tx_nf we2)), (k42, aI cs 20 (tx_nf td2)), (k52, aI cs 20 (tx_bf bo2))] := hD
  exact rt_v hx hb hr hlocks () (trivial) hP hD hS dX4_copyFrom_118
