set_option maxHeartbeats 4000000 in
set_option maxRecDepth 100000 in
theorem c_X3_letterHere (l : Launch) (D : va_G) (cs : Nat → ClassId) (sz : Nat) (tx : Nat) (t0 : Nat) (tz : Nat) (at9 : Nat) (hz : Int) (t1 : Nat) (ht : Nat) (tl : Nat → Nat) (htz : tz ≤ 80) (hat : at9 ≤ 100) : mI (S := Unit) l yX3_letterHere wsX3_letterHere ({ frames := 0, cells := 0, slots := 0, locals := 0 } : Room) D (tyc cs) sz [.ref tx] [(tx, .inr (3, [.ref t0, .int (nI tz), .int (nI at9), .int (iI hz), .ref t1, .ref ht])), (t0, aI cs 80 (tx_nf tl))] [] (fun (r : Int32) (u : Unit) => r = iI (tx_lt tl tz at9)) (fun _ => []) 0 0 := by
  unfold mI
  refine Met.ofW (cc := cX3_letterHere) (maxL := 1) (ret := (some .int)) (by decide) rfl ?_
  intro p e s m args below meth c s₁ B hml hv
  obtain ⟨rfl, hsz, hP, hK, hD0⟩ := hv
  have hx := B.exec
  have hb := B.bytes
  have hr := B.returns
  have hts := atoms_spec (ws := wsX3_letterHere) B.pre
  have hown : s.vm.findClass RX3 = some m.cls := findClass_of_methodNamed B.named
  have hlocks := B.notSynchronized
  subst hsz
  have hR := @en_R _ _ _ [(tx, .inr (3, [.ref t0, .int (nI tz), .int (nI at9), .int (iI hz), .ref t1, .ref ht])), (t0, aI cs 80 (tx_nf tl))] [] _ hP hD0
  have hN := adN_of hD0
  have hD := en_D (wr := [(tx, .inr (3, [.ref t0, .int (nI tz), .int (nI at9), .int (iI hz), .ref t1, .ref ht])), (t0, aI cs 80 (tx_nf tl))]) (ww := []) (sz := s.heap.size) hD0
  have hP := en_P (wr := [(tx, .inr (3, [.ref t0, .int (nI tz), .int (nI at9), .int (iI hz), .ref t1, .ref ht])), (t0, aI cs 80 (tx_nf tl))]) (ww := []) hP
  generalize hAe : va_A [] s.heap.size = A at hD hR ⊢
  have hA : ∀ q : Nat, s.heap.size ≤ q → A q := fun q h => by rw [← hAe]; exact Or.inr h
  have hS : va_S A s.heap s.heap [] := va_S.rf
  have hN : adN [tx, t0] := hN
  have hf_9 := hts (.fieldLink RX3 9 "TaxedByLongest$Text" "letters" "[I") (by decide +kernel)
  have hf_15 := hts (.fieldLink RX3 15 "TaxedByLongest$Text" "size" "I") (by decide +kernel)
  have hf_19 := hts (.fieldLink RX3 19 "TaxedByLongest$Text" "at" "I") (by decide +kernel)
  have in_X3 : ∀ w ∈ wsX30, w ∈ wsX3_letterHere := by decide +kernel
  have hl := lv_entry ([.ref tx]) (n := 1) (Nat.le_of_ble_eq_true rfl)
  rw [lg_entry_eq]
  generalize (lg_sl ([.ref tx]) ++ List.replicate (1 - (lg_sl ([.ref tx])).length) Slot.unset).toArray = ls at hl ⊢
  have hl : lv_has ls 1 [(0, .ref tx)] := hl
  refine lv_aload_n hx hb dX3_letterHere_0 rfl (lv_at hl 0 rfl) ?_
  refine va_get (D := D) (ci := 3) (v := .int (nI at9)) (C := RX3) (T := TX3) (N := 6) hx hb hts in_X3 hown hK (hR hS) 0 rfl rfl 2 (by decide) hf_19 (fun _ h9 => h9) rfl dX3_letterHere_1 ?_
  refine bz_lt (a := at9) (tgt := 30) hx hb rfl (by omega) dX3_letterHere_4 (by decide) ?_
  refine lv_aload_n hx hb dX3_letterHere_7 rfl (lv_at hl 0 rfl) ?_
  refine va_get (D := D) (ci := 3) (v := .int (nI at9)) (C := RX3) (T := TX3) (N := 6) hx hb hts in_X3 hown hK (hR hS) 0 rfl rfl 2 (by decide) hf_19 (fun _ h9 => h9) rfl dX3_letterHere_8 ?_
  refine lv_aload_n hx hb dX3_letterHere_11 rfl (lv_at hl 0 rfl) ?_
  refine va_get (D := D) (ci := 3) (v := .int (nI tz)) (C := RX3) (T := TX3) (N := 6) hx hb hts in_X3 hown hK (hR hS) 0 rfl rfl 1 (by decide) hf_15 (fun _ h9 => h9) rfl dX3_letterHere_12 ?_
  refine bn_ge (a := at9) (b := tz) (tgt := 30) hx hb rfl rfl (by omega) (by omega) dX3_letterHere_15 (by decide) (fun c15 => ?_) (fun c15 => ?_)
  · refine lv_iconst (v := (-1)) hx hb dX3_letterHere_30 (by decide) ?_
    exact rt_i hx hb hr hlocks () (by unfold tx_lt; rw [if_neg (by omega)]; decide) hP hD hS dX3_letterHere_31
  · refine lv_aload_n hx hb dX3_letterHere_18 rfl (lv_at hl 0 rfl) ?_
    refine va_get (D := D) (ci := 3) (v := .ref t0) (C := RX3) (T := TX3) (N := 6) hx hb hts in_X3 hown hK (hR hS) 0 rfl rfl 0 (by decide) hf_9 (fun _ h9 => h9) rfl dX3_letterHere_19 ?_
    refine lv_aload_n hx hb dX3_letterHere_22 rfl (lv_at hl 0 rfl) ?_
    refine va_get (D := D) (ci := 3) (v := .int (nI at9)) (C := RX3) (T := TX3) (N := 6) hx hb hts in_X3 hown hK (hR hS) 0 rfl rfl 2 (by decide) hf_19 (fun _ h9 => h9) rfl dX3_letterHere_23 ?_
    refine ia_n (f := tx_nf tl) hx hb hK (hR hS) 1 0 rfl rfl (j := at9) rfl (by omega) (by decide) dX3_letterHere_26 ?_
    refine tp_i (y := nI (tl at9)) rfl ?_
    refine lv_goto (tgt := 31) hx hb dX3_letterHere_27 (by decide) ?_
    exact rt_i hx hb hr hlocks () (by unfold tx_lt; rw [if_pos c15]; exact nI_iI _) hP hD hS dX3_letterHere_31
set_option maxHeartbeats 4000000 in
set_option maxRecDepth 100000 in
theorem c_X3_readSign (l : Launch) (D : va_G) (cs : Nat → ClassId) (sz : Nat) (tx : Nat) (t0 : Nat) (tz : Nat) (at9 : Nat) (hz : Int) (t1 : Nat) (ht : Nat) (tl : Nat → Nat) (x : Nat) (htz : tz ≤ 80) (hat : at9 ≤ 100) (htl : ∀ e, tl e ≤ 255) (hx9 : x < 2 ^ 31) : mI (S := Unit) l yX3_readSign wsX3_readSign ({ frames := 1, cells := 0, slots := 0, locals := 20 } : Room) D (tyc cs) sz [.ref tx, .int (nI x)] [(t0, aI cs 80 (tx_nf tl))] [(tx, .inr (3, [.ref t0, .int (nI tz), .int (nI at9), .int (iI hz), .ref t1, .ref ht]))] (fun (r : Int32) (u : Unit) => r = bI (tx_sg tl tz x at9)) (fun _ => [(tx, .inr (3, [.ref t0, .int (nI tz), .int (nI (tx_ad (tx_sg tl tz x at9) at9)), .int (iI hz), .ref t1, .ref ht]))]) 0 0 := by
  unfold mI
  refine Met.ofW (cc := cX3_readSign) (maxL := 2) (ret := (some .boolean)) (by decide) rfl ?_
  intro p e s m args below meth c s₁ B hml hv
  obtain ⟨rfl, hsz, hP, hK, hD0⟩ := hv
  have hx := B.exec
  have hb := B.bytes
  have hr := B.returns
  have hts := atoms_spec (ws := wsX3_readSign) B.pre
  have hown : s.vm.findClass RX3 = some m.cls := findClass_of_methodNamed B.named
  have hlocks := B.notSynchronized
  subst hsz
  have hR := @en_R _ _ _ [(t0, aI cs 80 (tx_nf tl))] [(tx, .inr (3, [.ref t0, .int (nI tz), .int (nI at9), .int (iI hz), .ref t1, .ref ht]))] _ hP hD0
  have hN := adN_of hD0
  have hD := en_D (wr := [(t0, aI cs 80 (tx_nf tl))]) (ww := [(tx, .inr (3, [.ref t0, .int (nI tz), .int (nI at9), .int (iI hz), .ref t1, .ref ht]))]) (sz := s.heap.size) hD0
  have hP := en_P (wr := [(t0, aI cs 80 (tx_nf tl))]) (ww := [(tx, .inr (3, [.ref t0, .int (nI tz), .int (nI at9), .int (iI hz), .ref t1, .ref ht]))]) hP
  generalize hAe : va_A [(tx, .inr (3, [.ref t0, .int (nI tz), .int (nI at9), .int (iI hz), .ref t1, .ref ht]))] s.heap.size = A at hD hR ⊢
  have hA : ∀ q : Nat, s.heap.size ≤ q → A q := fun q h => by rw [← hAe]; exact Or.inr h
  have hS : va_S A s.heap s.heap [] := va_S.rf
  have hN : adN [t0, tx] := hN
  have hf_19 := hts (.fieldLink RX3 19 "TaxedByLongest$Text" "at" "I") (by decide +kernel)
  have in_X3 : ∀ w ∈ wsX30, w ∈ wsX3_readSign := by decide +kernel
  have hl := lv_entry ([.ref tx, .int (nI x)]) (n := 2) (Nat.le_of_ble_eq_true rfl)
  rw [lg_entry_eq]
  generalize (lg_sl ([.ref tx, .int (nI x)]) ++ List.replicate (2 - (lg_sl ([.ref tx, .int (nI x)])).length) Slot.unset).toArray = ls at hl ⊢
  have hl : lv_has ls 2 [(0, .ref tx), (1, .int (nI x))] := hl
  refine lv_aload_n hx hb dX3_readSign_0 rfl (lv_at hl 0 rfl) ?_
  refine cV_i (As := []) (rest := []) (cr := [(tx, .inr (3, [.ref t0, .int (nI tz), .int (nI at9), .int (iI hz), .ref t1, .ref ht])), (t0, aI cs 80 (tx_nf tl))]) (cw1 := []) ⟨hx, hb, hml, hown, hts⟩ (c_X3_letterHere l D cs _ tx t0 tz at9 hz t1 ht tl (by first | assumption | omega) (by first | assumption | omega)) (cwV 0 hts gX3_readSign_X3_letterHere rfl rfl rfl (by decide +kernel) ⟨Nat.le_of_ble_eq_true rfl, Nat.le_of_ble_eq_true rfl⟩) hK hP hD hS hA (((hR hS).app hP).sub [1, 0] rfl) (dt_of hN [1, 0] (by decide) rfl) [] rfl 0 rfl rfl rfl hl.1 rfl (Nat.le_of_ble_eq_true rfl) dX3_readSign_1 ⟨Nat.le_of_ble_eq_true rfl, Nat.le_of_ble_eq_true rfl⟩ (fun _ => rfl) (fun _ => rfl) (fun r_1 u9 H locs hw_2 hP hD hS => ?_)
  have hP : va_P D vwCl [(tx, .inr (3, [.ref t0, .int (nI tz), .int (nI at9), .int (iI hz), .ref t1, .ref ht]))] H := hP
  have hD : va_D A [(tx, .inr (3, [.ref t0, .int (nI tz), .int (nI at9), .int (iI hz), .ref t1, .ref ht]))] := hD
  subst r_1
  refine lv_iload_n hx hb dX3_readSign_4 rfl (lv_at hl 1 rfl) ?_
  have hlt := tx_lt_b htl tz at9
  refine bi_eq (a := tx_lt tl tz at9) (b := (x : Int)) (tgt := 10) hx hb rfl (nI_iI _) (by omega) (by omega) (by omega) (by omega) dX3_readSign_5 (by decide) (fun c5 => ?_) (fun c5 => ?_)
  · refine lv_aload_n hx hb dX3_readSign_10 rfl (lv_at hl 0 rfl) ?_
    refine lv_dup hx hb dX3_readSign_11 rfl ?_
    refine va_get (D := D) (ci := 3) (v := .int (nI at9)) (C := RX3) (T := TX3) (N := 6) hx hb hts in_X3 hown hK hP 0 rfl rfl 2 (by decide) hf_19 (fun _ h9 => h9) rfl dX3_readSign_12 ?_
    refine lv_iconst (v := 1) hx hb dX3_readSign_15 (by decide) ?_
    refine lv_iadd hx hb dX3_readSign_16 ?_
    refine tp_i (nI_add at9 1) ?_
    refine va_put (D := D) (ci := 3) (v := .int (nI (at9 + 1))) (ty := .int) (C := RX3) (T := TX3) (N := 6) hx hb hts in_X3 tyX3 tyX3_ok nmX3 hown hK hP hD hS 0 rfl rfl 2 (by decide) hf_19 (fun _ h9 => h9) rfl (by decide +kernel) rfl rfl (Nat.le_of_ble_eq_true rfl) dX3_readSign_17 (fun H locs hP hD hS => ?_)
    have hP : va_P D vwCl [(tx, .inr (3, [.ref t0, .int (nI tz), .int (nI (at9 + 1)), .int (iI hz), .ref t1, .ref ht]))] H := hP
    have hD : va_D A [(tx, .inr (3, [.ref t0, .int (nI tz), .int (nI (at9 + 1)), .int (iI hz), .ref t1, .ref ht]))] := hD
    refine lv_iconst (v := 1) hx hb dX3_readSign_20 (by decide) ?_
    have hin := tx_lt_in (tl := tl) (tz := tz) (a := at9) (by omega)
    have hsg : tx_sg tl tz x at9 = true := decide_eq_true ⟨hin.1, by omega⟩
    have e9 : tx_ad (tx_sg tl tz x at9) at9 = at9 + 1 := by rw [hsg]; rfl
    have hP : va_P D vwCl [(tx, .inr (3, [.ref t0, .int (nI tz), .int (nI (tx_ad (tx_sg tl tz x at9) at9)), .int (iI hz), .ref t1, .ref ht]))] H := by rw [e9]; exact hP
    have hD : va_D A [(tx, .inr (3, [.ref t0, .int (nI tz), .int (nI (tx_ad (tx_sg tl tz x at9) at9)), .int (iI hz), .ref t1, .ref ht]))] := by rw [e9]; exact hD
    exact rt_z hx hb hr rfl hlocks () (by rw [hsg]; rfl) hP hD hS dX3_readSign_21
  · refine lv_iconst (v := 0) hx hb dX3_readSign_8 (by decide) ?_
    have hsg : tx_sg tl tz x at9 = false := decide_eq_false (fun q => c5 (by rw [tx_lt_p q.1, q.2]))
    have e9 : tx_ad (tx_sg tl tz x at9) at9 = at9 := by rw [hsg]; rfl
    have hP : va_P D vwCl [(tx, .inr (3, [.ref t0, .int (nI tz), .int (nI (tx_ad (tx_sg tl tz x at9) at9)), .int (iI hz), .ref t1, .ref ht]))] H := by rw [e9]; exact hP
    have hD : va_D A [(tx, .inr (3, [.ref t0, .int (nI tz), .int (nI (tx_ad (tx_sg tl tz x at9) at9)), .int (iI hz), .ref t1, .ref ht]))] := by rw [e9]; exact hD
    exact rt_z hx hb hr rfl hlocks () (by rw [hsg]; rfl) hP hD hS dX3_readSign_9
set_option maxHeartbeats 4000000 in
set_option maxRecDepth 100000 in
theorem c_X3_readDigit (l : Launch) (D : va_G) (cs : Nat → ClassId) (sz : Nat) (tx : Nat) (t0 : Nat) (tz : Nat) (at9 : Nat) (hz : Int) (t1 : Nat) (ht : Nat) (tl : Nat → Nat) (nu : Nat → Nat) (sl : Nat) (htz : tz ≤ 80) (hat : at9 ≤ 100) (htl : ∀ e, tl e ≤ 255) (hsl : sl < 4) : mI (S := Unit) l yX3_readDigit wsX3_readDigit ({ frames := 1, cells := 0, slots := 0, locals := 20 } : Room) D (tyc cs) sz [.ref tx, .int (nI sl)] [(t0, aI cs 80 (tx_nf tl))] [(tx, .inr (3, [.ref t0, .int (nI tz), .int (nI at9), .int (iI hz), .ref t1, .ref ht])), (t1, aI cs 4 (tx_nf nu))] (fun (r : Int32) (u : Unit) => r = bI (tx_dg tl tz at9)) (fun _ => [(tx, .inr (3, [.ref t0, .int (nI tz), .int (nI (tx_ad (tx_dg tl tz at9) at9)), .int (iI hz), .ref t1, .ref ht])), (t1, aI cs 4 (tx_nf (tx_dn (tx_dg tl tz at9) nu sl (tl at9 - 48))))]) 0 0 := by
  unfold mI
  refine Met.ofW (cc := cX3_readDigit) (maxL := 3) (ret := (some .boolean)) (by decide) rfl ?_
  intro p e s m args below meth c s₁ B hml hv
  obtain ⟨rfl, hsz, hP, hK, hD0⟩ := hv
  have hx := B.exec
  have hb := B.bytes
  have hr := B.returns
  have hts := atoms_spec (ws := wsX3_readDigit) B.pre
  have hown : s.vm.findClass RX3 = some m.cls := findClass_of_methodNamed B.named
  have hlocks := B.notSynchronized
  subst hsz
  have hR := @en_R _ _ _ [(t0, aI cs 80 (tx_nf tl))] [(tx, .inr (3, [.ref t0, .int (nI tz), .int (nI at9), .int (iI hz), .ref t1, .ref ht])), (t1, aI cs 4 (tx_nf nu))] _ hP hD0
  have hN := adN_of hD0
  have hD := en_D (wr := [(t0, aI cs 80 (tx_nf tl))]) (ww := [(tx, .inr (3, [.ref t0, .int (nI tz), .int (nI at9), .int (iI hz), .ref t1, .ref ht])), (t1, aI cs 4 (tx_nf nu))]) (sz := s.heap.size) hD0
  have hP := en_P (wr := [(t0, aI cs 80 (tx_nf tl))]) (ww := [(tx, .inr (3, [.ref t0, .int (nI tz), .int (nI at9), .int (iI hz), .ref t1, .ref ht])), (t1, aI cs 4 (tx_nf nu))]) hP
  generalize hAe : va_A [(tx, .inr (3, [.ref t0, .int (nI tz), .int (nI at9), .int (iI hz), .ref t1, .ref ht])), (t1, aI cs 4 (tx_nf nu))] s.heap.size = A at hD hR ⊢
  have hA : ∀ q : Nat, s.heap.size ≤ q → A q := fun q h => by rw [← hAe]; exact Or.inr h
  have hS : va_S A s.heap s.heap [] := va_S.rf
  have hN : adN [t0, tx, t1] := hN
  have hf_19 := hts (.fieldLink RX3 19 "TaxedByLongest$Text" "at" "I") (by decide +kernel)
  have hf_25 := hts (.fieldLink RX3 25 "TaxedByLongest$Text" "numbers" "[I") (by decide +kernel)
  have in_X3 : ∀ w ∈ wsX30, w ∈ wsX3_readDigit := by decide +kernel
  have hl := lv_entry ([.ref tx, .int (nI sl)]) (n := 3) (Nat.le_of_ble_eq_true rfl)
  rw [lg_entry_eq]
  generalize (lg_sl ([.ref tx, .int (nI sl)]) ++ List.replicate (3 - (lg_sl ([.ref tx, .int (nI sl)])).length) Slot.unset).toArray = ls at hl ⊢
  have hl : lv_has ls 3 [(0, .ref tx), (1, .int (nI sl))] := hl
  refine lv_aload_n hx hb dX3_readDigit_0 rfl (lv_at hl 0 rfl) ?_
  refine cV_i (As := []) (rest := []) (cr := [(tx, .inr (3, [.ref t0, .int (nI tz), .int (nI at9), .int (iI hz), .ref t1, .ref ht])), (t0, aI cs 80 (tx_nf tl))]) (cw1 := []) ⟨hx, hb, hml, hown, hts⟩ (c_X3_letterHere l D cs _ tx t0 tz at9 hz t1 ht tl (by first | assumption | omega) (by first | assumption | omega)) (cwV 0 hts gX3_readDigit_X3_letterHere rfl rfl rfl (by decide +kernel) ⟨Nat.le_of_ble_eq_true rfl, Nat.le_of_ble_eq_true rfl⟩) hK hP hD hS hA (((hR hS).app hP).sub [1, 0] rfl) (dt_of hN [1, 0] (by decide) rfl) [] rfl 0 rfl rfl rfl hl.1 rfl (Nat.le_of_ble_eq_true rfl) dX3_readDigit_1 ⟨Nat.le_of_ble_eq_true rfl, Nat.le_of_ble_eq_true rfl⟩ (fun _ => rfl) (fun _ => rfl) (fun r_1 u9 H locs hw_2 hP hD hS => ?_)
  have hP : va_P D vwCl [(tx, .inr (3, [.ref t0, .int (nI tz), .int (nI at9), .int (iI hz), .ref t1, .ref ht])), (t1, aI cs 4 (tx_nf nu))] H := hP
  have hD : va_D A [(tx, .inr (3, [.ref t0, .int (nI tz), .int (nI at9), .int (iI hz), .ref t1, .ref ht])), (t1, aI cs 4 (tx_nf nu))] := hD
  subst r_1
  refine lv_istore_n (lv' := [(2, .int (iI (tx_lt tl tz at9))), (0, .ref tx), (1, .int (nI sl))]) hx hb dX3_readDigit_4 rfl hl (by decide) rfl (fun ls hl => ?_)
  refine lv_iload_n hx hb dX3_readDigit_5 rfl (lv_at hl 0 rfl) ?_
  refine lv_bipush (v := 48) hx hb dX3_readDigit_6 (by decide) ?_
  have hlt := tx_lt_b htl tz at9
  refine bi_lt (a := tx_lt tl tz at9) (b := 48) (tgt := 17) hx hb rfl (by decide) (by omega) (by omega) (by omega) (by omega) dX3_readDigit_8 (by decide) (fun c8 => ?_) (fun c8 => ?_)
  · refine lv_iconst (v := 0) hx hb dX3_readDigit_17 (by decide) ?_
    have hsg : tx_dg tl tz at9 = false := decide_eq_false (fun q => by have := tx_lt_p (tl := tl) q.1; omega)
    have e8 : tx_ad (tx_dg tl tz at9) at9 = at9 := by rw [hsg]; rfl
    have e9 : tx_dn (tx_dg tl tz at9) nu sl (tl at9 - 48) = nu := by rw [hsg]; rfl
    have hP : va_P D vwCl [(tx, .inr (3, [.ref t0, .int (nI tz), .int (nI (tx_ad (tx_dg tl tz at9) at9)), .int (iI hz), .ref t1, .ref ht])), (t1, aI cs 4 (tx_nf (tx_dn (tx_dg tl tz at9) nu sl (tl at9 - 48))))] H := by rw [e8, e9]; exact hP
    have hD : va_D A [(tx, .inr (3, [.ref t0, .int (nI tz), .int (nI (tx_ad (tx_dg tl tz at9) at9)), .int (iI hz), .ref t1, .ref ht])), (t1, aI cs 4 (tx_nf (tx_dn (tx_dg tl tz at9) nu sl (tl at9 - 48))))] := by rw [e8, e9]; exact hD
    exact rt_z hx hb hr rfl hlocks () (by rw [hsg]; rfl) hP hD hS dX3_readDigit_18
  · refine lv_iload_n hx hb dX3_readDigit_11 rfl (lv_at hl 0 rfl) ?_
    refine lv_bipush (v := 57) hx hb dX3_readDigit_12 (by decide) ?_
    refine bi_le (a := tx_lt tl tz at9) (b := 57) (tgt := 19) hx hb rfl (by decide) (by omega) (by omega) (by omega) (by omega) dX3_readDigit_14 (by decide) (fun c14 => ?_) (fun c14 => ?_)
    · have hin := tx_lt_in (tl := tl) (tz := tz) (a := at9) (by omega)
      refine lv_aload_n hx hb dX3_readDigit_19 rfl (lv_at hl 1 rfl) ?_
      refine va_get (D := D) (ci := 3) (v := .ref t1) (C := RX3) (T := TX3) (N := 6) hx hb hts in_X3 hown hK hP 0 rfl rfl 4 (by decide) hf_25 (fun _ h9 => h9) rfl dX3_readDigit_20 ?_
      refine lv_iload_n hx hb dX3_readDigit_23 rfl (lv_at hl 2 rfl) ?_
      refine lv_iload_n hx hb dX3_readDigit_24 rfl (lv_at hl 0 rfl) ?_
      refine lv_bipush (v := 48) hx hb dX3_readDigit_25 (by decide) ?_
      refine lv_isub hx hb dX3_readDigit_27 ?_
      refine tp_i (sub_iI (a := tx_lt tl tz at9) (b := 48) rfl (by decide)) ?_
      refine tp_i (show iI ((tx_lt tl tz at9) - 48) = nI (tl at9 - 48) from by rw [nI_iI]; congr 1; omega) ?_
      refine is_n (f := tx_nf nu) hx hb hK hP hD hS 1 0 rfl rfl (j := sl) rfl (by omega) (by decide) dX3_readDigit_28 (fun H locs hP hD hS => ?_)
      rw [show upd (tx_nf nu) sl (nI (tl at9 - 48)) = tx_nf (va_up nu sl (tl at9 - 48)) from nf_up _ _ _] at hP hD
      have hP : va_P D vwCl [(tx, .inr (3, [.ref t0, .int (nI tz), .int (nI at9), .int (iI hz), .ref t1, .ref ht])), (t1, aI cs 4 (tx_nf (va_up nu sl (tl at9 - 48))))] H := hP
      have hD : va_D A [(tx, .inr (3, [.ref t0, .int (nI tz), .int (nI at9), .int (iI hz), .ref t1, .ref ht])), (t1, aI cs 4 (tx_nf (va_up nu sl (tl at9 - 48))))] := hD
      refine lv_aload_n hx hb dX3_readDigit_29 rfl (lv_at hl 1 rfl) ?_
      refine lv_dup hx hb dX3_readDigit_30 rfl ?_
      refine va_get (D := D) (ci := 3) (v := .int (nI at9)) (C := RX3) (T := TX3) (N := 6) hx hb hts in_X3 hown hK hP 0 rfl rfl 2 (by decide) hf_19 (fun _ h9 => h9) rfl dX3_readDigit_31 ?_
      refine lv_iconst (v := 1) hx hb dX3_readDigit_34 (by decide) ?_
      refine lv_iadd hx hb dX3_readDigit_35 ?_
      refine tp_i (nI_add at9 1) ?_
      refine va_put (D := D) (ci := 3) (v := .int (nI (at9 + 1))) (ty := .int) (C := RX3) (T := TX3) (N := 6) hx hb hts in_X3 tyX3 tyX3_ok nmX3 hown hK hP hD hS 0 rfl rfl 2 (by decide) hf_19 (fun _ h9 => h9) rfl (by decide +kernel) rfl rfl (Nat.le_of_ble_eq_true rfl) dX3_readDigit_36 (fun H locs hP hD hS => ?_)
      have hP : va_P D vwCl [(tx, .inr (3, [.ref t0, .int (nI tz), .int (nI (at9 + 1)), .int (iI hz), .ref t1, .ref ht])), (t1, aI cs 4 (tx_nf (va_up nu sl (tl at9 - 48))))] H := hP
      have hD : va_D A [(tx, .inr (3, [.ref t0, .int (nI tz), .int (nI (at9 + 1)), .int (iI hz), .ref t1, .ref ht])), (t1, aI cs 4 (tx_nf (va_up nu sl (tl at9 - 48))))] := hD
      refine lv_iconst (v := 1) hx hb dX3_readDigit_39 (by decide) ?_
      have hsg : tx_dg tl tz at9 = true := decide_eq_true ⟨hin.1, by omega, by omega⟩
      have e8 : tx_ad (tx_dg tl tz at9) at9 = at9 + 1 := by rw [hsg]; rfl
      have e9 : tx_dn (tx_dg tl tz at9) nu sl (tl at9 - 48) = va_up nu sl (tl at9 - 48) := by rw [hsg]; rfl
      have hP : va_P D vwCl [(tx, .inr (3, [.ref t0, .int (nI tz), .int (nI (tx_ad (tx_dg tl tz at9) at9)), .int (iI hz), .ref t1, .ref ht])), (t1, aI cs 4 (tx_nf (tx_dn (tx_dg tl tz at9) nu sl (tl at9 - 48))))] H := by rw [e8, e9]; exact hP
      have hD : va_D A [(tx, .inr (3, [.ref t0, .int (nI tz), .int (nI (tx_ad (tx_dg tl tz at9) at9)), .int (iI hz), .ref t1, .ref ht])), (t1, aI cs 4 (tx_nf (tx_dn (tx_dg tl tz at9) nu sl (tl at9 - 48))))] := by rw [e8, e9]; exact hD
      exact rt_z hx hb hr rfl hlocks () (by rw [hsg]; rfl) hP hD hS dX3_readDigit_40
    · refine lv_iconst (v := 0) hx hb dX3_readDigit_17 (by decide) ?_
      have hsg : tx_dg tl tz at9 = false := decide_eq_false (fun q => by have := tx_lt_p (tl := tl) q.1; omega)
      have e8 : tx_ad (tx_dg tl tz at9) at9 = at9 := by rw [hsg]; rfl
      have e9 : tx_dn (tx_dg tl tz at9) nu sl (tl at9 - 48) = nu := by rw [hsg]; rfl
      have hP : va_P D vwCl [(tx, .inr (3, [.ref t0, .int (nI tz), .int (nI (tx_ad (tx_dg tl tz at9) at9)), .int (iI hz), .ref t1, .ref ht])), (t1, aI cs 4 (tx_nf (tx_dn (tx_dg tl tz at9) nu sl (tl at9 - 48))))] H := by rw [e8, e9]; exact hP
      have hD : va_D A [(tx, .inr (3, [.ref t0, .int (nI tz), .int (nI (tx_ad (tx_dg tl tz at9) at9)), .int (iI hz), .ref t1, .ref ht])), (t1, aI cs 4 (tx_nf (tx_dn (tx_dg tl tz at9) nu sl (tl at9 - 48))))] := by rw [e8, e9]; exact hD
      exact rt_z hx hb hr rfl hlocks () (by rw [hsg]; rfl) hP hD hS dX3_readDigit_18
set_option maxHeartbeats 4000000 in
set_option maxRecDepth 100000 in
theorem c_X3_readNumber (l : Launch) (D : va_G) (cs : Nat → ClassId) (sz : Nat) (tx : Nat) (t0 : Nat) (tz : Nat) (at9 : Nat) (hz : Int) (t1 : Nat) (ht : Nat) (tl : Nat → Nat) (nu : Nat → Nat) (sl : Nat) (htz : tz ≤ 80) (hat : at9 ≤ 90) (htl : ∀ e, tl e ≤ 255) (hsl : sl < 4) : mI (S := Unit) l yX3_readNumber wsX3_readNumber ({ frames := 2, cells := 0, slots := 0, locals := 42 } : Room) D (tyc cs) sz [.ref tx, .int (nI sl)] [(t0, aI cs 80 (tx_nf tl))] [(tx, .inr (3, [.ref t0, .int (nI tz), .int (nI at9), .int (iI hz), .ref t1, .ref ht])), (t1, aI cs 4 (tx_nf nu))] (fun (r : Int32) (u : Unit) => r = bI (tx_dg tl tz at9)) (fun _ => [(tx, .inr (3, [.ref t0, .int (nI tz), .int (nI (at9 + tx_nl tl tz at9)), .int (iI hz), .ref t1, .ref ht])), (t1, aI cs 4 (tx_nf (tx_dn (tx_dg tl tz at9) nu sl (tx_nv tl tz at9))))]) 0 0 := by
  unfold mI
  refine Met.ofW (cc := cX3_readNumber) (maxL := 3) (ret := (some .boolean)) (by decide) rfl ?_
  intro p e s m args below meth c s₁ B hml hv
  obtain ⟨rfl, hsz, hP, hK, hD0⟩ := hv
  have hx := B.exec
  have hb := B.bytes
  have hr := B.returns
  have hts := atoms_spec (ws := wsX3_readNumber) B.pre
  have hown : s.vm.findClass RX3 = some m.cls := findClass_of_methodNamed B.named
  have hlocks := B.notSynchronized
  subst hsz
  have hR := @en_R _ _ _ [(t0, aI cs 80 (tx_nf tl))] [(tx, .inr (3, [.ref t0, .int (nI tz), .int (nI at9), .int (iI hz), .ref t1, .ref ht])), (t1, aI cs 4 (tx_nf nu))] _ hP hD0
  have hN := adN_of hD0
  have hD := en_D (wr := [(t0, aI cs 80 (tx_nf tl))]) (ww := [(tx, .inr (3, [.ref t0, .int (nI tz), .int (nI at9), .int (iI hz), .ref t1, .ref ht])), (t1, aI cs 4 (tx_nf nu))]) (sz := s.heap.size) hD0
  have hP := en_P (wr := [(t0, aI cs 80 (tx_nf tl))]) (ww := [(tx, .inr (3, [.ref t0, .int (nI tz), .int (nI at9), .int (iI hz), .ref t1, .ref ht])), (t1, aI cs 4 (tx_nf nu))]) hP
  generalize hAe : va_A [(tx, .inr (3, [.ref t0, .int (nI tz), .int (nI at9), .int (iI hz), .ref t1, .ref ht])), (t1, aI cs 4 (tx_nf nu))] s.heap.size = A at hD hR ⊢
  have hA : ∀ q : Nat, s.heap.size ≤ q → A q := fun q h => by rw [← hAe]; exact Or.inr h
  have hS : va_S A s.heap s.heap [] := va_S.rf
  have hN : adN [t0, tx, t1] := hN
  have hf_25 := hts (.fieldLink RX3 25 "TaxedByLongest$Text" "numbers" "[I") (by decide +kernel)
  have in_X3 : ∀ w ∈ wsX30, w ∈ wsX3_readNumber := by decide +kernel
  have hl := lv_entry ([.ref tx, .int (nI sl)]) (n := 3) (Nat.le_of_ble_eq_true rfl)
  rw [lg_entry_eq]
  generalize (lg_sl ([.ref tx, .int (nI sl)]) ++ List.replicate (3 - (lg_sl ([.ref tx, .int (nI sl)])).length) Slot.unset).toArray = ls at hl ⊢
  have hl : lv_has ls 3 [(0, .ref tx), (1, .int (nI sl))] := hl
  refine lv_aload_n hx hb dX3_readNumber_0 rfl (lv_at hl 0 rfl) ?_
  refine lv_iload_n hx hb dX3_readNumber_1 rfl (lv_at hl 1 rfl) ?_
  refine cV_i (As := [.int (nI sl)]) (rest := []) (cr := [(t0, aI cs 80 (tx_nf tl))]) (cw1 := [(tx, .inr (3, [.ref t0, .int (nI tz), .int (nI at9), .int (iI hz), .ref t1, .ref ht])), (t1, aI cs 4 (tx_nf nu))]) ⟨hx, hb, hml, hown, hts⟩ (c_X3_readDigit l D cs _ tx t0 tz at9 hz t1 ht tl nu sl (by first | assumption | omega) (by first | assumption | omega) (by first | assumption | omega) (by first | assumption | omega)) (cwV 1 hts gX3_readNumber_X3_readDigit rfl rfl rfl (by decide +kernel) ⟨Nat.le_of_ble_eq_true rfl, Nat.le_of_ble_eq_true rfl⟩) hK hP hD hS hA (((hR hS).app hP).sub [0, 1, 2] rfl) (dt_of hN [0, 1, 2] (by decide) rfl) [0, 1] rfl 1 rfl rfl rfl hl.1 rfl (Nat.le_of_ble_eq_true rfl) dX3_readNumber_2 ⟨Nat.le_of_ble_eq_true rfl, Nat.le_of_ble_eq_true rfl⟩ (fun _ => rfl) (fun _ => rfl) (fun r_1 u9 H locs hw_2 hP hD hS => ?_)
  have hP : va_P D vwCl [(tx, .inr (3, [.ref t0, .int (nI tz), .int (nI (tx_ad (tx_dg tl tz at9) at9)), .int (iI hz), .ref t1, .ref ht])), (t1, aI cs 4 (tx_nf (tx_dn (tx_dg tl tz at9) nu sl (tl at9 - 48))))] H := hP
  have hD : va_D A [(tx, .inr (3, [.ref t0, .int (nI tz), .int (nI (tx_ad (tx_dg tl tz at9) at9)), .int (iI hz), .ref t1, .ref ht])), (t1, aI cs 4 (tx_nf (tx_dn (tx_dg tl tz at9) nu sl (tl at9 - 48))))] := hD
  subst r_1
  refine bb_ne (b := tx_dg tl tz at9) (tgt := 10) hx hb rfl dX3_readNumber_5 (by decide) (fun c5 => ?_) (fun c5 => ?_)
  · rw [show tx_ad (tx_dg tl tz at9) at9 = at9 + 1 from if_pos c5] at hP hD
    rw [show tx_dn (tx_dg tl tz at9) nu sl (tl at9 - 48) = va_up nu sl (tl at9 - 48) from if_pos c5] at hP hD
    have hP : va_P D vwCl [(tx, .inr (3, [.ref t0, .int (nI tz), .int (nI (at9 + 1)), .int (iI hz), .ref t1, .ref ht])), (t1, aI cs 4 (tx_nf (va_up nu sl (tl at9 - 48))))] H := hP
    have hD : va_D A [(tx, .inr (3, [.ref t0, .int (nI tz), .int (nI (at9 + 1)), .int (iI hz), .ref t1, .ref ht])), (t1, aI cs 4 (tx_nf (va_up nu sl (tl at9 - 48))))] := hD
    refine lv_bipush (v := 10) hx hb dX3_readNumber_10 (by decide) ?_
    refine lv_aload_n hx hb dX3_readNumber_12 rfl (lv_at hl 0 rfl) ?_
    refine va_get (D := D) (ci := 3) (v := .ref t1) (C := RX3) (T := TX3) (N := 6) hx hb hts in_X3 hown hK hP 0 rfl rfl 4 (by decide) hf_25 (fun _ h9 => h9) rfl dX3_readNumber_13 ?_
    refine lv_iload_n hx hb dX3_readNumber_16 rfl (lv_at hl 1 rfl) ?_
    refine ia_n (f := tx_nf (va_up nu sl (tl at9 - 48))) hx hb hK hP 1 0 rfl rfl (j := sl) rfl (by omega) (by decide) dX3_readNumber_17 ?_
    refine tp_i (y := nI ((va_up nu sl (tl at9 - 48)) sl)) rfl ?_
    refine tp_i (show nI ((va_up nu sl (tl at9 - 48)) sl) = nI (tl at9 - 48) from by rw [va_up_self]) ?_
    refine lv_imul hx hb dX3_readNumber_18 ?_
    refine tp_i (pk_mul 10 (tl at9 - 48)) ?_
    refine lv_istore_n (lv' := [(2, .int (nI (10 * (tl at9 - 48)))), (0, .ref tx), (1, .int (nI sl))]) hx hb dX3_readNumber_19 rfl hl (by decide) rfl (fun ls hl => ?_)
    refine lv_aload_n hx hb dX3_readNumber_20 rfl (lv_at hl 1 rfl) ?_
    refine lv_iload_n hx hb dX3_readNumber_21 rfl (lv_at hl 2 rfl) ?_
    refine cV_i (As := [.int (nI sl)]) (rest := []) (cr := [(t0, aI cs 80 (tx_nf tl))]) (cw1 := [(tx, .inr (3, [.ref t0, .int (nI tz), .int (nI (at9 + 1)), .int (iI hz), .ref t1, .ref ht])), (t1, aI cs 4 (tx_nf (va_up nu sl (tl at9 - 48))))]) ⟨hx, hb, hml, hown, hts⟩ (c_X3_readDigit l D cs _ tx t0 tz (at9 + 1) hz t1 ht tl (va_up nu sl (tl at9 - 48)) sl (by first | assumption | omega) (by first | assumption | omega) (by first | assumption | omega) (by first | assumption | omega)) (cwV 1 hts gX3_readNumber_X3_readDigit rfl rfl rfl (by decide +kernel) ⟨Nat.le_of_ble_eq_true rfl, Nat.le_of_ble_eq_true rfl⟩) hK hP hD hS hA (((hR hS).app hP).sub [0, 1, 2] rfl) (dt_of hN [0, 1, 2] (by decide) rfl) [0, 1] rfl 1 rfl rfl rfl hl.1 rfl (Nat.le_of_ble_eq_true rfl) dX3_readNumber_22 ⟨Nat.le_of_ble_eq_true rfl, Nat.le_of_ble_eq_true rfl⟩ (fun _ => rfl) (fun _ => rfl) (fun r_3 u9 H locs hw_4 hP hD hS => ?_)
    have hP : va_P D vwCl [(tx, .inr (3, [.ref t0, .int (nI tz), .int (nI (tx_ad (tx_dg tl tz (at9 + 1)) (at9 + 1))), .int (iI hz), .ref t1, .ref ht])), (t1, aI cs 4 (tx_nf (tx_dn (tx_dg tl tz (at9 + 1)) (va_up nu sl (tl at9 - 48)) sl (tl (at9 + 1) - 48))))] H := hP
    have hD : va_D A [(tx, .inr (3, [.ref t0, .int (nI tz), .int (nI (tx_ad (tx_dg tl tz (at9 + 1)) (at9 + 1))), .int (iI hz), .ref t1, .ref ht])), (t1, aI cs 4 (tx_nf (tx_dn (tx_dg tl tz (at9 + 1)) (va_up nu sl (tl at9 - 48)) sl (tl (at9 + 1) - 48))))] := hD
    subst r_3
    refine bb_eq (b := tx_dg tl tz (at9 + 1)) (tgt := 38) hx hb rfl dX3_readNumber_25 (by decide) (fun c25 => ?_) (fun c25 => ?_)
    · rw [show tx_ad (tx_dg tl tz (at9 + 1)) (at9 + 1) = at9 + 1 from if_neg (by rw [c25]; decide)] at hP hD
      rw [show tx_dn (tx_dg tl tz (at9 + 1)) (va_up nu sl (tl at9 - 48)) sl (tl (at9 + 1) - 48) = va_up nu sl (tl at9 - 48) from if_neg (by rw [c25]; decide)] at hP hD
      have hP : va_P D vwCl [(tx, .inr (3, [.ref t0, .int (nI tz), .int (nI (at9 + 1)), .int (iI hz), .ref t1, .ref ht])), (t1, aI cs 4 (tx_nf (va_up nu sl (tl at9 - 48))))] H := hP
      have hD : va_D A [(tx, .inr (3, [.ref t0, .int (nI tz), .int (nI (at9 + 1)), .int (iI hz), .ref t1, .ref ht])), (t1, aI cs 4 (tx_nf (va_up nu sl (tl at9 - 48))))] := hD
      refine lv_iconst (v := 1) hx hb dX3_readNumber_38 (by decide) ?_
      have e8 : at9 + tx_nl tl tz at9 = at9 + 1 := by rw [tx_nl, if_pos c5, if_neg (by rw [c25]; decide)]
      have e9 : tx_dn (tx_dg tl tz at9) nu sl (tx_nv tl tz at9) = va_up nu sl (tl at9 - 48) := by rw [tx_dn, if_pos c5, tx_nv, if_neg (by rw [c25]; decide)]
      have hP : va_P D vwCl [(tx, .inr (3, [.ref t0, .int (nI tz), .int (nI (at9 + tx_nl tl tz at9)), .int (iI hz), .ref t1, .ref ht])), (t1, aI cs 4 (tx_nf (tx_dn (tx_dg tl tz at9) nu sl (tx_nv tl tz at9))))] H := by rw [e8, e9]; exact hP
      have hD : va_D A [(tx, .inr (3, [.ref t0, .int (nI tz), .int (nI (at9 + tx_nl tl tz at9)), .int (iI hz), .ref t1, .ref ht])), (t1, aI cs 4 (tx_nf (tx_dn (tx_dg tl tz at9) nu sl (tx_nv tl tz at9))))] := by rw [e8, e9]; exact hD
      exact rt_z hx hb hr rfl hlocks () (by rw [c5]; rfl) hP hD hS dX3_readNumber_39
    · rw [show tx_ad (tx_dg tl tz (at9 + 1)) (at9 + 1) = at9 + 1 + 1 from if_pos c25] at hP hD
      rw [show tx_dn (tx_dg tl tz (at9 + 1)) (va_up nu sl (tl at9 - 48)) sl (tl (at9 + 1) - 48) = va_up (va_up nu sl (tl at9 - 48)) sl (tl (at9 + 1) - 48) from if_pos c25] at hP hD
      have hP : va_P D vwCl [(tx, .inr (3, [.ref t0, .int (nI tz), .int (nI (at9 + 1 + 1)), .int (iI hz), .ref t1, .ref ht])), (t1, aI cs 4 (tx_nf (va_up (va_up nu sl (tl at9 - 48)) sl (tl (at9 + 1) - 48))))] H := hP
      have hD : va_D A [(tx, .inr (3, [.ref t0, .int (nI tz), .int (nI (at9 + 1 + 1)), .int (iI hz), .ref t1, .ref ht])), (t1, aI cs 4 (tx_nf (va_up (va_up nu sl (tl at9 - 48)) sl (tl (at9 + 1) - 48))))] := hD
      refine lv_aload_n hx hb dX3_readNumber_28 rfl (lv_at hl 1 rfl) ?_
      refine va_get (D := D) (ci := 3) (v := .ref t1) (C := RX3) (T := TX3) (N := 6) hx hb hts in_X3 hown hK hP 0 rfl rfl 4 (by decide) hf_25 (fun _ h9 => h9) rfl dX3_readNumber_29 ?_
      refine lv_iload_n hx hb dX3_readNumber_32 rfl (lv_at hl 2 rfl) ?_
      refine lv_dup2_11 hx hb dX3_readNumber_33 rfl rfl ?_
      refine ia_n (f := tx_nf (va_up (va_up nu sl (tl at9 - 48)) sl (tl (at9 + 1) - 48))) hx hb hK hP 1 0 rfl rfl (j := sl) rfl (by omega) (by decide) dX3_readNumber_34 ?_
      refine tp_i (y := nI ((va_up (va_up nu sl (tl at9 - 48)) sl (tl (at9 + 1) - 48)) sl)) rfl ?_
      refine tp_i (show nI ((va_up (va_up nu sl (tl at9 - 48)) sl (tl (at9 + 1) - 48)) sl) = nI (tl (at9 + 1) - 48) from by rw [va_up_self]) ?_
      refine lv_iload_n hx hb dX3_readNumber_35 rfl (lv_at hl 0 rfl) ?_
      refine lv_iadd hx hb dX3_readNumber_36 ?_
      refine tp_i (nI_add (tl (at9 + 1) - 48) (10 * (tl at9 - 48))) ?_
      refine is_n (f := tx_nf (va_up (va_up nu sl (tl at9 - 48)) sl (tl (at9 + 1) - 48))) hx hb hK hP hD hS 1 0 rfl rfl (j := sl) rfl (by omega) (by decide) dX3_readNumber_37 (fun H locs hP hD hS => ?_)
      rw [show upd (tx_nf (va_up (va_up nu sl (tl at9 - 48)) sl (tl (at9 + 1) - 48))) sl (nI ((tl (at9 + 1) - 48) + (10 * (tl at9 - 48)))) = tx_nf (va_up (va_up (va_up nu sl (tl at9 - 48)) sl (tl (at9 + 1) - 48)) sl ((tl (at9 + 1) - 48) + (10 * (tl at9 - 48)))) from nf_up _ _ _] at hP hD
      have hP : va_P D vwCl [(tx, .inr (3, [.ref t0, .int (nI tz), .int (nI (at9 + 1 + 1)), .int (iI hz), .ref t1, .ref ht])), (t1, aI cs 4 (tx_nf (va_up (va_up (va_up nu sl (tl at9 - 48)) sl (tl (at9 + 1) - 48)) sl ((tl (at9 + 1) - 48) + (10 * (tl at9 - 48))))))] H := hP
      have hD : va_D A [(tx, .inr (3, [.ref t0, .int (nI tz), .int (nI (at9 + 1 + 1)), .int (iI hz), .ref t1, .ref ht])), (t1, aI cs 4 (tx_nf (va_up (va_up (va_up nu sl (tl at9 - 48)) sl (tl (at9 + 1) - 48)) sl ((tl (at9 + 1) - 48) + (10 * (tl at9 - 48))))))] := hD
      refine lv_iconst (v := 1) hx hb dX3_readNumber_38 (by decide) ?_
      have e8 : at9 + tx_nl tl tz at9 = at9 + 1 + 1 := by rw [tx_nl, if_pos c5, if_pos c25]
      have e9 : tx_dn (tx_dg tl tz at9) nu sl (tx_nv tl tz at9) = va_up (va_up (va_up nu sl (tl at9 - 48)) sl (tl (at9 + 1) - 48)) sl (tl (at9 + 1) - 48 + 10 * (tl at9 - 48)) := by rw [tx_dn, if_pos c5, tx_nv, if_pos c25, tx_up_up, tx_up_up, Nat.add_comm]
      have hP : va_P D vwCl [(tx, .inr (3, [.ref t0, .int (nI tz), .int (nI (at9 + tx_nl tl tz at9)), .int (iI hz), .ref t1, .ref ht])), (t1, aI cs 4 (tx_nf (tx_dn (tx_dg tl tz at9) nu sl (tx_nv tl tz at9))))] H := by rw [e8, e9]; exact hP
      have hD : va_D A [(tx, .inr (3, [.ref t0, .int (nI tz), .int (nI (at9 + tx_nl tl tz at9)), .int (iI hz), .ref t1, .ref ht])), (t1, aI cs 4 (tx_nf (tx_dn (tx_dg tl tz at9) nu sl (tx_nv tl tz at9))))] := by rw [e8, e9]; exact hD
      exact rt_z hx hb hr rfl hlocks () (by rw [c5]; rfl) hP hD hS dX3_readNumber_39
  · rw [show tx_ad (tx_dg tl tz at9) at9 = at9 from if_neg (by rw [c5]; decide)] at hP hD
    rw [show tx_dn (tx_dg tl tz at9) nu sl (tl at9 - 48) = nu from if_neg (by rw [c5]; decide)] at hP hD
    have hP : va_P D vwCl [(tx, .inr (3, [.ref t0, .int (nI tz), .int (nI at9), .int (iI hz), .ref t1, .ref ht])), (t1, aI cs 4 (tx_nf nu))] H := hP
    have hD : va_D A [(tx, .inr (3, [.ref t0, .int (nI tz), .int (nI at9), .int (iI hz), .ref t1, .ref ht])), (t1, aI cs 4 (tx_nf nu))] := hD
    refine lv_iconst (v := 0) hx hb dX3_readNumber_8 (by decide) ?_
    have e8 : at9 + tx_nl tl tz at9 = at9 := by rw [(tx_nl_b tl tz at9).2.2 c5]; rfl
    have e9 : tx_dn (tx_dg tl tz at9) nu sl (tx_nv tl tz at9) = nu := by rw [tx_dn, if_neg (by rw [c5]; decide)]
    have hP : va_P D vwCl [(tx, .inr (3, [.ref t0, .int (nI tz), .int (nI (at9 + tx_nl tl tz at9)), .int (iI hz), .ref t1, .ref ht])), (t1, aI cs 4 (tx_nf (tx_dn (tx_dg tl tz at9) nu sl (tx_nv tl tz at9))))] H := by rw [e8, e9]; exact hP
    have hD : va_D A [(tx, .inr (3, [.ref t0, .int (nI tz), .int (nI (at9 + tx_nl tl tz at9)), .int (iI hz), .ref t1, .ref ht])), (t1, aI cs 4 (tx_nf (tx_dn (tx_dg tl tz at9) nu sl (tx_nv tl tz at9))))] := by rw [e8, e9]; exact hD
    exact rt_z hx hb hr rfl hlocks () (by rw [c5]; rfl) hP hD hS dX3_readNumber_9
set_option maxHeartbeats 4000000 in
set_option maxRecDepth 100000 in
theorem c_X3_readKind (l : Launch) (D : va_G) (cs : Nat → ClassId) (sz : Nat) (b0 : Nat) (sK : Nat) (sV : Nat) (tx : Nat) (t0 : Nat) (tz : Nat) (at9 : Nat) (hz : Int) (t1 : Nat) (ht : Nat) (tl : Nat → Nat) (nu : Nat → Nat) (htz : tz ≤ 80) (hat : at9 ≤ 100) (htl : ∀ e, tl e ≤ 255) (hb0 : b0 ≤ sz) (hbw0 : b0 ≤ tx) (hbw1 : b0 ≤ t1) : mIX (S := Unit) l yX3_readKind wsX3_readKind ({ frames := 4, cells := 0, slots := 0, locals := 91 } : Room) D (tyc cs) sz [.ref tx] [(t0, aI cs 80 (tx_nf tl))] [(tx, .inr (3, [.ref t0, .int (nI tz), .int (nI at9), .int (iI hz), .ref t1, .ref ht])), (t1, aI cs 4 (tx_nf nu))] (fun (r : Int32) (u : Unit) => r = bI (tx_kb tl tz at9)) (fun _ => [(tx, .inr (3, [.ref t0, .int (nI tz), .int (nI (tx_ad (tx_kb tl tz at9) at9)), .int (iI hz), .ref t1, .ref ht])), (t1, aI cs 4 (tx_nf (tx_dn (tx_kb tl tz at9) nu 0 (tx_ki (tl at9)).toNat)))]) 0 0 (tx_X b0 sK sV) := by
  unfold mIX
  refine Met.ofW (cc := cX3_readKind) (maxL := 3) (ret := (some .boolean)) (by decide) rfl ?_
  intro p e s m args below meth c s₁ B hml hv
  obtain ⟨rfl, hsz, hP, hK, hD0, hX⟩ := hv
  have hx := B.exec
  have hb := B.bytes
  have hr := B.returns
  have hts := atoms_spec (ws := wsX3_readKind) B.pre
  have hown : s.vm.findClass RX3 = some m.cls := findClass_of_methodNamed B.named
  have hlocks := B.notSynchronized
  subst hsz
  have hR := @en_R _ _ _ [(t0, aI cs 80 (tx_nf tl))] [(tx, .inr (3, [.ref t0, .int (nI tz), .int (nI at9), .int (iI hz), .ref t1, .ref ht])), (t1, aI cs 4 (tx_nf nu))] _ hP hD0
  have hN := adN_of hD0
  have hD := en_D (wr := [(t0, aI cs 80 (tx_nf tl))]) (ww := [(tx, .inr (3, [.ref t0, .int (nI tz), .int (nI at9), .int (iI hz), .ref t1, .ref ht])), (t1, aI cs 4 (tx_nf nu))]) (sz := s.heap.size) hD0
  have hP := en_P (wr := [(t0, aI cs 80 (tx_nf tl))]) (ww := [(tx, .inr (3, [.ref t0, .int (nI tz), .int (nI at9), .int (iI hz), .ref t1, .ref ht])), (t1, aI cs 4 (tx_nf nu))]) hP
  generalize hAe : va_A [(tx, .inr (3, [.ref t0, .int (nI tz), .int (nI at9), .int (iI hz), .ref t1, .ref ht])), (t1, aI cs 4 (tx_nf nu))] s.heap.size = A at hD hR ⊢
  have hA : ∀ q : Nat, s.heap.size ≤ q → A q := fun q h => by rw [← hAe]; exact Or.inr h
  have hS : va_S A s.heap s.heap [] := va_S.rf
  have hAX : ∀ q, A q → b0 ≤ q := by rw [← hAe]; exact tx_AX (List.forall_mem_cons.mpr ⟨hbw0, List.forall_mem_cons.mpr ⟨hbw1, fun _ h => absurd h List.not_mem_nil⟩⟩) hb0
  have hE := hX.1.narrow hAX
  have hZ := hX.2.1.narrow hAX
  have hN : adN [t0, tx, t1] := hN
  have hf_19 := hts (.fieldLink RX3 19 "TaxedByLongest$Text" "at" "I") (by decide +kernel)
  have hf_25 := hts (.fieldLink RX3 25 "TaxedByLongest$Text" "numbers" "[I") (by decide +kernel)
  have in_X3 : ∀ w ∈ wsX30, w ∈ wsX3_readKind := by decide +kernel
  have hl := lv_entry ([.ref tx]) (n := 3) (Nat.le_of_ble_eq_true rfl)
  rw [lg_entry_eq]
  generalize (lg_sl ([.ref tx]) ++ List.replicate (3 - (lg_sl ([.ref tx])).length) Slot.unset).toArray = ls at hl ⊢
  have hl : lv_has ls 3 [(0, .ref tx)] := hl
  refine lv_aload_n hx hb dX3_readKind_0 rfl (lv_at hl 0 rfl) ?_
  refine cV_i (As := []) (rest := []) (cr := [(tx, .inr (3, [.ref t0, .int (nI tz), .int (nI at9), .int (iI hz), .ref t1, .ref ht])), (t0, aI cs 80 (tx_nf tl))]) (cw1 := []) ⟨hx, hb, hml, hown, hts⟩ (c_X3_letterHere l D cs _ tx t0 tz at9 hz t1 ht tl (by first | assumption | omega) (by first | assumption | omega)) (cwV 0 hts gX3_readKind_X3_letterHere rfl rfl rfl (by decide +kernel) ⟨Nat.le_of_ble_eq_true rfl, Nat.le_of_ble_eq_true rfl⟩) hK hP hD hS hA (((hR hS).app hP).sub [1, 0] rfl) (dt_of hN [1, 0] (by decide) rfl) [] rfl 0 rfl rfl rfl hl.1 rfl (Nat.le_of_ble_eq_true rfl) dX3_readKind_1 ⟨Nat.le_of_ble_eq_true rfl, Nat.le_of_ble_eq_true rfl⟩ (fun _ => rfl) (fun _ => rfl) (fun r_1 u9 H locs hw_2 hP hD hS => ?_)
  have hP : va_P D vwCl [(tx, .inr (3, [.ref t0, .int (nI tz), .int (nI at9), .int (iI hz), .ref t1, .ref ht])), (t1, aI cs 4 (tx_nf nu))] H := hP
  have hD : va_D A [(tx, .inr (3, [.ref t0, .int (nI tz), .int (nI at9), .int (iI hz), .ref t1, .ref ht])), (t1, aI cs 4 (tx_nf nu))] := hD
  subst r_1
  refine lv_istore_n (lv' := [(1, .int (iI (tx_lt tl tz at9))), (0, .ref tx)]) hx hb dX3_readKind_4 rfl hl (by decide) rfl (fun ls hl => ?_)
  refine lv_iload_n hx hb dX3_readKind_5 rfl (lv_at hl 0 rfl) ?_
  have hlt := tx_lt_b htl tz at9
  refine bi0_ge (a := tx_lt tl tz at9) (tgt := 13) hx hb rfl (by omega) (by omega) dX3_readKind_6 (by decide) (fun c6 => ?_) (fun c6 => ?_)
  · have hin := tx_lt_in (tl := tl) (tz := tz) (a := at9) c6
    have hc9 := htl at9
    rw [show iI (tx_lt tl tz at9) = nI (tl at9) from by rw [hin.2, ← nI_iI]] at hl
    have hl : lv_has ls 3 [(1, .int (nI (tl at9))), (0, .ref tx)] := hl
    refine va_ldcS hx hb hown hX.2.2.1 dX3_readKind_13 ?_
    refine lv_iload_n hx hb dX3_readKind_15 rfl (lv_at hl 0 rfl) ?_
    refine lv_i2c (v := nI (tl at9)) hx hb dX3_readKind_16 (sb_byte _ (by omega)).2.1 ?_
    refine cVX_i (As := [.int (nI (tl at9))]) (rest := []) (cr := []) (cw1 := []) ⟨hx, hb, hml, hown, hts⟩ (c_J0_indexOf_0f7a4 l D cs _ b0 sK sV (tl at9) (by first | assumption | omega) (Nat.le_trans hb0 hS.1)) (cwV 1 hts gX3_readKind_J0_indexOf_0f7a4 rfl rfl rfl (by decide +kernel) ⟨Nat.le_of_ble_eq_true rfl, Nat.le_of_ble_eq_true rfl⟩) hK hP hD hS hA (((hR hS).app hP).sub [] rfl) (dt_of hN [] (by decide) rfl) [] rfl hX hAX (vk_recv hE (i := 0) (by decide) hS) rfl hl.1 rfl (Nat.le_of_ble_eq_true rfl) dX3_readKind_17 ⟨Nat.le_of_ble_eq_true rfl, Nat.le_of_ble_eq_true rfl⟩ (fun _ => rfl) (fun _ => rfl) (fun r_3 u9 H locs hw_4 hP hD hS => ?_)
    have hP : va_P D vwCl [(tx, .inr (3, [.ref t0, .int (nI tz), .int (nI at9), .int (iI hz), .ref t1, .ref ht])), (t1, aI cs 4 (tx_nf nu))] H := hP
    have hD : va_D A [(tx, .inr (3, [.ref t0, .int (nI tz), .int (nI at9), .int (iI hz), .ref t1, .ref ht])), (t1, aI cs 4 (tx_nf nu))] := hD
    subst r_3
    refine lv_istore_n (lv' := [(2, .int (iI (tx_ki (tl at9)))), (1, .int (nI (tl at9))), (0, .ref tx)]) hx hb dX3_readKind_20 rfl hl (by decide) rfl (fun ls hl => ?_)
    refine lv_iload_n hx hb dX3_readKind_21 rfl (lv_at hl 0 rfl) ?_
    have hkb := tx_ki_b (tl at9)
    refine bi0_ge (a := tx_ki (tl at9)) (tgt := 27) hx hb rfl (by omega) (by omega) dX3_readKind_22 (by decide) (fun c22 => ?_) (fun c22 => ?_)
    · refine lv_aload_n hx hb dX3_readKind_27 rfl (lv_at hl 2 rfl) ?_
      refine va_get (D := D) (ci := 3) (v := .ref t1) (C := RX3) (T := TX3) (N := 6) hx hb hts in_X3 hown hK hP 0 rfl rfl 4 (by decide) hf_25 (fun _ h9 => h9) rfl dX3_readKind_28 ?_
      refine lv_iconst (v := 0) hx hb dX3_readKind_31 (by decide) ?_
      refine lv_iload_n hx hb dX3_readKind_32 rfl (lv_at hl 0 rfl) ?_
      refine tp_i (show iI (tx_ki (tl at9)) = nI ((tx_ki (tl at9)).toNat) from by rw [nI_iI]; congr 1; omega) ?_
      refine is_n (f := tx_nf nu) hx hb hK hP hD hS 1 0 rfl rfl (j := 0) rfl (by decide) (by decide) dX3_readKind_33 (fun H locs hP hD hS => ?_)
      rw [show upd (tx_nf nu) 0 (nI ((tx_ki (tl at9)).toNat)) = tx_nf (va_up nu 0 ((tx_ki (tl at9)).toNat)) from nf_up _ _ _] at hP hD
      have hP : va_P D vwCl [(tx, .inr (3, [.ref t0, .int (nI tz), .int (nI at9), .int (iI hz), .ref t1, .ref ht])), (t1, aI cs 4 (tx_nf (va_up nu 0 ((tx_ki (tl at9)).toNat))))] H := hP
      have hD : va_D A [(tx, .inr (3, [.ref t0, .int (nI tz), .int (nI at9), .int (iI hz), .ref t1, .ref ht])), (t1, aI cs 4 (tx_nf (va_up nu 0 ((tx_ki (tl at9)).toNat))))] := hD
      refine lv_aload_n hx hb dX3_readKind_34 rfl (lv_at hl 2 rfl) ?_
      refine lv_dup hx hb dX3_readKind_35 rfl ?_
      refine va_get (D := D) (ci := 3) (v := .int (nI at9)) (C := RX3) (T := TX3) (N := 6) hx hb hts in_X3 hown hK hP 0 rfl rfl 2 (by decide) hf_19 (fun _ h9 => h9) rfl dX3_readKind_36 ?_
      refine lv_iconst (v := 1) hx hb dX3_readKind_39 (by decide) ?_
      refine lv_iadd hx hb dX3_readKind_40 ?_
      refine tp_i (nI_add at9 1) ?_
      refine va_put (D := D) (ci := 3) (v := .int (nI (at9 + 1))) (ty := .int) (C := RX3) (T := TX3) (N := 6) hx hb hts in_X3 tyX3 tyX3_ok nmX3 hown hK hP hD hS 0 rfl rfl 2 (by decide) hf_19 (fun _ h9 => h9) rfl (by decide +kernel) rfl rfl (Nat.le_of_ble_eq_true rfl) dX3_readKind_41 (fun H locs hP hD hS => ?_)
      have hP : va_P D vwCl [(tx, .inr (3, [.ref t0, .int (nI tz), .int (nI (at9 + 1)), .int (iI hz), .ref t1, .ref ht])), (t1, aI cs 4 (tx_nf (va_up nu 0 ((tx_ki (tl at9)).toNat))))] H := hP
      have hD : va_D A [(tx, .inr (3, [.ref t0, .int (nI tz), .int (nI (at9 + 1)), .int (iI hz), .ref t1, .ref ht])), (t1, aI cs 4 (tx_nf (va_up nu 0 ((tx_ki (tl at9)).toNat))))] := hD
      refine lv_iconst (v := 1) hx hb dX3_readKind_44 (by decide) ?_
      have hsg : tx_kb tl tz at9 = true := decide_eq_true ⟨hin.1, c22⟩
      have e8 : tx_ad (tx_kb tl tz at9) at9 = at9 + 1 := by rw [hsg]; rfl
      have e9 : tx_dn (tx_kb tl tz at9) nu 0 (tx_ki (tl at9)).toNat = va_up nu 0 (tx_ki (tl at9)).toNat := by rw [hsg]; rfl
      have hP : va_P D vwCl [(tx, .inr (3, [.ref t0, .int (nI tz), .int (nI (tx_ad (tx_kb tl tz at9) at9)), .int (iI hz), .ref t1, .ref ht])), (t1, aI cs 4 (tx_nf (tx_dn (tx_kb tl tz at9) nu 0 (tx_ki (tl at9)).toNat)))] H := by rw [e8, e9]; exact hP
      have hD : va_D A [(tx, .inr (3, [.ref t0, .int (nI tz), .int (nI (tx_ad (tx_kb tl tz at9) at9)), .int (iI hz), .ref t1, .ref ht])), (t1, aI cs 4 (tx_nf (tx_dn (tx_kb tl tz at9) nu 0 (tx_ki (tl at9)).toNat)))] := by rw [e8, e9]; exact hD
      exact rt_z hx hb hr rfl hlocks () (by rw [hsg]; rfl) hP hD hS dX3_readKind_45
    · refine lv_iconst (v := 0) hx hb dX3_readKind_25 (by decide) ?_
      have hsg : tx_kb tl tz at9 = false := decide_eq_false (fun q => by omega)
      have e8 : tx_ad (tx_kb tl tz at9) at9 = at9 := by rw [hsg]; rfl
      have e9 : tx_dn (tx_kb tl tz at9) nu 0 (tx_ki (tl at9)).toNat = nu := by rw [hsg]; rfl
      have hP : va_P D vwCl [(tx, .inr (3, [.ref t0, .int (nI tz), .int (nI (tx_ad (tx_kb tl tz at9) at9)), .int (iI hz), .ref t1, .ref ht])), (t1, aI cs 4 (tx_nf (tx_dn (tx_kb tl tz at9) nu 0 (tx_ki (tl at9)).toNat)))] H := by rw [e8, e9]; exact hP
      have hD : va_D A [(tx, .inr (3, [.ref t0, .int (nI tz), .int (nI (tx_ad (tx_kb tl tz at9) at9)), .int (iI hz), .ref t1, .ref ht])), (t1, aI cs 4 (tx_nf (tx_dn (tx_kb tl tz at9) nu 0 (tx_ki (tl at9)).toNat)))] := by rw [e8, e9]; exact hD
      exact rt_z hx hb hr rfl hlocks () (by rw [hsg]; rfl) hP hD hS dX3_readKind_26
  · refine lv_iconst (v := (-1)) hx hb dX3_readKind_9 (by decide) ?_
    refine lv_goto (tgt := 20) hx hb dX3_readKind_10 (by decide) ?_
    refine lv_istore_n (lv' := [(2, .int (-1)), (1, .int (iI (tx_lt tl tz at9))), (0, .ref tx)]) hx hb dX3_readKind_20 rfl hl (by decide) rfl (fun ls hl => ?_)
    refine lv_iload_n hx hb dX3_readKind_21 rfl (lv_at hl 0 rfl) ?_
    refine bi0_ge (a := (-1)) (tgt := 27) hx hb (by decide) (by omega) (by omega) dX3_readKind_22 (by decide) (fun c22 => ?_) (fun c22 => ?_)
    · exfalso; omega
    · refine lv_iconst (v := 0) hx hb dX3_readKind_25 (by decide) ?_
      have hsg : tx_kb tl tz at9 = false := decide_eq_false (fun q => by have := tx_lt_p (tl := tl) q.1; omega)
      have e8 : tx_ad (tx_kb tl tz at9) at9 = at9 := by rw [hsg]; rfl
      have e9 : tx_dn (tx_kb tl tz at9) nu 0 (tx_ki (tl at9)).toNat = nu := by rw [hsg]; rfl
      have hP : va_P D vwCl [(tx, .inr (3, [.ref t0, .int (nI tz), .int (nI (tx_ad (tx_kb tl tz at9) at9)), .int (iI hz), .ref t1, .ref ht])), (t1, aI cs 4 (tx_nf (tx_dn (tx_kb tl tz at9) nu 0 (tx_ki (tl at9)).toNat)))] H := by rw [e8, e9]; exact hP
      have hD : va_D A [(tx, .inr (3, [.ref t0, .int (nI tz), .int (nI (tx_ad (tx_kb tl tz at9) at9)), .int (iI hz), .ref t1, .ref ht])), (t1, aI cs 4 (tx_nf (tx_dn (tx_kb tl tz at9) nu 0 (tx_ki (tl at9)).toNat)))] := by rw [e8, e9]; exact hD
      exact rt_z hx hb hr rfl hlocks () (by rw [hsg]; rfl) hP hD hS dX3_readKind_26
