set_option maxHeartbeats 4000000 in
set_option maxRecDepth 100000 in
theorem c_X4_init (l : Launch) (D : va_G) (cs : Nat → ClassId) (sz : Nat) (h : Nat)  : mVX (S := Nat × Nat × Nat × Nat × Nat × Nat) l yX4_init wsX4_init ({ frames := 1, cells := 6, slots := 56, locals := 23 } : Room) D (tyc cs) sz [.ref h] [] [(h, .inr (4, [.null, .null, .null, .null, .null, .null, .int 0, .int 0, .int 0, .int 0]))] (fun (u : Nat × Nat × Nat × Nat × Nat × Nat) => match u with | (w0, w1, w2, w3, w4, w5) => True) (fun (u : Nat × Nat × Nat × Nat × Nat × Nat) => match u with | (w0, w1, w2, w3, w4, w5) => [(h, .inr (4, [.ref w0, .ref w1, .ref w2, .ref w3, .ref w4, .ref w5, .int 0, .int 10, .int 1, .int 0])), (w0, aI cs 4 (fun _ => 0)), (w1, aI cs 4 (fun _ => 0)), (w2, aI cs 4 (fun _ => 0)), (w3, aI cs 4 (fun _ => 0)), (w4, aI cs 20 (fun _ => 0)), (w5, aI cs 20 (fun _ => -9))]) 6 56 tx_Y := by
  unfold mVX
  refine Met.ofW (cc := cX4_init) (maxL := 1) (ret := none) (by decide) rfl ?_
  intro p e s m args below meth c s₁ B hml hv
  obtain ⟨rfl, hsz, hP, hK, hD0, hX⟩ := hv
  have hin : meth.name = "<init>" := (name_of_methodNamed B.named B.method).1
  have hx := B.exec
  have hb := B.bytes
  have hr := B.returns
  have hts := atoms_spec (ws := wsX4_init) B.pre
  have hown : s.vm.findClass RX4 = some m.cls := findClass_of_methodNamed B.named
  have hlocks := B.notSynchronized
  subst hsz
  have hR := @en_R _ _ _ [] [(h, .inr (4, [.null, .null, .null, .null, .null, .null, .int 0, .int 0, .int 0, .int 0]))] _ hP hD0
  have hN := adN_of hD0
  have hD := en_D (wr := []) (ww := [(h, .inr (4, [.null, .null, .null, .null, .null, .null, .int 0, .int 0, .int 0, .int 0]))]) (sz := s.heap.size) hD0
  have hP := en_P (wr := []) (ww := [(h, .inr (4, [.null, .null, .null, .null, .null, .null, .int 0, .int 0, .int 0, .int 0]))]) hP
  generalize hAe : va_A [(h, .inr (4, [.null, .null, .null, .null, .null, .null, .int 0, .int 0, .int 0, .int 0]))] s.heap.size = A at hD hR ⊢
  have hA : ∀ q : Nat, s.heap.size ≤ q → A q := fun q h => by rw [← hAe]; exact Or.inr h
  have hS : va_S A s.heap s.heap [] := va_S.rf
  have hN : adN [h] := hN
  have hf_9 := hts (.fieldLink RX4 9 "TaxedByLongest$Told" "kinds" "[I") (by decide +kernel)
  have hf_15 := hts (.fieldLink RX4 15 "TaxedByLongest$Told" "worths" "[I") (by decide +kernel)
  have hf_18 := hts (.fieldLink RX4 18 "TaxedByLongest$Told" "habits" "[I") (by decide +kernel)
  have hf_21 := hts (.fieldLink RX4 21 "TaxedByLongest$Told" "wearies" "[I") (by decide +kernel)
  have hf_24 := hts (.fieldLink RX4 24 "TaxedByLongest$Told" "done" "[I") (by decide +kernel)
  have hf_27 := hts (.fieldLink RX4 27 "TaxedByLongest$Told" "bound" "[I") (by decide +kernel)
  have hf_30 := hts (.fieldLink RX4 30 "TaxedByLongest$Told" "things" "I") (by decide +kernel)
  have hf_34 := hts (.fieldLink RX4 34 "TaxedByLongest$Told" "days" "I") (by decide +kernel)
  have hf_37 := hts (.fieldLink RX4 37 "TaxedByLongest$Told" "change" "I") (by decide +kernel)
  have hf_40 := hts (.fieldLink RX4 40 "TaxedByLongest$Told" "law" "I") (by decide +kernel)
  have in_X4 : ∀ w ∈ wsX40, w ∈ wsX4_init := by decide +kernel
  have hl := lv_entry ([.ref h]) (n := 1) (Nat.le_of_ble_eq_true rfl)
  rw [lg_entry_eq]
  generalize (lg_sl ([.ref h]) ++ List.replicate (1 - (lg_sl ([.ref h])).length) Slot.unset).toArray = ls at hl ⊢
  have hl : lv_has ls 1 [(0, .ref h)] := hl
  refine lv_aload_n hx hb dX4_init_0 rfl (lv_at hl 0 rfl) ?_
  refine W.objInit hx hb hown (hts (.methodLink RX4 3 objectInit) (by decide +kernel)) (hts (.instanceMethod objectInit) (by decide +kernel)) (hts (.code objectInit ⟨#[0xb1]⟩ 1 none) (by decide +kernel)) rfl (by rw [hml]; exact hl.1) rfl dX4_init_1 (Nat.le_of_ble_eq_true rfl) (Nat.le_of_ble_eq_true rfl) ?_
  refine W.eq (g2 := F0 m 4 ls []) rfl ?_
  refine lv_aload_n hx hb dX4_init_4 rfl (lv_at hl 0 rfl) ?_
  refine lv_iconst (v := 4) hx hb dX4_init_5 (by decide) ?_
  refine na_n (atype := .int) (ty := .int) hx hb (hts (.arrayClass .int) (by decide +kernel)) rfl 0 rfl hK hP hD hS hA (a0 := (4, .inl (fun _ => 0))) (fun _ => rfl) (by decide) (by decide) (by decide) (Nat.le_of_ble_eq_true rfl) (Nat.le_of_ble_eq_true rfl) dX4_init_6 (fun q101 H hP hD hS => ?_)
  have hP : va_P D vwCl [(h, .inr (4, [.null, .null, .null, .null, .null, .null, .int 0, .int 0, .int 0, .int 0])), (q101, aI cs 4 (fun _ => 0))] H := hP
  have hD : va_D A [(h, .inr (4, [.null, .null, .null, .null, .null, .null, .int 0, .int 0, .int 0, .int 0])), (q101, aI cs 4 (fun _ => 0))] := hD
  refine va_putF (D := D) (ci := 4) (v := .ref q101) (ty := (.array .int)) (C := RX4) (T := TX4) (N := 10) hx hb hts in_X4 tyX4 tyX4_ok nmX4 hown hK hP hD hS 0 rfl rfl 0 (by decide) hf_9 (fun _ h9 => h9) rfl hin rfl (by decide +kernel) rfl rfl (Nat.le_of_ble_eq_true rfl) dX4_init_8 (fun H locs hP hD hS => ?_)
  have hP : va_P D vwCl [(h, .inr (4, [.ref q101, .null, .null, .null, .null, .null, .int 0, .int 0, .int 0, .int 0])), (q101, aI cs 4 (fun _ => 0))] H := hP
  have hD : va_D A [(h, .inr (4, [.ref q101, .null, .null, .null, .null, .null, .int 0, .int 0, .int 0, .int 0])), (q101, aI cs 4 (fun _ => 0))] := hD
  refine lv_aload_n hx hb dX4_init_11 rfl (lv_at hl 0 rfl) ?_
  refine lv_iconst (v := 4) hx hb dX4_init_12 (by decide) ?_
  refine na_n (atype := .int) (ty := .int) hx hb (hts (.arrayClass .int) (by decide +kernel)) rfl 0 rfl hK hP hD hS hA (a0 := (4, .inl (fun _ => 0))) (fun _ => rfl) (by decide) (by decide) (by decide) (Nat.le_of_ble_eq_true rfl) (Nat.le_of_ble_eq_true rfl) dX4_init_13 (fun q102 H hP hD hS => ?_)
  have hP : va_P D vwCl [(h, .inr (4, [.ref q101, .null, .null, .null, .null, .null, .int 0, .int 0, .int 0, .int 0])), (q101, aI cs 4 (fun _ => 0)), (q102, aI cs 4 (fun _ => 0))] H := hP
  have hD : va_D A [(h, .inr (4, [.ref q101, .null, .null, .null, .null, .null, .int 0, .int 0, .int 0, .int 0])), (q101, aI cs 4 (fun _ => 0)), (q102, aI cs 4 (fun _ => 0))] := hD
  refine va_putF (D := D) (ci := 4) (v := .ref q102) (ty := (.array .int)) (C := RX4) (T := TX4) (N := 10) hx hb hts in_X4 tyX4 tyX4_ok nmX4 hown hK hP hD hS 0 rfl rfl 1 (by decide) hf_15 (fun _ h9 => h9) rfl hin rfl (by decide +kernel) rfl rfl (Nat.le_of_ble_eq_true rfl) dX4_init_15 (fun H locs hP hD hS => ?_)
  have hP : va_P D vwCl [(h, .inr (4, [.ref q101, .ref q102, .null, .null, .null, .null, .int 0, .int 0, .int 0, .int 0])), (q101, aI cs 4 (fun _ => 0)), (q102, aI cs 4 (fun _ => 0))] H := hP
  have hD : va_D A [(h, .inr (4, [.ref q101, .ref q102, .null, .null, .null, .null, .int 0, .int 0, .int 0, .int 0])), (q101, aI cs 4 (fun _ => 0)), (q102, aI cs 4 (fun _ => 0))] := hD
  refine lv_aload_n hx hb dX4_init_18 rfl (lv_at hl 0 rfl) ?_
  refine lv_iconst (v := 4) hx hb dX4_init_19 (by decide) ?_
  refine na_n (atype := .int) (ty := .int) hx hb (hts (.arrayClass .int) (by decide +kernel)) rfl 0 rfl hK hP hD hS hA (a0 := (4, .inl (fun _ => 0))) (fun _ => rfl) (by decide) (by decide) (by decide) (Nat.le_of_ble_eq_true rfl) (Nat.le_of_ble_eq_true rfl) dX4_init_20 (fun q103 H hP hD hS => ?_)
  have hP : va_P D vwCl [(h, .inr (4, [.ref q101, .ref q102, .null, .null, .null, .null, .int 0, .int 0, .int 0, .int 0])), (q101, aI cs 4 (fun _ => 0)), (q102, aI cs 4 (fun _ => 0)), (q103, aI cs 4 (fun _ => 0))] H := hP
  have hD : va_D A [(h, .inr (4, [.ref q101, .ref q102, .null, .null, .null, .null, .int 0, .int 0, .int 0, .int 0])), (q101, aI cs 4 (fun _ => 0)), (q102, aI cs 4 (fun _ => 0)), (q103, aI cs 4 (fun _ => 0))] := hD
  refine va_putF (D := D) (ci := 4) (v := .ref q103) (ty := (.array .int)) (C := RX4) (T := TX4) (N := 10) hx hb hts in_X4 tyX4 tyX4_ok nmX4 hown hK hP hD hS 0 rfl rfl 2 (by decide) hf_18 (fun _ h9 => h9) rfl hin rfl (by decide +kernel) rfl rfl (Nat.le_of_ble_eq_true rfl) dX4_init_22 (fun H locs hP hD hS => ?_)
  have hP : va_P D vwCl [(h, .inr (4, [.ref q101, .ref q102, .ref q103, .null, .null, .null, .int 0, .int 0, .int 0, .int 0])), (q101, aI cs 4 (fun _ => 0)), (q102, aI cs 4 (fun _ => 0)), (q103, aI cs 4 (fun _ => 0))] H := hP
  have hD : va_D A [(h, .inr (4, [.ref q101, .ref q102, .ref q103, .null, .null, .null, .int 0, .int 0, .int 0, .int 0])), (q101, aI cs 4 (fun _ => 0)), (q102, aI cs 4 (fun _ => 0)), (q103, aI cs 4 (fun _ => 0))] := hD
  refine lv_aload_n hx hb dX4_init_25 rfl (lv_at hl 0 rfl) ?_
  refine lv_iconst (v := 4) hx hb dX4_init_26 (by decide) ?_
  refine na_n (atype := .int) (ty := .int) hx hb (hts (.arrayClass .int) (by decide +kernel)) rfl 0 rfl hK hP hD hS hA (a0 := (4, .inl (fun _ => 0))) (fun _ => rfl) (by decide) (by decide) (by decide) (Nat.le_of_ble_eq_true rfl) (Nat.le_of_ble_eq_true rfl) dX4_init_27 (fun q104 H hP hD hS => ?_)
  have hP : va_P D vwCl [(h, .inr (4, [.ref q101, .ref q102, .ref q103, .null, .null, .null, .int 0, .int 0, .int 0, .int 0])), (q101, aI cs 4 (fun _ => 0)), (q102, aI cs 4 (fun _ => 0)), (q103, aI cs 4 (fun _ => 0)), (q104, aI cs 4 (fun _ => 0))] H := hP
  have hD : va_D A [(h, .inr (4, [.ref q101, .ref q102, .ref q103, .null, .null, .null, .int 0, .int 0, .int 0, .int 0])), (q101, aI cs 4 (fun _ => 0)), (q102, aI cs 4 (fun _ => 0)), (q103, aI cs 4 (fun _ => 0)), (q104, aI cs 4 (fun _ => 0))] := hD
  refine va_putF (D := D) (ci := 4) (v := .ref q104) (ty := (.array .int)) (C := RX4) (T := TX4) (N := 10) hx hb hts in_X4 tyX4 tyX4_ok nmX4 hown hK hP hD hS 0 rfl rfl 3 (by decide) hf_21 (fun _ h9 => h9) rfl hin rfl (by decide +kernel) rfl rfl (Nat.le_of_ble_eq_true rfl) dX4_init_29 (fun H locs hP hD hS => ?_)
  have hP : va_P D vwCl [(h, .inr (4, [.ref q101, .ref q102, .ref q103, .ref q104, .null, .null, .int 0, .int 0, .int 0, .int 0])), (q101, aI cs 4 (fun _ => 0)), (q102, aI cs 4 (fun _ => 0)), (q103, aI cs 4 (fun _ => 0)), (q104, aI cs 4 (fun _ => 0))] H := hP
  have hD : va_D A [(h, .inr (4, [.ref q101, .ref q102, .ref q103, .ref q104, .null, .null, .int 0, .int 0, .int 0, .int 0])), (q101, aI cs 4 (fun _ => 0)), (q102, aI cs 4 (fun _ => 0)), (q103, aI cs 4 (fun _ => 0)), (q104, aI cs 4 (fun _ => 0))] := hD
  refine lv_aload_n hx hb dX4_init_32 rfl (lv_at hl 0 rfl) ?_
  refine lv_bipush (v := 20) hx hb dX4_init_33 (by decide) ?_
  refine na_n (atype := .int) (ty := .int) hx hb (hts (.arrayClass .int) (by decide +kernel)) rfl 0 rfl hK hP hD hS hA (a0 := (20, .inl (fun _ => 0))) (fun _ => rfl) (by decide) (by decide) (by decide) (Nat.le_of_ble_eq_true rfl) (Nat.le_of_ble_eq_true rfl) dX4_init_35 (fun q105 H hP hD hS => ?_)
  have hP : va_P D vwCl [(h, .inr (4, [.ref q101, .ref q102, .ref q103, .ref q104, .null, .null, .int 0, .int 0, .int 0, .int 0])), (q101, aI cs 4 (fun _ => 0)), (q102, aI cs 4 (fun _ => 0)), (q103, aI cs 4 (fun _ => 0)), (q104, aI cs 4 (fun _ => 0)), (q105, aI cs 20 (fun _ => 0))] H := hP
  have hD : va_D A [(h, .inr (4, [.ref q101, .ref q102, .ref q103, .ref q104, .null, .null, .int 0, .int 0, .int 0, .int 0])), (q101, aI cs 4 (fun _ => 0)), (q102, aI cs 4 (fun _ => 0)), (q103, aI cs 4 (fun _ => 0)), (q104, aI cs 4 (fun _ => 0)), (q105, aI cs 20 (fun _ => 0))] := hD
  refine va_putF (D := D) (ci := 4) (v := .ref q105) (ty := (.array .int)) (C := RX4) (T := TX4) (N := 10) hx hb hts in_X4 tyX4 tyX4_ok nmX4 hown hK hP hD hS 0 rfl rfl 4 (by decide) hf_24 (fun _ h9 => h9) rfl hin rfl (by decide +kernel) rfl rfl (Nat.le_of_ble_eq_true rfl) dX4_init_37 (fun H locs hP hD hS => ?_)
  have hP : va_P D vwCl [(h, .inr (4, [.ref q101, .ref q102, .ref q103, .ref q104, .ref q105, .null, .int 0, .int 0, .int 0, .int 0])), (q101, aI cs 4 (fun _ => 0)), (q102, aI cs 4 (fun _ => 0)), (q103, aI cs 4 (fun _ => 0)), (q104, aI cs 4 (fun _ => 0)), (q105, aI cs 20 (fun _ => 0))] H := hP
  have hD : va_D A [(h, .inr (4, [.ref q101, .ref q102, .ref q103, .ref q104, .ref q105, .null, .int 0, .int 0, .int 0, .int 0])), (q101, aI cs 4 (fun _ => 0)), (q102, aI cs 4 (fun _ => 0)), (q103, aI cs 4 (fun _ => 0)), (q104, aI cs 4 (fun _ => 0)), (q105, aI cs 20 (fun _ => 0))] := hD
  refine lv_aload_n hx hb dX4_init_40 rfl (lv_at hl 0 rfl) ?_
  refine lv_bipush (v := 20) hx hb dX4_init_41 (by decide) ?_
  refine na_n (atype := .int) (ty := .int) hx hb (hts (.arrayClass .int) (by decide +kernel)) rfl 0 rfl hK hP hD hS hA (a0 := (20, .inl (fun _ => 0))) (fun _ => rfl) (by decide) (by decide) (by decide) (Nat.le_of_ble_eq_true rfl) (Nat.le_of_ble_eq_true rfl) dX4_init_43 (fun q106 H hP hD hS => ?_)
  have hP : va_P D vwCl [(h, .inr (4, [.ref q101, .ref q102, .ref q103, .ref q104, .ref q105, .null, .int 0, .int 0, .int 0, .int 0])), (q101, aI cs 4 (fun _ => 0)), (q102, aI cs 4 (fun _ => 0)), (q103, aI cs 4 (fun _ => 0)), (q104, aI cs 4 (fun _ => 0)), (q105, aI cs 20 (fun _ => 0)), (q106, aI cs 20 (fun _ => 0))] H := hP
  have hD : va_D A [(h, .inr (4, [.ref q101, .ref q102, .ref q103, .ref q104, .ref q105, .null, .int 0, .int 0, .int 0, .int 0])), (q101, aI cs 4 (fun _ => 0)), (q102, aI cs 4 (fun _ => 0)), (q103, aI cs 4 (fun _ => 0)), (q104, aI cs 4 (fun _ => 0)), (q105, aI cs 20 (fun _ => 0)), (q106, aI cs 20 (fun _ => 0))] := hD
  refine va_putF (D := D) (ci := 4) (v := .ref q106) (ty := (.array .int)) (C := RX4) (T := TX4) (N := 10) hx hb hts in_X4 tyX4 tyX4_ok nmX4 hown hK hP hD hS 0 rfl rfl 5 (by decide) hf_27 (fun _ h9 => h9) rfl hin rfl (by decide +kernel) rfl rfl (Nat.le_of_ble_eq_true rfl) dX4_init_45 (fun H locs hP hD hS => ?_)
  have hP : va_P D vwCl [(h, .inr (4, [.ref q101, .ref q102, .ref q103, .ref q104, .ref q105, .ref q106, .int 0, .int 0, .int 0, .int 0])), (q101, aI cs 4 (fun _ => 0)), (q102, aI cs 4 (fun _ => 0)), (q103, aI cs 4 (fun _ => 0)), (q104, aI cs 4 (fun _ => 0)), (q105, aI cs 20 (fun _ => 0)), (q106, aI cs 20 (fun _ => 0))] H := hP
  have hD : va_D A [(h, .inr (4, [.ref q101, .ref q102, .ref q103, .ref q104, .ref q105, .ref q106, .int 0, .int 0, .int 0, .int 0])), (q101, aI cs 4 (fun _ => 0)), (q102, aI cs 4 (fun _ => 0)), (q103, aI cs 4 (fun _ => 0)), (q104, aI cs 4 (fun _ => 0)), (q105, aI cs 20 (fun _ => 0)), (q106, aI cs 20 (fun _ => 0))] := hD
  refine lv_aload_n hx hb dX4_init_48 rfl (lv_at hl 0 rfl) ?_
  refine lv_iconst (v := 0) hx hb dX4_init_49 (by decide) ?_
  refine va_put (D := D) (ci := 4) (v := .int 0) (ty := .int) (C := RX4) (T := TX4) (N := 10) hx hb hts in_X4 tyX4 tyX4_ok nmX4 hown hK hP hD hS 0 rfl rfl 6 (by decide) hf_30 (fun _ h9 => h9) rfl (by decide +kernel) rfl rfl (Nat.le_of_ble_eq_true rfl) dX4_init_50 (fun H locs hP hD hS => ?_)
  have hP : va_P D vwCl [(h, .inr (4, [.ref q101, .ref q102, .ref q103, .ref q104, .ref q105, .ref q106, .int 0, .int 0, .int 0, .int 0])), (q101, aI cs 4 (fun _ => 0)), (q102, aI cs 4 (fun _ => 0)), (q103, aI cs 4 (fun _ => 0)), (q104, aI cs 4 (fun _ => 0)), (q105, aI cs 20 (fun _ => 0)), (q106, aI cs 20 (fun _ => 0))] H := hP
  have hD : va_D A [(h, .inr (4, [.ref q101, .ref q102, .ref q103, .ref q104, .ref q105, .ref q106, .int 0, .int 0, .int 0, .int 0])), (q101, aI cs 4 (fun _ => 0)), (q102, aI cs 4 (fun _ => 0)), (q103, aI cs 4 (fun _ => 0)), (q104, aI cs 4 (fun _ => 0)), (q105, aI cs 20 (fun _ => 0)), (q106, aI cs 20 (fun _ => 0))] := hD
  refine lv_aload_n hx hb dX4_init_53 rfl (lv_at hl 0 rfl) ?_
  refine lv_bipush (v := 10) hx hb dX4_init_54 (by decide) ?_
  refine va_put (D := D) (ci := 4) (v := .int 10) (ty := .int) (C := RX4) (T := TX4) (N := 10) hx hb hts in_X4 tyX4 tyX4_ok nmX4 hown hK hP hD hS 0 rfl rfl 7 (by decide) hf_34 (fun _ h9 => h9) rfl (by decide +kernel) rfl rfl (Nat.le_of_ble_eq_true rfl) dX4_init_56 (fun H locs hP hD hS => ?_)
  have hP : va_P D vwCl [(h, .inr (4, [.ref q101, .ref q102, .ref q103, .ref q104, .ref q105, .ref q106, .int 0, .int 10, .int 0, .int 0])), (q101, aI cs 4 (fun _ => 0)), (q102, aI cs 4 (fun _ => 0)), (q103, aI cs 4 (fun _ => 0)), (q104, aI cs 4 (fun _ => 0)), (q105, aI cs 20 (fun _ => 0)), (q106, aI cs 20 (fun _ => 0))] H := hP
  have hD : va_D A [(h, .inr (4, [.ref q101, .ref q102, .ref q103, .ref q104, .ref q105, .ref q106, .int 0, .int 10, .int 0, .int 0])), (q101, aI cs 4 (fun _ => 0)), (q102, aI cs 4 (fun _ => 0)), (q103, aI cs 4 (fun _ => 0)), (q104, aI cs 4 (fun _ => 0)), (q105, aI cs 20 (fun _ => 0)), (q106, aI cs 20 (fun _ => 0))] := hD
  refine lv_aload_n hx hb dX4_init_59 rfl (lv_at hl 0 rfl) ?_
  refine lv_iconst (v := 1) hx hb dX4_init_60 (by decide) ?_
  refine va_put (D := D) (ci := 4) (v := .int 1) (ty := .int) (C := RX4) (T := TX4) (N := 10) hx hb hts in_X4 tyX4 tyX4_ok nmX4 hown hK hP hD hS 0 rfl rfl 8 (by decide) hf_37 (fun _ h9 => h9) rfl (by decide +kernel) rfl rfl (Nat.le_of_ble_eq_true rfl) dX4_init_61 (fun H locs hP hD hS => ?_)
  have hP : va_P D vwCl [(h, .inr (4, [.ref q101, .ref q102, .ref q103, .ref q104, .ref q105, .ref q106, .int 0, .int 10, .int 1, .int 0])), (q101, aI cs 4 (fun _ => 0)), (q102, aI cs 4 (fun _ => 0)), (q103, aI cs 4 (fun _ => 0)), (q104, aI cs 4 (fun _ => 0)), (q105, aI cs 20 (fun _ => 0)), (q106, aI cs 20 (fun _ => 0))] H := hP
  have hD : va_D A [(h, .inr (4, [.ref q101, .ref q102, .ref q103, .ref q104, .ref q105, .ref q106, .int 0, .int 10, .int 1, .int 0])), (q101, aI cs 4 (fun _ => 0)), (q102, aI cs 4 (fun _ => 0)), (q103, aI cs 4 (fun _ => 0)), (q104, aI cs 4 (fun _ => 0)), (q105, aI cs 20 (fun _ => 0)), (q106, aI cs 20 (fun _ => 0))] := hD
  refine lv_aload_n hx hb dX4_init_64 rfl (lv_at hl 0 rfl) ?_
  refine lv_iconst (v := 0) hx hb dX4_init_65 (by decide) ?_
  refine va_put (D := D) (ci := 4) (v := .int 0) (ty := .int) (C := RX4) (T := TX4) (N := 10) hx hb hts in_X4 tyX4 tyX4_ok nmX4 hown hK hP hD hS 0 rfl rfl 9 (by decide) hf_40 (fun _ h9 => h9) rfl (by decide +kernel) rfl rfl (Nat.le_of_ble_eq_true rfl) dX4_init_66 (fun H locs hP hD hS => ?_)
  have hP : va_P D vwCl [(h, .inr (4, [.ref q101, .ref q102, .ref q103, .ref q104, .ref q105, .ref q106, .int 0, .int 10, .int 1, .int 0])), (q101, aI cs 4 (fun _ => 0)), (q102, aI cs 4 (fun _ => 0)), (q103, aI cs 4 (fun _ => 0)), (q104, aI cs 4 (fun _ => 0)), (q105, aI cs 20 (fun _ => 0)), (q106, aI cs 20 (fun _ => 0))] H := hP
  have hD : va_D A [(h, .inr (4, [.ref q101, .ref q102, .ref q103, .ref q104, .ref q105, .ref q106, .int 0, .int 10, .int 1, .int 0])), (q101, aI cs 4 (fun _ => 0)), (q102, aI cs 4 (fun _ => 0)), (q103, aI cs 4 (fun _ => 0)), (q104, aI cs 4 (fun _ => 0)), (q105, aI cs 20 (fun _ => 0)), (q106, aI cs 20 (fun _ => 0))] := hD
  refine lv_aload_n hx hb dX4_init_69 rfl (lv_at hl 0 rfl) ?_
  refine va_get (D := D) (ci := 4) (v := .ref q106) (C := RX4) (T := TX4) (N := 10) hx hb hts in_X4 hown hK hP 0 rfl rfl 5 (by decide) hf_27 (fun _ h9 => h9) rfl dX4_init_70 ?_
  refine lv_bipush (v := (-9)) hx hb dX4_init_73 (by decide) ?_
  refine cS_v (As := [.ref q106, .int (-9)]) (rest := []) (cr := []) (cw1 := [(q106, aI cs 20 (fun _ => 0))]) ⟨hx, hb, hml, hown, hts⟩ (c_fill l D cs _ q106 20 (fun _ => 0) (-9) (by first | assumption | omega)) (va_cwS 2 hts gX4_init_J7_fill_53178 rfl rfl rfl (by decide +kernel) ⟨Nat.le_of_ble_eq_true rfl, Nat.le_of_ble_eq_true rfl⟩) hK hP hD hS hA (hP.sub [6] rfl) ((hD.sub (ws' := [(q106, aI cs 20 (fun _ => 0))]) [6] (by decide) rfl).weaken (fun _ _ _ _ => trivial)) [6] rfl rfl hl.1 rfl (Nat.le_of_ble_eq_true rfl) dX4_init_75 ⟨Nat.le_of_ble_eq_true rfl, Nat.le_of_ble_eq_true rfl⟩ (fun _ => rfl) (fun _ => rfl) (fun u9 H locs hw_1 hP hD hS => ?_)
  have hP : va_P D vwCl [(h, .inr (4, [.ref q101, .ref q102, .ref q103, .ref q104, .ref q105, .ref q106, .int 0, .int 10, .int 1, .int 0])), (q101, aI cs 4 (fun _ => 0)), (q102, aI cs 4 (fun _ => 0)), (q103, aI cs 4 (fun _ => 0)), (q104, aI cs 4 (fun _ => 0)), (q105, aI cs 20 (fun _ => 0)), (q106, aI cs 20 (fun _ => (-9)))] H := hP
  have hD : va_D A [(h, .inr (4, [.ref q101, .ref q102, .ref q103, .ref q104, .ref q105, .ref q106, .int 0, .int 10, .int 1, .int 0])), (q101, aI cs 4 (fun _ => 0)), (q102, aI cs 4 (fun _ => 0)), (q103, aI cs 4 (fun _ => 0)), (q104, aI cs 4 (fun _ => 0)), (q105, aI cs 20 (fun _ => 0)), (q106, aI cs 20 (fun _ => (-9)))] := hD
  exact rt_v hx hb hr hlocks (q101, q102, q103, q104, q105, q106) (trivial) hP hD hS dX4_init_78
set_option maxHeartbeats 4000000 in
set_option maxRecDepth 100000 in
theorem c_X1_init (l : Launch) (D : va_G) (cs : Nat → ClassId) (sz : Nat) (g : Nat)  : mVX (S := Nat) l yX1_init wsX1_init ({ frames := 1, cells := 1, slots := 21, locals := 20 } : Room) D (tyc cs) sz [.ref g] [] [(g, .inr (1, [.null, .int 0, .int 0, .int 0, .int 0, .int 0, .int 0, .int 0, .int 0]))] (fun (u : Nat) => match u with | w0 => True) (fun (u : Nat) => match u with | w0 => [(g, .inr (1, [.ref w0, .int 0, .int 0, .int 0, .int 0, .int 0, .int 0, .int 0, .int 0])), (w0, aI cs 21 (fun _ => 0))]) 1 21 tx_Y := by
  unfold mVX
  refine Met.ofW (cc := cX1_init) (maxL := 1) (ret := none) (by decide) rfl ?_
  intro p e s m args below meth c s₁ B hml hv
  obtain ⟨rfl, hsz, hP, hK, hD0, hX⟩ := hv
  have hin : meth.name = "<init>" := (name_of_methodNamed B.named B.method).1
  have hx := B.exec
  have hb := B.bytes
  have hr := B.returns
  have hts := atoms_spec (ws := wsX1_init) B.pre
  have hown : s.vm.findClass RX1 = some m.cls := findClass_of_methodNamed B.named
  have hlocks := B.notSynchronized
  subst hsz
  have hR := @en_R _ _ _ [] [(g, .inr (1, [.null, .int 0, .int 0, .int 0, .int 0, .int 0, .int 0, .int 0, .int 0]))] _ hP hD0
  have hN := adN_of hD0
  have hD := en_D (wr := []) (ww := [(g, .inr (1, [.null, .int 0, .int 0, .int 0, .int 0, .int 0, .int 0, .int 0, .int 0]))]) (sz := s.heap.size) hD0
  have hP := en_P (wr := []) (ww := [(g, .inr (1, [.null, .int 0, .int 0, .int 0, .int 0, .int 0, .int 0, .int 0, .int 0]))]) hP
  generalize hAe : va_A [(g, .inr (1, [.null, .int 0, .int 0, .int 0, .int 0, .int 0, .int 0, .int 0, .int 0]))] s.heap.size = A at hD hR ⊢
  have hA : ∀ q : Nat, s.heap.size ≤ q → A q := fun q h => by rw [← hAe]; exact Or.inr h
  have hS : va_S A s.heap s.heap [] := va_S.rf
  have hN : adN [g] := hN
  have hf_9 := hts (.fieldLink RX1 9 "TaxedByLongest$Look" "done" "[I") (by decide +kernel)
  have hf_15 := hts (.fieldLink RX1 15 "TaxedByLongest$Look" "days" "I") (by decide +kernel)
  have hf_19 := hts (.fieldLink RX1 19 "TaxedByLongest$Look" "earnings" "I") (by decide +kernel)
  have hf_22 := hts (.fieldLink RX1 22 "TaxedByLongest$Look" "changes" "I") (by decide +kernel)
  have hf_25 := hts (.fieldLink RX1 25 "TaxedByLongest$Look" "counted" "I") (by decide +kernel)
  have hf_28 := hts (.fieldLink RX1 28 "TaxedByLongest$Look" "longest" "I") (by decide +kernel)
  have hf_31 := hts (.fieldLink RX1 31 "TaxedByLongest$Look" "second" "I") (by decide +kernel)
  have hf_34 := hts (.fieldLink RX1 34 "TaxedByLongest$Look" "shortest" "I") (by decide +kernel)
  have hf_37 := hts (.fieldLink RX1 37 "TaxedByLongest$Look" "squares" "I") (by decide +kernel)
  have in_X1 : ∀ w ∈ wsX10, w ∈ wsX1_init := by decide +kernel
  have hl := lv_entry ([.ref g]) (n := 1) (Nat.le_of_ble_eq_true rfl)
  rw [lg_entry_eq]
  generalize (lg_sl ([.ref g]) ++ List.replicate (1 - (lg_sl ([.ref g])).length) Slot.unset).toArray = ls at hl ⊢
  have hl : lv_has ls 1 [(0, .ref g)] := hl
  refine lv_aload_n hx hb dX1_init_0 rfl (lv_at hl 0 rfl) ?_
  refine W.objInit hx hb hown (hts (.methodLink RX1 3 objectInit) (by decide +kernel)) (hts (.instanceMethod objectInit) (by decide +kernel)) (hts (.code objectInit ⟨#[0xb1]⟩ 1 none) (by decide +kernel)) rfl (by rw [hml]; exact hl.1) rfl dX1_init_1 (Nat.le_of_ble_eq_true rfl) (Nat.le_of_ble_eq_true rfl) ?_
  refine W.eq (g2 := F0 m 4 ls []) rfl ?_
  refine lv_aload_n hx hb dX1_init_4 rfl (lv_at hl 0 rfl) ?_
  refine lv_bipush (v := 21) hx hb dX1_init_5 (by decide) ?_
  refine na_n (atype := .int) (ty := .int) hx hb (hts (.arrayClass .int) (by decide +kernel)) rfl 0 rfl hK hP hD hS hA (a0 := (21, .inl (fun _ => 0))) (fun _ => rfl) (by decide) (by decide) (by decide) (Nat.le_of_ble_eq_true rfl) (Nat.le_of_ble_eq_true rfl) dX1_init_7 (fun q101 H hP hD hS => ?_)
  have hP : va_P D vwCl [(g, .inr (1, [.null, .int 0, .int 0, .int 0, .int 0, .int 0, .int 0, .int 0, .int 0])), (q101, aI cs 21 (fun _ => 0))] H := hP
  have hD : va_D A [(g, .inr (1, [.null, .int 0, .int 0, .int 0, .int 0, .int 0, .int 0, .int 0, .int 0])), (q101, aI cs 21 (fun _ => 0))] := hD
  refine va_putF (D := D) (ci := 1) (v := .ref q101) (ty := (.array .int)) (C := RX1) (T := TX1) (N := 9) hx hb hts in_X1 tyX1 tyX1_ok nmX1 hown hK hP hD hS 0 rfl rfl 0 (by decide) hf_9 (fun _ h9 => h9) rfl hin rfl (by decide +kernel) rfl rfl (Nat.le_of_ble_eq_true rfl) dX1_init_9 (fun H locs hP hD hS => ?_)
  have hP : va_P D vwCl [(g, .inr (1, [.ref q101, .int 0, .int 0, .int 0, .int 0, .int 0, .int 0, .int 0, .int 0])), (q101, aI cs 21 (fun _ => 0))] H := hP
  have hD : va_D A [(g, .inr (1, [.ref q101, .int 0, .int 0, .int 0, .int 0, .int 0, .int 0, .int 0, .int 0])), (q101, aI cs 21 (fun _ => 0))] := hD
  refine lv_aload_n hx hb dX1_init_12 rfl (lv_at hl 0 rfl) ?_
  refine lv_iconst (v := 0) hx hb dX1_init_13 (by decide) ?_
  refine va_put (D := D) (ci := 1) (v := .int 0) (ty := .int) (C := RX1) (T := TX1) (N := 9) hx hb hts in_X1 tyX1 tyX1_ok nmX1 hown hK hP hD hS 0 rfl rfl 1 (by decide) hf_15 (fun _ h9 => h9) rfl (by decide +kernel) rfl rfl (Nat.le_of_ble_eq_true rfl) dX1_init_14 (fun H locs hP hD hS => ?_)
  have hP : va_P D vwCl [(g, .inr (1, [.ref q101, .int 0, .int 0, .int 0, .int 0, .int 0, .int 0, .int 0, .int 0])), (q101, aI cs 21 (fun _ => 0))] H := hP
  have hD : va_D A [(g, .inr (1, [.ref q101, .int 0, .int 0, .int 0, .int 0, .int 0, .int 0, .int 0, .int 0])), (q101, aI cs 21 (fun _ => 0))] := hD
  refine lv_aload_n hx hb dX1_init_17 rfl (lv_at hl 0 rfl) ?_
  refine lv_iconst (v := 0) hx hb dX1_init_18 (by decide) ?_
  refine va_put (D := D) (ci := 1) (v := .int 0) (ty := .int) (C := RX1) (T := TX1) (N := 9) hx hb hts in_X1 tyX1 tyX1_ok nmX1 hown hK hP hD hS 0 rfl rfl 2 (by decide) hf_19 (fun _ h9 => h9) rfl (by decide +kernel) rfl rfl (Nat.le_of_ble_eq_true rfl) dX1_init_19 (fun H locs hP hD hS => ?_)
  have hP : va_P D vwCl [(g, .inr (1, [.ref q101, .int 0, .int 0, .int 0, .int 0, .int 0, .int 0, .int 0, .int 0])), (q101, aI cs 21 (fun _ => 0))] H := hP
  have hD : va_D A [(g, .inr (1, [.ref q101, .int 0, .int 0, .int 0, .int 0, .int 0, .int 0, .int 0, .int 0])), (q101, aI cs 21 (fun _ => 0))] := hD
  refine lv_aload_n hx hb dX1_init_22 rfl (lv_at hl 0 rfl) ?_
  refine lv_iconst (v := 0) hx hb dX1_init_23 (by decide) ?_
  refine va_put (D := D) (ci := 1) (v := .int 0) (ty := .int) (C := RX1) (T := TX1) (N := 9) hx hb hts in_X1 tyX1 tyX1_ok nmX1 hown hK hP hD hS 0 rfl rfl 3 (by decide) hf_22 (fun _ h9 => h9) rfl (by decide +kernel) rfl rfl (Nat.le_of_ble_eq_true rfl) dX1_init_24 (fun H locs hP hD hS => ?_)
  have hP : va_P D vwCl [(g, .inr (1, [.ref q101, .int 0, .int 0, .int 0, .int 0, .int 0, .int 0, .int 0, .int 0])), (q101, aI cs 21 (fun _ => 0))] H := hP
  have hD : va_D A [(g, .inr (1, [.ref q101, .int 0, .int 0, .int 0, .int 0, .int 0, .int 0, .int 0, .int 0])), (q101, aI cs 21 (fun _ => 0))] := hD
  refine lv_aload_n hx hb dX1_init_27 rfl (lv_at hl 0 rfl) ?_
  refine lv_iconst (v := 0) hx hb dX1_init_28 (by decide) ?_
  refine va_put (D := D) (ci := 1) (v := .int 0) (ty := .int) (C := RX1) (T := TX1) (N := 9) hx hb hts in_X1 tyX1 tyX1_ok nmX1 hown hK hP hD hS 0 rfl rfl 4 (by decide) hf_25 (fun _ h9 => h9) rfl (by decide +kernel) rfl rfl (Nat.le_of_ble_eq_true rfl) dX1_init_29 (fun H locs hP hD hS => ?_)
  have hP : va_P D vwCl [(g, .inr (1, [.ref q101, .int 0, .int 0, .int 0, .int 0, .int 0, .int 0, .int 0, .int 0])), (q101, aI cs 21 (fun _ => 0))] H := hP
  have hD : va_D A [(g, .inr (1, [.ref q101, .int 0, .int 0, .int 0, .int 0, .int 0, .int 0, .int 0, .int 0])), (q101, aI cs 21 (fun _ => 0))] := hD
  refine lv_aload_n hx hb dX1_init_32 rfl (lv_at hl 0 rfl) ?_
  refine lv_iconst (v := 0) hx hb dX1_init_33 (by decide) ?_
  refine va_put (D := D) (ci := 1) (v := .int 0) (ty := .int) (C := RX1) (T := TX1) (N := 9) hx hb hts in_X1 tyX1 tyX1_ok nmX1 hown hK hP hD hS 0 rfl rfl 5 (by decide) hf_28 (fun _ h9 => h9) rfl (by decide +kernel) rfl rfl (Nat.le_of_ble_eq_true rfl) dX1_init_34 (fun H locs hP hD hS => ?_)
  have hP : va_P D vwCl [(g, .inr (1, [.ref q101, .int 0, .int 0, .int 0, .int 0, .int 0, .int 0, .int 0, .int 0])), (q101, aI cs 21 (fun _ => 0))] H := hP
  have hD : va_D A [(g, .inr (1, [.ref q101, .int 0, .int 0, .int 0, .int 0, .int 0, .int 0, .int 0, .int 0])), (q101, aI cs 21 (fun _ => 0))] := hD
  refine lv_aload_n hx hb dX1_init_37 rfl (lv_at hl 0 rfl) ?_
  refine lv_iconst (v := 0) hx hb dX1_init_38 (by decide) ?_
  refine va_put (D := D) (ci := 1) (v := .int 0) (ty := .int) (C := RX1) (T := TX1) (N := 9) hx hb hts in_X1 tyX1 tyX1_ok nmX1 hown hK hP hD hS 0 rfl rfl 6 (by decide) hf_31 (fun _ h9 => h9) rfl (by decide +kernel) rfl rfl (Nat.le_of_ble_eq_true rfl) dX1_init_39 (fun H locs hP hD hS => ?_)
  have hP : va_P D vwCl [(g, .inr (1, [.ref q101, .int 0, .int 0, .int 0, .int 0, .int 0, .int 0, .int 0, .int 0])), (q101, aI cs 21 (fun _ => 0))] H := hP
  have hD : va_D A [(g, .inr (1, [.ref q101, .int 0, .int 0, .int 0, .int 0, .int 0, .int 0, .int 0, .int 0])), (q101, aI cs 21 (fun _ => 0))] := hD
  refine lv_aload_n hx hb dX1_init_42 rfl (lv_at hl 0 rfl) ?_
  refine lv_iconst (v := 0) hx hb dX1_init_43 (by decide) ?_
  refine va_put (D := D) (ci := 1) (v := .int 0) (ty := .int) (C := RX1) (T := TX1) (N := 9) hx hb hts in_X1 tyX1 tyX1_ok nmX1 hown hK hP hD hS 0 rfl rfl 7 (by decide) hf_34 (fun _ h9 => h9) rfl (by decide +kernel) rfl rfl (Nat.le_of_ble_eq_true rfl) dX1_init_44 (fun H locs hP hD hS => ?_)
  have hP : va_P D vwCl [(g, .inr (1, [.ref q101, .int 0, .int 0, .int 0, .int 0, .int 0, .int 0, .int 0, .int 0])), (q101, aI cs 21 (fun _ => 0))] H := hP
  have hD : va_D A [(g, .inr (1, [.ref q101, .int 0, .int 0, .int 0, .int 0, .int 0, .int 0, .int 0, .int 0])), (q101, aI cs 21 (fun _ => 0))] := hD
  refine lv_aload_n hx hb dX1_init_47 rfl (lv_at hl 0 rfl) ?_
  refine lv_iconst (v := 0) hx hb dX1_init_48 (by decide) ?_
  refine va_put (D := D) (ci := 1) (v := .int 0) (ty := .int) (C := RX1) (T := TX1) (N := 9) hx hb hts in_X1 tyX1 tyX1_ok nmX1 hown hK hP hD hS 0 rfl rfl 8 (by decide) hf_37 (fun _ h9 => h9) rfl (by decide +kernel) rfl rfl (Nat.le_of_ble_eq_true rfl) dX1_init_49 (fun H locs hP hD hS => ?_)
  have hP : va_P D vwCl [(g, .inr (1, [.ref q101, .int 0, .int 0, .int 0, .int 0, .int 0, .int 0, .int 0, .int 0])), (q101, aI cs 21 (fun _ => 0))] H := hP
  have hD : va_D A [(g, .inr (1, [.ref q101, .int 0, .int 0, .int 0, .int 0, .int 0, .int 0, .int 0, .int 0])), (q101, aI cs 21 (fun _ => 0))] := hD
  exact rt_v hx hb hr hlocks q101 (trivial) hP hD hS dX1_init_52
set_option maxHeartbeats 4000000 in
set_option maxRecDepth 100000 in
theorem c_X2_init (l : Launch) (D : va_G) (cs : Nat → ClassId) (sz : Nat) (pl : Nat)  : mVX (S := Nat × (Nat → Nat) × Nat × (Nat → Nat) × Nat × (Nat → Nat) × Nat) l yX2_init wsX2_init ({ frames := 1, cells := 16, slots := 284, locals := 20 } : Room) D (tyc cs) sz [.ref pl] [] [(pl, .inr (2, [.null, .null, .null, .null, .int 0, .int 0]))] (fun (u : Nat × (Nat → Nat) × Nat × (Nat → Nat) × Nat × (Nat → Nat) × Nat) => match u with | (w1, r1, w2, r2, w3, r3, w4) => True) (fun (u : Nat × (Nat → Nat) × Nat × (Nat → Nat) × Nat × (Nat → Nat) × Nat) => match u with | (w1, r1, w2, r2, w3, r3, w4) => [(pl, .inr (2, [.ref w1, .ref w2, .ref w3, .ref w4, .int (-999), .int (-9)])), (w1, aG cs r1), (r1 0, aI cs 21 ((fun _ _ => 0) 0)), (r1 1, aI cs 21 ((fun _ _ => 0) 1)), (r1 2, aI cs 21 ((fun _ _ => 0) 2)), (r1 3, aI cs 21 ((fun _ _ => 0) 3)), (w2, aG cs r2), (r2 0, aI cs 21 ((fun _ _ => 0) 0)), (r2 1, aI cs 21 ((fun _ _ => 0) 1)), (r2 2, aI cs 21 ((fun _ _ => 0) 2)), (r2 3, aI cs 21 ((fun _ _ => 0) 3)), (w3, aG cs r3), (r3 0, aI cs 21 ((fun _ _ => 0) 0)), (r3 1, aI cs 21 ((fun _ _ => 0) 1)), (r3 2, aI cs 21 ((fun _ _ => 0) 2)), (r3 3, aI cs 21 ((fun _ _ => 0) 3)), (w4, aI cs 20 (fun _ => 0))]) 16 284 tx_Y := by
  unfold mVX
  refine Met.ofW (cc := cX2_init) (maxL := 1) (ret := none) (by decide) rfl ?_
  intro p e s m args below meth c s₁ B hml hv
  obtain ⟨rfl, hsz, hP, hK, hD0, hX⟩ := hv
  have hin : meth.name = "<init>" := (name_of_methodNamed B.named B.method).1
  have hx := B.exec
  have hb := B.bytes
  have hr := B.returns
  have hts := atoms_spec (ws := wsX2_init) B.pre
  have hown : s.vm.findClass RX2 = some m.cls := findClass_of_methodNamed B.named
  have hlocks := B.notSynchronized
  subst hsz
  have hR := @en_R _ _ _ [] [(pl, .inr (2, [.null, .null, .null, .null, .int 0, .int 0]))] _ hP hD0
  have hN := adN_of hD0
  have hD := en_D (wr := []) (ww := [(pl, .inr (2, [.null, .null, .null, .null, .int 0, .int 0]))]) (sz := s.heap.size) hD0
  have hP := en_P (wr := []) (ww := [(pl, .inr (2, [.null, .null, .null, .null, .int 0, .int 0]))]) hP
  generalize hAe : va_A [(pl, .inr (2, [.null, .null, .null, .null, .int 0, .int 0]))] s.heap.size = A at hD hR ⊢
  have hA : ∀ q : Nat, s.heap.size ≤ q → A q := fun q h => by rw [← hAe]; exact Or.inr h
  have hS : va_S A s.heap s.heap [] := va_S.rf
  have hN : adN [pl] := hN
  have hf_11 := hts (.fieldLink RX2 11 "TaxedByLongest$Plan" "sums" "[[I") (by decide +kernel)
  have hf_16 := hts (.fieldLink RX2 16 "TaxedByLongest$Plan" "starts" "[[I") (by decide +kernel)
  have hf_19 := hts (.fieldLink RX2 19 "TaxedByLongest$Plan" "rests" "[[I") (by decide +kernel)
  have hf_22 := hts (.fieldLink RX2 22 "TaxedByLongest$Plan" "year" "[I") (by decide +kernel)
  have hf_26 := hts (.fieldLink RX2 26 "TaxedByLongest$Plan" "bestLeft" "I") (by decide +kernel)
  have hf_30 := hts (.fieldLink RX2 30 "TaxedByLongest$Plan" "bestLimit" "I") (by decide +kernel)
  have in_X2 : ∀ w ∈ wsX20, w ∈ wsX2_init := by decide +kernel
  have hl := lv_entry ([.ref pl]) (n := 1) (Nat.le_of_ble_eq_true rfl)
  rw [lg_entry_eq]
  generalize (lg_sl ([.ref pl]) ++ List.replicate (1 - (lg_sl ([.ref pl])).length) Slot.unset).toArray = ls at hl ⊢
  have hl : lv_has ls 1 [(0, .ref pl)] := hl
  refine lv_aload_n hx hb dX2_init_0 rfl (lv_at hl 0 rfl) ?_
  refine W.objInit hx hb hown (hts (.methodLink RX2 3 objectInit) (by decide +kernel)) (hts (.instanceMethod objectInit) (by decide +kernel)) (hts (.code objectInit ⟨#[0xb1]⟩ 1 none) (by decide +kernel)) rfl (by rw [hml]; exact hl.1) rfl dX2_init_1 (Nat.le_of_ble_eq_true rfl) (Nat.le_of_ble_eq_true rfl) ?_
  refine W.eq (g2 := F0 m 4 ls []) rfl ?_
  refine lv_aload_n hx hb dX2_init_4 rfl (lv_at hl 0 rfl) ?_
  refine lv_iconst (v := 4) hx hb dX2_init_5 (by decide) ?_
  refine lv_bipush (v := 21) hx hb dX2_init_6 (by decide) ?_
  refine mn_n (ty := .int) hx hb hown (hts (.classLink RX2 9 "[[I") (by decide +kernel)) hX.1 (hts (.arrayClass .int) (by decide +kernel)) 3 0 rfl (hK.2 0 _ rfl).2 hK hP hD hS hA (z := (21, .inl (fun _ => 0))) (by decide) (by decide) (by decide) (Nat.le_of_ble_eq_true rfl) (Nat.le_of_ble_eq_true rfl) (fun c9 => by show ({ cls := c9, slots := Array.replicate 21 (defaultValue _), vm := .none } : Cell) = _; rw [arrV_new]; rfl) dX2_init_8 (fun q101 r101 H hP hD hS => ?_)
  have hP : va_P D vwCl [(pl, .inr (2, [.null, .null, .null, .null, .int 0, .int 0])), (q101, aG cs r101), (r101 0, aI cs 21 ((fun _ _ => 0) 0)), (r101 1, aI cs 21 ((fun _ _ => 0) 1)), (r101 2, aI cs 21 ((fun _ _ => 0) 2)), (r101 3, aI cs 21 ((fun _ _ => 0) 3))] H := hP
  have hD : va_D A [(pl, .inr (2, [.null, .null, .null, .null, .int 0, .int 0])), (q101, aG cs r101), (r101 0, aI cs 21 ((fun _ _ => 0) 0)), (r101 1, aI cs 21 ((fun _ _ => 0) 1)), (r101 2, aI cs 21 ((fun _ _ => 0) 2)), (r101 3, aI cs 21 ((fun _ _ => 0) 3))] := hD
  refine va_putF (D := D) (ci := 2) (v := .ref q101) (ty := (.array (.array .int))) (C := RX2) (T := TX2) (N := 6) hx hb hts in_X2 tyX2 tyX2_ok nmX2 hown hK hP hD hS 0 rfl rfl 0 (by decide) hf_11 (fun _ h9 => h9) rfl hin rfl (by decide +kernel) rfl rfl (Nat.le_of_ble_eq_true rfl) dX2_init_12 (fun H locs hP hD hS => ?_)
  have hP : va_P D vwCl [(pl, .inr (2, [.ref q101, .null, .null, .null, .int 0, .int 0])), (q101, aG cs r101), (r101 0, aI cs 21 ((fun _ _ => 0) 0)), (r101 1, aI cs 21 ((fun _ _ => 0) 1)), (r101 2, aI cs 21 ((fun _ _ => 0) 2)), (r101 3, aI cs 21 ((fun _ _ => 0) 3))] H := hP
  have hD : va_D A [(pl, .inr (2, [.ref q101, .null, .null, .null, .int 0, .int 0])), (q101, aG cs r101), (r101 0, aI cs 21 ((fun _ _ => 0) 0)), (r101 1, aI cs 21 ((fun _ _ => 0) 1)), (r101 2, aI cs 21 ((fun _ _ => 0) 2)), (r101 3, aI cs 21 ((fun _ _ => 0) 3))] := hD
  refine lv_aload_n hx hb dX2_init_15 rfl (lv_at hl 0 rfl) ?_
  refine lv_iconst (v := 4) hx hb dX2_init_16 (by decide) ?_
  refine lv_bipush (v := 21) hx hb dX2_init_17 (by decide) ?_
  refine mn_n (ty := .int) hx hb hown (hts (.classLink RX2 9 "[[I") (by decide +kernel)) hX.1 (hts (.arrayClass .int) (by decide +kernel)) 3 0 rfl (hK.2 0 _ rfl).2 hK hP hD hS hA (z := (21, .inl (fun _ => 0))) (by decide) (by decide) (by decide) (Nat.le_of_ble_eq_true rfl) (Nat.le_of_ble_eq_true rfl) (fun c9 => by show ({ cls := c9, slots := Array.replicate 21 (defaultValue _), vm := .none } : Cell) = _; rw [arrV_new]; rfl) dX2_init_19 (fun q102 r102 H hP hD hS => ?_)
  have hP : va_P D vwCl [(pl, .inr (2, [.ref q101, .null, .null, .null, .int 0, .int 0])), (q101, aG cs r101), (r101 0, aI cs 21 ((fun _ _ => 0) 0)), (r101 1, aI cs 21 ((fun _ _ => 0) 1)), (r101 2, aI cs 21 ((fun _ _ => 0) 2)), (r101 3, aI cs 21 ((fun _ _ => 0) 3)), (q102, aG cs r102), (r102 0, aI cs 21 ((fun _ _ => 0) 0)), (r102 1, aI cs 21 ((fun _ _ => 0) 1)), (r102 2, aI cs 21 ((fun _ _ => 0) 2)), (r102 3, aI cs 21 ((fun _ _ => 0) 3))] H := hP
  have hD : va_D A [(pl, .inr (2, [.ref q101, .null, .null, .null, .int 0, .int 0])), (q101, aG cs r101), (r101 0, aI cs 21 ((fun _ _ => 0) 0)), (r101 1, aI cs 21 ((fun _ _ => 0) 1)), (r101 2, aI cs 21 ((fun _ _ => 0) 2)), (r101 3, aI cs 21 ((fun _ _ => 0) 3)), (q102, aG cs r102), (r102 0, aI cs 21 ((fun _ _ => 0) 0)), (r102 1, aI cs 21 ((fun _ _ => 0) 1)), (r102 2, aI cs 21 ((fun _ _ => 0) 2)), (r102 3, aI cs 21 ((fun _ _ => 0) 3))] := hD
  refine va_putF (D := D) (ci := 2) (v := .ref q102) (ty := (.array (.array .int))) (C := RX2) (T := TX2) (N := 6) hx hb hts in_X2 tyX2 tyX2_ok nmX2 hown hK hP hD hS 0 rfl rfl 1 (by decide) hf_16 (fun _ h9 => h9) rfl hin rfl (by decide +kernel) rfl rfl (Nat.le_of_ble_eq_true rfl) dX2_init_23 (fun H locs hP hD hS => ?_)
  have hP : va_P D vwCl [(pl, .inr (2, [.ref q101, .ref q102, .null, .null, .int 0, .int 0])), (q101, aG cs r101), (r101 0, aI cs 21 ((fun _ _ => 0) 0)), (r101 1, aI cs 21 ((fun _ _ => 0) 1)), (r101 2, aI cs 21 ((fun _ _ => 0) 2)), (r101 3, aI cs 21 ((fun _ _ => 0) 3)), (q102, aG cs r102), (r102 0, aI cs 21 ((fun _ _ => 0) 0)), (r102 1, aI cs 21 ((fun _ _ => 0) 1)), (r102 2, aI cs 21 ((fun _ _ => 0) 2)), (r102 3, aI cs 21 ((fun _ _ => 0) 3))] H := hP
  have hD : va_D A [(pl, .inr (2, [.ref q101, .ref q102, .null, .null, .int 0, .int 0])), (q101, aG cs r101), (r101 0, aI cs 21 ((fun _ _ => 0) 0)), (r101 1, aI cs 21 ((fun _ _ => 0) 1)), (r101 2, aI cs 21 ((fun _ _ => 0) 2)), (r101 3, aI cs 21 ((fun _ _ => 0) 3)), (q102, aG cs r102), (r102 0, aI cs 21 ((fun _ _ => 0) 0)), (r102 1, aI cs 21 ((fun _ _ => 0) 1)), (r102 2, aI cs 21 ((fun _ _ => 0) 2)), (r102 3, aI cs 21 ((fun _ _ => 0) 3))] := hD
  refine lv_aload_n hx hb dX2_init_26 rfl (lv_at hl 0 rfl) ?_
  refine lv_iconst (v := 4) hx hb dX2_init_27 (by decide) ?_
  refine lv_bipush (v := 21) hx hb dX2_init_28 (by decide) ?_
  refine mn_n (ty := .int) hx hb hown (hts (.classLink RX2 9 "[[I") (by decide +kernel)) hX.1 (hts (.arrayClass .int) (by decide +kernel)) 3 0 rfl (hK.2 0 _ rfl).2 hK hP hD hS hA (z := (21, .inl (fun _ => 0))) (by decide) (by decide) (by decide) (Nat.le_of_ble_eq_true rfl) (Nat.le_of_ble_eq_true rfl) (fun c9 => by show ({ cls := c9, slots := Array.replicate 21 (defaultValue _), vm := .none } : Cell) = _; rw [arrV_new]; rfl) dX2_init_30 (fun q103 r103 H hP hD hS => ?_)
  have hP : va_P D vwCl [(pl, .inr (2, [.ref q101, .ref q102, .null, .null, .int 0, .int 0])), (q101, aG cs r101), (r101 0, aI cs 21 ((fun _ _ => 0) 0)), (r101 1, aI cs 21 ((fun _ _ => 0) 1)), (r101 2, aI cs 21 ((fun _ _ => 0) 2)), (r101 3, aI cs 21 ((fun _ _ => 0) 3)), (q102, aG cs r102), (r102 0, aI cs 21 ((fun _ _ => 0) 0)), (r102 1, aI cs 21 ((fun _ _ => 0) 1)), (r102 2, aI cs 21 ((fun _ _ => 0) 2)), (r102 3, aI cs 21 ((fun _ _ => 0) 3)), (q103, aG cs r103), (r103 0, aI cs 21 ((fun _ _ => 0) 0)), (r103 1, aI cs 21 ((fun _ _ => 0) 1)), (r103 2, aI cs 21 ((fun _ _ => 0) 2)), (r103 3, aI cs 21 ((fun _ _ => 0) 3))] H := hP
  have hD : va_D A [(pl, .inr (2, [.ref q101, .ref q102, .null, .null, .int 0, .int 0])), (q101, aG cs r101), (r101 0, aI cs 21 ((fun _ _ => 0) 0)), (r101 1, aI cs 21 ((fun _ _ => 0) 1)), (r101 2, aI cs 21 ((fun _ _ => 0) 2)), (r101 3, aI cs 21 ((fun _ _ => 0) 3)), (q102, aG cs r102), (r102 0, aI cs 21 ((fun _ _ => 0) 0)), (r102 1, aI cs 21 ((fun _ _ => 0) 1)), (r102 2, aI cs 21 ((fun _ _ => 0) 2)), (r102 3, aI cs 21 ((fun _ _ => 0) 3)), (q103, aG cs r103), (r103 0, aI cs 21 ((fun _ _ => 0) 0)), (r103 1, aI cs 21 ((fun _ _ => 0) 1)), (r103 2, aI cs 21 ((fun _ _ => 0) 2)), (r103 3, aI cs 21 ((fun _ _ => 0) 3))] := hD
  refine va_putF (D := D) (ci := 2) (v := .ref q103) (ty := (.array (.array .int))) (C := RX2) (T := TX2) (N := 6) hx hb hts in_X2 tyX2 tyX2_ok nmX2 hown hK hP hD hS 0 rfl rfl 2 (by decide) hf_19 (fun _ h9 => h9) rfl hin rfl (by decide +kernel) rfl rfl (Nat.le_of_ble_eq_true rfl) dX2_init_34 (fun H locs hP hD hS => ?_)
  have hP : va_P D vwCl [(pl, .inr (2, [.ref q101, .ref q102, .ref q103, .null, .int 0, .int 0])), (q101, aG cs r101), (r101 0, aI cs 21 ((fun _ _ => 0) 0)), (r101 1, aI cs 21 ((fun _ _ => 0) 1)), (r101 2, aI cs 21 ((fun _ _ => 0) 2)), (r101 3, aI cs 21 ((fun _ _ => 0) 3)), (q102, aG cs r102), (r102 0, aI cs 21 ((fun _ _ => 0) 0)), (r102 1, aI cs 21 ((fun _ _ => 0) 1)), (r102 2, aI cs 21 ((fun _ _ => 0) 2)), (r102 3, aI cs 21 ((fun _ _ => 0) 3)), (q103, aG cs r103), (r103 0, aI cs 21 ((fun _ _ => 0) 0)), (r103 1, aI cs 21 ((fun _ _ => 0) 1)), (r103 2, aI cs 21 ((fun _ _ => 0) 2)), (r103 3, aI cs 21 ((fun _ _ => 0) 3))] H := hP
  have hD : va_D A [(pl, .inr (2, [.ref q101, .ref q102, .ref q103, .null, .int 0, .int 0])), (q101, aG cs r101), (r101 0, aI cs 21 ((fun _ _ => 0) 0)), (r101 1, aI cs 21 ((fun _ _ => 0) 1)), (r101 2, aI cs 21 ((fun _ _ => 0) 2)), (r101 3, aI cs 21 ((fun _ _ => 0) 3)), (q102, aG cs r102), (r102 0, aI cs 21 ((fun _ _ => 0) 0)), (r102 1, aI cs 21 ((fun _ _ => 0) 1)), (r102 2, aI cs 21 ((fun _ _ => 0) 2)), (r102 3, aI cs 21 ((fun _ _ => 0) 3)), (q103, aG cs r103), (r103 0, aI cs 21 ((fun _ _ => 0) 0)), (r103 1, aI cs 21 ((fun _ _ => 0) 1)), (r103 2, aI cs 21 ((fun _ _ => 0) 2)), (r103 3, aI cs 21 ((fun _ _ => 0) 3))] := hD
  refine lv_aload_n hx hb dX2_init_37 rfl (lv_at hl 0 rfl) ?_
  refine lv_bipush (v := 20) hx hb dX2_init_38 (by decide) ?_
  refine na_n (atype := .int) (ty := .int) hx hb (hts (.arrayClass .int) (by decide +kernel)) rfl 0 rfl hK hP hD hS hA (a0 := (20, .inl (fun _ => 0))) (fun _ => rfl) (by decide) (by decide) (by decide) (Nat.le_of_ble_eq_true rfl) (Nat.le_of_ble_eq_true rfl) dX2_init_40 (fun q104 H hP hD hS => ?_)
  have hP : va_P D vwCl [(pl, .inr (2, [.ref q101, .ref q102, .ref q103, .null, .int 0, .int 0])), (q101, aG cs r101), (r101 0, aI cs 21 ((fun _ _ => 0) 0)), (r101 1, aI cs 21 ((fun _ _ => 0) 1)), (r101 2, aI cs 21 ((fun _ _ => 0) 2)), (r101 3, aI cs 21 ((fun _ _ => 0) 3)), (q102, aG cs r102), (r102 0, aI cs 21 ((fun _ _ => 0) 0)), (r102 1, aI cs 21 ((fun _ _ => 0) 1)), (r102 2, aI cs 21 ((fun _ _ => 0) 2)), (r102 3, aI cs 21 ((fun _ _ => 0) 3)), (q103, aG cs r103), (r103 0, aI cs 21 ((fun _ _ => 0) 0)), (r103 1, aI cs 21 ((fun _ _ => 0) 1)), (r103 2, aI cs 21 ((fun _ _ => 0) 2)), (r103 3, aI cs 21 ((fun _ _ => 0) 3)), (q104, aI cs 20 (fun _ => 0))] H := hP
  have hD : va_D A [(pl, .inr (2, [.ref q101, .ref q102, .ref q103, .null, .int 0, .int 0])), (q101, aG cs r101), (r101 0, aI cs 21 ((fun _ _ => 0) 0)), (r101 1, aI cs 21 ((fun _ _ => 0) 1)), (r101 2, aI cs 21 ((fun _ _ => 0) 2)), (r101 3, aI cs 21 ((fun _ _ => 0) 3)), (q102, aG cs r102), (r102 0, aI cs 21 ((fun _ _ => 0) 0)), (r102 1, aI cs 21 ((fun _ _ => 0) 1)), (r102 2, aI cs 21 ((fun _ _ => 0) 2)), (r102 3, aI cs 21 ((fun _ _ => 0) 3)), (q103, aG cs r103), (r103 0, aI cs 21 ((fun _ _ => 0) 0)), (r103 1, aI cs 21 ((fun _ _ => 0) 1)), (r103 2, aI cs 21 ((fun _ _ => 0) 2)), (r103 3, aI cs 21 ((fun _ _ => 0) 3)), (q104, aI cs 20 (fun _ => 0))] := hD
  refine va_putF (D := D) (ci := 2) (v := .ref q104) (ty := (.array .int)) (C := RX2) (T := TX2) (N := 6) hx hb hts in_X2 tyX2 tyX2_ok nmX2 hown hK hP hD hS 0 rfl rfl 3 (by decide) hf_22 (fun _ h9 => h9) rfl hin rfl (by decide +kernel) rfl rfl (Nat.le_of_ble_eq_true rfl) dX2_init_42 (fun H locs hP hD hS => ?_)
  have hP : va_P D vwCl [(pl, .inr (2, [.ref q101, .ref q102, .ref q103, .ref q104, .int 0, .int 0])), (q101, aG cs r101), (r101 0, aI cs 21 ((fun _ _ => 0) 0)), (r101 1, aI cs 21 ((fun _ _ => 0) 1)), (r101 2, aI cs 21 ((fun _ _ => 0) 2)), (r101 3, aI cs 21 ((fun _ _ => 0) 3)), (q102, aG cs r102), (r102 0, aI cs 21 ((fun _ _ => 0) 0)), (r102 1, aI cs 21 ((fun _ _ => 0) 1)), (r102 2, aI cs 21 ((fun _ _ => 0) 2)), (r102 3, aI cs 21 ((fun _ _ => 0) 3)), (q103, aG cs r103), (r103 0, aI cs 21 ((fun _ _ => 0) 0)), (r103 1, aI cs 21 ((fun _ _ => 0) 1)), (r103 2, aI cs 21 ((fun _ _ => 0) 2)), (r103 3, aI cs 21 ((fun _ _ => 0) 3)), (q104, aI cs 20 (fun _ => 0))] H := hP
  have hD : va_D A [(pl, .inr (2, [.ref q101, .ref q102, .ref q103, .ref q104, .int 0, .int 0])), (q101, aG cs r101), (r101 0, aI cs 21 ((fun _ _ => 0) 0)), (r101 1, aI cs 21 ((fun _ _ => 0) 1)), (r101 2, aI cs 21 ((fun _ _ => 0) 2)), (r101 3, aI cs 21 ((fun _ _ => 0) 3)), (q102, aG cs r102), (r102 0, aI cs 21 ((fun _ _ => 0) 0)), (r102 1, aI cs 21 ((fun _ _ => 0) 1)), (r102 2, aI cs 21 ((fun _ _ => 0) 2)), (r102 3, aI cs 21 ((fun _ _ => 0) 3)), (q103, aG cs r103), (r103 0, aI cs 21 ((fun _ _ => 0) 0)), (r103 1, aI cs 21 ((fun _ _ => 0) 1)), (r103 2, aI cs 21 ((fun _ _ => 0) 2)), (r103 3, aI cs 21 ((fun _ _ => 0) 3)), (q104, aI cs 20 (fun _ => 0))] := hD
  refine lv_aload_n hx hb dX2_init_45 rfl (lv_at hl 0 rfl) ?_
  refine lv_sipush (v := (-999)) hx hb dX2_init_46 (by decide) ?_
  refine va_put (D := D) (ci := 2) (v := .int (-999)) (ty := .int) (C := RX2) (T := TX2) (N := 6) hx hb hts in_X2 tyX2 tyX2_ok nmX2 hown hK hP hD hS 0 rfl rfl 4 (by decide) hf_26 (fun _ h9 => h9) rfl (by decide +kernel) rfl rfl (Nat.le_of_ble_eq_true rfl) dX2_init_49 (fun H locs hP hD hS => ?_)
  have hP : va_P D vwCl [(pl, .inr (2, [.ref q101, .ref q102, .ref q103, .ref q104, .int (-999), .int 0])), (q101, aG cs r101), (r101 0, aI cs 21 ((fun _ _ => 0) 0)), (r101 1, aI cs 21 ((fun _ _ => 0) 1)), (r101 2, aI cs 21 ((fun _ _ => 0) 2)), (r101 3, aI cs 21 ((fun _ _ => 0) 3)), (q102, aG cs r102), (r102 0, aI cs 21 ((fun _ _ => 0) 0)), (r102 1, aI cs 21 ((fun _ _ => 0) 1)), (r102 2, aI cs 21 ((fun _ _ => 0) 2)), (r102 3, aI cs 21 ((fun _ _ => 0) 3)), (q103, aG cs r103), (r103 0, aI cs 21 ((fun _ _ => 0) 0)), (r103 1, aI cs 21 ((fun _ _ => 0) 1)), (r103 2, aI cs 21 ((fun _ _ => 0) 2)), (r103 3, aI cs 21 ((fun _ _ => 0) 3)), (q104, aI cs 20 (fun _ => 0))] H := hP
  have hD : va_D A [(pl, .inr (2, [.ref q101, .ref q102, .ref q103, .ref q104, .int (-999), .int 0])), (q101, aG cs r101), (r101 0, aI cs 21 ((fun _ _ => 0) 0)), (r101 1, aI cs 21 ((fun _ _ => 0) 1)), (r101 2, aI cs 21 ((fun _ _ => 0) 2)), (r101 3, aI cs 21 ((fun _ _ => 0) 3)), (q102, aG cs r102), (r102 0, aI cs 21 ((fun _ _ => 0) 0)), (r102 1, aI cs 21 ((fun _ _ => 0) 1)), (r102 2, aI cs 21 ((fun _ _ => 0) 2)), (r102 3, aI cs 21 ((fun _ _ => 0) 3)), (q103, aG cs r103), (r103 0, aI cs 21 ((fun _ _ => 0) 0)), (r103 1, aI cs 21 ((fun _ _ => 0) 1)), (r103 2, aI cs 21 ((fun _ _ => 0) 2)), (r103 3, aI cs 21 ((fun _ _ => 0) 3)), (q104, aI cs 20 (fun _ => 0))] := hD
  refine lv_aload_n hx hb dX2_init_52 rfl (lv_at hl 0 rfl) ?_
  refine lv_bipush (v := (-9)) hx hb dX2_init_53 (by decide) ?_
  refine va_put (D := D) (ci := 2) (v := .int (-9)) (ty := .int) (C := RX2) (T := TX2) (N := 6) hx hb hts in_X2 tyX2 tyX2_ok nmX2 hown hK hP hD hS 0 rfl rfl 5 (by decide) hf_30 (fun _ h9 => h9) rfl (by decide +kernel) rfl rfl (Nat.le_of_ble_eq_true rfl) dX2_init_55 (fun H locs hP hD hS => ?_)
  have hP : va_P D vwCl [(pl, .inr (2, [.ref q101, .ref q102, .ref q103, .ref q104, .int (-999), .int (-9)])), (q101, aG cs r101), (r101 0, aI cs 21 ((fun _ _ => 0) 0)), (r101 1, aI cs 21 ((fun _ _ => 0) 1)), (r101 2, aI cs 21 ((fun _ _ => 0) 2)), (r101 3, aI cs 21 ((fun _ _ => 0) 3)), (q102, aG cs r102), (r102 0, aI cs 21 ((fun _ _ => 0) 0)), (r102 1, aI cs 21 ((fun _ _ => 0) 1)), (r102 2, aI cs 21 ((fun _ _ => 0) 2)), (r102 3, aI cs 21 ((fun _ _ => 0) 3)), (q103, aG cs r103), (r103 0, aI cs 21 ((fun _ _ => 0) 0)), (r103 1, aI cs 21 ((fun _ _ => 0) 1)), (r103 2, aI cs 21 ((fun _ _ => 0) 2)), (r103 3, aI cs 21 ((fun _ _ => 0) 3)), (q104, aI cs 20 (fun _ => 0))] H := hP
  have hD : va_D A [(pl, .inr (2, [.ref q101, .ref q102, .ref q103, .ref q104, .int (-999), .int (-9)])), (q101, aG cs r101), (r101 0, aI cs 21 ((fun _ _ => 0) 0)), (r101 1, aI cs 21 ((fun _ _ => 0) 1)), (r101 2, aI cs 21 ((fun _ _ => 0) 2)), (r101 3, aI cs 21 ((fun _ _ => 0) 3)), (q102, aG cs r102), (r102 0, aI cs 21 ((fun _ _ => 0) 0)), (r102 1, aI cs 21 ((fun _ _ => 0) 1)), (r102 2, aI cs 21 ((fun _ _ => 0) 2)), (r102 3, aI cs 21 ((fun _ _ => 0) 3)), (q103, aG cs r103), (r103 0, aI cs 21 ((fun _ _ => 0) 0)), (r103 1, aI cs 21 ((fun _ _ => 0) 1)), (r103 2, aI cs 21 ((fun _ _ => 0) 2)), (r103 3, aI cs 21 ((fun _ _ => 0) 3)), (q104, aI cs 20 (fun _ => 0))] := hD
  exact rt_v hx hb hr hlocks (q101, r101, q102, r102, q103, r103, q104) (trivial) hP hD hS dX2_init_58
set_option maxHeartbeats 4000000 in
set_option maxRecDepth 100000 in
theorem c_X0_init (l : Launch) (D : va_G) (cs : Nat → ClassId) (sz : Nat) (cq : Nat)  : mVX (S := Nat × Nat × Nat × (Nat → Nat) × Nat × (Nat → Nat)) l yX0_init wsX0_init ({ frames := 1, cells := 12, slots := 200, locals := 20 } : Room) D (tyc cs) sz [.ref cq] [] [(cq, .inr (0, [.null, .null, .null, .null, .int 0, .int 0]))] (fun (u : Nat × Nat × Nat × (Nat → Nat) × Nat × (Nat → Nat)) => match u with | (w1, w2, w3, r3, w4, r4) => True) (fun (u : Nat × Nat × Nat × (Nat → Nat) × Nat × (Nat → Nat)) => match u with | (w1, w2, w3, r3, w4, r4) => [(cq, .inr (0, [.ref w1, .ref w2, .ref w3, .ref w4, .int 0, .int 0])), (w1, aI cs 20 (fun _ => 0)), (w2, aZ cs 4 (fun _ => 0)), (w3, aM cs r3), (r3 0, aL cs 21 ((fun _ _ => 0) 0)), (r3 1, aL cs 21 ((fun _ _ => 0) 1)), (r3 2, aL cs 21 ((fun _ _ => 0) 2)), (r3 3, aL cs 21 ((fun _ _ => 0) 3)), (w4, aM cs r4), (r4 0, aL cs 21 ((fun _ _ => 0) 0)), (r4 1, aL cs 21 ((fun _ _ => 0) 1)), (r4 2, aL cs 21 ((fun _ _ => 0) 2)), (r4 3, aL cs 21 ((fun _ _ => 0) 3))]) 12 200 tx_Y := by
  unfold mVX
  refine Met.ofW (cc := cX0_init) (maxL := 1) (ret := none) (by decide) rfl ?_
  intro p e s m args below meth c s₁ B hml hv
  obtain ⟨rfl, hsz, hP, hK, hD0, hX⟩ := hv
  have hin : meth.name = "<init>" := (name_of_methodNamed B.named B.method).1
  have hx := B.exec
  have hb := B.bytes
  have hr := B.returns
  have hts := atoms_spec (ws := wsX0_init) B.pre
  have hown : s.vm.findClass RX0 = some m.cls := findClass_of_methodNamed B.named
  have hlocks := B.notSynchronized
  subst hsz
  have hR := @en_R _ _ _ [] [(cq, .inr (0, [.null, .null, .null, .null, .int 0, .int 0]))] _ hP hD0
  have hN := adN_of hD0
  have hD := en_D (wr := []) (ww := [(cq, .inr (0, [.null, .null, .null, .null, .int 0, .int 0]))]) (sz := s.heap.size) hD0
  have hP := en_P (wr := []) (ww := [(cq, .inr (0, [.null, .null, .null, .null, .int 0, .int 0]))]) hP
  generalize hAe : va_A [(cq, .inr (0, [.null, .null, .null, .null, .int 0, .int 0]))] s.heap.size = A at hD hR ⊢
  have hA : ∀ q : Nat, s.heap.size ≤ q → A q := fun q h => by rw [← hAe]; exact Or.inr h
  have hS : va_S A s.heap s.heap [] := va_S.rf
  have hN : adN [cq] := hN
  have hf_9 := hts (.fieldLink RX0 9 "TaxedByLongest$Counting" "known" "[I") (by decide +kernel)
  have hf_15 := hts (.fieldLink RX0 15 "TaxedByLongest$Counting" "isTaxed" "[Z") (by decide +kernel)
  have hf_21 := hts (.fieldLink RX0 21 "TaxedByLongest$Counting" "starts" "[[J") (by decide +kernel)
  have hf_24 := hts (.fieldLink RX0 24 "TaxedByLongest$Counting" "rests" "[[J") (by decide +kernel)
  have hf_27 := hts (.fieldLink RX0 27 "TaxedByLongest$Counting" "days" "I") (by decide +kernel)
  have hf_31 := hts (.fieldLink RX0 31 "TaxedByLongest$Counting" "things" "I") (by decide +kernel)
  have in_X0 : ∀ w ∈ wsX00, w ∈ wsX0_init := by decide +kernel
  have hl := lv_entry ([.ref cq]) (n := 1) (Nat.le_of_ble_eq_true rfl)
  rw [lg_entry_eq]
  generalize (lg_sl ([.ref cq]) ++ List.replicate (1 - (lg_sl ([.ref cq])).length) Slot.unset).toArray = ls at hl ⊢
  have hl : lv_has ls 1 [(0, .ref cq)] := hl
  refine lv_aload_n hx hb dX0_init_0 rfl (lv_at hl 0 rfl) ?_
  refine W.objInit hx hb hown (hts (.methodLink RX0 3 objectInit) (by decide +kernel)) (hts (.instanceMethod objectInit) (by decide +kernel)) (hts (.code objectInit ⟨#[0xb1]⟩ 1 none) (by decide +kernel)) rfl (by rw [hml]; exact hl.1) rfl dX0_init_1 (Nat.le_of_ble_eq_true rfl) (Nat.le_of_ble_eq_true rfl) ?_
  refine W.eq (g2 := F0 m 4 ls []) rfl ?_
  refine lv_aload_n hx hb dX0_init_4 rfl (lv_at hl 0 rfl) ?_
  refine lv_bipush (v := 20) hx hb dX0_init_5 (by decide) ?_
  refine na_n (atype := .int) (ty := .int) hx hb (hts (.arrayClass .int) (by decide +kernel)) rfl 0 rfl hK hP hD hS hA (a0 := (20, .inl (fun _ => 0))) (fun _ => rfl) (by decide) (by decide) (by decide) (Nat.le_of_ble_eq_true rfl) (Nat.le_of_ble_eq_true rfl) dX0_init_7 (fun q101 H hP hD hS => ?_)
  have hP : va_P D vwCl [(cq, .inr (0, [.null, .null, .null, .null, .int 0, .int 0])), (q101, aI cs 20 (fun _ => 0))] H := hP
  have hD : va_D A [(cq, .inr (0, [.null, .null, .null, .null, .int 0, .int 0])), (q101, aI cs 20 (fun _ => 0))] := hD
  refine va_putF (D := D) (ci := 0) (v := .ref q101) (ty := (.array .int)) (C := RX0) (T := TX0) (N := 6) hx hb hts in_X0 tyX0 tyX0_ok nmX0 hown hK hP hD hS 0 rfl rfl 0 (by decide) hf_9 (fun _ h9 => h9) rfl hin rfl (by decide +kernel) rfl rfl (Nat.le_of_ble_eq_true rfl) dX0_init_9 (fun H locs hP hD hS => ?_)
  have hP : va_P D vwCl [(cq, .inr (0, [.ref q101, .null, .null, .null, .int 0, .int 0])), (q101, aI cs 20 (fun _ => 0))] H := hP
  have hD : va_D A [(cq, .inr (0, [.ref q101, .null, .null, .null, .int 0, .int 0])), (q101, aI cs 20 (fun _ => 0))] := hD
  refine lv_aload_n hx hb dX0_init_12 rfl (lv_at hl 0 rfl) ?_
  refine lv_iconst (v := 4) hx hb dX0_init_13 (by decide) ?_
  refine na_n (atype := .boolean) (ty := .boolean) hx hb (hts (.arrayClass .boolean) (by decide +kernel)) rfl 2 rfl hK hP hD hS hA (a0 := (4, .inl (fun _ => 0))) (fun _ => rfl) (by decide) (by decide) (by decide) (Nat.le_of_ble_eq_true rfl) (Nat.le_of_ble_eq_true rfl) dX0_init_14 (fun q102 H hP hD hS => ?_)
  have hP : va_P D vwCl [(cq, .inr (0, [.ref q101, .null, .null, .null, .int 0, .int 0])), (q101, aI cs 20 (fun _ => 0)), (q102, aZ cs 4 (fun _ => 0))] H := hP
  have hD : va_D A [(cq, .inr (0, [.ref q101, .null, .null, .null, .int 0, .int 0])), (q101, aI cs 20 (fun _ => 0)), (q102, aZ cs 4 (fun _ => 0))] := hD
  refine va_putF (D := D) (ci := 0) (v := .ref q102) (ty := (.array .boolean)) (C := RX0) (T := TX0) (N := 6) hx hb hts in_X0 tyX0 tyX0_ok nmX0 hown hK hP hD hS 0 rfl rfl 1 (by decide) hf_15 (fun _ h9 => h9) rfl hin rfl (by decide +kernel) rfl rfl (Nat.le_of_ble_eq_true rfl) dX0_init_16 (fun H locs hP hD hS => ?_)
  have hP : va_P D vwCl [(cq, .inr (0, [.ref q101, .ref q102, .null, .null, .int 0, .int 0])), (q101, aI cs 20 (fun _ => 0)), (q102, aZ cs 4 (fun _ => 0))] H := hP
  have hD : va_D A [(cq, .inr (0, [.ref q101, .ref q102, .null, .null, .int 0, .int 0])), (q101, aI cs 20 (fun _ => 0)), (q102, aZ cs 4 (fun _ => 0))] := hD
  refine lv_aload_n hx hb dX0_init_19 rfl (lv_at hl 0 rfl) ?_
  refine lv_iconst (v := 4) hx hb dX0_init_20 (by decide) ?_
  refine lv_bipush (v := 21) hx hb dX0_init_21 (by decide) ?_
  refine mn_n (ty := .long) hx hb hown (hts (.classLink RX0 19 "[[J") (by decide +kernel)) hX.2.1 (hts (.arrayClass .long) (by decide +kernel)) 4 1 rfl (hK.2 1 _ rfl).2 hK hP hD hS hA (z := (21, .inr (.inl (fun _ => 0)))) (by decide) (by decide) (by decide) (Nat.le_of_ble_eq_true rfl) (Nat.le_of_ble_eq_true rfl) (fun c9 => by show ({ cls := c9, slots := Array.replicate 21 (defaultValue _), vm := .none } : Cell) = _; rw [arrV_new]; rfl) dX0_init_23 (fun q103 r103 H hP hD hS => ?_)
  have hP : va_P D vwCl [(cq, .inr (0, [.ref q101, .ref q102, .null, .null, .int 0, .int 0])), (q101, aI cs 20 (fun _ => 0)), (q102, aZ cs 4 (fun _ => 0)), (q103, aM cs r103), (r103 0, aL cs 21 ((fun _ _ => 0) 0)), (r103 1, aL cs 21 ((fun _ _ => 0) 1)), (r103 2, aL cs 21 ((fun _ _ => 0) 2)), (r103 3, aL cs 21 ((fun _ _ => 0) 3))] H := hP
  have hD : va_D A [(cq, .inr (0, [.ref q101, .ref q102, .null, .null, .int 0, .int 0])), (q101, aI cs 20 (fun _ => 0)), (q102, aZ cs 4 (fun _ => 0)), (q103, aM cs r103), (r103 0, aL cs 21 ((fun _ _ => 0) 0)), (r103 1, aL cs 21 ((fun _ _ => 0) 1)), (r103 2, aL cs 21 ((fun _ _ => 0) 2)), (r103 3, aL cs 21 ((fun _ _ => 0) 3))] := hD
  refine va_putF (D := D) (ci := 0) (v := .ref q103) (ty := (.array (.array .long))) (C := RX0) (T := TX0) (N := 6) hx hb hts in_X0 tyX0 tyX0_ok nmX0 hown hK hP hD hS 0 rfl rfl 2 (by decide) hf_21 (fun _ h9 => h9) rfl hin rfl (by decide +kernel) rfl rfl (Nat.le_of_ble_eq_true rfl) dX0_init_27 (fun H locs hP hD hS => ?_)
  have hP : va_P D vwCl [(cq, .inr (0, [.ref q101, .ref q102, .ref q103, .null, .int 0, .int 0])), (q101, aI cs 20 (fun _ => 0)), (q102, aZ cs 4 (fun _ => 0)), (q103, aM cs r103), (r103 0, aL cs 21 ((fun _ _ => 0) 0)), (r103 1, aL cs 21 ((fun _ _ => 0) 1)), (r103 2, aL cs 21 ((fun _ _ => 0) 2)), (r103 3, aL cs 21 ((fun _ _ => 0) 3))] H := hP
  have hD : va_D A [(cq, .inr (0, [.ref q101, .ref q102, .ref q103, .null, .int 0, .int 0])), (q101, aI cs 20 (fun _ => 0)), (q102, aZ cs 4 (fun _ => 0)), (q103, aM cs r103), (r103 0, aL cs 21 ((fun _ _ => 0) 0)), (r103 1, aL cs 21 ((fun _ _ => 0) 1)), (r103 2, aL cs 21 ((fun _ _ => 0) 2)), (r103 3, aL cs 21 ((fun _ _ => 0) 3))] := hD
  refine lv_aload_n hx hb dX0_init_30 rfl (lv_at hl 0 rfl) ?_
  refine lv_iconst (v := 4) hx hb dX0_init_31 (by decide) ?_
  refine lv_bipush (v := 21) hx hb dX0_init_32 (by decide) ?_
  refine mn_n (ty := .long) hx hb hown (hts (.classLink RX0 19 "[[J") (by decide +kernel)) hX.2.1 (hts (.arrayClass .long) (by decide +kernel)) 4 1 rfl (hK.2 1 _ rfl).2 hK hP hD hS hA (z := (21, .inr (.inl (fun _ => 0)))) (by decide) (by decide) (by decide) (Nat.le_of_ble_eq_true rfl) (Nat.le_of_ble_eq_true rfl) (fun c9 => by show ({ cls := c9, slots := Array.replicate 21 (defaultValue _), vm := .none } : Cell) = _; rw [arrV_new]; rfl) dX0_init_34 (fun q104 r104 H hP hD hS => ?_)
  have hP : va_P D vwCl [(cq, .inr (0, [.ref q101, .ref q102, .ref q103, .null, .int 0, .int 0])), (q101, aI cs 20 (fun _ => 0)), (q102, aZ cs 4 (fun _ => 0)), (q103, aM cs r103), (r103 0, aL cs 21 ((fun _ _ => 0) 0)), (r103 1, aL cs 21 ((fun _ _ => 0) 1)), (r103 2, aL cs 21 ((fun _ _ => 0) 2)), (r103 3, aL cs 21 ((fun _ _ => 0) 3)), (q104, aM cs r104), (r104 0, aL cs 21 ((fun _ _ => 0) 0)), (r104 1, aL cs 21 ((fun _ _ => 0) 1)), (r104 2, aL cs 21 ((fun _ _ => 0) 2)), (r104 3, aL cs 21 ((fun _ _ => 0) 3))] H := hP
  have hD : va_D A [(cq, .inr (0, [.ref q101, .ref q102, .ref q103, .null, .int 0, .int 0])), (q101, aI cs 20 (fun _ => 0)), (q102, aZ cs 4 (fun _ => 0)), (q103, aM cs r103), (r103 0, aL cs 21 ((fun _ _ => 0) 0)), (r103 1, aL cs 21 ((fun _ _ => 0) 1)), (r103 2, aL cs 21 ((fun _ _ => 0) 2)), (r103 3, aL cs 21 ((fun _ _ => 0) 3)), (q104, aM cs r104), (r104 0, aL cs 21 ((fun _ _ => 0) 0)), (r104 1, aL cs 21 ((fun _ _ => 0) 1)), (r104 2, aL cs 21 ((fun _ _ => 0) 2)), (r104 3, aL cs 21 ((fun _ _ => 0) 3))] := hD
  refine va_putF (D := D) (ci := 0) (v := .ref q104) (ty := (.array (.array .long))) (C := RX0) (T := TX0) (N := 6) hx hb hts in_X0 tyX0 tyX0_ok nmX0 hown hK hP hD hS 0 rfl rfl 3 (by decide) hf_24 (fun _ h9 => h9) rfl hin rfl (by decide +kernel) rfl rfl (Nat.le_of_ble_eq_true rfl) dX0_init_38 (fun H locs hP hD hS => ?_)
  have hP : va_P D vwCl [(cq, .inr (0, [.ref q101, .ref q102, .ref q103, .ref q104, .int 0, .int 0])), (q101, aI cs 20 (fun _ => 0)), (q102, aZ cs 4 (fun _ => 0)), (q103, aM cs r103), (r103 0, aL cs 21 ((fun _ _ => 0) 0)), (r103 1, aL cs 21 ((fun _ _ => 0) 1)), (r103 2, aL cs 21 ((fun _ _ => 0) 2)), (r103 3, aL cs 21 ((fun _ _ => 0) 3)), (q104, aM cs r104), (r104 0, aL cs 21 ((fun _ _ => 0) 0)), (r104 1, aL cs 21 ((fun _ _ => 0) 1)), (r104 2, aL cs 21 ((fun _ _ => 0) 2)), (r104 3, aL cs 21 ((fun _ _ => 0) 3))] H := hP
  have hD : va_D A [(cq, .inr (0, [.ref q101, .ref q102, .ref q103, .ref q104, .int 0, .int 0])), (q101, aI cs 20 (fun _ => 0)), (q102, aZ cs 4 (fun _ => 0)), (q103, aM cs r103), (r103 0, aL cs 21 ((fun _ _ => 0) 0)), (r103 1, aL cs 21 ((fun _ _ => 0) 1)), (r103 2, aL cs 21 ((fun _ _ => 0) 2)), (r103 3, aL cs 21 ((fun _ _ => 0) 3)), (q104, aM cs r104), (r104 0, aL cs 21 ((fun _ _ => 0) 0)), (r104 1, aL cs 21 ((fun _ _ => 0) 1)), (r104 2, aL cs 21 ((fun _ _ => 0) 2)), (r104 3, aL cs 21 ((fun _ _ => 0) 3))] := hD
  refine lv_aload_n hx hb dX0_init_41 rfl (lv_at hl 0 rfl) ?_
  refine lv_iconst (v := 0) hx hb dX0_init_42 (by decide) ?_
  refine va_put (D := D) (ci := 0) (v := .int 0) (ty := .int) (C := RX0) (T := TX0) (N := 6) hx hb hts in_X0 tyX0 tyX0_ok nmX0 hown hK hP hD hS 0 rfl rfl 4 (by decide) hf_27 (fun _ h9 => h9) rfl (by decide +kernel) rfl rfl (Nat.le_of_ble_eq_true rfl) dX0_init_43 (fun H locs hP hD hS => ?_)
  have hP : va_P D vwCl [(cq, .inr (0, [.ref q101, .ref q102, .ref q103, .ref q104, .int 0, .int 0])), (q101, aI cs 20 (fun _ => 0)), (q102, aZ cs 4 (fun _ => 0)), (q103, aM cs r103), (r103 0, aL cs 21 ((fun _ _ => 0) 0)), (r103 1, aL cs 21 ((fun _ _ => 0) 1)), (r103 2, aL cs 21 ((fun _ _ => 0) 2)), (r103 3, aL cs 21 ((fun _ _ => 0) 3)), (q104, aM cs r104), (r104 0, aL cs 21 ((fun _ _ => 0) 0)), (r104 1, aL cs 21 ((fun _ _ => 0) 1)), (r104 2, aL cs 21 ((fun _ _ => 0) 2)), (r104 3, aL cs 21 ((fun _ _ => 0) 3))] H := hP
  have hD : va_D A [(cq, .inr (0, [.ref q101, .ref q102, .ref q103, .ref q104, .int 0, .int 0])), (q101, aI cs 20 (fun _ => 0)), (q102, aZ cs 4 (fun _ => 0)), (q103, aM cs r103), (r103 0, aL cs 21 ((fun _ _ => 0) 0)), (r103 1, aL cs 21 ((fun _ _ => 0) 1)), (r103 2, aL cs 21 ((fun _ _ => 0) 2)), (r103 3, aL cs 21 ((fun _ _ => 0) 3)), (q104, aM cs r104), (r104 0, aL cs 21 ((fun _ _ => 0) 0)), (r104 1, aL cs 21 ((fun _ _ => 0) 1)), (r104 2, aL cs 21 ((fun _ _ => 0) 2)), (r104 3, aL cs 21 ((fun _ _ => 0) 3))] := hD
  refine lv_aload_n hx hb dX0_init_46 rfl (lv_at hl 0 rfl) ?_
  refine lv_iconst (v := 0) hx hb dX0_init_47 (by decide) ?_
  refine va_put (D := D) (ci := 0) (v := .int 0) (ty := .int) (C := RX0) (T := TX0) (N := 6) hx hb hts in_X0 tyX0 tyX0_ok nmX0 hown hK hP hD hS 0 rfl rfl 5 (by decide) hf_31 (fun _ h9 => h9) rfl (by decide +kernel) rfl rfl (Nat.le_of_ble_eq_true rfl) dX0_init_48 (fun H locs hP hD hS => ?_)
  have hP : va_P D vwCl [(cq, .inr (0, [.ref q101, .ref q102, .ref q103, .ref q104, .int 0, .int 0])), (q101, aI cs 20 (fun _ => 0)), (q102, aZ cs 4 (fun _ => 0)), (q103, aM cs r103), (r103 0, aL cs 21 ((fun _ _ => 0) 0)), (r103 1, aL cs 21 ((fun _ _ => 0) 1)), (r103 2, aL cs 21 ((fun _ _ => 0) 2)), (r103 3, aL cs 21 ((fun _ _ => 0) 3)), (q104, aM cs r104), (r104 0, aL cs 21 ((fun _ _ => 0) 0)), (r104 1, aL cs 21 ((fun _ _ => 0) 1)), (r104 2, aL cs 21 ((fun _ _ => 0) 2)), (r104 3, aL cs 21 ((fun _ _ => 0) 3))] H := hP
  have hD : va_D A [(cq, .inr (0, [.ref q101, .ref q102, .ref q103, .ref q104, .int 0, .int 0])), (q101, aI cs 20 (fun _ => 0)), (q102, aZ cs 4 (fun _ => 0)), (q103, aM cs r103), (r103 0, aL cs 21 ((fun _ _ => 0) 0)), (r103 1, aL cs 21 ((fun _ _ => 0) 1)), (r103 2, aL cs 21 ((fun _ _ => 0) 2)), (r103 3, aL cs 21 ((fun _ _ => 0) 3)), (q104, aM cs r104), (r104 0, aL cs 21 ((fun _ _ => 0) 0)), (r104 1, aL cs 21 ((fun _ _ => 0) 1)), (r104 2, aL cs 21 ((fun _ _ => 0) 2)), (r104 3, aL cs 21 ((fun _ _ => 0) 3))] := hD
  exact rt_v hx hb hr hlocks (q101, q102, q103, r103, q104, r104) (trivial) hP hD hS dX0_init_51
set_option maxHeartbeats 4000000 in
set_option maxRecDepth 100000 in
theorem c_X3_init (l : Launch) (D : va_G) (cs : Nat → ClassId) (sz : Nat) (tx : Nat)  : mVX (S := Nat × Nat × Nat × Nat × Nat × Nat × Nat × Nat × Nat) l yX3_init wsX3_init ({ frames := 2, cells := 9, slots := 150, locals := 43 } : Room) D (tyc cs) sz [.ref tx] [] [(tx, .inr (3, [.null, .int 0, .int 0, .int 0, .null, .null]))] (fun (u : Nat × Nat × Nat × Nat × Nat × Nat × Nat × Nat × Nat) => match u with | (w1, w2, w3, v0, v1, v2, v3, v4, v5) => True) (fun (u : Nat × Nat × Nat × Nat × Nat × Nat × Nat × Nat × Nat) => match u with | (w1, w2, w3, v0, v1, v2, v3, v4, v5) => [(tx, .inr (3, [.ref w1, .int 0, .int 0, .int 0, .ref w2, .ref w3])), (w1, aI cs 80 (fun _ => 0)), (w2, aI cs 4 (fun _ => 0)), (w3, .inr (4, [.ref v0, .ref v1, .ref v2, .ref v3, .ref v4, .ref v5, .int 0, .int 10, .int 1, .int 0])), (v0, aI cs 4 (fun _ => 0)), (v1, aI cs 4 (fun _ => 0)), (v2, aI cs 4 (fun _ => 0)), (v3, aI cs 4 (fun _ => 0)), (v4, aI cs 20 (fun _ => 0)), (v5, aI cs 20 (fun _ => -9))]) 9 150 tx_Y := by
  unfold mVX
  refine Met.ofW (cc := cX3_init) (maxL := 1) (ret := none) (by decide) rfl ?_
  intro p e s m args below meth c s₁ B hml hv
  obtain ⟨rfl, hsz, hP, hK, hD0, hX⟩ := hv
  have hin : meth.name = "<init>" := (name_of_methodNamed B.named B.method).1
  have hx := B.exec
  have hb := B.bytes
  have hr := B.returns
  have hts := atoms_spec (ws := wsX3_init) B.pre
  have hown : s.vm.findClass RX3 = some m.cls := findClass_of_methodNamed B.named
  have hlocks := B.notSynchronized
  subst hsz
  have hR := @en_R _ _ _ [] [(tx, .inr (3, [.null, .int 0, .int 0, .int 0, .null, .null]))] _ hP hD0
  have hN := adN_of hD0
  have hD := en_D (wr := []) (ww := [(tx, .inr (3, [.null, .int 0, .int 0, .int 0, .null, .null]))]) (sz := s.heap.size) hD0
  have hP := en_P (wr := []) (ww := [(tx, .inr (3, [.null, .int 0, .int 0, .int 0, .null, .null]))]) hP
  generalize hAe : va_A [(tx, .inr (3, [.null, .int 0, .int 0, .int 0, .null, .null]))] s.heap.size = A at hD hR ⊢
  have hA : ∀ q : Nat, s.heap.size ≤ q → A q := fun q h => by rw [← hAe]; exact Or.inr h
  have hS : va_S A s.heap s.heap [] := va_S.rf
  have hN : adN [tx] := hN
  have hf_9 := hts (.fieldLink RX3 9 "TaxedByLongest$Text" "letters" "[I") (by decide +kernel)
  have hf_15 := hts (.fieldLink RX3 15 "TaxedByLongest$Text" "size" "I") (by decide +kernel)
  have hf_19 := hts (.fieldLink RX3 19 "TaxedByLongest$Text" "at" "I") (by decide +kernel)
  have hf_22 := hts (.fieldLink RX3 22 "TaxedByLongest$Text" "head" "I") (by decide +kernel)
  have hf_25 := hts (.fieldLink RX3 25 "TaxedByLongest$Text" "numbers" "[I") (by decide +kernel)
  have hf_31 := hts (.fieldLink RX3 31 "TaxedByLongest$Text" "trial" "LTaxedByLongest$Told;") (by decide +kernel)
  have in_X3 : ∀ w ∈ wsX30, w ∈ wsX3_init := by decide +kernel
  have in_X4 : ∀ w ∈ wsX40, w ∈ wsX3_init := by decide +kernel
  have hl := lv_entry ([.ref tx]) (n := 1) (Nat.le_of_ble_eq_true rfl)
  rw [lg_entry_eq]
  generalize (lg_sl ([.ref tx]) ++ List.replicate (1 - (lg_sl ([.ref tx])).length) Slot.unset).toArray = ls at hl ⊢
  have hl : lv_has ls 1 [(0, .ref tx)] := hl
  refine lv_aload_n hx hb dX3_init_0 rfl (lv_at hl 0 rfl) ?_
  refine W.objInit hx hb hown (hts (.methodLink RX3 3 objectInit) (by decide +kernel)) (hts (.instanceMethod objectInit) (by decide +kernel)) (hts (.code objectInit ⟨#[0xb1]⟩ 1 none) (by decide +kernel)) rfl (by rw [hml]; exact hl.1) rfl dX3_init_1 (Nat.le_of_ble_eq_true rfl) (Nat.le_of_ble_eq_true rfl) ?_
  refine W.eq (g2 := F0 m 4 ls []) rfl ?_
  refine lv_aload_n hx hb dX3_init_4 rfl (lv_at hl 0 rfl) ?_
  refine lv_bipush (v := 80) hx hb dX3_init_5 (by decide) ?_
  refine na_n (atype := .int) (ty := .int) hx hb (hts (.arrayClass .int) (by decide +kernel)) rfl 0 rfl hK hP hD hS hA (a0 := (80, .inl (fun _ => 0))) (fun _ => rfl) (by decide) (by decide) (by decide) (Nat.le_of_ble_eq_true rfl) (Nat.le_of_ble_eq_true rfl) dX3_init_7 (fun q101 H hP hD hS => ?_)
  have hP : va_P D vwCl [(tx, .inr (3, [.null, .int 0, .int 0, .int 0, .null, .null])), (q101, aI cs 80 (fun _ => 0))] H := hP
  have hD : va_D A [(tx, .inr (3, [.null, .int 0, .int 0, .int 0, .null, .null])), (q101, aI cs 80 (fun _ => 0))] := hD
  refine va_putF (D := D) (ci := 3) (v := .ref q101) (ty := (.array .int)) (C := RX3) (T := TX3) (N := 6) hx hb hts in_X3 tyX3 tyX3_ok nmX3 hown hK hP hD hS 0 rfl rfl 0 (by decide) hf_9 (fun _ h9 => h9) rfl hin rfl (by decide +kernel) rfl rfl (Nat.le_of_ble_eq_true rfl) dX3_init_9 (fun H locs hP hD hS => ?_)
  have hP : va_P D vwCl [(tx, .inr (3, [.ref q101, .int 0, .int 0, .int 0, .null, .null])), (q101, aI cs 80 (fun _ => 0))] H := hP
  have hD : va_D A [(tx, .inr (3, [.ref q101, .int 0, .int 0, .int 0, .null, .null])), (q101, aI cs 80 (fun _ => 0))] := hD
  refine lv_aload_n hx hb dX3_init_12 rfl (lv_at hl 0 rfl) ?_
  refine lv_iconst (v := 0) hx hb dX3_init_13 (by decide) ?_
  refine va_put (D := D) (ci := 3) (v := .int 0) (ty := .int) (C := RX3) (T := TX3) (N := 6) hx hb hts in_X3 tyX3 tyX3_ok nmX3 hown hK hP hD hS 0 rfl rfl 1 (by decide) hf_15 (fun _ h9 => h9) rfl (by decide +kernel) rfl rfl (Nat.le_of_ble_eq_true rfl) dX3_init_14 (fun H locs hP hD hS => ?_)
  have hP : va_P D vwCl [(tx, .inr (3, [.ref q101, .int 0, .int 0, .int 0, .null, .null])), (q101, aI cs 80 (fun _ => 0))] H := hP
  have hD : va_D A [(tx, .inr (3, [.ref q101, .int 0, .int 0, .int 0, .null, .null])), (q101, aI cs 80 (fun _ => 0))] := hD
  refine lv_aload_n hx hb dX3_init_17 rfl (lv_at hl 0 rfl) ?_
  refine lv_iconst (v := 0) hx hb dX3_init_18 (by decide) ?_
  refine va_put (D := D) (ci := 3) (v := .int 0) (ty := .int) (C := RX3) (T := TX3) (N := 6) hx hb hts in_X3 tyX3 tyX3_ok nmX3 hown hK hP hD hS 0 rfl rfl 2 (by decide) hf_19 (fun _ h9 => h9) rfl (by decide +kernel) rfl rfl (Nat.le_of_ble_eq_true rfl) dX3_init_19 (fun H locs hP hD hS => ?_)
  have hP : va_P D vwCl [(tx, .inr (3, [.ref q101, .int 0, .int 0, .int 0, .null, .null])), (q101, aI cs 80 (fun _ => 0))] H := hP
  have hD : va_D A [(tx, .inr (3, [.ref q101, .int 0, .int 0, .int 0, .null, .null])), (q101, aI cs 80 (fun _ => 0))] := hD
  refine lv_aload_n hx hb dX3_init_22 rfl (lv_at hl 0 rfl) ?_
  refine lv_iconst (v := 0) hx hb dX3_init_23 (by decide) ?_
  refine va_put (D := D) (ci := 3) (v := .int 0) (ty := .int) (C := RX3) (T := TX3) (N := 6) hx hb hts in_X3 tyX3 tyX3_ok nmX3 hown hK hP hD hS 0 rfl rfl 3 (by decide) hf_22 (fun _ h9 => h9) rfl (by decide +kernel) rfl rfl (Nat.le_of_ble_eq_true rfl) dX3_init_24 (fun H locs hP hD hS => ?_)
  have hP : va_P D vwCl [(tx, .inr (3, [.ref q101, .int 0, .int 0, .int 0, .null, .null])), (q101, aI cs 80 (fun _ => 0))] H := hP
  have hD : va_D A [(tx, .inr (3, [.ref q101, .int 0, .int 0, .int 0, .null, .null])), (q101, aI cs 80 (fun _ => 0))] := hD
  refine lv_aload_n hx hb dX3_init_27 rfl (lv_at hl 0 rfl) ?_
  refine lv_iconst (v := 4) hx hb dX3_init_28 (by decide) ?_
  refine na_n (atype := .int) (ty := .int) hx hb (hts (.arrayClass .int) (by decide +kernel)) rfl 0 rfl hK hP hD hS hA (a0 := (4, .inl (fun _ => 0))) (fun _ => rfl) (by decide) (by decide) (by decide) (Nat.le_of_ble_eq_true rfl) (Nat.le_of_ble_eq_true rfl) dX3_init_29 (fun q102 H hP hD hS => ?_)
  have hP : va_P D vwCl [(tx, .inr (3, [.ref q101, .int 0, .int 0, .int 0, .null, .null])), (q101, aI cs 80 (fun _ => 0)), (q102, aI cs 4 (fun _ => 0))] H := hP
  have hD : va_D A [(tx, .inr (3, [.ref q101, .int 0, .int 0, .int 0, .null, .null])), (q101, aI cs 80 (fun _ => 0)), (q102, aI cs 4 (fun _ => 0))] := hD
  refine va_putF (D := D) (ci := 3) (v := .ref q102) (ty := (.array .int)) (C := RX3) (T := TX3) (N := 6) hx hb hts in_X3 tyX3 tyX3_ok nmX3 hown hK hP hD hS 0 rfl rfl 4 (by decide) hf_25 (fun _ h9 => h9) rfl hin rfl (by decide +kernel) rfl rfl (Nat.le_of_ble_eq_true rfl) dX3_init_31 (fun H locs hP hD hS => ?_)
  have hP : va_P D vwCl [(tx, .inr (3, [.ref q101, .int 0, .int 0, .int 0, .ref q102, .null])), (q101, aI cs 80 (fun _ => 0)), (q102, aI cs 4 (fun _ => 0))] H := hP
  have hD : va_D A [(tx, .inr (3, [.ref q101, .int 0, .int 0, .int 0, .ref q102, .null])), (q101, aI cs 80 (fun _ => 0)), (q102, aI cs 4 (fun _ => 0))] := hD
  refine lv_aload_n hx hb dX3_init_34 rfl (lv_at hl 0 rfl) ?_
  refine va_new (ci := 4) (fs := [.null, .null, .null, .null, .null, .null, .int 0, .int 0, .int 0, .int 0]) (C := RX4) (T := TX4) (N := 10) hx hb hts in_X4 tyX4 tyX4_ok hown (hts (.classLink RX3 28 RX4) (by decide +kernel)) (hts (.instantiable RX4 10) (by decide +kernel)) (hts (.initialized RX4) (by decide +kernel)) hK hP hD hS hA rfl (fun j hj => by rcases (show j = 0 ∨ j = 1 ∨ j = 2 ∨ j = 3 ∨ j = 4 ∨ j = 5 ∨ j = 6 ∨ j = 7 ∨ j = 8 ∨ j = 9 by omega) with rfl | rfl | rfl | rfl | rfl | rfl | rfl | rfl | rfl | rfl <;> rfl) (Nat.le_of_ble_eq_true rfl) (Nat.le_of_ble_eq_true rfl) dX3_init_35 (fun q103 H hP hD hS => ?_)
  have hP : va_P D vwCl [(tx, .inr (3, [.ref q101, .int 0, .int 0, .int 0, .ref q102, .null])), (q101, aI cs 80 (fun _ => 0)), (q102, aI cs 4 (fun _ => 0)), (q103, .inr (4, [.null, .null, .null, .null, .null, .null, .int 0, .int 0, .int 0, .int 0]))] H := hP
  have hD : va_D A [(tx, .inr (3, [.ref q101, .int 0, .int 0, .int 0, .ref q102, .null])), (q101, aI cs 80 (fun _ => 0)), (q102, aI cs 4 (fun _ => 0)), (q103, .inr (4, [.null, .null, .null, .null, .null, .null, .int 0, .int 0, .int 0, .int 0]))] := hD
  refine lv_dup hx hb dX3_init_38 rfl ?_
  refine cI_v (As := []) (rest := [.ref q103, .ref tx]) (wr := [(tx, .inr (3, [.ref q101, .int 0, .int 0, .int 0, .ref q102, .null])), (q101, aI cs 80 (fun _ => 0)), (q102, aI cs 4 (fun _ => 0))]) (cw1 := [(q103, .inr (4, [.null, .null, .null, .null, .null, .null, .int 0, .int 0, .int 0, .int 0]))]) ⟨hx, hb, hml, hown, hts⟩ (c_X4_init l D cs _ q103) (cwI 0 hts ggX3_init_X4_init rfl rfl rfl (hts (.initialized RX4) (by decide +kernel)) (hts (.methodLink RX3 30 yX4_init) (by decide +kernel)) (hts (.instanceMethod yX4_init) (by decide +kernel)) rfl (by decide +kernel) ⟨Nat.le_of_ble_eq_true rfl, Nat.le_of_ble_eq_true rfl⟩) hK hP hD hS hA hX [3] [0, 1, 2] rfl rfl rfl (by decide) (by decide) rfl rfl hl.1 rfl (Nat.le_of_ble_eq_true rfl) dX3_init_39 ⟨Nat.le_of_ble_eq_true rfl, Nat.le_of_ble_eq_true rfl⟩ (fun u9 H locs hw9 hP hD hS => ?_)
  obtain ⟨w0_1, w1_2, w2_3, w3_4, w4_5, w5_6⟩ := u9
  have hP : va_P D vwCl [(tx, .inr (3, [.ref q101, .int 0, .int 0, .int 0, .ref q102, .null])), (q101, aI cs 80 (fun _ => 0)), (q102, aI cs 4 (fun _ => 0)), (q103, .inr (4, [.ref w0_1, .ref w1_2, .ref w2_3, .ref w3_4, .ref w4_5, .ref w5_6, .int 0, .int 10, .int 1, .int 0])), (w0_1, aI cs 4 (fun _ => 0)), (w1_2, aI cs 4 (fun _ => 0)), (w2_3, aI cs 4 (fun _ => 0)), (w3_4, aI cs 4 (fun _ => 0)), (w4_5, aI cs 20 (fun _ => 0)), (w5_6, aI cs 20 (fun _ => -9))] H := hP
  have hD : va_D A [(tx, .inr (3, [.ref q101, .int 0, .int 0, .int 0, .ref q102, .null])), (q101, aI cs 80 (fun _ => 0)), (q102, aI cs 4 (fun _ => 0)), (q103, .inr (4, [.ref w0_1, .ref w1_2, .ref w2_3, .ref w3_4, .ref w4_5, .ref w5_6, .int 0, .int 10, .int 1, .int 0])), (w0_1, aI cs 4 (fun _ => 0)), (w1_2, aI cs 4 (fun _ => 0)), (w2_3, aI cs 4 (fun _ => 0)), (w3_4, aI cs 4 (fun _ => 0)), (w4_5, aI cs 20 (fun _ => 0)), (w5_6, aI cs 20 (fun _ => -9))] := hD
  refine va_putF (D := D) (ci := 3) (v := .ref q103) (ty := (.object "TaxedByLongest$Told")) (C := RX3) (T := TX3) (N := 6) hx hb hts in_X3 tyX3 tyX3_ok nmX3 hown hK hP hD hS 0 rfl rfl 5 (by decide) hf_31 (fun _ h9 => h9) rfl hin rfl (by decide +kernel) rfl rfl (Nat.le_of_ble_eq_true rfl) dX3_init_42 (fun H locs hP hD hS => ?_)
  have hP : va_P D vwCl [(tx, .inr (3, [.ref q101, .int 0, .int 0, .int 0, .ref q102, .ref q103])), (q101, aI cs 80 (fun _ => 0)), (q102, aI cs 4 (fun _ => 0)), (q103, .inr (4, [.ref w0_1, .ref w1_2, .ref w2_3, .ref w3_4, .ref w4_5, .ref w5_6, .int 0, .int 10, .int 1, .int 0])), (w0_1, aI cs 4 (fun _ => 0)), (w1_2, aI cs 4 (fun _ => 0)), (w2_3, aI cs 4 (fun _ => 0)), (w3_4, aI cs 4 (fun _ => 0)), (w4_5, aI cs 20 (fun _ => 0)), (w5_6, aI cs 20 (fun _ => -9))] H := hP
  have hD : va_D A [(tx, .inr (3, [.ref q101, .int 0, .int 0, .int 0, .ref q102, .ref q103])), (q101, aI cs 80 (fun _ => 0)), (q102, aI cs 4 (fun _ => 0)), (q103, .inr (4, [.ref w0_1, .ref w1_2, .ref w2_3, .ref w3_4, .ref w4_5, .ref w5_6, .int 0, .int 10, .int 1, .int 0])), (w0_1, aI cs 4 (fun _ => 0)), (w1_2, aI cs 4 (fun _ => 0)), (w2_3, aI cs 4 (fun _ => 0)), (w3_4, aI cs 4 (fun _ => 0)), (w4_5, aI cs 20 (fun _ => 0)), (w5_6, aI cs 20 (fun _ => -9))] := hD
  exact rt_v hx hb hr hlocks (q101, q102, q103, w0_1, w1_2, w2_3, w3_4, w4_5, w5_6) (trivial) hP hD hS dX3_init_45
