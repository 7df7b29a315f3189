set_option maxHeartbeats 20000000 in
set_option maxRecDepth 100000 in
theorem c_X6_on (l : Launch) (D : va_G) (cs : Nat → ClassId) (sz : Nat) (o : Nat) (o1 : Nat) (o2 : Nat) (o3 : Nat) (o4 : Nat) (o5 : Nat) (o6 : Nat) (o7 : Nat) (o8 : Nat) (o9 : Nat) (o10 : Nat) (o11 : Nat) (o12 : Nat) (o13 : Nat) (o14 : Nat) (o15 : Nat) (n : Nat) (dy : Nat) (ch : Nat) (lw : Nat) (tz : Nat) (at9 : Nat) (va9 : Nat) (ss : Nat) (im : Bool) (kd : Nat → Nat) (wo : Nat → Nat) (ha : Nat → Nat) (we : Nat → Nat) (bo : Nat → Option Nat) (mst : Nat → Int32) (d : Nat) (t : Int) (k : Nat) (ux : Nat) (lm : Nat) (hn : n ≤ 4) (hdy : dy ≤ 20) (hbo : tx_okb bo) (hkd : ∀ e, kd e ≤ 5) (hwo : ∀ e, wo e ≤ 9) (hha : ∀ e, ha e ≤ 3) (hwe : ∀ e, we e ≤ 3) (hch : ch ≤ 9) (hd : d < dy) (ht : -1 ≤ t ∧ t < 4) (hk : k ≤ 20) (hu : ux < n) (hl9 : lm ≤ 20) (hmst : ∀ u, u < n → ∀ k, 1 ≤ k → k ≤ 20 → mst ((4 * (d + 1) + u) * 22 + k) = iI (tx_V n dy ch kd wo ha we bo lm (dy - (d + 1)) u k)) : mI (S := Unit) l yX6_on wsX6_on ({ frames := 1, cells := 0, slots := 0, locals := 23 } : Room) D (tyc cs) sz [.ref o, .int (nI d), .int (iI t), .int (nI k), .int (nI ux), .int (nI lm)] [(o, .inr (6, [.int (nI n), .ref o1, .ref o2, .ref o3, .ref o4, .int (nI dy), .ref o5, .ref o6, .int (nI ch), .int (nI lw), .int (nI tz), .ref o7, .int (nI at9), .int (nI va9), .int (nI ss), .ref o8, .ref o9, .int (bI im), .ref o10, .ref o11, .ref o12, .ref o13, .ref o14, .ref o15])), (o1, aI cs 4 (tx_nf kd)), (o2, aI cs 4 (tx_nf wo)), (o3, aI cs 4 (tx_nf ha)), (o4, aI cs 4 (tx_nf we)), (o6, aI cs 21 (tx_bf bo)), (o12, aI cs 1848 mst)] [] (fun (r : Int32) (u : Unit) => r = iI (tx_on n dy ch kd wo ha we bo lm d t k ux)) (fun _ => []) 0 0 := by
  unfold mI
  refine Met.ofW (cc := cX6_on) (maxL := 8) (ret := (some .int)) (by decide) rfl ?_
  intro p e s m args below meth c s₁ B hml hv
  obtain ⟨rfl, hsz, hP, hK, hD0⟩ := hv
  have hx := B.exec
  have hb := B.bytes
  have hr := B.returns
  have hts := atoms_spec (ws := wsX6_on) B.pre
  have hown : s.vm.findClass RX6 = some m.cls := findClass_of_methodNamed B.named
  have hlocks := B.notSynchronized
  subst hsz
  have hR := @en_R _ _ _ [(o, .inr (6, [.int (nI n), .ref o1, .ref o2, .ref o3, .ref o4, .int (nI dy), .ref o5, .ref o6, .int (nI ch), .int (nI lw), .int (nI tz), .ref o7, .int (nI at9), .int (nI va9), .int (nI ss), .ref o8, .ref o9, .int (bI im), .ref o10, .ref o11, .ref o12, .ref o13, .ref o14, .ref o15])), (o1, aI cs 4 (tx_nf kd)), (o2, aI cs 4 (tx_nf wo)), (o3, aI cs 4 (tx_nf ha)), (o4, aI cs 4 (tx_nf we)), (o6, aI cs 21 (tx_bf bo)), (o12, aI cs 1848 mst)] [] _ hP hD0
  have hN := adN_of hD0
  have hD := en_D (wr := [(o, .inr (6, [.int (nI n), .ref o1, .ref o2, .ref o3, .ref o4, .int (nI dy), .ref o5, .ref o6, .int (nI ch), .int (nI lw), .int (nI tz), .ref o7, .int (nI at9), .int (nI va9), .int (nI ss), .ref o8, .ref o9, .int (bI im), .ref o10, .ref o11, .ref o12, .ref o13, .ref o14, .ref o15])), (o1, aI cs 4 (tx_nf kd)), (o2, aI cs 4 (tx_nf wo)), (o3, aI cs 4 (tx_nf ha)), (o4, aI cs 4 (tx_nf we)), (o6, aI cs 21 (tx_bf bo)), (o12, aI cs 1848 mst)]) (ww := []) (sz := s.heap.size) hD0
  have hP := en_P (wr := [(o, .inr (6, [.int (nI n), .ref o1, .ref o2, .ref o3, .ref o4, .int (nI dy), .ref o5, .ref o6, .int (nI ch), .int (nI lw), .int (nI tz), .ref o7, .int (nI at9), .int (nI va9), .int (nI ss), .ref o8, .ref o9, .int (bI im), .ref o10, .ref o11, .ref o12, .ref o13, .ref o14, .ref o15])), (o1, aI cs 4 (tx_nf kd)), (o2, aI cs 4 (tx_nf wo)), (o3, aI cs 4 (tx_nf ha)), (o4, aI cs 4 (tx_nf we)), (o6, aI cs 21 (tx_bf bo)), (o12, aI cs 1848 mst)]) (ww := []) hP
  generalize hAe : va_A [] s.heap.size = A at hD hR ⊢
  have hA : ∀ q : Nat, s.heap.size ≤ q → A q := fun q h => by rw [← hAe]; exact Or.inr h
  have hS : va_S A s.heap s.heap [] := va_S.rf
  have hN : adN [o, o1, o2, o3, o4, o6, o12] := hN
  have hf_25 := hts (.fieldLink RX6 25 "TaxedByLongestModel" "bound" "[I") (by decide +kernel)
  have hf_43 := hts (.fieldLink RX6 43 "TaxedByLongestModel" "most" "[I") (by decide +kernel)
  have hf_60 := hts (.fieldLink RX6 60 "TaxedByLongestModel" "change" "I") (by decide +kernel)
  have in_X6 : ∀ w ∈ wsX60, w ∈ wsX6_on := by decide +kernel
  have hl := lv_entry ([.ref o, .int (nI d), .int (iI t), .int (nI k), .int (nI ux), .int (nI lm)]) (n := 8) (Nat.le_of_ble_eq_true rfl)
  rw [lg_entry_eq]
  generalize (lg_sl ([.ref o, .int (nI d), .int (iI t), .int (nI k), .int (nI ux), .int (nI lm)]) ++ List.replicate (8 - (lg_sl ([.ref o, .int (nI d), .int (iI t), .int (nI k), .int (nI ux), .int (nI lm)])).length) Slot.unset).toArray = ls at hl ⊢
  have hl : lv_has ls 8 [(0, .ref o), (1, .int (nI d)), (2, .int (iI t)), (3, .int (nI k)), (4, .int (nI ux)), (5, .int (nI lm))] := hl
  refine lv_aload_n hx hb dX6_on_0 rfl (lv_at hl 0 rfl) ?_
  refine va_get (D := D) (ci := 6) (v := .ref o6) (C := RX6) (T := TX6) (N := 24) hx hb hts in_X6 hown hK (hR hS) 0 rfl rfl 7 (by decide) hf_25 (fun _ h9 => h9) rfl dX6_on_1 ?_
  refine lv_iload_n hx hb dX6_on_4 rfl (lv_at hl 1 rfl) ?_
  refine ia_n (f := tx_bf bo) hx hb hK (hR hS) 5 0 rfl rfl (j := d) rfl (by omega) (by decide) dX6_on_5 ?_
  refine lv_bipush (v := (-9)) hx hb dX6_on_6 (by decide) ?_
  refine lv_icmp_eq (tgt := 26) hx hb dX6_on_8 (by decide) (fun c8 => ?_) (fun c8 => ?_)
  · refine lv_iload_n hx hb dX6_on_26 rfl (lv_at hl 2 rfl) ?_
    refine lv_iload hx hb dX6_on_27 (lv_at hl 4 rfl) ?_
    refine bi_ne (a := t) (b := (ux : Int)) (tgt := 38) hx hb rfl (nI_iI _) (by omega) (by omega) (by omega) (by omega) dX6_on_29 (by decide) (fun c29 => ?_) (fun c29 => ?_)
    · refine lv_iconst (v := 1) hx hb dX6_on_38 (by decide) ?_
      refine lv_istore (lv' := [(6, .int 1), (0, .ref o), (1, .int (nI d)), (2, .int (iI t)), (3, .int (nI k)), (4, .int (nI ux)), (5, .int (nI lm))]) hx hb dX6_on_39 hl (by decide) rfl (fun ls hl => ?_)
      refine lv_iload hx hb dX6_on_41 (lv_at hl 0 rfl) ?_
      refine lv_iload hx hb dX6_on_43 (lv_at hl 6 rfl) ?_
      refine bn_le (a := 1) (b := lm) (tgt := 57) hx hb rfl rfl (by decide) (by omega) dX6_on_45 (by decide) (fun c45 => ?_) (fun c45 => ?_)
      · refine lv_iload hx hb dX6_on_57 (lv_at hl 0 rfl) ?_
        refine lv_bipush (v := 20) hx hb dX6_on_59 (by decide) ?_
        refine bn_le (a := 1) (b := 20) (tgt := 68) hx hb rfl rfl (by decide) (by decide) dX6_on_61 (by decide) (fun c61 => ?_) (fun c61 => ?_)
        · refine lv_aload_n hx hb dX6_on_68 rfl (lv_at hl 1 rfl) ?_
          refine va_get (D := D) (ci := 6) (v := .ref o12) (C := RX6) (T := TX6) (N := 24) hx hb hts in_X6 hown hK (hR hS) 0 rfl rfl 20 (by decide) hf_43 (fun _ h9 => h9) rfl dX6_on_69 ?_
          refine lv_iconst (v := 4) hx hb dX6_on_72 (by decide) ?_
          refine lv_iload_n hx hb dX6_on_73 rfl (lv_at hl 2 rfl) ?_
          refine lv_iconst (v := 1) hx hb dX6_on_74 (by decide) ?_
          refine lv_iadd hx hb dX6_on_75 ?_
          refine tp_i (nI_add d 1) ?_
          refine lv_imul hx hb dX6_on_76 ?_
          refine tp_i (pk_mul 4 (d + 1)) ?_
          refine lv_iload hx hb dX6_on_77 (lv_at hl 5 rfl) ?_
          refine lv_iadd hx hb dX6_on_79 ?_
          refine tp_i (nI_add (4 * (d + 1)) ux) ?_
          refine lv_bipush (v := 22) hx hb dX6_on_80 (by decide) ?_
          refine lv_imul hx hb dX6_on_82 ?_
          refine tp_i (pk_mul ((4 * (d + 1)) + ux) 22) ?_
          refine lv_iload hx hb dX6_on_83 (lv_at hl 0 rfl) ?_
          refine lv_iadd hx hb dX6_on_85 ?_
          refine tp_i (nI_add (((4 * (d + 1)) + ux) * 22) 1) ?_
          refine ia_n (f := mst) hx hb hK (hR hS) 6 0 rfl rfl (j := (((4 * (d + 1)) + ux) * 22) + 1) rfl (by omega) (by decide) dX6_on_86 ?_
          have hVb := tx_V_b (n := n) (dy := dy) (ch := ch) (kd := kd) (wo := wo) (ha := ha) (we := we) (bo := bo) (l := lm) hwo hha hwe hch (dy - (d + 1)) (by omega) ux (1)
          unfold tx_bo9 at hVb
          refine tp_i (show mst ((((4 * (d + 1)) + ux) * 22) + 1) = iI (tx_V n dy ch kd wo ha we bo lm (dy - (d + 1)) ux (1)) from hmst ux hu (1) (by omega) (by omega)) ?_
          refine lv_istore (lv' := [(7, .int (iI (tx_V n dy ch kd wo ha we bo lm (dy - (d + 1)) ux (1)))), (6, .int 1), (0, .ref o), (1, .int (nI d)), (2, .int (iI t)), (3, .int (nI k)), (4, .int (nI ux)), (5, .int (nI lm))]) hx hb dX6_on_87 hl (by decide) rfl (fun ls hl => ?_)
          refine lv_iload hx hb dX6_on_89 (lv_at hl 0 rfl) ?_
          refine lv_sipush (v := (-999)) hx hb dX6_on_91 (by decide) ?_
          refine bi_ne (a := tx_V n dy ch kd wo ha we bo lm (dy - (d + 1)) ux (1)) (b := (-999)) (tgt := 101) hx hb rfl (by decide) (by omega) (by omega) (by omega) (by omega) dX6_on_94 (by decide) (fun c94 => ?_) (fun c94 => ?_)
          · refine lv_iload hx hb dX6_on_101 (lv_at hl 0 rfl) ?_
            refine lv_aload_n hx hb dX6_on_103 rfl (lv_at hl 2 rfl) ?_
            refine lv_iload hx hb dX6_on_104 (lv_at hl 6 rfl) ?_
            refine lv_iload hx hb dX6_on_106 (lv_at hl 1 rfl) ?_
            refine cV_i (As := [.int (nI ux), .int 1]) (rest := [.int (iI (tx_V n dy ch kd wo ha we bo lm (dy - (d + 1)) ux (1)))]) (cr := [(o, .inr (6, [.int (nI n), .ref o1, .ref o2, .ref o3, .ref o4, .int (nI dy), .ref o5, .ref o6, .int (nI ch), .int (nI lw), .int (nI tz), .ref o7, .int (nI at9), .int (nI va9), .int (nI ss), .ref o8, .ref o9, .int (bI im), .ref o10, .ref o11, .ref o12, .ref o13, .ref o14, .ref o15])), (o1, aI cs 4 (tx_nf kd)), (o2, aI cs 4 (tx_nf wo)), (o3, aI cs 4 (tx_nf ha)), (o4, aI cs 4 (tx_nf we))]) (cw1 := []) ⟨hx, hb, hml, hown, hts⟩ (c_X6_worthOf l D cs _ o o1 o2 o3 o4 o5 o6 o7 o8 o9 o10 o11 o12 o13 o14 o15 n dy ch lw tz at9 va9 ss im kd wo ha we ux 1 (by omega) (by omega) (by first | assumption | omega)) (cwV 2 hts gX6_on_X6_worthOf rfl rfl rfl (by decide +kernel) ⟨Nat.le_of_ble_eq_true rfl, Nat.le_of_ble_eq_true rfl⟩) hK hP hD hS hA (((hR hS).app hP).sub [0, 1, 2, 3, 4] rfl) (dt_of hN [0, 1, 2, 3, 4] (by decide) rfl) [] rfl 0 rfl rfl rfl hl.1 rfl (Nat.le_of_ble_eq_true rfl) dX6_on_108 ⟨Nat.le_of_ble_eq_true rfl, Nat.le_of_ble_eq_true rfl⟩ (fun _ => rfl) (fun _ => rfl) (fun r_1 u9 H locs hw_2 hP hD hS => ?_)
            have hP : va_P D vwCl [] H := hP
            have hD : va_D A [] := hD
            subst r_1
            refine lv_iadd hx hb dX6_on_111 ?_
            refine tp_i (add_iI (a := tx_V n dy ch kd wo ha we bo lm (dy - (d + 1)) ux (1)) (b := tx_vl kd wo ha we ux 1) rfl rfl) ?_
            refine lv_iload_n hx hb dX6_on_112 rfl (lv_at hl 3 rfl) ?_
            refine bz_le (a := d) (tgt := 129) hx hb rfl (by omega) dX6_on_113 (by decide) (fun c113 => ?_) (fun c113 => ?_)
            · refine lv_iconst (v := 0) hx hb dX6_on_129 (by decide) ?_
              refine lv_isub hx hb dX6_on_130 ?_
              refine tp_i (sub_iI (a := (tx_V n dy ch kd wo ha we bo lm (dy - (d + 1)) ux (1)) + (tx_vl kd wo ha we ux 1)) (b := 0) rfl (by decide)) ?_
              have hbe : tx_be bo d ux = false := tx_be_f (Or.inl ((tx_bf_N hbo d).mp c8))
              have hmy : tx_my n kd bo lm d ux (1) = true := decide_eq_true ⟨hbe, fun z => absurd z.2 (by omega), by omega⟩
              exact rt_i hx hb hr hlocks () (by rw [tx_on, tx_o1, if_neg c29, if_pos hmy, tx_p, if_neg c94, if_neg (fun z => by omega)]; congr 1; omega) hP hD hS dX6_on_131
            · refine lv_iload_n hx hb dX6_on_116 rfl (lv_at hl 4 rfl) ?_
              refine lv_iload hx hb dX6_on_117 (lv_at hl 6 rfl) ?_
              refine bi_eq (a := t) (b := (ux : Int)) (tgt := 129) hx hb rfl (nI_iI _) (by omega) (by omega) (by omega) (by omega) dX6_on_119 (by decide) (fun c119 => ?_) (fun c119 => ?_)
              · refine lv_iconst (v := 0) hx hb dX6_on_129 (by decide) ?_
                refine lv_isub hx hb dX6_on_130 ?_
                refine tp_i (sub_iI (a := (tx_V n dy ch kd wo ha we bo lm (dy - (d + 1)) ux (1)) + (tx_vl kd wo ha we ux 1)) (b := 0) rfl (by decide)) ?_
                have hbe : tx_be bo d ux = false := tx_be_f (Or.inl ((tx_bf_N hbo d).mp c8))
                have hmy : tx_my n kd bo lm d ux (1) = true := decide_eq_true ⟨hbe, fun z => absurd z.2 (by omega), by omega⟩
                exact rt_i hx hb hr hlocks () (by rw [tx_on, tx_o1, if_neg c29, if_pos hmy, tx_p, if_neg c94, if_neg (fun z => z.2 c119)]; congr 1; omega) hP hD hS dX6_on_131
              · refine lv_aload_n hx hb dX6_on_122 rfl (lv_at hl 2 rfl) ?_
                refine va_get (D := D) (ci := 6) (v := .int (nI ch)) (C := RX6) (T := TX6) (N := 24) hx hb hts in_X6 hown hK (hR hS) 0 rfl rfl 8 (by decide) hf_60 (fun _ h9 => h9) rfl dX6_on_123 ?_
                refine lv_goto (tgt := 130) hx hb dX6_on_126 (by decide) ?_
                refine lv_isub hx hb dX6_on_130 ?_
                refine tp_i (sub_iI (a := (tx_V n dy ch kd wo ha we bo lm (dy - (d + 1)) ux (1)) + (tx_vl kd wo ha we ux 1)) (b := (ch : Int)) rfl (nI_iI _)) ?_
                have hbe : tx_be bo d ux = false := tx_be_f (Or.inl ((tx_bf_N hbo d).mp c8))
                have hmy : tx_my n kd bo lm d ux (1) = true := decide_eq_true ⟨hbe, fun z => absurd z.2 (by omega), by omega⟩
                exact rt_i hx hb hr hlocks () (by rw [tx_on, tx_o1, if_neg c29, if_pos hmy, tx_p, if_neg c94, if_pos ⟨by omega, c119⟩]; congr 1; omega) hP hD hS dX6_on_131
          · refine lv_sipush (v := (-999)) hx hb dX6_on_97 (by decide) ?_
            have hbe : tx_be bo d ux = false := tx_be_f (Or.inl ((tx_bf_N hbo d).mp c8))
            have hmy : tx_my n kd bo lm d ux (1) = true := decide_eq_true ⟨hbe, fun z => absurd z.2 (by omega), by omega⟩
            exact rt_i hx hb hr hlocks () (by rw [tx_on, tx_o1, if_neg c29, if_pos hmy, c94, tx_p_n]; decide) hP hD hS dX6_on_100
        · refine lv_sipush (v := (-999)) hx hb dX6_on_64 (by decide) ?_
          have hbe : tx_be bo d ux = false := tx_be_f (Or.inl ((tx_bf_N hbo d).mp c8))
          exact rt_i hx hb hr hlocks () (by rw [tx_on, tx_o1, if_neg c29, if_neg (fun z => absurd (of_decide_eq_true z).2.2 (by omega))]; decide) hP hD hS dX6_on_67
      · refine lv_aload_n hx hb dX6_on_48 rfl (lv_at hl 1 rfl) ?_
        refine lv_iload hx hb dX6_on_49 (lv_at hl 5 rfl) ?_
        refine cV_i (As := [.int (nI ux)]) (rest := []) (cr := [(o, .inr (6, [.int (nI n), .ref o1, .ref o2, .ref o3, .ref o4, .int (nI dy), .ref o5, .ref o6, .int (nI ch), .int (nI lw), .int (nI tz), .ref o7, .int (nI at9), .int (nI va9), .int (nI ss), .ref o8, .ref o9, .int (bI im), .ref o10, .ref o11, .ref o12, .ref o13, .ref o14, .ref o15])), (o1, aI cs 4 (tx_nf kd))]) (cw1 := []) ⟨hx, hb, hml, hown, hts⟩ (c_X6_counts l D cs _ o o1 o2 o3 o4 o5 o6 o7 o8 o9 o10 o11 o12 o13 o14 o15 n dy ch lw tz at9 va9 ss im kd ux (by first | assumption | omega) (by omega) (fun _ => hu) (by first | assumption | omega)) (cwV 1 hts gX6_on_X6_counts rfl rfl rfl (by decide +kernel) ⟨Nat.le_of_ble_eq_true rfl, Nat.le_of_ble_eq_true rfl⟩) hK hP hD hS hA (((hR hS).app hP).sub [0, 1] rfl) (dt_of hN [0, 1] (by decide) rfl) [] rfl 0 rfl rfl rfl hl.1 rfl (Nat.le_of_ble_eq_true rfl) dX6_on_51 ⟨Nat.le_of_ble_eq_true rfl, Nat.le_of_ble_eq_true rfl⟩ (fun _ => rfl) (fun _ => rfl) (fun r_3 u9 H locs hw_4 hP hD hS => ?_)
        have hP : va_P D vwCl [] H := hP
        have hD : va_D A [] := hD
        subst r_3
        refine bb_ne (b := tx_tx n kd ux) (tgt := 64) hx hb rfl dX6_on_54 (by decide) (fun c54 => ?_) (fun c54 => ?_)
        · refine lv_sipush (v := (-999)) hx hb dX6_on_64 (by decide) ?_
          have hbe : tx_be bo d ux = false := tx_be_f (Or.inl ((tx_bf_N hbo d).mp c8))
          exact rt_i hx hb hr hlocks () (by rw [tx_on, tx_o1, if_neg c29, if_neg (fun z => (of_decide_eq_true z).2.1 ⟨c54, by omega⟩)]; decide) hP hD hS dX6_on_67
        · refine lv_iload hx hb dX6_on_57 (lv_at hl 0 rfl) ?_
          refine lv_bipush (v := 20) hx hb dX6_on_59 (by decide) ?_
          refine bn_le (a := 1) (b := 20) (tgt := 68) hx hb rfl rfl (by decide) (by decide) dX6_on_61 (by decide) (fun c61 => ?_) (fun c61 => ?_)
          · refine lv_aload_n hx hb dX6_on_68 rfl (lv_at hl 1 rfl) ?_
            refine va_get (D := D) (ci := 6) (v := .ref o12) (C := RX6) (T := TX6) (N := 24) hx hb hts in_X6 hown hK (hR hS) 0 rfl rfl 20 (by decide) hf_43 (fun _ h9 => h9) rfl dX6_on_69 ?_
            refine lv_iconst (v := 4) hx hb dX6_on_72 (by decide) ?_
            refine lv_iload_n hx hb dX6_on_73 rfl (lv_at hl 2 rfl) ?_
            refine lv_iconst (v := 1) hx hb dX6_on_74 (by decide) ?_
            refine lv_iadd hx hb dX6_on_75 ?_
            refine tp_i (nI_add d 1) ?_
            refine lv_imul hx hb dX6_on_76 ?_
            refine tp_i (pk_mul 4 (d + 1)) ?_
            refine lv_iload hx hb dX6_on_77 (lv_at hl 5 rfl) ?_
            refine lv_iadd hx hb dX6_on_79 ?_
            refine tp_i (nI_add (4 * (d + 1)) ux) ?_
            refine lv_bipush (v := 22) hx hb dX6_on_80 (by decide) ?_
            refine lv_imul hx hb dX6_on_82 ?_
            refine tp_i (pk_mul ((4 * (d + 1)) + ux) 22) ?_
            refine lv_iload hx hb dX6_on_83 (lv_at hl 0 rfl) ?_
            refine lv_iadd hx hb dX6_on_85 ?_
            refine tp_i (nI_add (((4 * (d + 1)) + ux) * 22) 1) ?_
            refine ia_n (f := mst) hx hb hK (hR hS) 6 0 rfl rfl (j := (((4 * (d + 1)) + ux) * 22) + 1) rfl (by omega) (by decide) dX6_on_86 ?_
            have hVb := tx_V_b (n := n) (dy := dy) (ch := ch) (kd := kd) (wo := wo) (ha := ha) (we := we) (bo := bo) (l := lm) hwo hha hwe hch (dy - (d + 1)) (by omega) ux (1)
            unfold tx_bo9 at hVb
            refine tp_i (show mst ((((4 * (d + 1)) + ux) * 22) + 1) = iI (tx_V n dy ch kd wo ha we bo lm (dy - (d + 1)) ux (1)) from hmst ux hu (1) (by omega) (by omega)) ?_
            refine lv_istore (lv' := [(7, .int (iI (tx_V n dy ch kd wo ha we bo lm (dy - (d + 1)) ux (1)))), (6, .int 1), (0, .ref o), (1, .int (nI d)), (2, .int (iI t)), (3, .int (nI k)), (4, .int (nI ux)), (5, .int (nI lm))]) hx hb dX6_on_87 hl (by decide) rfl (fun ls hl => ?_)
            refine lv_iload hx hb dX6_on_89 (lv_at hl 0 rfl) ?_
            refine lv_sipush (v := (-999)) hx hb dX6_on_91 (by decide) ?_
            refine bi_ne (a := tx_V n dy ch kd wo ha we bo lm (dy - (d + 1)) ux (1)) (b := (-999)) (tgt := 101) hx hb rfl (by decide) (by omega) (by omega) (by omega) (by omega) dX6_on_94 (by decide) (fun c94 => ?_) (fun c94 => ?_)
            · refine lv_iload hx hb dX6_on_101 (lv_at hl 0 rfl) ?_
              refine lv_aload_n hx hb dX6_on_103 rfl (lv_at hl 2 rfl) ?_
              refine lv_iload hx hb dX6_on_104 (lv_at hl 6 rfl) ?_
              refine lv_iload hx hb dX6_on_106 (lv_at hl 1 rfl) ?_
              refine cV_i (As := [.int (nI ux), .int 1]) (rest := [.int (iI (tx_V n dy ch kd wo ha we bo lm (dy - (d + 1)) ux (1)))]) (cr := [(o, .inr (6, [.int (nI n), .ref o1, .ref o2, .ref o3, .ref o4, .int (nI dy), .ref o5, .ref o6, .int (nI ch), .int (nI lw), .int (nI tz), .ref o7, .int (nI at9), .int (nI va9), .int (nI ss), .ref o8, .ref o9, .int (bI im), .ref o10, .ref o11, .ref o12, .ref o13, .ref o14, .ref o15])), (o1, aI cs 4 (tx_nf kd)), (o2, aI cs 4 (tx_nf wo)), (o3, aI cs 4 (tx_nf ha)), (o4, aI cs 4 (tx_nf we))]) (cw1 := []) ⟨hx, hb, hml, hown, hts⟩ (c_X6_worthOf l D cs _ o o1 o2 o3 o4 o5 o6 o7 o8 o9 o10 o11 o12 o13 o14 o15 n dy ch lw tz at9 va9 ss im kd wo ha we ux 1 (by omega) (by omega) (by first | assumption | omega)) (cwV 2 hts gX6_on_X6_worthOf rfl rfl rfl (by decide +kernel) ⟨Nat.le_of_ble_eq_true rfl, Nat.le_of_ble_eq_true rfl⟩) hK hP hD hS hA (((hR hS).app hP).sub [0, 1, 2, 3, 4] rfl) (dt_of hN [0, 1, 2, 3, 4] (by decide) rfl) [] rfl 0 rfl rfl rfl hl.1 rfl (Nat.le_of_ble_eq_true rfl) dX6_on_108 ⟨Nat.le_of_ble_eq_true rfl, Nat.le_of_ble_eq_true rfl⟩ (fun _ => rfl) (fun _ => rfl) (fun r_5 u9 H locs hw_6 hP hD hS => ?_)
              have hP : va_P D vwCl [] H := hP
              have hD : va_D A [] := hD
              subst r_5
              refine lv_iadd hx hb dX6_on_111 ?_
              refine tp_i (add_iI (a := tx_V n dy ch kd wo ha we bo lm (dy - (d + 1)) ux (1)) (b := tx_vl kd wo ha we ux 1) rfl rfl) ?_
              refine lv_iload_n hx hb dX6_on_112 rfl (lv_at hl 3 rfl) ?_
              refine bz_le (a := d) (tgt := 129) hx hb rfl (by omega) dX6_on_113 (by decide) (fun c113 => ?_) (fun c113 => ?_)
              · refine lv_iconst (v := 0) hx hb dX6_on_129 (by decide) ?_
                refine lv_isub hx hb dX6_on_130 ?_
                refine tp_i (sub_iI (a := (tx_V n dy ch kd wo ha we bo lm (dy - (d + 1)) ux (1)) + (tx_vl kd wo ha we ux 1)) (b := 0) rfl (by decide)) ?_
                have hbe : tx_be bo d ux = false := tx_be_f (Or.inl ((tx_bf_N hbo d).mp c8))
                have hmy : tx_my n kd bo lm d ux (1) = true := decide_eq_true ⟨hbe, fun z => absurd z.1 (by rw [c54]; decide), by omega⟩
                exact rt_i hx hb hr hlocks () (by rw [tx_on, tx_o1, if_neg c29, if_pos hmy, tx_p, if_neg c94, if_neg (fun z => by omega)]; congr 1; omega) hP hD hS dX6_on_131
              · refine lv_iload_n hx hb dX6_on_116 rfl (lv_at hl 4 rfl) ?_
                refine lv_iload hx hb dX6_on_117 (lv_at hl 6 rfl) ?_
                refine bi_eq (a := t) (b := (ux : Int)) (tgt := 129) hx hb rfl (nI_iI _) (by omega) (by omega) (by omega) (by omega) dX6_on_119 (by decide) (fun c119 => ?_) (fun c119 => ?_)
                · refine lv_iconst (v := 0) hx hb dX6_on_129 (by decide) ?_
                  refine lv_isub hx hb dX6_on_130 ?_
                  refine tp_i (sub_iI (a := (tx_V n dy ch kd wo ha we bo lm (dy - (d + 1)) ux (1)) + (tx_vl kd wo ha we ux 1)) (b := 0) rfl (by decide)) ?_
                  have hbe : tx_be bo d ux = false := tx_be_f (Or.inl ((tx_bf_N hbo d).mp c8))
                  have hmy : tx_my n kd bo lm d ux (1) = true := decide_eq_true ⟨hbe, fun z => absurd z.1 (by rw [c54]; decide), by omega⟩
                  exact rt_i hx hb hr hlocks () (by rw [tx_on, tx_o1, if_neg c29, if_pos hmy, tx_p, if_neg c94, if_neg (fun z => z.2 c119)]; congr 1; omega) hP hD hS dX6_on_131
                · refine lv_aload_n hx hb dX6_on_122 rfl (lv_at hl 2 rfl) ?_
                  refine va_get (D := D) (ci := 6) (v := .int (nI ch)) (C := RX6) (T := TX6) (N := 24) hx hb hts in_X6 hown hK (hR hS) 0 rfl rfl 8 (by decide) hf_60 (fun _ h9 => h9) rfl dX6_on_123 ?_
                  refine lv_goto (tgt := 130) hx hb dX6_on_126 (by decide) ?_
                  refine lv_isub hx hb dX6_on_130 ?_
                  refine tp_i (sub_iI (a := (tx_V n dy ch kd wo ha we bo lm (dy - (d + 1)) ux (1)) + (tx_vl kd wo ha we ux 1)) (b := (ch : Int)) rfl (nI_iI _)) ?_
                  have hbe : tx_be bo d ux = false := tx_be_f (Or.inl ((tx_bf_N hbo d).mp c8))
                  have hmy : tx_my n kd bo lm d ux (1) = true := decide_eq_true ⟨hbe, fun z => absurd z.1 (by rw [c54]; decide), by omega⟩
                  exact rt_i hx hb hr hlocks () (by rw [tx_on, tx_o1, if_neg c29, if_pos hmy, tx_p, if_neg c94, if_pos ⟨by omega, c119⟩]; congr 1; omega) hP hD hS dX6_on_131
            · refine lv_sipush (v := (-999)) hx hb dX6_on_97 (by decide) ?_
              have hbe : tx_be bo d ux = false := tx_be_f (Or.inl ((tx_bf_N hbo d).mp c8))
              have hmy : tx_my n kd bo lm d ux (1) = true := decide_eq_true ⟨hbe, fun z => absurd z.1 (by rw [c54]; decide), by omega⟩
              exact rt_i hx hb hr hlocks () (by rw [tx_on, tx_o1, if_neg c29, if_pos hmy, c94, tx_p_n]; decide) hP hD hS dX6_on_100
          · refine lv_sipush (v := (-999)) hx hb dX6_on_64 (by decide) ?_
            have hbe : tx_be bo d ux = false := tx_be_f (Or.inl ((tx_bf_N hbo d).mp c8))
            exact rt_i hx hb hr hlocks () (by rw [tx_on, tx_o1, if_neg c29, if_neg (fun z => absurd (of_decide_eq_true z).2.2 (by omega))]; decide) hP hD hS dX6_on_67
    · refine lv_iload_n hx hb dX6_on_32 rfl (lv_at hl 3 rfl) ?_
      refine lv_iconst (v := 1) hx hb dX6_on_33 (by decide) ?_
      refine lv_iadd hx hb dX6_on_34 ?_
      refine tp_i (nI_add k 1) ?_
      refine lv_goto (tgt := 39) hx hb dX6_on_35 (by decide) ?_
      refine lv_istore (lv' := [(6, .int (nI (k + 1))), (0, .ref o), (1, .int (nI d)), (2, .int (iI t)), (3, .int (nI k)), (4, .int (nI ux)), (5, .int (nI lm))]) hx hb dX6_on_39 hl (by decide) rfl (fun ls hl => ?_)
      refine lv_iload hx hb dX6_on_41 (lv_at hl 0 rfl) ?_
      refine lv_iload hx hb dX6_on_43 (lv_at hl 6 rfl) ?_
      refine bn_le (a := k + 1) (b := lm) (tgt := 57) hx hb rfl rfl (by omega) (by omega) dX6_on_45 (by decide) (fun c45 => ?_) (fun c45 => ?_)
      · refine lv_iload hx hb dX6_on_57 (lv_at hl 0 rfl) ?_
        refine lv_bipush (v := 20) hx hb dX6_on_59 (by decide) ?_
        refine bn_le (a := k + 1) (b := 20) (tgt := 68) hx hb rfl rfl (by omega) (by decide) dX6_on_61 (by decide) (fun c61 => ?_) (fun c61 => ?_)
        · refine lv_aload_n hx hb dX6_on_68 rfl (lv_at hl 1 rfl) ?_
          refine va_get (D := D) (ci := 6) (v := .ref o12) (C := RX6) (T := TX6) (N := 24) hx hb hts in_X6 hown hK (hR hS) 0 rfl rfl 20 (by decide) hf_43 (fun _ h9 => h9) rfl dX6_on_69 ?_
          refine lv_iconst (v := 4) hx hb dX6_on_72 (by decide) ?_
          refine lv_iload_n hx hb dX6_on_73 rfl (lv_at hl 2 rfl) ?_
          refine lv_iconst (v := 1) hx hb dX6_on_74 (by decide) ?_
          refine lv_iadd hx hb dX6_on_75 ?_
          refine tp_i (nI_add d 1) ?_
          refine lv_imul hx hb dX6_on_76 ?_
          refine tp_i (pk_mul 4 (d + 1)) ?_
          refine lv_iload hx hb dX6_on_77 (lv_at hl 5 rfl) ?_
          refine lv_iadd hx hb dX6_on_79 ?_
          refine tp_i (nI_add (4 * (d + 1)) ux) ?_
          refine lv_bipush (v := 22) hx hb dX6_on_80 (by decide) ?_
          refine lv_imul hx hb dX6_on_82 ?_
          refine tp_i (pk_mul ((4 * (d + 1)) + ux) 22) ?_
          refine lv_iload hx hb dX6_on_83 (lv_at hl 0 rfl) ?_
          refine lv_iadd hx hb dX6_on_85 ?_
          refine tp_i (nI_add (((4 * (d + 1)) + ux) * 22) (k + 1)) ?_
          refine ia_n (f := mst) hx hb hK (hR hS) 6 0 rfl rfl (j := (((4 * (d + 1)) + ux) * 22) + (k + 1)) rfl (by omega) (by decide) dX6_on_86 ?_
          have hVb := tx_V_b (n := n) (dy := dy) (ch := ch) (kd := kd) (wo := wo) (ha := ha) (we := we) (bo := bo) (l := lm) hwo hha hwe hch (dy - (d + 1)) (by omega) ux (k + 1)
          unfold tx_bo9 at hVb
          refine tp_i (show mst ((((4 * (d + 1)) + ux) * 22) + (k + 1)) = iI (tx_V n dy ch kd wo ha we bo lm (dy - (d + 1)) ux (k + 1)) from hmst ux hu (k + 1) (by omega) (by omega)) ?_
          refine lv_istore (lv' := [(7, .int (iI (tx_V n dy ch kd wo ha we bo lm (dy - (d + 1)) ux (k + 1)))), (6, .int (nI (k + 1))), (0, .ref o), (1, .int (nI d)), (2, .int (iI t)), (3, .int (nI k)), (4, .int (nI ux)), (5, .int (nI lm))]) hx hb dX6_on_87 hl (by decide) rfl (fun ls hl => ?_)
          refine lv_iload hx hb dX6_on_89 (lv_at hl 0 rfl) ?_
          refine lv_sipush (v := (-999)) hx hb dX6_on_91 (by decide) ?_
          refine bi_ne (a := tx_V n dy ch kd wo ha we bo lm (dy - (d + 1)) ux (k + 1)) (b := (-999)) (tgt := 101) hx hb rfl (by decide) (by omega) (by omega) (by omega) (by omega) dX6_on_94 (by decide) (fun c94 => ?_) (fun c94 => ?_)
          · refine lv_iload hx hb dX6_on_101 (lv_at hl 0 rfl) ?_
            refine lv_aload_n hx hb dX6_on_103 rfl (lv_at hl 2 rfl) ?_
            refine lv_iload hx hb dX6_on_104 (lv_at hl 6 rfl) ?_
            refine lv_iload hx hb dX6_on_106 (lv_at hl 1 rfl) ?_
            refine cV_i (As := [.int (nI ux), .int (nI (k + 1))]) (rest := [.int (iI (tx_V n dy ch kd wo ha we bo lm (dy - (d + 1)) ux (k + 1)))]) (cr := [(o, .inr (6, [.int (nI n), .ref o1, .ref o2, .ref o3, .ref o4, .int (nI dy), .ref o5, .ref o6, .int (nI ch), .int (nI lw), .int (nI tz), .ref o7, .int (nI at9), .int (nI va9), .int (nI ss), .ref o8, .ref o9, .int (bI im), .ref o10, .ref o11, .ref o12, .ref o13, .ref o14, .ref o15])), (o1, aI cs 4 (tx_nf kd)), (o2, aI cs 4 (tx_nf wo)), (o3, aI cs 4 (tx_nf ha)), (o4, aI cs 4 (tx_nf we))]) (cw1 := []) ⟨hx, hb, hml, hown, hts⟩ (c_X6_worthOf l D cs _ o o1 o2 o3 o4 o5 o6 o7 o8 o9 o10 o11 o12 o13 o14 o15 n dy ch lw tz at9 va9 ss im kd wo ha we ux (k + 1) (by omega) (by omega) (by first | assumption | omega)) (cwV 2 hts gX6_on_X6_worthOf rfl rfl rfl (by decide +kernel) ⟨Nat.le_of_ble_eq_true rfl, Nat.le_of_ble_eq_true rfl⟩) hK hP hD hS hA (((hR hS).app hP).sub [0, 1, 2, 3, 4] rfl) (dt_of hN [0, 1, 2, 3, 4] (by decide) rfl) [] rfl 0 rfl rfl rfl hl.1 rfl (Nat.le_of_ble_eq_true rfl) dX6_on_108 ⟨Nat.le_of_ble_eq_true rfl, Nat.le_of_ble_eq_true rfl⟩ (fun _ => rfl) (fun _ => rfl) (fun r_7 u9 H locs hw_8 hP hD hS => ?_)
            have hP : va_P D vwCl [] H := hP
            have hD : va_D A [] := hD
            subst r_7
            refine lv_iadd hx hb dX6_on_111 ?_
            refine tp_i (add_iI (a := tx_V n dy ch kd wo ha we bo lm (dy - (d + 1)) ux (k + 1)) (b := tx_vl kd wo ha we ux (k + 1)) rfl rfl) ?_
            refine lv_iload_n hx hb dX6_on_112 rfl (lv_at hl 3 rfl) ?_
            refine bz_le (a := d) (tgt := 129) hx hb rfl (by omega) dX6_on_113 (by decide) (fun c113 => ?_) (fun c113 => ?_)
            · refine lv_iconst (v := 0) hx hb dX6_on_129 (by decide) ?_
              refine lv_isub hx hb dX6_on_130 ?_
              refine tp_i (sub_iI (a := (tx_V n dy ch kd wo ha we bo lm (dy - (d + 1)) ux (k + 1)) + (tx_vl kd wo ha we ux (k + 1))) (b := 0) rfl (by decide)) ?_
              have hbe : tx_be bo d ux = false := tx_be_f (Or.inl ((tx_bf_N hbo d).mp c8))
              have hmy : tx_my n kd bo lm d ux (k + 1) = true := decide_eq_true ⟨hbe, fun z => absurd z.2 (by omega), by omega⟩
              exact rt_i hx hb hr hlocks () (by rw [tx_on, tx_o1, if_pos c29, if_pos hmy, tx_p, if_neg c94, if_neg (fun z => by omega)]; congr 1; omega) hP hD hS dX6_on_131
            · refine lv_iload_n hx hb dX6_on_116 rfl (lv_at hl 4 rfl) ?_
              refine lv_iload hx hb dX6_on_117 (lv_at hl 6 rfl) ?_
              refine bi_eq (a := t) (b := (ux : Int)) (tgt := 129) hx hb rfl (nI_iI _) (by omega) (by omega) (by omega) (by omega) dX6_on_119 (by decide) (fun c119 => ?_) (fun c119 => ?_)
              · refine lv_iconst (v := 0) hx hb dX6_on_129 (by decide) ?_
                refine lv_isub hx hb dX6_on_130 ?_
                refine tp_i (sub_iI (a := (tx_V n dy ch kd wo ha we bo lm (dy - (d + 1)) ux (k + 1)) + (tx_vl kd wo ha we ux (k + 1))) (b := 0) rfl (by decide)) ?_
                have hbe : tx_be bo d ux = false := tx_be_f (Or.inl ((tx_bf_N hbo d).mp c8))
                have hmy : tx_my n kd bo lm d ux (k + 1) = true := decide_eq_true ⟨hbe, fun z => absurd z.2 (by omega), by omega⟩
                exact rt_i hx hb hr hlocks () (by rw [tx_on, tx_o1, if_pos c29, if_pos hmy, tx_p, if_neg c94, if_neg (fun z => z.2 c119)]; congr 1; omega) hP hD hS dX6_on_131
              · refine lv_aload_n hx hb dX6_on_122 rfl (lv_at hl 2 rfl) ?_
                refine va_get (D := D) (ci := 6) (v := .int (nI ch)) (C := RX6) (T := TX6) (N := 24) hx hb hts in_X6 hown hK (hR hS) 0 rfl rfl 8 (by decide) hf_60 (fun _ h9 => h9) rfl dX6_on_123 ?_
                refine lv_goto (tgt := 130) hx hb dX6_on_126 (by decide) ?_
                refine lv_isub hx hb dX6_on_130 ?_
                refine tp_i (sub_iI (a := (tx_V n dy ch kd wo ha we bo lm (dy - (d + 1)) ux (k + 1)) + (tx_vl kd wo ha we ux (k + 1))) (b := (ch : Int)) rfl (nI_iI _)) ?_
                have hbe : tx_be bo d ux = false := tx_be_f (Or.inl ((tx_bf_N hbo d).mp c8))
                have hmy : tx_my n kd bo lm d ux (k + 1) = true := decide_eq_true ⟨hbe, fun z => absurd z.2 (by omega), by omega⟩
                exact rt_i hx hb hr hlocks () (by rw [tx_on, tx_o1, if_pos c29, if_pos hmy, tx_p, if_neg c94, if_pos ⟨by omega, c119⟩]; congr 1; omega) hP hD hS dX6_on_131
          · refine lv_sipush (v := (-999)) hx hb dX6_on_97 (by decide) ?_
            have hbe : tx_be bo d ux = false := tx_be_f (Or.inl ((tx_bf_N hbo d).mp c8))
            have hmy : tx_my n kd bo lm d ux (k + 1) = true := decide_eq_true ⟨hbe, fun z => absurd z.2 (by omega), by omega⟩
            exact rt_i hx hb hr hlocks () (by rw [tx_on, tx_o1, if_pos c29, if_pos hmy, c94, tx_p_n]; decide) hP hD hS dX6_on_100
        · refine lv_sipush (v := (-999)) hx hb dX6_on_64 (by decide) ?_
          have hbe : tx_be bo d ux = false := tx_be_f (Or.inl ((tx_bf_N hbo d).mp c8))
          exact rt_i hx hb hr hlocks () (by rw [tx_on, tx_o1, if_pos c29, if_neg (fun z => absurd (of_decide_eq_true z).2.2 (by omega))]; decide) hP hD hS dX6_on_67
      · refine lv_aload_n hx hb dX6_on_48 rfl (lv_at hl 1 rfl) ?_
        refine lv_iload hx hb dX6_on_49 (lv_at hl 5 rfl) ?_
        refine cV_i (As := [.int (nI ux)]) (rest := []) (cr := [(o, .inr (6, [.int (nI n), .ref o1, .ref o2, .ref o3, .ref o4, .int (nI dy), .ref o5, .ref o6, .int (nI ch), .int (nI lw), .int (nI tz), .ref o7, .int (nI at9), .int (nI va9), .int (nI ss), .ref o8, .ref o9, .int (bI im), .ref o10, .ref o11, .ref o12, .ref o13, .ref o14, .ref o15])), (o1, aI cs 4 (tx_nf kd))]) (cw1 := []) ⟨hx, hb, hml, hown, hts⟩ (c_X6_counts l D cs _ o o1 o2 o3 o4 o5 o6 o7 o8 o9 o10 o11 o12 o13 o14 o15 n dy ch lw tz at9 va9 ss im kd ux (by first | assumption | omega) (by omega) (fun _ => hu) (by first | assumption | omega)) (cwV 1 hts gX6_on_X6_counts rfl rfl rfl (by decide +kernel) ⟨Nat.le_of_ble_eq_true rfl, Nat.le_of_ble_eq_true rfl⟩) hK hP hD hS hA (((hR hS).app hP).sub [0, 1] rfl) (dt_of hN [0, 1] (by decide) rfl) [] rfl 0 rfl rfl rfl hl.1 rfl (Nat.le_of_ble_eq_true rfl) dX6_on_51 ⟨Nat.le_of_ble_eq_true rfl, Nat.le_of_ble_eq_true rfl⟩ (fun _ => rfl) (fun _ => rfl) (fun r_9 u9 H locs hw_10 hP hD hS => ?_)
        have hP : va_P D vwCl [] H := hP
        have hD : va_D A [] := hD
        subst r_9
        refine bb_ne (b := tx_tx n kd ux) (tgt := 64) hx hb rfl dX6_on_54 (by decide) (fun c54 => ?_) (fun c54 => ?_)
        · refine lv_sipush (v := (-999)) hx hb dX6_on_64 (by decide) ?_
          have hbe : tx_be bo d ux = false := tx_be_f (Or.inl ((tx_bf_N hbo d).mp c8))
          exact rt_i hx hb hr hlocks () (by rw [tx_on, tx_o1, if_pos c29, if_neg (fun z => (of_decide_eq_true z).2.1 ⟨c54, by omega⟩)]; decide) hP hD hS dX6_on_67
        · refine lv_iload hx hb dX6_on_57 (lv_at hl 0 rfl) ?_
          refine lv_bipush (v := 20) hx hb dX6_on_59 (by decide) ?_
          refine bn_le (a := k + 1) (b := 20) (tgt := 68) hx hb rfl rfl (by omega) (by decide) dX6_on_61 (by decide) (fun c61 => ?_) (fun c61 => ?_)
          · refine lv_aload_n hx hb dX6_on_68 rfl (lv_at hl 1 rfl) ?_
            refine va_get (D := D) (ci := 6) (v := .ref o12) (C := RX6) (T := TX6) (N := 24) hx hb hts in_X6 hown hK (hR hS) 0 rfl rfl 20 (by decide) hf_43 (fun _ h9 => h9) rfl dX6_on_69 ?_
            refine lv_iconst (v := 4) hx hb dX6_on_72 (by decide) ?_
            refine lv_iload_n hx hb dX6_on_73 rfl (lv_at hl 2 rfl) ?_
            refine lv_iconst (v := 1) hx hb dX6_on_74 (by decide) ?_
            refine lv_iadd hx hb dX6_on_75 ?_
            refine tp_i (nI_add d 1) ?_
            refine lv_imul hx hb dX6_on_76 ?_
            refine tp_i (pk_mul 4 (d + 1)) ?_
            refine lv_iload hx hb dX6_on_77 (lv_at hl 5 rfl) ?_
            refine lv_iadd hx hb dX6_on_79 ?_
            refine tp_i (nI_add (4 * (d + 1)) ux) ?_
            refine lv_bipush (v := 22) hx hb dX6_on_80 (by decide) ?_
            refine lv_imul hx hb dX6_on_82 ?_
            refine tp_i (pk_mul ((4 * (d + 1)) + ux) 22) ?_
            refine lv_iload hx hb dX6_on_83 (lv_at hl 0 rfl) ?_
            refine lv_iadd hx hb dX6_on_85 ?_
            refine tp_i (nI_add (((4 * (d + 1)) + ux) * 22) (k + 1)) ?_
            refine ia_n (f := mst) hx hb hK (hR hS) 6 0 rfl rfl (j := (((4 * (d + 1)) + ux) * 22) + (k + 1)) rfl (by omega) (by decide) dX6_on_86 ?_
            have hVb := tx_V_b (n := n) (dy := dy) (ch := ch) (kd := kd) (wo := wo) (ha := ha) (we := we) (bo := bo) (l := lm) hwo hha hwe hch (dy - (d + 1)) (by omega) ux (k + 1)
            unfold tx_bo9 at hVb
            refine tp_i (show mst ((((4 * (d + 1)) + ux) * 22) + (k + 1)) = iI (tx_V n dy ch kd wo ha we bo lm (dy - (d + 1)) ux (k + 1)) from hmst ux hu (k + 1) (by omega) (by omega)) ?_
            refine lv_istore (lv' := [(7, .int (iI (tx_V n dy ch kd wo ha we bo lm (dy - (d + 1)) ux (k + 1)))), (6, .int (nI (k + 1))), (0, .ref o), (1, .int (nI d)), (2, .int (iI t)), (3, .int (nI k)), (4, .int (nI ux)), (5, .int (nI lm))]) hx hb dX6_on_87 hl (by decide) rfl (fun ls hl => ?_)
            refine lv_iload hx hb dX6_on_89 (lv_at hl 0 rfl) ?_
            refine lv_sipush (v := (-999)) hx hb dX6_on_91 (by decide) ?_
            refine bi_ne (a := tx_V n dy ch kd wo ha we bo lm (dy - (d + 1)) ux (k + 1)) (b := (-999)) (tgt := 101) hx hb rfl (by decide) (by omega) (by omega) (by omega) (by omega) dX6_on_94 (by decide) (fun c94 => ?_) (fun c94 => ?_)
            · refine lv_iload hx hb dX6_on_101 (lv_at hl 0 rfl) ?_
              refine lv_aload_n hx hb dX6_on_103 rfl (lv_at hl 2 rfl) ?_
              refine lv_iload hx hb dX6_on_104 (lv_at hl 6 rfl) ?_
              refine lv_iload hx hb dX6_on_106 (lv_at hl 1 rfl) ?_
              refine cV_i (As := [.int (nI ux), .int (nI (k + 1))]) (rest := [.int (iI (tx_V n dy ch kd wo ha we bo lm (dy - (d + 1)) ux (k + 1)))]) (cr := [(o, .inr (6, [.int (nI n), .ref o1, .ref o2, .ref o3, .ref o4, .int (nI dy), .ref o5, .ref o6, .int (nI ch), .int (nI lw), .int (nI tz), .ref o7, .int (nI at9), .int (nI va9), .int (nI ss), .ref o8, .ref o9, .int (bI im), .ref o10, .ref o11, .ref o12, .ref o13, .ref o14, .ref o15])), (o1, aI cs 4 (tx_nf kd)), (o2, aI cs 4 (tx_nf wo)), (o3, aI cs 4 (tx_nf ha)), (o4, aI cs 4 (tx_nf we))]) (cw1 := []) ⟨hx, hb, hml, hown, hts⟩ (c_X6_worthOf l D cs _ o o1 o2 o3 o4 o5 o6 o7 o8 o9 o10 o11 o12 o13 o14 o15 n dy ch lw tz at9 va9 ss im kd wo ha we ux (k + 1) (by omega) (by omega) (by first | assumption | omega)) (cwV 2 hts gX6_on_X6_worthOf rfl rfl rfl (by decide +kernel) ⟨Nat.le_of_ble_eq_true rfl, Nat.le_of_ble_eq_true rfl⟩) hK hP hD hS hA (((hR hS).app hP).sub [0, 1, 2, 3, 4] rfl) (dt_of hN [0, 1, 2, 3, 4] (by decide) rfl) [] rfl 0 rfl rfl rfl hl.1 rfl (Nat.le_of_ble_eq_true rfl) dX6_on_108 ⟨Nat.le_of_ble_eq_true rfl, Nat.le_of_ble_eq_true rfl⟩ (fun _ => rfl) (fun _ => rfl) (fun r_11 u9 H locs hw_12 hP hD hS => ?_)
              have hP : va_P D vwCl [] H := hP
              have hD : va_D A [] := hD
              subst r_11
              refine lv_iadd hx hb dX6_on_111 ?_
              refine tp_i (add_iI (a := tx_V n dy ch kd wo ha we bo lm (dy - (d + 1)) ux (k + 1)) (b := tx_vl kd wo ha we ux (k + 1)) rfl rfl) ?_
              refine lv_iload_n hx hb dX6_on_112 rfl (lv_at hl 3 rfl) ?_
              refine bz_le (a := d) (tgt := 129) hx hb rfl (by omega) dX6_on_113 (by decide) (fun c113 => ?_) (fun c113 => ?_)
              · refine lv_iconst (v := 0) hx hb dX6_on_129 (by decide) ?_
                refine lv_isub hx hb dX6_on_130 ?_
                refine tp_i (sub_iI (a := (tx_V n dy ch kd wo ha we bo lm (dy - (d + 1)) ux (k + 1)) + (tx_vl kd wo ha we ux (k + 1))) (b := 0) rfl (by decide)) ?_
                have hbe : tx_be bo d ux = false := tx_be_f (Or.inl ((tx_bf_N hbo d).mp c8))
                have hmy : tx_my n kd bo lm d ux (k + 1) = true := decide_eq_true ⟨hbe, fun z => absurd z.1 (by rw [c54]; decide), by omega⟩
                exact rt_i hx hb hr hlocks () (by rw [tx_on, tx_o1, if_pos c29, if_pos hmy, tx_p, if_neg c94, if_neg (fun z => by omega)]; congr 1; omega) hP hD hS dX6_on_131
              · refine lv_iload_n hx hb dX6_on_116 rfl (lv_at hl 4 rfl) ?_
                refine lv_iload hx hb dX6_on_117 (lv_at hl 6 rfl) ?_
                refine bi_eq (a := t) (b := (ux : Int)) (tgt := 129) hx hb rfl (nI_iI _) (by omega) (by omega) (by omega) (by omega) dX6_on_119 (by decide) (fun c119 => ?_) (fun c119 => ?_)
                · refine lv_iconst (v := 0) hx hb dX6_on_129 (by decide) ?_
                  refine lv_isub hx hb dX6_on_130 ?_
                  refine tp_i (sub_iI (a := (tx_V n dy ch kd wo ha we bo lm (dy - (d + 1)) ux (k + 1)) + (tx_vl kd wo ha we ux (k + 1))) (b := 0) rfl (by decide)) ?_
                  have hbe : tx_be bo d ux = false := tx_be_f (Or.inl ((tx_bf_N hbo d).mp c8))
                  have hmy : tx_my n kd bo lm d ux (k + 1) = true := decide_eq_true ⟨hbe, fun z => absurd z.1 (by rw [c54]; decide), by omega⟩
                  exact rt_i hx hb hr hlocks () (by rw [tx_on, tx_o1, if_pos c29, if_pos hmy, tx_p, if_neg c94, if_neg (fun z => z.2 c119)]; congr 1; omega) hP hD hS dX6_on_131
                · refine lv_aload_n hx hb dX6_on_122 rfl (lv_at hl 2 rfl) ?_
                  refine va_get (D := D) (ci := 6) (v := .int (nI ch)) (C := RX6) (T := TX6) (N := 24) hx hb hts in_X6 hown hK (hR hS) 0 rfl rfl 8 (by decide) hf_60 (fun _ h9 => h9) rfl dX6_on_123 ?_
                  refine lv_goto (tgt := 130) hx hb dX6_on_126 (by decide) ?_
                  refine lv_isub hx hb dX6_on_130 ?_
                  refine tp_i (sub_iI (a := (tx_V n dy ch kd wo ha we bo lm (dy - (d + 1)) ux (k + 1)) + (tx_vl kd wo ha we ux (k + 1))) (b := (ch : Int)) rfl (nI_iI _)) ?_
                  have hbe : tx_be bo d ux = false := tx_be_f (Or.inl ((tx_bf_N hbo d).mp c8))
                  have hmy : tx_my n kd bo lm d ux (k + 1) = true := decide_eq_true ⟨hbe, fun z => absurd z.1 (by rw [c54]; decide), by omega⟩
                  exact rt_i hx hb hr hlocks () (by rw [tx_on, tx_o1, if_pos c29, if_pos hmy, tx_p, if_neg c94, if_pos ⟨by omega, c119⟩]; congr 1; omega) hP hD hS dX6_on_131
            · refine lv_sipush (v := (-999)) hx hb dX6_on_97 (by decide) ?_
              have hbe : tx_be bo d ux = false := tx_be_f (Or.inl ((tx_bf_N hbo d).mp c8))
              have hmy : tx_my n kd bo lm d ux (k + 1) = true := decide_eq_true ⟨hbe, fun z => absurd z.1 (by rw [c54]; decide), by omega⟩
              exact rt_i hx hb hr hlocks () (by rw [tx_on, tx_o1, if_pos c29, if_pos hmy, c94, tx_p_n]; decide) hP hD hS dX6_on_100
          · refine lv_sipush (v := (-999)) hx hb dX6_on_64 (by decide) ?_
            have hbe : tx_be bo d ux = false := tx_be_f (Or.inl ((tx_bf_N hbo d).mp c8))
            exact rt_i hx hb hr hlocks () (by rw [tx_on, tx_o1, if_pos c29, if_neg (fun z => absurd (of_decide_eq_true z).2.2 (by omega))]; decide) hP hD hS dX6_on_67
  · refine lv_aload_n hx hb dX6_on_11 rfl (lv_at hl 0 rfl) ?_
    refine va_get (D := D) (ci := 6) (v := .ref o6) (C := RX6) (T := TX6) (N := 24) hx hb hts in_X6 hown hK (hR hS) 0 rfl rfl 7 (by decide) hf_25 (fun _ h9 => h9) rfl dX6_on_12 ?_
    refine lv_iload_n hx hb dX6_on_15 rfl (lv_at hl 1 rfl) ?_
    refine ia_n (f := tx_bf bo) hx hb hK (hR hS) 5 0 rfl rfl (j := d) rfl (by omega) (by decide) dX6_on_16 ?_
    refine lv_iload hx hb dX6_on_17 (lv_at hl 4 rfl) ?_
    refine lv_icmp_eq (tgt := 26) hx hb dX6_on_19 (by decide) (fun c19 => ?_) (fun c19 => ?_)
    · refine lv_iload_n hx hb dX6_on_26 rfl (lv_at hl 2 rfl) ?_
      refine lv_iload hx hb dX6_on_27 (lv_at hl 4 rfl) ?_
      refine bi_ne (a := t) (b := (ux : Int)) (tgt := 38) hx hb rfl (nI_iI _) (by omega) (by omega) (by omega) (by omega) dX6_on_29 (by decide) (fun c29 => ?_) (fun c29 => ?_)
      · refine lv_iconst (v := 1) hx hb dX6_on_38 (by decide) ?_
        refine lv_istore (lv' := [(6, .int 1), (0, .ref o), (1, .int (nI d)), (2, .int (iI t)), (3, .int (nI k)), (4, .int (nI ux)), (5, .int (nI lm))]) hx hb dX6_on_39 hl (by decide) rfl (fun ls hl => ?_)
        refine lv_iload hx hb dX6_on_41 (lv_at hl 0 rfl) ?_
        refine lv_iload hx hb dX6_on_43 (lv_at hl 6 rfl) ?_
        refine bn_le (a := 1) (b := lm) (tgt := 57) hx hb rfl rfl (by decide) (by omega) dX6_on_45 (by decide) (fun c45 => ?_) (fun c45 => ?_)
        · refine lv_iload hx hb dX6_on_57 (lv_at hl 0 rfl) ?_
          refine lv_bipush (v := 20) hx hb dX6_on_59 (by decide) ?_
          refine bn_le (a := 1) (b := 20) (tgt := 68) hx hb rfl rfl (by decide) (by decide) dX6_on_61 (by decide) (fun c61 => ?_) (fun c61 => ?_)
          · refine lv_aload_n hx hb dX6_on_68 rfl (lv_at hl 1 rfl) ?_
            refine va_get (D := D) (ci := 6) (v := .ref o12) (C := RX6) (T := TX6) (N := 24) hx hb hts in_X6 hown hK (hR hS) 0 rfl rfl 20 (by decide) hf_43 (fun _ h9 => h9) rfl dX6_on_69 ?_
            refine lv_iconst (v := 4) hx hb dX6_on_72 (by decide) ?_
            refine lv_iload_n hx hb dX6_on_73 rfl (lv_at hl 2 rfl) ?_
            refine lv_iconst (v := 1) hx hb dX6_on_74 (by decide) ?_
            refine lv_iadd hx hb dX6_on_75 ?_
            refine tp_i (nI_add d 1) ?_
            refine lv_imul hx hb dX6_on_76 ?_
            refine tp_i (pk_mul 4 (d + 1)) ?_
            refine lv_iload hx hb dX6_on_77 (lv_at hl 5 rfl) ?_
            refine lv_iadd hx hb dX6_on_79 ?_
            refine tp_i (nI_add (4 * (d + 1)) ux) ?_
            refine lv_bipush (v := 22) hx hb dX6_on_80 (by decide) ?_
            refine lv_imul hx hb dX6_on_82 ?_
            refine tp_i (pk_mul ((4 * (d + 1)) + ux) 22) ?_
            refine lv_iload hx hb dX6_on_83 (lv_at hl 0 rfl) ?_
            refine lv_iadd hx hb dX6_on_85 ?_
            refine tp_i (nI_add (((4 * (d + 1)) + ux) * 22) 1) ?_
            refine ia_n (f := mst) hx hb hK (hR hS) 6 0 rfl rfl (j := (((4 * (d + 1)) + ux) * 22) + 1) rfl (by omega) (by decide) dX6_on_86 ?_
            have hVb := tx_V_b (n := n) (dy := dy) (ch := ch) (kd := kd) (wo := wo) (ha := ha) (we := we) (bo := bo) (l := lm) hwo hha hwe hch (dy - (d + 1)) (by omega) ux (1)
            unfold tx_bo9 at hVb
            refine tp_i (show mst ((((4 * (d + 1)) + ux) * 22) + 1) = iI (tx_V n dy ch kd wo ha we bo lm (dy - (d + 1)) ux (1)) from hmst ux hu (1) (by omega) (by omega)) ?_
            refine lv_istore (lv' := [(7, .int (iI (tx_V n dy ch kd wo ha we bo lm (dy - (d + 1)) ux (1)))), (6, .int 1), (0, .ref o), (1, .int (nI d)), (2, .int (iI t)), (3, .int (nI k)), (4, .int (nI ux)), (5, .int (nI lm))]) hx hb dX6_on_87 hl (by decide) rfl (fun ls hl => ?_)
            refine lv_iload hx hb dX6_on_89 (lv_at hl 0 rfl) ?_
            refine lv_sipush (v := (-999)) hx hb dX6_on_91 (by decide) ?_
            refine bi_ne (a := tx_V n dy ch kd wo ha we bo lm (dy - (d + 1)) ux (1)) (b := (-999)) (tgt := 101) hx hb rfl (by decide) (by omega) (by omega) (by omega) (by omega) dX6_on_94 (by decide) (fun c94 => ?_) (fun c94 => ?_)
            · refine lv_iload hx hb dX6_on_101 (lv_at hl 0 rfl) ?_
              refine lv_aload_n hx hb dX6_on_103 rfl (lv_at hl 2 rfl) ?_
              refine lv_iload hx hb dX6_on_104 (lv_at hl 6 rfl) ?_
              refine lv_iload hx hb dX6_on_106 (lv_at hl 1 rfl) ?_
              refine cV_i (As := [.int (nI ux), .int 1]) (rest := [.int (iI (tx_V n dy ch kd wo ha we bo lm (dy - (d + 1)) ux (1)))]) (cr := [(o, .inr (6, [.int (nI n), .ref o1, .ref o2, .ref o3, .ref o4, .int (nI dy), .ref o5, .ref o6, .int (nI ch), .int (nI lw), .int (nI tz), .ref o7, .int (nI at9), .int (nI va9), .int (nI ss), .ref o8, .ref o9, .int (bI im), .ref o10, .ref o11, .ref o12, .ref o13, .ref o14, .ref o15])), (o1, aI cs 4 (tx_nf kd)), (o2, aI cs 4 (tx_nf wo)), (o3, aI cs 4 (tx_nf ha)), (o4, aI cs 4 (tx_nf we))]) (cw1 := []) ⟨hx, hb, hml, hown, hts⟩ (c_X6_worthOf l D cs _ o o1 o2 o3 o4 o5 o6 o7 o8 o9 o10 o11 o12 o13 o14 o15 n dy ch lw tz at9 va9 ss im kd wo ha we ux 1 (by omega) (by omega) (by first | assumption | omega)) (cwV 2 hts gX6_on_X6_worthOf rfl rfl rfl (by decide +kernel) ⟨Nat.le_of_ble_eq_true rfl, Nat.le_of_ble_eq_true rfl⟩) hK hP hD hS hA (((hR hS).app hP).sub [0, 1, 2, 3, 4] rfl) (dt_of hN [0, 1, 2, 3, 4] (by decide) rfl) [] rfl 0 rfl rfl rfl hl.1 rfl (Nat.le_of_ble_eq_true rfl) dX6_on_108 ⟨Nat.le_of_ble_eq_true rfl, Nat.le_of_ble_eq_true rfl⟩ (fun _ => rfl) (fun _ => rfl) (fun r_13 u9 H locs hw_14 hP hD hS => ?_)
              have hP : va_P D vwCl [] H := hP
              have hD : va_D A [] := hD
              subst r_13
              refine lv_iadd hx hb dX6_on_111 ?_
              refine tp_i (add_iI (a := tx_V n dy ch kd wo ha we bo lm (dy - (d + 1)) ux (1)) (b := tx_vl kd wo ha we ux 1) rfl rfl) ?_
              refine lv_iload_n hx hb dX6_on_112 rfl (lv_at hl 3 rfl) ?_
              refine bz_le (a := d) (tgt := 129) hx hb rfl (by omega) dX6_on_113 (by decide) (fun c113 => ?_) (fun c113 => ?_)
              · refine lv_iconst (v := 0) hx hb dX6_on_129 (by decide) ?_
                refine lv_isub hx hb dX6_on_130 ?_
                refine tp_i (sub_iI (a := (tx_V n dy ch kd wo ha we bo lm (dy - (d + 1)) ux (1)) + (tx_vl kd wo ha we ux 1)) (b := 0) rfl (by decide)) ?_
                have hbe : tx_be bo d ux = false := tx_be_f (Or.inr ((tx_bf_T hbo d (t := ux) (by omega)).mp c19))
                have hmy : tx_my n kd bo lm d ux (1) = true := decide_eq_true ⟨hbe, fun z => absurd z.2 (by omega), by omega⟩
                exact rt_i hx hb hr hlocks () (by rw [tx_on, tx_o1, if_neg c29, if_pos hmy, tx_p, if_neg c94, if_neg (fun z => by omega)]; congr 1; omega) hP hD hS dX6_on_131
              · refine lv_iload_n hx hb dX6_on_116 rfl (lv_at hl 4 rfl) ?_
                refine lv_iload hx hb dX6_on_117 (lv_at hl 6 rfl) ?_
                refine bi_eq (a := t) (b := (ux : Int)) (tgt := 129) hx hb rfl (nI_iI _) (by omega) (by omega) (by omega) (by omega) dX6_on_119 (by decide) (fun c119 => ?_) (fun c119 => ?_)
                · refine lv_iconst (v := 0) hx hb dX6_on_129 (by decide) ?_
                  refine lv_isub hx hb dX6_on_130 ?_
                  refine tp_i (sub_iI (a := (tx_V n dy ch kd wo ha we bo lm (dy - (d + 1)) ux (1)) + (tx_vl kd wo ha we ux 1)) (b := 0) rfl (by decide)) ?_
                  have hbe : tx_be bo d ux = false := tx_be_f (Or.inr ((tx_bf_T hbo d (t := ux) (by omega)).mp c19))
                  have hmy : tx_my n kd bo lm d ux (1) = true := decide_eq_true ⟨hbe, fun z => absurd z.2 (by omega), by omega⟩
                  exact rt_i hx hb hr hlocks () (by rw [tx_on, tx_o1, if_neg c29, if_pos hmy, tx_p, if_neg c94, if_neg (fun z => z.2 c119)]; congr 1; omega) hP hD hS dX6_on_131
                · refine lv_aload_n hx hb dX6_on_122 rfl (lv_at hl 2 rfl) ?_
                  refine va_get (D := D) (ci := 6) (v := .int (nI ch)) (C := RX6) (T := TX6) (N := 24) hx hb hts in_X6 hown hK (hR hS) 0 rfl rfl 8 (by decide) hf_60 (fun _ h9 => h9) rfl dX6_on_123 ?_
                  refine lv_goto (tgt := 130) hx hb dX6_on_126 (by decide) ?_
                  refine lv_isub hx hb dX6_on_130 ?_
                  refine tp_i (sub_iI (a := (tx_V n dy ch kd wo ha we bo lm (dy - (d + 1)) ux (1)) + (tx_vl kd wo ha we ux 1)) (b := (ch : Int)) rfl (nI_iI _)) ?_
                  have hbe : tx_be bo d ux = false := tx_be_f (Or.inr ((tx_bf_T hbo d (t := ux) (by omega)).mp c19))
                  have hmy : tx_my n kd bo lm d ux (1) = true := decide_eq_true ⟨hbe, fun z => absurd z.2 (by omega), by omega⟩
                  exact rt_i hx hb hr hlocks () (by rw [tx_on, tx_o1, if_neg c29, if_pos hmy, tx_p, if_neg c94, if_pos ⟨by omega, c119⟩]; congr 1; omega) hP hD hS dX6_on_131
            · refine lv_sipush (v := (-999)) hx hb dX6_on_97 (by decide) ?_
              have hbe : tx_be bo d ux = false := tx_be_f (Or.inr ((tx_bf_T hbo d (t := ux) (by omega)).mp c19))
              have hmy : tx_my n kd bo lm d ux (1) = true := decide_eq_true ⟨hbe, fun z => absurd z.2 (by omega), by omega⟩
              exact rt_i hx hb hr hlocks () (by rw [tx_on, tx_o1, if_neg c29, if_pos hmy, c94, tx_p_n]; decide) hP hD hS dX6_on_100
          · refine lv_sipush (v := (-999)) hx hb dX6_on_64 (by decide) ?_
            have hbe : tx_be bo d ux = false := tx_be_f (Or.inr ((tx_bf_T hbo d (t := ux) (by omega)).mp c19))
            exact rt_i hx hb hr hlocks () (by rw [tx_on, tx_o1, if_neg c29, if_neg (fun z => absurd (of_decide_eq_true z).2.2 (by omega))]; decide) hP hD hS dX6_on_67
        · refine lv_aload_n hx hb dX6_on_48 rfl (lv_at hl 1 rfl) ?_
          refine lv_iload hx hb dX6_on_49 (lv_at hl 5 rfl) ?_
          refine cV_i (As := [.int (nI ux)]) (rest := []) (cr := [(o, .inr (6, [.int (nI n), .ref o1, .ref o2, .ref o3, .ref o4, .int (nI dy), .ref o5, .ref o6, .int (nI ch), .int (nI lw), .int (nI tz), .ref o7, .int (nI at9), .int (nI va9), .int (nI ss), .ref o8, .ref o9, .int (bI im), .ref o10, .ref o11, .ref o12, .ref o13, .ref o14, .ref o15])), (o1, aI cs 4 (tx_nf kd))]) (cw1 := []) ⟨hx, hb, hml, hown, hts⟩ (c_X6_counts l D cs _ o o1 o2 o3 o4 o5 o6 o7 o8 o9 o10 o11 o12 o13 o14 o15 n dy ch lw tz at9 va9 ss im kd ux (by first | assumption | omega) (by omega) (fun _ => hu) (by first | assumption | omega)) (cwV 1 hts gX6_on_X6_counts rfl rfl rfl (by decide +kernel) ⟨Nat.le_of_ble_eq_true rfl, Nat.le_of_ble_eq_true rfl⟩) hK hP hD hS hA (((hR hS).app hP).sub [0, 1] rfl) (dt_of hN [0, 1] (by decide) rfl) [] rfl 0 rfl rfl rfl hl.1 rfl (Nat.le_of_ble_eq_true rfl) dX6_on_51 ⟨Nat.le_of_ble_eq_true rfl, Nat.le_of_ble_eq_true rfl⟩ (fun _ => rfl) (fun _ => rfl) (fun r_15 u9 H locs hw_16 hP hD hS => ?_)
          have hP : va_P D vwCl [] H := hP
          have hD : va_D A [] := hD
          subst r_15
          refine bb_ne (b := tx_tx n kd ux) (tgt := 64) hx hb rfl dX6_on_54 (by decide) (fun c54 => ?_) (fun c54 => ?_)
          · refine lv_sipush (v := (-999)) hx hb dX6_on_64 (by decide) ?_
            have hbe : tx_be bo d ux = false := tx_be_f (Or.inr ((tx_bf_T hbo d (t := ux) (by omega)).mp c19))
            exact rt_i hx hb hr hlocks () (by rw [tx_on, tx_o1, if_neg c29, if_neg (fun z => (of_decide_eq_true z).2.1 ⟨c54, by omega⟩)]; decide) hP hD hS dX6_on_67
          · refine lv_iload hx hb dX6_on_57 (lv_at hl 0 rfl) ?_
            refine lv_bipush (v := 20) hx hb dX6_on_59 (by decide) ?_
            refine bn_le (a := 1) (b := 20) (tgt := 68) hx hb rfl rfl (by decide) (by decide) dX6_on_61 (by decide) (fun c61 => ?_) (fun c61 => ?_)
            · refine lv_aload_n hx hb dX6_on_68 rfl (lv_at hl 1 rfl) ?_
              refine va_get (D := D) (ci := 6) (v := .ref o12) (C := RX6) (T := TX6) (N := 24) hx hb hts in_X6 hown hK (hR hS) 0 rfl rfl 20 (by decide) hf_43 (fun _ h9 => h9) rfl dX6_on_69 ?_
              refine lv_iconst (v := 4) hx hb dX6_on_72 (by decide) ?_
              refine lv_iload_n hx hb dX6_on_73 rfl (lv_at hl 2 rfl) ?_
              refine lv_iconst (v := 1) hx hb dX6_on_74 (by decide) ?_
              refine lv_iadd hx hb dX6_on_75 ?_
              refine tp_i (nI_add d 1) ?_
              refine lv_imul hx hb dX6_on_76 ?_
              refine tp_i (pk_mul 4 (d + 1)) ?_
              refine lv_iload hx hb dX6_on_77 (lv_at hl 5 rfl) ?_
              refine lv_iadd hx hb dX6_on_79 ?_
              refine tp_i (nI_add (4 * (d + 1)) ux) ?_
              refine lv_bipush (v := 22) hx hb dX6_on_80 (by decide) ?_
              refine lv_imul hx hb dX6_on_82 ?_
              refine tp_i (pk_mul ((4 * (d + 1)) + ux) 22) ?_
              refine lv_iload hx hb dX6_on_83 (lv_at hl 0 rfl) ?_
              refine lv_iadd hx hb dX6_on_85 ?_
              refine tp_i (nI_add (((4 * (d + 1)) + ux) * 22) 1) ?_
              refine ia_n (f := mst) hx hb hK (hR hS) 6 0 rfl rfl (j := (((4 * (d + 1)) + ux) * 22) + 1) rfl (by omega) (by decide) dX6_on_86 ?_
              have hVb := tx_V_b (n := n) (dy := dy) (ch := ch) (kd := kd) (wo := wo) (ha := ha) (we := we) (bo := bo) (l := lm) hwo hha hwe hch (dy - (d + 1)) (by omega) ux (1)
              unfold tx_bo9 at hVb
              refine tp_i (show mst ((((4 * (d + 1)) + ux) * 22) + 1) = iI (tx_V n dy ch kd wo ha we bo lm (dy - (d + 1)) ux (1)) from hmst ux hu (1) (by omega) (by omega)) ?_
              refine lv_istore (lv' := [(7, .int (iI (tx_V n dy ch kd wo ha we bo lm (dy - (d + 1)) ux (1)))), (6, .int 1), (0, .ref o), (1, .int (nI d)), (2, .int (iI t)), (3, .int (nI k)), (4, .int (nI ux)), (5, .int (nI lm))]) hx hb dX6_on_87 hl (by decide) rfl (fun ls hl => ?_)
              refine lv_iload hx hb dX6_on_89 (lv_at hl 0 rfl) ?_
              refine lv_sipush (v := (-999)) hx hb dX6_on_91 (by decide) ?_
              refine bi_ne (a := tx_V n dy ch kd wo ha we bo lm (dy - (d + 1)) ux (1)) (b := (-999)) (tgt := 101) hx hb rfl (by decide) (by omega) (by omega) (by omega) (by omega) dX6_on_94 (by decide) (fun c94 => ?_) (fun c94 => ?_)
              · refine lv_iload hx hb dX6_on_101 (lv_at hl 0 rfl) ?_
                refine lv_aload_n hx hb dX6_on_103 rfl (lv_at hl 2 rfl) ?_
                refine lv_iload hx hb dX6_on_104 (lv_at hl 6 rfl) ?_
                refine lv_iload hx hb dX6_on_106 (lv_at hl 1 rfl) ?_
                refine cV_i (As := [.int (nI ux), .int 1]) (rest := [.int (iI (tx_V n dy ch kd wo ha we bo lm (dy - (d + 1)) ux (1)))]) (cr := [(o, .inr (6, [.int (nI n), .ref o1, .ref o2, .ref o3, .ref o4, .int (nI dy), .ref o5, .ref o6, .int (nI ch), .int (nI lw), .int (nI tz), .ref o7, .int (nI at9), .int (nI va9), .int (nI ss), .ref o8, .ref o9, .int (bI im), .ref o10, .ref o11, .ref o12, .ref o13, .ref o14, .ref o15])), (o1, aI cs 4 (tx_nf kd)), (o2, aI cs 4 (tx_nf wo)), (o3, aI cs 4 (tx_nf ha)), (o4, aI cs 4 (tx_nf we))]) (cw1 := []) ⟨hx, hb, hml, hown, hts⟩ (c_X6_worthOf l D cs _ o o1 o2 o3 o4 o5 o6 o7 o8 o9 o10 o11 o12 o13 o14 o15 n dy ch lw tz at9 va9 ss im kd wo ha we ux 1 (by omega) (by omega) (by first | assumption | omega)) (cwV 2 hts gX6_on_X6_worthOf rfl rfl rfl (by decide +kernel) ⟨Nat.le_of_ble_eq_true rfl, Nat.le_of_ble_eq_true rfl⟩) hK hP hD hS hA (((hR hS).app hP).sub [0, 1, 2, 3, 4] rfl) (dt_of hN [0, 1, 2, 3, 4] (by decide) rfl) [] rfl 0 rfl rfl rfl hl.1 rfl (Nat.le_of_ble_eq_true rfl) dX6_on_108 ⟨Nat.le_of_ble_eq_true rfl, Nat.le_of_ble_eq_true rfl⟩ (fun _ => rfl) (fun _ => rfl) (fun r_17 u9 H locs hw_18 hP hD hS => ?_)
                have hP : va_P D vwCl [] H := hP
                have hD : va_D A [] := hD
                subst r_17
                refine lv_iadd hx hb dX6_on_111 ?_
                refine tp_i (add_iI (a := tx_V n dy ch kd wo ha we bo lm (dy - (d + 1)) ux (1)) (b := tx_vl kd wo ha we ux 1) rfl rfl) ?_
                refine lv_iload_n hx hb dX6_on_112 rfl (lv_at hl 3 rfl) ?_
                refine bz_le (a := d) (tgt := 129) hx hb rfl (by omega) dX6_on_113 (by decide) (fun c113 => ?_) (fun c113 => ?_)
                · refine lv_iconst (v := 0) hx hb dX6_on_129 (by decide) ?_
                  refine lv_isub hx hb dX6_on_130 ?_
                  refine tp_i (sub_iI (a := (tx_V n dy ch kd wo ha we bo lm (dy - (d + 1)) ux (1)) + (tx_vl kd wo ha we ux 1)) (b := 0) rfl (by decide)) ?_
                  have hbe : tx_be bo d ux = false := tx_be_f (Or.inr ((tx_bf_T hbo d (t := ux) (by omega)).mp c19))
                  have hmy : tx_my n kd bo lm d ux (1) = true := decide_eq_true ⟨hbe, fun z => absurd z.1 (by rw [c54]; decide), by omega⟩
                  exact rt_i hx hb hr hlocks () (by rw [tx_on, tx_o1, if_neg c29, if_pos hmy, tx_p, if_neg c94, if_neg (fun z => by omega)]; congr 1; omega) hP hD hS dX6_on_131
                · refine lv_iload_n hx hb dX6_on_116 rfl (lv_at hl 4 rfl) ?_
                  refine lv_iload hx hb dX6_on_117 (lv_at hl 6 rfl) ?_
                  refine bi_eq (a := t) (b := (ux : Int)) (tgt := 129) hx hb rfl (nI_iI _) (by omega) (by omega) (by omega) (by omega) dX6_on_119 (by decide) (fun c119 => ?_) (fun c119 => ?_)
                  · refine lv_iconst (v := 0) hx hb dX6_on_129 (by decide) ?_
                    refine lv_isub hx hb dX6_on_130 ?_
                    refine tp_i (sub_iI (a := (tx_V n dy ch kd wo ha we bo lm (dy - (d + 1)) ux (1)) + (tx_vl kd wo ha we ux 1)) (b := 0) rfl (by decide)) ?_
                    have hbe : tx_be bo d ux = false := tx_be_f (Or.inr ((tx_bf_T hbo d (t := ux) (by omega)).mp c19))
                    have hmy : tx_my n kd bo lm d ux (1) = true := decide_eq_true ⟨hbe, fun z => absurd z.1 (by rw [c54]; decide), by omega⟩
                    exact rt_i hx hb hr hlocks () (by rw [tx_on, tx_o1, if_neg c29, if_pos hmy, tx_p, if_neg c94, if_neg (fun z => z.2 c119)]; congr 1; omega) hP hD hS dX6_on_131
                  · refine lv_aload_n hx hb dX6_on_122 rfl (lv_at hl 2 rfl) ?_
                    refine va_get (D := D) (ci := 6) (v := .int (nI ch)) (C := RX6) (T := TX6) (N := 24) hx hb hts in_X6 hown hK (hR hS) 0 rfl rfl 8 (by decide) hf_60 (fun _ h9 => h9) rfl dX6_on_123 ?_
                    refine lv_goto (tgt := 130) hx hb dX6_on_126 (by decide) ?_
                    refine lv_isub hx hb dX6_on_130 ?_
                    refine tp_i (sub_iI (a := (tx_V n dy ch kd wo ha we bo lm (dy - (d + 1)) ux (1)) + (tx_vl kd wo ha we ux 1)) (b := (ch : Int)) rfl (nI_iI _)) ?_
                    have hbe : tx_be bo d ux = false := tx_be_f (Or.inr ((tx_bf_T hbo d (t := ux) (by omega)).mp c19))
                    have hmy : tx_my n kd bo lm d ux (1) = true := decide_eq_true ⟨hbe, fun z => absurd z.1 (by rw [c54]; decide), by omega⟩
                    exact rt_i hx hb hr hlocks () (by rw [tx_on, tx_o1, if_neg c29, if_pos hmy, tx_p, if_neg c94, if_pos ⟨by omega, c119⟩]; congr 1; omega) hP hD hS dX6_on_131
              · refine lv_sipush (v := (-999)) hx hb dX6_on_97 (by decide) ?_
                have hbe : tx_be bo d ux = false := tx_be_f (Or.inr ((tx_bf_T hbo d (t := ux) (by omega)).mp c19))
                have hmy : tx_my n kd bo lm d ux (1) = true := decide_eq_true ⟨hbe, fun z => absurd z.1 (by rw [c54]; decide), by omega⟩
                exact rt_i hx hb hr hlocks () (by rw [tx_on, tx_o1, if_neg c29, if_pos hmy, c94, tx_p_n]; decide) hP hD hS dX6_on_100
            · refine lv_sipush (v := (-999)) hx hb dX6_on_64 (by decide) ?_
              have hbe : tx_be bo d ux = false := tx_be_f (Or.inr ((tx_bf_T hbo d (t := ux) (by omega)).mp c19))
              exact rt_i hx hb hr hlocks () (by rw [tx_on, tx_o1, if_neg c29, if_neg (fun z => absurd (of_decide_eq_true z).2.2 (by omega))]; decide) hP hD hS dX6_on_67
      · refine lv_iload_n hx hb dX6_on_32 rfl (lv_at hl 3 rfl) ?_
        refine lv_iconst (v := 1) hx hb dX6_on_33 (by decide) ?_
        refine lv_iadd hx hb dX6_on_34 ?_
        refine tp_i (nI_add k 1) ?_
        refine lv_goto (tgt := 39) hx hb dX6_on_35 (by decide) ?_
        refine lv_istore (lv' := [(6, .int (nI (k + 1))), (0, .ref o), (1, .int (nI d)), (2, .int (iI t)), (3, .int (nI k)), (4, .int (nI ux)), (5, .int (nI lm))]) hx hb dX6_on_39 hl (by decide) rfl (fun ls hl => ?_)
        refine lv_iload hx hb dX6_on_41 (lv_at hl 0 rfl) ?_
        refine lv_iload hx hb dX6_on_43 (lv_at hl 6 rfl) ?_
        refine bn_le (a := k + 1) (b := lm) (tgt := 57) hx hb rfl rfl (by omega) (by omega) dX6_on_45 (by decide) (fun c45 => ?_) (fun c45 => ?_)
        · refine lv_iload hx hb dX6_on_57 (lv_at hl 0 rfl) ?_
          refine lv_bipush (v := 20) hx hb dX6_on_59 (by decide) ?_
          refine bn_le (a := k + 1) (b := 20) (tgt := 68) hx hb rfl rfl (by omega) (by decide) dX6_on_61 (by decide) (fun c61 => ?_) (fun c61 => ?_)
          · refine lv_aload_n hx hb dX6_on_68 rfl (lv_at hl 1 rfl) ?_
            refine va_get (D := D) (ci := 6) (v := .ref o12) (C := RX6) (T := TX6) (N := 24) hx hb hts in_X6 hown hK (hR hS) 0 rfl rfl 20 (by decide) hf_43 (fun _ h9 => h9) rfl dX6_on_69 ?_
            refine lv_iconst (v := 4) hx hb dX6_on_72 (by decide) ?_
            refine lv_iload_n hx hb dX6_on_73 rfl (lv_at hl 2 rfl) ?_
            refine lv_iconst (v := 1) hx hb dX6_on_74 (by decide) ?_
            refine lv_iadd hx hb dX6_on_75 ?_
            refine tp_i (nI_add d 1) ?_
            refine lv_imul hx hb dX6_on_76 ?_
            refine tp_i (pk_mul 4 (d + 1)) ?_
            refine lv_iload hx hb dX6_on_77 (lv_at hl 5 rfl) ?_
            refine lv_iadd hx hb dX6_on_79 ?_
            refine tp_i (nI_add (4 * (d + 1)) ux) ?_
            refine lv_bipush (v := 22) hx hb dX6_on_80 (by decide) ?_
            refine lv_imul hx hb dX6_on_82 ?_
            refine tp_i (pk_mul ((4 * (d + 1)) + ux) 22) ?_
            refine lv_iload hx hb dX6_on_83 (lv_at hl 0 rfl) ?_
            refine lv_iadd hx hb dX6_on_85 ?_
            refine tp_i (nI_add (((4 * (d + 1)) + ux) * 22) (k + 1)) ?_
            refine ia_n (f := mst) hx hb hK (hR hS) 6 0 rfl rfl (j := (((4 * (d + 1)) + ux) * 22) + (k + 1)) rfl (by omega) (by decide) dX6_on_86 ?_
            have hVb := tx_V_b (n := n) (dy := dy) (ch := ch) (kd := kd) (wo := wo) (ha := ha) (we := we) (bo := bo) (l := lm) hwo hha hwe hch (dy - (d + 1)) (by omega) ux (k + 1)
            unfold tx_bo9 at hVb
            refine tp_i (show mst ((((4 * (d + 1)) + ux) * 22) + (k + 1)) = iI (tx_V n dy ch kd wo ha we bo lm (dy - (d + 1)) ux (k + 1)) from hmst ux hu (k + 1) (by omega) (by omega)) ?_
            refine lv_istore (lv' := [(7, .int (iI (tx_V n dy ch kd wo ha we bo lm (dy - (d + 1)) ux (k + 1)))), (6, .int (nI (k + 1))), (0, .ref o), (1, .int (nI d)), (2, .int (iI t)), (3, .int (nI k)), (4, .int (nI ux)), (5, .int (nI lm))]) hx hb dX6_on_87 hl (by decide) rfl (fun ls hl => ?_)
            refine lv_iload hx hb dX6_on_89 (lv_at hl 0 rfl) ?_
            refine lv_sipush (v := (-999)) hx hb dX6_on_91 (by decide) ?_
            refine bi_ne (a := tx_V n dy ch kd wo ha we bo lm (dy - (d + 1)) ux (k + 1)) (b := (-999)) (tgt := 101) hx hb rfl (by decide) (by omega) (by omega) (by omega) (by omega) dX6_on_94 (by decide) (fun c94 => ?_) (fun c94 => ?_)
            · refine lv_iload hx hb dX6_on_101 (lv_at hl 0 rfl) ?_
              refine lv_aload_n hx hb dX6_on_103 rfl (lv_at hl 2 rfl) ?_
              refine lv_iload hx hb dX6_on_104 (lv_at hl 6 rfl) ?_
              refine lv_iload hx hb dX6_on_106 (lv_at hl 1 rfl) ?_
              refine cV_i (As := [.int (nI ux), .int (nI (k + 1))]) (rest := [.int (iI (tx_V n dy ch kd wo ha we bo lm (dy - (d + 1)) ux (k + 1)))]) (cr := [(o, .inr (6, [.int (nI n), .ref o1, .ref o2, .ref o3, .ref o4, .int (nI dy), .ref o5, .ref o6, .int (nI ch), .int (nI lw), .int (nI tz), .ref o7, .int (nI at9), .int (nI va9), .int (nI ss), .ref o8, .ref o9, .int (bI im), .ref o10, .ref o11, .ref o12, .ref o13, .ref o14, .ref o15])), (o1, aI cs 4 (tx_nf kd)), (o2, aI cs 4 (tx_nf wo)), (o3, aI cs 4 (tx_nf ha)), (o4, aI cs 4 (tx_nf we))]) (cw1 := []) ⟨hx, hb, hml, hown, hts⟩ (c_X6_worthOf l D cs _ o o1 o2 o3 o4 o5 o6 o7 o8 o9 o10 o11 o12 o13 o14 o15 n dy ch lw tz at9 va9 ss im kd wo ha we ux (k + 1) (by omega) (by omega) (by first | assumption | omega)) (cwV 2 hts gX6_on_X6_worthOf rfl rfl rfl (by decide +kernel) ⟨Nat.le_of_ble_eq_true rfl, Nat.le_of_ble_eq_true rfl⟩) hK hP hD hS hA (((hR hS).app hP).sub [0, 1, 2, 3, 4] rfl) (dt_of hN [0, 1, 2, 3, 4] (by decide) rfl) [] rfl 0 rfl rfl rfl hl.1 rfl (Nat.le_of_ble_eq_true rfl) dX6_on_108 ⟨Nat.le_of_ble_eq_true rfl, Nat.le_of_ble_eq_true rfl⟩ (fun _ => rfl) (fun _ => rfl) (fun r_19 u9 H locs hw_20 hP hD hS => ?_)
              have hP : va_P D vwCl [] H := hP
              have hD : va_D A [] := hD
              subst r_19
              refine lv_iadd hx hb dX6_on_111 ?_
              refine tp_i (add_iI (a := tx_V n dy ch kd wo ha we bo lm (dy - (d + 1)) ux (k + 1)) (b := tx_vl kd wo ha we ux (k + 1)) rfl rfl) ?_
              refine lv_iload_n hx hb dX6_on_112 rfl (lv_at hl 3 rfl) ?_
              refine bz_le (a := d) (tgt := 129) hx hb rfl (by omega) dX6_on_113 (by decide) (fun c113 => ?_) (fun c113 => ?_)
              · refine lv_iconst (v := 0) hx hb dX6_on_129 (by decide) ?_
                refine lv_isub hx hb dX6_on_130 ?_
                refine tp_i (sub_iI (a := (tx_V n dy ch kd wo ha we bo lm (dy - (d + 1)) ux (k + 1)) + (tx_vl kd wo ha we ux (k + 1))) (b := 0) rfl (by decide)) ?_
                have hbe : tx_be bo d ux = false := tx_be_f (Or.inr ((tx_bf_T hbo d (t := ux) (by omega)).mp c19))
                have hmy : tx_my n kd bo lm d ux (k + 1) = true := decide_eq_true ⟨hbe, fun z => absurd z.2 (by omega), by omega⟩
                exact rt_i hx hb hr hlocks () (by rw [tx_on, tx_o1, if_pos c29, if_pos hmy, tx_p, if_neg c94, if_neg (fun z => by omega)]; congr 1; omega) hP hD hS dX6_on_131
              · refine lv_iload_n hx hb dX6_on_116 rfl (lv_at hl 4 rfl) ?_
                refine lv_iload hx hb dX6_on_117 (lv_at hl 6 rfl) ?_
                refine bi_eq (a := t) (b := (ux : Int)) (tgt := 129) hx hb rfl (nI_iI _) (by omega) (by omega) (by omega) (by omega) dX6_on_119 (by decide) (fun c119 => ?_) (fun c119 => ?_)
                · refine lv_iconst (v := 0) hx hb dX6_on_129 (by decide) ?_
                  refine lv_isub hx hb dX6_on_130 ?_
                  refine tp_i (sub_iI (a := (tx_V n dy ch kd wo ha we bo lm (dy - (d + 1)) ux (k + 1)) + (tx_vl kd wo ha we ux (k + 1))) (b := 0) rfl (by decide)) ?_
                  have hbe : tx_be bo d ux = false := tx_be_f (Or.inr ((tx_bf_T hbo d (t := ux) (by omega)).mp c19))
                  have hmy : tx_my n kd bo lm d ux (k + 1) = true := decide_eq_true ⟨hbe, fun z => absurd z.2 (by omega), by omega⟩
                  exact rt_i hx hb hr hlocks () (by rw [tx_on, tx_o1, if_pos c29, if_pos hmy, tx_p, if_neg c94, if_neg (fun z => z.2 c119)]; congr 1; omega) hP hD hS dX6_on_131
                · refine lv_aload_n hx hb dX6_on_122 rfl (lv_at hl 2 rfl) ?_
                  refine va_get (D := D) (ci := 6) (v := .int (nI ch)) (C := RX6) (T := TX6) (N := 24) hx hb hts in_X6 hown hK (hR hS) 0 rfl rfl 8 (by decide) hf_60 (fun _ h9 => h9) rfl dX6_on_123 ?_
                  refine lv_goto (tgt := 130) hx hb dX6_on_126 (by decide) ?_
                  refine lv_isub hx hb dX6_on_130 ?_
                  refine tp_i (sub_iI (a := (tx_V n dy ch kd wo ha we bo lm (dy - (d + 1)) ux (k + 1)) + (tx_vl kd wo ha we ux (k + 1))) (b := (ch : Int)) rfl (nI_iI _)) ?_
                  have hbe : tx_be bo d ux = false := tx_be_f (Or.inr ((tx_bf_T hbo d (t := ux) (by omega)).mp c19))
                  have hmy : tx_my n kd bo lm d ux (k + 1) = true := decide_eq_true ⟨hbe, fun z => absurd z.2 (by omega), by omega⟩
                  exact rt_i hx hb hr hlocks () (by rw [tx_on, tx_o1, if_pos c29, if_pos hmy, tx_p, if_neg c94, if_pos ⟨by omega, c119⟩]; congr 1; omega) hP hD hS dX6_on_131
            · refine lv_sipush (v := (-999)) hx hb dX6_on_97 (by decide) ?_
              have hbe : tx_be bo d ux = false := tx_be_f (Or.inr ((tx_bf_T hbo d (t := ux) (by omega)).mp c19))
              have hmy : tx_my n kd bo lm d ux (k + 1) = true := decide_eq_true ⟨hbe, fun z => absurd z.2 (by omega), by omega⟩
              exact rt_i hx hb hr hlocks () (by rw [tx_on, tx_o1, if_pos c29, if_pos hmy, c94, tx_p_n]; decide) hP hD hS dX6_on_100
          · refine lv_sipush (v := (-999)) hx hb dX6_on_64 (by decide) ?_
            have hbe : tx_be bo d ux = false := tx_be_f (Or.inr ((tx_bf_T hbo d (t := ux) (by omega)).mp c19))
            exact rt_i hx hb hr hlocks () (by rw [tx_on, tx_o1, if_pos c29, if_neg (fun z => absurd (of_decide_eq_true z).2.2 (by omega))]; decide) hP hD hS dX6_on_67
        · refine lv_aload_n hx hb dX6_on_48 rfl (lv_at hl 1 rfl) ?_
          refine lv_iload hx hb dX6_on_49 (lv_at hl 5 rfl) ?_
          refine cV_i (As := [.int (nI ux)]) (rest := []) (cr := [(o, .inr (6, [.int (nI n), .ref o1, .ref o2, .ref o3, .ref o4, .int (nI dy), .ref o5, .ref o6, .int (nI ch), .int (nI lw), .int (nI tz), .ref o7, .int (nI at9), .int (nI va9), .int (nI ss), .ref o8, .ref o9, .int (bI im), .ref o10, .ref o11, .ref o12, .ref o13, .ref o14, .ref o15])), (o1, aI cs 4 (tx_nf kd))]) (cw1 := []) ⟨hx, hb, hml, hown, hts⟩ (c_X6_counts l D cs _ o o1 o2 o3 o4 o5 o6 o7 o8 o9 o10 o11 o12 o13 o14 o15 n dy ch lw tz at9 va9 ss im kd ux (by first | assumption | omega) (by omega) (fun _ => hu) (by first | assumption | omega)) (cwV 1 hts gX6_on_X6_counts rfl rfl rfl (by decide +kernel) ⟨Nat.le_of_ble_eq_true rfl, Nat.le_of_ble_eq_true rfl⟩) hK hP hD hS hA (((hR hS).app hP).sub [0, 1] rfl) (dt_of hN [0, 1] (by decide) rfl) [] rfl 0 rfl rfl rfl hl.1 rfl (Nat.le_of_ble_eq_true rfl) dX6_on_51 ⟨Nat.le_of_ble_eq_true rfl, Nat.le_of_ble_eq_true rfl⟩ (fun _ => rfl) (fun _ => rfl) (fun r_21 u9 H locs hw_22 hP hD hS => ?_)
          have hP : va_P D vwCl [] H := hP
          have hD : va_D A [] := hD
          subst r_21
          refine bb_ne (b := tx_tx n kd ux) (tgt := 64) hx hb rfl dX6_on_54 (by decide) (fun c54 => ?_) (fun c54 => ?_)
          · refine lv_sipush (v := (-999)) hx hb dX6_on_64 (by decide) ?_
            have hbe : tx_be bo d ux = false := tx_be_f (Or.inr ((tx_bf_T hbo d (t := ux) (by omega)).mp c19))
            exact rt_i hx hb hr hlocks () (by rw [tx_on, tx_o1, if_pos c29, if_neg (fun z => (of_decide_eq_true z).2.1 ⟨c54, by omega⟩)]; decide) hP hD hS dX6_on_67
          · refine lv_iload hx hb dX6_on_57 (lv_at hl 0 rfl) ?_
            refine lv_bipush (v := 20) hx hb dX6_on_59 (by decide) ?_
            refine bn_le (a := k + 1) (b := 20) (tgt := 68) hx hb rfl rfl (by omega) (by decide) dX6_on_61 (by decide) (fun c61 => ?_) (fun c61 => ?_)
            · refine lv_aload_n hx hb dX6_on_68 rfl (lv_at hl 1 rfl) ?_
              refine va_get (D := D) (ci := 6) (v := .ref o12) (C := RX6) (T := TX6) (N := 24) hx hb hts in_X6 hown hK (hR hS) 0 rfl rfl 20 (by decide) hf_43 (fun _ h9 => h9) rfl dX6_on_69 ?_
              refine lv_iconst (v := 4) hx hb dX6_on_72 (by decide) ?_
              refine lv_iload_n hx hb dX6_on_73 rfl (lv_at hl 2 rfl) ?_
              refine lv_iconst (v := 1) hx hb dX6_on_74 (by decide) ?_
              refine lv_iadd hx hb dX6_on_75 ?_
              refine tp_i (nI_add d 1) ?_
              refine lv_imul hx hb dX6_on_76 ?_
              refine tp_i (pk_mul 4 (d + 1)) ?_
              refine lv_iload hx hb dX6_on_77 (lv_at hl 5 rfl) ?_
              refine lv_iadd hx hb dX6_on_79 ?_
              refine tp_i (nI_add (4 * (d + 1)) ux) ?_
              refine lv_bipush (v := 22) hx hb dX6_on_80 (by decide) ?_
              refine lv_imul hx hb dX6_on_82 ?_
              refine tp_i (pk_mul ((4 * (d + 1)) + ux) 22) ?_
              refine lv_iload hx hb dX6_on_83 (lv_at hl 0 rfl) ?_
              refine lv_iadd hx hb dX6_on_85 ?_
              refine tp_i (nI_add (((4 * (d + 1)) + ux) * 22) (k + 1)) ?_
              refine ia_n (f := mst) hx hb hK (hR hS) 6 0 rfl rfl (j := (((4 * (d + 1)) + ux) * 22) + (k + 1)) rfl (by omega) (by decide) dX6_on_86 ?_
              have hVb := tx_V_b (n := n) (dy := dy) (ch := ch) (kd := kd) (wo := wo) (ha := ha) (we := we) (bo := bo) (l := lm) hwo hha hwe hch (dy - (d + 1)) (by omega) ux (k + 1)
              unfold tx_bo9 at hVb
              refine tp_i (show mst ((((4 * (d + 1)) + ux) * 22) + (k + 1)) = iI (tx_V n dy ch kd wo ha we bo lm (dy - (d + 1)) ux (k + 1)) from hmst ux hu (k + 1) (by omega) (by omega)) ?_
              refine lv_istore (lv' := [(7, .int (iI (tx_V n dy ch kd wo ha we bo lm (dy - (d + 1)) ux (k + 1)))), (6, .int (nI (k + 1))), (0, .ref o), (1, .int (nI d)), (2, .int (iI t)), (3, .int (nI k)), (4, .int (nI ux)), (5, .int (nI lm))]) hx hb dX6_on_87 hl (by decide) rfl (fun ls hl => ?_)
              refine lv_iload hx hb dX6_on_89 (lv_at hl 0 rfl) ?_
              refine lv_sipush (v := (-999)) hx hb dX6_on_91 (by decide) ?_
              refine bi_ne (a := tx_V n dy ch kd wo ha we bo lm (dy - (d + 1)) ux (k + 1)) (b := (-999)) (tgt := 101) hx hb rfl (by decide) (by omega) (by omega) (by omega) (by omega) dX6_on_94 (by decide) (fun c94 => ?_) (fun c94 => ?_)
              · refine lv_iload hx hb dX6_on_101 (lv_at hl 0 rfl) ?_
                refine lv_aload_n hx hb dX6_on_103 rfl (lv_at hl 2 rfl) ?_
                refine lv_iload hx hb dX6_on_104 (lv_at hl 6 rfl) ?_
                refine lv_iload hx hb dX6_on_106 (lv_at hl 1 rfl) ?_
                refine cV_i (As := [.int (nI ux), .int (nI (k + 1))]) (rest := [.int (iI (tx_V n dy ch kd wo ha we bo lm (dy - (d + 1)) ux (k + 1)))]) (cr := [(o, .inr (6, [.int (nI n), .ref o1, .ref o2, .ref o3, .ref o4, .int (nI dy), .ref o5, .ref o6, .int (nI ch), .int (nI lw), .int (nI tz), .ref o7, .int (nI at9), .int (nI va9), .int (nI ss), .ref o8, .ref o9, .int (bI im), .ref o10, .ref o11, .ref o12, .ref o13, .ref o14, .ref o15])), (o1, aI cs 4 (tx_nf kd)), (o2, aI cs 4 (tx_nf wo)), (o3, aI cs 4 (tx_nf ha)), (o4, aI cs 4 (tx_nf we))]) (cw1 := []) ⟨hx, hb, hml, hown, hts⟩ (c_X6_worthOf l D cs _ o o1 o2 o3 o4 o5 o6 o7 o8 o9 o10 o11 o12 o13 o14 o15 n dy ch lw tz at9 va9 ss im kd wo ha we ux (k + 1) (by omega) (by omega) (by first | assumption | omega)) (cwV 2 hts gX6_on_X6_worthOf rfl rfl rfl (by decide +kernel) ⟨Nat.le_of_ble_eq_true rfl, Nat.le_of_ble_eq_true rfl⟩) hK hP hD hS hA (((hR hS).app hP).sub [0, 1, 2, 3, 4] rfl) (dt_of hN [0, 1, 2, 3, 4] (by decide) rfl) [] rfl 0 rfl rfl rfl hl.1 rfl (Nat.le_of_ble_eq_true rfl) dX6_on_108 ⟨Nat.le_of_ble_eq_true rfl, Nat.le_of_ble_eq_true rfl⟩ (fun _ => rfl) (fun _ => rfl) (fun r_23 u9 H locs hw_24 hP hD hS => ?_)
                have hP : va_P D vwCl [] H := hP
                have hD : va_D A [] := hD
                subst r_23
                refine lv_iadd hx hb dX6_on_111 ?_
                refine tp_i (add_iI (a := tx_V n dy ch kd wo ha we bo lm (dy - (d + 1)) ux (k + 1)) (b := tx_vl kd wo ha we ux (k + 1)) rfl rfl) ?_
                refine lv_iload_n hx hb dX6_on_112 rfl (lv_at hl 3 rfl) ?_
                refine bz_le (a := d) (tgt := 129) hx hb rfl (by omega) dX6_on_113 (by decide) (fun c113 => ?_) (fun c113 => ?_)
                · refine lv_iconst (v := 0) hx hb dX6_on_129 (by decide) ?_
                  refine lv_isub hx hb dX6_on_130 ?_
                  refine tp_i (sub_iI (a := (tx_V n dy ch kd wo ha we bo lm (dy - (d + 1)) ux (k + 1)) + (tx_vl kd wo ha we ux (k + 1))) (b := 0) rfl (by decide)) ?_
                  have hbe : tx_be bo d ux = false := tx_be_f (Or.inr ((tx_bf_T hbo d (t := ux) (by omega)).mp c19))
                  have hmy : tx_my n kd bo lm d ux (k + 1) = true := decide_eq_true ⟨hbe, fun z => absurd z.1 (by rw [c54]; decide), by omega⟩
                  exact rt_i hx hb hr hlocks () (by rw [tx_on, tx_o1, if_pos c29, if_pos hmy, tx_p, if_neg c94, if_neg (fun z => by omega)]; congr 1; omega) hP hD hS dX6_on_131
                · refine lv_iload_n hx hb dX6_on_116 rfl (lv_at hl 4 rfl) ?_
                  refine lv_iload hx hb dX6_on_117 (lv_at hl 6 rfl) ?_
                  refine bi_eq (a := t) (b := (ux : Int)) (tgt := 129) hx hb rfl (nI_iI _) (by omega) (by omega) (by omega) (by omega) dX6_on_119 (by decide) (fun c119 => ?_) (fun c119 => ?_)
                  · refine lv_iconst (v := 0) hx hb dX6_on_129 (by decide) ?_
                    refine lv_isub hx hb dX6_on_130 ?_
                    refine tp_i (sub_iI (a := (tx_V n dy ch kd wo ha we bo lm (dy - (d + 1)) ux (k + 1)) + (tx_vl kd wo ha we ux (k + 1))) (b := 0) rfl (by decide)) ?_
                    have hbe : tx_be bo d ux = false := tx_be_f (Or.inr ((tx_bf_T hbo d (t := ux) (by omega)).mp c19))
                    have hmy : tx_my n kd bo lm d ux (k + 1) = true := decide_eq_true ⟨hbe, fun z => absurd z.1 (by rw [c54]; decide), by omega⟩
                    exact rt_i hx hb hr hlocks () (by rw [tx_on, tx_o1, if_pos c29, if_pos hmy, tx_p, if_neg c94, if_neg (fun z => z.2 c119)]; congr 1; omega) hP hD hS dX6_on_131
                  · refine lv_aload_n hx hb dX6_on_122 rfl (lv_at hl 2 rfl) ?_
                    refine va_get (D := D) (ci := 6) (v := .int (nI ch)) (C := RX6) (T := TX6) (N := 24) hx hb hts in_X6 hown hK (hR hS) 0 rfl rfl 8 (by decide) hf_60 (fun _ h9 => h9) rfl dX6_on_123 ?_
                    refine lv_goto (tgt := 130) hx hb dX6_on_126 (by decide) ?_
                    refine lv_isub hx hb dX6_on_130 ?_
                    refine tp_i (sub_iI (a := (tx_V n dy ch kd wo ha we bo lm (dy - (d + 1)) ux (k + 1)) + (tx_vl kd wo ha we ux (k + 1))) (b := (ch : Int)) rfl (nI_iI _)) ?_
                    have hbe : tx_be bo d ux = false := tx_be_f (Or.inr ((tx_bf_T hbo d (t := ux) (by omega)).mp c19))
                    have hmy : tx_my n kd bo lm d ux (k + 1) = true := decide_eq_true ⟨hbe, fun z => absurd z.1 (by rw [c54]; decide), by omega⟩
                    exact rt_i hx hb hr hlocks () (by rw [tx_on, tx_o1, if_pos c29, if_pos hmy, tx_p, if_neg c94, if_pos ⟨by omega, c119⟩]; congr 1; omega) hP hD hS dX6_on_131
              · refine lv_sipush (v := (-999)) hx hb dX6_on_97 (by decide) ?_
                have hbe : tx_be bo d ux = false := tx_be_f (Or.inr ((tx_bf_T hbo d (t := ux) (by omega)).mp c19))
                have hmy : tx_my n kd bo lm d ux (k + 1) = true := decide_eq_true ⟨hbe, fun z => absurd z.1 (by rw [c54]; decide), by omega⟩
                exact rt_i hx hb hr hlocks () (by rw [tx_on, tx_o1, if_pos c29, if_pos hmy, c94, tx_p_n]; decide) hP hD hS dX6_on_100
            · refine lv_sipush (v := (-999)) hx hb dX6_on_64 (by decide) ?_
              have hbe : tx_be bo d ux = false := tx_be_f (Or.inr ((tx_bf_T hbo d (t := ux) (by omega)).mp c19))
              exact rt_i hx hb hr hlocks () (by rw [tx_on, tx_o1, if_pos c29, if_neg (fun z => absurd (of_decide_eq_true z).2.2 (by omega))]; decide) hP hD hS dX6_on_67
    · refine lv_sipush (v := (-999)) hx hb dX6_on_22 (by decide) ?_
      have hbe : tx_be bo d ux = true := tx_be_eq.mpr (by cases q8 : bo d with | none => exact absurd ((tx_bf_N hbo d).mpr q8) c8 | some u2 => exact ⟨u2, rfl, fun e7 => c19 ((tx_bf_T hbo d (t := ux) (by omega)).mpr (by rw [q8, e7]))⟩)
      exact rt_i hx hb hr hlocks () (by rw [tx_on, tx_o1, if_neg (fun z => absurd (of_decide_eq_true z).1 (by rw [hbe]; decide))]; decide) hP hD hS dX6_on_25
