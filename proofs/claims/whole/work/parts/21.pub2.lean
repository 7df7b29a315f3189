set_option maxHeartbeats 4000000 in
set_option maxRecDepth 100000 in
theorem c_X5_bind (l : Launch) (D : va_G) (cs : Nat → ClassId) (sz : Nat) (xo : Nat) (hk : Nat) (im : Bool) (tx : Nat) (pn : Nat) (cn : Nat) (s0 : Nat) (ss : Nat) (r0 : Nat) (h : Nat) (k0 : Nat) (k1 : Nat) (k2 : Nat) (k3 : Nat) (k4 : Nat) (k5 : Nat) (n : Nat) (dy : Nat) (ch : Nat) (lw : Nat) (g : Nat) (td : Nat → Nat) (bo : Nat → Option Nat) (rf : Nat → Nat) (d : Int32) (t : Int32) (hn : n ≤ 4) (hdy : dy ≤ 20) (hbo : tx_okb bo) : mI (S := Unit) l yX5_bind wsX5_bind ({ frames := 1, cells := 0, slots := 0, locals := 22 } : Room) D (tyc cs) sz [.ref xo, .int d, .int t] [(xo, .inr (5, [.ref h, .ref hk, .int (bI im), .ref tx, .ref g, .ref pn, .ref cn, .ref s0, .int (nI ss), .ref r0])), (h, .inr (4, [.ref k0, .ref k1, .ref k2, .ref k3, .ref k4, .ref k5, .int (nI n), .int (nI dy), .int (nI ch), .int (nI lw)]))] [(k4, aI cs 20 (tx_nf td)), (k5, aI cs 20 (tx_bf bo)), (r0, aI cs 7 (tx_nf rf))] (fun (r : Int32) (u : Unit) => r = tx_ai (tx_q_bind n dy d t) (tx_bf bo (tx_ix d))) (fun _ => [(k4, aI cs 20 (tx_nf (tx_if (tx_q_bind n dy d t) (if t = -1 then td else va_up td (tx_ix d) (tx_ix t)) td))), (k5, aI cs 20 (tx_bf (tx_if (tx_q_bind n dy d t) (va_up bo (tx_ix d) (if t = -1 then none else some (tx_ix t))) bo))), (r0, aI cs 7 (tx_nf (tx_rf rf (tx_q_bind n dy d t))))]) 0 0 := by
  unfold mI
  refine Met.ofW (cc := cX5_bind) (maxL := 4) (ret := (some .int)) (by decide) rfl ?_
  intro p e s m args below meth c s₁ B hml hv
  obtain ⟨rfl, hsz, hP, hK, hD0⟩ := hv
  have hx := B.exec
  have hb := B.bytes
  have hr := B.returns
  have hts := atoms_spec (ws := wsX5_bind) B.pre
  have hown : s.vm.findClass RX5 = some m.cls := findClass_of_methodNamed B.named
  have hlocks := B.notSynchronized
  subst hsz
  have hR := @en_R _ _ _ [(xo, .inr (5, [.ref h, .ref hk, .int (bI im), .ref tx, .ref g, .ref pn, .ref cn, .ref s0, .int (nI ss), .ref r0])), (h, .inr (4, [.ref k0, .ref k1, .ref k2, .ref k3, .ref k4, .ref k5, .int (nI n), .int (nI dy), .int (nI ch), .int (nI lw)]))] [(k4, aI cs 20 (tx_nf td)), (k5, aI cs 20 (tx_bf bo)), (r0, aI cs 7 (tx_nf rf))] _ hP hD0
  have hN := adN_of hD0
  have hD := en_D (wr := [(xo, .inr (5, [.ref h, .ref hk, .int (bI im), .ref tx, .ref g, .ref pn, .ref cn, .ref s0, .int (nI ss), .ref r0])), (h, .inr (4, [.ref k0, .ref k1, .ref k2, .ref k3, .ref k4, .ref k5, .int (nI n), .int (nI dy), .int (nI ch), .int (nI lw)]))]) (ww := [(k4, aI cs 20 (tx_nf td)), (k5, aI cs 20 (tx_bf bo)), (r0, aI cs 7 (tx_nf rf))]) (sz := s.heap.size) hD0
  have hP := en_P (wr := [(xo, .inr (5, [.ref h, .ref hk, .int (bI im), .ref tx, .ref g, .ref pn, .ref cn, .ref s0, .int (nI ss), .ref r0])), (h, .inr (4, [.ref k0, .ref k1, .ref k2, .ref k3, .ref k4, .ref k5, .int (nI n), .int (nI dy), .int (nI ch), .int (nI lw)]))]) (ww := [(k4, aI cs 20 (tx_nf td)), (k5, aI cs 20 (tx_bf bo)), (r0, aI cs 7 (tx_nf rf))]) hP
  generalize hAe : va_A [(k4, aI cs 20 (tx_nf td)), (k5, aI cs 20 (tx_bf bo)), (r0, aI cs 7 (tx_nf rf))] s.heap.size = A at hD hR ⊢
  have hA : ∀ q : Nat, s.heap.size ≤ q → A q := fun q h => by rw [← hAe]; exact Or.inr h
  have hS : va_S A s.heap s.heap [] := va_S.rf
  have hN : adN [xo, h, k4, k5, r0] := hN
  have hf_10 := hts (.fieldLink RX5 10 "TaxedByLongest" "told" "LTaxedByLongest$Told;") (by decide +kernel)
  have hf_103 := hts (.fieldLink RX5 103 "TaxedByLongest$Told" "bound" "[I") (by decide +kernel)
  have in_X4 : ∀ w ∈ wsX40, w ∈ wsX5_bind := by decide +kernel
  have in_X5 : ∀ w ∈ wsX50, w ∈ wsX5_bind := by decide +kernel
  have hl := lv_entry ([.ref xo, .int d, .int t]) (n := 4) (Nat.le_of_ble_eq_true rfl)
  rw [lg_entry_eq]
  generalize (lg_sl ([.ref xo, .int d, .int t]) ++ List.replicate (4 - (lg_sl ([.ref xo, .int d, .int t])).length) Slot.unset).toArray = ls at hl ⊢
  have hl : lv_has ls 4 [(0, .ref xo), (1, .int d), (2, .int t)] := hl
  refine lv_aload_n hx hb dX5_bind_0 rfl (lv_at hl 0 rfl) ?_
  refine va_get (D := D) (ci := 5) (v := .ref h) (C := RX5) (T := TX5) (N := 10) hx hb hts in_X5 hown hK (hR hS) 0 rfl rfl 0 (by decide) hf_10 (fun _ h9 => h9) rfl dX5_bind_1 ?_
  refine lv_iload_n hx hb dX5_bind_4 rfl (lv_at hl 1 rfl) ?_
  refine cV_i (As := [.int d]) (rest := []) (cr := [(h, .inr (4, [.ref k0, .ref k1, .ref k2, .ref k3, .ref k4, .ref k5, .int (nI n), .int (nI dy), .int (nI ch), .int (nI lw)]))]) (cw1 := []) ⟨hx, hb, hml, hown, hts⟩ (c_X4_hasDay l D cs _ h k0 k1 k2 k3 k4 k5 n dy ch lw d ) (cwV 1 hts gX5_bind_X4_hasDay rfl rfl rfl (by decide +kernel) ⟨Nat.le_of_ble_eq_true rfl, Nat.le_of_ble_eq_true rfl⟩) hK hP hD hS hA (((hR hS).app hP).sub [1] rfl) (dt_of hN [1] (by decide) rfl) [] rfl 0 rfl rfl rfl hl.1 rfl (Nat.le_of_ble_eq_true rfl) dX5_bind_5 ⟨Nat.le_of_ble_eq_true rfl, Nat.le_of_ble_eq_true rfl⟩ (fun _ => rfl) (fun _ => rfl) (fun r_1 u9 H locs hw_2 hP hD hS => ?_)
  have hP : va_P D vwCl [(k4, aI cs 20 (tx_nf td)), (k5, aI cs 20 (tx_bf bo)), (r0, aI cs 7 (tx_nf rf))] H := hP
  have hD : va_D A [(k4, aI cs 20 (tx_nf td)), (k5, aI cs 20 (tx_bf bo)), (r0, aI cs 7 (tx_nf rf))] := hD
  subst r_1
  refine bb_eq (b := tx_has dy d) (tgt := 27) hx hb rfl dX5_bind_8 (by decide) (fun c8 => ?_) (fun c8 => ?_)
  · refine lv_aload_n hx hb dX5_bind_27 rfl (lv_at hl 0 rfl) ?_
    refine lv_iconst (v := (-1)) hx hb dX5_bind_28 (by decide) ?_
    refine cV_i (As := [.int (-1)]) (rest := []) (cr := [(xo, .inr (5, [.ref h, .ref hk, .int (bI im), .ref tx, .ref g, .ref pn, .ref cn, .ref s0, .int (nI ss), .ref r0]))]) (cw1 := [(r0, aI cs 7 (tx_nf rf))]) ⟨hx, hb, hml, hown, hts⟩ (c_X5_refuse l D cs _ xo hk im tx pn cn s0 ss r0 h g rf (-1) 1 (by decide) (by decide) (by decide)) (cwV 1 hts gX5_bind_X5_refuse rfl rfl rfl (by decide +kernel) ⟨Nat.le_of_ble_eq_true rfl, Nat.le_of_ble_eq_true rfl⟩) hK hP hD hS hA (((hR hS).app hP).sub [0, 4] rfl) (dt_of hN [0, 4] (by decide) rfl) [2] rfl 0 rfl rfl rfl hl.1 rfl (Nat.le_of_ble_eq_true rfl) dX5_bind_29 ⟨Nat.le_of_ble_eq_true rfl, Nat.le_of_ble_eq_true rfl⟩ (fun _ => rfl) (fun _ => rfl) (fun r_3 u9 H locs hw_4 hP hD hS => ?_)
    have hP : va_P D vwCl [(k4, aI cs 20 (tx_nf td)), (k5, aI cs 20 (tx_bf bo)), (r0, aI cs 7 (tx_nf (tx_rf rf 1)))] H := hP
    have hD : va_D A [(k4, aI cs 20 (tx_nf td)), (k5, aI cs 20 (tx_bf bo)), (r0, aI cs 7 (tx_nf (tx_rf rf 1)))] := hD
    subst r_3
    have hQ : tx_q_bind n dy d t = 1 := by simp [tx_q_bind, c8]
    have e9 : tx_rf rf (tx_q_bind n dy d t) = tx_rf rf 1 := by rw [hQ] <;> rfl
    have hP : va_P D vwCl [(k4, aI cs 20 (tx_nf (tx_if (tx_q_bind n dy d t) (if t = -1 then td else va_up td (tx_ix d) (tx_ix t)) td))), (k5, aI cs 20 (tx_bf (tx_if (tx_q_bind n dy d t) (va_up bo (tx_ix d) (if t = -1 then none else some (tx_ix t))) bo))), (r0, aI cs 7 (tx_nf (tx_rf rf (tx_q_bind n dy d t))))] H := by rw [e9]; (try simp only [hQ]); (try rw [hii1]); (try rw [hii2]); (first | (rw [if_neg hne, if_neg hne]) | (rw [if_pos c13, if_pos c13]) | skip); exact hP
    have hD : va_D A [(k4, aI cs 20 (tx_nf (tx_if (tx_q_bind n dy d t) (if t = -1 then td else va_up td (tx_ix d) (tx_ix t)) td))), (k5, aI cs 20 (tx_bf (tx_if (tx_q_bind n dy d t) (va_up bo (tx_ix d) (if t = -1 then none else some (tx_ix t))) bo))), (r0, aI cs 7 (tx_nf (tx_rf rf (tx_q_bind n dy d t))))] := by rw [e9]; (try simp only [hQ]); (try rw [hii1]); (try rw [hii2]); (first | (rw [if_neg hne, if_neg hne]) | (rw [if_pos c13, if_pos c13]) | skip); exact hD
    exact rt_i hx hb hr hlocks () (by rw [hQ] <;> (first | done | rfl)) hP hD hS dX5_bind_32
  · refine lv_iload_n hx hb dX5_bind_11 rfl (lv_at hl 2 rfl) ?_
    refine lv_iconst (v := (-1)) hx hb dX5_bind_12 (by decide) ?_
    refine lv_icmp_eq (tgt := 33) hx hb dX5_bind_13 (by decide) (fun c13 => ?_) (fun c13 => ?_)
    · obtain ⟨i1, h1, rfl⟩ := tx_has_t (by omega) c8
      have hii1 : tx_ix (nI i1) = i1 := tx_ix_n (by omega)
      refine lv_aload_n hx hb dX5_bind_33 rfl (lv_at hl 0 rfl) ?_
      refine va_get (D := D) (ci := 5) (v := .ref h) (C := RX5) (T := TX5) (N := 10) hx hb hts in_X5 hown hK (hR hS) 0 rfl rfl 0 (by decide) hf_10 (fun _ h9 => h9) rfl dX5_bind_34 ?_
      refine va_get (D := D) (ci := 4) (v := .ref k5) (C := RX4) (T := TX4) (N := 10) hx hb hts in_X4 hown hK (hR hS) 1 rfl rfl 5 (by decide) hf_103 (fun _ h9 => h9) rfl dX5_bind_37 ?_
      refine lv_iload_n hx hb dX5_bind_40 rfl (lv_at hl 1 rfl) ?_
      refine ia_n (f := tx_bf bo) hx hb hK hP 1 0 rfl rfl (j := i1) rfl (by omega) (by decide) dX5_bind_41 ?_
      refine lv_istore_n (lv' := [(3, .int (tx_bf bo i1)), (0, .ref xo), (1, .int (nI i1)), (2, .int t)]) hx hb dX5_bind_42 rfl hl (by decide) rfl (fun ls hl => ?_)
      refine lv_iload_n hx hb dX5_bind_43 rfl (lv_at hl 3 rfl) ?_
      refine lv_iconst (v := (-1)) hx hb dX5_bind_44 (by decide) ?_
      refine lv_icmp_ne (tgt := 59) hx hb dX5_bind_45 (by decide) (fun c45 => ?_) (fun c45 => ?_)
      · exact absurd c13 c45
      · refine lv_aload_n hx hb dX5_bind_48 rfl (lv_at hl 1 rfl) ?_
        refine va_get (D := D) (ci := 5) (v := .ref h) (C := RX5) (T := TX5) (N := 10) hx hb hts in_X5 hown hK (hR hS) 0 rfl rfl 0 (by decide) hf_10 (fun _ h9 => h9) rfl dX5_bind_49 ?_
        refine lv_iload_n hx hb dX5_bind_52 rfl (lv_at hl 2 rfl) ?_
        refine cV_v (As := [.int (nI i1)]) (rest := []) (cr := [(h, .inr (4, [.ref k0, .ref k1, .ref k2, .ref k3, .ref k4, .ref k5, .int (nI n), .int (nI dy), .int (nI ch), .int (nI lw)]))]) (cw1 := [(k5, aI cs 20 (tx_bf bo))]) ⟨hx, hb, hml, hown, hts⟩ (c_X4_unbindDay l D cs _ h k0 k1 k2 k3 k4 k5 n dy ch lw bo i1 (by first | assumption | omega)) (cwV 1 hts gX5_bind_X4_unbindDay rfl rfl rfl (by decide +kernel) ⟨Nat.le_of_ble_eq_true rfl, Nat.le_of_ble_eq_true rfl⟩) hK hP hD hS hA (((hR hS).app hP).sub [1, 3] rfl) (dt_of hN [1, 3] (by decide) rfl) [1] rfl 0 rfl rfl rfl hl.1 rfl (Nat.le_of_ble_eq_true rfl) dX5_bind_53 ⟨Nat.le_of_ble_eq_true rfl, Nat.le_of_ble_eq_true rfl⟩ (fun _ => rfl) (fun _ => rfl) (fun u9 H locs hw_5 hP hD hS => ?_)
        have hP : va_P D vwCl [(k4, aI cs 20 (tx_nf td)), (k5, aI cs 20 (tx_bf (va_up bo i1 none))), (r0, aI cs 7 (tx_nf rf))] H := hP
        have hD : va_D A [(k4, aI cs 20 (tx_nf td)), (k5, aI cs 20 (tx_bf (va_up bo i1 none))), (r0, aI cs 7 (tx_nf rf))] := hD
        refine lv_goto (tgt := 68) hx hb dX5_bind_56 (by decide) ?_
        refine lv_iload_n hx hb dX5_bind_68 rfl (lv_at hl 0 rfl) ?_
        have hQ : tx_q_bind n dy (nI i1) t = 0 := by simp [tx_q_bind, c8, c13, c45, hii1]
        have e9 : tx_rf rf (tx_q_bind n dy (nI i1) t) = rf := by rw [hQ] <;> rfl
        have hP : va_P D vwCl [(k4, aI cs 20 (tx_nf (tx_if (tx_q_bind n dy (nI i1) t) (if t = -1 then td else va_up td (tx_ix (nI i1)) (tx_ix t)) td))), (k5, aI cs 20 (tx_bf (tx_if (tx_q_bind n dy (nI i1) t) (va_up bo (tx_ix (nI i1)) (if t = -1 then none else some (tx_ix t))) bo))), (r0, aI cs 7 (tx_nf (tx_rf rf (tx_q_bind n dy (nI i1) t))))] H := by rw [e9]; (try simp only [hQ]); (try rw [hii1]); (try rw [hii2]); (first | (rw [if_neg hne, if_neg hne]) | (rw [if_pos c13, if_pos c13]) | skip); exact hP
        have hD : va_D A [(k4, aI cs 20 (tx_nf (tx_if (tx_q_bind n dy (nI i1) t) (if t = -1 then td else va_up td (tx_ix (nI i1)) (tx_ix t)) td))), (k5, aI cs 20 (tx_bf (tx_if (tx_q_bind n dy (nI i1) t) (va_up bo (tx_ix (nI i1)) (if t = -1 then none else some (tx_ix t))) bo))), (r0, aI cs 7 (tx_nf (tx_rf rf (tx_q_bind n dy (nI i1) t))))] := by rw [e9]; (try simp only [hQ]); (try rw [hii1]); (try rw [hii2]); (first | (rw [if_neg hne, if_neg hne]) | (rw [if_pos c13, if_pos c13]) | skip); exact hD
        exact rt_i hx hb hr hlocks () (by rw [hQ] <;> (first | (rw [hii1]; rfl) | rfl)) hP hD hS dX5_bind_69
    · refine lv_aload_n hx hb dX5_bind_16 rfl (lv_at hl 0 rfl) ?_
      refine va_get (D := D) (ci := 5) (v := .ref h) (C := RX5) (T := TX5) (N := 10) hx hb hts in_X5 hown hK (hR hS) 0 rfl rfl 0 (by decide) hf_10 (fun _ h9 => h9) rfl dX5_bind_17 ?_
      refine lv_iload_n hx hb dX5_bind_20 rfl (lv_at hl 2 rfl) ?_
      refine cV_i (As := [.int t]) (rest := []) (cr := [(h, .inr (4, [.ref k0, .ref k1, .ref k2, .ref k3, .ref k4, .ref k5, .int (nI n), .int (nI dy), .int (nI ch), .int (nI lw)]))]) (cw1 := []) ⟨hx, hb, hml, hown, hts⟩ (c_X4_hasThing l D cs _ h k0 k1 k2 k3 k4 k5 n dy ch lw t ) (cwV 1 hts gX5_bind_X4_hasThing rfl rfl rfl (by decide +kernel) ⟨Nat.le_of_ble_eq_true rfl, Nat.le_of_ble_eq_true rfl⟩) hK hP hD hS hA (((hR hS).app hP).sub [1] rfl) (dt_of hN [1] (by decide) rfl) [] rfl 0 rfl rfl rfl hl.1 rfl (Nat.le_of_ble_eq_true rfl) dX5_bind_21 ⟨Nat.le_of_ble_eq_true rfl, Nat.le_of_ble_eq_true rfl⟩ (fun _ => rfl) (fun _ => rfl) (fun r_6 u9 H locs hw_7 hP hD hS => ?_)
      have hP : va_P D vwCl [(k4, aI cs 20 (tx_nf td)), (k5, aI cs 20 (tx_bf bo)), (r0, aI cs 7 (tx_nf rf))] H := hP
      have hD : va_D A [(k4, aI cs 20 (tx_nf td)), (k5, aI cs 20 (tx_bf bo)), (r0, aI cs 7 (tx_nf rf))] := hD
      subst r_6
      refine bb_ne (b := tx_has n t) (tgt := 33) hx hb rfl dX5_bind_24 (by decide) (fun c24 => ?_) (fun c24 => ?_)
      · obtain ⟨i1, h1, rfl⟩ := tx_has_t (by omega) c8
        have hii1 : tx_ix (nI i1) = i1 := tx_ix_n (by omega)
        obtain ⟨i2, h2, rfl⟩ := tx_has_t (by omega) c24
        have hii2 : tx_ix (nI i2) = i2 := tx_ix_n (by omega)
        have hne : ¬ (nI i2 = (-1 : Int32)) := fun q => absurd (congrArg Int32.toInt q) (by rw [nI_toInt (by omega)]; rw [show ((-1 : Int32)).toInt = -1 from by decide]; omega)
        refine lv_aload_n hx hb dX5_bind_33 rfl (lv_at hl 0 rfl) ?_
        refine va_get (D := D) (ci := 5) (v := .ref h) (C := RX5) (T := TX5) (N := 10) hx hb hts in_X5 hown hK (hR hS) 0 rfl rfl 0 (by decide) hf_10 (fun _ h9 => h9) rfl dX5_bind_34 ?_
        refine va_get (D := D) (ci := 4) (v := .ref k5) (C := RX4) (T := TX4) (N := 10) hx hb hts in_X4 hown hK (hR hS) 1 rfl rfl 5 (by decide) hf_103 (fun _ h9 => h9) rfl dX5_bind_37 ?_
        refine lv_iload_n hx hb dX5_bind_40 rfl (lv_at hl 1 rfl) ?_
        refine ia_n (f := tx_bf bo) hx hb hK hP 1 0 rfl rfl (j := i1) rfl (by omega) (by decide) dX5_bind_41 ?_
        refine lv_istore_n (lv' := [(3, .int (tx_bf bo i1)), (0, .ref xo), (1, .int (nI i1)), (2, .int (nI i2))]) hx hb dX5_bind_42 rfl hl (by decide) rfl (fun ls hl => ?_)
        refine lv_iload_n hx hb dX5_bind_43 rfl (lv_at hl 3 rfl) ?_
        refine lv_iconst (v := (-1)) hx hb dX5_bind_44 (by decide) ?_
        refine bi_ne (a := (i2 : Int)) (b := (-1)) (tgt := 59) hx hb (nI_iI _) (by decide) (by omega) (by omega) (by omega) (by omega) dX5_bind_45 (by decide) (fun c45 => ?_) (fun c45 => ?_)
        · refine lv_aload_n hx hb dX5_bind_59 rfl (lv_at hl 1 rfl) ?_
          refine va_get (D := D) (ci := 5) (v := .ref h) (C := RX5) (T := TX5) (N := 10) hx hb hts in_X5 hown hK (hR hS) 0 rfl rfl 0 (by decide) hf_10 (fun _ h9 => h9) rfl dX5_bind_60 ?_
          refine lv_iload_n hx hb dX5_bind_63 rfl (lv_at hl 2 rfl) ?_
          refine lv_iload_n hx hb dX5_bind_64 rfl (lv_at hl 3 rfl) ?_
          refine cV_v (As := [.int (nI i1), .int (nI i2)]) (rest := []) (cr := [(h, .inr (4, [.ref k0, .ref k1, .ref k2, .ref k3, .ref k4, .ref k5, .int (nI n), .int (nI dy), .int (nI ch), .int (nI lw)]))]) (cw1 := [(k4, aI cs 20 (tx_nf td)), (k5, aI cs 20 (tx_bf bo))]) ⟨hx, hb, hml, hown, hts⟩ (c_X4_bindDay l D cs _ h k0 k1 k2 k3 k4 k5 n dy ch lw td bo i1 i2 (by first | assumption | omega)) (cwV 2 hts gX5_bind_X4_bindDay rfl rfl rfl (by decide +kernel) ⟨Nat.le_of_ble_eq_true rfl, Nat.le_of_ble_eq_true rfl⟩) hK hP hD hS hA (((hR hS).app hP).sub [1, 2, 3] rfl) (dt_of hN [1, 2, 3] (by decide) rfl) [0, 1] rfl 0 rfl rfl rfl hl.1 rfl (Nat.le_of_ble_eq_true rfl) dX5_bind_65 ⟨Nat.le_of_ble_eq_true rfl, Nat.le_of_ble_eq_true rfl⟩ (fun _ => rfl) (fun _ => rfl) (fun u9 H locs hw_8 hP hD hS => ?_)
          have hP : va_P D vwCl [(k4, aI cs 20 (tx_nf (va_up td i1 i2))), (k5, aI cs 20 (tx_bf (va_up bo i1 (some i2)))), (r0, aI cs 7 (tx_nf rf))] H := hP
          have hD : va_D A [(k4, aI cs 20 (tx_nf (va_up td i1 i2))), (k5, aI cs 20 (tx_bf (va_up bo i1 (some i2)))), (r0, aI cs 7 (tx_nf rf))] := hD
          refine lv_iload_n hx hb dX5_bind_68 rfl (lv_at hl 0 rfl) ?_
          have hQ : tx_q_bind n dy (nI i1) (nI i2) = 0 := by simp [tx_q_bind, c8, c13, c24, c45, hii1, hii2, hne]
          have e9 : tx_rf rf (tx_q_bind n dy (nI i1) (nI i2)) = rf := by rw [hQ] <;> rfl
          have hP : va_P D vwCl [(k4, aI cs 20 (tx_nf (tx_if (tx_q_bind n dy (nI i1) (nI i2)) (if (nI i2) = -1 then td else va_up td (tx_ix (nI i1)) (tx_ix (nI i2))) td))), (k5, aI cs 20 (tx_bf (tx_if (tx_q_bind n dy (nI i1) (nI i2)) (va_up bo (tx_ix (nI i1)) (if (nI i2) = -1 then none else some (tx_ix (nI i2)))) bo))), (r0, aI cs 7 (tx_nf (tx_rf rf (tx_q_bind n dy (nI i1) (nI i2)))))] H := by rw [e9]; (try simp only [hQ]); (try rw [hii1]); (try rw [hii2]); (first | (rw [if_neg hne, if_neg hne]) | (rw [if_pos c13, if_pos c13]) | skip); exact hP
          have hD : va_D A [(k4, aI cs 20 (tx_nf (tx_if (tx_q_bind n dy (nI i1) (nI i2)) (if (nI i2) = -1 then td else va_up td (tx_ix (nI i1)) (tx_ix (nI i2))) td))), (k5, aI cs 20 (tx_bf (tx_if (tx_q_bind n dy (nI i1) (nI i2)) (va_up bo (tx_ix (nI i1)) (if (nI i2) = -1 then none else some (tx_ix (nI i2)))) bo))), (r0, aI cs 7 (tx_nf (tx_rf rf (tx_q_bind n dy (nI i1) (nI i2)))))] := by rw [e9]; (try simp only [hQ]); (try rw [hii1]); (try rw [hii2]); (first | (rw [if_neg hne, if_neg hne]) | (rw [if_pos c13, if_pos c13]) | skip); exact hD
          exact rt_i hx hb hr hlocks () (by rw [hQ] <;> (first | (rw [hii1]; rfl) | rfl)) hP hD hS dX5_bind_69
        · exfalso; omega
      · refine lv_aload_n hx hb dX5_bind_27 rfl (lv_at hl 0 rfl) ?_
        refine lv_iconst (v := (-1)) hx hb dX5_bind_28 (by decide) ?_
        refine cV_i (As := [.int (-1)]) (rest := []) (cr := [(xo, .inr (5, [.ref h, .ref hk, .int (bI im), .ref tx, .ref g, .ref pn, .ref cn, .ref s0, .int (nI ss), .ref r0]))]) (cw1 := [(r0, aI cs 7 (tx_nf rf))]) ⟨hx, hb, hml, hown, hts⟩ (c_X5_refuse l D cs _ xo hk im tx pn cn s0 ss r0 h g rf (-1) 1 (by decide) (by decide) (by decide)) (cwV 1 hts gX5_bind_X5_refuse rfl rfl rfl (by decide +kernel) ⟨Nat.le_of_ble_eq_true rfl, Nat.le_of_ble_eq_true rfl⟩) hK hP hD hS hA (((hR hS).app hP).sub [0, 4] rfl) (dt_of hN [0, 4] (by decide) rfl) [2] rfl 0 rfl rfl rfl hl.1 rfl (Nat.le_of_ble_eq_true rfl) dX5_bind_29 ⟨Nat.le_of_ble_eq_true rfl, Nat.le_of_ble_eq_true rfl⟩ (fun _ => rfl) (fun _ => rfl) (fun r_9 u9 H locs hw_10 hP hD hS => ?_)
        have hP : va_P D vwCl [(k4, aI cs 20 (tx_nf td)), (k5, aI cs 20 (tx_bf bo)), (r0, aI cs 7 (tx_nf (tx_rf rf 1)))] H := hP
        have hD : va_D A [(k4, aI cs 20 (tx_nf td)), (k5, aI cs 20 (tx_bf bo)), (r0, aI cs 7 (tx_nf (tx_rf rf 1)))] := hD
        subst r_9
        have hQ : tx_q_bind n dy d t = 1 := by simp [tx_q_bind, c8, c13, c24]
        have e9 : tx_rf rf (tx_q_bind n dy d t) = tx_rf rf 1 := by rw [hQ] <;> rfl
        have hP : va_P D vwCl [(k4, aI cs 20 (tx_nf (tx_if (tx_q_bind n dy d t) (if t = -1 then td else va_up td (tx_ix d) (tx_ix t)) td))), (k5, aI cs 20 (tx_bf (tx_if (tx_q_bind n dy d t) (va_up bo (tx_ix d) (if t = -1 then none else some (tx_ix t))) bo))), (r0, aI cs 7 (tx_nf (tx_rf rf (tx_q_bind n dy d t))))] H := by rw [e9]; (try simp only [hQ]); (try rw [hii1]); (try rw [hii2]); (first | (rw [if_neg hne, if_neg hne]) | (rw [if_pos c13, if_pos c13]) | skip); exact hP
        have hD : va_D A [(k4, aI cs 20 (tx_nf (tx_if (tx_q_bind n dy d t) (if t = -1 then td else va_up td (tx_ix d) (tx_ix t)) td))), (k5, aI cs 20 (tx_bf (tx_if (tx_q_bind n dy d t) (va_up bo (tx_ix d) (if t = -1 then none else some (tx_ix t))) bo))), (r0, aI cs 7 (tx_nf (tx_rf rf (tx_q_bind n dy d t))))] := by rw [e9]; (try simp only [hQ]); (try rw [hii1]); (try rw [hii2]); (first | (rw [if_neg hne, if_neg hne]) | (rw [if_pos c13, if_pos c13]) | skip); exact hD
        exact rt_i hx hb hr hlocks () (by rw [hQ] <;> (first | done | rfl)) hP hD hS dX5_bind_32
set_option maxHeartbeats 4000000 in
set_option maxRecDepth 100000 in
theorem c_X6_bind (l : Launch) (D : va_G) (cs : Nat → ClassId) (sz : Nat) (o : Nat) (o1 : Nat) (o2 : Nat) (o3 : Nat) (o4 : Nat) (o5 : Nat) (o6 : Nat) (o7 : Nat) (o8 : Nat) (o9 : Nat) (o10 : Nat) (o11 : Nat) (o12 : Nat) (o13 : Nat) (o14 : Nat) (o15 : Nat) (n : Nat) (dy : Nat) (ch : Nat) (lw : Nat) (tz : Nat) (at9 : Nat) (va9 : Nat) (ss : Nat) (im : Bool) (td : Nat → Nat) (bo : Nat → Option Nat) (rf : Nat → Nat) (d : Int32) (t : Int32) (hn : n ≤ 4) (hdy : dy ≤ 20) (hbo : tx_okb bo) : mI (S := Unit) l yX6_bind wsX6_bind ({ frames := 2, cells := 0, slots := 0, locals := 43 } : Room) D (tyc cs) sz [.ref o, .int d, .int t] [(o, .inr (6, [.int (nI n), .ref o1, .ref o2, .ref o3, .ref o4, .int (nI dy), .ref o5, .ref o6, .int (nI ch), .int (nI lw), .int (nI tz), .ref o7, .int (nI at9), .int (nI va9), .int (nI ss), .ref o8, .ref o9, .int (bI im), .ref o10, .ref o11, .ref o12, .ref o13, .ref o14, .ref o15]))] [(o5, aI cs 21 (tx_nf td)), (o6, aI cs 21 (tx_bf bo)), (o9, aI cs 7 (tx_nf rf))] (fun (r : Int32) (u : Unit) => r = tx_ai (tx_q_bind n dy d t) (tx_bf bo (tx_ix d))) (fun _ => [(o5, aI cs 21 (tx_nf (tx_if (tx_q_bind n dy d t) (if t = -1 then td else va_up td (tx_ix d) (tx_ix t)) td))), (o6, aI cs 21 (tx_bf (tx_if (tx_q_bind n dy d t) (va_up bo (tx_ix d) (if t = -1 then none else some (tx_ix t))) bo))), (o9, aI cs 7 (tx_nf (tx_rf rf (tx_q_bind n dy d t))))]) 0 0 := by
  unfold mI
  refine Met.ofW (cc := cX6_bind) (maxL := 4) (ret := (some .int)) (by decide) rfl ?_
  intro p e s m args below meth c s₁ B hml hv
  obtain ⟨rfl, hsz, hP, hK, hD0⟩ := hv
  have hx := B.exec
  have hb := B.bytes
  have hr := B.returns
  have hts := atoms_spec (ws := wsX6_bind) B.pre
  have hown : s.vm.findClass RX6 = some m.cls := findClass_of_methodNamed B.named
  have hlocks := B.notSynchronized
  subst hsz
  have hR := @en_R _ _ _ [(o, .inr (6, [.int (nI n), .ref o1, .ref o2, .ref o3, .ref o4, .int (nI dy), .ref o5, .ref o6, .int (nI ch), .int (nI lw), .int (nI tz), .ref o7, .int (nI at9), .int (nI va9), .int (nI ss), .ref o8, .ref o9, .int (bI im), .ref o10, .ref o11, .ref o12, .ref o13, .ref o14, .ref o15]))] [(o5, aI cs 21 (tx_nf td)), (o6, aI cs 21 (tx_bf bo)), (o9, aI cs 7 (tx_nf rf))] _ hP hD0
  have hN := adN_of hD0
  have hD := en_D (wr := [(o, .inr (6, [.int (nI n), .ref o1, .ref o2, .ref o3, .ref o4, .int (nI dy), .ref o5, .ref o6, .int (nI ch), .int (nI lw), .int (nI tz), .ref o7, .int (nI at9), .int (nI va9), .int (nI ss), .ref o8, .ref o9, .int (bI im), .ref o10, .ref o11, .ref o12, .ref o13, .ref o14, .ref o15]))]) (ww := [(o5, aI cs 21 (tx_nf td)), (o6, aI cs 21 (tx_bf bo)), (o9, aI cs 7 (tx_nf rf))]) (sz := s.heap.size) hD0
  have hP := en_P (wr := [(o, .inr (6, [.int (nI n), .ref o1, .ref o2, .ref o3, .ref o4, .int (nI dy), .ref o5, .ref o6, .int (nI ch), .int (nI lw), .int (nI tz), .ref o7, .int (nI at9), .int (nI va9), .int (nI ss), .ref o8, .ref o9, .int (bI im), .ref o10, .ref o11, .ref o12, .ref o13, .ref o14, .ref o15]))]) (ww := [(o5, aI cs 21 (tx_nf td)), (o6, aI cs 21 (tx_bf bo)), (o9, aI cs 7 (tx_nf rf))]) hP
  generalize hAe : va_A [(o5, aI cs 21 (tx_nf td)), (o6, aI cs 21 (tx_bf bo)), (o9, aI cs 7 (tx_nf rf))] s.heap.size = A at hD hR ⊢
  have hA : ∀ q : Nat, s.heap.size ≤ q → A q := fun q h => by rw [← hAe]; exact Or.inr h
  have hS : va_S A s.heap s.heap [] := va_S.rf
  have hN : adN [o, o5, o6, o9] := hN
  have hf_22 := hts (.fieldLink RX6 22 "TaxedByLongestModel" "done" "[I") (by decide +kernel)
  have hf_25 := hts (.fieldLink RX6 25 "TaxedByLongestModel" "bound" "[I") (by decide +kernel)
  have in_X6 : ∀ w ∈ wsX60, w ∈ wsX6_bind := by decide +kernel
  have hl := lv_entry ([.ref o, .int d, .int t]) (n := 4) (Nat.le_of_ble_eq_true rfl)
  rw [lg_entry_eq]
  generalize (lg_sl ([.ref o, .int d, .int t]) ++ List.replicate (4 - (lg_sl ([.ref o, .int d, .int t])).length) Slot.unset).toArray = ls at hl ⊢
  have hl : lv_has ls 4 [(0, .ref o), (1, .int d), (2, .int t)] := hl
  refine lv_aload_n hx hb dX6_bind_0 rfl (lv_at hl 0 rfl) ?_
  refine lv_iload_n hx hb dX6_bind_1 rfl (lv_at hl 1 rfl) ?_
  refine cV_i (As := [.int d]) (rest := []) (cr := [(o, .inr (6, [.int (nI n), .ref o1, .ref o2, .ref o3, .ref o4, .int (nI dy), .ref o5, .ref o6, .int (nI ch), .int (nI lw), .int (nI tz), .ref o7, .int (nI at9), .int (nI va9), .int (nI ss), .ref o8, .ref o9, .int (bI im), .ref o10, .ref o11, .ref o12, .ref o13, .ref o14, .ref o15]))]) (cw1 := []) ⟨hx, hb, hml, hown, hts⟩ (c_X6_isDay l D cs _ o o1 o2 o3 o4 o5 o6 o7 o8 o9 o10 o11 o12 o13 o14 o15 n dy ch lw tz at9 va9 ss im d (by first | assumption | omega)) (cwV 1 hts gX6_bind_X6_isDay rfl rfl rfl (by decide +kernel) ⟨Nat.le_of_ble_eq_true rfl, Nat.le_of_ble_eq_true rfl⟩) hK hP hD hS hA (((hR hS).app hP).sub [0] rfl) (dt_of hN [0] (by decide) rfl) [] rfl 0 rfl rfl rfl hl.1 rfl (Nat.le_of_ble_eq_true rfl) dX6_bind_2 ⟨Nat.le_of_ble_eq_true rfl, Nat.le_of_ble_eq_true rfl⟩ (fun _ => rfl) (fun _ => rfl) (fun r_1 u9 H locs hw_2 hP hD hS => ?_)
  have hP : va_P D vwCl [(o5, aI cs 21 (tx_nf td)), (o6, aI cs 21 (tx_bf bo)), (o9, aI cs 7 (tx_nf rf))] H := hP
  have hD : va_D A [(o5, aI cs 21 (tx_nf td)), (o6, aI cs 21 (tx_bf bo)), (o9, aI cs 7 (tx_nf rf))] := hD
  subst r_1
  refine bb_eq (b := tx_has dy d) (tgt := 21) hx hb rfl dX6_bind_5 (by decide) (fun c5 => ?_) (fun c5 => ?_)
  · refine lv_aload_n hx hb dX6_bind_21 rfl (lv_at hl 0 rfl) ?_
    refine lv_iconst (v := (-1)) hx hb dX6_bind_22 (by decide) ?_
    refine cV_i (As := [.int (-1)]) (rest := []) (cr := [(o, .inr (6, [.int (nI n), .ref o1, .ref o2, .ref o3, .ref o4, .int (nI dy), .ref o5, .ref o6, .int (nI ch), .int (nI lw), .int (nI tz), .ref o7, .int (nI at9), .int (nI va9), .int (nI ss), .ref o8, .ref o9, .int (bI im), .ref o10, .ref o11, .ref o12, .ref o13, .ref o14, .ref o15]))]) (cw1 := [(o9, aI cs 7 (tx_nf rf))]) ⟨hx, hb, hml, hown, hts⟩ (c_X6_no l D cs _ o o1 o2 o3 o4 o5 o6 o7 o8 o9 o10 o11 o12 o13 o14 o15 n dy ch lw tz at9 va9 ss im rf (-1) 1 (by decide) (by decide) (by decide)) (cwV 1 hts gX6_bind_X6_no rfl rfl rfl (by decide +kernel) ⟨Nat.le_of_ble_eq_true rfl, Nat.le_of_ble_eq_true rfl⟩) hK hP hD hS hA (((hR hS).app hP).sub [0, 3] rfl) (dt_of hN [0, 3] (by decide) rfl) [2] rfl 0 rfl rfl rfl hl.1 rfl (Nat.le_of_ble_eq_true rfl) dX6_bind_23 ⟨Nat.le_of_ble_eq_true rfl, Nat.le_of_ble_eq_true rfl⟩ (fun _ => rfl) (fun _ => rfl) (fun r_3 u9 H locs hw_4 hP hD hS => ?_)
    have hP : va_P D vwCl [(o5, aI cs 21 (tx_nf td)), (o6, aI cs 21 (tx_bf bo)), (o9, aI cs 7 (tx_nf (tx_rf rf 1)))] H := hP
    have hD : va_D A [(o5, aI cs 21 (tx_nf td)), (o6, aI cs 21 (tx_bf bo)), (o9, aI cs 7 (tx_nf (tx_rf rf 1)))] := hD
    subst r_3
    have hQ : tx_q_bind n dy d t = 1 := by simp [tx_q_bind, c5]
    have e9 : tx_rf rf (tx_q_bind n dy d t) = tx_rf rf 1 := by rw [hQ] <;> rfl
    have hP : va_P D vwCl [(o5, aI cs 21 (tx_nf (tx_if (tx_q_bind n dy d t) (if t = -1 then td else va_up td (tx_ix d) (tx_ix t)) td))), (o6, aI cs 21 (tx_bf (tx_if (tx_q_bind n dy d t) (va_up bo (tx_ix d) (if t = -1 then none else some (tx_ix t))) bo))), (o9, aI cs 7 (tx_nf (tx_rf rf (tx_q_bind n dy d t))))] H := by rw [e9]; (try simp only [hQ]); (try rw [hii1]); (try rw [hii2]); (first | (rw [if_neg hne, if_neg hne]) | (rw [if_pos c10, if_pos c10]) | skip); exact hP
    have hD : va_D A [(o5, aI cs 21 (tx_nf (tx_if (tx_q_bind n dy d t) (if t = -1 then td else va_up td (tx_ix d) (tx_ix t)) td))), (o6, aI cs 21 (tx_bf (tx_if (tx_q_bind n dy d t) (va_up bo (tx_ix d) (if t = -1 then none else some (tx_ix t))) bo))), (o9, aI cs 7 (tx_nf (tx_rf rf (tx_q_bind n dy d t))))] := by rw [e9]; (try simp only [hQ]); (try rw [hii1]); (try rw [hii2]); (first | (rw [if_neg hne, if_neg hne]) | (rw [if_pos c10, if_pos c10]) | skip); exact hD
    exact rt_i hx hb hr hlocks () (by rw [hQ] <;> (first | done | rfl)) hP hD hS dX6_bind_26
  · refine lv_iload_n hx hb dX6_bind_8 rfl (lv_at hl 2 rfl) ?_
    refine lv_iconst (v := (-1)) hx hb dX6_bind_9 (by decide) ?_
    refine lv_icmp_eq (tgt := 27) hx hb dX6_bind_10 (by decide) (fun c10 => ?_) (fun c10 => ?_)
    · obtain ⟨i1, h1, rfl⟩ := tx_has_t (by omega) c5
      have hii1 : tx_ix (nI i1) = i1 := tx_ix_n (by omega)
      refine lv_aload_n hx hb dX6_bind_27 rfl (lv_at hl 0 rfl) ?_
      refine va_get (D := D) (ci := 6) (v := .ref o6) (C := RX6) (T := TX6) (N := 24) hx hb hts in_X6 hown hK (hR hS) 0 rfl rfl 7 (by decide) hf_25 (fun _ h9 => h9) rfl dX6_bind_28 ?_
      refine lv_iload_n hx hb dX6_bind_31 rfl (lv_at hl 1 rfl) ?_
      refine ia_n (f := tx_bf bo) hx hb hK hP 1 0 rfl rfl (j := i1) rfl (by omega) (by decide) dX6_bind_32 ?_
      refine lv_istore_n (lv' := [(3, .int (tx_bf bo i1)), (0, .ref o), (1, .int (nI i1)), (2, .int t)]) hx hb dX6_bind_33 rfl hl (by decide) rfl (fun ls hl => ?_)
      refine lv_aload_n hx hb dX6_bind_34 rfl (lv_at hl 1 rfl) ?_
      refine va_get (D := D) (ci := 6) (v := .ref o6) (C := RX6) (T := TX6) (N := 24) hx hb hts in_X6 hown hK (hR hS) 0 rfl rfl 7 (by decide) hf_25 (fun _ h9 => h9) rfl dX6_bind_35 ?_
      refine lv_iload_n hx hb dX6_bind_38 rfl (lv_at hl 2 rfl) ?_
      refine lv_iload_n hx hb dX6_bind_39 rfl (lv_at hl 3 rfl) ?_
      refine lv_iconst (v := (-1)) hx hb dX6_bind_40 (by decide) ?_
      refine lv_icmp_ne (tgt := 49) hx hb dX6_bind_41 (by decide) (fun c41 => ?_) (fun c41 => ?_)
      · exact absurd c10 c41
      · refine lv_bipush (v := (-9)) hx hb dX6_bind_44 (by decide) ?_
        refine lv_goto (tgt := 50) hx hb dX6_bind_46 (by decide) ?_
        refine is_n (f := tx_bf bo) hx hb hK hP hD hS 1 0 rfl rfl (j := i1) rfl (by omega) (by decide) dX6_bind_50 (fun H locs hP hD hS => ?_)
        rw [show upd (tx_bf bo) i1 (-9) = tx_bf (va_up bo i1 none) from bf_upN _ _] at hP hD
        have hP : va_P D vwCl [(o5, aI cs 21 (tx_nf td)), (o6, aI cs 21 (tx_bf (va_up bo i1 none))), (o9, aI cs 7 (tx_nf rf))] H := hP
        have hD : va_D A [(o5, aI cs 21 (tx_nf td)), (o6, aI cs 21 (tx_bf (va_up bo i1 none))), (o9, aI cs 7 (tx_nf rf))] := hD
        refine lv_iload_n hx hb dX6_bind_51 rfl (lv_at hl 3 rfl) ?_
        refine lv_iconst (v := (-1)) hx hb dX6_bind_52 (by decide) ?_
        refine lv_icmp_eq (tgt := 63) hx hb dX6_bind_53 (by decide) (fun c53 => ?_) (fun c53 => ?_)
        · refine lv_iload_n hx hb dX6_bind_63 rfl (lv_at hl 0 rfl) ?_
          have hQ : tx_q_bind n dy (nI i1) t = 0 := by simp [tx_q_bind, c5, c10, c41, c53, hii1]
          have e9 : tx_rf rf (tx_q_bind n dy (nI i1) t) = rf := by rw [hQ] <;> rfl
          have hP : va_P D vwCl [(o5, aI cs 21 (tx_nf (tx_if (tx_q_bind n dy (nI i1) t) (if t = -1 then td else va_up td (tx_ix (nI i1)) (tx_ix t)) td))), (o6, aI cs 21 (tx_bf (tx_if (tx_q_bind n dy (nI i1) t) (va_up bo (tx_ix (nI i1)) (if t = -1 then none else some (tx_ix t))) bo))), (o9, aI cs 7 (tx_nf (tx_rf rf (tx_q_bind n dy (nI i1) t))))] H := by rw [e9]; (try simp only [hQ]); (try rw [hii1]); (try rw [hii2]); (first | (rw [if_neg hne, if_neg hne]) | (rw [if_pos c10, if_pos c10]) | skip); exact hP
          have hD : va_D A [(o5, aI cs 21 (tx_nf (tx_if (tx_q_bind n dy (nI i1) t) (if t = -1 then td else va_up td (tx_ix (nI i1)) (tx_ix t)) td))), (o6, aI cs 21 (tx_bf (tx_if (tx_q_bind n dy (nI i1) t) (va_up bo (tx_ix (nI i1)) (if t = -1 then none else some (tx_ix t))) bo))), (o9, aI cs 7 (tx_nf (tx_rf rf (tx_q_bind n dy (nI i1) t))))] := by rw [e9]; (try simp only [hQ]); (try rw [hii1]); (try rw [hii2]); (first | (rw [if_neg hne, if_neg hne]) | (rw [if_pos c10, if_pos c10]) | skip); exact hD
          exact rt_i hx hb hr hlocks () (by rw [hQ] <;> (first | (rw [hii1]; rfl) | rfl)) hP hD hS dX6_bind_64
        · exact absurd c10 c53
    · refine lv_aload_n hx hb dX6_bind_13 rfl (lv_at hl 0 rfl) ?_
      refine lv_iload_n hx hb dX6_bind_14 rfl (lv_at hl 2 rfl) ?_
      refine cV_i (As := [.int t]) (rest := []) (cr := [(o, .inr (6, [.int (nI n), .ref o1, .ref o2, .ref o3, .ref o4, .int (nI dy), .ref o5, .ref o6, .int (nI ch), .int (nI lw), .int (nI tz), .ref o7, .int (nI at9), .int (nI va9), .int (nI ss), .ref o8, .ref o9, .int (bI im), .ref o10, .ref o11, .ref o12, .ref o13, .ref o14, .ref o15]))]) (cw1 := []) ⟨hx, hb, hml, hown, hts⟩ (c_X6_isThing l D cs _ o o1 o2 o3 o4 o5 o6 o7 o8 o9 o10 o11 o12 o13 o14 o15 n dy ch lw tz at9 va9 ss im t (by first | assumption | omega)) (cwV 1 hts gX6_bind_X6_isThing rfl rfl rfl (by decide +kernel) ⟨Nat.le_of_ble_eq_true rfl, Nat.le_of_ble_eq_true rfl⟩) hK hP hD hS hA (((hR hS).app hP).sub [0] rfl) (dt_of hN [0] (by decide) rfl) [] rfl 0 rfl rfl rfl hl.1 rfl (Nat.le_of_ble_eq_true rfl) dX6_bind_15 ⟨Nat.le_of_ble_eq_true rfl, Nat.le_of_ble_eq_true rfl⟩ (fun _ => rfl) (fun _ => rfl) (fun r_5 u9 H locs hw_6 hP hD hS => ?_)
      have hP : va_P D vwCl [(o5, aI cs 21 (tx_nf td)), (o6, aI cs 21 (tx_bf bo)), (o9, aI cs 7 (tx_nf rf))] H := hP
      have hD : va_D A [(o5, aI cs 21 (tx_nf td)), (o6, aI cs 21 (tx_bf bo)), (o9, aI cs 7 (tx_nf rf))] := hD
      subst r_5
      refine bb_ne (b := tx_has n t) (tgt := 27) hx hb rfl dX6_bind_18 (by decide) (fun c18 => ?_) (fun c18 => ?_)
      · obtain ⟨i1, h1, rfl⟩ := tx_has_t (by omega) c5
        have hii1 : tx_ix (nI i1) = i1 := tx_ix_n (by omega)
        obtain ⟨i2, h2, rfl⟩ := tx_has_t (by omega) c18
        have hii2 : tx_ix (nI i2) = i2 := tx_ix_n (by omega)
        have hne : ¬ (nI i2 = (-1 : Int32)) := fun q => absurd (congrArg Int32.toInt q) (by rw [nI_toInt (by omega)]; rw [show ((-1 : Int32)).toInt = -1 from by decide]; omega)
        refine lv_aload_n hx hb dX6_bind_27 rfl (lv_at hl 0 rfl) ?_
        refine va_get (D := D) (ci := 6) (v := .ref o6) (C := RX6) (T := TX6) (N := 24) hx hb hts in_X6 hown hK (hR hS) 0 rfl rfl 7 (by decide) hf_25 (fun _ h9 => h9) rfl dX6_bind_28 ?_
        refine lv_iload_n hx hb dX6_bind_31 rfl (lv_at hl 1 rfl) ?_
        refine ia_n (f := tx_bf bo) hx hb hK hP 1 0 rfl rfl (j := i1) rfl (by omega) (by decide) dX6_bind_32 ?_
        refine lv_istore_n (lv' := [(3, .int (tx_bf bo i1)), (0, .ref o), (1, .int (nI i1)), (2, .int (nI i2))]) hx hb dX6_bind_33 rfl hl (by decide) rfl (fun ls hl => ?_)
        refine lv_aload_n hx hb dX6_bind_34 rfl (lv_at hl 1 rfl) ?_
        refine va_get (D := D) (ci := 6) (v := .ref o6) (C := RX6) (T := TX6) (N := 24) hx hb hts in_X6 hown hK (hR hS) 0 rfl rfl 7 (by decide) hf_25 (fun _ h9 => h9) rfl dX6_bind_35 ?_
        refine lv_iload_n hx hb dX6_bind_38 rfl (lv_at hl 2 rfl) ?_
        refine lv_iload_n hx hb dX6_bind_39 rfl (lv_at hl 3 rfl) ?_
        refine lv_iconst (v := (-1)) hx hb dX6_bind_40 (by decide) ?_
        refine bi_ne (a := (i2 : Int)) (b := (-1)) (tgt := 49) hx hb (nI_iI _) (by decide) (by omega) (by omega) (by omega) (by omega) dX6_bind_41 (by decide) (fun c41 => ?_) (fun c41 => ?_)
        · refine lv_iload_n hx hb dX6_bind_49 rfl (lv_at hl 3 rfl) ?_
          refine is_n (f := tx_bf bo) hx hb hK hP hD hS 1 0 rfl rfl (j := i1) rfl (by omega) (by decide) dX6_bind_50 (fun H locs hP hD hS => ?_)
          rw [show upd (tx_bf bo) i1 (nI i2) = tx_bf (va_up bo i1 (some i2)) from bf_up _ _ _] at hP hD
          have hP : va_P D vwCl [(o5, aI cs 21 (tx_nf td)), (o6, aI cs 21 (tx_bf (va_up bo i1 (some i2)))), (o9, aI cs 7 (tx_nf rf))] H := hP
          have hD : va_D A [(o5, aI cs 21 (tx_nf td)), (o6, aI cs 21 (tx_bf (va_up bo i1 (some i2)))), (o9, aI cs 7 (tx_nf rf))] := hD
          refine lv_iload_n hx hb dX6_bind_51 rfl (lv_at hl 3 rfl) ?_
          refine lv_iconst (v := (-1)) hx hb dX6_bind_52 (by decide) ?_
          refine bi_eq (a := (i2 : Int)) (b := (-1)) (tgt := 63) hx hb (nI_iI _) (by decide) (by omega) (by omega) (by omega) (by omega) dX6_bind_53 (by decide) (fun c53 => ?_) (fun c53 => ?_)
          · exfalso; omega
          · refine lv_aload_n hx hb dX6_bind_56 rfl (lv_at hl 1 rfl) ?_
            refine va_get (D := D) (ci := 6) (v := .ref o5) (C := RX6) (T := TX6) (N := 24) hx hb hts in_X6 hown hK (hR hS) 0 rfl rfl 6 (by decide) hf_22 (fun _ h9 => h9) rfl dX6_bind_57 ?_
            refine lv_iload_n hx hb dX6_bind_60 rfl (lv_at hl 2 rfl) ?_
            refine lv_iload_n hx hb dX6_bind_61 rfl (lv_at hl 3 rfl) ?_
            refine is_n (f := tx_nf td) hx hb hK hP hD hS 0 0 rfl rfl (j := i1) rfl (by omega) (by decide) dX6_bind_62 (fun H locs hP hD hS => ?_)
            rw [show upd (tx_nf td) i1 (nI i2) = tx_nf (va_up td i1 i2) from nf_up _ _ _] at hP hD
            have hP : va_P D vwCl [(o5, aI cs 21 (tx_nf (va_up td i1 i2))), (o6, aI cs 21 (tx_bf (va_up bo i1 (some i2)))), (o9, aI cs 7 (tx_nf rf))] H := hP
            have hD : va_D A [(o5, aI cs 21 (tx_nf (va_up td i1 i2))), (o6, aI cs 21 (tx_bf (va_up bo i1 (some i2)))), (o9, aI cs 7 (tx_nf rf))] := hD
            refine lv_iload_n hx hb dX6_bind_63 rfl (lv_at hl 0 rfl) ?_
            have hQ : tx_q_bind n dy (nI i1) (nI i2) = 0 := by simp [tx_q_bind, c5, c10, c18, c41, c53, hii1, hii2, hne]
            have e9 : tx_rf rf (tx_q_bind n dy (nI i1) (nI i2)) = rf := by rw [hQ] <;> rfl
            have hP : va_P D vwCl [(o5, aI cs 21 (tx_nf (tx_if (tx_q_bind n dy (nI i1) (nI i2)) (if (nI i2) = -1 then td else va_up td (tx_ix (nI i1)) (tx_ix (nI i2))) td))), (o6, aI cs 21 (tx_bf (tx_if (tx_q_bind n dy (nI i1) (nI i2)) (va_up bo (tx_ix (nI i1)) (if (nI i2) = -1 then none else some (tx_ix (nI i2)))) bo))), (o9, aI cs 7 (tx_nf (tx_rf rf (tx_q_bind n dy (nI i1) (nI i2)))))] H := by rw [e9]; (try simp only [hQ]); (try rw [hii1]); (try rw [hii2]); (first | (rw [if_neg hne, if_neg hne]) | (rw [if_pos c10, if_pos c10]) | skip); exact hP
            have hD : va_D A [(o5, aI cs 21 (tx_nf (tx_if (tx_q_bind n dy (nI i1) (nI i2)) (if (nI i2) = -1 then td else va_up td (tx_ix (nI i1)) (tx_ix (nI i2))) td))), (o6, aI cs 21 (tx_bf (tx_if (tx_q_bind n dy (nI i1) (nI i2)) (va_up bo (tx_ix (nI i1)) (if (nI i2) = -1 then none else some (tx_ix (nI i2)))) bo))), (o9, aI cs 7 (tx_nf (tx_rf rf (tx_q_bind n dy (nI i1) (nI i2)))))] := by rw [e9]; (try simp only [hQ]); (try rw [hii1]); (try rw [hii2]); (first | (rw [if_neg hne, if_neg hne]) | (rw [if_pos c10, if_pos c10]) | skip); exact hD
            exact rt_i hx hb hr hlocks () (by rw [hQ] <;> (first | (rw [hii1]; rfl) | rfl)) hP hD hS dX6_bind_64
        · exfalso; omega
      · refine lv_aload_n hx hb dX6_bind_21 rfl (lv_at hl 0 rfl) ?_
        refine lv_iconst (v := (-1)) hx hb dX6_bind_22 (by decide) ?_
        refine cV_i (As := [.int (-1)]) (rest := []) (cr := [(o, .inr (6, [.int (nI n), .ref o1, .ref o2, .ref o3, .ref o4, .int (nI dy), .ref o5, .ref o6, .int (nI ch), .int (nI lw), .int (nI tz), .ref o7, .int (nI at9), .int (nI va9), .int (nI ss), .ref o8, .ref o9, .int (bI im), .ref o10, .ref o11, .ref o12, .ref o13, .ref o14, .ref o15]))]) (cw1 := [(o9, aI cs 7 (tx_nf rf))]) ⟨hx, hb, hml, hown, hts⟩ (c_X6_no l D cs _ o o1 o2 o3 o4 o5 o6 o7 o8 o9 o10 o11 o12 o13 o14 o15 n dy ch lw tz at9 va9 ss im rf (-1) 1 (by decide) (by decide) (by decide)) (cwV 1 hts gX6_bind_X6_no rfl rfl rfl (by decide +kernel) ⟨Nat.le_of_ble_eq_true rfl, Nat.le_of_ble_eq_true rfl⟩) hK hP hD hS hA (((hR hS).app hP).sub [0, 3] rfl) (dt_of hN [0, 3] (by decide) rfl) [2] rfl 0 rfl rfl rfl hl.1 rfl (Nat.le_of_ble_eq_true rfl) dX6_bind_23 ⟨Nat.le_of_ble_eq_true rfl, Nat.le_of_ble_eq_true rfl⟩ (fun _ => rfl) (fun _ => rfl) (fun r_7 u9 H locs hw_8 hP hD hS => ?_)
        have hP : va_P D vwCl [(o5, aI cs 21 (tx_nf td)), (o6, aI cs 21 (tx_bf bo)), (o9, aI cs 7 (tx_nf (tx_rf rf 1)))] H := hP
        have hD : va_D A [(o5, aI cs 21 (tx_nf td)), (o6, aI cs 21 (tx_bf bo)), (o9, aI cs 7 (tx_nf (tx_rf rf 1)))] := hD
        subst r_7
        have hQ : tx_q_bind n dy d t = 1 := by simp [tx_q_bind, c5, c10, c18]
        have e9 : tx_rf rf (tx_q_bind n dy d t) = tx_rf rf 1 := by rw [hQ] <;> rfl
        have hP : va_P D vwCl [(o5, aI cs 21 (tx_nf (tx_if (tx_q_bind n dy d t) (if t = -1 then td else va_up td (tx_ix d) (tx_ix t)) td))), (o6, aI cs 21 (tx_bf (tx_if (tx_q_bind n dy d t) (va_up bo (tx_ix d) (if t = -1 then none else some (tx_ix t))) bo))), (o9, aI cs 7 (tx_nf (tx_rf rf (tx_q_bind n dy d t))))] H := by rw [e9]; (try simp only [hQ]); (try rw [hii1]); (try rw [hii2]); (first | (rw [if_neg hne, if_neg hne]) | (rw [if_pos c10, if_pos c10]) | skip); exact hP
        have hD : va_D A [(o5, aI cs 21 (tx_nf (tx_if (tx_q_bind n dy d t) (if t = -1 then td else va_up td (tx_ix d) (tx_ix t)) td))), (o6, aI cs 21 (tx_bf (tx_if (tx_q_bind n dy d t) (va_up bo (tx_ix d) (if t = -1 then none else some (tx_ix t))) bo))), (o9, aI cs 7 (tx_nf (tx_rf rf (tx_q_bind n dy d t))))] := by rw [e9]; (try simp only [hQ]); (try rw [hii1]); (try rw [hii2]); (first | (rw [if_neg hne, if_neg hne]) | (rw [if_pos c10, if_pos c10]) | skip); exact hD
        exact rt_i hx hb hr hlocks () (by rw [hQ] <;> (first | done | rfl)) hP hD hS dX6_bind_26
set_option maxHeartbeats 4000000 in
set_option maxRecDepth 100000 in
theorem c_X5_change (l : Launch) (D : va_G) (cs : Nat → ClassId) (sz : Nat) (xo : Nat) (hk : Nat) (im : Bool) (tx : Nat) (pn : Nat) (cn : Nat) (s0 : Nat) (ss : Nat) (r0 : Nat) (h : Nat) (k0 : Nat) (k1 : Nat) (k2 : Nat) (k3 : Nat) (k4 : Nat) (k5 : Nat) (n : Nat) (dy : Nat) (ch : Nat) (lw : Nat) (g : Nat) (rf : Nat → Nat) (v : Int32)  : mI (S := Unit) l yX5_change wsX5_change ({ frames := 1, cells := 0, slots := 0, locals := 22 } : Room) D (tyc cs) sz [.ref xo, .int v] [(xo, .inr (5, [.ref h, .ref hk, .int (bI im), .ref tx, .ref g, .ref pn, .ref cn, .ref s0, .int (nI ss), .ref r0]))] [(h, .inr (4, [.ref k0, .ref k1, .ref k2, .ref k3, .ref k4, .ref k5, .int (nI n), .int (nI dy), .int (nI ch), .int (nI lw)])), (r0, aI cs 7 (tx_nf rf))] (fun (r : Int32) (u : Unit) => r = tx_ai (tx_q_change v) (nI ch)) (fun _ => [(h, .inr (4, [.ref k0, .ref k1, .ref k2, .ref k3, .ref k4, .ref k5, .int (nI n), .int (nI dy), .int (nI (tx_if (tx_q_change v) (tx_ix v) ch)), .int (nI lw)])), (r0, aI cs 7 (tx_nf (tx_rf rf (tx_q_change v))))]) 0 0 := by
  unfold mI
  refine Met.ofW (cc := cX5_change) (maxL := 3) (ret := (some .int)) (by decide) rfl ?_
  intro p e s m args below meth c s₁ B hml hv
  obtain ⟨rfl, hsz, hP, hK, hD0⟩ := hv
  have hx := B.exec
  have hb := B.bytes
  have hr := B.returns
  have hts := atoms_spec (ws := wsX5_change) B.pre
  have hown : s.vm.findClass RX5 = some m.cls := findClass_of_methodNamed B.named
  have hlocks := B.notSynchronized
  subst hsz
  have hR := @en_R _ _ _ [(xo, .inr (5, [.ref h, .ref hk, .int (bI im), .ref tx, .ref g, .ref pn, .ref cn, .ref s0, .int (nI ss), .ref r0]))] [(h, .inr (4, [.ref k0, .ref k1, .ref k2, .ref k3, .ref k4, .ref k5, .int (nI n), .int (nI dy), .int (nI ch), .int (nI lw)])), (r0, aI cs 7 (tx_nf rf))] _ hP hD0
  have hN := adN_of hD0
  have hD := en_D (wr := [(xo, .inr (5, [.ref h, .ref hk, .int (bI im), .ref tx, .ref g, .ref pn, .ref cn, .ref s0, .int (nI ss), .ref r0]))]) (ww := [(h, .inr (4, [.ref k0, .ref k1, .ref k2, .ref k3, .ref k4, .ref k5, .int (nI n), .int (nI dy), .int (nI ch), .int (nI lw)])), (r0, aI cs 7 (tx_nf rf))]) (sz := s.heap.size) hD0
  have hP := en_P (wr := [(xo, .inr (5, [.ref h, .ref hk, .int (bI im), .ref tx, .ref g, .ref pn, .ref cn, .ref s0, .int (nI ss), .ref r0]))]) (ww := [(h, .inr (4, [.ref k0, .ref k1, .ref k2, .ref k3, .ref k4, .ref k5, .int (nI n), .int (nI dy), .int (nI ch), .int (nI lw)])), (r0, aI cs 7 (tx_nf rf))]) hP
  generalize hAe : va_A [(h, .inr (4, [.ref k0, .ref k1, .ref k2, .ref k3, .ref k4, .ref k5, .int (nI n), .int (nI dy), .int (nI ch), .int (nI lw)])), (r0, aI cs 7 (tx_nf rf))] s.heap.size = A at hD hR ⊢
  have hA : ∀ q : Nat, s.heap.size ≤ q → A q := fun q h => by rw [← hAe]; exact Or.inr h
  have hS : va_S A s.heap s.heap [] := va_S.rf
  have hN : adN [xo, h, r0] := hN
  have hf_10 := hts (.fieldLink RX5 10 "TaxedByLongest" "told" "LTaxedByLongest$Told;") (by decide +kernel)
  have hf_114 := hts (.fieldLink RX5 114 "TaxedByLongest$Told" "change" "I") (by decide +kernel)
  have in_X4 : ∀ w ∈ wsX40, w ∈ wsX5_change := by decide +kernel
  have in_X5 : ∀ w ∈ wsX50, w ∈ wsX5_change := by decide +kernel
  have hl := lv_entry ([.ref xo, .int v]) (n := 3) (Nat.le_of_ble_eq_true rfl)
  rw [lg_entry_eq]
  generalize (lg_sl ([.ref xo, .int v]) ++ List.replicate (3 - (lg_sl ([.ref xo, .int v])).length) Slot.unset).toArray = ls at hl ⊢
  have hl : lv_has ls 3 [(0, .ref xo), (1, .int v)] := hl
  refine lv_iload_n hx hb dX5_change_0 rfl (lv_at hl 1 rfl) ?_
  refine lv_if_ge (tgt := 11) hx hb dX5_change_1 (by decide) (fun c1 => ?_) (fun c1 => ?_)
  · refine lv_iload_n hx hb dX5_change_11 rfl (lv_at hl 1 rfl) ?_
    refine lv_bipush (v := 9) hx hb dX5_change_12 (by decide) ?_
    refine lv_icmp_le (tgt := 24) hx hb dX5_change_14 (by decide) (fun c14 => ?_) (fun c14 => ?_)
    · obtain ⟨j, hj, rfl⟩ := nI_of2 (x := v) (M := 9) (n := 9) (by decide) (Int32.not_lt.mpr c1) c14
      have hij : tx_ix (nI j) = j := tx_ix_n (by omega)
      refine lv_aload_n hx hb dX5_change_24 rfl (lv_at hl 0 rfl) ?_
      refine va_get (D := D) (ci := 5) (v := .ref h) (C := RX5) (T := TX5) (N := 10) hx hb hts in_X5 hown hK (hR hS) 0 rfl rfl 0 (by decide) hf_10 (fun _ h9 => h9) rfl dX5_change_25 ?_
      refine va_get (D := D) (ci := 4) (v := .int (nI ch)) (C := RX4) (T := TX4) (N := 10) hx hb hts in_X4 hown hK hP 0 rfl rfl 8 (by decide) hf_114 (fun _ h9 => h9) rfl dX5_change_28 ?_
      refine lv_istore_n (lv' := [(2, .int (nI ch)), (0, .ref xo), (1, .int (nI j))]) hx hb dX5_change_31 rfl hl (by decide) rfl (fun ls hl => ?_)
      refine lv_aload_n hx hb dX5_change_32 rfl (lv_at hl 1 rfl) ?_
      refine va_get (D := D) (ci := 5) (v := .ref h) (C := RX5) (T := TX5) (N := 10) hx hb hts in_X5 hown hK (hR hS) 0 rfl rfl 0 (by decide) hf_10 (fun _ h9 => h9) rfl dX5_change_33 ?_
      refine lv_iload_n hx hb dX5_change_36 rfl (lv_at hl 2 rfl) ?_
      refine va_put (D := D) (ci := 4) (v := .int (nI j)) (ty := .int) (C := RX4) (T := TX4) (N := 10) hx hb hts in_X4 tyX4 tyX4_ok nmX4 hown hK hP hD hS 0 rfl rfl 8 (by decide) hf_114 (fun _ h9 => h9) rfl (by decide +kernel) rfl rfl (Nat.le_of_ble_eq_true rfl) dX5_change_37 (fun H locs hP hD hS => ?_)
      have hP : va_P D vwCl [(h, .inr (4, [.ref k0, .ref k1, .ref k2, .ref k3, .ref k4, .ref k5, .int (nI n), .int (nI dy), .int (nI j), .int (nI lw)])), (r0, aI cs 7 (tx_nf rf))] H := hP
      have hD : va_D A [(h, .inr (4, [.ref k0, .ref k1, .ref k2, .ref k3, .ref k4, .ref k5, .int (nI n), .int (nI dy), .int (nI j), .int (nI lw)])), (r0, aI cs 7 (tx_nf rf))] := hD
      refine lv_iload_n hx hb dX5_change_40 rfl (lv_at hl 0 rfl) ?_
      have hQ : tx_q_change (nI j) = 0 := by simp [tx_q_change, c1, Int32.not_lt.mpr c1, c14, Int32.not_lt.mpr c14]
      have e9 : tx_rf rf (tx_q_change (nI j)) = rf := by rw [hQ] <;> rfl
      have hP : va_P D vwCl [(h, .inr (4, [.ref k0, .ref k1, .ref k2, .ref k3, .ref k4, .ref k5, .int (nI n), .int (nI dy), .int (nI (tx_if (tx_q_change (nI j)) (tx_ix (nI j)) ch)), .int (nI lw)])), (r0, aI cs 7 (tx_nf (tx_rf rf (tx_q_change (nI j)))))] H := by rw [e9]; (try simp only [hQ]); (try rw [hij]); exact hP
      have hD : va_D A [(h, .inr (4, [.ref k0, .ref k1, .ref k2, .ref k3, .ref k4, .ref k5, .int (nI n), .int (nI dy), .int (nI (tx_if (tx_q_change (nI j)) (tx_ix (nI j)) ch)), .int (nI lw)])), (r0, aI cs 7 (tx_nf (tx_rf rf (tx_q_change (nI j)))))] := by rw [e9]; (try simp only [hQ]); (try rw [hij]); exact hD
      exact rt_i hx hb hr hlocks () (by rw [hQ] <;> (rfl)) hP hD hS dX5_change_41
    · refine lv_aload_n hx hb dX5_change_17 rfl (lv_at hl 0 rfl) ?_
      refine lv_bipush (v := (-6)) hx hb dX5_change_18 (by decide) ?_
      refine cV_i (As := [.int (-6)]) (rest := []) (cr := [(xo, .inr (5, [.ref h, .ref hk, .int (bI im), .ref tx, .ref g, .ref pn, .ref cn, .ref s0, .int (nI ss), .ref r0]))]) (cw1 := [(r0, aI cs 7 (tx_nf rf))]) ⟨hx, hb, hml, hown, hts⟩ (c_X5_refuse l D cs _ xo hk im tx pn cn s0 ss r0 h g rf (-6) 6 (by decide) (by decide) (by decide)) (cwV 1 hts gX5_change_X5_refuse rfl rfl rfl (by decide +kernel) ⟨Nat.le_of_ble_eq_true rfl, Nat.le_of_ble_eq_true rfl⟩) hK hP hD hS hA (((hR hS).app hP).sub [0, 2] rfl) (dt_of hN [0, 2] (by decide) rfl) [1] rfl 0 rfl rfl rfl hl.1 rfl (Nat.le_of_ble_eq_true rfl) dX5_change_20 ⟨Nat.le_of_ble_eq_true rfl, Nat.le_of_ble_eq_true rfl⟩ (fun _ => rfl) (fun _ => rfl) (fun r_1 u9 H locs hw_2 hP hD hS => ?_)
      have hP : va_P D vwCl [(h, .inr (4, [.ref k0, .ref k1, .ref k2, .ref k3, .ref k4, .ref k5, .int (nI n), .int (nI dy), .int (nI ch), .int (nI lw)])), (r0, aI cs 7 (tx_nf (tx_rf rf 6)))] H := hP
      have hD : va_D A [(h, .inr (4, [.ref k0, .ref k1, .ref k2, .ref k3, .ref k4, .ref k5, .int (nI n), .int (nI dy), .int (nI ch), .int (nI lw)])), (r0, aI cs 7 (tx_nf (tx_rf rf 6)))] := hD
      subst r_1
      have hQ : tx_q_change v = 6 := by simp [tx_q_change, c1, Int32.not_lt.mpr c1, c14, Int32.not_le.mp c14]
      have e9 : tx_rf rf (tx_q_change v) = tx_rf rf 6 := by rw [hQ] <;> rfl
      have hP : va_P D vwCl [(h, .inr (4, [.ref k0, .ref k1, .ref k2, .ref k3, .ref k4, .ref k5, .int (nI n), .int (nI dy), .int (nI (tx_if (tx_q_change v) (tx_ix v) ch)), .int (nI lw)])), (r0, aI cs 7 (tx_nf (tx_rf rf (tx_q_change v))))] H := by rw [e9]; (try simp only [hQ]); (try rw [hij]); exact hP
      have hD : va_D A [(h, .inr (4, [.ref k0, .ref k1, .ref k2, .ref k3, .ref k4, .ref k5, .int (nI n), .int (nI dy), .int (nI (tx_if (tx_q_change v) (tx_ix v) ch)), .int (nI lw)])), (r0, aI cs 7 (tx_nf (tx_rf rf (tx_q_change v))))] := by rw [e9]; (try simp only [hQ]); (try rw [hij]); exact hD
      exact rt_i hx hb hr hlocks () (by rw [hQ] <;> (first | done | rfl)) hP hD hS dX5_change_23
  · refine lv_aload_n hx hb dX5_change_4 rfl (lv_at hl 0 rfl) ?_
    refine lv_bipush (v := (-4)) hx hb dX5_change_5 (by decide) ?_
    refine cV_i (As := [.int (-4)]) (rest := []) (cr := [(xo, .inr (5, [.ref h, .ref hk, .int (bI im), .ref tx, .ref g, .ref pn, .ref cn, .ref s0, .int (nI ss), .ref r0]))]) (cw1 := [(r0, aI cs 7 (tx_nf rf))]) ⟨hx, hb, hml, hown, hts⟩ (c_X5_refuse l D cs _ xo hk im tx pn cn s0 ss r0 h g rf (-4) 4 (by decide) (by decide) (by decide)) (cwV 1 hts gX5_change_X5_refuse rfl rfl rfl (by decide +kernel) ⟨Nat.le_of_ble_eq_true rfl, Nat.le_of_ble_eq_true rfl⟩) hK hP hD hS hA (((hR hS).app hP).sub [0, 2] rfl) (dt_of hN [0, 2] (by decide) rfl) [1] rfl 0 rfl rfl rfl hl.1 rfl (Nat.le_of_ble_eq_true rfl) dX5_change_7 ⟨Nat.le_of_ble_eq_true rfl, Nat.le_of_ble_eq_true rfl⟩ (fun _ => rfl) (fun _ => rfl) (fun r_3 u9 H locs hw_4 hP hD hS => ?_)
    have hP : va_P D vwCl [(h, .inr (4, [.ref k0, .ref k1, .ref k2, .ref k3, .ref k4, .ref k5, .int (nI n), .int (nI dy), .int (nI ch), .int (nI lw)])), (r0, aI cs 7 (tx_nf (tx_rf rf 4)))] H := hP
    have hD : va_D A [(h, .inr (4, [.ref k0, .ref k1, .ref k2, .ref k3, .ref k4, .ref k5, .int (nI n), .int (nI dy), .int (nI ch), .int (nI lw)])), (r0, aI cs 7 (tx_nf (tx_rf rf 4)))] := hD
    subst r_3
    have hQ : tx_q_change v = 4 := by simp [tx_q_change, c1, Int32.not_le.mp c1]
    have e9 : tx_rf rf (tx_q_change v) = tx_rf rf 4 := by rw [hQ] <;> rfl
    have hP : va_P D vwCl [(h, .inr (4, [.ref k0, .ref k1, .ref k2, .ref k3, .ref k4, .ref k5, .int (nI n), .int (nI dy), .int (nI (tx_if (tx_q_change v) (tx_ix v) ch)), .int (nI lw)])), (r0, aI cs 7 (tx_nf (tx_rf rf (tx_q_change v))))] H := by rw [e9]; (try simp only [hQ]); (try rw [hij]); exact hP
    have hD : va_D A [(h, .inr (4, [.ref k0, .ref k1, .ref k2, .ref k3, .ref k4, .ref k5, .int (nI n), .int (nI dy), .int (nI (tx_if (tx_q_change v) (tx_ix v) ch)), .int (nI lw)])), (r0, aI cs 7 (tx_nf (tx_rf rf (tx_q_change v))))] := by rw [e9]; (try simp only [hQ]); (try rw [hij]); exact hD
    exact rt_i hx hb hr hlocks () (by rw [hQ] <;> (first | done | rfl)) hP hD hS dX5_change_10
set_option maxHeartbeats 4000000 in
set_option maxRecDepth 100000 in
theorem c_X6_change (l : Launch) (D : va_G) (cs : Nat → ClassId) (sz : Nat) (o : Nat) (o1 : Nat) (o2 : Nat) (o3 : Nat) (o4 : Nat) (o5 : Nat) (o6 : Nat) (o7 : Nat) (o8 : Nat) (o9 : Nat) (o10 : Nat) (o11 : Nat) (o12 : Nat) (o13 : Nat) (o14 : Nat) (o15 : Nat) (n : Nat) (dy : Nat) (ch : Nat) (lw : Nat) (tz : Nat) (at9 : Nat) (va9 : Nat) (ss : Nat) (im : Bool) (rf : Nat → Nat) (v : Int32)  : mI (S := Unit) l yX6_change wsX6_change ({ frames := 1, cells := 0, slots := 0, locals := 21 } : Room) D (tyc cs) sz [.ref o, .int v] [] [(o, .inr (6, [.int (nI n), .ref o1, .ref o2, .ref o3, .ref o4, .int (nI dy), .ref o5, .ref o6, .int (nI ch), .int (nI lw), .int (nI tz), .ref o7, .int (nI at9), .int (nI va9), .int (nI ss), .ref o8, .ref o9, .int (bI im), .ref o10, .ref o11, .ref o12, .ref o13, .ref o14, .ref o15])), (o9, aI cs 7 (tx_nf rf))] (fun (r : Int32) (u : Unit) => r = tx_ai (tx_q_change v) (nI ch)) (fun _ => [(o, .inr (6, [.int (nI n), .ref o1, .ref o2, .ref o3, .ref o4, .int (nI dy), .ref o5, .ref o6, .int (nI (tx_if (tx_q_change v) (tx_ix v) ch)), .int (nI lw), .int (nI tz), .ref o7, .int (nI at9), .int (nI va9), .int (nI ss), .ref o8, .ref o9, .int (bI im), .ref o10, .ref o11, .ref o12, .ref o13, .ref o14, .ref o15])), (o9, aI cs 7 (tx_nf (tx_rf rf (tx_q_change v))))]) 0 0 := by
  unfold mI
  refine Met.ofW (cc := cX6_change) (maxL := 3) (ret := (some .int)) (by decide) rfl ?_
  intro p e s m args below meth c s₁ B hml hv
  obtain ⟨rfl, hsz, hP, hK, hD0⟩ := hv
  have hx := B.exec
  have hb := B.bytes
  have hr := B.returns
  have hts := atoms_spec (ws := wsX6_change) B.pre
  have hown : s.vm.findClass RX6 = some m.cls := findClass_of_methodNamed B.named
  have hlocks := B.notSynchronized
  subst hsz
  have hR := @en_R _ _ _ [] [(o, .inr (6, [.int (nI n), .ref o1, .ref o2, .ref o3, .ref o4, .int (nI dy), .ref o5, .ref o6, .int (nI ch), .int (nI lw), .int (nI tz), .ref o7, .int (nI at9), .int (nI va9), .int (nI ss), .ref o8, .ref o9, .int (bI im), .ref o10, .ref o11, .ref o12, .ref o13, .ref o14, .ref o15])), (o9, aI cs 7 (tx_nf rf))] _ hP hD0
  have hN := adN_of hD0
  have hD := en_D (wr := []) (ww := [(o, .inr (6, [.int (nI n), .ref o1, .ref o2, .ref o3, .ref o4, .int (nI dy), .ref o5, .ref o6, .int (nI ch), .int (nI lw), .int (nI tz), .ref o7, .int (nI at9), .int (nI va9), .int (nI ss), .ref o8, .ref o9, .int (bI im), .ref o10, .ref o11, .ref o12, .ref o13, .ref o14, .ref o15])), (o9, aI cs 7 (tx_nf rf))]) (sz := s.heap.size) hD0
  have hP := en_P (wr := []) (ww := [(o, .inr (6, [.int (nI n), .ref o1, .ref o2, .ref o3, .ref o4, .int (nI dy), .ref o5, .ref o6, .int (nI ch), .int (nI lw), .int (nI tz), .ref o7, .int (nI at9), .int (nI va9), .int (nI ss), .ref o8, .ref o9, .int (bI im), .ref o10, .ref o11, .ref o12, .ref o13, .ref o14, .ref o15])), (o9, aI cs 7 (tx_nf rf))]) hP
  generalize hAe : va_A [(o, .inr (6, [.int (nI n), .ref o1, .ref o2, .ref o3, .ref o4, .int (nI dy), .ref o5, .ref o6, .int (nI ch), .int (nI lw), .int (nI tz), .ref o7, .int (nI at9), .int (nI va9), .int (nI ss), .ref o8, .ref o9, .int (bI im), .ref o10, .ref o11, .ref o12, .ref o13, .ref o14, .ref o15])), (o9, aI cs 7 (tx_nf rf))] s.heap.size = A at hD hR ⊢
  have hA : ∀ q : Nat, s.heap.size ≤ q → A q := fun q h => by rw [← hAe]; exact Or.inr h
  have hS : va_S A s.heap s.heap [] := va_S.rf
  have hN : adN [o, o9] := hN
  have hf_60 := hts (.fieldLink RX6 60 "TaxedByLongestModel" "change" "I") (by decide +kernel)
  have in_X6 : ∀ w ∈ wsX60, w ∈ wsX6_change := by decide +kernel
  have hl := lv_entry ([.ref o, .int v]) (n := 3) (Nat.le_of_ble_eq_true rfl)
  rw [lg_entry_eq]
  generalize (lg_sl ([.ref o, .int v]) ++ List.replicate (3 - (lg_sl ([.ref o, .int v])).length) Slot.unset).toArray = ls at hl ⊢
  have hl : lv_has ls 3 [(0, .ref o), (1, .int v)] := hl
  refine lv_iload_n hx hb dX6_change_0 rfl (lv_at hl 1 rfl) ?_
  refine lv_if_ge (tgt := 11) hx hb dX6_change_1 (by decide) (fun c1 => ?_) (fun c1 => ?_)
  · refine lv_iload_n hx hb dX6_change_11 rfl (lv_at hl 1 rfl) ?_
    refine lv_bipush (v := 9) hx hb dX6_change_12 (by decide) ?_
    refine lv_icmp_le (tgt := 24) hx hb dX6_change_14 (by decide) (fun c14 => ?_) (fun c14 => ?_)
    · obtain ⟨j, hj, rfl⟩ := nI_of2 (x := v) (M := 9) (n := 9) (by decide) (Int32.not_lt.mpr c1) c14
      have hij : tx_ix (nI j) = j := tx_ix_n (by omega)
      refine lv_aload_n hx hb dX6_change_24 rfl (lv_at hl 0 rfl) ?_
      refine va_get (D := D) (ci := 6) (v := .int (nI ch)) (C := RX6) (T := TX6) (N := 24) hx hb hts in_X6 hown hK hP 0 rfl rfl 8 (by decide) hf_60 (fun _ h9 => h9) rfl dX6_change_25 ?_
      refine lv_istore_n (lv' := [(2, .int (nI ch)), (0, .ref o), (1, .int (nI j))]) hx hb dX6_change_28 rfl hl (by decide) rfl (fun ls hl => ?_)
      refine lv_aload_n hx hb dX6_change_29 rfl (lv_at hl 1 rfl) ?_
      refine lv_iload_n hx hb dX6_change_30 rfl (lv_at hl 2 rfl) ?_
      refine va_put (D := D) (ci := 6) (v := .int (nI j)) (ty := .int) (C := RX6) (T := TX6) (N := 24) hx hb hts in_X6 tyX6 tyX6_ok nmX6 hown hK hP hD hS 0 rfl rfl 8 (by decide) hf_60 (fun _ h9 => h9) rfl (by decide +kernel) rfl rfl (Nat.le_of_ble_eq_true rfl) dX6_change_31 (fun H locs hP hD hS => ?_)
      have hP : va_P D vwCl [(o, .inr (6, [.int (nI n), .ref o1, .ref o2, .ref o3, .ref o4, .int (nI dy), .ref o5, .ref o6, .int (nI j), .int (nI lw), .int (nI tz), .ref o7, .int (nI at9), .int (nI va9), .int (nI ss), .ref o8, .ref o9, .int (bI im), .ref o10, .ref o11, .ref o12, .ref o13, .ref o14, .ref o15])), (o9, aI cs 7 (tx_nf rf))] H := hP
      have hD : va_D A [(o, .inr (6, [.int (nI n), .ref o1, .ref o2, .ref o3, .ref o4, .int (nI dy), .ref o5, .ref o6, .int (nI j), .int (nI lw), .int (nI tz), .ref o7, .int (nI at9), .int (nI va9), .int (nI ss), .ref o8, .ref o9, .int (bI im), .ref o10, .ref o11, .ref o12, .ref o13, .ref o14, .ref o15])), (o9, aI cs 7 (tx_nf rf))] := hD
      refine lv_iload_n hx hb dX6_change_34 rfl (lv_at hl 0 rfl) ?_
      have hQ : tx_q_change (nI j) = 0 := by simp [tx_q_change, c1, Int32.not_lt.mpr c1, c14, Int32.not_lt.mpr c14]
      have e9 : tx_rf rf (tx_q_change (nI j)) = rf := by rw [hQ] <;> rfl
      have hP : va_P D vwCl [(o, .inr (6, [.int (nI n), .ref o1, .ref o2, .ref o3, .ref o4, .int (nI dy), .ref o5, .ref o6, .int (nI (tx_if (tx_q_change (nI j)) (tx_ix (nI j)) ch)), .int (nI lw), .int (nI tz), .ref o7, .int (nI at9), .int (nI va9), .int (nI ss), .ref o8, .ref o9, .int (bI im), .ref o10, .ref o11, .ref o12, .ref o13, .ref o14, .ref o15])), (o9, aI cs 7 (tx_nf (tx_rf rf (tx_q_change (nI j)))))] H := by rw [e9]; (try simp only [hQ]); (try rw [hij]); exact hP
      have hD : va_D A [(o, .inr (6, [.int (nI n), .ref o1, .ref o2, .ref o3, .ref o4, .int (nI dy), .ref o5, .ref o6, .int (nI (tx_if (tx_q_change (nI j)) (tx_ix (nI j)) ch)), .int (nI lw), .int (nI tz), .ref o7, .int (nI at9), .int (nI va9), .int (nI ss), .ref o8, .ref o9, .int (bI im), .ref o10, .ref o11, .ref o12, .ref o13, .ref o14, .ref o15])), (o9, aI cs 7 (tx_nf (tx_rf rf (tx_q_change (nI j)))))] := by rw [e9]; (try simp only [hQ]); (try rw [hij]); exact hD
      exact rt_i hx hb hr hlocks () (by rw [hQ] <;> (rfl)) hP hD hS dX6_change_35
    · refine lv_aload_n hx hb dX6_change_17 rfl (lv_at hl 0 rfl) ?_
      refine lv_bipush (v := (-6)) hx hb dX6_change_18 (by decide) ?_
      refine cV_i (As := [.int (-6)]) (rest := []) (cr := [(o, .inr (6, [.int (nI n), .ref o1, .ref o2, .ref o3, .ref o4, .int (nI dy), .ref o5, .ref o6, .int (nI ch), .int (nI lw), .int (nI tz), .ref o7, .int (nI at9), .int (nI va9), .int (nI ss), .ref o8, .ref o9, .int (bI im), .ref o10, .ref o11, .ref o12, .ref o13, .ref o14, .ref o15]))]) (cw1 := [(o9, aI cs 7 (tx_nf rf))]) ⟨hx, hb, hml, hown, hts⟩ (c_X6_no l D cs _ o o1 o2 o3 o4 o5 o6 o7 o8 o9 o10 o11 o12 o13 o14 o15 n dy ch lw tz at9 va9 ss im rf (-6) 6 (by decide) (by decide) (by decide)) (cwV 1 hts gX6_change_X6_no rfl rfl rfl (by decide +kernel) ⟨Nat.le_of_ble_eq_true rfl, Nat.le_of_ble_eq_true rfl⟩) hK hP hD hS hA (hP.sub [0, 1] rfl) (dt_of hN [0, 1] (by decide) rfl) [1] rfl 0 rfl rfl rfl hl.1 rfl (Nat.le_of_ble_eq_true rfl) dX6_change_20 ⟨Nat.le_of_ble_eq_true rfl, Nat.le_of_ble_eq_true rfl⟩ (fun _ => rfl) (fun _ => rfl) (fun r_1 u9 H locs hw_2 hP hD hS => ?_)
      have hP : va_P D vwCl [(o, .inr (6, [.int (nI n), .ref o1, .ref o2, .ref o3, .ref o4, .int (nI dy), .ref o5, .ref o6, .int (nI ch), .int (nI lw), .int (nI tz), .ref o7, .int (nI at9), .int (nI va9), .int (nI ss), .ref o8, .ref o9, .int (bI im), .ref o10, .ref o11, .ref o12, .ref o13, .ref o14, .ref o15])), (o9, aI cs 7 (tx_nf (tx_rf rf 6)))] H := hP
      have hD : va_D A [(o, .inr (6, [.int (nI n), .ref o1, .ref o2, .ref o3, .ref o4, .int (nI dy), .ref o5, .ref o6, .int (nI ch), .int (nI lw), .int (nI tz), .ref o7, .int (nI at9), .int (nI va9), .int (nI ss), .ref o8, .ref o9, .int (bI im), .ref o10, .ref o11, .ref o12, .ref o13, .ref o14, .ref o15])), (o9, aI cs 7 (tx_nf (tx_rf rf 6)))] := hD
      subst r_1
      have hQ : tx_q_change v = 6 := by simp [tx_q_change, c1, Int32.not_lt.mpr c1, c14, Int32.not_le.mp c14]
      have e9 : tx_rf rf (tx_q_change v) = tx_rf rf 6 := by rw [hQ] <;> rfl
      have hP : va_P D vwCl [(o, .inr (6, [.int (nI n), .ref o1, .ref o2, .ref o3, .ref o4, .int (nI dy), .ref o5, .ref o6, .int (nI (tx_if (tx_q_change v) (tx_ix v) ch)), .int (nI lw), .int (nI tz), .ref o7, .int (nI at9), .int (nI va9), .int (nI ss), .ref o8, .ref o9, .int (bI im), .ref o10, .ref o11, .ref o12, .ref o13, .ref o14, .ref o15])), (o9, aI cs 7 (tx_nf (tx_rf rf (tx_q_change v))))] H := by rw [e9]; (try simp only [hQ]); (try rw [hij]); exact hP
      have hD : va_D A [(o, .inr (6, [.int (nI n), .ref o1, .ref o2, .ref o3, .ref o4, .int (nI dy), .ref o5, .ref o6, .int (nI (tx_if (tx_q_change v) (tx_ix v) ch)), .int (nI lw), .int (nI tz), .ref o7, .int (nI at9), .int (nI va9), .int (nI ss), .ref o8, .ref o9, .int (bI im), .ref o10, .ref o11, .ref o12, .ref o13, .ref o14, .ref o15])), (o9, aI cs 7 (tx_nf (tx_rf rf (tx_q_change v))))] := by rw [e9]; (try simp only [hQ]); (try rw [hij]); exact hD
      exact rt_i hx hb hr hlocks () (by rw [hQ] <;> (first | done | rfl)) hP hD hS dX6_change_23
  · refine lv_aload_n hx hb dX6_change_4 rfl (lv_at hl 0 rfl) ?_
    refine lv_bipush (v := (-4)) hx hb dX6_change_5 (by decide) ?_
    refine cV_i (As := [.int (-4)]) (rest := []) (cr := [(o, .inr (6, [.int (nI n), .ref o1, .ref o2, .ref o3, .ref o4, .int (nI dy), .ref o5, .ref o6, .int (nI ch), .int (nI lw), .int (nI tz), .ref o7, .int (nI at9), .int (nI va9), .int (nI ss), .ref o8, .ref o9, .int (bI im), .ref o10, .ref o11, .ref o12, .ref o13, .ref o14, .ref o15]))]) (cw1 := [(o9, aI cs 7 (tx_nf rf))]) ⟨hx, hb, hml, hown, hts⟩ (c_X6_no l D cs _ o o1 o2 o3 o4 o5 o6 o7 o8 o9 o10 o11 o12 o13 o14 o15 n dy ch lw tz at9 va9 ss im rf (-4) 4 (by decide) (by decide) (by decide)) (cwV 1 hts gX6_change_X6_no rfl rfl rfl (by decide +kernel) ⟨Nat.le_of_ble_eq_true rfl, Nat.le_of_ble_eq_true rfl⟩) hK hP hD hS hA (hP.sub [0, 1] rfl) (dt_of hN [0, 1] (by decide) rfl) [1] rfl 0 rfl rfl rfl hl.1 rfl (Nat.le_of_ble_eq_true rfl) dX6_change_7 ⟨Nat.le_of_ble_eq_true rfl, Nat.le_of_ble_eq_true rfl⟩ (fun _ => rfl) (fun _ => rfl) (fun r_3 u9 H locs hw_4 hP hD hS => ?_)
    have hP : va_P D vwCl [(o, .inr (6, [.int (nI n), .ref o1, .ref o2, .ref o3, .ref o4, .int (nI dy), .ref o5, .ref o6, .int (nI ch), .int (nI lw), .int (nI tz), .ref o7, .int (nI at9), .int (nI va9), .int (nI ss), .ref o8, .ref o9, .int (bI im), .ref o10, .ref o11, .ref o12, .ref o13, .ref o14, .ref o15])), (o9, aI cs 7 (tx_nf (tx_rf rf 4)))] H := hP
    have hD : va_D A [(o, .inr (6, [.int (nI n), .ref o1, .ref o2, .ref o3, .ref o4, .int (nI dy), .ref o5, .ref o6, .int (nI ch), .int (nI lw), .int (nI tz), .ref o7, .int (nI at9), .int (nI va9), .int (nI ss), .ref o8, .ref o9, .int (bI im), .ref o10, .ref o11, .ref o12, .ref o13, .ref o14, .ref o15])), (o9, aI cs 7 (tx_nf (tx_rf rf 4)))] := hD
    subst r_3
    have hQ : tx_q_change v = 4 := by simp [tx_q_change, c1, Int32.not_le.mp c1]
    have e9 : tx_rf rf (tx_q_change v) = tx_rf rf 4 := by rw [hQ] <;> rfl
    have hP : va_P D vwCl [(o, .inr (6, [.int (nI n), .ref o1, .ref o2, .ref o3, .ref o4, .int (nI dy), .ref o5, .ref o6, .int (nI (tx_if (tx_q_change v) (tx_ix v) ch)), .int (nI lw), .int (nI tz), .ref o7, .int (nI at9), .int (nI va9), .int (nI ss), .ref o8, .ref o9, .int (bI im), .ref o10, .ref o11, .ref o12, .ref o13, .ref o14, .ref o15])), (o9, aI cs 7 (tx_nf (tx_rf rf (tx_q_change v))))] H := by rw [e9]; (try simp only [hQ]); (try rw [hij]); exact hP
    have hD : va_D A [(o, .inr (6, [.int (nI n), .ref o1, .ref o2, .ref o3, .ref o4, .int (nI dy), .ref o5, .ref o6, .int (nI (tx_if (tx_q_change v) (tx_ix v) ch)), .int (nI lw), .int (nI tz), .ref o7, .int (nI at9), .int (nI va9), .int (nI ss), .ref o8, .ref o9, .int (bI im), .ref o10, .ref o11, .ref o12, .ref o13, .ref o14, .ref o15])), (o9, aI cs 7 (tx_nf (tx_rf rf (tx_q_change v))))] := by rw [e9]; (try simp only [hQ]); (try rw [hij]); exact hD
    exact rt_i hx hb hr hlocks () (by rw [hQ] <;> (first | done | rfl)) hP hD hS dX6_change_10
set_option maxHeartbeats 4000000 in
set_option maxRecDepth 100000 in
theorem c_X5_law (l : Launch) (D : va_G) (cs : Nat → ClassId) (sz : Nat) (xo : Nat) (hk : Nat) (im : Bool) (tx : Nat) (pn : Nat) (cn : Nat) (s0 : Nat) (ss : Nat) (r0 : Nat) (h : Nat) (k0 : Nat) (k1 : Nat) (k2 : Nat) (k3 : Nat) (k4 : Nat) (k5 : Nat) (n : Nat) (dy : Nat) (ch : Nat) (lw : Nat) (g : Nat) (rf : Nat → Nat) (v : Int32)  : mI (S := Unit) l yX5_law wsX5_law ({ frames := 1, cells := 0, slots := 0, locals := 22 } : Room) D (tyc cs) sz [.ref xo, .int v] [(xo, .inr (5, [.ref h, .ref hk, .int (bI im), .ref tx, .ref g, .ref pn, .ref cn, .ref s0, .int (nI ss), .ref r0]))] [(h, .inr (4, [.ref k0, .ref k1, .ref k2, .ref k3, .ref k4, .ref k5, .int (nI n), .int (nI dy), .int (nI ch), .int (nI lw)])), (r0, aI cs 7 (tx_nf rf))] (fun (r : Int32) (u : Unit) => r = tx_ai (tx_q_law v) (nI lw)) (fun _ => [(h, .inr (4, [.ref k0, .ref k1, .ref k2, .ref k3, .ref k4, .ref k5, .int (nI n), .int (nI dy), .int (nI ch), .int (nI (tx_if (tx_q_law v) (tx_ix v) lw))])), (r0, aI cs 7 (tx_nf (tx_rf rf (tx_q_law v))))]) 0 0 := by
  unfold mI
  refine Met.ofW (cc := cX5_law) (maxL := 3) (ret := (some .int)) (by decide) rfl ?_
  intro p e s m args below meth c s₁ B hml hv
  obtain ⟨rfl, hsz, hP, hK, hD0⟩ := hv
  have hx := B.exec
  have hb := B.bytes
  have hr := B.returns
  have hts := atoms_spec (ws := wsX5_law) B.pre
  have hown : s.vm.findClass RX5 = some m.cls := findClass_of_methodNamed B.named
  have hlocks := B.notSynchronized
  subst hsz
  have hR := @en_R _ _ _ [(xo, .inr (5, [.ref h, .ref hk, .int (bI im), .ref tx, .ref g, .ref pn, .ref cn, .ref s0, .int (nI ss), .ref r0]))] [(h, .inr (4, [.ref k0, .ref k1, .ref k2, .ref k3, .ref k4, .ref k5, .int (nI n), .int (nI dy), .int (nI ch), .int (nI lw)])), (r0, aI cs 7 (tx_nf rf))] _ hP hD0
  have hN := adN_of hD0
  have hD := en_D (wr := [(xo, .inr (5, [.ref h, .ref hk, .int (bI im), .ref tx, .ref g, .ref pn, .ref cn, .ref s0, .int (nI ss), .ref r0]))]) (ww := [(h, .inr (4, [.ref k0, .ref k1, .ref k2, .ref k3, .ref k4, .ref k5, .int (nI n), .int (nI dy), .int (nI ch), .int (nI lw)])), (r0, aI cs 7 (tx_nf rf))]) (sz := s.heap.size) hD0
  have hP := en_P (wr := [(xo, .inr (5, [.ref h, .ref hk, .int (bI im), .ref tx, .ref g, .ref pn, .ref cn, .ref s0, .int (nI ss), .ref r0]))]) (ww := [(h, .inr (4, [.ref k0, .ref k1, .ref k2, .ref k3, .ref k4, .ref k5, .int (nI n), .int (nI dy), .int (nI ch), .int (nI lw)])), (r0, aI cs 7 (tx_nf rf))]) hP
  generalize hAe : va_A [(h, .inr (4, [.ref k0, .ref k1, .ref k2, .ref k3, .ref k4, .ref k5, .int (nI n), .int (nI dy), .int (nI ch), .int (nI lw)])), (r0, aI cs 7 (tx_nf rf))] s.heap.size = A at hD hR ⊢
  have hA : ∀ q : Nat, s.heap.size ≤ q → A q := fun q h => by rw [← hAe]; exact Or.inr h
  have hS : va_S A s.heap s.heap [] := va_S.rf
  have hN : adN [xo, h, r0] := hN
  have hf_10 := hts (.fieldLink RX5 10 "TaxedByLongest" "told" "LTaxedByLongest$Told;") (by decide +kernel)
  have hf_120 := hts (.fieldLink RX5 120 "TaxedByLongest$Told" "law" "I") (by decide +kernel)
  have in_X4 : ∀ w ∈ wsX40, w ∈ wsX5_law := by decide +kernel
  have in_X5 : ∀ w ∈ wsX50, w ∈ wsX5_law := by decide +kernel
  have hl := lv_entry ([.ref xo, .int v]) (n := 3) (Nat.le_of_ble_eq_true rfl)
  rw [lg_entry_eq]
  generalize (lg_sl ([.ref xo, .int v]) ++ List.replicate (3 - (lg_sl ([.ref xo, .int v])).length) Slot.unset).toArray = ls at hl ⊢
  have hl : lv_has ls 3 [(0, .ref xo), (1, .int v)] := hl
  refine lv_iload_n hx hb dX5_law_0 rfl (lv_at hl 1 rfl) ?_
  refine cS_i (As := [.int v]) (rest := []) (cr := []) (cw1 := []) ⟨hx, hb, hml, hown, hts⟩ (c_X5_isLaw l D cs _ v ) (va_cwS 1 hts gX5_law_X5_isLaw rfl rfl rfl (by decide +kernel) ⟨Nat.le_of_ble_eq_true rfl, Nat.le_of_ble_eq_true rfl⟩) hK hP hD hS hA (((hR hS).app hP).sub [] rfl) (dt_of hN [] (by decide) rfl) [] rfl rfl hl.1 rfl (Nat.le_of_ble_eq_true rfl) dX5_law_1 ⟨Nat.le_of_ble_eq_true rfl, Nat.le_of_ble_eq_true rfl⟩ (fun _ => rfl) (fun _ => rfl) (fun r_1 u9 H locs hw_2 hP hD hS => ?_)
  have hP : va_P D vwCl [(h, .inr (4, [.ref k0, .ref k1, .ref k2, .ref k3, .ref k4, .ref k5, .int (nI n), .int (nI dy), .int (nI ch), .int (nI lw)])), (r0, aI cs 7 (tx_nf rf))] H := hP
  have hD : va_D A [(h, .inr (4, [.ref k0, .ref k1, .ref k2, .ref k3, .ref k4, .ref k5, .int (nI n), .int (nI dy), .int (nI ch), .int (nI lw)])), (r0, aI cs 7 (tx_nf rf))] := hD
  subst r_1
  refine bb_ne (b := tx_il v) (tgt := 14) hx hb rfl dX5_law_4 (by decide) (fun c4 => ?_) (fun c4 => ?_)
  · obtain ⟨j, hj, rfl⟩ := tx_il_t c4
    have hij : tx_ix (nI j) = j := tx_ix_n (by omega)
    refine lv_aload_n hx hb dX5_law_14 rfl (lv_at hl 0 rfl) ?_
    refine va_get (D := D) (ci := 5) (v := .ref h) (C := RX5) (T := TX5) (N := 10) hx hb hts in_X5 hown hK (hR hS) 0 rfl rfl 0 (by decide) hf_10 (fun _ h9 => h9) rfl dX5_law_15 ?_
    refine va_get (D := D) (ci := 4) (v := .int (nI lw)) (C := RX4) (T := TX4) (N := 10) hx hb hts in_X4 hown hK hP 0 rfl rfl 9 (by decide) hf_120 (fun _ h9 => h9) rfl dX5_law_18 ?_
    refine lv_istore_n (lv' := [(2, .int (nI lw)), (0, .ref xo), (1, .int (nI j))]) hx hb dX5_law_21 rfl hl (by decide) rfl (fun ls hl => ?_)
    refine lv_aload_n hx hb dX5_law_22 rfl (lv_at hl 1 rfl) ?_
    refine va_get (D := D) (ci := 5) (v := .ref h) (C := RX5) (T := TX5) (N := 10) hx hb hts in_X5 hown hK (hR hS) 0 rfl rfl 0 (by decide) hf_10 (fun _ h9 => h9) rfl dX5_law_23 ?_
    refine lv_iload_n hx hb dX5_law_26 rfl (lv_at hl 2 rfl) ?_
    refine va_put (D := D) (ci := 4) (v := .int (nI j)) (ty := .int) (C := RX4) (T := TX4) (N := 10) hx hb hts in_X4 tyX4 tyX4_ok nmX4 hown hK hP hD hS 0 rfl rfl 9 (by decide) hf_120 (fun _ h9 => h9) rfl (by decide +kernel) rfl rfl (Nat.le_of_ble_eq_true rfl) dX5_law_27 (fun H locs hP hD hS => ?_)
    have hP : va_P D vwCl [(h, .inr (4, [.ref k0, .ref k1, .ref k2, .ref k3, .ref k4, .ref k5, .int (nI n), .int (nI dy), .int (nI ch), .int (nI j)])), (r0, aI cs 7 (tx_nf rf))] H := hP
    have hD : va_D A [(h, .inr (4, [.ref k0, .ref k1, .ref k2, .ref k3, .ref k4, .ref k5, .int (nI n), .int (nI dy), .int (nI ch), .int (nI j)])), (r0, aI cs 7 (tx_nf rf))] := hD
    refine lv_iload_n hx hb dX5_law_30 rfl (lv_at hl 0 rfl) ?_
    have hQ : tx_q_law (nI j) = 0 := by simp [tx_q_law, c4]
    have e9 : tx_rf rf (tx_q_law (nI j)) = rf := by rw [hQ] <;> rfl
    have hP : va_P D vwCl [(h, .inr (4, [.ref k0, .ref k1, .ref k2, .ref k3, .ref k4, .ref k5, .int (nI n), .int (nI dy), .int (nI ch), .int (nI (tx_if (tx_q_law (nI j)) (tx_ix (nI j)) lw))])), (r0, aI cs 7 (tx_nf (tx_rf rf (tx_q_law (nI j)))))] H := by rw [e9]; (try simp only [hQ]); (try rw [hij]); exact hP
    have hD : va_D A [(h, .inr (4, [.ref k0, .ref k1, .ref k2, .ref k3, .ref k4, .ref k5, .int (nI n), .int (nI dy), .int (nI ch), .int (nI (tx_if (tx_q_law (nI j)) (tx_ix (nI j)) lw))])), (r0, aI cs 7 (tx_nf (tx_rf rf (tx_q_law (nI j)))))] := by rw [e9]; (try simp only [hQ]); (try rw [hij]); exact hD
    exact rt_i hx hb hr hlocks () (by rw [hQ] <;> (rfl)) hP hD hS dX5_law_31
  · refine lv_aload_n hx hb dX5_law_7 rfl (lv_at hl 0 rfl) ?_
    refine lv_bipush (v := (-2)) hx hb dX5_law_8 (by decide) ?_
    refine cV_i (As := [.int (-2)]) (rest := []) (cr := [(xo, .inr (5, [.ref h, .ref hk, .int (bI im), .ref tx, .ref g, .ref pn, .ref cn, .ref s0, .int (nI ss), .ref r0]))]) (cw1 := [(r0, aI cs 7 (tx_nf rf))]) ⟨hx, hb, hml, hown, hts⟩ (c_X5_refuse l D cs _ xo hk im tx pn cn s0 ss r0 h g rf (-2) 2 (by decide) (by decide) (by decide)) (cwV 1 hts gX5_law_X5_refuse rfl rfl rfl (by decide +kernel) ⟨Nat.le_of_ble_eq_true rfl, Nat.le_of_ble_eq_true rfl⟩) hK hP hD hS hA (((hR hS).app hP).sub [0, 2] rfl) (dt_of hN [0, 2] (by decide) rfl) [1] rfl 0 rfl rfl rfl hl.1 rfl (Nat.le_of_ble_eq_true rfl) dX5_law_10 ⟨Nat.le_of_ble_eq_true rfl, Nat.le_of_ble_eq_true rfl⟩ (fun _ => rfl) (fun _ => rfl) (fun r_3 u9 H locs hw_4 hP hD hS => ?_)
    have hP : va_P D vwCl [(h, .inr (4, [.ref k0, .ref k1, .ref k2, .ref k3, .ref k4, .ref k5, .int (nI n), .int (nI dy), .int (nI ch), .int (nI lw)])), (r0, aI cs 7 (tx_nf (tx_rf rf 2)))] H := hP
    have hD : va_D A [(h, .inr (4, [.ref k0, .ref k1, .ref k2, .ref k3, .ref k4, .ref k5, .int (nI n), .int (nI dy), .int (nI ch), .int (nI lw)])), (r0, aI cs 7 (tx_nf (tx_rf rf 2)))] := hD
    subst r_3
    have hQ : tx_q_law v = 2 := by simp [tx_q_law, c4]
    have e9 : tx_rf rf (tx_q_law v) = tx_rf rf 2 := by rw [hQ] <;> rfl
    have hP : va_P D vwCl [(h, .inr (4, [.ref k0, .ref k1, .ref k2, .ref k3, .ref k4, .ref k5, .int (nI n), .int (nI dy), .int (nI ch), .int (nI (tx_if (tx_q_law v) (tx_ix v) lw))])), (r0, aI cs 7 (tx_nf (tx_rf rf (tx_q_law v))))] H := by rw [e9]; (try simp only [hQ]); (try rw [hij]); exact hP
    have hD : va_D A [(h, .inr (4, [.ref k0, .ref k1, .ref k2, .ref k3, .ref k4, .ref k5, .int (nI n), .int (nI dy), .int (nI ch), .int (nI (tx_if (tx_q_law v) (tx_ix v) lw))])), (r0, aI cs 7 (tx_nf (tx_rf rf (tx_q_law v))))] := by rw [e9]; (try simp only [hQ]); (try rw [hij]); exact hD
    exact rt_i hx hb hr hlocks () (by rw [hQ] <;> (first | done | rfl)) hP hD hS dX5_law_13
set_option maxHeartbeats 4000000 in
set_option maxRecDepth 100000 in
theorem c_X6_law (l : Launch) (D : va_G) (cs : Nat → ClassId) (sz : Nat) (o : Nat) (o1 : Nat) (o2 : Nat) (o3 : Nat) (o4 : Nat) (o5 : Nat) (o6 : Nat) (o7 : Nat) (o8 : Nat) (o9 : Nat) (o10 : Nat) (o11 : Nat) (o12 : Nat) (o13 : Nat) (o14 : Nat) (o15 : Nat) (n : Nat) (dy : Nat) (ch : Nat) (lw : Nat) (tz : Nat) (at9 : Nat) (va9 : Nat) (ss : Nat) (im : Bool) (rf : Nat → Nat) (v : Int32)  : mI (S := Unit) l yX6_law wsX6_law ({ frames := 1, cells := 0, slots := 0, locals := 22 } : Room) D (tyc cs) sz [.ref o, .int v] [] [(o, .inr (6, [.int (nI n), .ref o1, .ref o2, .ref o3, .ref o4, .int (nI dy), .ref o5, .ref o6, .int (nI ch), .int (nI lw), .int (nI tz), .ref o7, .int (nI at9), .int (nI va9), .int (nI ss), .ref o8, .ref o9, .int (bI im), .ref o10, .ref o11, .ref o12, .ref o13, .ref o14, .ref o15])), (o9, aI cs 7 (tx_nf rf))] (fun (r : Int32) (u : Unit) => r = tx_ai (tx_q_law v) (nI lw)) (fun _ => [(o, .inr (6, [.int (nI n), .ref o1, .ref o2, .ref o3, .ref o4, .int (nI dy), .ref o5, .ref o6, .int (nI ch), .int (nI (tx_if (tx_q_law v) (tx_ix v) lw)), .int (nI tz), .ref o7, .int (nI at9), .int (nI va9), .int (nI ss), .ref o8, .ref o9, .int (bI im), .ref o10, .ref o11, .ref o12, .ref o13, .ref o14, .ref o15])), (o9, aI cs 7 (tx_nf (tx_rf rf (tx_q_law v))))]) 0 0 := by
  unfold mI
  refine Met.ofW (cc := cX6_law) (maxL := 3) (ret := (some .int)) (by decide) rfl ?_
  intro p e s m args below meth c s₁ B hml hv
  obtain ⟨rfl, hsz, hP, hK, hD0⟩ := hv
  have hx := B.exec
  have hb := B.bytes
  have hr := B.returns
  have hts := atoms_spec (ws := wsX6_law) B.pre
  have hown : s.vm.findClass RX6 = some m.cls := findClass_of_methodNamed B.named
  have hlocks := B.notSynchronized
  subst hsz
  have hR := @en_R _ _ _ [] [(o, .inr (6, [.int (nI n), .ref o1, .ref o2, .ref o3, .ref o4, .int (nI dy), .ref o5, .ref o6, .int (nI ch), .int (nI lw), .int (nI tz), .ref o7, .int (nI at9), .int (nI va9), .int (nI ss), .ref o8, .ref o9, .int (bI im), .ref o10, .ref o11, .ref o12, .ref o13, .ref o14, .ref o15])), (o9, aI cs 7 (tx_nf rf))] _ hP hD0
  have hN := adN_of hD0
  have hD := en_D (wr := []) (ww := [(o, .inr (6, [.int (nI n), .ref o1, .ref o2, .ref o3, .ref o4, .int (nI dy), .ref o5, .ref o6, .int (nI ch), .int (nI lw), .int (nI tz), .ref o7, .int (nI at9), .int (nI va9), .int (nI ss), .ref o8, .ref o9, .int (bI im), .ref o10, .ref o11, .ref o12, .ref o13, .ref o14, .ref o15])), (o9, aI cs 7 (tx_nf rf))]) (sz := s.heap.size) hD0
  have hP := en_P (wr := []) (ww := [(o, .inr (6, [.int (nI n), .ref o1, .ref o2, .ref o3, .ref o4, .int (nI dy), .ref o5, .ref o6, .int (nI ch), .int (nI lw), .int (nI tz), .ref o7, .int (nI at9), .int (nI va9), .int (nI ss), .ref o8, .ref o9, .int (bI im), .ref o10, .ref o11, .ref o12, .ref o13, .ref o14, .ref o15])), (o9, aI cs 7 (tx_nf rf))]) hP
  generalize hAe : va_A [(o, .inr (6, [.int (nI n), .ref o1, .ref o2, .ref o3, .ref o4, .int (nI dy), .ref o5, .ref o6, .int (nI ch), .int (nI lw), .int (nI tz), .ref o7, .int (nI at9), .int (nI va9), .int (nI ss), .ref o8, .ref o9, .int (bI im), .ref o10, .ref o11, .ref o12, .ref o13, .ref o14, .ref o15])), (o9, aI cs 7 (tx_nf rf))] s.heap.size = A at hD hR ⊢
  have hA : ∀ q : Nat, s.heap.size ≤ q → A q := fun q h => by rw [← hAe]; exact Or.inr h
  have hS : va_S A s.heap s.heap [] := va_S.rf
  have hN : adN [o, o9] := hN
  have hf_114 := hts (.fieldLink RX6 114 "TaxedByLongestModel" "law" "I") (by decide +kernel)
  have in_X6 : ∀ w ∈ wsX60, w ∈ wsX6_law := by decide +kernel
  have hl := lv_entry ([.ref o, .int v]) (n := 3) (Nat.le_of_ble_eq_true rfl)
  rw [lg_entry_eq]
  generalize (lg_sl ([.ref o, .int v]) ++ List.replicate (3 - (lg_sl ([.ref o, .int v])).length) Slot.unset).toArray = ls at hl ⊢
  have hl : lv_has ls 3 [(0, .ref o), (1, .int v)] := hl
  refine lv_iload_n hx hb dX6_law_0 rfl (lv_at hl 1 rfl) ?_
  refine lv_iconst (v := 0) hx hb dX6_law_1 (by decide) ?_
  refine lv_iconst (v := 5) hx hb dX6_law_2 (by decide) ?_
  refine cS_i (As := [.int v, .int 0, .int 5]) (rest := []) (cr := []) (cw1 := []) ⟨hx, hb, hml, hown, hts⟩ (c_X6_within l D cs _ v 0 5 ) (va_cwS 3 hts gX6_law_X6_within rfl rfl rfl (by decide +kernel) ⟨Nat.le_of_ble_eq_true rfl, Nat.le_of_ble_eq_true rfl⟩) hK hP hD hS hA (hP.sub [] rfl) (dt_of hN [] (by decide) rfl) [] rfl rfl hl.1 rfl (Nat.le_of_ble_eq_true rfl) dX6_law_3 ⟨Nat.le_of_ble_eq_true rfl, Nat.le_of_ble_eq_true rfl⟩ (fun _ => rfl) (fun _ => rfl) (fun r_1 u9 H locs hw_2 hP hD hS => ?_)
  have hP : va_P D vwCl [(o, .inr (6, [.int (nI n), .ref o1, .ref o2, .ref o3, .ref o4, .int (nI dy), .ref o5, .ref o6, .int (nI ch), .int (nI lw), .int (nI tz), .ref o7, .int (nI at9), .int (nI va9), .int (nI ss), .ref o8, .ref o9, .int (bI im), .ref o10, .ref o11, .ref o12, .ref o13, .ref o14, .ref o15])), (o9, aI cs 7 (tx_nf rf))] H := hP
  have hD : va_D A [(o, .inr (6, [.int (nI n), .ref o1, .ref o2, .ref o3, .ref o4, .int (nI dy), .ref o5, .ref o6, .int (nI ch), .int (nI lw), .int (nI tz), .ref o7, .int (nI at9), .int (nI va9), .int (nI ss), .ref o8, .ref o9, .int (bI im), .ref o10, .ref o11, .ref o12, .ref o13, .ref o14, .ref o15])), (o9, aI cs 7 (tx_nf rf))] := hD
  subst r_1
  refine tp_i (show bI (decide (0 ≤ v) && decide (v ≤ 5)) = bI (tx_il v) from rfl) ?_
  refine bb_ne (b := tx_il v) (tgt := 16) hx hb rfl dX6_law_6 (by decide) (fun c6 => ?_) (fun c6 => ?_)
  · obtain ⟨j, hj, rfl⟩ := tx_il_t c6
    have hij : tx_ix (nI j) = j := tx_ix_n (by omega)
    refine lv_aload_n hx hb dX6_law_16 rfl (lv_at hl 0 rfl) ?_
    refine va_get (D := D) (ci := 6) (v := .int (nI lw)) (C := RX6) (T := TX6) (N := 24) hx hb hts in_X6 hown hK hP 0 rfl rfl 9 (by decide) hf_114 (fun _ h9 => h9) rfl dX6_law_17 ?_
    refine lv_istore_n (lv' := [(2, .int (nI lw)), (0, .ref o), (1, .int (nI j))]) hx hb dX6_law_20 rfl hl (by decide) rfl (fun ls hl => ?_)
    refine lv_aload_n hx hb dX6_law_21 rfl (lv_at hl 1 rfl) ?_
    refine lv_iload_n hx hb dX6_law_22 rfl (lv_at hl 2 rfl) ?_
    refine va_put (D := D) (ci := 6) (v := .int (nI j)) (ty := .int) (C := RX6) (T := TX6) (N := 24) hx hb hts in_X6 tyX6 tyX6_ok nmX6 hown hK hP hD hS 0 rfl rfl 9 (by decide) hf_114 (fun _ h9 => h9) rfl (by decide +kernel) rfl rfl (Nat.le_of_ble_eq_true rfl) dX6_law_23 (fun H locs hP hD hS => ?_)
    have hP : va_P D vwCl [(o, .inr (6, [.int (nI n), .ref o1, .ref o2, .ref o3, .ref o4, .int (nI dy), .ref o5, .ref o6, .int (nI ch), .int (nI j), .int (nI tz), .ref o7, .int (nI at9), .int (nI va9), .int (nI ss), .ref o8, .ref o9, .int (bI im), .ref o10, .ref o11, .ref o12, .ref o13, .ref o14, .ref o15])), (o9, aI cs 7 (tx_nf rf))] H := hP
    have hD : va_D A [(o, .inr (6, [.int (nI n), .ref o1, .ref o2, .ref o3, .ref o4, .int (nI dy), .ref o5, .ref o6, .int (nI ch), .int (nI j), .int (nI tz), .ref o7, .int (nI at9), .int (nI va9), .int (nI ss), .ref o8, .ref o9, .int (bI im), .ref o10, .ref o11, .ref o12, .ref o13, .ref o14, .ref o15])), (o9, aI cs 7 (tx_nf rf))] := hD
    refine lv_iload_n hx hb dX6_law_26 rfl (lv_at hl 0 rfl) ?_
    have hQ : tx_q_law (nI j) = 0 := by simp [tx_q_law, c6]
    have e9 : tx_rf rf (tx_q_law (nI j)) = rf := by rw [hQ] <;> rfl
    have hP : va_P D vwCl [(o, .inr (6, [.int (nI n), .ref o1, .ref o2, .ref o3, .ref o4, .int (nI dy), .ref o5, .ref o6, .int (nI ch), .int (nI (tx_if (tx_q_law (nI j)) (tx_ix (nI j)) lw)), .int (nI tz), .ref o7, .int (nI at9), .int (nI va9), .int (nI ss), .ref o8, .ref o9, .int (bI im), .ref o10, .ref o11, .ref o12, .ref o13, .ref o14, .ref o15])), (o9, aI cs 7 (tx_nf (tx_rf rf (tx_q_law (nI j)))))] H := by rw [e9]; (try simp only [hQ]); (try rw [hij]); exact hP
    have hD : va_D A [(o, .inr (6, [.int (nI n), .ref o1, .ref o2, .ref o3, .ref o4, .int (nI dy), .ref o5, .ref o6, .int (nI ch), .int (nI (tx_if (tx_q_law (nI j)) (tx_ix (nI j)) lw)), .int (nI tz), .ref o7, .int (nI at9), .int (nI va9), .int (nI ss), .ref o8, .ref o9, .int (bI im), .ref o10, .ref o11, .ref o12, .ref o13, .ref o14, .ref o15])), (o9, aI cs 7 (tx_nf (tx_rf rf (tx_q_law (nI j)))))] := by rw [e9]; (try simp only [hQ]); (try rw [hij]); exact hD
    exact rt_i hx hb hr hlocks () (by rw [hQ] <;> (rfl)) hP hD hS dX6_law_27
  · refine lv_aload_n hx hb dX6_law_9 rfl (lv_at hl 0 rfl) ?_
    refine lv_bipush (v := (-2)) hx hb dX6_law_10 (by decide) ?_
    refine cV_i (As := [.int (-2)]) (rest := []) (cr := [(o, .inr (6, [.int (nI n), .ref o1, .ref o2, .ref o3, .ref o4, .int (nI dy), .ref o5, .ref o6, .int (nI ch), .int (nI lw), .int (nI tz), .ref o7, .int (nI at9), .int (nI va9), .int (nI ss), .ref o8, .ref o9, .int (bI im), .ref o10, .ref o11, .ref o12, .ref o13, .ref o14, .ref o15]))]) (cw1 := [(o9, aI cs 7 (tx_nf rf))]) ⟨hx, hb, hml, hown, hts⟩ (c_X6_no l D cs _ o o1 o2 o3 o4 o5 o6 o7 o8 o9 o10 o11 o12 o13 o14 o15 n dy ch lw tz at9 va9 ss im rf (-2) 2 (by decide) (by decide) (by decide)) (cwV 1 hts gX6_law_X6_no rfl rfl rfl (by decide +kernel) ⟨Nat.le_of_ble_eq_true rfl, Nat.le_of_ble_eq_true rfl⟩) hK hP hD hS hA (hP.sub [0, 1] rfl) (dt_of hN [0, 1] (by decide) rfl) [1] rfl 0 rfl rfl rfl hl.1 rfl (Nat.le_of_ble_eq_true rfl) dX6_law_12 ⟨Nat.le_of_ble_eq_true rfl, Nat.le_of_ble_eq_true rfl⟩ (fun _ => rfl) (fun _ => rfl) (fun r_3 u9 H locs hw_4 hP hD hS => ?_)
    have hP : va_P D vwCl [(o, .inr (6, [.int (nI n), .ref o1, .ref o2, .ref o3, .ref o4, .int (nI dy), .ref o5, .ref o6, .int (nI ch), .int (nI lw), .int (nI tz), .ref o7, .int (nI at9), .int (nI va9), .int (nI ss), .ref o8, .ref o9, .int (bI im), .ref o10, .ref o11, .ref o12, .ref o13, .ref o14, .ref o15])), (o9, aI cs 7 (tx_nf (tx_rf rf 2)))] H := hP
    have hD : va_D A [(o, .inr (6, [.int (nI n), .ref o1, .ref o2, .ref o3, .ref o4, .int (nI dy), .ref o5, .ref o6, .int (nI ch), .int (nI lw), .int (nI tz), .ref o7, .int (nI at9), .int (nI va9), .int (nI ss), .ref o8, .ref o9, .int (bI im), .ref o10, .ref o11, .ref o12, .ref o13, .ref o14, .ref o15])), (o9, aI cs 7 (tx_nf (tx_rf rf 2)))] := hD
    subst r_3
    have hQ : tx_q_law v = 2 := by simp [tx_q_law, c6]
    have e9 : tx_rf rf (tx_q_law v) = tx_rf rf 2 := by rw [hQ] <;> rfl
    have hP : va_P D vwCl [(o, .inr (6, [.int (nI n), .ref o1, .ref o2, .ref o3, .ref o4, .int (nI dy), .ref o5, .ref o6, .int (nI ch), .int (nI (tx_if (tx_q_law v) (tx_ix v) lw)), .int (nI tz), .ref o7, .int (nI at9), .int (nI va9), .int (nI ss), .ref o8, .ref o9, .int (bI im), .ref o10, .ref o11, .ref o12, .ref o13, .ref o14, .ref o15])), (o9, aI cs 7 (tx_nf (tx_rf rf (tx_q_law v))))] H := by rw [e9]; (try simp only [hQ]); (try rw [hij]); exact hP
    have hD : va_D A [(o, .inr (6, [.int (nI n), .ref o1, .ref o2, .ref o3, .ref o4, .int (nI dy), .ref o5, .ref o6, .int (nI ch), .int (nI (tx_if (tx_q_law v) (tx_ix v) lw)), .int (nI tz), .ref o7, .int (nI at9), .int (nI va9), .int (nI ss), .ref o8, .ref o9, .int (bI im), .ref o10, .ref o11, .ref o12, .ref o13, .ref o14, .ref o15])), (o9, aI cs 7 (tx_nf (tx_rf rf (tx_q_law v))))] := by rw [e9]; (try simp only [hQ]); (try rw [hij]); exact hD
    exact rt_i hx hb hr hlocks () (by rw [hQ] <;> (first | done | rfl)) hP hD hS dX6_law_15
set_option maxHeartbeats 4000000 in
set_option maxRecDepth 100000 in
theorem c_X5_longest (l : Launch) (D : va_G) (cs : Nat → ClassId) (sz : Nat) (xo : Nat) (hk : Nat) (im : Bool) (tx : Nat) (pn : Nat) (cn : Nat) (s0 : Nat) (ss : Nat) (r0 : Nat) (h : Nat) (k0 : Nat) (k1 : Nat) (k2 : Nat) (k3 : Nat) (k4 : Nat) (k5 : Nat) (n : Nat) (dy : Nat) (ch : Nat) (lw : Nat) (kd : Nat → Nat) (wo : Nat → Nat) (ha : Nat → Nat) (we : Nat → Nat) (td : Nat → Nat) (g : Nat) (g0 : Nat) (dd : Nat) (er : Int) (cg : Nat) (x : tx_5) (ld : Nat → Nat) (hn : n ≤ 4) (hkd : ∀ e, kd e ≤ 5) (htd : ∀ e, td e < 4) (hd1 : 1 ≤ dy) (hdy : dy ≤ 20) (hld : ∀ e, ld e < 4) : mI (S := Nat × Int × Nat × tx_5 × (Nat → Nat)) l yX5_longest wsX5_longest ({ frames := 5, cells := 0, slots := 0, locals := 108 } : Room) D (tyc cs) sz [.ref xo] [(xo, .inr (5, [.ref h, .ref hk, .int (bI im), .ref tx, .ref g, .ref pn, .ref cn, .ref s0, .int (nI ss), .ref r0])), (h, .inr (4, [.ref k0, .ref k1, .ref k2, .ref k3, .ref k4, .ref k5, .int (nI n), .int (nI dy), .int (nI ch), .int (nI lw)])), (k0, aI cs 4 (tx_nf kd)), (k1, aI cs 4 (tx_nf wo)), (k2, aI cs 4 (tx_nf ha)), (k3, aI cs 4 (tx_nf we))] [(k4, aI cs 20 (tx_nf td)), (g, .inr (1, [.ref g0, .int (nI dd), .int (iI er), .int (nI cg), .int (nI x.1), .int (nI x.2.1), .int (nI x.2.2.1), .int (nI x.2.2.2.1), .int (nI x.2.2.2.2)])), (g0, aI cs 21 (tx_nf ld))] (fun (r : Int32) (u : Nat × Int × Nat × tx_5 × (Nat → Nat)) => match u with | (dd2, er2, cg2, x2, ld2) => r = nI (tx_T n kd td dy).2.1 ∧ ∀ e, ld2 e < 4) (fun (u : Nat × Int × Nat × tx_5 × (Nat → Nat)) => match u with | (dd2, er2, cg2, x2, ld2) => [(k4, aI cs 20 (tx_nf td)), (g, .inr (1, [.ref g0, .int (nI dd2), .int (iI er2), .int (nI cg2), .int (nI x2.1), .int (nI x2.2.1), .int (nI x2.2.2.1), .int (nI x2.2.2.2.1), .int (nI x2.2.2.2.2)])), (g0, aI cs 21 (tx_nf ld2))]) 0 0 := by
  unfold mI
  refine Met.ofW (cc := cX5_longest) (maxL := 1) (ret := (some .int)) (by decide) rfl ?_
  intro p e s m args below meth c s₁ B hml hv
  obtain ⟨rfl, hsz, hP, hK, hD0⟩ := hv
  have hx := B.exec
  have hb := B.bytes
  have hr := B.returns
  have hts := atoms_spec (ws := wsX5_longest) B.pre
  have hown : s.vm.findClass RX5 = some m.cls := findClass_of_methodNamed B.named
  have hlocks := B.notSynchronized
  subst hsz
  have hR := @en_R _ _ _ [(xo, .inr (5, [.ref h, .ref hk, .int (bI im), .ref tx, .ref g, .ref pn, .ref cn, .ref s0, .int (nI ss), .ref r0])), (h, .inr (4, [.ref k0, .ref k1, .ref k2, .ref k3, .ref k4, .ref k5, .int (nI n), .int (nI dy), .int (nI ch), .int (nI lw)])), (k0, aI cs 4 (tx_nf kd)), (k1, aI cs 4 (tx_nf wo)), (k2, aI cs 4 (tx_nf ha)), (k3, aI cs 4 (tx_nf we))] [(k4, aI cs 20 (tx_nf td)), (g, .inr (1, [.ref g0, .int (nI dd), .int (iI er), .int (nI cg), .int (nI x.1), .int (nI x.2.1), .int (nI x.2.2.1), .int (nI x.2.2.2.1), .int (nI x.2.2.2.2)])), (g0, aI cs 21 (tx_nf ld))] _ hP hD0
  have hN := adN_of hD0
  have hD := en_D (wr := [(xo, .inr (5, [.ref h, .ref hk, .int (bI im), .ref tx, .ref g, .ref pn, .ref cn, .ref s0, .int (nI ss), .ref r0])), (h, .inr (4, [.ref k0, .ref k1, .ref k2, .ref k3, .ref k4, .ref k5, .int (nI n), .int (nI dy), .int (nI ch), .int (nI lw)])), (k0, aI cs 4 (tx_nf kd)), (k1, aI cs 4 (tx_nf wo)), (k2, aI cs 4 (tx_nf ha)), (k3, aI cs 4 (tx_nf we))]) (ww := [(k4, aI cs 20 (tx_nf td)), (g, .inr (1, [.ref g0, .int (nI dd), .int (iI er), .int (nI cg), .int (nI x.1), .int (nI x.2.1), .int (nI x.2.2.1), .int (nI x.2.2.2.1), .int (nI x.2.2.2.2)])), (g0, aI cs 21 (tx_nf ld))]) (sz := s.heap.size) hD0
  have hP := en_P (wr := [(xo, .inr (5, [.ref h, .ref hk, .int (bI im), .ref tx, .ref g, .ref pn, .ref cn, .ref s0, .int (nI ss), .ref r0])), (h, .inr (4, [.ref k0, .ref k1, .ref k2, .ref k3, .ref k4, .ref k5, .int (nI n), .int (nI dy), .int (nI ch), .int (nI lw)])), (k0, aI cs 4 (tx_nf kd)), (k1, aI cs 4 (tx_nf wo)), (k2, aI cs 4 (tx_nf ha)), (k3, aI cs 4 (tx_nf we))]) (ww := [(k4, aI cs 20 (tx_nf td)), (g, .inr (1, [.ref g0, .int (nI dd), .int (iI er), .int (nI cg), .int (nI x.1), .int (nI x.2.1), .int (nI x.2.2.1), .int (nI x.2.2.2.1), .int (nI x.2.2.2.2)])), (g0, aI cs 21 (tx_nf ld))]) hP
  generalize hAe : va_A [(k4, aI cs 20 (tx_nf td)), (g, .inr (1, [.ref g0, .int (nI dd), .int (iI er), .int (nI cg), .int (nI x.1), .int (nI x.2.1), .int (nI x.2.2.1), .int (nI x.2.2.2.1), .int (nI x.2.2.2.2)])), (g0, aI cs 21 (tx_nf ld))] s.heap.size = A at hD hR ⊢
  have hA : ∀ q : Nat, s.heap.size ≤ q → A q := fun q h => by rw [← hAe]; exact Or.inr h
  have hS : va_S A s.heap s.heap [] := va_S.rf
  have hN : adN [xo, h, k0, k1, k2, k3, k4, g, g0] := hN
  have hf_33 := hts (.fieldLink RX5 33 "TaxedByLongest" "look" "LTaxedByLongest$Look;") (by decide +kernel)
  have hf_126 := hts (.fieldLink RX5 126 "TaxedByLongest$Look" "longest" "I") (by decide +kernel)
  have in_X1 : ∀ w ∈ wsX10, w ∈ wsX5_longest := by decide +kernel
  have in_X5 : ∀ w ∈ wsX50, w ∈ wsX5_longest := by decide +kernel
  have hl := lv_entry ([.ref xo]) (n := 1) (Nat.le_of_ble_eq_true rfl)
  rw [lg_entry_eq]
  generalize (lg_sl ([.ref xo]) ++ List.replicate (1 - (lg_sl ([.ref xo])).length) Slot.unset).toArray = ls at hl ⊢
  have hl : lv_has ls 1 [(0, .ref xo)] := hl
  refine lv_aload_n hx hb dX5_longest_0 rfl (lv_at hl 0 rfl) ?_
  refine cV_v (As := []) (rest := []) (cr := [(xo, .inr (5, [.ref h, .ref hk, .int (bI im), .ref tx, .ref g, .ref pn, .ref cn, .ref s0, .int (nI ss), .ref r0])), (h, .inr (4, [.ref k0, .ref k1, .ref k2, .ref k3, .ref k4, .ref k5, .int (nI n), .int (nI dy), .int (nI ch), .int (nI lw)])), (k0, aI cs 4 (tx_nf kd)), (k1, aI cs 4 (tx_nf wo)), (k2, aI cs 4 (tx_nf ha)), (k3, aI cs 4 (tx_nf we))]) (cw1 := [(k4, aI cs 20 (tx_nf td)), (g, .inr (1, [.ref g0, .int (nI dd), .int (iI er), .int (nI cg), .int (nI x.1), .int (nI x.2.1), .int (nI x.2.2.1), .int (nI x.2.2.2.1), .int (nI x.2.2.2.2)])), (g0, aI cs 21 (tx_nf ld))]) ⟨hx, hb, hml, hown, hts⟩ (c_X5_lookAtNow l D cs _ xo hk im tx pn cn s0 ss r0 h k0 k1 k2 k3 k4 k5 n dy ch lw kd wo ha we td g g0 dd er cg x ld (by first | assumption | omega) (by first | assumption | omega) (by first | assumption | omega) (by first | assumption | omega) (by first | assumption | omega) (by first | assumption | omega)) (cwV 0 hts gX5_longest_X5_lookAtNow rfl rfl rfl (by decide +kernel) ⟨Nat.le_of_ble_eq_true rfl, Nat.le_of_ble_eq_true rfl⟩) hK hP hD hS hA (((hR hS).app hP).sub [0, 1, 2, 3, 4, 5, 6, 7, 8] rfl) (dt_of hN [0, 1, 2, 3, 4, 5, 6, 7, 8] (by decide) rfl) [0, 1, 2] rfl 0 rfl rfl rfl hl.1 rfl (Nat.le_of_ble_eq_true rfl) dX5_longest_1 ⟨Nat.le_of_ble_eq_true rfl, Nat.le_of_ble_eq_true rfl⟩ (fun _ => rfl) (fun _ => rfl) (fun u9 H locs hw_1 hP hD hS => ?_)
  have hP : va_P D vwCl [(k4, aI cs 20 (tx_nf td)), (g, .inr (1, [.ref g0, .int (nI dy), .int (iI (tx_earn n kd wo ha we td dy ch)), .int (nI (tx_cg td (dy - 1))), .int (nI ((tx_T n kd td dy).1)), .int (nI ((tx_T n kd td dy).2.1)), .int (nI ((tx_T n kd td dy).2.2.1)), .int (nI ((tx_T n kd td dy).2.2.2.1)), .int (nI ((tx_T n kd td dy).2.2.2.2))])), (g0, aI cs 21 (tx_nf (tx_l20 td ld)))] H := hP
  have hD : va_D A [(k4, aI cs 20 (tx_nf td)), (g, .inr (1, [.ref g0, .int (nI dy), .int (iI (tx_earn n kd wo ha we td dy ch)), .int (nI (tx_cg td (dy - 1))), .int (nI ((tx_T n kd td dy).1)), .int (nI ((tx_T n kd td dy).2.1)), .int (nI ((tx_T n kd td dy).2.2.1)), .int (nI ((tx_T n kd td dy).2.2.2.1)), .int (nI ((tx_T n kd td dy).2.2.2.2))])), (g0, aI cs 21 (tx_nf (tx_l20 td ld)))] := hD
  refine lv_aload_n hx hb dX5_longest_4 rfl (lv_at hl 0 rfl) ?_
  refine va_get (D := D) (ci := 5) (v := .ref g) (C := RX5) (T := TX5) (N := 10) hx hb hts in_X5 hown hK (hR hS) 0 rfl rfl 4 (by decide) hf_33 (fun _ h9 => h9) rfl dX5_longest_5 ?_
  refine va_get (D := D) (ci := 1) (v := .int (nI ((tx_T n kd td dy).2.1))) (C := RX1) (T := TX1) (N := 9) hx hb hts in_X1 hown hK hP 1 rfl rfl 5 (by decide) hf_126 (fun _ h9 => h9) rfl dX5_longest_8 ?_
  exact rt_i hx hb hr hlocks (dy, tx_earn n kd wo ha we td dy ch, tx_cg td (dy - 1), tx_T n kd td dy, tx_l20 td ld) (⟨rfl, tx_l20_4 htd hld⟩) hP hD hS dX5_longest_11
set_option maxHeartbeats 4000000 in
set_option maxRecDepth 100000 in
theorem c_X5_stretches (l : Launch) (D : va_G) (cs : Nat → ClassId) (sz : Nat) (xo : Nat) (hk : Nat) (im : Bool) (tx : Nat) (pn : Nat) (cn : Nat) (s0 : Nat) (ss : Nat) (r0 : Nat) (h : Nat) (k0 : Nat) (k1 : Nat) (k2 : Nat) (k3 : Nat) (k4 : Nat) (k5 : Nat) (n : Nat) (dy : Nat) (ch : Nat) (lw : Nat) (kd : Nat → Nat) (wo : Nat → Nat) (ha : Nat → Nat) (we : Nat → Nat) (td : Nat → Nat) (g : Nat) (g0 : Nat) (dd : Nat) (er : Int) (cg : Nat) (x : tx_5) (ld : Nat → Nat) (hn : n ≤ 4) (hkd : ∀ e, kd e ≤ 5) (htd : ∀ e, td e < 4) (hd1 : 1 ≤ dy) (hdy : dy ≤ 20) (hld : ∀ e, ld e < 4) : mI (S := Nat × Int × Nat × tx_5 × (Nat → Nat)) l yX5_stretches wsX5_stretches ({ frames := 5, cells := 0, slots := 0, locals := 108 } : Room) D (tyc cs) sz [.ref xo] [(xo, .inr (5, [.ref h, .ref hk, .int (bI im), .ref tx, .ref g, .ref pn, .ref cn, .ref s0, .int (nI ss), .ref r0])), (h, .inr (4, [.ref k0, .ref k1, .ref k2, .ref k3, .ref k4, .ref k5, .int (nI n), .int (nI dy), .int (nI ch), .int (nI lw)])), (k0, aI cs 4 (tx_nf kd)), (k1, aI cs 4 (tx_nf wo)), (k2, aI cs 4 (tx_nf ha)), (k3, aI cs 4 (tx_nf we))] [(k4, aI cs 20 (tx_nf td)), (g, .inr (1, [.ref g0, .int (nI dd), .int (iI er), .int (nI cg), .int (nI x.1), .int (nI x.2.1), .int (nI x.2.2.1), .int (nI x.2.2.2.1), .int (nI x.2.2.2.2)])), (g0, aI cs 21 (tx_nf ld))] (fun (r : Int32) (u : Nat × Int × Nat × tx_5 × (Nat → Nat)) => match u with | (dd2, er2, cg2, x2, ld2) => r = nI (tx_T n kd td dy).1 ∧ ∀ e, ld2 e < 4) (fun (u : Nat × Int × Nat × tx_5 × (Nat → Nat)) => match u with | (dd2, er2, cg2, x2, ld2) => [(k4, aI cs 20 (tx_nf td)), (g, .inr (1, [.ref g0, .int (nI dd2), .int (iI er2), .int (nI cg2), .int (nI x2.1), .int (nI x2.2.1), .int (nI x2.2.2.1), .int (nI x2.2.2.2.1), .int (nI x2.2.2.2.2)])), (g0, aI cs 21 (tx_nf ld2))]) 0 0 := by
  unfold mI
  refine Met.ofW (cc := cX5_stretches) (maxL := 1) (ret := (some .int)) (by decide) rfl ?_
  intro p e s m args below meth c s₁ B hml hv
  obtain ⟨rfl, hsz, hP, hK, hD0⟩ := hv
  have hx := B.exec
  have hb := B.bytes
  have hr := B.returns
  have hts := atoms_spec (ws := wsX5_stretches) B.pre
  have hown : s.vm.findClass RX5 = some m.cls := findClass_of_methodNamed B.named
  have hlocks := B.notSynchronized
  subst hsz
  have hR := @en_R _ _ _ [(xo, .inr (5, [.ref h, .ref hk, .int (bI im), .ref tx, .ref g, .ref pn, .ref cn, .ref s0, .int (nI ss), .ref r0])), (h, .inr (4, [.ref k0, .ref k1, .ref k2, .ref k3, .ref k4, .ref k5, .int (nI n), .int (nI dy), .int (nI ch), .int (nI lw)])), (k0, aI cs 4 (tx_nf kd)), (k1, aI cs 4 (tx_nf wo)), (k2, aI cs 4 (tx_nf ha)), (k3, aI cs 4 (tx_nf we))] [(k4, aI cs 20 (tx_nf td)), (g, .inr (1, [.ref g0, .int (nI dd), .int (iI er), .int (nI cg), .int (nI x.1), .int (nI x.2.1), .int (nI x.2.2.1), .int (nI x.2.2.2.1), .int (nI x.2.2.2.2)])), (g0, aI cs 21 (tx_nf ld))] _ hP hD0
  have hN := adN_of hD0
  have hD := en_D (wr := [(xo, .inr (5, [.ref h, .ref hk, .int (bI im), .ref tx, .ref g, .ref pn, .ref cn, .ref s0, .int (nI ss), .ref r0])), (h, .inr (4, [.ref k0, .ref k1, .ref k2, .ref k3, .ref k4, .ref k5, .int (nI n), .int (nI dy), .int (nI ch), .int (nI lw)])), (k0, aI cs 4 (tx_nf kd)), (k1, aI cs 4 (tx_nf wo)), (k2, aI cs 4 (tx_nf ha)), (k3, aI cs 4 (tx_nf we))]) (ww := [(k4, aI cs 20 (tx_nf td)), (g, .inr (1, [.ref g0, .int (nI dd), .int (iI er), .int (nI cg), .int (nI x.1), .int (nI x.2.1), .int (nI x.2.2.1), .int (nI x.2.2.2.1), .int (nI x.2.2.2.2)])), (g0, aI cs 21 (tx_nf ld))]) (sz := s.heap.size) hD0
  have hP := en_P (wr := [(xo, .inr (5, [.ref h, .ref hk, .int (bI im), .ref tx, .ref g, .ref pn, .ref cn, .ref s0, .int (nI ss), .ref r0])), (h, .inr (4, [.ref k0, .ref k1, .ref k2, .ref k3, .ref k4, .ref k5, .int (nI n), .int (nI dy), .int (nI ch), .int (nI lw)])), (k0, aI cs 4 (tx_nf kd)), (k1, aI cs 4 (tx_nf wo)), (k2, aI cs 4 (tx_nf ha)), (k3, aI cs 4 (tx_nf we))]) (ww := [(k4, aI cs 20 (tx_nf td)), (g, .inr (1, [.ref g0, .int (nI dd), .int (iI er), .int (nI cg), .int (nI x.1), .int (nI x.2.1), .int (nI x.2.2.1), .int (nI x.2.2.2.1), .int (nI x.2.2.2.2)])), (g0, aI cs 21 (tx_nf ld))]) hP
  generalize hAe : va_A [(k4, aI cs 20 (tx_nf td)), (g, .inr (1, [.ref g0, .int (nI dd), .int (iI er), .int (nI cg), .int (nI x.1), .int (nI x.2.1), .int (nI x.2.2.1), .int (nI x.2.2.2.1), .int (nI x.2.2.2.2)])), (g0, aI cs 21 (tx_nf ld))] s.heap.size = A at hD hR ⊢
  have hA : ∀ q : Nat, s.heap.size ≤ q → A q := fun q h => by rw [← hAe]; exact Or.inr h
  have hS : va_S A s.heap s.heap [] := va_S.rf
  have hN : adN [xo, h, k0, k1, k2, k3, k4, g, g0] := hN
  have hf_33 := hts (.fieldLink RX5 33 "TaxedByLongest" "look" "LTaxedByLongest$Look;") (by decide +kernel)
  have hf_129 := hts (.fieldLink RX5 129 "TaxedByLongest$Look" "counted" "I") (by decide +kernel)
  have in_X1 : ∀ w ∈ wsX10, w ∈ wsX5_stretches := by decide +kernel
  have in_X5 : ∀ w ∈ wsX50, w ∈ wsX5_stretches := by decide +kernel
  have hl := lv_entry ([.ref xo]) (n := 1) (Nat.le_of_ble_eq_true rfl)
  rw [lg_entry_eq]
  generalize (lg_sl ([.ref xo]) ++ List.replicate (1 - (lg_sl ([.ref xo])).length) Slot.unset).toArray = ls at hl ⊢
  have hl : lv_has ls 1 [(0, .ref xo)] := hl
  refine lv_aload_n hx hb dX5_stretches_0 rfl (lv_at hl 0 rfl) ?_
  refine cV_v (As := []) (rest := []) (cr := [(xo, .inr (5, [.ref h, .ref hk, .int (bI im), .ref tx, .ref g, .ref pn, .ref cn, .ref s0, .int (nI ss), .ref r0])), (h, .inr (4, [.ref k0, .ref k1, .ref k2, .ref k3, .ref k4, .ref k5, .int (nI n), .int (nI dy), .int (nI ch), .int (nI lw)])), (k0, aI cs 4 (tx_nf kd)), (k1, aI cs 4 (tx_nf wo)), (k2, aI cs 4 (tx_nf ha)), (k3, aI cs 4 (tx_nf we))]) (cw1 := [(k4, aI cs 20 (tx_nf td)), (g, .inr (1, [.ref g0, .int (nI dd), .int (iI er), .int (nI cg), .int (nI x.1), .int (nI x.2.1), .int (nI x.2.2.1), .int (nI x.2.2.2.1), .int (nI x.2.2.2.2)])), (g0, aI cs 21 (tx_nf ld))]) ⟨hx, hb, hml, hown, hts⟩ (c_X5_lookAtNow l D cs _ xo hk im tx pn cn s0 ss r0 h k0 k1 k2 k3 k4 k5 n dy ch lw kd wo ha we td g g0 dd er cg x ld (by first | assumption | omega) (by first | assumption | omega) (by first | assumption | omega) (by first | assumption | omega) (by first | assumption | omega) (by first | assumption | omega)) (cwV 0 hts gX5_stretches_X5_lookAtNow rfl rfl rfl (by decide +kernel) ⟨Nat.le_of_ble_eq_true rfl, Nat.le_of_ble_eq_true rfl⟩) hK hP hD hS hA (((hR hS).app hP).sub [0, 1, 2, 3, 4, 5, 6, 7, 8] rfl) (dt_of hN [0, 1, 2, 3, 4, 5, 6, 7, 8] (by decide) rfl) [0, 1, 2] rfl 0 rfl rfl rfl hl.1 rfl (Nat.le_of_ble_eq_true rfl) dX5_stretches_1 ⟨Nat.le_of_ble_eq_true rfl, Nat.le_of_ble_eq_true rfl⟩ (fun _ => rfl) (fun _ => rfl) (fun u9 H locs hw_1 hP hD hS => ?_)
  have hP : va_P D vwCl [(k4, aI cs 20 (tx_nf td)), (g, .inr (1, [.ref g0, .int (nI dy), .int (iI (tx_earn n kd wo ha we td dy ch)), .int (nI (tx_cg td (dy - 1))), .int (nI ((tx_T n kd td dy).1)), .int (nI ((tx_T n kd td dy).2.1)), .int (nI ((tx_T n kd td dy).2.2.1)), .int (nI ((tx_T n kd td dy).2.2.2.1)), .int (nI ((tx_T n kd td dy).2.2.2.2))])), (g0, aI cs 21 (tx_nf (tx_l20 td ld)))] H := hP
  have hD : va_D A [(k4, aI cs 20 (tx_nf td)), (g, .inr (1, [.ref g0, .int (nI dy), .int (iI (tx_earn n kd wo ha we td dy ch)), .int (nI (tx_cg td (dy - 1))), .int (nI ((tx_T n kd td dy).1)), .int (nI ((tx_T n kd td dy).2.1)), .int (nI ((tx_T n kd td dy).2.2.1)), .int (nI ((tx_T n kd td dy).2.2.2.1)), .int (nI ((tx_T n kd td dy).2.2.2.2))])), (g0, aI cs 21 (tx_nf (tx_l20 td ld)))] := hD
  refine lv_aload_n hx hb dX5_stretches_4 rfl (lv_at hl 0 rfl) ?_
  refine va_get (D := D) (ci := 5) (v := .ref g) (C := RX5) (T := TX5) (N := 10) hx hb hts in_X5 hown hK (hR hS) 0 rfl rfl 4 (by decide) hf_33 (fun _ h9 => h9) rfl dX5_stretches_5 ?_
  refine va_get (D := D) (ci := 1) (v := .int (nI ((tx_T n kd td dy).1))) (C := RX1) (T := TX1) (N := 9) hx hb hts in_X1 hown hK hP 1 rfl rfl 4 (by decide) hf_129 (fun _ h9 => h9) rfl dX5_stretches_8 ?_
  exact rt_i hx hb hr hlocks (dy, tx_earn n kd wo ha we td dy ch, tx_cg td (dy - 1), tx_T n kd td dy, tx_l20 td ld) (⟨rfl, tx_l20_4 htd hld⟩) hP hD hS dX5_stretches_11
set_option maxHeartbeats 4000000 in
set_option maxRecDepth 100000 in
theorem c_X6_longest (l : Launch) (D : va_G) (cs : Nat → ClassId) (sz : Nat) (o : Nat) (o1 : Nat) (o2 : Nat) (o3 : Nat) (o4 : Nat) (o5 : Nat) (o6 : Nat) (o7 : Nat) (o8 : Nat) (o9 : Nat) (o10 : Nat) (o11 : Nat) (o12 : Nat) (o13 : Nat) (o14 : Nat) (o15 : Nat) (n : Nat) (dy : Nat) (ch : Nat) (lw : Nat) (tz : Nat) (at9 : Nat) (va9 : Nat) (ss : Nat) (im : Bool) (kd : Nat → Nat) (td : Nat → Nat) (hn : n ≤ 4) (hd1 : 1 ≤ dy) (hdy : dy ≤ 20) (htd : ∀ e, td e < 4) (htn : ∀ e, 0 < n → td e < n) (hkd : ∀ e, kd e ≤ 5) : mI (S := Unit) l yX6_longest wsX6_longest ({ frames := 2, cells := 0, slots := 0, locals := 44 } : Room) D (tyc cs) sz [.ref o] [(o, .inr (6, [.int (nI n), .ref o1, .ref o2, .ref o3, .ref o4, .int (nI dy), .ref o5, .ref o6, .int (nI ch), .int (nI lw), .int (nI tz), .ref o7, .int (nI at9), .int (nI va9), .int (nI ss), .ref o8, .ref o9, .int (bI im), .ref o10, .ref o11, .ref o12, .ref o13, .ref o14, .ref o15])), (o1, aI cs 4 (tx_nf kd)), (o5, aI cs 21 (tx_nf td))] [] (fun (r : Int32) (u : Unit) => r = nI (tx_T n kd td dy).2.1) (fun _ => []) 0 0 := by
  unfold mI
  refine Met.ofW (cc := cX6_longest) (maxL := 1) (ret := (some .int)) (by decide) rfl ?_
  intro p e s m args below meth c s₁ B hml hv
  obtain ⟨rfl, hsz, hP, hK, hD0⟩ := hv
  have hx := B.exec
  have hb := B.bytes
  have hr := B.returns
  have hts := atoms_spec (ws := wsX6_longest) B.pre
  have hown : s.vm.findClass RX6 = some m.cls := findClass_of_methodNamed B.named
  have hlocks := B.notSynchronized
  subst hsz
  have hR := @en_R _ _ _ [(o, .inr (6, [.int (nI n), .ref o1, .ref o2, .ref o3, .ref o4, .int (nI dy), .ref o5, .ref o6, .int (nI ch), .int (nI lw), .int (nI tz), .ref o7, .int (nI at9), .int (nI va9), .int (nI ss), .ref o8, .ref o9, .int (bI im), .ref o10, .ref o11, .ref o12, .ref o13, .ref o14, .ref o15])), (o1, aI cs 4 (tx_nf kd)), (o5, aI cs 21 (tx_nf td))] [] _ hP hD0
  have hN := adN_of hD0
  have hD := en_D (wr := [(o, .inr (6, [.int (nI n), .ref o1, .ref o2, .ref o3, .ref o4, .int (nI dy), .ref o5, .ref o6, .int (nI ch), .int (nI lw), .int (nI tz), .ref o7, .int (nI at9), .int (nI va9), .int (nI ss), .ref o8, .ref o9, .int (bI im), .ref o10, .ref o11, .ref o12, .ref o13, .ref o14, .ref o15])), (o1, aI cs 4 (tx_nf kd)), (o5, aI cs 21 (tx_nf td))]) (ww := []) (sz := s.heap.size) hD0
  have hP := en_P (wr := [(o, .inr (6, [.int (nI n), .ref o1, .ref o2, .ref o3, .ref o4, .int (nI dy), .ref o5, .ref o6, .int (nI ch), .int (nI lw), .int (nI tz), .ref o7, .int (nI at9), .int (nI va9), .int (nI ss), .ref o8, .ref o9, .int (bI im), .ref o10, .ref o11, .ref o12, .ref o13, .ref o14, .ref o15])), (o1, aI cs 4 (tx_nf kd)), (o5, aI cs 21 (tx_nf td))]) (ww := []) hP
  generalize hAe : va_A [] s.heap.size = A at hD hR ⊢
  have hA : ∀ q : Nat, s.heap.size ≤ q → A q := fun q h => by rw [← hAe]; exact Or.inr h
  have hS : va_S A s.heap s.heap [] := va_S.rf
  have hN : adN [o, o1, o5] := hN
  have hl := lv_entry ([.ref o]) (n := 1) (Nat.le_of_ble_eq_true rfl)
  rw [lg_entry_eq]
  generalize (lg_sl ([.ref o]) ++ List.replicate (1 - (lg_sl ([.ref o])).length) Slot.unset).toArray = ls at hl ⊢
  have hl : lv_has ls 1 [(0, .ref o)] := hl
  refine lv_aload_n hx hb dX6_longest_0 rfl (lv_at hl 0 rfl) ?_
  refine cV_i (As := []) (rest := []) (cr := [(o, .inr (6, [.int (nI n), .ref o1, .ref o2, .ref o3, .ref o4, .int (nI dy), .ref o5, .ref o6, .int (nI ch), .int (nI lw), .int (nI tz), .ref o7, .int (nI at9), .int (nI va9), .int (nI ss), .ref o8, .ref o9, .int (bI im), .ref o10, .ref o11, .ref o12, .ref o13, .ref o14, .ref o15])), (o1, aI cs 4 (tx_nf kd)), (o5, aI cs 21 (tx_nf td))]) (cw1 := []) ⟨hx, hb, hml, hown, hts⟩ (c_X6_longestNow l D cs _ o o1 o2 o3 o4 o5 o6 o7 o8 o9 o10 o11 o12 o13 o14 o15 n dy ch lw tz at9 va9 ss im kd td (by first | assumption | omega) (by first | assumption | omega) (by first | assumption | omega) (by first | assumption | omega) (by first | assumption | omega) (by first | assumption | omega)) (cwV 0 hts gX6_longest_X6_longestNow rfl rfl rfl (by decide +kernel) ⟨Nat.le_of_ble_eq_true rfl, Nat.le_of_ble_eq_true rfl⟩) hK hP hD hS hA (((hR hS).app hP).sub [0, 1, 2] rfl) (dt_of hN [0, 1, 2] (by decide) rfl) [] rfl 0 rfl rfl rfl hl.1 rfl (Nat.le_of_ble_eq_true rfl) dX6_longest_1 ⟨Nat.le_of_ble_eq_true rfl, Nat.le_of_ble_eq_true rfl⟩ (fun _ => rfl) (fun _ => rfl) (fun r_1 u9 H locs hw_2 hP hD hS => ?_)
  have hP : va_P D vwCl [] H := hP
  have hD : va_D A [] := hD
  subst r_1
  exact rt_i hx hb hr hlocks () (rfl) hP hD hS dX6_longest_4
set_option maxHeartbeats 4000000 in
set_option maxRecDepth 100000 in
theorem c_X5_stretch (l : Launch) (D : va_G) (cs : Nat → ClassId) (sz : Nat) (xo : Nat) (hk : Nat) (im : Bool) (tx : Nat) (pn : Nat) (cn : Nat) (s0 : Nat) (ss : Nat) (r0 : Nat) (h : Nat) (k0 : Nat) (k1 : Nat) (k2 : Nat) (k3 : Nat) (k4 : Nat) (k5 : Nat) (n : Nat) (dy : Nat) (ch : Nat) (lw : Nat) (g : Nat) (td : Nat → Nat) (rf : Nat → Nat) (d : Int32) (v : Int32) (hdy : dy ≤ 20) (htd : ∀ e, td e < 4) : mI (S := Unit) l yX5_stretch wsX5_stretch ({ frames := 1, cells := 0, slots := 0, locals := 22 } : Room) D (tyc cs) sz [.ref xo, .int d, .int v] [(xo, .inr (5, [.ref h, .ref hk, .int (bI im), .ref tx, .ref g, .ref pn, .ref cn, .ref s0, .int (nI ss), .ref r0])), (h, .inr (4, [.ref k0, .ref k1, .ref k2, .ref k3, .ref k4, .ref k5, .int (nI n), .int (nI dy), .int (nI ch), .int (nI lw)])), (k4, aI cs 20 (tx_nf td))] [(r0, aI cs 7 (tx_nf rf))] (fun (r : Int32) (u : Unit) => r = tx_ai (tx_q_stretch dy d v) (nI (tx_a_stretch td dy d v))) (fun _ => [(r0, aI cs 7 (tx_nf (tx_rf rf (tx_q_stretch dy d v))))]) 0 0 := by
  unfold mI
  refine Met.ofW (cc := cX5_stretch) (maxL := 4) (ret := (some .int)) (by decide) rfl ?_
  intro p e s m args below meth c s₁ B hml hv
  obtain ⟨rfl, hsz, hP, hK, hD0⟩ := hv
  have hx := B.exec
  have hb := B.bytes
  have hr := B.returns
  have hts := atoms_spec (ws := wsX5_stretch) B.pre
  have hown : s.vm.findClass RX5 = some m.cls := findClass_of_methodNamed B.named
  have hlocks := B.notSynchronized
  subst hsz
  have hR := @en_R _ _ _ [(xo, .inr (5, [.ref h, .ref hk, .int (bI im), .ref tx, .ref g, .ref pn, .ref cn, .ref s0, .int (nI ss), .ref r0])), (h, .inr (4, [.ref k0, .ref k1, .ref k2, .ref k3, .ref k4, .ref k5, .int (nI n), .int (nI dy), .int (nI ch), .int (nI lw)])), (k4, aI cs 20 (tx_nf td))] [(r0, aI cs 7 (tx_nf rf))] _ hP hD0
  have hN := adN_of hD0
  have hD := en_D (wr := [(xo, .inr (5, [.ref h, .ref hk, .int (bI im), .ref tx, .ref g, .ref pn, .ref cn, .ref s0, .int (nI ss), .ref r0])), (h, .inr (4, [.ref k0, .ref k1, .ref k2, .ref k3, .ref k4, .ref k5, .int (nI n), .int (nI dy), .int (nI ch), .int (nI lw)])), (k4, aI cs 20 (tx_nf td))]) (ww := [(r0, aI cs 7 (tx_nf rf))]) (sz := s.heap.size) hD0
  have hP := en_P (wr := [(xo, .inr (5, [.ref h, .ref hk, .int (bI im), .ref tx, .ref g, .ref pn, .ref cn, .ref s0, .int (nI ss), .ref r0])), (h, .inr (4, [.ref k0, .ref k1, .ref k2, .ref k3, .ref k4, .ref k5, .int (nI n), .int (nI dy), .int (nI ch), .int (nI lw)])), (k4, aI cs 20 (tx_nf td))]) (ww := [(r0, aI cs 7 (tx_nf rf))]) hP
  generalize hAe : va_A [(r0, aI cs 7 (tx_nf rf))] s.heap.size = A at hD hR ⊢
  have hA : ∀ q : Nat, s.heap.size ≤ q → A q := fun q h => by rw [← hAe]; exact Or.inr h
  have hS : va_S A s.heap s.heap [] := va_S.rf
  have hN : adN [xo, h, k4, r0] := hN
  have hf_10 := hts (.fieldLink RX5 10 "TaxedByLongest" "told" "LTaxedByLongest$Told;") (by decide +kernel)
  have in_X5 : ∀ w ∈ wsX50, w ∈ wsX5_stretch := by decide +kernel
  have hl := lv_entry ([.ref xo, .int d, .int v]) (n := 4) (Nat.le_of_ble_eq_true rfl)
  rw [lg_entry_eq]
  generalize (lg_sl ([.ref xo, .int d, .int v]) ++ List.replicate (4 - (lg_sl ([.ref xo, .int d, .int v])).length) Slot.unset).toArray = ls at hl ⊢
  have hl : lv_has ls 4 [(0, .ref xo), (1, .int d), (2, .int v)] := hl
  refine lv_aload_n hx hb dX5_stretch_0 rfl (lv_at hl 0 rfl) ?_
  refine va_get (D := D) (ci := 5) (v := .ref h) (C := RX5) (T := TX5) (N := 10) hx hb hts in_X5 hown hK (hR hS) 0 rfl rfl 0 (by decide) hf_10 (fun _ h9 => h9) rfl dX5_stretch_1 ?_
  refine lv_iload_n hx hb dX5_stretch_4 rfl (lv_at hl 1 rfl) ?_
  refine cV_i (As := [.int d]) (rest := []) (cr := [(h, .inr (4, [.ref k0, .ref k1, .ref k2, .ref k3, .ref k4, .ref k5, .int (nI n), .int (nI dy), .int (nI ch), .int (nI lw)]))]) (cw1 := []) ⟨hx, hb, hml, hown, hts⟩ (c_X4_hasDay l D cs _ h k0 k1 k2 k3 k4 k5 n dy ch lw d ) (cwV 1 hts gX5_stretch_X4_hasDay rfl rfl rfl (by decide +kernel) ⟨Nat.le_of_ble_eq_true rfl, Nat.le_of_ble_eq_true rfl⟩) hK hP hD hS hA (((hR hS).app hP).sub [1] rfl) (dt_of hN [1] (by decide) rfl) [] rfl 0 rfl rfl rfl hl.1 rfl (Nat.le_of_ble_eq_true rfl) dX5_stretch_5 ⟨Nat.le_of_ble_eq_true rfl, Nat.le_of_ble_eq_true rfl⟩ (fun _ => rfl) (fun _ => rfl) (fun r_1 u9 H locs hw_2 hP hD hS => ?_)
  have hP : va_P D vwCl [(r0, aI cs 7 (tx_nf rf))] H := hP
  have hD : va_D A [(r0, aI cs 7 (tx_nf rf))] := hD
  subst r_1
  refine bb_ne (b := tx_has dy d) (tgt := 17) hx hb rfl dX5_stretch_8 (by decide) (fun c8 => ?_) (fun c8 => ?_)
  · refine lv_iload_n hx hb dX5_stretch_17 rfl (lv_at hl 2 rfl) ?_
    refine lv_if_eq (tgt := 33) hx hb dX5_stretch_18 (by decide) (fun c18 => ?_) (fun c18 => ?_)
    · obtain ⟨j, hj, rfl⟩ := tx_has_t (by omega) c8
      have hij : tx_ix (nI j) = j := tx_ix_n (by omega)
      refine lv_aload_n hx hb dX5_stretch_33 rfl (lv_at hl 0 rfl) ?_
      refine va_get (D := D) (ci := 5) (v := .ref h) (C := RX5) (T := TX5) (N := 10) hx hb hts in_X5 hown hK (hR hS) 0 rfl rfl 0 (by decide) hf_10 (fun _ h9 => h9) rfl dX5_stretch_34 ?_
      refine lv_iload_n hx hb dX5_stretch_37 rfl (lv_at hl 1 rfl) ?_
      refine cV_i (As := [.int (nI j)]) (rest := []) (cr := [(h, .inr (4, [.ref k0, .ref k1, .ref k2, .ref k3, .ref k4, .ref k5, .int (nI n), .int (nI dy), .int (nI ch), .int (nI lw)])), (k4, aI cs 20 (tx_nf td))]) (cw1 := []) ⟨hx, hb, hml, hown, hts⟩ (c_X4_placeInStretch l D cs _ h k0 k1 k2 k3 k4 k5 n dy ch lw td j (by first | assumption | omega) (by first | assumption | omega)) (cwV 1 hts gX5_stretch_X4_placeInStretch rfl rfl rfl (by decide +kernel) ⟨Nat.le_of_ble_eq_true rfl, Nat.le_of_ble_eq_true rfl⟩) hK hP hD hS hA (((hR hS).app hP).sub [1, 2] rfl) (dt_of hN [1, 2] (by decide) rfl) [] rfl 0 rfl rfl rfl hl.1 rfl (Nat.le_of_ble_eq_true rfl) dX5_stretch_38 ⟨Nat.le_of_ble_eq_true rfl, Nat.le_of_ble_eq_true rfl⟩ (fun _ => rfl) (fun _ => rfl) (fun r_3 u9 H locs hw_4 hP hD hS => ?_)
      have hP : va_P D vwCl [(r0, aI cs 7 (tx_nf rf))] H := hP
      have hD : va_D A [(r0, aI cs 7 (tx_nf rf))] := hD
      subst r_3
      refine lv_istore_n (lv' := [(3, .int (nI (tx_pl td j))), (0, .ref xo), (1, .int (nI j)), (2, .int v)]) hx hb dX5_stretch_41 rfl hl (by decide) rfl (fun ls hl => ?_)
      refine lv_iload_n hx hb dX5_stretch_42 rfl (lv_at hl 3 rfl) ?_
      refine lv_iconst (v := 1) hx hb dX5_stretch_43 (by decide) ?_
      refine lv_icmp_ne (tgt := 51) hx hb dX5_stretch_44 (by decide) (fun c44 => ?_) (fun c44 => ?_)
      · refine lv_iload_n hx hb dX5_stretch_51 rfl (lv_at hl 0 rfl) ?_
        refine lv_aload_n hx hb dX5_stretch_52 rfl (lv_at hl 1 rfl) ?_
        refine va_get (D := D) (ci := 5) (v := .ref h) (C := RX5) (T := TX5) (N := 10) hx hb hts in_X5 hown hK (hR hS) 0 rfl rfl 0 (by decide) hf_10 (fun _ h9 => h9) rfl dX5_stretch_53 ?_
        refine lv_iload_n hx hb dX5_stretch_56 rfl (lv_at hl 2 rfl) ?_
        refine cV_i (As := [.int (nI j)]) (rest := [.int (nI (tx_pl td j))]) (cr := [(h, .inr (4, [.ref k0, .ref k1, .ref k2, .ref k3, .ref k4, .ref k5, .int (nI n), .int (nI dy), .int (nI ch), .int (nI lw)])), (k4, aI cs 20 (tx_nf td))]) (cw1 := []) ⟨hx, hb, hml, hown, hts⟩ (c_X4_daysToGoOn l D cs _ h k0 k1 k2 k3 k4 k5 n dy ch lw td j (by first | assumption | omega) (by first | assumption | omega) (by first | assumption | omega)) (cwV 1 hts gX5_stretch_X4_daysToGoOn rfl rfl rfl (by decide +kernel) ⟨Nat.le_of_ble_eq_true rfl, Nat.le_of_ble_eq_true rfl⟩) hK hP hD hS hA (((hR hS).app hP).sub [1, 2] rfl) (dt_of hN [1, 2] (by decide) rfl) [] rfl 0 rfl rfl rfl hl.1 rfl (Nat.le_of_ble_eq_true rfl) dX5_stretch_57 ⟨Nat.le_of_ble_eq_true rfl, Nat.le_of_ble_eq_true rfl⟩ (fun _ => rfl) (fun _ => rfl) (fun r_5 u9 H locs hw_6 hP hD hS => ?_)
        have hP : va_P D vwCl [(r0, aI cs 7 (tx_nf rf))] H := hP
        have hD : va_D A [(r0, aI cs 7 (tx_nf rf))] := hD
        subst r_5
        refine lv_iadd hx hb dX5_stretch_60 ?_
        refine tp_i (nI_add (tx_pl td j) (tx_fw td dy 20 j - j)) ?_
        have hQ : tx_q_stretch dy (nI j) v = 0 := by simp [tx_q_stretch, c8, c18, c44]
        have e9 : tx_rf rf (tx_q_stretch dy (nI j) v) = rf := by rw [hQ] <;> rfl
        have hP : va_P D vwCl [(r0, aI cs 7 (tx_nf (tx_rf rf (tx_q_stretch dy (nI j) v))))] H := by rw [e9]; (try simp only [hQ]); exact hP
        have hD : va_D A [(r0, aI cs 7 (tx_nf (tx_rf rf (tx_q_stretch dy (nI j) v))))] := by rw [e9]; (try simp only [hQ]); exact hD
        exact rt_i hx hb hr hlocks () (by rw [hQ] <;> (unfold tx_a_stretch; rw [if_neg c44, hij] <;> rfl)) hP hD hS dX5_stretch_61
      · refine lv_iload_n hx hb dX5_stretch_47 rfl (lv_at hl 0 rfl) ?_
        refine lv_goto (tgt := 61) hx hb dX5_stretch_48 (by decide) ?_
        have hQ : tx_q_stretch dy (nI j) v = 0 := by simp [tx_q_stretch, c8, c18, c44]
        have e9 : tx_rf rf (tx_q_stretch dy (nI j) v) = rf := by rw [hQ] <;> rfl
        have hP : va_P D vwCl [(r0, aI cs 7 (tx_nf (tx_rf rf (tx_q_stretch dy (nI j) v))))] H := by rw [e9]; (try simp only [hQ]); exact hP
        have hD : va_D A [(r0, aI cs 7 (tx_nf (tx_rf rf (tx_q_stretch dy (nI j) v))))] := by rw [e9]; (try simp only [hQ]); exact hD
        exact rt_i hx hb hr hlocks () (by rw [hQ] <;> (unfold tx_a_stretch; rw [if_pos c44, hij] <;> rfl)) hP hD hS dX5_stretch_61
    · refine lv_iload_n hx hb dX5_stretch_21 rfl (lv_at hl 2 rfl) ?_
      refine lv_iconst (v := 1) hx hb dX5_stretch_22 (by decide) ?_
      refine lv_icmp_eq (tgt := 33) hx hb dX5_stretch_23 (by decide) (fun c23 => ?_) (fun c23 => ?_)
      · obtain ⟨j, hj, rfl⟩ := tx_has_t (by omega) c8
        have hij : tx_ix (nI j) = j := tx_ix_n (by omega)
        refine lv_aload_n hx hb dX5_stretch_33 rfl (lv_at hl 0 rfl) ?_
        refine va_get (D := D) (ci := 5) (v := .ref h) (C := RX5) (T := TX5) (N := 10) hx hb hts in_X5 hown hK (hR hS) 0 rfl rfl 0 (by decide) hf_10 (fun _ h9 => h9) rfl dX5_stretch_34 ?_
        refine lv_iload_n hx hb dX5_stretch_37 rfl (lv_at hl 1 rfl) ?_
        refine cV_i (As := [.int (nI j)]) (rest := []) (cr := [(h, .inr (4, [.ref k0, .ref k1, .ref k2, .ref k3, .ref k4, .ref k5, .int (nI n), .int (nI dy), .int (nI ch), .int (nI lw)])), (k4, aI cs 20 (tx_nf td))]) (cw1 := []) ⟨hx, hb, hml, hown, hts⟩ (c_X4_placeInStretch l D cs _ h k0 k1 k2 k3 k4 k5 n dy ch lw td j (by first | assumption | omega) (by first | assumption | omega)) (cwV 1 hts gX5_stretch_X4_placeInStretch rfl rfl rfl (by decide +kernel) ⟨Nat.le_of_ble_eq_true rfl, Nat.le_of_ble_eq_true rfl⟩) hK hP hD hS hA (((hR hS).app hP).sub [1, 2] rfl) (dt_of hN [1, 2] (by decide) rfl) [] rfl 0 rfl rfl rfl hl.1 rfl (Nat.le_of_ble_eq_true rfl) dX5_stretch_38 ⟨Nat.le_of_ble_eq_true rfl, Nat.le_of_ble_eq_true rfl⟩ (fun _ => rfl) (fun _ => rfl) (fun r_7 u9 H locs hw_8 hP hD hS => ?_)
        have hP : va_P D vwCl [(r0, aI cs 7 (tx_nf rf))] H := hP
        have hD : va_D A [(r0, aI cs 7 (tx_nf rf))] := hD
        subst r_7
        refine lv_istore_n (lv' := [(3, .int (nI (tx_pl td j))), (0, .ref xo), (1, .int (nI j)), (2, .int v)]) hx hb dX5_stretch_41 rfl hl (by decide) rfl (fun ls hl => ?_)
        refine lv_iload_n hx hb dX5_stretch_42 rfl (lv_at hl 3 rfl) ?_
        refine lv_iconst (v := 1) hx hb dX5_stretch_43 (by decide) ?_
        refine lv_icmp_ne (tgt := 51) hx hb dX5_stretch_44 (by decide) (fun c44 => ?_) (fun c44 => ?_)
        · refine lv_iload_n hx hb dX5_stretch_51 rfl (lv_at hl 0 rfl) ?_
          refine lv_aload_n hx hb dX5_stretch_52 rfl (lv_at hl 1 rfl) ?_
          refine va_get (D := D) (ci := 5) (v := .ref h) (C := RX5) (T := TX5) (N := 10) hx hb hts in_X5 hown hK (hR hS) 0 rfl rfl 0 (by decide) hf_10 (fun _ h9 => h9) rfl dX5_stretch_53 ?_
          refine lv_iload_n hx hb dX5_stretch_56 rfl (lv_at hl 2 rfl) ?_
          refine cV_i (As := [.int (nI j)]) (rest := [.int (nI (tx_pl td j))]) (cr := [(h, .inr (4, [.ref k0, .ref k1, .ref k2, .ref k3, .ref k4, .ref k5, .int (nI n), .int (nI dy), .int (nI ch), .int (nI lw)])), (k4, aI cs 20 (tx_nf td))]) (cw1 := []) ⟨hx, hb, hml, hown, hts⟩ (c_X4_daysToGoOn l D cs _ h k0 k1 k2 k3 k4 k5 n dy ch lw td j (by first | assumption | omega) (by first | assumption | omega) (by first | assumption | omega)) (cwV 1 hts gX5_stretch_X4_daysToGoOn rfl rfl rfl (by decide +kernel) ⟨Nat.le_of_ble_eq_true rfl, Nat.le_of_ble_eq_true rfl⟩) hK hP hD hS hA (((hR hS).app hP).sub [1, 2] rfl) (dt_of hN [1, 2] (by decide) rfl) [] rfl 0 rfl rfl rfl hl.1 rfl (Nat.le_of_ble_eq_true rfl) dX5_stretch_57 ⟨Nat.le_of_ble_eq_true rfl, Nat.le_of_ble_eq_true rfl⟩ (fun _ => rfl) (fun _ => rfl) (fun r_9 u9 H locs hw_10 hP hD hS => ?_)
          have hP : va_P D vwCl [(r0, aI cs 7 (tx_nf rf))] H := hP
          have hD : va_D A [(r0, aI cs 7 (tx_nf rf))] := hD
          subst r_9
          refine lv_iadd hx hb dX5_stretch_60 ?_
          refine tp_i (nI_add (tx_pl td j) (tx_fw td dy 20 j - j)) ?_
          have hQ : tx_q_stretch dy (nI j) v = 0 := by simp [tx_q_stretch, c8, c18, c23, c44]
          have e9 : tx_rf rf (tx_q_stretch dy (nI j) v) = rf := by rw [hQ] <;> rfl
          have hP : va_P D vwCl [(r0, aI cs 7 (tx_nf (tx_rf rf (tx_q_stretch dy (nI j) v))))] H := by rw [e9]; (try simp only [hQ]); exact hP
          have hD : va_D A [(r0, aI cs 7 (tx_nf (tx_rf rf (tx_q_stretch dy (nI j) v))))] := by rw [e9]; (try simp only [hQ]); exact hD
          exact rt_i hx hb hr hlocks () (by rw [hQ] <;> (unfold tx_a_stretch; rw [if_neg c44, hij] <;> rfl)) hP hD hS dX5_stretch_61
        · refine lv_iload_n hx hb dX5_stretch_47 rfl (lv_at hl 0 rfl) ?_
          refine lv_goto (tgt := 61) hx hb dX5_stretch_48 (by decide) ?_
          have hQ : tx_q_stretch dy (nI j) v = 0 := by simp [tx_q_stretch, c8, c18, c23, c44]
          have e9 : tx_rf rf (tx_q_stretch dy (nI j) v) = rf := by rw [hQ] <;> rfl
          have hP : va_P D vwCl [(r0, aI cs 7 (tx_nf (tx_rf rf (tx_q_stretch dy (nI j) v))))] H := by rw [e9]; (try simp only [hQ]); exact hP
          have hD : va_D A [(r0, aI cs 7 (tx_nf (tx_rf rf (tx_q_stretch dy (nI j) v))))] := by rw [e9]; (try simp only [hQ]); exact hD
          exact rt_i hx hb hr hlocks () (by rw [hQ] <;> (unfold tx_a_stretch; rw [if_pos c44, hij] <;> rfl)) hP hD hS dX5_stretch_61
      · refine lv_aload_n hx hb dX5_stretch_26 rfl (lv_at hl 0 rfl) ?_
        refine lv_bipush (v := (-2)) hx hb dX5_stretch_27 (by decide) ?_
        refine cV_i (As := [.int (-2)]) (rest := []) (cr := [(xo, .inr (5, [.ref h, .ref hk, .int (bI im), .ref tx, .ref g, .ref pn, .ref cn, .ref s0, .int (nI ss), .ref r0]))]) (cw1 := [(r0, aI cs 7 (tx_nf rf))]) ⟨hx, hb, hml, hown, hts⟩ (c_X5_refuse l D cs _ xo hk im tx pn cn s0 ss r0 h g rf (-2) 2 (by decide) (by decide) (by decide)) (cwV 1 hts gX5_stretch_X5_refuse rfl rfl rfl (by decide +kernel) ⟨Nat.le_of_ble_eq_true rfl, Nat.le_of_ble_eq_true rfl⟩) hK hP hD hS hA (((hR hS).app hP).sub [0, 3] rfl) (dt_of hN [0, 3] (by decide) rfl) [0] rfl 0 rfl rfl rfl hl.1 rfl (Nat.le_of_ble_eq_true rfl) dX5_stretch_29 ⟨Nat.le_of_ble_eq_true rfl, Nat.le_of_ble_eq_true rfl⟩ (fun _ => rfl) (fun _ => rfl) (fun r_11 u9 H locs hw_12 hP hD hS => ?_)
        have hP : va_P D vwCl [(r0, aI cs 7 (tx_nf (tx_rf rf 2)))] H := hP
        have hD : va_D A [(r0, aI cs 7 (tx_nf (tx_rf rf 2)))] := hD
        subst r_11
        have hQ : tx_q_stretch dy d v = 2 := by simp [tx_q_stretch, c8, c18, c23]
        have e9 : tx_rf rf (tx_q_stretch dy d v) = tx_rf rf 2 := by rw [hQ] <;> rfl
        have hP : va_P D vwCl [(r0, aI cs 7 (tx_nf (tx_rf rf (tx_q_stretch dy d v))))] H := by rw [e9]; (try simp only [hQ]); exact hP
        have hD : va_D A [(r0, aI cs 7 (tx_nf (tx_rf rf (tx_q_stretch dy d v))))] := by rw [e9]; (try simp only [hQ]); exact hD
        exact rt_i hx hb hr hlocks () (by rw [hQ] <;> (first | done | rfl)) hP hD hS dX5_stretch_32
  · refine lv_aload_n hx hb dX5_stretch_11 rfl (lv_at hl 0 rfl) ?_
    refine lv_iconst (v := (-1)) hx hb dX5_stretch_12 (by decide) ?_
    refine cV_i (As := [.int (-1)]) (rest := []) (cr := [(xo, .inr (5, [.ref h, .ref hk, .int (bI im), .ref tx, .ref g, .ref pn, .ref cn, .ref s0, .int (nI ss), .ref r0]))]) (cw1 := [(r0, aI cs 7 (tx_nf rf))]) ⟨hx, hb, hml, hown, hts⟩ (c_X5_refuse l D cs _ xo hk im tx pn cn s0 ss r0 h g rf (-1) 1 (by decide) (by decide) (by decide)) (cwV 1 hts gX5_stretch_X5_refuse rfl rfl rfl (by decide +kernel) ⟨Nat.le_of_ble_eq_true rfl, Nat.le_of_ble_eq_true rfl⟩) hK hP hD hS hA (((hR hS).app hP).sub [0, 3] rfl) (dt_of hN [0, 3] (by decide) rfl) [0] rfl 0 rfl rfl rfl hl.1 rfl (Nat.le_of_ble_eq_true rfl) dX5_stretch_13 ⟨Nat.le_of_ble_eq_true rfl, Nat.le_of_ble_eq_true rfl⟩ (fun _ => rfl) (fun _ => rfl) (fun r_13 u9 H locs hw_14 hP hD hS => ?_)
    have hP : va_P D vwCl [(r0, aI cs 7 (tx_nf (tx_rf rf 1)))] H := hP
    have hD : va_D A [(r0, aI cs 7 (tx_nf (tx_rf rf 1)))] := hD
    subst r_13
    have hQ : tx_q_stretch dy d v = 1 := by simp [tx_q_stretch, c8]
    have e9 : tx_rf rf (tx_q_stretch dy d v) = tx_rf rf 1 := by rw [hQ] <;> rfl
    have hP : va_P D vwCl [(r0, aI cs 7 (tx_nf (tx_rf rf (tx_q_stretch dy d v))))] H := by rw [e9]; (try simp only [hQ]); exact hP
    have hD : va_D A [(r0, aI cs 7 (tx_nf (tx_rf rf (tx_q_stretch dy d v))))] := by rw [e9]; (try simp only [hQ]); exact hD
    exact rt_i hx hb hr hlocks () (by rw [hQ] <;> (first | done | rfl)) hP hD hS dX5_stretch_16
set_option maxHeartbeats 4000000 in
set_option maxRecDepth 100000 in
theorem c_X6_stretch (l : Launch) (D : va_G) (cs : Nat → ClassId) (sz : Nat) (o : Nat) (o1 : Nat) (o2 : Nat) (o3 : Nat) (o4 : Nat) (o5 : Nat) (o6 : Nat) (o7 : Nat) (o8 : Nat) (o9 : Nat) (o10 : Nat) (o11 : Nat) (o12 : Nat) (o13 : Nat) (o14 : Nat) (o15 : Nat) (n : Nat) (dy : Nat) (ch : Nat) (lw : Nat) (tz : Nat) (at9 : Nat) (va9 : Nat) (ss : Nat) (im : Bool) (td : Nat → Nat) (rf : Nat → Nat) (d : Int32) (v : Int32) (hdy : dy ≤ 20) (hd1 : 1 ≤ dy) (htd : ∀ e, td e < 4) : mI (S := Unit) l yX6_stretch wsX6_stretch ({ frames := 2, cells := 0, slots := 0, locals := 43 } : Room) D (tyc cs) sz [.ref o, .int d, .int v] [(o, .inr (6, [.int (nI n), .ref o1, .ref o2, .ref o3, .ref o4, .int (nI dy), .ref o5, .ref o6, .int (nI ch), .int (nI lw), .int (nI tz), .ref o7, .int (nI at9), .int (nI va9), .int (nI ss), .ref o8, .ref o9, .int (bI im), .ref o10, .ref o11, .ref o12, .ref o13, .ref o14, .ref o15])), (o5, aI cs 21 (tx_nf td))] [(o9, aI cs 7 (tx_nf rf))] (fun (r : Int32) (u : Unit) => r = tx_ai (tx_q_stretch dy d v) (nI (tx_a_stretch td dy d v))) (fun _ => [(o9, aI cs 7 (tx_nf (tx_rf rf (tx_q_stretch dy d v))))]) 0 0 := by
  unfold mI
  refine Met.ofW (cc := cX6_stretch) (maxL := 4) (ret := (some .int)) (by decide) rfl ?_
  intro p e s m args below meth c s₁ B hml hv
  obtain ⟨rfl, hsz, hP, hK, hD0⟩ := hv
  have hx := B.exec
  have hb := B.bytes
  have hr := B.returns
  have hts := atoms_spec (ws := wsX6_stretch) B.pre
  have hown : s.vm.findClass RX6 = some m.cls := findClass_of_methodNamed B.named
  have hlocks := B.notSynchronized
  subst hsz
  have hR := @en_R _ _ _ [(o, .inr (6, [.int (nI n), .ref o1, .ref o2, .ref o3, .ref o4, .int (nI dy), .ref o5, .ref o6, .int (nI ch), .int (nI lw), .int (nI tz), .ref o7, .int (nI at9), .int (nI va9), .int (nI ss), .ref o8, .ref o9, .int (bI im), .ref o10, .ref o11, .ref o12, .ref o13, .ref o14, .ref o15])), (o5, aI cs 21 (tx_nf td))] [(o9, aI cs 7 (tx_nf rf))] _ hP hD0
  have hN := adN_of hD0
  have hD := en_D (wr := [(o, .inr (6, [.int (nI n), .ref o1, .ref o2, .ref o3, .ref o4, .int (nI dy), .ref o5, .ref o6, .int (nI ch), .int (nI lw), .int (nI tz), .ref o7, .int (nI at9), .int (nI va9), .int (nI ss), .ref o8, .ref o9, .int (bI im), .ref o10, .ref o11, .ref o12, .ref o13, .ref o14, .ref o15])), (o5, aI cs 21 (tx_nf td))]) (ww := [(o9, aI cs 7 (tx_nf rf))]) (sz := s.heap.size) hD0
  have hP := en_P (wr := [(o, .inr (6, [.int (nI n), .ref o1, .ref o2, .ref o3, .ref o4, .int (nI dy), .ref o5, .ref o6, .int (nI ch), .int (nI lw), .int (nI tz), .ref o7, .int (nI at9), .int (nI va9), .int (nI ss), .ref o8, .ref o9, .int (bI im), .ref o10, .ref o11, .ref o12, .ref o13, .ref o14, .ref o15])), (o5, aI cs 21 (tx_nf td))]) (ww := [(o9, aI cs 7 (tx_nf rf))]) hP
  generalize hAe : va_A [(o9, aI cs 7 (tx_nf rf))] s.heap.size = A at hD hR ⊢
  have hA : ∀ q : Nat, s.heap.size ≤ q → A q := fun q h => by rw [← hAe]; exact Or.inr h
  have hS : va_S A s.heap s.heap [] := va_S.rf
  have hN : adN [o, o5, o9] := hN
  have hl := lv_entry ([.ref o, .int d, .int v]) (n := 4) (Nat.le_of_ble_eq_true rfl)
  rw [lg_entry_eq]
  generalize (lg_sl ([.ref o, .int d, .int v]) ++ List.replicate (4 - (lg_sl ([.ref o, .int d, .int v])).length) Slot.unset).toArray = ls at hl ⊢
  have hl : lv_has ls 4 [(0, .ref o), (1, .int d), (2, .int v)] := hl
  refine lv_aload_n hx hb dX6_stretch_0 rfl (lv_at hl 0 rfl) ?_
  refine lv_iload_n hx hb dX6_stretch_1 rfl (lv_at hl 1 rfl) ?_
  refine cV_i (As := [.int d]) (rest := []) (cr := [(o, .inr (6, [.int (nI n), .ref o1, .ref o2, .ref o3, .ref o4, .int (nI dy), .ref o5, .ref o6, .int (nI ch), .int (nI lw), .int (nI tz), .ref o7, .int (nI at9), .int (nI va9), .int (nI ss), .ref o8, .ref o9, .int (bI im), .ref o10, .ref o11, .ref o12, .ref o13, .ref o14, .ref o15]))]) (cw1 := []) ⟨hx, hb, hml, hown, hts⟩ (c_X6_isDay l D cs _ o o1 o2 o3 o4 o5 o6 o7 o8 o9 o10 o11 o12 o13 o14 o15 n dy ch lw tz at9 va9 ss im d (by first | assumption | omega)) (cwV 1 hts gX6_stretch_X6_isDay rfl rfl rfl (by decide +kernel) ⟨Nat.le_of_ble_eq_true rfl, Nat.le_of_ble_eq_true rfl⟩) hK hP hD hS hA (((hR hS).app hP).sub [0] rfl) (dt_of hN [0] (by decide) rfl) [] rfl 0 rfl rfl rfl hl.1 rfl (Nat.le_of_ble_eq_true rfl) dX6_stretch_2 ⟨Nat.le_of_ble_eq_true rfl, Nat.le_of_ble_eq_true rfl⟩ (fun _ => rfl) (fun _ => rfl) (fun r_1 u9 H locs hw_2 hP hD hS => ?_)
  have hP : va_P D vwCl [(o9, aI cs 7 (tx_nf rf))] H := hP
  have hD : va_D A [(o9, aI cs 7 (tx_nf rf))] := hD
  subst r_1
  refine bb_ne (b := tx_has dy d) (tgt := 14) hx hb rfl dX6_stretch_5 (by decide) (fun c5 => ?_) (fun c5 => ?_)
  · refine lv_iload_n hx hb dX6_stretch_14 rfl (lv_at hl 2 rfl) ?_
    refine lv_iconst (v := 0) hx hb dX6_stretch_15 (by decide) ?_
    refine lv_iconst (v := 1) hx hb dX6_stretch_16 (by decide) ?_
    refine cS_i (As := [.int v, .int 0, .int 1]) (rest := []) (cr := []) (cw1 := []) ⟨hx, hb, hml, hown, hts⟩ (c_X6_within l D cs _ v 0 1 ) (va_cwS 3 hts gX6_stretch_X6_within rfl rfl rfl (by decide +kernel) ⟨Nat.le_of_ble_eq_true rfl, Nat.le_of_ble_eq_true rfl⟩) hK hP hD hS hA (((hR hS).app hP).sub [] rfl) (dt_of hN [] (by decide) rfl) [] rfl rfl hl.1 rfl (Nat.le_of_ble_eq_true rfl) dX6_stretch_17 ⟨Nat.le_of_ble_eq_true rfl, Nat.le_of_ble_eq_true rfl⟩ (fun _ => rfl) (fun _ => rfl) (fun r_3 u9 H locs hw_4 hP hD hS => ?_)
    have hP : va_P D vwCl [(o9, aI cs 7 (tx_nf rf))] H := hP
    have hD : va_D A [(o9, aI cs 7 (tx_nf rf))] := hD
    subst r_3
    refine tp_i (show bI (decide (0 ≤ v) && decide (v ≤ 1)) = bI (decide (v = 0 ∨ v = 1)) from congrArg bI tx_01) ?_
    refine bd_ne (P := v = 0 ∨ v = 1) (tgt := 30) hx hb rfl dX6_stretch_20 (by decide) (fun c20 => ?_) (fun c20 => ?_)
    · obtain ⟨j, hj, rfl⟩ := tx_has_t (by omega) c5
      have hij : tx_ix (nI j) = j := tx_ix_n (by omega)
      refine lv_iload_n hx hb dX6_stretch_30 rfl (lv_at hl 2 rfl) ?_
      refine lv_iconst (v := 1) hx hb dX6_stretch_31 (by decide) ?_
      refine lv_icmp_ne (tgt := 41) hx hb dX6_stretch_32 (by decide) (fun c32 => ?_) (fun c32 => ?_)
      · refine lv_iload_n hx hb dX6_stretch_41 rfl (lv_at hl 1 rfl) ?_
        refine lv_istore_n (lv' := [(3, .int (nI j)), (0, .ref o), (1, .int (nI j)), (2, .int v)]) hx hb dX6_stretch_42 rfl hl (by decide) rfl (fun ls hl => ?_)
        have loop43 : ∀ (n9 : Nat) (k : Nat) (hk1 : j ≤ k) (hk2 : k < dy) (hk3 : ∀ e, j ≤ e → e ≤ k → td e = td j), dy - k < n9 → ∀ (H : Heap) (locs : List Loc), va_P D vwCl [(o9, aI cs 7 (tx_nf rf))] H → va_D A [(o9, aI cs 7 (tx_nf rf))] → va_S A s.heap H locs → ∀ (ls : Array Slot), lv_has ls 4 [(0, .ref o), (3, .int (nI k))] → W p l e (headSpec wsX6_stretch ({ frames := 2, cells := 0, slots := 0, locals := 43 } : Room)).room s m ([.ref o, .int (nI j), .int v] : List Value).toArray below meth c H locs 0 0 (MQ below (va_Qi (fun (r : Int32) (u : Unit) => r = tx_ai (tx_q_stretch dy (nI j) v) (nI (tx_a_stretch td dy (nI j) v))) (QB D (fun _ => [(o9, aI cs 7 (tx_nf (tx_rf rf (tx_q_stretch dy (nI j) v))))]) A) A) ([.ref o, .int (nI j), .int v] : List Value).toArray s 0 0 A) (F0 m 43 ls []) := by
          intro n9
          induction n9 with
          | zero => intros; omega
          | succ n9 ih43 =>
            intro k hk1 hk2 hk3 hmu H locs hP hD hS ls hl
            refine lv_aload_n hx hb dX6_stretch_43 rfl (lv_at hl 0 rfl) ?_
            refine lv_iload_n hx hb dX6_stretch_44 rfl (lv_at hl 1 rfl) ?_
            refine cV_i (As := [.int (nI k)]) (rest := []) (cr := [(o, .inr (6, [.int (nI n), .ref o1, .ref o2, .ref o3, .ref o4, .int (nI dy), .ref o5, .ref o6, .int (nI ch), .int (nI lw), .int (nI tz), .ref o7, .int (nI at9), .int (nI va9), .int (nI ss), .ref o8, .ref o9, .int (bI im), .ref o10, .ref o11, .ref o12, .ref o13, .ref o14, .ref o15])), (o5, aI cs 21 (tx_nf td))]) (cw1 := []) ⟨hx, hb, hml, hown, hts⟩ (c_X6_isLast l D cs _ o o1 o2 o3 o4 o5 o6 o7 o8 o9 o10 o11 o12 o13 o14 o15 n dy ch lw tz at9 va9 ss im td k (by first | assumption | omega) (by first | assumption | omega) (by first | assumption | omega)) (cwV 1 hts gX6_stretch_X6_isLast rfl rfl rfl (by decide +kernel) ⟨Nat.le_of_ble_eq_true rfl, Nat.le_of_ble_eq_true rfl⟩) hK hP hD hS hA (((hR hS).app hP).sub [0, 1] rfl) (dt_of hN [0, 1] (by decide) rfl) [] rfl 0 rfl rfl rfl hl.1 rfl (Nat.le_of_ble_eq_true rfl) dX6_stretch_45 ⟨Nat.le_of_ble_eq_true rfl, Nat.le_of_ble_eq_true rfl⟩ (fun _ => rfl) (fun _ => rfl) (fun r_5 u9 H locs hw_6 hP hD hS => ?_)
            have hP : va_P D vwCl [(o9, aI cs 7 (tx_nf rf))] H := hP
            have hD : va_D A [(o9, aI cs 7 (tx_nf rf))] := hD
            subst r_5
            refine bd_ne (P := k + 1 = dy ∨ td (k + 1) ≠ td k) (tgt := 57) hx hb rfl dX6_stretch_48 (by decide) (fun c48 => ?_) (fun c48 => ?_)
            · refine lv_aload_n hx hb dX6_stretch_57 rfl (lv_at hl 0 rfl) ?_
              refine lv_iload_n hx hb dX6_stretch_58 rfl (lv_at hl 1 rfl) ?_
              refine cV_i (As := [.int (nI k)]) (rest := []) (cr := [(o, .inr (6, [.int (nI n), .ref o1, .ref o2, .ref o3, .ref o4, .int (nI dy), .ref o5, .ref o6, .int (nI ch), .int (nI lw), .int (nI tz), .ref o7, .int (nI at9), .int (nI va9), .int (nI ss), .ref o8, .ref o9, .int (bI im), .ref o10, .ref o11, .ref o12, .ref o13, .ref o14, .ref o15])), (o5, aI cs 21 (tx_nf td))]) (cw1 := []) ⟨hx, hb, hml, hown, hts⟩ (c_X6_which l D cs _ o o1 o2 o3 o4 o5 o6 o7 o8 o9 o10 o11 o12 o13 o14 o15 n dy ch lw tz at9 va9 ss im td k (by first | assumption | omega) (by first | assumption | omega)) (cwV 1 hts gX6_stretch_X6_which rfl rfl rfl (by decide +kernel) ⟨Nat.le_of_ble_eq_true rfl, Nat.le_of_ble_eq_true rfl⟩) hK hP hD hS hA (((hR hS).app hP).sub [0, 1] rfl) (dt_of hN [0, 1] (by decide) rfl) [] rfl 0 rfl rfl rfl hl.1 rfl (Nat.le_of_ble_eq_true rfl) dX6_stretch_59 ⟨Nat.le_of_ble_eq_true rfl, Nat.le_of_ble_eq_true rfl⟩ (fun _ => rfl) (fun _ => rfl) (fun r_7 u9 H locs hw_8 hP hD hS => ?_)
              have hP : va_P D vwCl [(o9, aI cs 7 (tx_nf rf))] H := hP
              have hD : va_D A [(o9, aI cs 7 (tx_nf rf))] := hD
              subst r_7
              have hQ : tx_q_stretch dy (nI j) v = 0 := by unfold tx_q_stretch; rw [if_pos c5, if_pos c20]
              have e9 : tx_rf rf (tx_q_stretch dy (nI j) v) = rf := by rw [hQ] <;> rfl
              have hP : va_P D vwCl [(o9, aI cs 7 (tx_nf (tx_rf rf (tx_q_stretch dy (nI j) v))))] H := by rw [e9]; (try simp only [hQ]); exact hP
              have hD : va_D A [(o9, aI cs 7 (tx_nf (tx_rf rf (tx_q_stretch dy (nI j) v))))] := by rw [e9]; (try simp only [hQ]); exact hD
              exact rt_i hx hb hr hlocks () (by rw [hQ] <;> (unfold tx_a_stretch; rw [if_neg c32, hij, tx_fw_of td dy 20 j k hk1 (by omega) hk3 hk2 (by rcases c48 with q | q; (left; omega); (right; rw [← hk3 k hk1 (Nat.le_refl _)]; exact q)), ← tx_fw_of td dy 20 j k hk1 (by omega) hk3 hk2 (by rcases c48 with q | q; (left; omega); (right; rw [← hk3 k hk1 (Nat.le_refl _)]; exact q)), tx_fw_pl] <;> rfl)) hP hD hS dX6_stretch_62
            · refine lv_iinc (v := nI (k + 1)) (lv' := [(3, .int (nI (k + 1))), (0, .ref o)]) hx hb dX6_stretch_51 hl (k := 1) rfl (inc_n k 1) (by decide) rfl (fun ls hl => ?_)
              refine lv_goto (tgt := 43) hx hb dX6_stretch_54 (by decide) ?_
              exact ih43 (k + 1) (by first | assumption | omega) (by have h5 : ¬ (k + 1 = dy) := fun q => c48 (Or.inl q); omega) (fun e h1 h2 => by by_cases q : e = k + 1; (rw [q]; have h5 : td (k + 1) = td k := Decidable.byContradiction fun z => c48 (Or.inr z); rw [h5]; exact hk3 k hk1 (Nat.le_refl _)); (exact hk3 e h1 (by omega))) (by omega) _ _ hP hD hS ls (lv_sub hl [1, 0] rfl)
        exact loop43 _ j (by first | assumption | omega) (by first | assumption | omega) (fun e h1 h2 => by rw [show e = j by omega]) (Nat.lt_succ_self _) _ _ hP hD hS ls (lv_sub hl [1, 0] rfl)
      · refine lv_aload_n hx hb dX6_stretch_35 rfl (lv_at hl 0 rfl) ?_
        refine lv_iload_n hx hb dX6_stretch_36 rfl (lv_at hl 1 rfl) ?_
        refine cV_i (As := [.int (nI j)]) (rest := []) (cr := [(o, .inr (6, [.int (nI n), .ref o1, .ref o2, .ref o3, .ref o4, .int (nI dy), .ref o5, .ref o6, .int (nI ch), .int (nI lw), .int (nI tz), .ref o7, .int (nI at9), .int (nI va9), .int (nI ss), .ref o8, .ref o9, .int (bI im), .ref o10, .ref o11, .ref o12, .ref o13, .ref o14, .ref o15])), (o5, aI cs 21 (tx_nf td))]) (cw1 := []) ⟨hx, hb, hml, hown, hts⟩ (c_X6_which l D cs _ o o1 o2 o3 o4 o5 o6 o7 o8 o9 o10 o11 o12 o13 o14 o15 n dy ch lw tz at9 va9 ss im td j (by first | assumption | omega) (by first | assumption | omega)) (cwV 1 hts gX6_stretch_X6_which rfl rfl rfl (by decide +kernel) ⟨Nat.le_of_ble_eq_true rfl, Nat.le_of_ble_eq_true rfl⟩) hK hP hD hS hA (((hR hS).app hP).sub [0, 1] rfl) (dt_of hN [0, 1] (by decide) rfl) [] rfl 0 rfl rfl rfl hl.1 rfl (Nat.le_of_ble_eq_true rfl) dX6_stretch_37 ⟨Nat.le_of_ble_eq_true rfl, Nat.le_of_ble_eq_true rfl⟩ (fun _ => rfl) (fun _ => rfl) (fun r_9 u9 H locs hw_10 hP hD hS => ?_)
        have hP : va_P D vwCl [(o9, aI cs 7 (tx_nf rf))] H := hP
        have hD : va_D A [(o9, aI cs 7 (tx_nf rf))] := hD
        subst r_9
        have hQ : tx_q_stretch dy (nI j) v = 0 := by unfold tx_q_stretch; rw [if_pos c5, if_pos c20]
        have e9 : tx_rf rf (tx_q_stretch dy (nI j) v) = rf := by rw [hQ] <;> rfl
        have hP : va_P D vwCl [(o9, aI cs 7 (tx_nf (tx_rf rf (tx_q_stretch dy (nI j) v))))] H := by rw [e9]; (try simp only [hQ]); exact hP
        have hD : va_D A [(o9, aI cs 7 (tx_nf (tx_rf rf (tx_q_stretch dy (nI j) v))))] := by rw [e9]; (try simp only [hQ]); exact hD
        exact rt_i hx hb hr hlocks () (by rw [hQ] <;> (unfold tx_a_stretch; rw [if_pos c32, hij] <;> rfl)) hP hD hS dX6_stretch_40
    · refine lv_aload_n hx hb dX6_stretch_23 rfl (lv_at hl 0 rfl) ?_
      refine lv_bipush (v := (-2)) hx hb dX6_stretch_24 (by decide) ?_
      refine cV_i (As := [.int (-2)]) (rest := []) (cr := [(o, .inr (6, [.int (nI n), .ref o1, .ref o2, .ref o3, .ref o4, .int (nI dy), .ref o5, .ref o6, .int (nI ch), .int (nI lw), .int (nI tz), .ref o7, .int (nI at9), .int (nI va9), .int (nI ss), .ref o8, .ref o9, .int (bI im), .ref o10, .ref o11, .ref o12, .ref o13, .ref o14, .ref o15]))]) (cw1 := [(o9, aI cs 7 (tx_nf rf))]) ⟨hx, hb, hml, hown, hts⟩ (c_X6_no l D cs _ o o1 o2 o3 o4 o5 o6 o7 o8 o9 o10 o11 o12 o13 o14 o15 n dy ch lw tz at9 va9 ss im rf (-2) 2 (by decide) (by decide) (by decide)) (cwV 1 hts gX6_stretch_X6_no rfl rfl rfl (by decide +kernel) ⟨Nat.le_of_ble_eq_true rfl, Nat.le_of_ble_eq_true rfl⟩) hK hP hD hS hA (((hR hS).app hP).sub [0, 2] rfl) (dt_of hN [0, 2] (by decide) rfl) [0] rfl 0 rfl rfl rfl hl.1 rfl (Nat.le_of_ble_eq_true rfl) dX6_stretch_26 ⟨Nat.le_of_ble_eq_true rfl, Nat.le_of_ble_eq_true rfl⟩ (fun _ => rfl) (fun _ => rfl) (fun r_11 u9 H locs hw_12 hP hD hS => ?_)
      have hP : va_P D vwCl [(o9, aI cs 7 (tx_nf (tx_rf rf 2)))] H := hP
      have hD : va_D A [(o9, aI cs 7 (tx_nf (tx_rf rf 2)))] := hD
      subst r_11
      have hQ : tx_q_stretch dy d v = 2 := by simp [tx_q_stretch, c5, c20]
      have e9 : tx_rf rf (tx_q_stretch dy d v) = tx_rf rf 2 := by rw [hQ] <;> rfl
      have hP : va_P D vwCl [(o9, aI cs 7 (tx_nf (tx_rf rf (tx_q_stretch dy d v))))] H := by rw [e9]; (try simp only [hQ]); exact hP
      have hD : va_D A [(o9, aI cs 7 (tx_nf (tx_rf rf (tx_q_stretch dy d v))))] := by rw [e9]; (try simp only [hQ]); exact hD
      exact rt_i hx hb hr hlocks () (by rw [hQ] <;> (first | done | rfl)) hP hD hS dX6_stretch_29
  · refine lv_aload_n hx hb dX6_stretch_8 rfl (lv_at hl 0 rfl) ?_
    refine lv_iconst (v := (-1)) hx hb dX6_stretch_9 (by decide) ?_
    refine cV_i (As := [.int (-1)]) (rest := []) (cr := [(o, .inr (6, [.int (nI n), .ref o1, .ref o2, .ref o3, .ref o4, .int (nI dy), .ref o5, .ref o6, .int (nI ch), .int (nI lw), .int (nI tz), .ref o7, .int (nI at9), .int (nI va9), .int (nI ss), .ref o8, .ref o9, .int (bI im), .ref o10, .ref o11, .ref o12, .ref o13, .ref o14, .ref o15]))]) (cw1 := [(o9, aI cs 7 (tx_nf rf))]) ⟨hx, hb, hml, hown, hts⟩ (c_X6_no l D cs _ o o1 o2 o3 o4 o5 o6 o7 o8 o9 o10 o11 o12 o13 o14 o15 n dy ch lw tz at9 va9 ss im rf (-1) 1 (by decide) (by decide) (by decide)) (cwV 1 hts gX6_stretch_X6_no rfl rfl rfl (by decide +kernel) ⟨Nat.le_of_ble_eq_true rfl, Nat.le_of_ble_eq_true rfl⟩) hK hP hD hS hA (((hR hS).app hP).sub [0, 2] rfl) (dt_of hN [0, 2] (by decide) rfl) [0] rfl 0 rfl rfl rfl hl.1 rfl (Nat.le_of_ble_eq_true rfl) dX6_stretch_10 ⟨Nat.le_of_ble_eq_true rfl, Nat.le_of_ble_eq_true rfl⟩ (fun _ => rfl) (fun _ => rfl) (fun r_13 u9 H locs hw_14 hP hD hS => ?_)
    have hP : va_P D vwCl [(o9, aI cs 7 (tx_nf (tx_rf rf 1)))] H := hP
    have hD : va_D A [(o9, aI cs 7 (tx_nf (tx_rf rf 1)))] := hD
    subst r_13
    have hQ : tx_q_stretch dy d v = 1 := by simp [tx_q_stretch, c5]
    have e9 : tx_rf rf (tx_q_stretch dy d v) = tx_rf rf 1 := by rw [hQ] <;> rfl
    have hP : va_P D vwCl [(o9, aI cs 7 (tx_nf (tx_rf rf (tx_q_stretch dy d v))))] H := by rw [e9]; (try simp only [hQ]); exact hP
    have hD : va_D A [(o9, aI cs 7 (tx_nf (tx_rf rf (tx_q_stretch dy d v))))] := by rw [e9]; (try simp only [hQ]); exact hD
    exact rt_i hx hb hr hlocks () (by rw [hQ] <;> (first | done | rfl)) hP hD hS dX6_stretch_13
