set_option maxHeartbeats 4000000 in
set_option maxRecDepth 100000 in
theorem c_X2_begin (l : Launch) (D : va_G) (cs : Nat → ClassId) (sz : Nat) (h : Nat) (k0 : Nat) (k1 : Nat) (k2 : Nat) (k3 : Nat) (k4 : Nat) (k5 : Nat) (n : Nat) (dy : Nat) (ch : Nat) (lw : Nat) (kd : Nat → Nat) (wo : Nat → Nat) (ha : Nat → Nat) (we : Nat → Nat) (pl : Nat) (g1 : Nat) (g2 : Nat) (g3 : Nat) (yr : Nat) (bl : Int) (bm : Int) (ra : Nat → Nat) (M1 : Nat → Nat → Int32) (hn : n ≤ 4) (hdy : dy ≤ 20) (hkd : ∀ e, kd e ≤ 5) (hz1 : ∀ t, M1 t 0 = 0) : mV (S := Nat → Nat → Int32) l yX2_begin wsX2_begin ({ frames := 2, cells := 0, slots := 0, locals := 47 } : Room) D (tyc cs) sz [.ref pl, .ref h] [(h, .inr (4, [.ref k0, .ref k1, .ref k2, .ref k3, .ref k4, .ref k5, .int (nI n), .int (nI dy), .int (nI ch), .int (nI lw)])), (k0, aI cs 4 (tx_nf kd)), (k1, aI cs 4 (tx_nf wo)), (k2, aI cs 4 (tx_nf ha)), (k3, aI cs 4 (tx_nf we)), (pl, .inr (2, [.ref g1, .ref g2, .ref g3, .ref yr, .int (iI bl), .int (iI bm)])), (g1, aG cs ra)] [(ra 0, aI cs 21 (M1 0)), (ra 1, aI cs 21 (M1 1)), (ra 2, aI cs 21 (M1 2)), (ra 3, aI cs 21 (M1 3))] (fun (u : Nat → Nat → Int32) => match u with | M2 => (∀ t, t < n → ∀ m, m ≤ dy → M2 t m = iI (tx_sm kd wo ha we t m)) ∧ ∀ t, M2 t 0 = 0) (fun (u : Nat → Nat → Int32) => match u with | M2 => [(ra 0, aI cs 21 (M2 0)), (ra 1, aI cs 21 (M2 1)), (ra 2, aI cs 21 (M2 2)), (ra 3, aI cs 21 (M2 3))]) 0 0 := by
  unfold mV
  refine Met.ofW (cc := cX2_begin) (maxL := 4) (ret := none) (by decide) rfl ?_
  intro p e s m args below meth c s₁ B hml hv
  obtain ⟨rfl, hsz, hP, hK, hD0⟩ := hv
  have hx := B.exec
  have hb := B.bytes
  have hr := B.returns
  have hts := atoms_spec (ws := wsX2_begin) B.pre
  have hown : s.vm.findClass RX2 = some m.cls := findClass_of_methodNamed B.named
  have hlocks := B.notSynchronized
  subst hsz
  have hR := @en_R _ _ _ [(h, .inr (4, [.ref k0, .ref k1, .ref k2, .ref k3, .ref k4, .ref k5, .int (nI n), .int (nI dy), .int (nI ch), .int (nI lw)])), (k0, aI cs 4 (tx_nf kd)), (k1, aI cs 4 (tx_nf wo)), (k2, aI cs 4 (tx_nf ha)), (k3, aI cs 4 (tx_nf we)), (pl, .inr (2, [.ref g1, .ref g2, .ref g3, .ref yr, .int (iI bl), .int (iI bm)])), (g1, aG cs ra)] [(ra 0, aI cs 21 (M1 0)), (ra 1, aI cs 21 (M1 1)), (ra 2, aI cs 21 (M1 2)), (ra 3, aI cs 21 (M1 3))] _ hP hD0
  have hN := adN_of hD0
  have hD := en_D (wr := [(h, .inr (4, [.ref k0, .ref k1, .ref k2, .ref k3, .ref k4, .ref k5, .int (nI n), .int (nI dy), .int (nI ch), .int (nI lw)])), (k0, aI cs 4 (tx_nf kd)), (k1, aI cs 4 (tx_nf wo)), (k2, aI cs 4 (tx_nf ha)), (k3, aI cs 4 (tx_nf we)), (pl, .inr (2, [.ref g1, .ref g2, .ref g3, .ref yr, .int (iI bl), .int (iI bm)])), (g1, aG cs ra)]) (ww := [(ra 0, aI cs 21 (M1 0)), (ra 1, aI cs 21 (M1 1)), (ra 2, aI cs 21 (M1 2)), (ra 3, aI cs 21 (M1 3))]) (sz := s.heap.size) hD0
  have hP := en_P (wr := [(h, .inr (4, [.ref k0, .ref k1, .ref k2, .ref k3, .ref k4, .ref k5, .int (nI n), .int (nI dy), .int (nI ch), .int (nI lw)])), (k0, aI cs 4 (tx_nf kd)), (k1, aI cs 4 (tx_nf wo)), (k2, aI cs 4 (tx_nf ha)), (k3, aI cs 4 (tx_nf we)), (pl, .inr (2, [.ref g1, .ref g2, .ref g3, .ref yr, .int (iI bl), .int (iI bm)])), (g1, aG cs ra)]) (ww := [(ra 0, aI cs 21 (M1 0)), (ra 1, aI cs 21 (M1 1)), (ra 2, aI cs 21 (M1 2)), (ra 3, aI cs 21 (M1 3))]) hP
  generalize hAe : va_A [(ra 0, aI cs 21 (M1 0)), (ra 1, aI cs 21 (M1 1)), (ra 2, aI cs 21 (M1 2)), (ra 3, aI cs 21 (M1 3))] s.heap.size = A at hD hR ⊢
  have hA : ∀ q : Nat, s.heap.size ≤ q → A q := fun q h => by rw [← hAe]; exact Or.inr h
  have hS : va_S A s.heap s.heap [] := va_S.rf
  have hN : adN [h, k0, k1, k2, k3, pl, g1, ra 0, ra 1, ra 2, ra 3] := hN
  have hf_11 := hts (.fieldLink RX2 11 "TaxedByLongest$Plan" "sums" "[[I") (by decide +kernel)
  have hf_33 := hts (.fieldLink RX2 33 "TaxedByLongest$Told" "things" "I") (by decide +kernel)
  have hf_38 := hts (.fieldLink RX2 38 "TaxedByLongest$Told" "days" "I") (by decide +kernel)
  have in_X2 : ∀ w ∈ wsX20, w ∈ wsX2_begin := by decide +kernel
  have in_X4 : ∀ w ∈ wsX40, w ∈ wsX2_begin := by decide +kernel
  have hl := lv_entry ([.ref pl, .ref h]) (n := 4) (Nat.le_of_ble_eq_true rfl)
  rw [lg_entry_eq]
  generalize (lg_sl ([.ref pl, .ref h]) ++ List.replicate (4 - (lg_sl ([.ref pl, .ref h])).length) Slot.unset).toArray = ls at hl ⊢
  have hl : lv_has ls 4 [(0, .ref pl), (1, .ref h)] := hl
  refine lv_iconst (v := 0) hx hb dX2_begin_0 (by decide) ?_
  refine lv_istore_n (lv' := [(2, .int 0), (0, .ref pl), (1, .ref h)]) hx hb dX2_begin_1 rfl hl (by decide) rfl (fun ls hl => ?_)
  have loop2 : ∀ (n9 : Nat) (i : Nat) (M3 : Nat → Nat → Int32) (hi : i ≤ n) (hq : ∀ t, t < i → ∀ m, m ≤ dy → M3 t m = iI (tx_sm kd wo ha we t m)) (hz : ∀ t, M3 t 0 = 0), n - i < n9 → ∀ (H : Heap) (locs : List Loc), va_P D vwCl [(ra 0, aI cs 21 (M3 0)), (ra 1, aI cs 21 (M3 1)), (ra 2, aI cs 21 (M3 2)), (ra 3, aI cs 21 (M3 3))] H → va_D A [(ra 0, aI cs 21 (M3 0)), (ra 1, aI cs 21 (M3 1)), (ra 2, aI cs 21 (M3 2)), (ra 3, aI cs 21 (M3 3))] → va_S A s.heap H locs → ∀ (ls : Array Slot), lv_has ls 4 [(0, .ref pl), (1, .ref h), (2, .int (nI i))] → W p l e (headSpec wsX2_begin ({ frames := 2, cells := 0, slots := 0, locals := 47 } : Room)).room s m ([.ref pl, .ref h] : List Value).toArray below meth c H locs 0 0 (MQ below (va_Qv (fun (u : Nat → Nat → Int32) => match u with | M2 => (∀ t, t < n → ∀ m, m ≤ dy → M2 t m = iI (tx_sm kd wo ha we t m)) ∧ ∀ t, M2 t 0 = 0) (QB D (fun (u : Nat → Nat → Int32) => match u with | M2 => [(ra 0, aI cs 21 (M2 0)), (ra 1, aI cs 21 (M2 1)), (ra 2, aI cs 21 (M2 2)), (ra 3, aI cs 21 (M2 3))]) A) A) ([.ref pl, .ref h] : List Value).toArray s 0 0 A) (F0 m 2 ls []) := by
    intro n9
    induction n9 with
    | zero => intros; omega
    | succ n9 ih2 =>
      intro i M3 hi hq hz hmu H locs hP hD hS ls hl
      refine lv_iload_n hx hb dX2_begin_2 rfl (lv_at hl 2 rfl) ?_
      refine lv_aload_n hx hb dX2_begin_3 rfl (lv_at hl 1 rfl) ?_
      refine va_get (D := D) (ci := 4) (v := .int (nI n)) (C := RX4) (T := TX4) (N := 10) hx hb hts in_X4 hown hK (hR hS) 0 rfl rfl 6 (by decide) hf_33 (fun _ h9 => h9) rfl dX2_begin_4 ?_
      refine bn_ge (a := i) (b := n) (tgt := 57) hx hb rfl rfl (by omega) (by omega) dX2_begin_7 (by decide) (fun c7 => ?_) (fun c7 => ?_)
      · exact rt_v hx hb hr hlocks (M3) (⟨fun t ht m9 h9 => hq t (by omega) m9 h9, hz⟩) hP hD hS dX2_begin_57
      · refine lv_iconst (v := 1) hx hb dX2_begin_10 (by decide) ?_
        refine lv_istore_n (lv' := [(3, .int 1), (0, .ref pl), (1, .ref h), (2, .int (nI i))]) hx hb dX2_begin_11 rfl hl (by decide) rfl (fun ls hl => ?_)
        have loop12 : ∀ (n9 : Nat) (m0 : Nat) (M4 : Nat → Nat → Int32) (hm1 : 1 ≤ m0) (hm2 : m0 ≤ dy + 1) (hq : ∀ t, t < i → ∀ m, m ≤ dy → M4 t m = iI (tx_sm kd wo ha we t m)) (hz : ∀ t, M4 t 0 = 0) (hr9 : ∀ q, q < m0 → M4 i q = iI (tx_sm kd wo ha we i q)), dy + 1 - m0 < n9 → ∀ (H : Heap) (locs : List Loc), va_P D vwCl [(ra 0, aI cs 21 (M4 0)), (ra 1, aI cs 21 (M4 1)), (ra 2, aI cs 21 (M4 2)), (ra 3, aI cs 21 (M4 3))] H → va_D A [(ra 0, aI cs 21 (M4 0)), (ra 1, aI cs 21 (M4 1)), (ra 2, aI cs 21 (M4 2)), (ra 3, aI cs 21 (M4 3))] → va_S A s.heap H locs → ∀ (ls : Array Slot), lv_has ls 4 [(0, .ref pl), (1, .ref h), (2, .int (nI i)), (3, .int (nI m0))] → W p l e (headSpec wsX2_begin ({ frames := 2, cells := 0, slots := 0, locals := 47 } : Room)).room s m ([.ref pl, .ref h] : List Value).toArray below meth c H locs 0 0 (MQ below (va_Qv (fun (u : Nat → Nat → Int32) => match u with | M2 => (∀ t, t < n → ∀ m, m ≤ dy → M2 t m = iI (tx_sm kd wo ha we t m)) ∧ ∀ t, M2 t 0 = 0) (QB D (fun (u : Nat → Nat → Int32) => match u with | M2 => [(ra 0, aI cs 21 (M2 0)), (ra 1, aI cs 21 (M2 1)), (ra 2, aI cs 21 (M2 2)), (ra 3, aI cs 21 (M2 3))]) A) A) ([.ref pl, .ref h] : List Value).toArray s 0 0 A) (F0 m 12 ls []) := by
          intro n9
          induction n9 with
          | zero => intros; omega
          | succ n9 ih12 =>
            intro m0 M4 hm1 hm2 hq hz hr9 hmu H locs hP hD hS ls hl
            refine lv_iload_n hx hb dX2_begin_12 rfl (lv_at hl 3 rfl) ?_
            refine lv_aload_n hx hb dX2_begin_13 rfl (lv_at hl 1 rfl) ?_
            refine va_get (D := D) (ci := 4) (v := .int (nI dy)) (C := RX4) (T := TX4) (N := 10) hx hb hts in_X4 hown hK (hR hS) 0 rfl rfl 7 (by decide) hf_38 (fun _ h9 => h9) rfl dX2_begin_14 ?_
            refine bn_gt (a := m0) (b := dy) (tgt := 51) hx hb rfl rfl (by omega) (by omega) dX2_begin_17 (by decide) (fun c17 => ?_) (fun c17 => ?_)
            · refine lv_iinc (v := nI (i + 1)) (lv' := [(2, .int (nI (i + 1))), (0, .ref pl), (1, .ref h), (3, .int (nI m0))]) hx hb dX2_begin_51 hl (k := 2) rfl (inc_n i 1) (by decide) rfl (fun ls hl => ?_)
              refine lv_goto (tgt := 2) hx hb dX2_begin_54 (by decide) ?_
              exact ih2 (i + 1) M4 (by first | assumption | omega) (fun t ht m9 h9 => by by_cases e : t = i; (rw [e]; exact hr9 m9 (by omega)); (exact hq t (by omega) m9 h9)) hz (by omega) _ _ hP hD hS ls (lv_sub hl [1, 2, 0] rfl)
            · refine lv_aload_n hx hb dX2_begin_20 rfl (lv_at hl 0 rfl) ?_
              refine va_get (D := D) (ci := 2) (v := .ref g1) (C := RX2) (T := TX2) (N := 6) hx hb hts in_X2 hown hK (hR hS) 5 rfl rfl 0 (by decide) hf_11 (fun _ h9 => h9) rfl dX2_begin_21 ?_
              refine lv_iload_n hx hb dX2_begin_24 rfl (lv_at hl 2 rfl) ?_
              refine gr_ald (ra := ra) hx hb hK (hR hS) 6 3 rfl rfl (j := i) rfl (by omega) dX2_begin_25 ?_
              refine lv_iload_n hx hb dX2_begin_26 rfl (lv_at hl 3 rfl) ?_
              refine lv_aload_n hx hb dX2_begin_27 rfl (lv_at hl 0 rfl) ?_
              refine va_get (D := D) (ci := 2) (v := .ref g1) (C := RX2) (T := TX2) (N := 6) hx hb hts in_X2 hown hK (hR hS) 5 rfl rfl 0 (by decide) hf_11 (fun _ h9 => h9) rfl dX2_begin_28 ?_
              refine lv_iload_n hx hb dX2_begin_31 rfl (lv_at hl 2 rfl) ?_
              refine gr_ald (ra := ra) hx hb hK (hR hS) 6 3 rfl rfl (j := i) rfl (by omega) dX2_begin_32 ?_
              refine lv_iload_n hx hb dX2_begin_33 rfl (lv_at hl 3 rfl) ?_
              refine lv_iconst (v := 1) hx hb dX2_begin_34 (by decide) ?_
              refine lv_isub hx hb dX2_begin_35 ?_
              refine tp_i (pk_sub (a := m0) (b := 1) (by omega)) ?_
              refine ia_n (f := M4 i) hx hb hK hP (0 + i) 0 (row4 (w := [(ra 0, aI cs 21 (M4 0)), (ra 1, aI cs 21 (M4 1)), (ra 2, aI cs 21 (M4 2)), (ra 3, aI cs 21 (M4 3))]) (q := 0) (ra := ra) (g := fun i => aI cs 21 (M4 i)) rfl rfl rfl rfl (by omega)) rfl (j := m0 - 1) rfl (by omega) (by decide) dX2_begin_36 ?_
              refine tp_i (show M4 i (m0 - 1) = iI (tx_sm kd wo ha we i (m0 - 1)) from hr9 (m0 - 1) (by omega)) ?_
              refine lv_aload_n hx hb dX2_begin_37 rfl (lv_at hl 1 rfl) ?_
              refine lv_iload_n hx hb dX2_begin_38 rfl (lv_at hl 2 rfl) ?_
              refine lv_iload_n hx hb dX2_begin_39 rfl (lv_at hl 3 rfl) ?_
              refine cV_i (As := [.int (nI i), .int (nI m0)]) (rest := [.int (iI (tx_sm kd wo ha we i (m0 - 1))), .int (nI m0), .ref (ra i)]) (cr := [(h, .inr (4, [.ref k0, .ref k1, .ref k2, .ref k3, .ref k4, .ref k5, .int (nI n), .int (nI dy), .int (nI ch), .int (nI lw)])), (k0, aI cs 4 (tx_nf kd)), (k1, aI cs 4 (tx_nf wo)), (k2, aI cs 4 (tx_nf ha)), (k3, aI cs 4 (tx_nf we))]) (cw1 := []) ⟨hx, hb, hml, hown, hts⟩ (c_X4_valueOf l D cs _ h k0 k1 k2 k3 k4 k5 n dy ch lw kd wo ha we i m0 (by first | assumption | omega) (by first | assumption | omega) (by first | assumption | omega) (by first | assumption | omega)) (cwV 2 hts gX2_begin_X4_valueOf rfl rfl rfl (by decide +kernel) ⟨Nat.le_of_ble_eq_true rfl, Nat.le_of_ble_eq_true rfl⟩) hK hP hD hS hA (((hR hS).app hP).sub [0, 1, 2, 3, 4] rfl) (dt_of hN [0, 1, 2, 3, 4] (by decide) rfl) [] rfl 0 rfl rfl rfl hl.1 rfl (Nat.le_of_ble_eq_true rfl) dX2_begin_40 ⟨Nat.le_of_ble_eq_true rfl, Nat.le_of_ble_eq_true rfl⟩ (fun _ => rfl) (fun _ => rfl) (fun r_1 u9 H locs hw_2 hP hD hS => ?_)
              have hP : va_P D vwCl [(ra 0, aI cs 21 (M4 0)), (ra 1, aI cs 21 (M4 1)), (ra 2, aI cs 21 (M4 2)), (ra 3, aI cs 21 (M4 3))] H := hP
              have hD : va_D A [(ra 0, aI cs 21 (M4 0)), (ra 1, aI cs 21 (M4 1)), (ra 2, aI cs 21 (M4 2)), (ra 3, aI cs 21 (M4 3))] := hD
              subst r_1
              refine lv_iadd hx hb dX2_begin_43 ?_
              refine tp_i (add_iI (a := tx_sm kd wo ha we i (m0 - 1)) (b := tx_vn n kd wo ha we i m0) rfl rfl) ?_
              refine is_n (f := M4 i) hx hb hK hP hD hS (0 + i) 0 (row4 (w := [(ra 0, aI cs 21 (M4 0)), (ra 1, aI cs 21 (M4 1)), (ra 2, aI cs 21 (M4 2)), (ra 3, aI cs 21 (M4 3))]) (q := 0) (ra := ra) (g := fun i => aI cs 21 (M4 i)) rfl rfl rfl rfl (by omega)) rfl (j := m0) rfl (by omega) (by decide) dX2_begin_44 (fun H locs hP hD hS => ?_)
              have e9 : ([(ra 0, aI cs 21 (M4 0)), (ra 1, aI cs 21 (M4 1)), (ra 2, aI cs 21 (M4 2)), (ra 3, aI cs 21 (M4 3))] : va_W).set (0 + i) (ra i, aI cs 21 (upd (M4 i) m0 (iI ((tx_sm kd wo ha we i (m0 - 1)) + (tx_vn n kd wo ha we i m0))))) = [(ra 0, aI cs 21 ((updM M4 i m0 (iI ((tx_sm kd wo ha we i (m0 - 1)) + (tx_vn n kd wo ha we i m0)))) 0)), (ra 1, aI cs 21 ((updM M4 i m0 (iI ((tx_sm kd wo ha we i (m0 - 1)) + (tx_vn n kd wo ha we i m0)))) 1)), (ra 2, aI cs 21 ((updM M4 i m0 (iI ((tx_sm kd wo ha we i (m0 - 1)) + (tx_vn n kd wo ha we i m0)))) 2)), (ra 3, aI cs 21 ((updM M4 i m0 (iI ((tx_sm kd wo ha we i (m0 - 1)) + (tx_vn n kd wo ha we i m0)))) 3))] := set4 (fun r9 => ([(ra 0, aI cs 21 (M4 0)), (ra 1, aI cs 21 (M4 1)), (ra 2, aI cs 21 (M4 2)), (ra 3, aI cs 21 (M4 3))] : va_W).set (0 + r9) (ra r9, aI cs 21 (upd (M4 r9) m0 (iI ((tx_sm kd wo ha we i (m0 - 1)) + (tx_vn n kd wo ha we i m0))))) = [(ra 0, aI cs 21 ((updM M4 r9 m0 (iI ((tx_sm kd wo ha we i (m0 - 1)) + (tx_vn n kd wo ha we i m0)))) 0)), (ra 1, aI cs 21 ((updM M4 r9 m0 (iI ((tx_sm kd wo ha we i (m0 - 1)) + (tx_vn n kd wo ha we i m0)))) 1)), (ra 2, aI cs 21 ((updM M4 r9 m0 (iI ((tx_sm kd wo ha we i (m0 - 1)) + (tx_vn n kd wo ha we i m0)))) 2)), (ra 3, aI cs 21 ((updM M4 r9 m0 (iI ((tx_sm kd wo ha we i (m0 - 1)) + (tx_vn n kd wo ha we i m0)))) 3))]) rfl rfl rfl rfl (by omega)
              rw [e9] at hP hD
              refine lv_iinc (v := nI (m0 + 1)) (lv' := [(3, .int (nI (m0 + 1))), (0, .ref pl), (1, .ref h), (2, .int (nI i))]) hx hb dX2_begin_45 hl (k := 3) rfl (inc_n m0 1) (by decide) rfl (fun ls hl => ?_)
              refine lv_goto (tgt := 12) hx hb dX2_begin_48 (by decide) ?_
              exact ih12 (m0 + 1) (updM M4 i m0 (iI ((tx_sm kd wo ha we i (m0 - 1)) + (tx_vn n kd wo ha we i m0)))) (by first | assumption | omega) (by first | assumption | omega) (fun t ht m9 h9 => by rw [updM_t (by omega)]; exact hq t ht m9 h9) (fun t => by rw [updM_j (by omega)]; exact hz t) (fun q h9 => by by_cases e : q = m0; (rw [e, updM_s]; exact tx_sm_1 hm1 (by omega)); (rw [updM_j e]; exact hr9 q (by omega))) (by omega) _ _ hP hD hS ls (lv_sub hl [1, 2, 3, 0] rfl)
        exact loop12 _ 1 M3 (by first | assumption | omega) (by first | assumption | omega) hq hz (fun q h9 => by rw [show q = 0 by omega, hz]; rfl) (Nat.lt_succ_self _) _ _ hP hD hS ls (lv_sub hl [1, 2, 3, 0] rfl)
  exact loop2 _ 0 M1 (by first | assumption | omega) (fun t ht => absurd ht (Nat.not_lt_zero t)) hz1 (Nat.lt_succ_self _) _ _ hP hD hS ls (lv_sub hl [1, 2, 0] rfl)
set_option maxHeartbeats 4000000 in
set_option maxRecDepth 100000 in
theorem c_X2_lastEnd (l : Launch) (D : va_G) (cs : Nat → ClassId) (sz : Nat) (h : Nat) (k0 : Nat) (k1 : Nat) (k2 : Nat) (k3 : Nat) (k4 : Nat) (k5 : Nat) (n : Nat) (dy : Nat) (ch : Nat) (lw : Nat) (kd : Nat → Nat) (bo : Nat → Option Nat) (pl : Nat) (g1 : Nat) (g2 : Nat) (g3 : Nat) (yr : Nat) (bl : Int) (bm : Int) (t : Nat) (d : Nat) (lm : Nat) (hn : n ≤ 4) (hdy : dy ≤ 20) (hbo : tx_okb bo) (hkd : ∀ e, kd e ≤ 5) (ht : t < 4) (hd : d < dy) (hl9 : lm ≤ 20) : mI (S := Nat) l yX2_lastEnd wsX2_lastEnd ({ frames := 2, cells := 0, slots := 0, locals := 42 } : Room) D (tyc cs) sz [.ref pl, .ref h, .int (nI t), .int (nI d), .int (nI lm)] [(h, .inr (4, [.ref k0, .ref k1, .ref k2, .ref k3, .ref k4, .ref k5, .int (nI n), .int (nI dy), .int (nI ch), .int (nI lw)])), (k0, aI cs 4 (tx_nf kd)), (k5, aI cs 20 (tx_bf bo)), (pl, .inr (2, [.ref g1, .ref g2, .ref g3, .ref yr, .int (iI bl), .int (iI bm)]))] [] (fun (r : Int32) (u : Nat) => match u with | u => r = nI u ∧ tx_isE n dy kd bo lm d t u) (fun (u : Nat) => match u with | u => []) 0 0 := by
  unfold mI
  refine Met.ofW (cc := cX2_lastEnd) (maxL := 7) (ret := (some .int)) (by decide) rfl ?_
  intro p e s m args below meth c s₁ B hml hv
  obtain ⟨rfl, hsz, hP, hK, hD0⟩ := hv
  have hx := B.exec
  have hb := B.bytes
  have hr := B.returns
  have hts := atoms_spec (ws := wsX2_lastEnd) B.pre
  have hown : s.vm.findClass RX2 = some m.cls := findClass_of_methodNamed B.named
  have hlocks := B.notSynchronized
  subst hsz
  have hR := @en_R _ _ _ [(h, .inr (4, [.ref k0, .ref k1, .ref k2, .ref k3, .ref k4, .ref k5, .int (nI n), .int (nI dy), .int (nI ch), .int (nI lw)])), (k0, aI cs 4 (tx_nf kd)), (k5, aI cs 20 (tx_bf bo)), (pl, .inr (2, [.ref g1, .ref g2, .ref g3, .ref yr, .int (iI bl), .int (iI bm)]))] [] _ hP hD0
  have hN := adN_of hD0
  have hD := en_D (wr := [(h, .inr (4, [.ref k0, .ref k1, .ref k2, .ref k3, .ref k4, .ref k5, .int (nI n), .int (nI dy), .int (nI ch), .int (nI lw)])), (k0, aI cs 4 (tx_nf kd)), (k5, aI cs 20 (tx_bf bo)), (pl, .inr (2, [.ref g1, .ref g2, .ref g3, .ref yr, .int (iI bl), .int (iI bm)]))]) (ww := []) (sz := s.heap.size) hD0
  have hP := en_P (wr := [(h, .inr (4, [.ref k0, .ref k1, .ref k2, .ref k3, .ref k4, .ref k5, .int (nI n), .int (nI dy), .int (nI ch), .int (nI lw)])), (k0, aI cs 4 (tx_nf kd)), (k5, aI cs 20 (tx_bf bo)), (pl, .inr (2, [.ref g1, .ref g2, .ref g3, .ref yr, .int (iI bl), .int (iI bm)]))]) (ww := []) hP
  generalize hAe : va_A [] s.heap.size = A at hD hR ⊢
  have hA : ∀ q : Nat, s.heap.size ≤ q → A q := fun q h => by rw [← hAe]; exact Or.inr h
  have hS : va_S A s.heap s.heap [] := va_S.rf
  have hN : adN [h, k0, k5, pl] := hN
  have hf_38 := hts (.fieldLink RX2 38 "TaxedByLongest$Told" "days" "I") (by decide +kernel)
  have in_X4 : ∀ w ∈ wsX40, w ∈ wsX2_lastEnd := by decide +kernel
  have hl := lv_entry ([.ref pl, .ref h, .int (nI t), .int (nI d), .int (nI lm)]) (n := 7) (Nat.le_of_ble_eq_true rfl)
  rw [lg_entry_eq]
  generalize (lg_sl ([.ref pl, .ref h, .int (nI t), .int (nI d), .int (nI lm)]) ++ List.replicate (7 - (lg_sl ([.ref pl, .ref h, .int (nI t), .int (nI d), .int (nI lm)])).length) Slot.unset).toArray = ls at hl ⊢
  have hl : lv_has ls 7 [(0, .ref pl), (1, .ref h), (2, .int (nI t)), (3, .int (nI d)), (4, .int (nI lm))] := hl
  refine lv_aload_n hx hb dX2_lastEnd_0 rfl (lv_at hl 1 rfl) ?_
  refine lv_iload_n hx hb dX2_lastEnd_1 rfl (lv_at hl 2 rfl) ?_
  refine cV_i (As := [.int (nI t)]) (rest := []) (cr := [(h, .inr (4, [.ref k0, .ref k1, .ref k2, .ref k3, .ref k4, .ref k5, .int (nI n), .int (nI dy), .int (nI ch), .int (nI lw)])), (k0, aI cs 4 (tx_nf kd))]) (cw1 := []) ⟨hx, hb, hml, hown, hts⟩ (c_X4_isTaxed l D cs _ h k0 k1 k2 k3 k4 k5 n dy ch lw kd t (by first | assumption | omega) (by first | assumption | omega) (by first | assumption | omega)) (cwV 1 hts gX2_lastEnd_X4_isTaxed rfl rfl rfl (by decide +kernel) ⟨Nat.le_of_ble_eq_true rfl, Nat.le_of_ble_eq_true rfl⟩) hK hP hD hS hA (((hR hS).app hP).sub [0, 1] rfl) (dt_of hN [0, 1] (by decide) rfl) [] rfl 0 rfl rfl rfl hl.1 rfl (Nat.le_of_ble_eq_true rfl) dX2_lastEnd_2 ⟨Nat.le_of_ble_eq_true rfl, Nat.le_of_ble_eq_true rfl⟩ (fun _ => rfl) (fun _ => rfl) (fun r_1 u9 H locs hw_2 hP hD hS => ?_)
  have hP : va_P D vwCl [] H := hP
  have hD : va_D A [] := hD
  subst r_1
  refine bb_eq (b := tx_tx n kd t) (tgt := 22) hx hb rfl dX2_lastEnd_5 (by decide) (fun c5 => ?_) (fun c5 => ?_)
  · refine lv_aload_n hx hb dX2_lastEnd_22 rfl (lv_at hl 1 rfl) ?_
    refine va_get (D := D) (ci := 4) (v := .int (nI dy)) (C := RX4) (T := TX4) (N := 10) hx hb hts in_X4 hown hK (hR hS) 0 rfl rfl 7 (by decide) hf_38 (fun _ h9 => h9) rfl dX2_lastEnd_23 ?_
    refine lv_istore (lv' := [(5, .int (nI dy)), (0, .ref pl), (1, .ref h), (2, .int (nI t)), (3, .int (nI d)), (4, .int (nI lm))]) hx hb dX2_lastEnd_26 hl (by decide) rfl (fun ls hl => ?_)
    refine lv_iload_n hx hb dX2_lastEnd_28 rfl (lv_at hl 4 rfl) ?_
    refine lv_istore (lv' := [(6, .int (nI d)), (5, .int (nI dy)), (0, .ref pl), (1, .ref h), (2, .int (nI t)), (3, .int (nI d)), (4, .int (nI lm))]) hx hb dX2_lastEnd_29 hl (by decide) rfl (fun ls hl => ?_)
    have loop31 : ∀ (n9 : Nat) (en : Nat) (br : Nat) (h1 : d ≤ en) (h2 : en ≤ dy) (h3 : br ≤ dy) (hbr : ∀ e, e < br ↔ (e < dy ∧ ¬ (tx_tx n kd t = true ∧ d + lm ≤ e))) (hal : ∀ e, d ≤ e → e < en → e < dy ∧ tx_be bo e t = false ∧ ¬ (tx_tx n kd t = true ∧ d + lm ≤ e)), dy - en < n9 → ∀ (H : Heap) (locs : List Loc), va_P D vwCl [] H → va_D A [] → va_S A s.heap H locs → ∀ (ls : Array Slot), lv_has ls 7 [(0, .ref pl), (1, .ref h), (2, .int (nI t)), (3, .int (nI d)), (4, .int (nI lm)), (5, .int (nI br)), (6, .int (nI en))] → W p l e (headSpec wsX2_lastEnd ({ frames := 2, cells := 0, slots := 0, locals := 42 } : Room)).room s m ([.ref pl, .ref h, .int (nI t), .int (nI d), .int (nI lm)] : List Value).toArray below meth c H locs 0 0 (MQ below (va_Qi (fun (r : Int32) (u : Nat) => match u with | u => r = nI u ∧ tx_isE n dy kd bo lm d t u) (QB D (fun (u : Nat) => match u with | u => []) A) A) ([.ref pl, .ref h, .int (nI t), .int (nI d), .int (nI lm)] : List Value).toArray s 0 0 A) (F0 m 31 ls []) := by
      intro n9
      induction n9 with
      | zero => intros; omega
      | succ n9 ih31 =>
        intro en br h1 h2 h3 hbr hal hmu H locs hP hD hS ls hl
        refine lv_iload hx hb dX2_lastEnd_31 (lv_at hl 6 rfl) ?_
        refine lv_iload hx hb dX2_lastEnd_33 (lv_at hl 5 rfl) ?_
        refine bn_ge (a := en) (b := br) (tgt := 54) hx hb rfl rfl (by omega) (by omega) dX2_lastEnd_35 (by decide) (fun c35 => ?_) (fun c35 => ?_)
        · refine lv_iload hx hb dX2_lastEnd_54 (lv_at hl 6 rfl) ?_
          exact rt_i hx hb hr hlocks en (⟨rfl, h1, h2, fun e z1 z2 => by by_cases q : e = en; (rw [q]; exact ⟨fun z => by exfalso; omega, fun z => absurd ((hbr en).mpr ⟨z.1, z.2.2⟩) (by omega)⟩); (exact ⟨fun _ => hal e z1 (by omega), fun _ => by omega⟩)⟩) hP hD hS dX2_lastEnd_56
        · refine lv_aload_n hx hb dX2_lastEnd_38 rfl (lv_at hl 1 rfl) ?_
          refine lv_iload hx hb dX2_lastEnd_39 (lv_at hl 6 rfl) ?_
          refine lv_iload_n hx hb dX2_lastEnd_41 rfl (lv_at hl 2 rfl) ?_
          refine cV_i (As := [.int (nI en), .int (nI t)]) (rest := []) (cr := [(h, .inr (4, [.ref k0, .ref k1, .ref k2, .ref k3, .ref k4, .ref k5, .int (nI n), .int (nI dy), .int (nI ch), .int (nI lw)])), (k5, aI cs 20 (tx_bf bo))]) (cw1 := []) ⟨hx, hb, hml, hown, hts⟩ (c_X4_isBoundElse l D cs _ h k0 k1 k2 k3 k4 k5 n dy ch lw bo en t (by first | assumption | omega) (by first | assumption | omega) (by first | assumption | omega)) (cwV 2 hts gX2_lastEnd_X4_isBoundElse rfl rfl rfl (by decide +kernel) ⟨Nat.le_of_ble_eq_true rfl, Nat.le_of_ble_eq_true rfl⟩) hK hP hD hS hA (((hR hS).app hP).sub [0, 2] rfl) (dt_of hN [0, 2] (by decide) rfl) [] rfl 0 rfl rfl rfl hl.1 rfl (Nat.le_of_ble_eq_true rfl) dX2_lastEnd_42 ⟨Nat.le_of_ble_eq_true rfl, Nat.le_of_ble_eq_true rfl⟩ (fun _ => rfl) (fun _ => rfl) (fun r_3 u9 H locs hw_4 hP hD hS => ?_)
          have hP : va_P D vwCl [] H := hP
          have hD : va_D A [] := hD
          subst r_3
          refine bb_ne (b := tx_be bo en t) (tgt := 54) hx hb rfl dX2_lastEnd_45 (by decide) (fun c45 => ?_) (fun c45 => ?_)
          · refine lv_iload hx hb dX2_lastEnd_54 (lv_at hl 6 rfl) ?_
            exact rt_i hx hb hr hlocks en (⟨rfl, h1, h2, fun e z1 z2 => by by_cases q : e = en; (rw [q]; exact ⟨fun z => by exfalso; omega, fun z => absurd z.2.1 (by rw [c45]; decide)⟩); (exact ⟨fun _ => hal e z1 (by omega), fun _ => by omega⟩)⟩) hP hD hS dX2_lastEnd_56
          · refine lv_iinc (v := nI (en + 1)) (lv' := [(6, .int (nI (en + 1))), (0, .ref pl), (1, .ref h), (2, .int (nI t)), (3, .int (nI d)), (4, .int (nI lm)), (5, .int (nI br))]) hx hb dX2_lastEnd_48 hl (k := 6) rfl (inc_n en 1) (by decide) rfl (fun ls hl => ?_)
            refine lv_goto (tgt := 31) hx hb dX2_lastEnd_51 (by decide) ?_
            exact ih31 (en + 1) br (by first | assumption | omega) (by first | assumption | omega) (by first | assumption | omega) (by first | assumption | omega) (fun e z1 z2 => by by_cases q : e = en; (rw [q]; exact ⟨((hbr en).mp (by omega)).1, c45, ((hbr en).mp (by omega)).2⟩); (exact hal e z1 (by omega))) (by omega) _ _ hP hD hS ls (lv_sub hl [1, 2, 3, 4, 5, 6, 0] rfl)
    exact loop31 _ d dy (by first | assumption | omega) (by first | assumption | omega) (by first | assumption | omega) (fun e => by rw [c5]; constructor; (intro z; exact ⟨z, fun y => absurd y.1 (by decide)⟩); (intro z; exact z.1)) (fun e z1 z2 => absurd z1 (by omega)) (Nat.lt_succ_self _) _ _ hP hD hS ls (lv_sub hl [2, 3, 4, 5, 6, 1, 0] rfl)
  · refine lv_aload_n hx hb dX2_lastEnd_8 rfl (lv_at hl 1 rfl) ?_
    refine va_get (D := D) (ci := 4) (v := .int (nI dy)) (C := RX4) (T := TX4) (N := 10) hx hb hts in_X4 hown hK (hR hS) 0 rfl rfl 7 (by decide) hf_38 (fun _ h9 => h9) rfl dX2_lastEnd_9 ?_
    refine lv_iload_n hx hb dX2_lastEnd_12 rfl (lv_at hl 3 rfl) ?_
    refine lv_iload hx hb dX2_lastEnd_13 (lv_at hl 4 rfl) ?_
    refine lv_iadd hx hb dX2_lastEnd_15 ?_
    refine tp_i (nI_add d lm) ?_
    refine va_mmin hx hb (hml.trans hl.1.symm) hown (hts (.methodLink RX2 65 Lib.Math.min.name) (by decide +kernel)) (hts (.static Lib.Math.min.name) (by decide +kernel)) (hts (.initialized "java/lang/Math") (by decide +kernel)) (hts (.code Lib.Math.min.name Lib.Math.min.code 2 (some .int)) (by decide +kernel)) (Nat.le_of_ble_eq_true rfl) (Nat.le_of_ble_eq_true rfl) (Nat.le_of_ble_eq_true rfl) (Nat.le_of_ble_eq_true rfl) dX2_lastEnd_16 ?_
    refine tp_i (min_n (a := dy) (b := d + lm) rfl rfl (by omega) (by omega)) ?_
    refine lv_goto (tgt := 26) hx hb dX2_lastEnd_19 (by decide) ?_
    refine lv_istore (lv' := [(5, .int (nI (min dy (d + lm)))), (0, .ref pl), (1, .ref h), (2, .int (nI t)), (3, .int (nI d)), (4, .int (nI lm))]) hx hb dX2_lastEnd_26 hl (by decide) rfl (fun ls hl => ?_)
    refine lv_iload_n hx hb dX2_lastEnd_28 rfl (lv_at hl 4 rfl) ?_
    refine lv_istore (lv' := [(6, .int (nI d)), (5, .int (nI (min dy (d + lm)))), (0, .ref pl), (1, .ref h), (2, .int (nI t)), (3, .int (nI d)), (4, .int (nI lm))]) hx hb dX2_lastEnd_29 hl (by decide) rfl (fun ls hl => ?_)
    have loop31 : ∀ (n9 : Nat) (en : Nat) (br : Nat) (h1 : d ≤ en) (h2 : en ≤ dy) (h3 : br ≤ dy) (hbr : ∀ e, e < br ↔ (e < dy ∧ ¬ (tx_tx n kd t = true ∧ d + lm ≤ e))) (hal : ∀ e, d ≤ e → e < en → e < dy ∧ tx_be bo e t = false ∧ ¬ (tx_tx n kd t = true ∧ d + lm ≤ e)), dy - en < n9 → ∀ (H : Heap) (locs : List Loc), va_P D vwCl [] H → va_D A [] → va_S A s.heap H locs → ∀ (ls : Array Slot), lv_has ls 7 [(0, .ref pl), (1, .ref h), (2, .int (nI t)), (3, .int (nI d)), (4, .int (nI lm)), (5, .int (nI br)), (6, .int (nI en))] → W p l e (headSpec wsX2_lastEnd ({ frames := 2, cells := 0, slots := 0, locals := 42 } : Room)).room s m ([.ref pl, .ref h, .int (nI t), .int (nI d), .int (nI lm)] : List Value).toArray below meth c H locs 0 0 (MQ below (va_Qi (fun (r : Int32) (u : Nat) => match u with | u => r = nI u ∧ tx_isE n dy kd bo lm d t u) (QB D (fun (u : Nat) => match u with | u => []) A) A) ([.ref pl, .ref h, .int (nI t), .int (nI d), .int (nI lm)] : List Value).toArray s 0 0 A) (F0 m 31 ls []) := by
      intro n9
      induction n9 with
      | zero => intros; omega
      | succ n9 ih31 =>
        intro en br h1 h2 h3 hbr hal hmu H locs hP hD hS ls hl
        refine lv_iload hx hb dX2_lastEnd_31 (lv_at hl 6 rfl) ?_
        refine lv_iload hx hb dX2_lastEnd_33 (lv_at hl 5 rfl) ?_
        refine bn_ge (a := en) (b := br) (tgt := 54) hx hb rfl rfl (by omega) (by omega) dX2_lastEnd_35 (by decide) (fun c35 => ?_) (fun c35 => ?_)
        · refine lv_iload hx hb dX2_lastEnd_54 (lv_at hl 6 rfl) ?_
          exact rt_i hx hb hr hlocks en (⟨rfl, h1, h2, fun e z1 z2 => by by_cases q : e = en; (rw [q]; exact ⟨fun z => by exfalso; omega, fun z => absurd ((hbr en).mpr ⟨z.1, z.2.2⟩) (by omega)⟩); (exact ⟨fun _ => hal e z1 (by omega), fun _ => by omega⟩)⟩) hP hD hS dX2_lastEnd_56
        · refine lv_aload_n hx hb dX2_lastEnd_38 rfl (lv_at hl 1 rfl) ?_
          refine lv_iload hx hb dX2_lastEnd_39 (lv_at hl 6 rfl) ?_
          refine lv_iload_n hx hb dX2_lastEnd_41 rfl (lv_at hl 2 rfl) ?_
          refine cV_i (As := [.int (nI en), .int (nI t)]) (rest := []) (cr := [(h, .inr (4, [.ref k0, .ref k1, .ref k2, .ref k3, .ref k4, .ref k5, .int (nI n), .int (nI dy), .int (nI ch), .int (nI lw)])), (k5, aI cs 20 (tx_bf bo))]) (cw1 := []) ⟨hx, hb, hml, hown, hts⟩ (c_X4_isBoundElse l D cs _ h k0 k1 k2 k3 k4 k5 n dy ch lw bo en t (by first | assumption | omega) (by first | assumption | omega) (by first | assumption | omega)) (cwV 2 hts gX2_lastEnd_X4_isBoundElse rfl rfl rfl (by decide +kernel) ⟨Nat.le_of_ble_eq_true rfl, Nat.le_of_ble_eq_true rfl⟩) hK hP hD hS hA (((hR hS).app hP).sub [0, 2] rfl) (dt_of hN [0, 2] (by decide) rfl) [] rfl 0 rfl rfl rfl hl.1 rfl (Nat.le_of_ble_eq_true rfl) dX2_lastEnd_42 ⟨Nat.le_of_ble_eq_true rfl, Nat.le_of_ble_eq_true rfl⟩ (fun _ => rfl) (fun _ => rfl) (fun r_5 u9 H locs hw_6 hP hD hS => ?_)
          have hP : va_P D vwCl [] H := hP
          have hD : va_D A [] := hD
          subst r_5
          refine bb_ne (b := tx_be bo en t) (tgt := 54) hx hb rfl dX2_lastEnd_45 (by decide) (fun c45 => ?_) (fun c45 => ?_)
          · refine lv_iload hx hb dX2_lastEnd_54 (lv_at hl 6 rfl) ?_
            exact rt_i hx hb hr hlocks en (⟨rfl, h1, h2, fun e z1 z2 => by by_cases q : e = en; (rw [q]; exact ⟨fun z => by exfalso; omega, fun z => absurd z.2.1 (by rw [c45]; decide)⟩); (exact ⟨fun _ => hal e z1 (by omega), fun _ => by omega⟩)⟩) hP hD hS dX2_lastEnd_56
          · refine lv_iinc (v := nI (en + 1)) (lv' := [(6, .int (nI (en + 1))), (0, .ref pl), (1, .ref h), (2, .int (nI t)), (3, .int (nI d)), (4, .int (nI lm)), (5, .int (nI br))]) hx hb dX2_lastEnd_48 hl (k := 6) rfl (inc_n en 1) (by decide) rfl (fun ls hl => ?_)
            refine lv_goto (tgt := 31) hx hb dX2_lastEnd_51 (by decide) ?_
            exact ih31 (en + 1) br (by first | assumption | omega) (by first | assumption | omega) (by first | assumption | omega) (by first | assumption | omega) (fun e z1 z2 => by by_cases q : e = en; (rw [q]; exact ⟨((hbr en).mp (by omega)).1, c45, ((hbr en).mp (by omega)).2⟩); (exact hal e z1 (by omega))) (by omega) _ _ hP hD hS ls (lv_sub hl [1, 2, 3, 4, 5, 6, 0] rfl)
    exact loop31 _ d (min dy (d + lm)) (by first | assumption | omega) (by first | assumption | omega) (by first | assumption | omega) (fun e => by constructor; (intro z; exact ⟨by omega, fun y => by have := y.2; omega⟩); (intro z; have z2 : ¬ (d + lm ≤ e) := fun y => z.2 ⟨c5, y⟩; have z3 := z.1; omega)) (fun e z1 z2 => absurd z1 (by omega)) (Nat.lt_succ_self _) _ _ hP hD hS ls (lv_sub hl [2, 3, 4, 5, 6, 1, 0] rfl)
set_option maxHeartbeats 4000000 in
set_option maxRecDepth 100000 in
theorem c_X2_mostOfStretch (l : Launch) (D : va_G) (cs : Nat → ClassId) (sz : Nat) (h : Nat) (k0 : Nat) (k1 : Nat) (k2 : Nat) (k3 : Nat) (k4 : Nat) (k5 : Nat) (n : Nat) (dy : Nat) (ch : Nat) (lw : Nat) (kd : Nat → Nat) (wo : Nat → Nat) (ha : Nat → Nat) (we : Nat → Nat) (bo : Nat → Option Nat) (pl : Nat) (g1 : Nat) (g2 : Nat) (g3 : Nat) (yr : Nat) (bl : Int) (bm : Int) (ra : Nat → Nat) (rc : Nat → Nat) (M1 : Nat → Nat → Int32) (M3 : Nat → Nat → Int32) (t : Nat) (d : Nat) (lm : Nat) (hn : n ≤ 4) (hdy : dy ≤ 20) (hbo : tx_okb bo) (hkd : ∀ e, kd e ≤ 5) (hwo : ∀ e, wo e ≤ 9) (hha : ∀ e, ha e ≤ 3) (hwe : ∀ e, we e ≤ 3) (hch : ch ≤ 9) (ht : t < n) (hd : d < dy) (hl9 : lm ≤ 20) (hM1 : ∀ t, t < n → ∀ m, m ≤ dy → M1 t m = iI (tx_sm kd wo ha we t m)) (hM3 : ∀ e, d < e → e ≤ dy → M3 t e = iI (tx_R n dy ch kd wo ha we bo lm e t)) : mI (S := Unit) l yX2_mostOfStretch wsX2_mostOfStretch ({ frames := 3, cells := 0, slots := 0, locals := 68 } : Room) D (tyc cs) sz [.ref pl, .ref h, .int (nI t), .int (nI d), .int (nI lm)] [(h, .inr (4, [.ref k0, .ref k1, .ref k2, .ref k3, .ref k4, .ref k5, .int (nI n), .int (nI dy), .int (nI ch), .int (nI lw)])), (k0, aI cs 4 (tx_nf kd)), (k1, aI cs 4 (tx_nf wo)), (k2, aI cs 4 (tx_nf ha)), (k3, aI cs 4 (tx_nf we)), (k5, aI cs 20 (tx_bf bo)), (pl, .inr (2, [.ref g1, .ref g2, .ref g3, .ref yr, .int (iI bl), .int (iI bm)])), (g1, aG cs ra), (ra 0, aI cs 21 (M1 0)), (ra 1, aI cs 21 (M1 1)), (ra 2, aI cs 21 (M1 2)), (ra 3, aI cs 21 (M1 3)), (g3, aG cs rc), (rc 0, aI cs 21 (M3 0)), (rc 1, aI cs 21 (M3 1)), (rc 2, aI cs 21 (M3 2)), (rc 3, aI cs 21 (M3 3))] [] (fun (r : Int32) (u : Unit) => r = iI (tx_S n dy ch kd wo ha we bo lm d t)) (fun _ => []) 0 0 := by
  unfold mI
  refine Met.ofW (cc := cX2_mostOfStretch) (maxL := 8) (ret := (some .int)) (by decide) rfl ?_
  intro p e s m args below meth c s₁ B hml hv
  obtain ⟨rfl, hsz, hP, hK, hD0⟩ := hv
  have hx := B.exec
  have hb := B.bytes
  have hr := B.returns
  have hts := atoms_spec (ws := wsX2_mostOfStretch) B.pre
  have hown : s.vm.findClass RX2 = some m.cls := findClass_of_methodNamed B.named
  have hlocks := B.notSynchronized
  subst hsz
  have hR := @en_R _ _ _ [(h, .inr (4, [.ref k0, .ref k1, .ref k2, .ref k3, .ref k4, .ref k5, .int (nI n), .int (nI dy), .int (nI ch), .int (nI lw)])), (k0, aI cs 4 (tx_nf kd)), (k1, aI cs 4 (tx_nf wo)), (k2, aI cs 4 (tx_nf ha)), (k3, aI cs 4 (tx_nf we)), (k5, aI cs 20 (tx_bf bo)), (pl, .inr (2, [.ref g1, .ref g2, .ref g3, .ref yr, .int (iI bl), .int (iI bm)])), (g1, aG cs ra), (ra 0, aI cs 21 (M1 0)), (ra 1, aI cs 21 (M1 1)), (ra 2, aI cs 21 (M1 2)), (ra 3, aI cs 21 (M1 3)), (g3, aG cs rc), (rc 0, aI cs 21 (M3 0)), (rc 1, aI cs 21 (M3 1)), (rc 2, aI cs 21 (M3 2)), (rc 3, aI cs 21 (M3 3))] [] _ hP hD0
  have hN := adN_of hD0
  have hD := en_D (wr := [(h, .inr (4, [.ref k0, .ref k1, .ref k2, .ref k3, .ref k4, .ref k5, .int (nI n), .int (nI dy), .int (nI ch), .int (nI lw)])), (k0, aI cs 4 (tx_nf kd)), (k1, aI cs 4 (tx_nf wo)), (k2, aI cs 4 (tx_nf ha)), (k3, aI cs 4 (tx_nf we)), (k5, aI cs 20 (tx_bf bo)), (pl, .inr (2, [.ref g1, .ref g2, .ref g3, .ref yr, .int (iI bl), .int (iI bm)])), (g1, aG cs ra), (ra 0, aI cs 21 (M1 0)), (ra 1, aI cs 21 (M1 1)), (ra 2, aI cs 21 (M1 2)), (ra 3, aI cs 21 (M1 3)), (g3, aG cs rc), (rc 0, aI cs 21 (M3 0)), (rc 1, aI cs 21 (M3 1)), (rc 2, aI cs 21 (M3 2)), (rc 3, aI cs 21 (M3 3))]) (ww := []) (sz := s.heap.size) hD0
  have hP := en_P (wr := [(h, .inr (4, [.ref k0, .ref k1, .ref k2, .ref k3, .ref k4, .ref k5, .int (nI n), .int (nI dy), .int (nI ch), .int (nI lw)])), (k0, aI cs 4 (tx_nf kd)), (k1, aI cs 4 (tx_nf wo)), (k2, aI cs 4 (tx_nf ha)), (k3, aI cs 4 (tx_nf we)), (k5, aI cs 20 (tx_bf bo)), (pl, .inr (2, [.ref g1, .ref g2, .ref g3, .ref yr, .int (iI bl), .int (iI bm)])), (g1, aG cs ra), (ra 0, aI cs 21 (M1 0)), (ra 1, aI cs 21 (M1 1)), (ra 2, aI cs 21 (M1 2)), (ra 3, aI cs 21 (M1 3)), (g3, aG cs rc), (rc 0, aI cs 21 (M3 0)), (rc 1, aI cs 21 (M3 1)), (rc 2, aI cs 21 (M3 2)), (rc 3, aI cs 21 (M3 3))]) (ww := []) hP
  generalize hAe : va_A [] s.heap.size = A at hD hR ⊢
  have hA : ∀ q : Nat, s.heap.size ≤ q → A q := fun q h => by rw [← hAe]; exact Or.inr h
  have hS : va_S A s.heap s.heap [] := va_S.rf
  have hN : adN [h, k0, k1, k2, k3, k5, pl, g1, ra 0, ra 1, ra 2, ra 3, g3, rc 0, rc 1, rc 2, rc 3] := hN
  have hf_11 := hts (.fieldLink RX2 11 "TaxedByLongest$Plan" "sums" "[[I") (by decide +kernel)
  have hf_19 := hts (.fieldLink RX2 19 "TaxedByLongest$Plan" "rests" "[[I") (by decide +kernel)
  have in_X2 : ∀ w ∈ wsX20, w ∈ wsX2_mostOfStretch := by decide +kernel
  have hl := lv_entry ([.ref pl, .ref h, .int (nI t), .int (nI d), .int (nI lm)]) (n := 8) (Nat.le_of_ble_eq_true rfl)
  rw [lg_entry_eq]
  generalize (lg_sl ([.ref pl, .ref h, .int (nI t), .int (nI d), .int (nI lm)]) ++ List.replicate (8 - (lg_sl ([.ref pl, .ref h, .int (nI t), .int (nI d), .int (nI lm)])).length) Slot.unset).toArray = ls at hl ⊢
  have hl : lv_has ls 8 [(0, .ref pl), (1, .ref h), (2, .int (nI t)), (3, .int (nI d)), (4, .int (nI lm))] := hl
  refine lv_aload_n hx hb dX2_mostOfStretch_0 rfl (lv_at hl 0 rfl) ?_
  refine lv_aload_n hx hb dX2_mostOfStretch_1 rfl (lv_at hl 1 rfl) ?_
  refine lv_iload_n hx hb dX2_mostOfStretch_2 rfl (lv_at hl 2 rfl) ?_
  refine lv_iload_n hx hb dX2_mostOfStretch_3 rfl (lv_at hl 3 rfl) ?_
  refine lv_iload hx hb dX2_mostOfStretch_4 (lv_at hl 4 rfl) ?_
  refine cV_i (As := [.ref h, .int (nI t), .int (nI d), .int (nI lm)]) (rest := []) (cr := [(h, .inr (4, [.ref k0, .ref k1, .ref k2, .ref k3, .ref k4, .ref k5, .int (nI n), .int (nI dy), .int (nI ch), .int (nI lw)])), (k0, aI cs 4 (tx_nf kd)), (k5, aI cs 20 (tx_bf bo)), (pl, .inr (2, [.ref g1, .ref g2, .ref g3, .ref yr, .int (iI bl), .int (iI bm)]))]) (cw1 := []) ⟨hx, hb, hml, hown, hts⟩ (c_X2_lastEnd l D cs _ h k0 k1 k2 k3 k4 k5 n dy ch lw kd bo pl g1 g2 g3 yr bl bm t d lm (by first | assumption | omega) (by first | assumption | omega) (by first | assumption | omega) (by first | assumption | omega) (by omega) (by first | assumption | omega) (by first | assumption | omega)) (cwV 4 hts gX2_mostOfStretch_X2_lastEnd rfl rfl rfl (by decide +kernel) ⟨Nat.le_of_ble_eq_true rfl, Nat.le_of_ble_eq_true rfl⟩) hK hP hD hS hA (((hR hS).app hP).sub [0, 1, 5, 6] rfl) (dt_of hN [0, 1, 5, 6] (by decide) rfl) [] rfl 3 rfl rfl rfl hl.1 rfl (Nat.le_of_ble_eq_true rfl) dX2_mostOfStretch_6 ⟨Nat.le_of_ble_eq_true rfl, Nat.le_of_ble_eq_true rfl⟩ (fun _ => rfl) (fun _ => rfl) (fun r_1 u9 H locs hw_2 hP hD hS => ?_)
  obtain ⟨u_3, rfl⟩ : ∃ z, z = u9 := ⟨_, rfl⟩
  have hP : va_P D vwCl [] H := hP
  have hD : va_D A [] := hD
  obtain ⟨hw_2_0, hw_2⟩ := hw_2
  subst r_1
  have hE := hw_2
  have hE1 := hE.1
  have hE2 := hE.2.1
  refine lv_istore (lv' := [(5, .int (nI u_3)), (0, .ref pl), (1, .ref h), (2, .int (nI t)), (3, .int (nI d)), (4, .int (nI lm))]) hx hb dX2_mostOfStretch_9 hl (by decide) rfl (fun ls hl => ?_)
  refine lv_sipush (v := (-999)) hx hb dX2_mostOfStretch_11 (by decide) ?_
  refine lv_istore (lv' := [(6, .int (-999)), (5, .int (nI u_3)), (0, .ref pl), (1, .ref h), (2, .int (nI t)), (3, .int (nI d)), (4, .int (nI lm))]) hx hb dX2_mostOfStretch_14 hl (by decide) rfl (fun ls hl => ?_)
  refine lv_iload_n hx hb dX2_mostOfStretch_16 rfl (lv_at hl 5 rfl) ?_
  refine lv_iconst (v := 1) hx hb dX2_mostOfStretch_17 (by decide) ?_
  refine lv_iadd hx hb dX2_mostOfStretch_18 ?_
  refine tp_i (nI_add d 1) ?_
  refine lv_istore (lv' := [(7, .int (nI (d + 1))), (6, .int (-999)), (5, .int (nI u_3)), (0, .ref pl), (1, .ref h), (2, .int (nI t)), (3, .int (nI d)), (4, .int (nI lm))]) hx hb dX2_mostOfStretch_19 hl (by decide) rfl (fun ls hl => ?_)
  have loop21 : ∀ (n9 : Nat) (nx : Nat) (ac : Int) (h1 : d + 1 ≤ nx) (h2 : nx ≤ u_3 + 1) (hac : max ac (tx_gt n dy ch kd wo ha we bo lm d t u_3 nx) = tx_S n dy ch kd wo ha we bo lm d t) (ha1 : -999 ≤ ac) (ha2 : ac ≤ 1000), u_3 + 1 - nx < n9 → ∀ (H : Heap) (locs : List Loc), va_P D vwCl [] H → va_D A [] → va_S A s.heap H locs → ∀ (ls : Array Slot), lv_has ls 8 [(0, .ref pl), (1, .ref h), (2, .int (nI t)), (3, .int (nI d)), (5, .int (nI u_3)), (6, .int (iI ac)), (7, .int (nI nx))] → W p l e (headSpec wsX2_mostOfStretch ({ frames := 3, cells := 0, slots := 0, locals := 68 } : Room)).room s m ([.ref pl, .ref h, .int (nI t), .int (nI d), .int (nI lm)] : List Value).toArray below meth c H locs 0 0 (MQ below (va_Qi (fun (r : Int32) (u : Unit) => r = iI (tx_S n dy ch kd wo ha we bo lm d t)) (QB D (fun _ => []) A) A) ([.ref pl, .ref h, .int (nI t), .int (nI d), .int (nI lm)] : List Value).toArray s 0 0 A) (F0 m 21 ls []) := by
    intro n9
    induction n9 with
    | zero => intros; omega
    | succ n9 ih21 =>
      intro nx ac h1 h2 hac ha1 ha2 hmu H locs hP hD hS ls hl
      refine lv_iload hx hb dX2_mostOfStretch_21 (lv_at hl 6 rfl) ?_
      refine lv_iload hx hb dX2_mostOfStretch_23 (lv_at hl 4 rfl) ?_
      refine bn_gt (a := nx) (b := u_3) (tgt := 77) hx hb rfl rfl (by omega) (by omega) dX2_mostOfStretch_25 (by decide) (fun c25 => ?_) (fun c25 => ?_)
      · refine lv_iload hx hb dX2_mostOfStretch_77 (lv_at hl 5 rfl) ?_
        exact rt_i hx hb hr hlocks () (by rw [← hac, show tx_gt n dy ch kd wo ha we bo lm d t u_3 nx = -999 from if_neg (by omega)]; congr 1; omega) hP hD hS dX2_mostOfStretch_79
      · have hGs := tx_gt_s (ch := ch) (wo := wo) (ha := ha) (we := we) (l := lm) hwo hha hwe hch hdy ht hE (nx := nx) (by omega) (by omega)
        have hGb := tx_gt_b (n := n) (dy := dy) (ch := ch) (kd := kd) (wo := wo) (ha := ha) (we := we) (bo := bo) (l := lm) (d := d) (t := t) (nx := nx + 1) hwo hha hwe hch hdy hE2
        have hRb := tx_R_b (n := n) (dy := dy) (ch := ch) (kd := kd) (wo := wo) (ha := ha) (we := we) (bo := bo) (l := lm) hwo hha hwe hch hdy nx t
        have hsb := tx_sm_b (kd := kd) (wo := wo) (ha := ha) (we := we) hwo hha hwe t (nx - d)
        refine lv_aload_n hx hb dX2_mostOfStretch_28 rfl (lv_at hl 0 rfl) ?_
        refine va_get (D := D) (ci := 2) (v := .ref g3) (C := RX2) (T := TX2) (N := 6) hx hb hts in_X2 hown hK (hR hS) 6 rfl rfl 2 (by decide) hf_19 (fun _ h9 => h9) rfl dX2_mostOfStretch_29 ?_
        refine lv_iload_n hx hb dX2_mostOfStretch_32 rfl (lv_at hl 2 rfl) ?_
        refine gr_ald (ra := rc) hx hb hK (hR hS) 12 3 rfl rfl (j := t) rfl (by omega) dX2_mostOfStretch_33 ?_
        refine lv_iload hx hb dX2_mostOfStretch_34 (lv_at hl 6 rfl) ?_
        refine ia_n (f := M3 t) hx hb hK (hR hS) (13 + t) 0 (row4 (w := [(h, .inr (4, [.ref k0, .ref k1, .ref k2, .ref k3, .ref k4, .ref k5, .int (nI n), .int (nI dy), .int (nI ch), .int (nI lw)])), (k0, aI cs 4 (tx_nf kd)), (k1, aI cs 4 (tx_nf wo)), (k2, aI cs 4 (tx_nf ha)), (k3, aI cs 4 (tx_nf we)), (k5, aI cs 20 (tx_bf bo)), (pl, .inr (2, [.ref g1, .ref g2, .ref g3, .ref yr, .int (iI bl), .int (iI bm)])), (g1, aG cs ra), (ra 0, aI cs 21 (M1 0)), (ra 1, aI cs 21 (M1 1)), (ra 2, aI cs 21 (M1 2)), (ra 3, aI cs 21 (M1 3)), (g3, aG cs rc), (rc 0, aI cs 21 (M3 0)), (rc 1, aI cs 21 (M3 1)), (rc 2, aI cs 21 (M3 2)), (rc 3, aI cs 21 (M3 3))]) (q := 13) (ra := rc) (g := fun i => aI cs 21 (M3 i)) rfl rfl rfl rfl (by omega)) rfl (j := nx) rfl (by omega) (by decide) dX2_mostOfStretch_36 ?_
        refine tp_i (show M3 t nx = iI (tx_R n dy ch kd wo ha we bo lm nx t) from hM3 nx (by omega) (by omega)) ?_
        refine lv_sipush (v := (-999)) hx hb dX2_mostOfStretch_37 (by decide) ?_
        refine bi_eq (a := tx_R n dy ch kd wo ha we bo lm nx t) (b := (-999)) (tgt := 71) hx hb rfl (by decide) (by omega) (by omega) (by omega) (by omega) dX2_mostOfStretch_40 (by decide) (fun c40 => ?_) (fun c40 => ?_)
        · have hp9 : tx_p (tx_R n dy ch kd wo ha we bo lm nx t) (tx_sm kd wo ha we t (nx - d)) = -999 := by rw [c40]; exact tx_p_n _
          refine lv_iinc (v := nI (nx + 1)) (lv' := [(7, .int (nI (nx + 1))), (0, .ref pl), (1, .ref h), (2, .int (nI t)), (3, .int (nI d)), (5, .int (nI u_3)), (6, .int (iI ac))]) hx hb dX2_mostOfStretch_71 hl (k := 6) rfl (inc_n nx 1) (by decide) rfl (fun ls hl => ?_)
          refine lv_goto (tgt := 21) hx hb dX2_mostOfStretch_74 (by decide) ?_
          exact ih21 (nx + 1) ac (by first | assumption | omega) (by first | assumption | omega) (by rw [← hac, hGs]; omega) (by first | assumption | omega) (by first | assumption | omega) (by omega) _ _ hP hD hS ls (lv_sub hl [1, 2, 3, 4, 5, 6, 0] rfl)
        · have hp9 : tx_p (tx_R n dy ch kd wo ha we bo lm nx t) (tx_sm kd wo ha we t (nx - d)) = tx_R n dy ch kd wo ha we bo lm nx t + tx_sm kd wo ha we t (nx - d) := if_neg c40
          refine lv_iload hx hb dX2_mostOfStretch_43 (lv_at hl 5 rfl) ?_
          refine lv_aload_n hx hb dX2_mostOfStretch_45 rfl (lv_at hl 0 rfl) ?_
          refine va_get (D := D) (ci := 2) (v := .ref g1) (C := RX2) (T := TX2) (N := 6) hx hb hts in_X2 hown hK (hR hS) 6 rfl rfl 0 (by decide) hf_11 (fun _ h9 => h9) rfl dX2_mostOfStretch_46 ?_
          refine lv_iload_n hx hb dX2_mostOfStretch_49 rfl (lv_at hl 2 rfl) ?_
          refine gr_ald (ra := ra) hx hb hK (hR hS) 7 3 rfl rfl (j := t) rfl (by omega) dX2_mostOfStretch_50 ?_
          refine lv_iload hx hb dX2_mostOfStretch_51 (lv_at hl 6 rfl) ?_
          refine lv_iload_n hx hb dX2_mostOfStretch_53 rfl (lv_at hl 3 rfl) ?_
          refine lv_isub hx hb dX2_mostOfStretch_54 ?_
          refine tp_i (pk_sub (a := nx) (b := d) (by omega)) ?_
          refine ia_n (f := M1 t) hx hb hK (hR hS) (8 + t) 0 (row4 (w := [(h, .inr (4, [.ref k0, .ref k1, .ref k2, .ref k3, .ref k4, .ref k5, .int (nI n), .int (nI dy), .int (nI ch), .int (nI lw)])), (k0, aI cs 4 (tx_nf kd)), (k1, aI cs 4 (tx_nf wo)), (k2, aI cs 4 (tx_nf ha)), (k3, aI cs 4 (tx_nf we)), (k5, aI cs 20 (tx_bf bo)), (pl, .inr (2, [.ref g1, .ref g2, .ref g3, .ref yr, .int (iI bl), .int (iI bm)])), (g1, aG cs ra), (ra 0, aI cs 21 (M1 0)), (ra 1, aI cs 21 (M1 1)), (ra 2, aI cs 21 (M1 2)), (ra 3, aI cs 21 (M1 3)), (g3, aG cs rc), (rc 0, aI cs 21 (M3 0)), (rc 1, aI cs 21 (M3 1)), (rc 2, aI cs 21 (M3 2)), (rc 3, aI cs 21 (M3 3))]) (q := 8) (ra := ra) (g := fun i => aI cs 21 (M1 i)) rfl rfl rfl rfl (by omega)) rfl (j := nx - d) rfl (by omega) (by decide) dX2_mostOfStretch_55 ?_
          refine tp_i (show M1 t (nx - d) = iI (tx_sm kd wo ha we t (nx - d)) from hM1 t ht (nx - d) (by omega)) ?_
          refine lv_aload_n hx hb dX2_mostOfStretch_56 rfl (lv_at hl 0 rfl) ?_
          refine va_get (D := D) (ci := 2) (v := .ref g3) (C := RX2) (T := TX2) (N := 6) hx hb hts in_X2 hown hK (hR hS) 6 rfl rfl 2 (by decide) hf_19 (fun _ h9 => h9) rfl dX2_mostOfStretch_57 ?_
          refine lv_iload_n hx hb dX2_mostOfStretch_60 rfl (lv_at hl 2 rfl) ?_
          refine gr_ald (ra := rc) hx hb hK (hR hS) 12 3 rfl rfl (j := t) rfl (by omega) dX2_mostOfStretch_61 ?_
          refine lv_iload hx hb dX2_mostOfStretch_62 (lv_at hl 6 rfl) ?_
          refine ia_n (f := M3 t) hx hb hK (hR hS) (13 + t) 0 (row4 (w := [(h, .inr (4, [.ref k0, .ref k1, .ref k2, .ref k3, .ref k4, .ref k5, .int (nI n), .int (nI dy), .int (nI ch), .int (nI lw)])), (k0, aI cs 4 (tx_nf kd)), (k1, aI cs 4 (tx_nf wo)), (k2, aI cs 4 (tx_nf ha)), (k3, aI cs 4 (tx_nf we)), (k5, aI cs 20 (tx_bf bo)), (pl, .inr (2, [.ref g1, .ref g2, .ref g3, .ref yr, .int (iI bl), .int (iI bm)])), (g1, aG cs ra), (ra 0, aI cs 21 (M1 0)), (ra 1, aI cs 21 (M1 1)), (ra 2, aI cs 21 (M1 2)), (ra 3, aI cs 21 (M1 3)), (g3, aG cs rc), (rc 0, aI cs 21 (M3 0)), (rc 1, aI cs 21 (M3 1)), (rc 2, aI cs 21 (M3 2)), (rc 3, aI cs 21 (M3 3))]) (q := 13) (ra := rc) (g := fun i => aI cs 21 (M3 i)) rfl rfl rfl rfl (by omega)) rfl (j := nx) rfl (by omega) (by decide) dX2_mostOfStretch_64 ?_
          refine tp_i (show M3 t nx = iI (tx_R n dy ch kd wo ha we bo lm nx t) from hM3 nx (by omega) (by omega)) ?_
          refine lv_iadd hx hb dX2_mostOfStretch_65 ?_
          refine tp_i (add_iI (a := tx_sm kd wo ha we t (nx - d)) (b := tx_R n dy ch kd wo ha we bo lm nx t) rfl rfl) ?_
          refine va_mmax hx hb (hml.trans hl.1.symm) hown (hts (.methodLink RX2 53 Lib.Math.max.name) (by decide +kernel)) (hts (.static Lib.Math.max.name) (by decide +kernel)) (hts (.initialized "java/lang/Math") (by decide +kernel)) (hts (.code Lib.Math.max.name Lib.Math.max.code 2 (some .int)) (by decide +kernel)) (Nat.le_of_ble_eq_true rfl) (Nat.le_of_ble_eq_true rfl) (Nat.le_of_ble_eq_true rfl) (Nat.le_of_ble_eq_true rfl) dX2_mostOfStretch_66 ?_
          refine tp_i (max_iI (a := ac) (b := (tx_sm kd wo ha we t (nx - d)) + (tx_R n dy ch kd wo ha we bo lm nx t)) rfl rfl (by omega) (by omega) (by omega) (by omega)) ?_
          refine lv_istore (lv' := [(6, .int (iI (max ac ((tx_sm kd wo ha we t (nx - d)) + (tx_R n dy ch kd wo ha we bo lm nx t))))), (0, .ref pl), (1, .ref h), (2, .int (nI t)), (3, .int (nI d)), (5, .int (nI u_3)), (7, .int (nI nx))]) hx hb dX2_mostOfStretch_69 hl (by decide) rfl (fun ls hl => ?_)
          refine lv_iinc (v := nI (nx + 1)) (lv' := [(7, .int (nI (nx + 1))), (6, .int (iI (max ac ((tx_sm kd wo ha we t (nx - d)) + (tx_R n dy ch kd wo ha we bo lm nx t))))), (0, .ref pl), (1, .ref h), (2, .int (nI t)), (3, .int (nI d)), (5, .int (nI u_3))]) hx hb dX2_mostOfStretch_71 hl (k := 6) rfl (inc_n nx 1) (by decide) rfl (fun ls hl => ?_)
          refine lv_goto (tgt := 21) hx hb dX2_mostOfStretch_74 (by decide) ?_
          exact ih21 (nx + 1) (max ac ((tx_sm kd wo ha we t (nx - d)) + (tx_R n dy ch kd wo ha we bo lm nx t))) (by first | assumption | omega) (by first | assumption | omega) (by rw [← hac, hGs]; omega) (by first | assumption | omega) (by first | assumption | omega) (by omega) _ _ hP hD hS ls (lv_sub hl [2, 3, 4, 5, 6, 1, 0] rfl)
  exact loop21 _ (d + 1) (-999) (by first | assumption | omega) (by first | assumption | omega) (by rw [tx_gt_0 hd hE]; have := tx_S_b (n := n) (dy := dy) (ch := ch) (kd := kd) (wo := wo) (ha := ha) (we := we) (bo := bo) (l := lm) hwo hha hwe hch hdy d t; omega) (by first | assumption | omega) (by first | assumption | omega) (Nat.lt_succ_self _) _ _ hP hD hS ls (lv_sub hl [3, 4, 5, 6, 2, 1, 0] rfl)
set_option maxHeartbeats 4000000 in
set_option maxRecDepth 100000 in
theorem c_X2_mostOfOthers (l : Launch) (D : va_G) (cs : Nat → ClassId) (sz : Nat) (h : Nat) (k0 : Nat) (k1 : Nat) (k2 : Nat) (k3 : Nat) (k4 : Nat) (k5 : Nat) (n : Nat) (dy : Nat) (ch : Nat) (lw : Nat) (kd : Nat → Nat) (wo : Nat → Nat) (ha : Nat → Nat) (we : Nat → Nat) (bo : Nat → Option Nat) (pl : Nat) (g1 : Nat) (g2 : Nat) (g3 : Nat) (yr : Nat) (bl : Int) (bm : Int) (rb : Nat → Nat) (M2 : Nat → Nat → Int32) (t : Nat) (d : Nat) (lm : Nat) (hn : n ≤ 4) (hdy : dy ≤ 20) (hwo : ∀ e, wo e ≤ 9) (hha : ∀ e, ha e ≤ 3) (hwe : ∀ e, we e ≤ 3) (hch : ch ≤ 9) (ht : t < n) (hd : d < dy) (hM2 : ∀ u, u < n → M2 u d = iI (tx_S n dy ch kd wo ha we bo lm d u)) : mI (S := Unit) l yX2_mostOfOthers wsX2_mostOfOthers ({ frames := 1, cells := 0, slots := 0, locals := 13 } : Room) D (tyc cs) sz [.ref pl, .ref h, .int (nI t), .int (nI d)] [(h, .inr (4, [.ref k0, .ref k1, .ref k2, .ref k3, .ref k4, .ref k5, .int (nI n), .int (nI dy), .int (nI ch), .int (nI lw)])), (k0, aI cs 4 (tx_nf kd)), (k1, aI cs 4 (tx_nf wo)), (k2, aI cs 4 (tx_nf ha)), (k3, aI cs 4 (tx_nf we)), (k5, aI cs 20 (tx_bf bo)), (pl, .inr (2, [.ref g1, .ref g2, .ref g3, .ref yr, .int (iI bl), .int (iI bm)])), (g2, aG cs rb), (rb 0, aI cs 21 (M2 0)), (rb 1, aI cs 21 (M2 1)), (rb 2, aI cs 21 (M2 2)), (rb 3, aI cs 21 (M2 3))] [] (fun (r : Int32) (u : Unit) => r = iI (tx_R n dy ch kd wo ha we bo lm d t)) (fun _ => []) 0 0 := by
  unfold mI
  refine Met.ofW (cc := cX2_mostOfOthers) (maxL := 6) (ret := (some .int)) (by decide) rfl ?_
  intro p e s m args below meth c s₁ B hml hv
  obtain ⟨rfl, hsz, hP, hK, hD0⟩ := hv
  have hx := B.exec
  have hb := B.bytes
  have hr := B.returns
  have hts := atoms_spec (ws := wsX2_mostOfOthers) B.pre
  have hown : s.vm.findClass RX2 = some m.cls := findClass_of_methodNamed B.named
  have hlocks := B.notSynchronized
  subst hsz
  have hR := @en_R _ _ _ [(h, .inr (4, [.ref k0, .ref k1, .ref k2, .ref k3, .ref k4, .ref k5, .int (nI n), .int (nI dy), .int (nI ch), .int (nI lw)])), (k0, aI cs 4 (tx_nf kd)), (k1, aI cs 4 (tx_nf wo)), (k2, aI cs 4 (tx_nf ha)), (k3, aI cs 4 (tx_nf we)), (k5, aI cs 20 (tx_bf bo)), (pl, .inr (2, [.ref g1, .ref g2, .ref g3, .ref yr, .int (iI bl), .int (iI bm)])), (g2, aG cs rb), (rb 0, aI cs 21 (M2 0)), (rb 1, aI cs 21 (M2 1)), (rb 2, aI cs 21 (M2 2)), (rb 3, aI cs 21 (M2 3))] [] _ hP hD0
  have hN := adN_of hD0
  have hD := en_D (wr := [(h, .inr (4, [.ref k0, .ref k1, .ref k2, .ref k3, .ref k4, .ref k5, .int (nI n), .int (nI dy), .int (nI ch), .int (nI lw)])), (k0, aI cs 4 (tx_nf kd)), (k1, aI cs 4 (tx_nf wo)), (k2, aI cs 4 (tx_nf ha)), (k3, aI cs 4 (tx_nf we)), (k5, aI cs 20 (tx_bf bo)), (pl, .inr (2, [.ref g1, .ref g2, .ref g3, .ref yr, .int (iI bl), .int (iI bm)])), (g2, aG cs rb), (rb 0, aI cs 21 (M2 0)), (rb 1, aI cs 21 (M2 1)), (rb 2, aI cs 21 (M2 2)), (rb 3, aI cs 21 (M2 3))]) (ww := []) (sz := s.heap.size) hD0
  have hP := en_P (wr := [(h, .inr (4, [.ref k0, .ref k1, .ref k2, .ref k3, .ref k4, .ref k5, .int (nI n), .int (nI dy), .int (nI ch), .int (nI lw)])), (k0, aI cs 4 (tx_nf kd)), (k1, aI cs 4 (tx_nf wo)), (k2, aI cs 4 (tx_nf ha)), (k3, aI cs 4 (tx_nf we)), (k5, aI cs 20 (tx_bf bo)), (pl, .inr (2, [.ref g1, .ref g2, .ref g3, .ref yr, .int (iI bl), .int (iI bm)])), (g2, aG cs rb), (rb 0, aI cs 21 (M2 0)), (rb 1, aI cs 21 (M2 1)), (rb 2, aI cs 21 (M2 2)), (rb 3, aI cs 21 (M2 3))]) (ww := []) hP
  generalize hAe : va_A [] s.heap.size = A at hD hR ⊢
  have hA : ∀ q : Nat, s.heap.size ≤ q → A q := fun q h => by rw [← hAe]; exact Or.inr h
  have hS : va_S A s.heap s.heap [] := va_S.rf
  have hN : adN [h, k0, k1, k2, k3, k5, pl, g2, rb 0, rb 1, rb 2, rb 3] := hN
  have hf_16 := hts (.fieldLink RX2 16 "TaxedByLongest$Plan" "starts" "[[I") (by decide +kernel)
  have hf_33 := hts (.fieldLink RX2 33 "TaxedByLongest$Told" "things" "I") (by decide +kernel)
  have hf_72 := hts (.fieldLink RX2 72 "TaxedByLongest$Told" "change" "I") (by decide +kernel)
  have in_X2 : ∀ w ∈ wsX20, w ∈ wsX2_mostOfOthers := by decide +kernel
  have in_X4 : ∀ w ∈ wsX40, w ∈ wsX2_mostOfOthers := by decide +kernel
  have hl := lv_entry ([.ref pl, .ref h, .int (nI t), .int (nI d)]) (n := 6) (Nat.le_of_ble_eq_true rfl)
  rw [lg_entry_eq]
  generalize (lg_sl ([.ref pl, .ref h, .int (nI t), .int (nI d)]) ++ List.replicate (6 - (lg_sl ([.ref pl, .ref h, .int (nI t), .int (nI d)])).length) Slot.unset).toArray = ls at hl ⊢
  have hl : lv_has ls 6 [(0, .ref pl), (1, .ref h), (2, .int (nI t)), (3, .int (nI d))] := hl
  refine lv_sipush (v := (-999)) hx hb dX2_mostOfOthers_0 (by decide) ?_
  refine lv_istore (lv' := [(4, .int (-999)), (0, .ref pl), (1, .ref h), (2, .int (nI t)), (3, .int (nI d))]) hx hb dX2_mostOfOthers_3 hl (by decide) rfl (fun ls hl => ?_)
  refine lv_iconst (v := 0) hx hb dX2_mostOfOthers_5 (by decide) ?_
  refine lv_istore (lv' := [(5, .int 0), (4, .int (-999)), (0, .ref pl), (1, .ref h), (2, .int (nI t)), (3, .int (nI d))]) hx hb dX2_mostOfOthers_6 hl (by decide) rfl (fun ls hl => ?_)
  have loop8 : ∀ (n9 : Nat) (i : Nat) (ac : Int) (hi : i ≤ n) (hac : ac = tx_mx (fun u => if u = t then -999 else tx_p (tx_S n dy ch kd wo ha we bo lm d u) (-(ch : Int))) i) (ha1 : -999 ≤ ac) (ha2 : ac ≤ 1000), n - i < n9 → ∀ (H : Heap) (locs : List Loc), va_P D vwCl [] H → va_D A [] → va_S A s.heap H locs → ∀ (ls : Array Slot), lv_has ls 6 [(0, .ref pl), (1, .ref h), (2, .int (nI t)), (3, .int (nI d)), (4, .int (iI ac)), (5, .int (nI i))] → W p l e (headSpec wsX2_mostOfOthers ({ frames := 1, cells := 0, slots := 0, locals := 13 } : Room)).room s m ([.ref pl, .ref h, .int (nI t), .int (nI d)] : List Value).toArray below meth c H locs 0 0 (MQ below (va_Qi (fun (r : Int32) (u : Unit) => r = iI (tx_R n dy ch kd wo ha we bo lm d t)) (QB D (fun _ => []) A) A) ([.ref pl, .ref h, .int (nI t), .int (nI d)] : List Value).toArray s 0 0 A) (F0 m 8 ls []) := by
    intro n9
    induction n9 with
    | zero => intros; omega
    | succ n9 ih8 =>
      intro i ac hi hac ha1 ha2 hmu H locs hP hD hS ls hl
      refine lv_iload hx hb dX2_mostOfOthers_8 (lv_at hl 5 rfl) ?_
      refine lv_aload_n hx hb dX2_mostOfOthers_10 rfl (lv_at hl 1 rfl) ?_
      refine va_get (D := D) (ci := 4) (v := .int (nI n)) (C := RX4) (T := TX4) (N := 10) hx hb hts in_X4 hown hK (hR hS) 0 rfl rfl 6 (by decide) hf_33 (fun _ h9 => h9) rfl dX2_mostOfOthers_11 ?_
      refine bn_ge (a := i) (b := n) (tgt := 65) hx hb rfl rfl (by omega) (by omega) dX2_mostOfOthers_14 (by decide) (fun c14 => ?_) (fun c14 => ?_)
      · refine lv_iload hx hb dX2_mostOfOthers_65 (lv_at hl 4 rfl) ?_
        exact rt_i hx hb hr hlocks () (by rw [hac, show i = n by omega, tx_R, if_neg (by omega)]) hP hD hS dX2_mostOfOthers_67
      · refine lv_iload hx hb dX2_mostOfOthers_17 (lv_at hl 5 rfl) ?_
        refine lv_iload_n hx hb dX2_mostOfOthers_19 rfl (lv_at hl 2 rfl) ?_
        refine bn_eq (a := i) (b := t) (tgt := 59) hx hb rfl rfl (by omega) (by omega) dX2_mostOfOthers_20 (by decide) (fun c20 => ?_) (fun c20 => ?_)
        · refine lv_iinc (v := nI (i + 1)) (lv' := [(5, .int (nI (i + 1))), (0, .ref pl), (1, .ref h), (2, .int (nI t)), (3, .int (nI d)), (4, .int (iI ac))]) hx hb dX2_mostOfOthers_59 hl (k := 5) rfl (inc_n i 1) (by decide) rfl (fun ls hl => ?_)
          refine lv_goto (tgt := 8) hx hb dX2_mostOfOthers_62 (by decide) ?_
          exact ih8 (i + 1) ac (by first | assumption | omega) (by rw [tx_mx, ← hac]; rw [if_pos c20]; omega) (by first | assumption | omega) (by first | assumption | omega) (by omega) _ _ hP hD hS ls (lv_sub hl [1, 2, 3, 4, 5, 0] rfl)
        · refine lv_aload_n hx hb dX2_mostOfOthers_23 rfl (lv_at hl 0 rfl) ?_
          refine va_get (D := D) (ci := 2) (v := .ref g2) (C := RX2) (T := TX2) (N := 6) hx hb hts in_X2 hown hK (hR hS) 6 rfl rfl 1 (by decide) hf_16 (fun _ h9 => h9) rfl dX2_mostOfOthers_24 ?_
          refine lv_iload hx hb dX2_mostOfOthers_27 (lv_at hl 5 rfl) ?_
          refine gr_ald (ra := rb) hx hb hK (hR hS) 7 3 rfl rfl (j := i) rfl (by omega) dX2_mostOfOthers_29 ?_
          refine lv_iload_n hx hb dX2_mostOfOthers_30 rfl (lv_at hl 3 rfl) ?_
          refine ia_n (f := M2 i) hx hb hK (hR hS) (8 + i) 0 (row4 (w := [(h, .inr (4, [.ref k0, .ref k1, .ref k2, .ref k3, .ref k4, .ref k5, .int (nI n), .int (nI dy), .int (nI ch), .int (nI lw)])), (k0, aI cs 4 (tx_nf kd)), (k1, aI cs 4 (tx_nf wo)), (k2, aI cs 4 (tx_nf ha)), (k3, aI cs 4 (tx_nf we)), (k5, aI cs 20 (tx_bf bo)), (pl, .inr (2, [.ref g1, .ref g2, .ref g3, .ref yr, .int (iI bl), .int (iI bm)])), (g2, aG cs rb), (rb 0, aI cs 21 (M2 0)), (rb 1, aI cs 21 (M2 1)), (rb 2, aI cs 21 (M2 2)), (rb 3, aI cs 21 (M2 3))]) (q := 8) (ra := rb) (g := fun i => aI cs 21 (M2 i)) rfl rfl rfl rfl (by omega)) rfl (j := d) rfl (by omega) (by decide) dX2_mostOfOthers_31 ?_
          have hSb := tx_S_b (n := n) (dy := dy) (ch := ch) (kd := kd) (wo := wo) (ha := ha) (we := we) (bo := bo) (l := lm) hwo hha hwe hch hdy d i
          refine tp_i (show M2 i d = iI (tx_S n dy ch kd wo ha we bo lm d i) from hM2 i (by omega)) ?_
          refine lv_sipush (v := (-999)) hx hb dX2_mostOfOthers_32 (by decide) ?_
          refine bi_eq (a := tx_S n dy ch kd wo ha we bo lm d i) (b := (-999)) (tgt := 59) hx hb rfl (by decide) (by omega) (by omega) (by omega) (by omega) dX2_mostOfOthers_35 (by decide) (fun c35 => ?_) (fun c35 => ?_)
          · refine lv_iinc (v := nI (i + 1)) (lv' := [(5, .int (nI (i + 1))), (0, .ref pl), (1, .ref h), (2, .int (nI t)), (3, .int (nI d)), (4, .int (iI ac))]) hx hb dX2_mostOfOthers_59 hl (k := 5) rfl (inc_n i 1) (by decide) rfl (fun ls hl => ?_)
            refine lv_goto (tgt := 8) hx hb dX2_mostOfOthers_62 (by decide) ?_
            exact ih8 (i + 1) ac (by first | assumption | omega) (by rw [tx_mx, ← hac]; rw [if_neg c20, c35, tx_p_n]; omega) (by first | assumption | omega) (by first | assumption | omega) (by omega) _ _ hP hD hS ls (lv_sub hl [1, 2, 3, 4, 5, 0] rfl)
          · refine lv_iload hx hb dX2_mostOfOthers_38 (lv_at hl 4 rfl) ?_
            refine lv_aload_n hx hb dX2_mostOfOthers_40 rfl (lv_at hl 0 rfl) ?_
            refine va_get (D := D) (ci := 2) (v := .ref g2) (C := RX2) (T := TX2) (N := 6) hx hb hts in_X2 hown hK (hR hS) 6 rfl rfl 1 (by decide) hf_16 (fun _ h9 => h9) rfl dX2_mostOfOthers_41 ?_
            refine lv_iload hx hb dX2_mostOfOthers_44 (lv_at hl 5 rfl) ?_
            refine gr_ald (ra := rb) hx hb hK (hR hS) 7 3 rfl rfl (j := i) rfl (by omega) dX2_mostOfOthers_46 ?_
            refine lv_iload_n hx hb dX2_mostOfOthers_47 rfl (lv_at hl 3 rfl) ?_
            refine ia_n (f := M2 i) hx hb hK (hR hS) (8 + i) 0 (row4 (w := [(h, .inr (4, [.ref k0, .ref k1, .ref k2, .ref k3, .ref k4, .ref k5, .int (nI n), .int (nI dy), .int (nI ch), .int (nI lw)])), (k0, aI cs 4 (tx_nf kd)), (k1, aI cs 4 (tx_nf wo)), (k2, aI cs 4 (tx_nf ha)), (k3, aI cs 4 (tx_nf we)), (k5, aI cs 20 (tx_bf bo)), (pl, .inr (2, [.ref g1, .ref g2, .ref g3, .ref yr, .int (iI bl), .int (iI bm)])), (g2, aG cs rb), (rb 0, aI cs 21 (M2 0)), (rb 1, aI cs 21 (M2 1)), (rb 2, aI cs 21 (M2 2)), (rb 3, aI cs 21 (M2 3))]) (q := 8) (ra := rb) (g := fun i => aI cs 21 (M2 i)) rfl rfl rfl rfl (by omega)) rfl (j := d) rfl (by omega) (by decide) dX2_mostOfOthers_48 ?_
            refine tp_i (show M2 i d = iI (tx_S n dy ch kd wo ha we bo lm d i) from hM2 i (by omega)) ?_
            refine lv_aload_n hx hb dX2_mostOfOthers_49 rfl (lv_at hl 1 rfl) ?_
            refine va_get (D := D) (ci := 4) (v := .int (nI ch)) (C := RX4) (T := TX4) (N := 10) hx hb hts in_X4 hown hK (hR hS) 0 rfl rfl 8 (by decide) hf_72 (fun _ h9 => h9) rfl dX2_mostOfOthers_50 ?_
            refine lv_isub hx hb dX2_mostOfOthers_53 ?_
            refine tp_i (sub_iI (a := tx_S n dy ch kd wo ha we bo lm d i) (b := (ch : Int)) rfl (nI_iI _)) ?_
            refine va_mmax hx hb (hml.trans hl.1.symm) hown (hts (.methodLink RX2 53 Lib.Math.max.name) (by decide +kernel)) (hts (.static Lib.Math.max.name) (by decide +kernel)) (hts (.initialized "java/lang/Math") (by decide +kernel)) (hts (.code Lib.Math.max.name Lib.Math.max.code 2 (some .int)) (by decide +kernel)) (Nat.le_of_ble_eq_true rfl) (Nat.le_of_ble_eq_true rfl) (Nat.le_of_ble_eq_true rfl) (Nat.le_of_ble_eq_true rfl) dX2_mostOfOthers_54 ?_
            refine tp_i (max_iI (a := ac) (b := (tx_S n dy ch kd wo ha we bo lm d i) - (ch : Int)) rfl rfl (by omega) (by omega) (by omega) (by omega)) ?_
            refine lv_istore (lv' := [(4, .int (iI (max ac ((tx_S n dy ch kd wo ha we bo lm d i) - (ch : Int))))), (0, .ref pl), (1, .ref h), (2, .int (nI t)), (3, .int (nI d)), (5, .int (nI i))]) hx hb dX2_mostOfOthers_57 hl (by decide) rfl (fun ls hl => ?_)
            refine lv_iinc (v := nI (i + 1)) (lv' := [(5, .int (nI (i + 1))), (4, .int (iI (max ac ((tx_S n dy ch kd wo ha we bo lm d i) - (ch : Int))))), (0, .ref pl), (1, .ref h), (2, .int (nI t)), (3, .int (nI d))]) hx hb dX2_mostOfOthers_59 hl (k := 5) rfl (inc_n i 1) (by decide) rfl (fun ls hl => ?_)
            refine lv_goto (tgt := 8) hx hb dX2_mostOfOthers_62 (by decide) ?_
            exact ih8 (i + 1) (max ac ((tx_S n dy ch kd wo ha we bo lm d i) - (ch : Int))) (by first | assumption | omega) (by rw [tx_mx, ← hac]; rw [if_neg c20, tx_p, if_neg c35]; omega) (by first | assumption | omega) (by first | assumption | omega) (by omega) _ _ hP hD hS ls (lv_sub hl [2, 3, 4, 5, 1, 0] rfl)
  exact loop8 _ 0 (-999) (by first | assumption | omega) rfl (by first | assumption | omega) (by first | assumption | omega) (Nat.lt_succ_self _) _ _ hP hD hS ls (lv_sub hl [2, 3, 4, 5, 1, 0] rfl)
set_option maxHeartbeats 4000000 in
set_option maxRecDepth 100000 in
theorem c_X2_mostWithin (l : Launch) (D : va_G) (cs : Nat → ClassId) (sz : Nat) (h : Nat) (k0 : Nat) (k1 : Nat) (k2 : Nat) (k3 : Nat) (k4 : Nat) (k5 : Nat) (n : Nat) (dy : Nat) (ch : Nat) (lw : Nat) (kd : Nat → Nat) (wo : Nat → Nat) (ha : Nat → Nat) (we : Nat → Nat) (bo : Nat → Option Nat) (pl : Nat) (g1 : Nat) (g2 : Nat) (g3 : Nat) (yr : Nat) (bl : Int) (bm : Int) (ra : Nat → Nat) (rb : Nat → Nat) (rc : Nat → Nat) (M1 : Nat → Nat → Int32) (M2 : Nat → Nat → Int32) (M3 : Nat → Nat → Int32) (lm : Nat) (hn : n ≤ 4) (hdy : dy ≤ 20) (hd1 : 1 ≤ dy) (hbo : tx_okb bo) (hkd : ∀ e, kd e ≤ 5) (hwo : ∀ e, wo e ≤ 9) (hha : ∀ e, ha e ≤ 3) (hwe : ∀ e, we e ≤ 3) (hch : ch ≤ 9) (hl9 : lm ≤ 20) (hM1 : ∀ t, t < n → ∀ m, m ≤ dy → M1 t m = iI (tx_sm kd wo ha we t m)) : mI (S := (Nat → Nat → Int32) × (Nat → Nat → Int32)) l yX2_mostWithin wsX2_mostWithin ({ frames := 4, cells := 0, slots := 0, locals := 95 } : Room) D (tyc cs) sz [.ref pl, .ref h, .int (nI lm)] [(h, .inr (4, [.ref k0, .ref k1, .ref k2, .ref k3, .ref k4, .ref k5, .int (nI n), .int (nI dy), .int (nI ch), .int (nI lw)])), (k0, aI cs 4 (tx_nf kd)), (k1, aI cs 4 (tx_nf wo)), (k2, aI cs 4 (tx_nf ha)), (k3, aI cs 4 (tx_nf we)), (k5, aI cs 20 (tx_bf bo)), (pl, .inr (2, [.ref g1, .ref g2, .ref g3, .ref yr, .int (iI bl), .int (iI bm)])), (g1, aG cs ra), (ra 0, aI cs 21 (M1 0)), (ra 1, aI cs 21 (M1 1)), (ra 2, aI cs 21 (M1 2)), (ra 3, aI cs 21 (M1 3)), (g2, aG cs rb), (g3, aG cs rc)] [(rb 0, aI cs 21 (M2 0)), (rb 1, aI cs 21 (M2 1)), (rb 2, aI cs 21 (M2 2)), (rb 3, aI cs 21 (M2 3)), (rc 0, aI cs 21 (M3 0)), (rc 1, aI cs 21 (M3 1)), (rc 2, aI cs 21 (M3 2)), (rc 3, aI cs 21 (M3 3))] (fun (r : Int32) (u : (Nat → Nat → Int32) × (Nat → Nat → Int32)) => match u with | (M4, M5) => r = iI (tx_aw n dy ch kd wo ha we bo lm) ∧ (∀ t, t < n → ∀ e, e < dy → M4 t e = iI (tx_S n dy ch kd wo ha we bo lm e t)) ∧ (∀ t, t < n → ∀ e, e ≤ dy → M5 t e = iI (tx_R n dy ch kd wo ha we bo lm e t))) (fun (u : (Nat → Nat → Int32) × (Nat → Nat → Int32)) => match u with | (M4, M5) => [(rb 0, aI cs 21 (M4 0)), (rb 1, aI cs 21 (M4 1)), (rb 2, aI cs 21 (M4 2)), (rb 3, aI cs 21 (M4 3)), (rc 0, aI cs 21 (M5 0)), (rc 1, aI cs 21 (M5 1)), (rc 2, aI cs 21 (M5 2)), (rc 3, aI cs 21 (M5 3))]) 0 0 := by
  unfold mI
  refine Met.ofW (cc := cX2_mostWithin) (maxL := 5) (ret := (some .int)) (by decide) rfl ?_
  intro p e s m args below meth c s₁ B hml hv
  obtain ⟨rfl, hsz, hP, hK, hD0⟩ := hv
  have hx := B.exec
  have hb := B.bytes
  have hr := B.returns
  have hts := atoms_spec (ws := wsX2_mostWithin) B.pre
  have hown : s.vm.findClass RX2 = some m.cls := findClass_of_methodNamed B.named
  have hlocks := B.notSynchronized
  subst hsz
  have hR := @en_R _ _ _ [(h, .inr (4, [.ref k0, .ref k1, .ref k2, .ref k3, .ref k4, .ref k5, .int (nI n), .int (nI dy), .int (nI ch), .int (nI lw)])), (k0, aI cs 4 (tx_nf kd)), (k1, aI cs 4 (tx_nf wo)), (k2, aI cs 4 (tx_nf ha)), (k3, aI cs 4 (tx_nf we)), (k5, aI cs 20 (tx_bf bo)), (pl, .inr (2, [.ref g1, .ref g2, .ref g3, .ref yr, .int (iI bl), .int (iI bm)])), (g1, aG cs ra), (ra 0, aI cs 21 (M1 0)), (ra 1, aI cs 21 (M1 1)), (ra 2, aI cs 21 (M1 2)), (ra 3, aI cs 21 (M1 3)), (g2, aG cs rb), (g3, aG cs rc)] [(rb 0, aI cs 21 (M2 0)), (rb 1, aI cs 21 (M2 1)), (rb 2, aI cs 21 (M2 2)), (rb 3, aI cs 21 (M2 3)), (rc 0, aI cs 21 (M3 0)), (rc 1, aI cs 21 (M3 1)), (rc 2, aI cs 21 (M3 2)), (rc 3, aI cs 21 (M3 3))] _ hP hD0
  have hN := adN_of hD0
  have hD := en_D (wr := [(h, .inr (4, [.ref k0, .ref k1, .ref k2, .ref k3, .ref k4, .ref k5, .int (nI n), .int (nI dy), .int (nI ch), .int (nI lw)])), (k0, aI cs 4 (tx_nf kd)), (k1, aI cs 4 (tx_nf wo)), (k2, aI cs 4 (tx_nf ha)), (k3, aI cs 4 (tx_nf we)), (k5, aI cs 20 (tx_bf bo)), (pl, .inr (2, [.ref g1, .ref g2, .ref g3, .ref yr, .int (iI bl), .int (iI bm)])), (g1, aG cs ra), (ra 0, aI cs 21 (M1 0)), (ra 1, aI cs 21 (M1 1)), (ra 2, aI cs 21 (M1 2)), (ra 3, aI cs 21 (M1 3)), (g2, aG cs rb), (g3, aG cs rc)]) (ww := [(rb 0, aI cs 21 (M2 0)), (rb 1, aI cs 21 (M2 1)), (rb 2, aI cs 21 (M2 2)), (rb 3, aI cs 21 (M2 3)), (rc 0, aI cs 21 (M3 0)), (rc 1, aI cs 21 (M3 1)), (rc 2, aI cs 21 (M3 2)), (rc 3, aI cs 21 (M3 3))]) (sz := s.heap.size) hD0
  have hP := en_P (wr := [(h, .inr (4, [.ref k0, .ref k1, .ref k2, .ref k3, .ref k4, .ref k5, .int (nI n), .int (nI dy), .int (nI ch), .int (nI lw)])), (k0, aI cs 4 (tx_nf kd)), (k1, aI cs 4 (tx_nf wo)), (k2, aI cs 4 (tx_nf ha)), (k3, aI cs 4 (tx_nf we)), (k5, aI cs 20 (tx_bf bo)), (pl, .inr (2, [.ref g1, .ref g2, .ref g3, .ref yr, .int (iI bl), .int (iI bm)])), (g1, aG cs ra), (ra 0, aI cs 21 (M1 0)), (ra 1, aI cs 21 (M1 1)), (ra 2, aI cs 21 (M1 2)), (ra 3, aI cs 21 (M1 3)), (g2, aG cs rb), (g3, aG cs rc)]) (ww := [(rb 0, aI cs 21 (M2 0)), (rb 1, aI cs 21 (M2 1)), (rb 2, aI cs 21 (M2 2)), (rb 3, aI cs 21 (M2 3)), (rc 0, aI cs 21 (M3 0)), (rc 1, aI cs 21 (M3 1)), (rc 2, aI cs 21 (M3 2)), (rc 3, aI cs 21 (M3 3))]) hP
  generalize hAe : va_A [(rb 0, aI cs 21 (M2 0)), (rb 1, aI cs 21 (M2 1)), (rb 2, aI cs 21 (M2 2)), (rb 3, aI cs 21 (M2 3)), (rc 0, aI cs 21 (M3 0)), (rc 1, aI cs 21 (M3 1)), (rc 2, aI cs 21 (M3 2)), (rc 3, aI cs 21 (M3 3))] s.heap.size = A at hD hR ⊢
  have hA : ∀ q : Nat, s.heap.size ≤ q → A q := fun q h => by rw [← hAe]; exact Or.inr h
  have hS : va_S A s.heap s.heap [] := va_S.rf
  have hN : adN [h, k0, k1, k2, k3, k5, pl, g1, ra 0, ra 1, ra 2, ra 3, g2, g3, rb 0, rb 1, rb 2, rb 3, rc 0, rc 1, rc 2, rc 3] := hN
  have hf_16 := hts (.fieldLink RX2 16 "TaxedByLongest$Plan" "starts" "[[I") (by decide +kernel)
  have hf_19 := hts (.fieldLink RX2 19 "TaxedByLongest$Plan" "rests" "[[I") (by decide +kernel)
  have hf_33 := hts (.fieldLink RX2 33 "TaxedByLongest$Told" "things" "I") (by decide +kernel)
  have hf_38 := hts (.fieldLink RX2 38 "TaxedByLongest$Told" "days" "I") (by decide +kernel)
  have in_X2 : ∀ w ∈ wsX20, w ∈ wsX2_mostWithin := by decide +kernel
  have in_X4 : ∀ w ∈ wsX40, w ∈ wsX2_mostWithin := by decide +kernel
  have hl := lv_entry ([.ref pl, .ref h, .int (nI lm)]) (n := 5) (Nat.le_of_ble_eq_true rfl)
  rw [lg_entry_eq]
  generalize (lg_sl ([.ref pl, .ref h, .int (nI lm)]) ++ List.replicate (5 - (lg_sl ([.ref pl, .ref h, .int (nI lm)])).length) Slot.unset).toArray = ls at hl ⊢
  have hl : lv_has ls 5 [(0, .ref pl), (1, .ref h), (2, .int (nI lm))] := hl
  refine lv_iconst (v := 0) hx hb dX2_mostWithin_0 (by decide) ?_
  refine lv_istore_n (lv' := [(3, .int 0), (0, .ref pl), (1, .ref h), (2, .int (nI lm))]) hx hb dX2_mostWithin_1 rfl hl (by decide) rfl (fun ls hl => ?_)
  have loop2 : ∀ (n9 : Nat) (i : Nat) (M6 : Nat → Nat → Int32) (hi : i ≤ n) (h0 : ∀ t, t < i → M6 t dy = 0), n - i < n9 → ∀ (H : Heap) (locs : List Loc), va_P D vwCl [(rb 0, aI cs 21 (M2 0)), (rb 1, aI cs 21 (M2 1)), (rb 2, aI cs 21 (M2 2)), (rb 3, aI cs 21 (M2 3)), (rc 0, aI cs 21 (M6 0)), (rc 1, aI cs 21 (M6 1)), (rc 2, aI cs 21 (M6 2)), (rc 3, aI cs 21 (M6 3))] H → va_D A [(rb 0, aI cs 21 (M2 0)), (rb 1, aI cs 21 (M2 1)), (rb 2, aI cs 21 (M2 2)), (rb 3, aI cs 21 (M2 3)), (rc 0, aI cs 21 (M6 0)), (rc 1, aI cs 21 (M6 1)), (rc 2, aI cs 21 (M6 2)), (rc 3, aI cs 21 (M6 3))] → va_S A s.heap H locs → ∀ (ls : Array Slot), lv_has ls 5 [(0, .ref pl), (1, .ref h), (2, .int (nI lm)), (3, .int (nI i))] → W p l e (headSpec wsX2_mostWithin ({ frames := 4, cells := 0, slots := 0, locals := 95 } : Room)).room s m ([.ref pl, .ref h, .int (nI lm)] : List Value).toArray below meth c H locs 0 0 (MQ below (va_Qi (fun (r : Int32) (u : (Nat → Nat → Int32) × (Nat → Nat → Int32)) => match u with | (M4, M5) => r = iI (tx_aw n dy ch kd wo ha we bo lm) ∧ (∀ t, t < n → ∀ e, e < dy → M4 t e = iI (tx_S n dy ch kd wo ha we bo lm e t)) ∧ (∀ t, t < n → ∀ e, e ≤ dy → M5 t e = iI (tx_R n dy ch kd wo ha we bo lm e t))) (QB D (fun (u : (Nat → Nat → Int32) × (Nat → Nat → Int32)) => match u with | (M4, M5) => [(rb 0, aI cs 21 (M4 0)), (rb 1, aI cs 21 (M4 1)), (rb 2, aI cs 21 (M4 2)), (rb 3, aI cs 21 (M4 3)), (rc 0, aI cs 21 (M5 0)), (rc 1, aI cs 21 (M5 1)), (rc 2, aI cs 21 (M5 2)), (rc 3, aI cs 21 (M5 3))]) A) A) ([.ref pl, .ref h, .int (nI lm)] : List Value).toArray s 0 0 A) (F0 m 2 ls []) := by
    intro n9
    induction n9 with
    | zero => intros; omega
    | succ n9 ih2 =>
      intro i M6 hi h0 hmu H locs hP hD hS ls hl
      refine lv_iload_n hx hb dX2_mostWithin_2 rfl (lv_at hl 3 rfl) ?_
      refine lv_aload_n hx hb dX2_mostWithin_3 rfl (lv_at hl 1 rfl) ?_
      refine va_get (D := D) (ci := 4) (v := .int (nI n)) (C := RX4) (T := TX4) (N := 10) hx hb hts in_X4 hown hK (hR hS) 0 rfl rfl 6 (by decide) hf_33 (fun _ h9 => h9) rfl dX2_mostWithin_4 ?_
      refine bn_ge (a := i) (b := n) (tgt := 28) hx hb rfl rfl (by omega) (by omega) dX2_mostWithin_7 (by decide) (fun c7 => ?_) (fun c7 => ?_)
      · refine lv_aload_n hx hb dX2_mostWithin_28 rfl (lv_at hl 1 rfl) ?_
        refine va_get (D := D) (ci := 4) (v := .int (nI dy)) (C := RX4) (T := TX4) (N := 10) hx hb hts in_X4 hown hK (hR hS) 0 rfl rfl 7 (by decide) hf_38 (fun _ h9 => h9) rfl dX2_mostWithin_29 ?_
        refine lv_iconst (v := 1) hx hb dX2_mostWithin_32 (by decide) ?_
        refine lv_isub hx hb dX2_mostWithin_33 ?_
        refine tp_i (sub_iI (a := (dy : Int)) (b := 1) (nI_iI _) (by decide)) ?_
        refine lv_istore_n (lv' := [(3, .int (iI ((dy : Int) - 1))), (0, .ref pl), (1, .ref h), (2, .int (nI lm))]) hx hb dX2_mostWithin_34 rfl hl (by decide) rfl (fun ls hl => ?_)
        have loop35 : ∀ (n9 : Nat) (q : Nat) (zz : Int) (M6 : Nat → Nat → Int32) (M7 : Nat → Nat → Int32) (hq : q ≤ dy) (hzz : zz = (q : Int) - 1) (hRr : ∀ t, t < n → ∀ e, q ≤ e → e ≤ dy → M7 t e = iI (tx_R n dy ch kd wo ha we bo lm e t)) (hS9 : ∀ t, t < n → ∀ e, q ≤ e → e < dy → M6 t e = iI (tx_S n dy ch kd wo ha we bo lm e t)), q < n9 → ∀ (H : Heap) (locs : List Loc), va_P D vwCl [(rb 0, aI cs 21 (M6 0)), (rb 1, aI cs 21 (M6 1)), (rb 2, aI cs 21 (M6 2)), (rb 3, aI cs 21 (M6 3)), (rc 0, aI cs 21 (M7 0)), (rc 1, aI cs 21 (M7 1)), (rc 2, aI cs 21 (M7 2)), (rc 3, aI cs 21 (M7 3))] H → va_D A [(rb 0, aI cs 21 (M6 0)), (rb 1, aI cs 21 (M6 1)), (rb 2, aI cs 21 (M6 2)), (rb 3, aI cs 21 (M6 3)), (rc 0, aI cs 21 (M7 0)), (rc 1, aI cs 21 (M7 1)), (rc 2, aI cs 21 (M7 2)), (rc 3, aI cs 21 (M7 3))] → va_S A s.heap H locs → ∀ (ls : Array Slot), lv_has ls 5 [(0, .ref pl), (1, .ref h), (2, .int (nI lm)), (3, .int (iI zz))] → W p l e (headSpec wsX2_mostWithin ({ frames := 4, cells := 0, slots := 0, locals := 95 } : Room)).room s m ([.ref pl, .ref h, .int (nI lm)] : List Value).toArray below meth c H locs 0 0 (MQ below (va_Qi (fun (r : Int32) (u : (Nat → Nat → Int32) × (Nat → Nat → Int32)) => match u with | (M4, M5) => r = iI (tx_aw n dy ch kd wo ha we bo lm) ∧ (∀ t, t < n → ∀ e, e < dy → M4 t e = iI (tx_S n dy ch kd wo ha we bo lm e t)) ∧ (∀ t, t < n → ∀ e, e ≤ dy → M5 t e = iI (tx_R n dy ch kd wo ha we bo lm e t))) (QB D (fun (u : (Nat → Nat → Int32) × (Nat → Nat → Int32)) => match u with | (M4, M5) => [(rb 0, aI cs 21 (M4 0)), (rb 1, aI cs 21 (M4 1)), (rb 2, aI cs 21 (M4 2)), (rb 3, aI cs 21 (M4 3)), (rc 0, aI cs 21 (M5 0)), (rc 1, aI cs 21 (M5 1)), (rc 2, aI cs 21 (M5 2)), (rc 3, aI cs 21 (M5 3))]) A) A) ([.ref pl, .ref h, .int (nI lm)] : List Value).toArray s 0 0 A) (F0 m 35 ls []) := by
          intro n9
          induction n9 with
          | zero => intros; omega
          | succ n9 ih35 =>
            intro q zz M6 M7 hq hzz hRr hS9 hmu H locs hP hD hS ls hl
            refine lv_iload_n hx hb dX2_mostWithin_35 rfl (lv_at hl 3 rfl) ?_
            refine bi0_lt (a := zz) (tgt := 116) hx hb rfl (by omega) (by omega) dX2_mostWithin_36 (by decide) (fun c36 => ?_) (fun c36 => ?_)
            · refine lv_sipush (v := (-999)) hx hb dX2_mostWithin_116 (by decide) ?_
              refine lv_istore_n (lv' := [(3, .int (-999)), (0, .ref pl), (1, .ref h), (2, .int (nI lm))]) hx hb dX2_mostWithin_119 rfl hl (by decide) rfl (fun ls hl => ?_)
              refine lv_iconst (v := 0) hx hb dX2_mostWithin_120 (by decide) ?_
              refine lv_istore (lv' := [(4, .int 0), (3, .int (-999)), (0, .ref pl), (1, .ref h), (2, .int (nI lm))]) hx hb dX2_mostWithin_121 hl (by decide) rfl (fun ls hl => ?_)
              have loop123 : ∀ (n9 : Nat) (i : Nat) (ac : Int) (hi : i ≤ n) (hac : ac = tx_mx (fun u => tx_S n dy ch kd wo ha we bo lm 0 u) i) (ha1 : -999 ≤ ac) (ha2 : ac ≤ 1000), n - i < n9 → ∀ (H : Heap) (locs : List Loc), va_P D vwCl [(rb 0, aI cs 21 (M6 0)), (rb 1, aI cs 21 (M6 1)), (rb 2, aI cs 21 (M6 2)), (rb 3, aI cs 21 (M6 3)), (rc 0, aI cs 21 (M7 0)), (rc 1, aI cs 21 (M7 1)), (rc 2, aI cs 21 (M7 2)), (rc 3, aI cs 21 (M7 3))] H → va_D A [(rb 0, aI cs 21 (M6 0)), (rb 1, aI cs 21 (M6 1)), (rb 2, aI cs 21 (M6 2)), (rb 3, aI cs 21 (M6 3)), (rc 0, aI cs 21 (M7 0)), (rc 1, aI cs 21 (M7 1)), (rc 2, aI cs 21 (M7 2)), (rc 3, aI cs 21 (M7 3))] → va_S A s.heap H locs → ∀ (ls : Array Slot), lv_has ls 5 [(0, .ref pl), (1, .ref h), (2, .int (nI lm)), (3, .int (iI ac)), (4, .int (nI i))] → W p l e (headSpec wsX2_mostWithin ({ frames := 4, cells := 0, slots := 0, locals := 95 } : Room)).room s m ([.ref pl, .ref h, .int (nI lm)] : List Value).toArray below meth c H locs 0 0 (MQ below (va_Qi (fun (r : Int32) (u : (Nat → Nat → Int32) × (Nat → Nat → Int32)) => match u with | (M4, M5) => r = iI (tx_aw n dy ch kd wo ha we bo lm) ∧ (∀ t, t < n → ∀ e, e < dy → M4 t e = iI (tx_S n dy ch kd wo ha we bo lm e t)) ∧ (∀ t, t < n → ∀ e, e ≤ dy → M5 t e = iI (tx_R n dy ch kd wo ha we bo lm e t))) (QB D (fun (u : (Nat → Nat → Int32) × (Nat → Nat → Int32)) => match u with | (M4, M5) => [(rb 0, aI cs 21 (M4 0)), (rb 1, aI cs 21 (M4 1)), (rb 2, aI cs 21 (M4 2)), (rb 3, aI cs 21 (M4 3)), (rc 0, aI cs 21 (M5 0)), (rc 1, aI cs 21 (M5 1)), (rc 2, aI cs 21 (M5 2)), (rc 3, aI cs 21 (M5 3))]) A) A) ([.ref pl, .ref h, .int (nI lm)] : List Value).toArray s 0 0 A) (F0 m 123 ls []) := by
                intro n9
                induction n9 with
                | zero => intros; omega
                | succ n9 ih123 =>
                  intro i ac hi hac ha1 ha2 hmu H locs hP hD hS ls hl
                  refine lv_iload hx hb dX2_mostWithin_123 (lv_at hl 4 rfl) ?_
                  refine lv_aload_n hx hb dX2_mostWithin_125 rfl (lv_at hl 1 rfl) ?_
                  refine va_get (D := D) (ci := 4) (v := .int (nI n)) (C := RX4) (T := TX4) (N := 10) hx hb hts in_X4 hown hK (hR hS) 0 rfl rfl 6 (by decide) hf_33 (fun _ h9 => h9) rfl dX2_mostWithin_126 ?_
                  refine bn_ge (a := i) (b := n) (tgt := 152) hx hb rfl rfl (by omega) (by omega) dX2_mostWithin_129 (by decide) (fun c129 => ?_) (fun c129 => ?_)
                  · refine lv_iload_n hx hb dX2_mostWithin_152 rfl (lv_at hl 3 rfl) ?_
                    exact rt_i hx hb hr hlocks (M6, M7) (⟨by rw [hac, show i = n by omega]; rfl, fun t ht e h9 => hS9 t ht e (by omega) h9, fun t ht e h9 => hRr t ht e (by omega) h9⟩) hP hD hS dX2_mostWithin_153
                  · refine lv_iload_n hx hb dX2_mostWithin_132 rfl (lv_at hl 3 rfl) ?_
                    refine lv_aload_n hx hb dX2_mostWithin_133 rfl (lv_at hl 0 rfl) ?_
                    refine va_get (D := D) (ci := 2) (v := .ref g2) (C := RX2) (T := TX2) (N := 6) hx hb hts in_X2 hown hK (hR hS) 6 rfl rfl 1 (by decide) hf_16 (fun _ h9 => h9) rfl dX2_mostWithin_134 ?_
                    refine lv_iload hx hb dX2_mostWithin_137 (lv_at hl 4 rfl) ?_
                    refine gr_ald (ra := rb) hx hb hK (hR hS) 12 3 rfl rfl (j := i) rfl (by omega) dX2_mostWithin_139 ?_
                    refine lv_iconst (v := 0) hx hb dX2_mostWithin_140 (by decide) ?_
                    refine ia_n (f := M6 i) hx hb hK hP (0 + i) 0 (row4 (w := [(rb 0, aI cs 21 (M6 0)), (rb 1, aI cs 21 (M6 1)), (rb 2, aI cs 21 (M6 2)), (rb 3, aI cs 21 (M6 3)), (rc 0, aI cs 21 (M7 0)), (rc 1, aI cs 21 (M7 1)), (rc 2, aI cs 21 (M7 2)), (rc 3, aI cs 21 (M7 3))]) (q := 0) (ra := rb) (g := fun i => aI cs 21 (M6 i)) rfl rfl rfl rfl (by omega)) rfl (j := 0) rfl (by decide) (by decide) dX2_mostWithin_141 ?_
                    have hSb := tx_S_b (n := n) (dy := dy) (ch := ch) (kd := kd) (wo := wo) (ha := ha) (we := we) (bo := bo) (l := lm) hwo hha hwe hch hdy 0 i
                    refine tp_i (show M6 i 0 = iI (tx_S n dy ch kd wo ha we bo lm 0 i) from hS9 i (by omega) 0 (by omega) (by omega)) ?_
                    refine va_mmax hx hb (hml.trans hl.1.symm) hown (hts (.methodLink RX2 53 Lib.Math.max.name) (by decide +kernel)) (hts (.static Lib.Math.max.name) (by decide +kernel)) (hts (.initialized "java/lang/Math") (by decide +kernel)) (hts (.code Lib.Math.max.name Lib.Math.max.code 2 (some .int)) (by decide +kernel)) (Nat.le_of_ble_eq_true rfl) (Nat.le_of_ble_eq_true rfl) (Nat.le_of_ble_eq_true rfl) (Nat.le_of_ble_eq_true rfl) dX2_mostWithin_142 ?_
                    refine tp_i (max_iI (a := ac) (b := tx_S n dy ch kd wo ha we bo lm 0 i) rfl rfl (by omega) (by omega) (by omega) (by omega)) ?_
                    refine lv_istore_n (lv' := [(3, .int (iI (max ac (tx_S n dy ch kd wo ha we bo lm 0 i)))), (0, .ref pl), (1, .ref h), (2, .int (nI lm)), (4, .int (nI i))]) hx hb dX2_mostWithin_145 rfl hl (by decide) rfl (fun ls hl => ?_)
                    refine lv_iinc (v := nI (i + 1)) (lv' := [(4, .int (nI (i + 1))), (3, .int (iI (max ac (tx_S n dy ch kd wo ha we bo lm 0 i)))), (0, .ref pl), (1, .ref h), (2, .int (nI lm))]) hx hb dX2_mostWithin_146 hl (k := 4) rfl (inc_n i 1) (by decide) rfl (fun ls hl => ?_)
                    refine lv_goto (tgt := 123) hx hb dX2_mostWithin_149 (by decide) ?_
                    exact ih123 (i + 1) (max ac (tx_S n dy ch kd wo ha we bo lm 0 i)) (by first | assumption | omega) (by rw [tx_mx, ← hac]) (by first | assumption | omega) (by first | assumption | omega) (by omega) _ _ hP hD hS ls (lv_sub hl [2, 3, 4, 1, 0] rfl)
              exact loop123 _ 0 (-999) (by first | assumption | omega) rfl (by first | assumption | omega) (by first | assumption | omega) (Nat.lt_succ_self _) _ _ hP hD hS ls (lv_sub hl [2, 3, 4, 1, 0] rfl)
            · obtain ⟨d9, hd9⟩ : ∃ d9, q = d9 + 1 := ⟨q - 1, by omega⟩
              rw [show iI zz = nI d9 from by rw [nI_iI]; congr 1; omega] at hl
              have hl : lv_has ls 5 [(0, .ref pl), (1, .ref h), (2, .int (nI lm)), (3, .int (nI d9))] := hl
              refine lv_iconst (v := 0) hx hb dX2_mostWithin_39 (by decide) ?_
              refine lv_istore (lv' := [(4, .int 0), (0, .ref pl), (1, .ref h), (2, .int (nI lm)), (3, .int (nI d9))]) hx hb dX2_mostWithin_40 hl (by decide) rfl (fun ls hl => ?_)
              have loop42 : ∀ (n9 : Nat) (i : Nat) (M8 : Nat → Nat → Int32) (hi : i ≤ n) (hSi : ∀ t, t < i → M8 t d9 = iI (tx_S n dy ch kd wo ha we bo lm d9 t)) (hS2 : ∀ t, t < n → ∀ e, q ≤ e → e < dy → M8 t e = iI (tx_S n dy ch kd wo ha we bo lm e t)), n - i < n9 → ∀ (H : Heap) (locs : List Loc), va_P D vwCl [(rb 0, aI cs 21 (M8 0)), (rb 1, aI cs 21 (M8 1)), (rb 2, aI cs 21 (M8 2)), (rb 3, aI cs 21 (M8 3)), (rc 0, aI cs 21 (M7 0)), (rc 1, aI cs 21 (M7 1)), (rc 2, aI cs 21 (M7 2)), (rc 3, aI cs 21 (M7 3))] H → va_D A [(rb 0, aI cs 21 (M8 0)), (rb 1, aI cs 21 (M8 1)), (rb 2, aI cs 21 (M8 2)), (rb 3, aI cs 21 (M8 3)), (rc 0, aI cs 21 (M7 0)), (rc 1, aI cs 21 (M7 1)), (rc 2, aI cs 21 (M7 2)), (rc 3, aI cs 21 (M7 3))] → va_S A s.heap H locs → ∀ (ls : Array Slot), lv_has ls 5 [(0, .ref pl), (1, .ref h), (2, .int (nI lm)), (3, .int (nI d9)), (4, .int (nI i))] → W p l e (headSpec wsX2_mostWithin ({ frames := 4, cells := 0, slots := 0, locals := 95 } : Room)).room s m ([.ref pl, .ref h, .int (nI lm)] : List Value).toArray below meth c H locs 0 0 (MQ below (va_Qi (fun (r : Int32) (u : (Nat → Nat → Int32) × (Nat → Nat → Int32)) => match u with | (M4, M5) => r = iI (tx_aw n dy ch kd wo ha we bo lm) ∧ (∀ t, t < n → ∀ e, e < dy → M4 t e = iI (tx_S n dy ch kd wo ha we bo lm e t)) ∧ (∀ t, t < n → ∀ e, e ≤ dy → M5 t e = iI (tx_R n dy ch kd wo ha we bo lm e t))) (QB D (fun (u : (Nat → Nat → Int32) × (Nat → Nat → Int32)) => match u with | (M4, M5) => [(rb 0, aI cs 21 (M4 0)), (rb 1, aI cs 21 (M4 1)), (rb 2, aI cs 21 (M4 2)), (rb 3, aI cs 21 (M4 3)), (rc 0, aI cs 21 (M5 0)), (rc 1, aI cs 21 (M5 1)), (rc 2, aI cs 21 (M5 2)), (rc 3, aI cs 21 (M5 3))]) A) A) ([.ref pl, .ref h, .int (nI lm)] : List Value).toArray s 0 0 A) (F0 m 42 ls []) := by
                intro n9
                induction n9 with
                | zero => intros; omega
                | succ n9 ih42 =>
                  intro i M8 hi hSi hS2 hmu H locs hP hD hS ls hl
                  refine lv_iload hx hb dX2_mostWithin_42 (lv_at hl 4 rfl) ?_
                  refine lv_aload_n hx hb dX2_mostWithin_44 rfl (lv_at hl 1 rfl) ?_
                  refine va_get (D := D) (ci := 4) (v := .int (nI n)) (C := RX4) (T := TX4) (N := 10) hx hb hts in_X4 hown hK (hR hS) 0 rfl rfl 6 (by decide) hf_33 (fun _ h9 => h9) rfl dX2_mostWithin_45 ?_
                  refine bn_ge (a := i) (b := n) (tgt := 75) hx hb rfl rfl (by omega) (by omega) dX2_mostWithin_48 (by decide) (fun c48 => ?_) (fun c48 => ?_)
                  · have hSn : ∀ t, t < n → M8 t d9 = iI (tx_S n dy ch kd wo ha we bo lm d9 t) := fun t ht => hSi t (by omega)
                    refine lv_iconst (v := 0) hx hb dX2_mostWithin_75 (by decide) ?_
                    refine lv_istore (lv' := [(4, .int 0), (0, .ref pl), (1, .ref h), (2, .int (nI lm)), (3, .int (nI d9))]) hx hb dX2_mostWithin_76 hl (by decide) rfl (fun ls hl => ?_)
                    have loop78 : ∀ (n9 : Nat) (i : Nat) (M9 : Nat → Nat → Int32) (hi : i ≤ n) (hRi : ∀ t, t < i → M9 t d9 = iI (tx_R n dy ch kd wo ha we bo lm d9 t)) (hR2 : ∀ t, t < n → ∀ e, q ≤ e → e ≤ dy → M9 t e = iI (tx_R n dy ch kd wo ha we bo lm e t)), n - i < n9 → ∀ (H : Heap) (locs : List Loc), va_P D vwCl [(rb 0, aI cs 21 (M8 0)), (rb 1, aI cs 21 (M8 1)), (rb 2, aI cs 21 (M8 2)), (rb 3, aI cs 21 (M8 3)), (rc 0, aI cs 21 (M9 0)), (rc 1, aI cs 21 (M9 1)), (rc 2, aI cs 21 (M9 2)), (rc 3, aI cs 21 (M9 3))] H → va_D A [(rb 0, aI cs 21 (M8 0)), (rb 1, aI cs 21 (M8 1)), (rb 2, aI cs 21 (M8 2)), (rb 3, aI cs 21 (M8 3)), (rc 0, aI cs 21 (M9 0)), (rc 1, aI cs 21 (M9 1)), (rc 2, aI cs 21 (M9 2)), (rc 3, aI cs 21 (M9 3))] → va_S A s.heap H locs → ∀ (ls : Array Slot), lv_has ls 5 [(0, .ref pl), (1, .ref h), (2, .int (nI lm)), (3, .int (nI d9)), (4, .int (nI i))] → W p l e (headSpec wsX2_mostWithin ({ frames := 4, cells := 0, slots := 0, locals := 95 } : Room)).room s m ([.ref pl, .ref h, .int (nI lm)] : List Value).toArray below meth c H locs 0 0 (MQ below (va_Qi (fun (r : Int32) (u : (Nat → Nat → Int32) × (Nat → Nat → Int32)) => match u with | (M4, M5) => r = iI (tx_aw n dy ch kd wo ha we bo lm) ∧ (∀ t, t < n → ∀ e, e < dy → M4 t e = iI (tx_S n dy ch kd wo ha we bo lm e t)) ∧ (∀ t, t < n → ∀ e, e ≤ dy → M5 t e = iI (tx_R n dy ch kd wo ha we bo lm e t))) (QB D (fun (u : (Nat → Nat → Int32) × (Nat → Nat → Int32)) => match u with | (M4, M5) => [(rb 0, aI cs 21 (M4 0)), (rb 1, aI cs 21 (M4 1)), (rb 2, aI cs 21 (M4 2)), (rb 3, aI cs 21 (M4 3)), (rc 0, aI cs 21 (M5 0)), (rc 1, aI cs 21 (M5 1)), (rc 2, aI cs 21 (M5 2)), (rc 3, aI cs 21 (M5 3))]) A) A) ([.ref pl, .ref h, .int (nI lm)] : List Value).toArray s 0 0 A) (F0 m 78 ls []) := by
                      intro n9
                      induction n9 with
                      | zero => intros; omega
                      | succ n9 ih78 =>
                        intro i M9 hi hRi hR2 hmu H locs hP hD hS ls hl
                        refine lv_iload hx hb dX2_mostWithin_78 (lv_at hl 4 rfl) ?_
                        refine lv_aload_n hx hb dX2_mostWithin_80 rfl (lv_at hl 1 rfl) ?_
                        refine va_get (D := D) (ci := 4) (v := .int (nI n)) (C := RX4) (T := TX4) (N := 10) hx hb hts in_X4 hown hK (hR hS) 0 rfl rfl 6 (by decide) hf_33 (fun _ h9 => h9) rfl dX2_mostWithin_81 ?_
                        refine bn_ge (a := i) (b := n) (tgt := 110) hx hb rfl rfl (by omega) (by omega) dX2_mostWithin_84 (by decide) (fun c84 => ?_) (fun c84 => ?_)
                        · rw [show nI d9 = iI (d9 : Int) from nI_iI _] at hl
                          have hl : lv_has ls 5 [(0, .ref pl), (1, .ref h), (2, .int (nI lm)), (3, .int (iI (d9 : Int))), (4, .int (nI i))] := hl
                          refine lv_iinc (v := iI ((d9 : Int) + (-1))) (lv' := [(3, .int (iI ((d9 : Int) + (-1)))), (0, .ref pl), (1, .ref h), (2, .int (nI lm)), (4, .int (nI i))]) hx hb dX2_mostWithin_110 hl (k := 3) rfl (add_iI (a := (d9 : Int)) (b := (-1)) rfl rfl) (by decide) rfl (fun ls hl => ?_)
                          refine lv_goto (tgt := 35) hx hb dX2_mostWithin_113 (by decide) ?_
                          exact ih35 d9 ((d9 : Int) + (-1)) M8 M9 (by first | assumption | omega) (by omega) (fun t ht e h9 h8 => by by_cases e9 : e = d9; (rw [e9]; exact hRi t (by omega)); (exact hR2 t ht e (by omega) h8)) (fun t ht e h9 h8 => by by_cases e9 : e = d9; (rw [e9]; exact hSn t ht); (exact hS2 t ht e (by omega) h8)) (by omega) _ _ hP hD hS ls (lv_sub hl [1, 2, 3, 0] rfl)
                        · refine lv_aload_n hx hb dX2_mostWithin_87 rfl (lv_at hl 0 rfl) ?_
                          refine va_get (D := D) (ci := 2) (v := .ref g3) (C := RX2) (T := TX2) (N := 6) hx hb hts in_X2 hown hK (hR hS) 6 rfl rfl 2 (by decide) hf_19 (fun _ h9 => h9) rfl dX2_mostWithin_88 ?_
                          refine lv_iload hx hb dX2_mostWithin_91 (lv_at hl 4 rfl) ?_
                          refine gr_ald (ra := rc) hx hb hK (hR hS) 13 3 rfl rfl (j := i) rfl (by omega) dX2_mostWithin_93 ?_
                          refine lv_iload_n hx hb dX2_mostWithin_94 rfl (lv_at hl 3 rfl) ?_
                          refine lv_aload_n hx hb dX2_mostWithin_95 rfl (lv_at hl 0 rfl) ?_
                          refine lv_aload_n hx hb dX2_mostWithin_96 rfl (lv_at hl 1 rfl) ?_
                          refine lv_iload hx hb dX2_mostWithin_97 (lv_at hl 4 rfl) ?_
                          refine lv_iload_n hx hb dX2_mostWithin_99 rfl (lv_at hl 3 rfl) ?_
                          refine cV_i (As := [.ref h, .int (nI i), .int (nI d9)]) (rest := [.int (nI d9), .ref (rc i)]) (cr := [(h, .inr (4, [.ref k0, .ref k1, .ref k2, .ref k3, .ref k4, .ref k5, .int (nI n), .int (nI dy), .int (nI ch), .int (nI lw)])), (k0, aI cs 4 (tx_nf kd)), (k1, aI cs 4 (tx_nf wo)), (k2, aI cs 4 (tx_nf ha)), (k3, aI cs 4 (tx_nf we)), (k5, aI cs 20 (tx_bf bo)), (pl, .inr (2, [.ref g1, .ref g2, .ref g3, .ref yr, .int (iI bl), .int (iI bm)])), (g2, aG cs rb), (rb 0, aI cs 21 (M8 0)), (rb 1, aI cs 21 (M8 1)), (rb 2, aI cs 21 (M8 2)), (rb 3, aI cs 21 (M8 3))]) (cw1 := []) ⟨hx, hb, hml, hown, hts⟩ (c_X2_mostOfOthers l D cs _ h k0 k1 k2 k3 k4 k5 n dy ch lw kd wo ha we bo pl g1 g2 g3 yr bl bm rb M8 i d9 lm (by first | assumption | omega) (by first | assumption | omega) (by first | assumption | omega) (by first | assumption | omega) (by first | assumption | omega) (by first | assumption | omega) (by omega) (by omega) hSn) (cwV 3 hts gX2_mostWithin_X2_mostOfOthers rfl rfl rfl (by decide +kernel) ⟨Nat.le_of_ble_eq_true rfl, Nat.le_of_ble_eq_true rfl⟩) hK hP hD hS hA (((hR hS).app hP).sub [0, 1, 2, 3, 4, 5, 6, 12, 14, 15, 16, 17] rfl) (dt_of hN [0, 1, 2, 3, 4, 5, 6, 12, 14, 15, 16, 17] (by decide) rfl) [] rfl 6 rfl rfl rfl hl.1 rfl (Nat.le_of_ble_eq_true rfl) dX2_mostWithin_100 ⟨Nat.le_of_ble_eq_true rfl, Nat.le_of_ble_eq_true rfl⟩ (fun _ => rfl) (fun _ => rfl) (fun r_1 u9 H locs hw_2 hP hD hS => ?_)
                          have hP : va_P D vwCl [(rb 0, aI cs 21 (M8 0)), (rb 1, aI cs 21 (M8 1)), (rb 2, aI cs 21 (M8 2)), (rb 3, aI cs 21 (M8 3)), (rc 0, aI cs 21 (M9 0)), (rc 1, aI cs 21 (M9 1)), (rc 2, aI cs 21 (M9 2)), (rc 3, aI cs 21 (M9 3))] H := hP
                          have hD : va_D A [(rb 0, aI cs 21 (M8 0)), (rb 1, aI cs 21 (M8 1)), (rb 2, aI cs 21 (M8 2)), (rb 3, aI cs 21 (M8 3)), (rc 0, aI cs 21 (M9 0)), (rc 1, aI cs 21 (M9 1)), (rc 2, aI cs 21 (M9 2)), (rc 3, aI cs 21 (M9 3))] := hD
                          subst r_1
                          refine is_n (f := M9 i) hx hb hK hP hD hS (4 + i) 0 (row4 (w := [(rb 0, aI cs 21 (M8 0)), (rb 1, aI cs 21 (M8 1)), (rb 2, aI cs 21 (M8 2)), (rb 3, aI cs 21 (M8 3)), (rc 0, aI cs 21 (M9 0)), (rc 1, aI cs 21 (M9 1)), (rc 2, aI cs 21 (M9 2)), (rc 3, aI cs 21 (M9 3))]) (q := 4) (ra := rc) (g := fun i => aI cs 21 (M9 i)) rfl rfl rfl rfl (by omega)) rfl (j := d9) rfl (by omega) (by decide) dX2_mostWithin_103 (fun H locs hP hD hS => ?_)
                          have e9 : ([(rb 0, aI cs 21 (M8 0)), (rb 1, aI cs 21 (M8 1)), (rb 2, aI cs 21 (M8 2)), (rb 3, aI cs 21 (M8 3)), (rc 0, aI cs 21 (M9 0)), (rc 1, aI cs 21 (M9 1)), (rc 2, aI cs 21 (M9 2)), (rc 3, aI cs 21 (M9 3))] : va_W).set (4 + i) (rc i, aI cs 21 (upd (M9 i) d9 (iI (tx_R n dy ch kd wo ha we bo lm d9 i)))) = [(rb 0, aI cs 21 (M8 0)), (rb 1, aI cs 21 (M8 1)), (rb 2, aI cs 21 (M8 2)), (rb 3, aI cs 21 (M8 3)), (rc 0, aI cs 21 ((updM M9 i d9 (iI (tx_R n dy ch kd wo ha we bo lm d9 i))) 0)), (rc 1, aI cs 21 ((updM M9 i d9 (iI (tx_R n dy ch kd wo ha we bo lm d9 i))) 1)), (rc 2, aI cs 21 ((updM M9 i d9 (iI (tx_R n dy ch kd wo ha we bo lm d9 i))) 2)), (rc 3, aI cs 21 ((updM M9 i d9 (iI (tx_R n dy ch kd wo ha we bo lm d9 i))) 3))] := set4 (fun r9 => ([(rb 0, aI cs 21 (M8 0)), (rb 1, aI cs 21 (M8 1)), (rb 2, aI cs 21 (M8 2)), (rb 3, aI cs 21 (M8 3)), (rc 0, aI cs 21 (M9 0)), (rc 1, aI cs 21 (M9 1)), (rc 2, aI cs 21 (M9 2)), (rc 3, aI cs 21 (M9 3))] : va_W).set (4 + r9) (rc r9, aI cs 21 (upd (M9 r9) d9 (iI (tx_R n dy ch kd wo ha we bo lm d9 i)))) = [(rb 0, aI cs 21 (M8 0)), (rb 1, aI cs 21 (M8 1)), (rb 2, aI cs 21 (M8 2)), (rb 3, aI cs 21 (M8 3)), (rc 0, aI cs 21 ((updM M9 r9 d9 (iI (tx_R n dy ch kd wo ha we bo lm d9 i))) 0)), (rc 1, aI cs 21 ((updM M9 r9 d9 (iI (tx_R n dy ch kd wo ha we bo lm d9 i))) 1)), (rc 2, aI cs 21 ((updM M9 r9 d9 (iI (tx_R n dy ch kd wo ha we bo lm d9 i))) 2)), (rc 3, aI cs 21 ((updM M9 r9 d9 (iI (tx_R n dy ch kd wo ha we bo lm d9 i))) 3))]) rfl rfl rfl rfl (by omega)
                          rw [e9] at hP hD
                          refine lv_iinc (v := nI (i + 1)) (lv' := [(4, .int (nI (i + 1))), (0, .ref pl), (1, .ref h), (2, .int (nI lm)), (3, .int (nI d9))]) hx hb dX2_mostWithin_104 hl (k := 4) rfl (inc_n i 1) (by decide) rfl (fun ls hl => ?_)
                          refine lv_goto (tgt := 78) hx hb dX2_mostWithin_107 (by decide) ?_
                          exact ih78 (i + 1) (updM M9 i d9 (iI (tx_R n dy ch kd wo ha we bo lm d9 i))) (by first | assumption | omega) (fun t ht => by by_cases e : t = i; (rw [e, updM_s]); (rw [updM_t e]; exact hRi t (by omega))) (fun t ht e h9 h8 => by rw [updM_j (by omega)]; exact hR2 t ht e h9 h8) (by omega) _ _ hP hD hS ls (lv_sub hl [1, 2, 3, 4, 0] rfl)
                    exact loop78 _ 0 M7 (by first | assumption | omega) (fun t ht => absurd ht (Nat.not_lt_zero t)) hRr (Nat.lt_succ_self _) _ _ hP hD hS ls (lv_sub hl [1, 2, 3, 4, 0] rfl)
                  · refine lv_aload_n hx hb dX2_mostWithin_51 rfl (lv_at hl 0 rfl) ?_
                    refine va_get (D := D) (ci := 2) (v := .ref g2) (C := RX2) (T := TX2) (N := 6) hx hb hts in_X2 hown hK (hR hS) 6 rfl rfl 1 (by decide) hf_16 (fun _ h9 => h9) rfl dX2_mostWithin_52 ?_
                    refine lv_iload hx hb dX2_mostWithin_55 (lv_at hl 4 rfl) ?_
                    refine gr_ald (ra := rb) hx hb hK (hR hS) 12 3 rfl rfl (j := i) rfl (by omega) dX2_mostWithin_57 ?_
                    refine lv_iload_n hx hb dX2_mostWithin_58 rfl (lv_at hl 3 rfl) ?_
                    refine lv_aload_n hx hb dX2_mostWithin_59 rfl (lv_at hl 0 rfl) ?_
                    refine lv_aload_n hx hb dX2_mostWithin_60 rfl (lv_at hl 1 rfl) ?_
                    refine lv_iload hx hb dX2_mostWithin_61 (lv_at hl 4 rfl) ?_
                    refine lv_iload_n hx hb dX2_mostWithin_63 rfl (lv_at hl 3 rfl) ?_
                    refine lv_iload_n hx hb dX2_mostWithin_64 rfl (lv_at hl 2 rfl) ?_
                    refine cV_i (As := [.ref h, .int (nI i), .int (nI d9), .int (nI lm)]) (rest := [.int (nI d9), .ref (rb i)]) (cr := [(h, .inr (4, [.ref k0, .ref k1, .ref k2, .ref k3, .ref k4, .ref k5, .int (nI n), .int (nI dy), .int (nI ch), .int (nI lw)])), (k0, aI cs 4 (tx_nf kd)), (k1, aI cs 4 (tx_nf wo)), (k2, aI cs 4 (tx_nf ha)), (k3, aI cs 4 (tx_nf we)), (k5, aI cs 20 (tx_bf bo)), (pl, .inr (2, [.ref g1, .ref g2, .ref g3, .ref yr, .int (iI bl), .int (iI bm)])), (g1, aG cs ra), (ra 0, aI cs 21 (M1 0)), (ra 1, aI cs 21 (M1 1)), (ra 2, aI cs 21 (M1 2)), (ra 3, aI cs 21 (M1 3)), (g3, aG cs rc), (rc 0, aI cs 21 (M7 0)), (rc 1, aI cs 21 (M7 1)), (rc 2, aI cs 21 (M7 2)), (rc 3, aI cs 21 (M7 3))]) (cw1 := []) ⟨hx, hb, hml, hown, hts⟩ (c_X2_mostOfStretch l D cs _ h k0 k1 k2 k3 k4 k5 n dy ch lw kd wo ha we bo pl g1 g2 g3 yr bl bm ra rc M1 M7 i d9 lm (by first | assumption | omega) (by first | assumption | omega) (by first | assumption | omega) (by first | assumption | omega) (by first | assumption | omega) (by first | assumption | omega) (by first | assumption | omega) (by first | assumption | omega) (by omega) (by omega) (by first | assumption | omega) (by first | assumption | omega) (fun e h9 h8 => hRr i (by omega) e (by omega) h8)) (cwV 4 hts gX2_mostWithin_X2_mostOfStretch rfl rfl rfl (by decide +kernel) ⟨Nat.le_of_ble_eq_true rfl, Nat.le_of_ble_eq_true rfl⟩) hK hP hD hS hA (((hR hS).app hP).sub [0, 1, 2, 3, 4, 5, 6, 7, 8, 9, 10, 11, 13, 18, 19, 20, 21] rfl) (dt_of hN [0, 1, 2, 3, 4, 5, 6, 7, 8, 9, 10, 11, 13, 18, 19, 20, 21] (by decide) rfl) [] rfl 6 rfl rfl rfl hl.1 rfl (Nat.le_of_ble_eq_true rfl) dX2_mostWithin_65 ⟨Nat.le_of_ble_eq_true rfl, Nat.le_of_ble_eq_true rfl⟩ (fun _ => rfl) (fun _ => rfl) (fun r_3 u9 H locs hw_4 hP hD hS => ?_)
                    have hP : va_P D vwCl [(rb 0, aI cs 21 (M8 0)), (rb 1, aI cs 21 (M8 1)), (rb 2, aI cs 21 (M8 2)), (rb 3, aI cs 21 (M8 3)), (rc 0, aI cs 21 (M7 0)), (rc 1, aI cs 21 (M7 1)), (rc 2, aI cs 21 (M7 2)), (rc 3, aI cs 21 (M7 3))] H := hP
                    have hD : va_D A [(rb 0, aI cs 21 (M8 0)), (rb 1, aI cs 21 (M8 1)), (rb 2, aI cs 21 (M8 2)), (rb 3, aI cs 21 (M8 3)), (rc 0, aI cs 21 (M7 0)), (rc 1, aI cs 21 (M7 1)), (rc 2, aI cs 21 (M7 2)), (rc 3, aI cs 21 (M7 3))] := hD
                    subst r_3
                    refine is_n (f := M8 i) hx hb hK hP hD hS (0 + i) 0 (row4 (w := [(rb 0, aI cs 21 (M8 0)), (rb 1, aI cs 21 (M8 1)), (rb 2, aI cs 21 (M8 2)), (rb 3, aI cs 21 (M8 3)), (rc 0, aI cs 21 (M7 0)), (rc 1, aI cs 21 (M7 1)), (rc 2, aI cs 21 (M7 2)), (rc 3, aI cs 21 (M7 3))]) (q := 0) (ra := rb) (g := fun i => aI cs 21 (M8 i)) rfl rfl rfl rfl (by omega)) rfl (j := d9) rfl (by omega) (by decide) dX2_mostWithin_68 (fun H locs hP hD hS => ?_)
                    have e9 : ([(rb 0, aI cs 21 (M8 0)), (rb 1, aI cs 21 (M8 1)), (rb 2, aI cs 21 (M8 2)), (rb 3, aI cs 21 (M8 3)), (rc 0, aI cs 21 (M7 0)), (rc 1, aI cs 21 (M7 1)), (rc 2, aI cs 21 (M7 2)), (rc 3, aI cs 21 (M7 3))] : va_W).set (0 + i) (rb i, aI cs 21 (upd (M8 i) d9 (iI (tx_S n dy ch kd wo ha we bo lm d9 i)))) = [(rb 0, aI cs 21 ((updM M8 i d9 (iI (tx_S n dy ch kd wo ha we bo lm d9 i))) 0)), (rb 1, aI cs 21 ((updM M8 i d9 (iI (tx_S n dy ch kd wo ha we bo lm d9 i))) 1)), (rb 2, aI cs 21 ((updM M8 i d9 (iI (tx_S n dy ch kd wo ha we bo lm d9 i))) 2)), (rb 3, aI cs 21 ((updM M8 i d9 (iI (tx_S n dy ch kd wo ha we bo lm d9 i))) 3)), (rc 0, aI cs 21 (M7 0)), (rc 1, aI cs 21 (M7 1)), (rc 2, aI cs 21 (M7 2)), (rc 3, aI cs 21 (M7 3))] := set4 (fun r9 => ([(rb 0, aI cs 21 (M8 0)), (rb 1, aI cs 21 (M8 1)), (rb 2, aI cs 21 (M8 2)), (rb 3, aI cs 21 (M8 3)), (rc 0, aI cs 21 (M7 0)), (rc 1, aI cs 21 (M7 1)), (rc 2, aI cs 21 (M7 2)), (rc 3, aI cs 21 (M7 3))] : va_W).set (0 + r9) (rb r9, aI cs 21 (upd (M8 r9) d9 (iI (tx_S n dy ch kd wo ha we bo lm d9 i)))) = [(rb 0, aI cs 21 ((updM M8 r9 d9 (iI (tx_S n dy ch kd wo ha we bo lm d9 i))) 0)), (rb 1, aI cs 21 ((updM M8 r9 d9 (iI (tx_S n dy ch kd wo ha we bo lm d9 i))) 1)), (rb 2, aI cs 21 ((updM M8 r9 d9 (iI (tx_S n dy ch kd wo ha we bo lm d9 i))) 2)), (rb 3, aI cs 21 ((updM M8 r9 d9 (iI (tx_S n dy ch kd wo ha we bo lm d9 i))) 3)), (rc 0, aI cs 21 (M7 0)), (rc 1, aI cs 21 (M7 1)), (rc 2, aI cs 21 (M7 2)), (rc 3, aI cs 21 (M7 3))]) rfl rfl rfl rfl (by omega)
                    rw [e9] at hP hD
                    refine lv_iinc (v := nI (i + 1)) (lv' := [(4, .int (nI (i + 1))), (0, .ref pl), (1, .ref h), (2, .int (nI lm)), (3, .int (nI d9))]) hx hb dX2_mostWithin_69 hl (k := 4) rfl (inc_n i 1) (by decide) rfl (fun ls hl => ?_)
                    refine lv_goto (tgt := 42) hx hb dX2_mostWithin_72 (by decide) ?_
                    exact ih42 (i + 1) (updM M8 i d9 (iI (tx_S n dy ch kd wo ha we bo lm d9 i))) (by first | assumption | omega) (fun t ht => by by_cases e : t = i; (rw [e, updM_s]); (rw [updM_t e]; exact hSi t (by omega))) (fun t ht e h9 h8 => by rw [updM_j (by omega)]; exact hS2 t ht e h9 h8) (by omega) _ _ hP hD hS ls (lv_sub hl [1, 2, 3, 4, 0] rfl)
              exact loop42 _ 0 M6 (by first | assumption | omega) (fun t ht => absurd ht (Nat.not_lt_zero t)) hS9 (Nat.lt_succ_self _) _ _ hP hD hS ls (lv_sub hl [1, 2, 3, 4, 0] rfl)
        exact loop35 _ dy ((dy : Int) - 1) M2 M6 (by first | assumption | omega) rfl (fun t ht e h9 h8 => by rw [show e = dy by omega, h0 t (by omega), tx_R, if_pos (Nat.le_refl dy)]; rfl) (fun t ht e h9 h8 => by exfalso; omega) (Nat.lt_succ_self _) _ _ hP hD hS ls (lv_sub hl [1, 2, 3, 0] rfl)
      · refine lv_aload_n hx hb dX2_mostWithin_10 rfl (lv_at hl 0 rfl) ?_
        refine va_get (D := D) (ci := 2) (v := .ref g3) (C := RX2) (T := TX2) (N := 6) hx hb hts in_X2 hown hK (hR hS) 6 rfl rfl 2 (by decide) hf_19 (fun _ h9 => h9) rfl dX2_mostWithin_11 ?_
        refine lv_iload_n hx hb dX2_mostWithin_14 rfl (lv_at hl 3 rfl) ?_
        refine gr_ald (ra := rc) hx hb hK (hR hS) 13 3 rfl rfl (j := i) rfl (by omega) dX2_mostWithin_15 ?_
        refine lv_aload_n hx hb dX2_mostWithin_16 rfl (lv_at hl 1 rfl) ?_
        refine va_get (D := D) (ci := 4) (v := .int (nI dy)) (C := RX4) (T := TX4) (N := 10) hx hb hts in_X4 hown hK (hR hS) 0 rfl rfl 7 (by decide) hf_38 (fun _ h9 => h9) rfl dX2_mostWithin_17 ?_
        refine lv_iconst (v := 0) hx hb dX2_mostWithin_20 (by decide) ?_
        refine is_n (f := M6 i) hx hb hK hP hD hS (4 + i) 0 (row4 (w := [(rb 0, aI cs 21 (M2 0)), (rb 1, aI cs 21 (M2 1)), (rb 2, aI cs 21 (M2 2)), (rb 3, aI cs 21 (M2 3)), (rc 0, aI cs 21 (M6 0)), (rc 1, aI cs 21 (M6 1)), (rc 2, aI cs 21 (M6 2)), (rc 3, aI cs 21 (M6 3))]) (q := 4) (ra := rc) (g := fun i => aI cs 21 (M6 i)) rfl rfl rfl rfl (by omega)) rfl (j := dy) rfl (by omega) (by decide) dX2_mostWithin_21 (fun H locs hP hD hS => ?_)
        have e9 : ([(rb 0, aI cs 21 (M2 0)), (rb 1, aI cs 21 (M2 1)), (rb 2, aI cs 21 (M2 2)), (rb 3, aI cs 21 (M2 3)), (rc 0, aI cs 21 (M6 0)), (rc 1, aI cs 21 (M6 1)), (rc 2, aI cs 21 (M6 2)), (rc 3, aI cs 21 (M6 3))] : va_W).set (4 + i) (rc i, aI cs 21 (upd (M6 i) dy 0)) = [(rb 0, aI cs 21 (M2 0)), (rb 1, aI cs 21 (M2 1)), (rb 2, aI cs 21 (M2 2)), (rb 3, aI cs 21 (M2 3)), (rc 0, aI cs 21 ((updM M6 i dy 0) 0)), (rc 1, aI cs 21 ((updM M6 i dy 0) 1)), (rc 2, aI cs 21 ((updM M6 i dy 0) 2)), (rc 3, aI cs 21 ((updM M6 i dy 0) 3))] := set4 (fun r9 => ([(rb 0, aI cs 21 (M2 0)), (rb 1, aI cs 21 (M2 1)), (rb 2, aI cs 21 (M2 2)), (rb 3, aI cs 21 (M2 3)), (rc 0, aI cs 21 (M6 0)), (rc 1, aI cs 21 (M6 1)), (rc 2, aI cs 21 (M6 2)), (rc 3, aI cs 21 (M6 3))] : va_W).set (4 + r9) (rc r9, aI cs 21 (upd (M6 r9) dy 0)) = [(rb 0, aI cs 21 (M2 0)), (rb 1, aI cs 21 (M2 1)), (rb 2, aI cs 21 (M2 2)), (rb 3, aI cs 21 (M2 3)), (rc 0, aI cs 21 ((updM M6 r9 dy 0) 0)), (rc 1, aI cs 21 ((updM M6 r9 dy 0) 1)), (rc 2, aI cs 21 ((updM M6 r9 dy 0) 2)), (rc 3, aI cs 21 ((updM M6 r9 dy 0) 3))]) rfl rfl rfl rfl (by omega)
        rw [e9] at hP hD
        refine lv_iinc (v := nI (i + 1)) (lv' := [(3, .int (nI (i + 1))), (0, .ref pl), (1, .ref h), (2, .int (nI lm))]) hx hb dX2_mostWithin_22 hl (k := 3) rfl (inc_n i 1) (by decide) rfl (fun ls hl => ?_)
        refine lv_goto (tgt := 2) hx hb dX2_mostWithin_25 (by decide) ?_
        exact ih2 (i + 1) (updM M6 i dy 0) (by first | assumption | omega) (fun t ht => by by_cases e : t = i; (rw [e, updM_s]); (rw [updM_t e]; exact h0 t (by omega))) (by omega) _ _ hP hD hS ls (lv_sub hl [1, 2, 3, 0] rfl)
  exact loop2 _ 0 M3 (by first | assumption | omega) (fun t ht => absurd ht (Nat.not_lt_zero t)) (Nat.lt_succ_self _) _ _ hP hD hS ls (lv_sub hl [1, 2, 3, 0] rfl)
set_option maxHeartbeats 4000000 in
set_option maxRecDepth 100000 in
theorem c_X2_findBest (l : Launch) (D : va_G) (cs : Nat → ClassId) (sz : Nat) (h : Nat) (k0 : Nat) (k1 : Nat) (k2 : Nat) (k3 : Nat) (k4 : Nat) (k5 : Nat) (n : Nat) (dy : Nat) (ch : Nat) (lw : Nat) (kd : Nat → Nat) (wo : Nat → Nat) (ha : Nat → Nat) (we : Nat → Nat) (bo : Nat → Option Nat) (pl : Nat) (g1 : Nat) (g2 : Nat) (g3 : Nat) (yr : Nat) (bl : Int) (bm : Int) (ra : Nat → Nat) (rb : Nat → Nat) (rc : Nat → Nat) (M1 : Nat → Nat → Int32) (M2 : Nat → Nat → Int32) (M3 : Nat → Nat → Int32) (hn : n ≤ 4) (hdy : dy ≤ 20) (hd1 : 1 ≤ dy) (hbo : tx_okb bo) (hkd : ∀ e, kd e ≤ 5) (hwo : ∀ e, wo e ≤ 9) (hha : ∀ e, ha e ≤ 3) (hwe : ∀ e, we e ≤ 3) (hch : ch ≤ 9) (hz1 : ∀ t, M1 t 0 = 0) : mV (S := (Nat → Nat → Int32) × (Nat → Nat → Int32) × (Nat → Nat → Int32)) l yX2_findBest wsX2_findBest ({ frames := 5, cells := 0, slots := 0, locals := 119 } : Room) D (tyc cs) sz [.ref pl, .ref h] [(h, .inr (4, [.ref k0, .ref k1, .ref k2, .ref k3, .ref k4, .ref k5, .int (nI n), .int (nI dy), .int (nI ch), .int (nI lw)])), (k0, aI cs 4 (tx_nf kd)), (k1, aI cs 4 (tx_nf wo)), (k2, aI cs 4 (tx_nf ha)), (k3, aI cs 4 (tx_nf we)), (k5, aI cs 20 (tx_bf bo)), (g1, aG cs ra), (g2, aG cs rb), (g3, aG cs rc)] [(pl, .inr (2, [.ref g1, .ref g2, .ref g3, .ref yr, .int (iI bl), .int (iI bm)])), (ra 0, aI cs 21 (M1 0)), (ra 1, aI cs 21 (M1 1)), (ra 2, aI cs 21 (M1 2)), (ra 3, aI cs 21 (M1 3)), (rb 0, aI cs 21 (M2 0)), (rb 1, aI cs 21 (M2 1)), (rb 2, aI cs 21 (M2 2)), (rb 3, aI cs 21 (M2 3)), (rc 0, aI cs 21 (M3 0)), (rc 1, aI cs 21 (M3 1)), (rc 2, aI cs 21 (M3 2)), (rc 3, aI cs 21 (M3 3))] (fun (u : (Nat → Nat → Int32) × (Nat → Nat → Int32) × (Nat → Nat → Int32)) => match u with | (M4, M5, M6) => (∀ t, t < n → ∀ m, m ≤ dy → M4 t m = iI (tx_sm kd wo ha we t m)) ∧ ∀ t, M4 t 0 = 0) (fun (u : (Nat → Nat → Int32) × (Nat → Nat → Int32) × (Nat → Nat → Int32)) => match u with | (M4, M5, M6) => [(pl, .inr (2, [.ref g1, .ref g2, .ref g3, .ref yr, .int (iI (tx_bl (tx_bs (tx_aw n dy ch kd wo ha we bo) 20))), .int (iI (tx_bm (tx_bs (tx_aw n dy ch kd wo ha we bo) 20)))])), (ra 0, aI cs 21 (M4 0)), (ra 1, aI cs 21 (M4 1)), (ra 2, aI cs 21 (M4 2)), (ra 3, aI cs 21 (M4 3)), (rb 0, aI cs 21 (M5 0)), (rb 1, aI cs 21 (M5 1)), (rb 2, aI cs 21 (M5 2)), (rb 3, aI cs 21 (M5 3)), (rc 0, aI cs 21 (M6 0)), (rc 1, aI cs 21 (M6 1)), (rc 2, aI cs 21 (M6 2)), (rc 3, aI cs 21 (M6 3))]) 0 0 := by
  unfold mV
  refine Met.ofW (cc := cX2_findBest) (maxL := 5) (ret := none) (by decide) rfl ?_
  intro p e s m args below meth c s₁ B hml hv
  obtain ⟨rfl, hsz, hP, hK, hD0⟩ := hv
  have hx := B.exec
  have hb := B.bytes
  have hr := B.returns
  have hts := atoms_spec (ws := wsX2_findBest) B.pre
  have hown : s.vm.findClass RX2 = some m.cls := findClass_of_methodNamed B.named
  have hlocks := B.notSynchronized
  subst hsz
  have hR := @en_R _ _ _ [(h, .inr (4, [.ref k0, .ref k1, .ref k2, .ref k3, .ref k4, .ref k5, .int (nI n), .int (nI dy), .int (nI ch), .int (nI lw)])), (k0, aI cs 4 (tx_nf kd)), (k1, aI cs 4 (tx_nf wo)), (k2, aI cs 4 (tx_nf ha)), (k3, aI cs 4 (tx_nf we)), (k5, aI cs 20 (tx_bf bo)), (g1, aG cs ra), (g2, aG cs rb), (g3, aG cs rc)] [(pl, .inr (2, [.ref g1, .ref g2, .ref g3, .ref yr, .int (iI bl), .int (iI bm)])), (ra 0, aI cs 21 (M1 0)), (ra 1, aI cs 21 (M1 1)), (ra 2, aI cs 21 (M1 2)), (ra 3, aI cs 21 (M1 3)), (rb 0, aI cs 21 (M2 0)), (rb 1, aI cs 21 (M2 1)), (rb 2, aI cs 21 (M2 2)), (rb 3, aI cs 21 (M2 3)), (rc 0, aI cs 21 (M3 0)), (rc 1, aI cs 21 (M3 1)), (rc 2, aI cs 21 (M3 2)), (rc 3, aI cs 21 (M3 3))] _ hP hD0
  have hN := adN_of hD0
  have hD := en_D (wr := [(h, .inr (4, [.ref k0, .ref k1, .ref k2, .ref k3, .ref k4, .ref k5, .int (nI n), .int (nI dy), .int (nI ch), .int (nI lw)])), (k0, aI cs 4 (tx_nf kd)), (k1, aI cs 4 (tx_nf wo)), (k2, aI cs 4 (tx_nf ha)), (k3, aI cs 4 (tx_nf we)), (k5, aI cs 20 (tx_bf bo)), (g1, aG cs ra), (g2, aG cs rb), (g3, aG cs rc)]) (ww := [(pl, .inr (2, [.ref g1, .ref g2, .ref g3, .ref yr, .int (iI bl), .int (iI bm)])), (ra 0, aI cs 21 (M1 0)), (ra 1, aI cs 21 (M1 1)), (ra 2, aI cs 21 (M1 2)), (ra 3, aI cs 21 (M1 3)), (rb 0, aI cs 21 (M2 0)), (rb 1, aI cs 21 (M2 1)), (rb 2, aI cs 21 (M2 2)), (rb 3, aI cs 21 (M2 3)), (rc 0, aI cs 21 (M3 0)), (rc 1, aI cs 21 (M3 1)), (rc 2, aI cs 21 (M3 2)), (rc 3, aI cs 21 (M3 3))]) (sz := s.heap.size) hD0
  have hP := en_P (wr := [(h, .inr (4, [.ref k0, .ref k1, .ref k2, .ref k3, .ref k4, .ref k5, .int (nI n), .int (nI dy), .int (nI ch), .int (nI lw)])), (k0, aI cs 4 (tx_nf kd)), (k1, aI cs 4 (tx_nf wo)), (k2, aI cs 4 (tx_nf ha)), (k3, aI cs 4 (tx_nf we)), (k5, aI cs 20 (tx_bf bo)), (g1, aG cs ra), (g2, aG cs rb), (g3, aG cs rc)]) (ww := [(pl, .inr (2, [.ref g1, .ref g2, .ref g3, .ref yr, .int (iI bl), .int (iI bm)])), (ra 0, aI cs 21 (M1 0)), (ra 1, aI cs 21 (M1 1)), (ra 2, aI cs 21 (M1 2)), (ra 3, aI cs 21 (M1 3)), (rb 0, aI cs 21 (M2 0)), (rb 1, aI cs 21 (M2 1)), (rb 2, aI cs 21 (M2 2)), (rb 3, aI cs 21 (M2 3)), (rc 0, aI cs 21 (M3 0)), (rc 1, aI cs 21 (M3 1)), (rc 2, aI cs 21 (M3 2)), (rc 3, aI cs 21 (M3 3))]) hP
  generalize hAe : va_A [(pl, .inr (2, [.ref g1, .ref g2, .ref g3, .ref yr, .int (iI bl), .int (iI bm)])), (ra 0, aI cs 21 (M1 0)), (ra 1, aI cs 21 (M1 1)), (ra 2, aI cs 21 (M1 2)), (ra 3, aI cs 21 (M1 3)), (rb 0, aI cs 21 (M2 0)), (rb 1, aI cs 21 (M2 1)), (rb 2, aI cs 21 (M2 2)), (rb 3, aI cs 21 (M2 3)), (rc 0, aI cs 21 (M3 0)), (rc 1, aI cs 21 (M3 1)), (rc 2, aI cs 21 (M3 2)), (rc 3, aI cs 21 (M3 3))] s.heap.size = A at hD hR ⊢
  have hA : ∀ q : Nat, s.heap.size ≤ q → A q := fun q h => by rw [← hAe]; exact Or.inr h
  have hS : va_S A s.heap s.heap [] := va_S.rf
  have hN : adN [h, k0, k1, k2, k3, k5, g1, g2, g3, pl, ra 0, ra 1, ra 2, ra 3, rb 0, rb 1, rb 2, rb 3, rc 0, rc 1, rc 2, rc 3] := hN
  have hf_26 := hts (.fieldLink RX2 26 "TaxedByLongest$Plan" "bestLeft" "I") (by decide +kernel)
  have hf_30 := hts (.fieldLink RX2 30 "TaxedByLongest$Plan" "bestLimit" "I") (by decide +kernel)
  have hf_38 := hts (.fieldLink RX2 38 "TaxedByLongest$Told" "days" "I") (by decide +kernel)
  have in_X2 : ∀ w ∈ wsX20, w ∈ wsX2_findBest := by decide +kernel
  have in_X4 : ∀ w ∈ wsX40, w ∈ wsX2_findBest := by decide +kernel
  have hl := lv_entry ([.ref pl, .ref h]) (n := 5) (Nat.le_of_ble_eq_true rfl)
  rw [lg_entry_eq]
  generalize (lg_sl ([.ref pl, .ref h]) ++ List.replicate (5 - (lg_sl ([.ref pl, .ref h])).length) Slot.unset).toArray = ls at hl ⊢
  have hl : lv_has ls 5 [(0, .ref pl), (1, .ref h)] := hl
  refine lv_aload_n hx hb dX2_findBest_0 rfl (lv_at hl 0 rfl) ?_
  refine lv_aload_n hx hb dX2_findBest_1 rfl (lv_at hl 1 rfl) ?_
  refine cV_v (As := [.ref h]) (rest := []) (cr := [(h, .inr (4, [.ref k0, .ref k1, .ref k2, .ref k3, .ref k4, .ref k5, .int (nI n), .int (nI dy), .int (nI ch), .int (nI lw)])), (k0, aI cs 4 (tx_nf kd)), (k1, aI cs 4 (tx_nf wo)), (k2, aI cs 4 (tx_nf ha)), (k3, aI cs 4 (tx_nf we)), (pl, .inr (2, [.ref g1, .ref g2, .ref g3, .ref yr, .int (iI bl), .int (iI bm)])), (g1, aG cs ra)]) (cw1 := [(ra 0, aI cs 21 (M1 0)), (ra 1, aI cs 21 (M1 1)), (ra 2, aI cs 21 (M1 2)), (ra 3, aI cs 21 (M1 3))]) ⟨hx, hb, hml, hown, hts⟩ (c_X2_begin l D cs _ h k0 k1 k2 k3 k4 k5 n dy ch lw kd wo ha we pl g1 g2 g3 yr bl bm ra M1 (by first | assumption | omega) (by first | assumption | omega) (by first | assumption | omega) (by first | assumption | omega)) (cwV 1 hts gX2_findBest_X2_begin rfl rfl rfl (by decide +kernel) ⟨Nat.le_of_ble_eq_true rfl, Nat.le_of_ble_eq_true rfl⟩) hK hP hD hS hA (((hR hS).app hP).sub [0, 1, 2, 3, 4, 9, 6, 10, 11, 12, 13] rfl) (dt_of hN [0, 1, 2, 3, 4, 9, 6, 10, 11, 12, 13] (by decide) rfl) [1, 2, 3, 4] rfl 5 rfl rfl rfl hl.1 rfl (Nat.le_of_ble_eq_true rfl) dX2_findBest_2 ⟨Nat.le_of_ble_eq_true rfl, Nat.le_of_ble_eq_true rfl⟩ (fun _ => rfl) (fun _ => rfl) (fun u9 H locs hw_1 hP hD hS => ?_)
  obtain ⟨M2_2, rfl⟩ : ∃ z, z = u9 := ⟨_, rfl⟩
  have hP : va_P D vwCl [(pl, .inr (2, [.ref g1, .ref g2, .ref g3, .ref yr, .int (iI bl), .int (iI bm)])), (ra 0, aI cs 21 (M2_2 0)), (ra 1, aI cs 21 (M2_2 1)), (ra 2, aI cs 21 (M2_2 2)), (ra 3, aI cs 21 (M2_2 3)), (rb 0, aI cs 21 (M2 0)), (rb 1, aI cs 21 (M2 1)), (rb 2, aI cs 21 (M2 2)), (rb 3, aI cs 21 (M2 3)), (rc 0, aI cs 21 (M3 0)), (rc 1, aI cs 21 (M3 1)), (rc 2, aI cs 21 (M3 2)), (rc 3, aI cs 21 (M3 3))] H := hP
  have hD : va_D A [(pl, .inr (2, [.ref g1, .ref g2, .ref g3, .ref yr, .int (iI bl), .int (iI bm)])), (ra 0, aI cs 21 (M2_2 0)), (ra 1, aI cs 21 (M2_2 1)), (ra 2, aI cs 21 (M2_2 2)), (ra 3, aI cs 21 (M2_2 3)), (rb 0, aI cs 21 (M2 0)), (rb 1, aI cs 21 (M2 1)), (rb 2, aI cs 21 (M2 2)), (rb 3, aI cs 21 (M2 3)), (rc 0, aI cs 21 (M3 0)), (rc 1, aI cs 21 (M3 1)), (rc 2, aI cs 21 (M3 2)), (rc 3, aI cs 21 (M3 3))] := hD
  have hM1 := hw_1.1
  have hz2 := hw_1.2
  refine lv_aload_n hx hb dX2_findBest_5 rfl (lv_at hl 0 rfl) ?_
  refine lv_sipush (v := (-999)) hx hb dX2_findBest_6 (by decide) ?_
  refine va_put (D := D) (ci := 2) (v := .int (-999)) (ty := .int) (C := RX2) (T := TX2) (N := 6) hx hb hts in_X2 tyX2 tyX2_ok nmX2 hown hK hP hD hS 0 rfl rfl 4 (by decide) hf_26 (fun _ h9 => h9) rfl (by decide +kernel) rfl rfl (Nat.le_of_ble_eq_true rfl) dX2_findBest_9 (fun H locs hP hD hS => ?_)
  have hP : va_P D vwCl [(pl, .inr (2, [.ref g1, .ref g2, .ref g3, .ref yr, .int (-999), .int (iI bm)])), (ra 0, aI cs 21 (M2_2 0)), (ra 1, aI cs 21 (M2_2 1)), (ra 2, aI cs 21 (M2_2 2)), (ra 3, aI cs 21 (M2_2 3)), (rb 0, aI cs 21 (M2 0)), (rb 1, aI cs 21 (M2 1)), (rb 2, aI cs 21 (M2 2)), (rb 3, aI cs 21 (M2 3)), (rc 0, aI cs 21 (M3 0)), (rc 1, aI cs 21 (M3 1)), (rc 2, aI cs 21 (M3 2)), (rc 3, aI cs 21 (M3 3))] H := hP
  have hD : va_D A [(pl, .inr (2, [.ref g1, .ref g2, .ref g3, .ref yr, .int (-999), .int (iI bm)])), (ra 0, aI cs 21 (M2_2 0)), (ra 1, aI cs 21 (M2_2 1)), (ra 2, aI cs 21 (M2_2 2)), (ra 3, aI cs 21 (M2_2 3)), (rb 0, aI cs 21 (M2 0)), (rb 1, aI cs 21 (M2 1)), (rb 2, aI cs 21 (M2 2)), (rb 3, aI cs 21 (M2 3)), (rc 0, aI cs 21 (M3 0)), (rc 1, aI cs 21 (M3 1)), (rc 2, aI cs 21 (M3 2)), (rc 3, aI cs 21 (M3 3))] := hD
  refine lv_aload_n hx hb dX2_findBest_12 rfl (lv_at hl 0 rfl) ?_
  refine lv_bipush (v := (-9)) hx hb dX2_findBest_13 (by decide) ?_
  refine va_put (D := D) (ci := 2) (v := .int (-9)) (ty := .int) (C := RX2) (T := TX2) (N := 6) hx hb hts in_X2 tyX2 tyX2_ok nmX2 hown hK hP hD hS 0 rfl rfl 5 (by decide) hf_30 (fun _ h9 => h9) rfl (by decide +kernel) rfl rfl (Nat.le_of_ble_eq_true rfl) dX2_findBest_15 (fun H locs hP hD hS => ?_)
  have hP : va_P D vwCl [(pl, .inr (2, [.ref g1, .ref g2, .ref g3, .ref yr, .int (-999), .int (-9)])), (ra 0, aI cs 21 (M2_2 0)), (ra 1, aI cs 21 (M2_2 1)), (ra 2, aI cs 21 (M2_2 2)), (ra 3, aI cs 21 (M2_2 3)), (rb 0, aI cs 21 (M2 0)), (rb 1, aI cs 21 (M2 1)), (rb 2, aI cs 21 (M2 2)), (rb 3, aI cs 21 (M2 3)), (rc 0, aI cs 21 (M3 0)), (rc 1, aI cs 21 (M3 1)), (rc 2, aI cs 21 (M3 2)), (rc 3, aI cs 21 (M3 3))] H := hP
  have hD : va_D A [(pl, .inr (2, [.ref g1, .ref g2, .ref g3, .ref yr, .int (-999), .int (-9)])), (ra 0, aI cs 21 (M2_2 0)), (ra 1, aI cs 21 (M2_2 1)), (ra 2, aI cs 21 (M2_2 2)), (ra 3, aI cs 21 (M2_2 3)), (rb 0, aI cs 21 (M2 0)), (rb 1, aI cs 21 (M2 1)), (rb 2, aI cs 21 (M2 2)), (rb 3, aI cs 21 (M2 3)), (rc 0, aI cs 21 (M3 0)), (rc 1, aI cs 21 (M3 1)), (rc 2, aI cs 21 (M3 2)), (rc 3, aI cs 21 (M3 3))] := hD
  refine lv_aload_n hx hb dX2_findBest_18 rfl (lv_at hl 0 rfl) ?_
  refine lv_aload_n hx hb dX2_findBest_19 rfl (lv_at hl 1 rfl) ?_
  refine lv_aload_n hx hb dX2_findBest_20 rfl (lv_at hl 1 rfl) ?_
  refine va_get (D := D) (ci := 4) (v := .int (nI dy)) (C := RX4) (T := TX4) (N := 10) hx hb hts in_X4 hown hK (hR hS) 0 rfl rfl 7 (by decide) hf_38 (fun _ h9 => h9) rfl dX2_findBest_21 ?_
  refine cV_i (As := [.ref h, .int (nI dy)]) (rest := []) (cr := [(h, .inr (4, [.ref k0, .ref k1, .ref k2, .ref k3, .ref k4, .ref k5, .int (nI n), .int (nI dy), .int (nI ch), .int (nI lw)])), (k0, aI cs 4 (tx_nf kd)), (k1, aI cs 4 (tx_nf wo)), (k2, aI cs 4 (tx_nf ha)), (k3, aI cs 4 (tx_nf we)), (k5, aI cs 20 (tx_bf bo)), (pl, .inr (2, [.ref g1, .ref g2, .ref g3, .ref yr, .int (iI (-999)), .int (iI (-9))])), (g1, aG cs ra), (ra 0, aI cs 21 (M2_2 0)), (ra 1, aI cs 21 (M2_2 1)), (ra 2, aI cs 21 (M2_2 2)), (ra 3, aI cs 21 (M2_2 3)), (g2, aG cs rb), (g3, aG cs rc)]) (cw1 := [(rb 0, aI cs 21 (M2 0)), (rb 1, aI cs 21 (M2 1)), (rb 2, aI cs 21 (M2 2)), (rb 3, aI cs 21 (M2 3)), (rc 0, aI cs 21 (M3 0)), (rc 1, aI cs 21 (M3 1)), (rc 2, aI cs 21 (M3 2)), (rc 3, aI cs 21 (M3 3))]) ⟨hx, hb, hml, hown, hts⟩ (c_X2_mostWithin l D cs _ h k0 k1 k2 k3 k4 k5 n dy ch lw kd wo ha we bo pl g1 g2 g3 yr (-999) (-9) ra rb rc M2_2 M2 M3 dy (by first | assumption | omega) (by first | assumption | omega) (by first | assumption | omega) (by first | assumption | omega) (by first | assumption | omega) (by first | assumption | omega) (by first | assumption | omega) (by first | assumption | omega) (by first | assumption | omega) (by first | assumption | omega) hM1) (cwV 2 hts gX2_findBest_X2_mostWithin rfl rfl rfl (by decide +kernel) ⟨Nat.le_of_ble_eq_true rfl, Nat.le_of_ble_eq_true rfl⟩) hK hP hD hS hA (((hR hS).app hP).sub [0, 1, 2, 3, 4, 5, 9, 6, 10, 11, 12, 13, 7, 8, 14, 15, 16, 17, 18, 19, 20, 21] rfl) (dt_of hN [0, 1, 2, 3, 4, 5, 9, 6, 10, 11, 12, 13, 7, 8, 14, 15, 16, 17, 18, 19, 20, 21] (by decide) rfl) [5, 6, 7, 8, 9, 10, 11, 12] rfl 6 rfl rfl rfl hl.1 rfl (Nat.le_of_ble_eq_true rfl) dX2_findBest_24 ⟨Nat.le_of_ble_eq_true rfl, Nat.le_of_ble_eq_true rfl⟩ (fun _ => rfl) (fun _ => rfl) (fun r_3 u9 H locs hw_4 hP hD hS => ?_)
  obtain ⟨M4_5, M5_6⟩ := u9
  have hP : va_P D vwCl [(pl, .inr (2, [.ref g1, .ref g2, .ref g3, .ref yr, .int (-999), .int (-9)])), (ra 0, aI cs 21 (M2_2 0)), (ra 1, aI cs 21 (M2_2 1)), (ra 2, aI cs 21 (M2_2 2)), (ra 3, aI cs 21 (M2_2 3)), (rb 0, aI cs 21 (M4_5 0)), (rb 1, aI cs 21 (M4_5 1)), (rb 2, aI cs 21 (M4_5 2)), (rb 3, aI cs 21 (M4_5 3)), (rc 0, aI cs 21 (M5_6 0)), (rc 1, aI cs 21 (M5_6 1)), (rc 2, aI cs 21 (M5_6 2)), (rc 3, aI cs 21 (M5_6 3))] H := hP
  have hD : va_D A [(pl, .inr (2, [.ref g1, .ref g2, .ref g3, .ref yr, .int (-999), .int (-9)])), (ra 0, aI cs 21 (M2_2 0)), (ra 1, aI cs 21 (M2_2 1)), (ra 2, aI cs 21 (M2_2 2)), (ra 3, aI cs 21 (M2_2 3)), (rb 0, aI cs 21 (M4_5 0)), (rb 1, aI cs 21 (M4_5 1)), (rb 2, aI cs 21 (M4_5 2)), (rb 3, aI cs 21 (M4_5 3)), (rc 0, aI cs 21 (M5_6 0)), (rc 1, aI cs 21 (M5_6 1)), (rc 2, aI cs 21 (M5_6 2)), (rc 3, aI cs 21 (M5_6 3))] := hD
  obtain ⟨hw_4_0, hw_4⟩ := hw_4
  subst r_3
  refine lv_istore_n (lv' := [(2, .int (iI (tx_aw n dy ch kd wo ha we bo dy))), (0, .ref pl), (1, .ref h)]) hx hb dX2_findBest_27 rfl hl (by decide) rfl (fun ls hl => ?_)
  refine lv_iconst (v := 1) hx hb dX2_findBest_28 (by decide) ?_
  refine lv_istore_n (lv' := [(3, .int 1), (2, .int (iI (tx_aw n dy ch kd wo ha we bo dy))), (0, .ref pl), (1, .ref h)]) hx hb dX2_findBest_29 rfl hl (by decide) rfl (fun ls hl => ?_)
  have loop30 : ∀ (n9 : Nat) (i : Nat) (li : Nat) (b1 : Int) (b2 : Int) (M7 : Nat → Nat → Int32) (M8 : Nat → Nat → Int32) (hi : i ≤ dy) (hli : li = i + 1) (hb1 : b1 = tx_bl (tx_bs (tx_aw n dy ch kd wo ha we bo) i)) (hb2 : b2 = tx_bm (tx_bs (tx_aw n dy ch kd wo ha we bo) i)), dy - i < n9 → ∀ (H : Heap) (locs : List Loc), va_P D vwCl [(pl, .inr (2, [.ref g1, .ref g2, .ref g3, .ref yr, .int (iI b1), .int (iI b2)])), (ra 0, aI cs 21 (M2_2 0)), (ra 1, aI cs 21 (M2_2 1)), (ra 2, aI cs 21 (M2_2 2)), (ra 3, aI cs 21 (M2_2 3)), (rb 0, aI cs 21 (M7 0)), (rb 1, aI cs 21 (M7 1)), (rb 2, aI cs 21 (M7 2)), (rb 3, aI cs 21 (M7 3)), (rc 0, aI cs 21 (M8 0)), (rc 1, aI cs 21 (M8 1)), (rc 2, aI cs 21 (M8 2)), (rc 3, aI cs 21 (M8 3))] H → va_D A [(pl, .inr (2, [.ref g1, .ref g2, .ref g3, .ref yr, .int (iI b1), .int (iI b2)])), (ra 0, aI cs 21 (M2_2 0)), (ra 1, aI cs 21 (M2_2 1)), (ra 2, aI cs 21 (M2_2 2)), (ra 3, aI cs 21 (M2_2 3)), (rb 0, aI cs 21 (M7 0)), (rb 1, aI cs 21 (M7 1)), (rb 2, aI cs 21 (M7 2)), (rb 3, aI cs 21 (M7 3)), (rc 0, aI cs 21 (M8 0)), (rc 1, aI cs 21 (M8 1)), (rc 2, aI cs 21 (M8 2)), (rc 3, aI cs 21 (M8 3))] → va_S A s.heap H locs → ∀ (ls : Array Slot), lv_has ls 5 [(0, .ref pl), (1, .ref h), (2, .int (iI (tx_aw n dy ch kd wo ha we bo dy))), (3, .int (nI li))] → W p l e (headSpec wsX2_findBest ({ frames := 5, cells := 0, slots := 0, locals := 119 } : Room)).room s m ([.ref pl, .ref h] : List Value).toArray below meth c H locs 0 0 (MQ below (va_Qv (fun (u : (Nat → Nat → Int32) × (Nat → Nat → Int32) × (Nat → Nat → Int32)) => match u with | (M4, M5, M6) => (∀ t, t < n → ∀ m, m ≤ dy → M4 t m = iI (tx_sm kd wo ha we t m)) ∧ ∀ t, M4 t 0 = 0) (QB D (fun (u : (Nat → Nat → Int32) × (Nat → Nat → Int32) × (Nat → Nat → Int32)) => match u with | (M4, M5, M6) => [(pl, .inr (2, [.ref g1, .ref g2, .ref g3, .ref yr, .int (iI (tx_bl (tx_bs (tx_aw n dy ch kd wo ha we bo) 20))), .int (iI (tx_bm (tx_bs (tx_aw n dy ch kd wo ha we bo) 20)))])), (ra 0, aI cs 21 (M4 0)), (ra 1, aI cs 21 (M4 1)), (ra 2, aI cs 21 (M4 2)), (ra 3, aI cs 21 (M4 3)), (rb 0, aI cs 21 (M5 0)), (rb 1, aI cs 21 (M5 1)), (rb 2, aI cs 21 (M5 2)), (rb 3, aI cs 21 (M5 3)), (rc 0, aI cs 21 (M6 0)), (rc 1, aI cs 21 (M6 1)), (rc 2, aI cs 21 (M6 2)), (rc 3, aI cs 21 (M6 3))]) A) A) ([.ref pl, .ref h] : List Value).toArray s 0 0 A) (F0 m 30 ls []) := by
    intro n9
    induction n9 with
    | zero => intros; omega
    | succ n9 ih30 =>
      intro i li b1 b2 M7 M8 hi hli hb1 hb2 hmu H locs hP hD hS ls hl
      refine lv_iload_n hx hb dX2_findBest_30 rfl (lv_at hl 3 rfl) ?_
      refine lv_aload_n hx hb dX2_findBest_31 rfl (lv_at hl 1 rfl) ?_
      refine va_get (D := D) (ci := 4) (v := .int (nI dy)) (C := RX4) (T := TX4) (N := 10) hx hb hts in_X4 hown hK (hR hS) 0 rfl rfl 7 (by decide) hf_38 (fun _ h9 => h9) rfl dX2_findBest_32 ?_
      refine bn_gt (a := li) (b := dy) (tgt := 100) hx hb rfl rfl (by omega) (by omega) dX2_findBest_35 (by decide) (fun c35 => ?_) (fun c35 => ?_)
      · have h20 : tx_bs (tx_aw n dy ch kd wo ha we bo) 20 = tx_bs (tx_aw n dy ch kd wo ha we bo) i := by rw [tx_bs_e2 hd1 hdy (tx_aw_C hwo hha hwe hch hdy hd1), show i = dy by omega]
        have hP : va_P D vwCl [(pl, .inr (2, [.ref g1, .ref g2, .ref g3, .ref yr, .int (iI (tx_bl (tx_bs (tx_aw n dy ch kd wo ha we bo) 20))), .int (iI (tx_bm (tx_bs (tx_aw n dy ch kd wo ha we bo) 20)))])), (ra 0, aI cs 21 (M2_2 0)), (ra 1, aI cs 21 (M2_2 1)), (ra 2, aI cs 21 (M2_2 2)), (ra 3, aI cs 21 (M2_2 3)), (rb 0, aI cs 21 (M7 0)), (rb 1, aI cs 21 (M7 1)), (rb 2, aI cs 21 (M7 2)), (rb 3, aI cs 21 (M7 3)), (rc 0, aI cs 21 (M8 0)), (rc 1, aI cs 21 (M8 1)), (rc 2, aI cs 21 (M8 2)), (rc 3, aI cs 21 (M8 3))] H := by rw [h20, ← hb1, ← hb2]; exact hP
        have hD : va_D A [(pl, .inr (2, [.ref g1, .ref g2, .ref g3, .ref yr, .int (iI (tx_bl (tx_bs (tx_aw n dy ch kd wo ha we bo) 20))), .int (iI (tx_bm (tx_bs (tx_aw n dy ch kd wo ha we bo) 20)))])), (ra 0, aI cs 21 (M2_2 0)), (ra 1, aI cs 21 (M2_2 1)), (ra 2, aI cs 21 (M2_2 2)), (ra 3, aI cs 21 (M2_2 3)), (rb 0, aI cs 21 (M7 0)), (rb 1, aI cs 21 (M7 1)), (rb 2, aI cs 21 (M7 2)), (rb 3, aI cs 21 (M7 3)), (rc 0, aI cs 21 (M8 0)), (rc 1, aI cs 21 (M8 1)), (rc 2, aI cs 21 (M8 2)), (rc 3, aI cs 21 (M8 3))] := by rw [h20, ← hb1, ← hb2]; exact hD
        exact rt_v hx hb hr hlocks (M2_2, M7, M8) (⟨hM1, hz2⟩) hP hD hS dX2_findBest_100
      · have hsq : ((li * li : Nat) : Int) = (li : Int) * (li : Int) := Int.natCast_mul li li
        have hsl : li * li ≤ 20 * 20 := Nat.mul_le_mul (by omega) (by omega)
        have hCb := tx_aw_b (n := n) (dy := dy) (ch := ch) (kd := kd) (wo := wo) (ha := ha) (we := we) (bo := bo) (l := dy) hwo hha hwe hch hdy
        have hCl := tx_aw_b (n := n) (dy := dy) (ch := ch) (kd := kd) (wo := wo) (ha := ha) (we := we) (bo := bo) (l := li) hwo hha hwe hch hdy
        have hbb := tx_bl_b (n := n) (dy := dy) (ch := ch) (kd := kd) (wo := wo) (ha := ha) (we := we) (bo := bo) (i := i) hwo hha hwe hch hdy (by omega)
        rw [← hb1] at hbb
        have hlb : tx_aw n dy ch kd wo ha we bo (i + 1) = -999 ∨ -315 ≤ tx_aw n dy ch kd wo ha we bo (i + 1) := by rw [← hli]; omega
        refine lv_iload_n hx hb dX2_findBest_38 rfl (lv_at hl 2 rfl) ?_
        refine lv_iload_n hx hb dX2_findBest_39 rfl (lv_at hl 3 rfl) ?_
        refine lv_iload_n hx hb dX2_findBest_40 rfl (lv_at hl 3 rfl) ?_
        refine lv_imul hx hb dX2_findBest_41 ?_
        refine tp_i (pk_mul li li) ?_
        refine lv_isub hx hb dX2_findBest_42 ?_
        refine tp_i (sub_iI (a := tx_aw n dy ch kd wo ha we bo dy) (b := ((li * li : Nat) : Int)) rfl (nI_iI _)) ?_
        refine lv_aload_n hx hb dX2_findBest_43 rfl (lv_at hl 0 rfl) ?_
        refine va_get (D := D) (ci := 2) (v := .int (iI b1)) (C := RX2) (T := TX2) (N := 6) hx hb hts in_X2 hown hK hP 0 rfl rfl 4 (by decide) hf_26 (fun _ h9 => h9) rfl dX2_findBest_44 ?_
        refine bi_le (a := (tx_aw n dy ch kd wo ha we bo dy) - ((li * li : Nat) : Int)) (b := b1) (tgt := 100) hx hb rfl rfl (by omega) (by omega) (by omega) (by omega) dX2_findBest_47 (by decide) (fun c47 => ?_) (fun c47 => ?_)
        · have h20 : tx_bs (tx_aw n dy ch kd wo ha we bo) 20 = tx_bs (tx_aw n dy ch kd wo ha we bo) i := tx_bs_e1 (by omega) (tx_aw_C hwo hha hwe hch hdy hd1) (by omega) (by rw [← hli, ← hsq, ← hb1]; omega)
          have hP : va_P D vwCl [(pl, .inr (2, [.ref g1, .ref g2, .ref g3, .ref yr, .int (iI (tx_bl (tx_bs (tx_aw n dy ch kd wo ha we bo) 20))), .int (iI (tx_bm (tx_bs (tx_aw n dy ch kd wo ha we bo) 20)))])), (ra 0, aI cs 21 (M2_2 0)), (ra 1, aI cs 21 (M2_2 1)), (ra 2, aI cs 21 (M2_2 2)), (ra 3, aI cs 21 (M2_2 3)), (rb 0, aI cs 21 (M7 0)), (rb 1, aI cs 21 (M7 1)), (rb 2, aI cs 21 (M7 2)), (rb 3, aI cs 21 (M7 3)), (rc 0, aI cs 21 (M8 0)), (rc 1, aI cs 21 (M8 1)), (rc 2, aI cs 21 (M8 2)), (rc 3, aI cs 21 (M8 3))] H := by rw [h20, ← hb1, ← hb2]; exact hP
          have hD : va_D A [(pl, .inr (2, [.ref g1, .ref g2, .ref g3, .ref yr, .int (iI (tx_bl (tx_bs (tx_aw n dy ch kd wo ha we bo) 20))), .int (iI (tx_bm (tx_bs (tx_aw n dy ch kd wo ha we bo) 20)))])), (ra 0, aI cs 21 (M2_2 0)), (ra 1, aI cs 21 (M2_2 1)), (ra 2, aI cs 21 (M2_2 2)), (ra 3, aI cs 21 (M2_2 3)), (rb 0, aI cs 21 (M7 0)), (rb 1, aI cs 21 (M7 1)), (rb 2, aI cs 21 (M7 2)), (rb 3, aI cs 21 (M7 3)), (rc 0, aI cs 21 (M8 0)), (rc 1, aI cs 21 (M8 1)), (rc 2, aI cs 21 (M8 2)), (rc 3, aI cs 21 (M8 3))] := by rw [h20, ← hb1, ← hb2]; exact hD
          exact rt_v hx hb hr hlocks (M2_2, M7, M8) (⟨hM1, hz2⟩) hP hD hS dX2_findBest_100
        · refine lv_aload_n hx hb dX2_findBest_50 rfl (lv_at hl 0 rfl) ?_
          refine lv_aload_n hx hb dX2_findBest_51 rfl (lv_at hl 1 rfl) ?_
          refine lv_iload_n hx hb dX2_findBest_52 rfl (lv_at hl 3 rfl) ?_
          refine cV_i (As := [.ref h, .int (nI li)]) (rest := []) (cr := [(h, .inr (4, [.ref k0, .ref k1, .ref k2, .ref k3, .ref k4, .ref k5, .int (nI n), .int (nI dy), .int (nI ch), .int (nI lw)])), (k0, aI cs 4 (tx_nf kd)), (k1, aI cs 4 (tx_nf wo)), (k2, aI cs 4 (tx_nf ha)), (k3, aI cs 4 (tx_nf we)), (k5, aI cs 20 (tx_bf bo)), (pl, .inr (2, [.ref g1, .ref g2, .ref g3, .ref yr, .int (iI b1), .int (iI b2)])), (g1, aG cs ra), (ra 0, aI cs 21 (M2_2 0)), (ra 1, aI cs 21 (M2_2 1)), (ra 2, aI cs 21 (M2_2 2)), (ra 3, aI cs 21 (M2_2 3)), (g2, aG cs rb), (g3, aG cs rc)]) (cw1 := [(rb 0, aI cs 21 (M7 0)), (rb 1, aI cs 21 (M7 1)), (rb 2, aI cs 21 (M7 2)), (rb 3, aI cs 21 (M7 3)), (rc 0, aI cs 21 (M8 0)), (rc 1, aI cs 21 (M8 1)), (rc 2, aI cs 21 (M8 2)), (rc 3, aI cs 21 (M8 3))]) ⟨hx, hb, hml, hown, hts⟩ (c_X2_mostWithin l D cs _ h k0 k1 k2 k3 k4 k5 n dy ch lw kd wo ha we bo pl g1 g2 g3 yr b1 b2 ra rb rc M2_2 M7 M8 li (by first | assumption | omega) (by first | assumption | omega) (by first | assumption | omega) (by first | assumption | omega) (by first | assumption | omega) (by first | assumption | omega) (by first | assumption | omega) (by first | assumption | omega) (by first | assumption | omega) (by first | assumption | omega) hM1) (cwV 2 hts gX2_findBest_X2_mostWithin rfl rfl rfl (by decide +kernel) ⟨Nat.le_of_ble_eq_true rfl, Nat.le_of_ble_eq_true rfl⟩) hK hP hD hS hA (((hR hS).app hP).sub [0, 1, 2, 3, 4, 5, 9, 6, 10, 11, 12, 13, 7, 8, 14, 15, 16, 17, 18, 19, 20, 21] rfl) (dt_of hN [0, 1, 2, 3, 4, 5, 9, 6, 10, 11, 12, 13, 7, 8, 14, 15, 16, 17, 18, 19, 20, 21] (by decide) rfl) [5, 6, 7, 8, 9, 10, 11, 12] rfl 6 rfl rfl rfl hl.1 rfl (Nat.le_of_ble_eq_true rfl) dX2_findBest_53 ⟨Nat.le_of_ble_eq_true rfl, Nat.le_of_ble_eq_true rfl⟩ (fun _ => rfl) (fun _ => rfl) (fun r_7 u9 H locs hw_8 hP hD hS => ?_)
          obtain ⟨M4_9, M5_10⟩ := u9
          have hP : va_P D vwCl [(pl, .inr (2, [.ref g1, .ref g2, .ref g3, .ref yr, .int (iI b1), .int (iI b2)])), (ra 0, aI cs 21 (M2_2 0)), (ra 1, aI cs 21 (M2_2 1)), (ra 2, aI cs 21 (M2_2 2)), (ra 3, aI cs 21 (M2_2 3)), (rb 0, aI cs 21 (M4_9 0)), (rb 1, aI cs 21 (M4_9 1)), (rb 2, aI cs 21 (M4_9 2)), (rb 3, aI cs 21 (M4_9 3)), (rc 0, aI cs 21 (M5_10 0)), (rc 1, aI cs 21 (M5_10 1)), (rc 2, aI cs 21 (M5_10 2)), (rc 3, aI cs 21 (M5_10 3))] H := hP
          have hD : va_D A [(pl, .inr (2, [.ref g1, .ref g2, .ref g3, .ref yr, .int (iI b1), .int (iI b2)])), (ra 0, aI cs 21 (M2_2 0)), (ra 1, aI cs 21 (M2_2 1)), (ra 2, aI cs 21 (M2_2 2)), (ra 3, aI cs 21 (M2_2 3)), (rb 0, aI cs 21 (M4_9 0)), (rb 1, aI cs 21 (M4_9 1)), (rb 2, aI cs 21 (M4_9 2)), (rb 3, aI cs 21 (M4_9 3)), (rc 0, aI cs 21 (M5_10 0)), (rc 1, aI cs 21 (M5_10 1)), (rc 2, aI cs 21 (M5_10 2)), (rc 3, aI cs 21 (M5_10 3))] := hD
          obtain ⟨hw_8_0, hw_8⟩ := hw_8
          subst r_7
          refine lv_istore (lv' := [(4, .int (iI (tx_aw n dy ch kd wo ha we bo li))), (0, .ref pl), (1, .ref h), (2, .int (iI (tx_aw n dy ch kd wo ha we bo dy))), (3, .int (nI li))]) hx hb dX2_findBest_56 hl (by decide) rfl (fun ls hl => ?_)
          refine lv_iload hx hb dX2_findBest_58 (lv_at hl 0 rfl) ?_
          refine lv_sipush (v := (-999)) hx hb dX2_findBest_60 (by decide) ?_
          refine bi_eq (a := tx_aw n dy ch kd wo ha we bo li) (b := (-999)) (tgt := 94) hx hb rfl (by decide) (by omega) (by omega) (by omega) (by omega) dX2_findBest_63 (by decide) (fun c63 => ?_) (fun c63 => ?_)
          · refine lv_iinc (v := nI (li + 1)) (lv' := [(3, .int (nI (li + 1))), (4, .int (iI (tx_aw n dy ch kd wo ha we bo li))), (0, .ref pl), (1, .ref h), (2, .int (iI (tx_aw n dy ch kd wo ha we bo dy)))]) hx hb dX2_findBest_94 hl (k := 4) rfl (inc_n li 1) (by decide) rfl (fun ls hl => ?_)
            refine lv_goto (tgt := 30) hx hb dX2_findBest_97 (by decide) ?_
            exact ih30 (i + 1) (li + 1) b1 b2 M4_9 M5_10 (by first | assumption | omega) (by first | assumption | omega) (by rw [tx_bs_n1 (by rw [← hli]; exact c63)]; exact hb1) (by rw [tx_bs_n1 (by rw [← hli]; exact c63)]; exact hb2) (by omega) _ _ hP hD hS ls (lv_sub hl [2, 3, 4, 0] rfl)
          · refine lv_iload hx hb dX2_findBest_66 (lv_at hl 0 rfl) ?_
            refine lv_iload_n hx hb dX2_findBest_68 rfl (lv_at hl 4 rfl) ?_
            refine lv_iload_n hx hb dX2_findBest_69 rfl (lv_at hl 4 rfl) ?_
            refine lv_imul hx hb dX2_findBest_70 ?_
            refine tp_i (pk_mul li li) ?_
            refine lv_isub hx hb dX2_findBest_71 ?_
            refine tp_i (sub_iI (a := tx_aw n dy ch kd wo ha we bo li) (b := ((li * li : Nat) : Int)) rfl (nI_iI _)) ?_
            refine lv_aload_n hx hb dX2_findBest_72 rfl (lv_at hl 1 rfl) ?_
            refine va_get (D := D) (ci := 2) (v := .int (iI b1)) (C := RX2) (T := TX2) (N := 6) hx hb hts in_X2 hown hK hP 0 rfl rfl 4 (by decide) hf_26 (fun _ h9 => h9) rfl dX2_findBest_73 ?_
            refine bi_le (a := (tx_aw n dy ch kd wo ha we bo li) - ((li * li : Nat) : Int)) (b := b1) (tgt := 94) hx hb rfl rfl (by omega) (by omega) (by omega) (by omega) dX2_findBest_76 (by decide) (fun c76 => ?_) (fun c76 => ?_)
            · refine lv_iinc (v := nI (li + 1)) (lv' := [(3, .int (nI (li + 1))), (4, .int (iI (tx_aw n dy ch kd wo ha we bo li))), (0, .ref pl), (1, .ref h), (2, .int (iI (tx_aw n dy ch kd wo ha we bo dy)))]) hx hb dX2_findBest_94 hl (k := 4) rfl (inc_n li 1) (by decide) rfl (fun ls hl => ?_)
              refine lv_goto (tgt := 30) hx hb dX2_findBest_97 (by decide) ?_
              exact ih30 (i + 1) (li + 1) b1 b2 M4_9 M5_10 (by first | assumption | omega) (by first | assumption | omega) (by rw [tx_bs_n2 (by omega) (by omega) (by rw [← hli, ← hsq, ← hb1]; omega)]; exact hb1) (by rw [tx_bs_n2 (by omega) (by omega) (by rw [← hli, ← hsq, ← hb1]; omega)]; exact hb2) (by omega) _ _ hP hD hS ls (lv_sub hl [2, 3, 4, 0] rfl)
            · refine lv_aload_n hx hb dX2_findBest_79 rfl (lv_at hl 1 rfl) ?_
              refine lv_iload hx hb dX2_findBest_80 (lv_at hl 0 rfl) ?_
              refine lv_iload_n hx hb dX2_findBest_82 rfl (lv_at hl 4 rfl) ?_
              refine lv_iload_n hx hb dX2_findBest_83 rfl (lv_at hl 4 rfl) ?_
              refine lv_imul hx hb dX2_findBest_84 ?_
              refine tp_i (pk_mul li li) ?_
              refine lv_isub hx hb dX2_findBest_85 ?_
              refine tp_i (sub_iI (a := tx_aw n dy ch kd wo ha we bo li) (b := ((li * li : Nat) : Int)) rfl (nI_iI _)) ?_
              refine va_put (D := D) (ci := 2) (v := .int (iI ((tx_aw n dy ch kd wo ha we bo li) - ((li * li : Nat) : Int)))) (ty := .int) (C := RX2) (T := TX2) (N := 6) hx hb hts in_X2 tyX2 tyX2_ok nmX2 hown hK hP hD hS 0 rfl rfl 4 (by decide) hf_26 (fun _ h9 => h9) rfl (by decide +kernel) rfl rfl (Nat.le_of_ble_eq_true rfl) dX2_findBest_86 (fun H locs hP hD hS => ?_)
              have hP : va_P D vwCl [(pl, .inr (2, [.ref g1, .ref g2, .ref g3, .ref yr, .int (iI ((tx_aw n dy ch kd wo ha we bo li) - ((li * li : Nat) : Int))), .int (iI b2)])), (ra 0, aI cs 21 (M2_2 0)), (ra 1, aI cs 21 (M2_2 1)), (ra 2, aI cs 21 (M2_2 2)), (ra 3, aI cs 21 (M2_2 3)), (rb 0, aI cs 21 (M4_9 0)), (rb 1, aI cs 21 (M4_9 1)), (rb 2, aI cs 21 (M4_9 2)), (rb 3, aI cs 21 (M4_9 3)), (rc 0, aI cs 21 (M5_10 0)), (rc 1, aI cs 21 (M5_10 1)), (rc 2, aI cs 21 (M5_10 2)), (rc 3, aI cs 21 (M5_10 3))] H := hP
              have hD : va_D A [(pl, .inr (2, [.ref g1, .ref g2, .ref g3, .ref yr, .int (iI ((tx_aw n dy ch kd wo ha we bo li) - ((li * li : Nat) : Int))), .int (iI b2)])), (ra 0, aI cs 21 (M2_2 0)), (ra 1, aI cs 21 (M2_2 1)), (ra 2, aI cs 21 (M2_2 2)), (ra 3, aI cs 21 (M2_2 3)), (rb 0, aI cs 21 (M4_9 0)), (rb 1, aI cs 21 (M4_9 1)), (rb 2, aI cs 21 (M4_9 2)), (rb 3, aI cs 21 (M4_9 3)), (rc 0, aI cs 21 (M5_10 0)), (rc 1, aI cs 21 (M5_10 1)), (rc 2, aI cs 21 (M5_10 2)), (rc 3, aI cs 21 (M5_10 3))] := hD
              refine lv_aload_n hx hb dX2_findBest_89 rfl (lv_at hl 1 rfl) ?_
              refine lv_iload_n hx hb dX2_findBest_90 rfl (lv_at hl 4 rfl) ?_
              refine tp_i (show nI li = iI (li : Int) from nI_iI _) ?_
              refine va_put (D := D) (ci := 2) (v := .int (iI (li : Int))) (ty := .int) (C := RX2) (T := TX2) (N := 6) hx hb hts in_X2 tyX2 tyX2_ok nmX2 hown hK hP hD hS 0 rfl rfl 5 (by decide) hf_30 (fun _ h9 => h9) rfl (by decide +kernel) rfl rfl (Nat.le_of_ble_eq_true rfl) dX2_findBest_91 (fun H locs hP hD hS => ?_)
              have hP : va_P D vwCl [(pl, .inr (2, [.ref g1, .ref g2, .ref g3, .ref yr, .int (iI ((tx_aw n dy ch kd wo ha we bo li) - ((li * li : Nat) : Int))), .int (iI (li : Int))])), (ra 0, aI cs 21 (M2_2 0)), (ra 1, aI cs 21 (M2_2 1)), (ra 2, aI cs 21 (M2_2 2)), (ra 3, aI cs 21 (M2_2 3)), (rb 0, aI cs 21 (M4_9 0)), (rb 1, aI cs 21 (M4_9 1)), (rb 2, aI cs 21 (M4_9 2)), (rb 3, aI cs 21 (M4_9 3)), (rc 0, aI cs 21 (M5_10 0)), (rc 1, aI cs 21 (M5_10 1)), (rc 2, aI cs 21 (M5_10 2)), (rc 3, aI cs 21 (M5_10 3))] H := hP
              have hD : va_D A [(pl, .inr (2, [.ref g1, .ref g2, .ref g3, .ref yr, .int (iI ((tx_aw n dy ch kd wo ha we bo li) - ((li * li : Nat) : Int))), .int (iI (li : Int))])), (ra 0, aI cs 21 (M2_2 0)), (ra 1, aI cs 21 (M2_2 1)), (ra 2, aI cs 21 (M2_2 2)), (ra 3, aI cs 21 (M2_2 3)), (rb 0, aI cs 21 (M4_9 0)), (rb 1, aI cs 21 (M4_9 1)), (rb 2, aI cs 21 (M4_9 2)), (rb 3, aI cs 21 (M4_9 3)), (rc 0, aI cs 21 (M5_10 0)), (rc 1, aI cs 21 (M5_10 1)), (rc 2, aI cs 21 (M5_10 2)), (rc 3, aI cs 21 (M5_10 3))] := hD
              refine lv_iinc (v := nI (li + 1)) (lv' := [(3, .int (nI (li + 1))), (4, .int (iI (tx_aw n dy ch kd wo ha we bo li))), (0, .ref pl), (1, .ref h), (2, .int (iI (tx_aw n dy ch kd wo ha we bo dy)))]) hx hb dX2_findBest_94 hl (k := 4) rfl (inc_n li 1) (by decide) rfl (fun ls hl => ?_)
              refine lv_goto (tgt := 30) hx hb dX2_findBest_97 (by decide) ?_
              exact ih30 (i + 1) (li + 1) ((tx_aw n dy ch kd wo ha we bo li) - ((li * li : Nat) : Int)) (li : Int) M4_9 M5_10 (by first | assumption | omega) (by first | assumption | omega) (by rw [tx_bs_y (by rw [← hli]; exact c63) (by rw [← hli, ← hsq, ← hb1]; omega), ← hli, ← hsq]; exact (if_neg (by show ¬ (li = 0); omega)).symm) (by rw [tx_bs_y (by rw [← hli]; exact c63) (by rw [← hli, ← hsq, ← hb1]; omega), ← hli]; exact (if_neg (by show ¬ (li = 0); omega)).symm) (by omega) _ _ hP hD hS ls (lv_sub hl [2, 3, 4, 0] rfl)
  exact loop30 _ 0 1 (-999) (-9) M4_5 M5_6 (by first | assumption | omega) (by first | assumption | omega) rfl rfl (Nat.lt_succ_self _) _ _ hP hD hS ls (lv_sub hl [2, 3, 1, 0] rfl)
