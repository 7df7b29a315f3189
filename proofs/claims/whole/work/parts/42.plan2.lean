set_option maxHeartbeats 4000000 in
set_option maxRecDepth 100000 in
theorem c_X2_firstStart (l : Launch) (D : va_G) (cs : Nat → ClassId) (sz : Nat) (h : Nat) (k0 : Nat) (k1 : Nat) (k2 : Nat) (k3 : Nat) (k4 : Nat) (k5 : Nat) (n : Nat) (dy : Nat) (ch : Nat) (lw : Nat) (kd : Nat → Nat) (wo : Nat → Nat) (ha : Nat → Nat) (we : Nat → Nat) (bo : Nat → Option Nat) (pl : Nat) (g1 : Nat) (g2 : Nat) (g3 : Nat) (yr : Nat) (bl : Int) (bm : Int) (rb : Nat → Nat) (M2 : Nat → Nat → Int32) (lm : Nat) (ms : Int) (hn : n ≤ 4) (hdy : dy ≤ 20) (hd1 : 1 ≤ dy) (hn0 : 0 < n) (hwo : ∀ e, wo e ≤ 9) (hha : ∀ e, ha e ≤ 3) (hwe : ∀ e, we e ≤ 3) (hch : ch ≤ 9) (hM2 : ∀ t, t < n → ∀ e, e < dy → M2 t e = iI (tx_S n dy ch kd wo ha we bo lm e t)) (hms : ms = tx_aw n dy ch kd wo ha we bo lm) : mI (S := Unit) l yX2_firstStart wsX2_firstStart ({ frames := 0, cells := 0, slots := 0, locals := 0 } : Room) D (tyc cs) sz [.ref pl, .ref h, .int (iI ms)] [(h, .inr (4, [.ref k0, .ref k1, .ref k2, .ref k3, .ref k4, .ref k5, .int (nI n), .int (nI dy), .int (nI ch), .int (nI lw)])), (k0, aI cs 4 (tx_nf kd)), (k1, aI cs 4 (tx_nf wo)), (k2, aI cs 4 (tx_nf ha)), (k3, aI cs 4 (tx_nf we)), (k5, aI cs 20 (tx_bf bo)), (pl, .inr (2, [.ref g1, .ref g2, .ref g3, .ref yr, .int (iI bl), .int (iI bm)])), (g2, aG cs rb), (rb 0, aI cs 21 (M2 0)), (rb 1, aI cs 21 (M2 1)), (rb 2, aI cs 21 (M2 2)), (rb 3, aI cs 21 (M2 3))] [] (fun (r : Int32) (u : Unit) => r = nI (tx_yu n dy ch kd wo ha we bo lm 0 (-1) 0)) (fun _ => []) 0 0 := by
  unfold mI
  refine Met.ofW (cc := cX2_firstStart) (maxL := 4) (ret := (some .int)) (by decide) rfl ?_
  intro p e s m args below meth c s₁ B hml hv
  obtain ⟨rfl, hsz, hP, hK, hD0⟩ := hv
  have hx := B.exec
  have hb := B.bytes
  have hr := B.returns
  have hts := atoms_spec (ws := wsX2_firstStart) B.pre
  have hown : s.vm.findClass RX2 = some m.cls := findClass_of_methodNamed B.named
  have hlocks := B.notSynchronized
  subst hsz
  have hR := @en_R _ _ _ [(h, .inr (4, [.ref k0, .ref k1, .ref k2, .ref k3, .ref k4, .ref k5, .int (nI n), .int (nI dy), .int (nI ch), .int (nI lw)])), (k0, aI cs 4 (tx_nf kd)), (k1, aI cs 4 (tx_nf wo)), (k2, aI cs 4 (tx_nf ha)), (k3, aI cs 4 (tx_nf we)), (k5, aI cs 20 (tx_bf bo)), (pl, .inr (2, [.ref g1, .ref g2, .ref g3, .ref yr, .int (iI bl), .int (iI bm)])), (g2, aG cs rb), (rb 0, aI cs 21 (M2 0)), (rb 1, aI cs 21 (M2 1)), (rb 2, aI cs 21 (M2 2)), (rb 3, aI cs 21 (M2 3))] [] _ hP hD0
  have hN := adN_of hD0
  have hD := en_D (wr := [(h, .inr (4, [.ref k0, .ref k1, .ref k2, .ref k3, .ref k4, .ref k5, .int (nI n), .int (nI dy), .int (nI ch), .int (nI lw)])), (k0, aI cs 4 (tx_nf kd)), (k1, aI cs 4 (tx_nf wo)), (k2, aI cs 4 (tx_nf ha)), (k3, aI cs 4 (tx_nf we)), (k5, aI cs 20 (tx_bf bo)), (pl, .inr (2, [.ref g1, .ref g2, .ref g3, .ref yr, .int (iI bl), .int (iI bm)])), (g2, aG cs rb), (rb 0, aI cs 21 (M2 0)), (rb 1, aI cs 21 (M2 1)), (rb 2, aI cs 21 (M2 2)), (rb 3, aI cs 21 (M2 3))]) (ww := []) (sz := s.heap.size) hD0
  have hP := en_P (wr := [(h, .inr (4, [.ref k0, .ref k1, .ref k2, .ref k3, .ref k4, .ref k5, .int (nI n), .int (nI dy), .int (nI ch), .int (nI lw)])), (k0, aI cs 4 (tx_nf kd)), (k1, aI cs 4 (tx_nf wo)), (k2, aI cs 4 (tx_nf ha)), (k3, aI cs 4 (tx_nf we)), (k5, aI cs 20 (tx_bf bo)), (pl, .inr (2, [.ref g1, .ref g2, .ref g3, .ref yr, .int (iI bl), .int (iI bm)])), (g2, aG cs rb), (rb 0, aI cs 21 (M2 0)), (rb 1, aI cs 21 (M2 1)), (rb 2, aI cs 21 (M2 2)), (rb 3, aI cs 21 (M2 3))]) (ww := []) hP
  generalize hAe : va_A [] s.heap.size = A at hD hR ⊢
  have hA : ∀ q : Nat, s.heap.size ≤ q → A q := fun q h => by rw [← hAe]; exact Or.inr h
  have hS : va_S A s.heap s.heap [] := va_S.rf
  have hN : adN [h, k0, k1, k2, k3, k5, pl, g2, rb 0, rb 1, rb 2, rb 3] := hN
  have hf_16 := hts (.fieldLink RX2 16 "TaxedByLongest$Plan" "starts" "[[I") (by decide +kernel)
  have hf_33 := hts (.fieldLink RX2 33 "TaxedByLongest$Told" "things" "I") (by decide +kernel)
  have in_X2 : ∀ w ∈ wsX20, w ∈ wsX2_firstStart := by decide +kernel
  have in_X4 : ∀ w ∈ wsX40, w ∈ wsX2_firstStart := by decide +kernel
  have hl := lv_entry ([.ref pl, .ref h, .int (iI ms)]) (n := 4) (Nat.le_of_ble_eq_true rfl)
  rw [lg_entry_eq]
  generalize (lg_sl ([.ref pl, .ref h, .int (iI ms)]) ++ List.replicate (4 - (lg_sl ([.ref pl, .ref h, .int (iI ms)])).length) Slot.unset).toArray = ls at hl ⊢
  have hl : lv_has ls 4 [(0, .ref pl), (1, .ref h), (2, .int (iI ms))] := hl
  refine lv_iconst (v := 0) hx hb dX2_firstStart_0 (by decide) ?_
  refine lv_istore_n (lv' := [(3, .int 0), (0, .ref pl), (1, .ref h), (2, .int (iI ms))]) hx hb dX2_firstStart_1 rfl hl (by decide) rfl (fun ls hl => ?_)
  have loop2 : ∀ (n9 : Nat) (i : Nat) (hi : i ≤ n) (hq : ∀ v, v < i → ¬ tx_on n dy ch kd wo ha we bo lm 0 (-1) 0 v = tx_mx (fun v => tx_on n dy ch kd wo ha we bo lm 0 (-1) 0 v) n), n - i < n9 → ∀ (H : Heap) (locs : List Loc), va_P D vwCl [] H → va_D A [] → va_S A s.heap H locs → ∀ (ls : Array Slot), lv_has ls 4 [(0, .ref pl), (1, .ref h), (2, .int (iI ms)), (3, .int (nI i))] → W p l e (headSpec wsX2_firstStart ({ frames := 0, cells := 0, slots := 0, locals := 0 } : Room)).room s m ([.ref pl, .ref h, .int (iI ms)] : List Value).toArray below meth c H locs 0 0 (MQ below (va_Qi (fun (r : Int32) (u : Unit) => r = nI (tx_yu n dy ch kd wo ha we bo lm 0 (-1) 0)) (QB D (fun _ => []) A) A) ([.ref pl, .ref h, .int (iI ms)] : List Value).toArray s 0 0 A) (F0 m 2 ls []) := by
    intro n9
    induction n9 with
    | zero => intros; omega
    | succ n9 ih2 =>
      intro i hi hq hmu H locs hP hD hS ls hl
      refine lv_iload_n hx hb dX2_firstStart_2 rfl (lv_at hl 3 rfl) ?_
      refine lv_aload_n hx hb dX2_firstStart_3 rfl (lv_at hl 1 rfl) ?_
      refine va_get (D := D) (ci := 4) (v := .int (nI n)) (C := RX4) (T := TX4) (N := 10) hx hb hts in_X4 hown hK (hR hS) 0 rfl rfl 6 (by decide) hf_33 (fun _ h9 => h9) rfl dX2_firstStart_4 ?_
      refine bn_ge (a := i) (b := n) (tgt := 30) hx hb rfl rfl (by omega) (by omega) dX2_firstStart_7 (by decide) (fun c7 => ?_) (fun c7 => ?_)
      · exfalso
        obtain ⟨v, h9, h8⟩ := tx_yu_lt (n := n) (dy := dy) (ch := ch) (kd := kd) (wo := wo) (ha := ha) (we := we) (bo := bo) (l := lm) hwo hha hwe hch hdy hn0 0 (-1) 0
        exact hq v (by omega) h8
      · refine lv_aload_n hx hb dX2_firstStart_10 rfl (lv_at hl 0 rfl) ?_
        refine va_get (D := D) (ci := 2) (v := .ref g2) (C := RX2) (T := TX2) (N := 6) hx hb hts in_X2 hown hK (hR hS) 6 rfl rfl 1 (by decide) hf_16 (fun _ h9 => h9) rfl dX2_firstStart_11 ?_
        refine lv_iload_n hx hb dX2_firstStart_14 rfl (lv_at hl 3 rfl) ?_
        refine gr_ald (ra := rb) hx hb hK (hR hS) 7 3 rfl rfl (j := i) rfl (by omega) dX2_firstStart_15 ?_
        refine lv_iconst (v := 0) hx hb dX2_firstStart_16 (by decide) ?_
        refine ia_n (f := M2 i) hx hb hK (hR hS) (8 + i) 0 (row4 (w := [(h, .inr (4, [.ref k0, .ref k1, .ref k2, .ref k3, .ref k4, .ref k5, .int (nI n), .int (nI dy), .int (nI ch), .int (nI lw)])), (k0, aI cs 4 (tx_nf kd)), (k1, aI cs 4 (tx_nf wo)), (k2, aI cs 4 (tx_nf ha)), (k3, aI cs 4 (tx_nf we)), (k5, aI cs 20 (tx_bf bo)), (pl, .inr (2, [.ref g1, .ref g2, .ref g3, .ref yr, .int (iI bl), .int (iI bm)])), (g2, aG cs rb), (rb 0, aI cs 21 (M2 0)), (rb 1, aI cs 21 (M2 1)), (rb 2, aI cs 21 (M2 2)), (rb 3, aI cs 21 (M2 3))]) (q := 8) (ra := rb) (g := fun i => aI cs 21 (M2 i)) rfl rfl rfl rfl (by omega)) rfl (j := 0) rfl (by decide) (by decide) dX2_firstStart_17 ?_
        have hSb := tx_S_b (n := n) (dy := dy) (ch := ch) (kd := kd) (wo := wo) (ha := ha) (we := we) (bo := bo) (l := lm) hwo hha hwe hch hdy 0 i
        have hab := tx_aw_b (n := n) (dy := dy) (ch := ch) (kd := kd) (wo := wo) (ha := ha) (we := we) (bo := bo) (l := lm) hwo hha hwe hch hdy
        have hon : tx_S n dy ch kd wo ha we bo lm 0 i = tx_on n dy ch kd wo ha we bo lm 0 (-1) 0 i := tx_on_1.symm
        refine tp_i (show M2 i 0 = iI (tx_on n dy ch kd wo ha we bo lm 0 (-1) 0 i) from (hM2 i (by omega) 0 (by omega)).trans (by rw [hon])) ?_
        refine lv_iload_n hx hb dX2_firstStart_18 rfl (lv_at hl 2 rfl) ?_
        refine bi_ne (a := tx_on n dy ch kd wo ha we bo lm 0 (-1) 0 i) (b := ms) (tgt := 24) hx hb rfl rfl (by omega) (by omega) (by omega) (by omega) dX2_firstStart_19 (by decide) (fun c19 => ?_) (fun c19 => ?_)
        · refine lv_iinc (v := nI (i + 1)) (lv' := [(3, .int (nI (i + 1))), (0, .ref pl), (1, .ref h), (2, .int (iI ms))]) hx hb dX2_firstStart_24 hl (k := 3) rfl (inc_n i 1) (by decide) rfl (fun ls hl => ?_)
          refine lv_goto (tgt := 2) hx hb dX2_firstStart_27 (by decide) ?_
          exact ih2 (i + 1) (by first | assumption | omega) (fun v h9 => by by_cases e : v = i; (rw [e, ← tx_aw_on, ← hms]; exact c19); (exact hq v (by omega))) (by omega) _ _ hP hD hS ls (lv_sub hl [1, 2, 3, 0] rfl)
        · refine lv_iload_n hx hb dX2_firstStart_22 rfl (lv_at hl 3 rfl) ?_
          exact rt_i hx hb hr hlocks () (by rw [tx_yu_of (by omega) hq (by rw [← tx_aw_on, ← hms]; exact c19)]) hP hD hS dX2_firstStart_23
  exact loop2 _ 0 (by first | assumption | omega) (fun v h9 => absurd h9 (Nat.not_lt_zero v)) (Nat.lt_succ_self _) _ _ hP hD hS ls (lv_sub hl [1, 2, 3, 0] rfl)
set_option maxHeartbeats 4000000 in
set_option maxRecDepth 100000 in
theorem c_X2_turnsTo (l : Launch) (D : va_G) (cs : Nat → ClassId) (sz : Nat) (h : Nat) (k0 : Nat) (k1 : Nat) (k2 : Nat) (k3 : Nat) (k4 : Nat) (k5 : Nat) (n : Nat) (dy : Nat) (ch : Nat) (lw : Nat) (kd : Nat → Nat) (wo : Nat → Nat) (ha : Nat → Nat) (we : Nat → Nat) (bo : Nat → Option Nat) (pl : Nat) (g1 : Nat) (g2 : Nat) (g3 : Nat) (yr : Nat) (bl : Int) (bm : Int) (rb : Nat → Nat) (M2 : Nat → Nat → Int32) (ux : Nat) (d : Nat) (lm : Nat) (du : Int) (hn : n ≤ 4) (hdy : dy ≤ 20) (hwo : ∀ e, wo e ≤ 9) (hha : ∀ e, ha e ≤ 3) (hwe : ∀ e, we e ≤ 3) (hch : ch ≤ 9) (hM2 : ∀ t, t < n → ∀ e, e < dy → M2 t e = iI (tx_S n dy ch kd wo ha we bo lm e t)) (hu : ux < n) (hd : d < dy) (hdu : -2000 ≤ du ∧ du ≤ 2000) : mI (S := Unit) l yX2_turnsTo wsX2_turnsTo ({ frames := 0, cells := 0, slots := 0, locals := 0 } : Room) D (tyc cs) sz [.ref pl, .ref h, .int (nI ux), .int (nI d), .int (iI du)] [(h, .inr (4, [.ref k0, .ref k1, .ref k2, .ref k3, .ref k4, .ref k5, .int (nI n), .int (nI dy), .int (nI ch), .int (nI lw)])), (k0, aI cs 4 (tx_nf kd)), (k1, aI cs 4 (tx_nf wo)), (k2, aI cs 4 (tx_nf ha)), (k3, aI cs 4 (tx_nf we)), (k5, aI cs 20 (tx_bf bo)), (pl, .inr (2, [.ref g1, .ref g2, .ref g3, .ref yr, .int (iI bl), .int (iI bm)])), (g2, aG cs rb), (rb 0, aI cs 21 (M2 0)), (rb 1, aI cs 21 (M2 1)), (rb 2, aI cs 21 (M2 2)), (rb 3, aI cs 21 (M2 3))] [] (fun (r : Int32) (u : Unit) => r = bI (decide (tx_S n dy ch kd wo ha we bo lm d ux ≠ -999 ∧ tx_S n dy ch kd wo ha we bo lm d ux - (ch : Int) = du))) (fun _ => []) 0 0 := by
  unfold mI
  refine Met.ofW (cc := cX2_turnsTo) (maxL := 5) (ret := (some .boolean)) (by decide) rfl ?_
  intro p e s m args below meth c s₁ B hml hv
  obtain ⟨rfl, hsz, hP, hK, hD0⟩ := hv
  have hx := B.exec
  have hb := B.bytes
  have hr := B.returns
  have hts := atoms_spec (ws := wsX2_turnsTo) B.pre
  have hown : s.vm.findClass RX2 = some m.cls := findClass_of_methodNamed B.named
  have hlocks := B.notSynchronized
  subst hsz
  have hR := @en_R _ _ _ [(h, .inr (4, [.ref k0, .ref k1, .ref k2, .ref k3, .ref k4, .ref k5, .int (nI n), .int (nI dy), .int (nI ch), .int (nI lw)])), (k0, aI cs 4 (tx_nf kd)), (k1, aI cs 4 (tx_nf wo)), (k2, aI cs 4 (tx_nf ha)), (k3, aI cs 4 (tx_nf we)), (k5, aI cs 20 (tx_bf bo)), (pl, .inr (2, [.ref g1, .ref g2, .ref g3, .ref yr, .int (iI bl), .int (iI bm)])), (g2, aG cs rb), (rb 0, aI cs 21 (M2 0)), (rb 1, aI cs 21 (M2 1)), (rb 2, aI cs 21 (M2 2)), (rb 3, aI cs 21 (M2 3))] [] _ hP hD0
  have hN := adN_of hD0
  have hD := en_D (wr := [(h, .inr (4, [.ref k0, .ref k1, .ref k2, .ref k3, .ref k4, .ref k5, .int (nI n), .int (nI dy), .int (nI ch), .int (nI lw)])), (k0, aI cs 4 (tx_nf kd)), (k1, aI cs 4 (tx_nf wo)), (k2, aI cs 4 (tx_nf ha)), (k3, aI cs 4 (tx_nf we)), (k5, aI cs 20 (tx_bf bo)), (pl, .inr (2, [.ref g1, .ref g2, .ref g3, .ref yr, .int (iI bl), .int (iI bm)])), (g2, aG cs rb), (rb 0, aI cs 21 (M2 0)), (rb 1, aI cs 21 (M2 1)), (rb 2, aI cs 21 (M2 2)), (rb 3, aI cs 21 (M2 3))]) (ww := []) (sz := s.heap.size) hD0
  have hP := en_P (wr := [(h, .inr (4, [.ref k0, .ref k1, .ref k2, .ref k3, .ref k4, .ref k5, .int (nI n), .int (nI dy), .int (nI ch), .int (nI lw)])), (k0, aI cs 4 (tx_nf kd)), (k1, aI cs 4 (tx_nf wo)), (k2, aI cs 4 (tx_nf ha)), (k3, aI cs 4 (tx_nf we)), (k5, aI cs 20 (tx_bf bo)), (pl, .inr (2, [.ref g1, .ref g2, .ref g3, .ref yr, .int (iI bl), .int (iI bm)])), (g2, aG cs rb), (rb 0, aI cs 21 (M2 0)), (rb 1, aI cs 21 (M2 1)), (rb 2, aI cs 21 (M2 2)), (rb 3, aI cs 21 (M2 3))]) (ww := []) hP
  generalize hAe : va_A [] s.heap.size = A at hD hR ⊢
  have hA : ∀ q : Nat, s.heap.size ≤ q → A q := fun q h => by rw [← hAe]; exact Or.inr h
  have hS : va_S A s.heap s.heap [] := va_S.rf
  have hN : adN [h, k0, k1, k2, k3, k5, pl, g2, rb 0, rb 1, rb 2, rb 3] := hN
  have hf_16 := hts (.fieldLink RX2 16 "TaxedByLongest$Plan" "starts" "[[I") (by decide +kernel)
  have hf_72 := hts (.fieldLink RX2 72 "TaxedByLongest$Told" "change" "I") (by decide +kernel)
  have in_X2 : ∀ w ∈ wsX20, w ∈ wsX2_turnsTo := by decide +kernel
  have in_X4 : ∀ w ∈ wsX40, w ∈ wsX2_turnsTo := by decide +kernel
  have hl := lv_entry ([.ref pl, .ref h, .int (nI ux), .int (nI d), .int (iI du)]) (n := 5) (Nat.le_of_ble_eq_true rfl)
  rw [lg_entry_eq]
  generalize (lg_sl ([.ref pl, .ref h, .int (nI ux), .int (nI d), .int (iI du)]) ++ List.replicate (5 - (lg_sl ([.ref pl, .ref h, .int (nI ux), .int (nI d), .int (iI du)])).length) Slot.unset).toArray = ls at hl ⊢
  have hl : lv_has ls 5 [(0, .ref pl), (1, .ref h), (2, .int (nI ux)), (3, .int (nI d)), (4, .int (iI du))] := hl
  refine lv_aload_n hx hb dX2_turnsTo_0 rfl (lv_at hl 0 rfl) ?_
  refine va_get (D := D) (ci := 2) (v := .ref g2) (C := RX2) (T := TX2) (N := 6) hx hb hts in_X2 hown hK (hR hS) 6 rfl rfl 1 (by decide) hf_16 (fun _ h9 => h9) rfl dX2_turnsTo_1 ?_
  refine lv_iload_n hx hb dX2_turnsTo_4 rfl (lv_at hl 2 rfl) ?_
  refine gr_ald (ra := rb) hx hb hK (hR hS) 7 3 rfl rfl (j := ux) rfl (by omega) dX2_turnsTo_5 ?_
  refine lv_iload_n hx hb dX2_turnsTo_6 rfl (lv_at hl 3 rfl) ?_
  refine ia_n (f := M2 ux) hx hb hK (hR hS) (8 + ux) 0 (row4 (w := [(h, .inr (4, [.ref k0, .ref k1, .ref k2, .ref k3, .ref k4, .ref k5, .int (nI n), .int (nI dy), .int (nI ch), .int (nI lw)])), (k0, aI cs 4 (tx_nf kd)), (k1, aI cs 4 (tx_nf wo)), (k2, aI cs 4 (tx_nf ha)), (k3, aI cs 4 (tx_nf we)), (k5, aI cs 20 (tx_bf bo)), (pl, .inr (2, [.ref g1, .ref g2, .ref g3, .ref yr, .int (iI bl), .int (iI bm)])), (g2, aG cs rb), (rb 0, aI cs 21 (M2 0)), (rb 1, aI cs 21 (M2 1)), (rb 2, aI cs 21 (M2 2)), (rb 3, aI cs 21 (M2 3))]) (q := 8) (ra := rb) (g := fun i => aI cs 21 (M2 i)) rfl rfl rfl rfl (by omega)) rfl (j := d) rfl (by omega) (by decide) dX2_turnsTo_7 ?_
  have hSb := tx_S_b (n := n) (dy := dy) (ch := ch) (kd := kd) (wo := wo) (ha := ha) (we := we) (bo := bo) (l := lm) hwo hha hwe hch hdy d ux
  refine tp_i (show M2 ux d = iI (tx_S n dy ch kd wo ha we bo lm d ux) from hM2 ux hu d hd) ?_
  refine lv_sipush (v := (-999)) hx hb dX2_turnsTo_8 (by decide) ?_
  refine bi_eq (a := tx_S n dy ch kd wo ha we bo lm d ux) (b := (-999)) (tgt := 36) hx hb rfl (by decide) (by omega) (by omega) (by omega) (by omega) dX2_turnsTo_11 (by decide) (fun c11 => ?_) (fun c11 => ?_)
  · refine lv_iconst (v := 0) hx hb dX2_turnsTo_36 (by decide) ?_
    exact rt_z hx hb hr rfl hlocks () (by rw [decide_eq_false (show ¬ (tx_S n dy ch kd wo ha we bo lm d ux ≠ -999 ∧ tx_S n dy ch kd wo ha we bo lm d ux - (ch : Int) = du) from fun z => z.1 c11)]; rfl) hP hD hS dX2_turnsTo_37
  · refine lv_aload_n hx hb dX2_turnsTo_14 rfl (lv_at hl 0 rfl) ?_
    refine va_get (D := D) (ci := 2) (v := .ref g2) (C := RX2) (T := TX2) (N := 6) hx hb hts in_X2 hown hK (hR hS) 6 rfl rfl 1 (by decide) hf_16 (fun _ h9 => h9) rfl dX2_turnsTo_15 ?_
    refine lv_iload_n hx hb dX2_turnsTo_18 rfl (lv_at hl 2 rfl) ?_
    refine gr_ald (ra := rb) hx hb hK (hR hS) 7 3 rfl rfl (j := ux) rfl (by omega) dX2_turnsTo_19 ?_
    refine lv_iload_n hx hb dX2_turnsTo_20 rfl (lv_at hl 3 rfl) ?_
    refine ia_n (f := M2 ux) hx hb hK (hR hS) (8 + ux) 0 (row4 (w := [(h, .inr (4, [.ref k0, .ref k1, .ref k2, .ref k3, .ref k4, .ref k5, .int (nI n), .int (nI dy), .int (nI ch), .int (nI lw)])), (k0, aI cs 4 (tx_nf kd)), (k1, aI cs 4 (tx_nf wo)), (k2, aI cs 4 (tx_nf ha)), (k3, aI cs 4 (tx_nf we)), (k5, aI cs 20 (tx_bf bo)), (pl, .inr (2, [.ref g1, .ref g2, .ref g3, .ref yr, .int (iI bl), .int (iI bm)])), (g2, aG cs rb), (rb 0, aI cs 21 (M2 0)), (rb 1, aI cs 21 (M2 1)), (rb 2, aI cs 21 (M2 2)), (rb 3, aI cs 21 (M2 3))]) (q := 8) (ra := rb) (g := fun i => aI cs 21 (M2 i)) rfl rfl rfl rfl (by omega)) rfl (j := d) rfl (by omega) (by decide) dX2_turnsTo_21 ?_
    refine tp_i (show M2 ux d = iI (tx_S n dy ch kd wo ha we bo lm d ux) from hM2 ux hu d hd) ?_
    refine lv_aload_n hx hb dX2_turnsTo_22 rfl (lv_at hl 1 rfl) ?_
    refine va_get (D := D) (ci := 4) (v := .int (nI ch)) (C := RX4) (T := TX4) (N := 10) hx hb hts in_X4 hown hK (hR hS) 0 rfl rfl 8 (by decide) hf_72 (fun _ h9 => h9) rfl dX2_turnsTo_23 ?_
    refine lv_isub hx hb dX2_turnsTo_26 ?_
    refine tp_i (sub_iI (a := tx_S n dy ch kd wo ha we bo lm d ux) (b := (ch : Int)) rfl (nI_iI _)) ?_
    refine lv_iload hx hb dX2_turnsTo_27 (lv_at hl 4 rfl) ?_
    refine bi_ne (a := (tx_S n dy ch kd wo ha we bo lm d ux) - (ch : Int)) (b := du) (tgt := 36) hx hb rfl rfl (by omega) (by omega) (by omega) (by omega) dX2_turnsTo_29 (by decide) (fun c29 => ?_) (fun c29 => ?_)
    · refine lv_iconst (v := 0) hx hb dX2_turnsTo_36 (by decide) ?_
      exact rt_z hx hb hr rfl hlocks () (by rw [decide_eq_false (show ¬ (tx_S n dy ch kd wo ha we bo lm d ux ≠ -999 ∧ tx_S n dy ch kd wo ha we bo lm d ux - (ch : Int) = du) from fun z => c29 z.2)]; rfl) hP hD hS dX2_turnsTo_37
    · refine lv_iconst (v := 1) hx hb dX2_turnsTo_32 (by decide) ?_
      refine lv_goto (tgt := 37) hx hb dX2_turnsTo_33 (by decide) ?_
      exact rt_z hx hb hr rfl hlocks () (by rw [decide_eq_true (show _ ∧ _ from ⟨c11, c29⟩)]; rfl) hP hD hS dX2_turnsTo_37
set_option maxHeartbeats 4000000 in
set_option maxRecDepth 100000 in
theorem c_X2_goesOn (l : Launch) (D : va_G) (cs : Nat → ClassId) (sz : Nat) (h : Nat) (k0 : Nat) (k1 : Nat) (k2 : Nat) (k3 : Nat) (k4 : Nat) (k5 : Nat) (n : Nat) (dy : Nat) (ch : Nat) (lw : Nat) (kd : Nat → Nat) (wo : Nat → Nat) (ha : Nat → Nat) (we : Nat → Nat) (bo : Nat → Option Nat) (pl : Nat) (g1 : Nat) (g2 : Nat) (g3 : Nat) (yr : Nat) (bl : Int) (bm : Int) (ra : Nat → Nat) (rb : Nat → Nat) (rc : Nat → Nat) (M1 : Nat → Nat → Int32) (M2 : Nat → Nat → Int32) (M3 : Nat → Nat → Int32) (yf : Nat → Int32) (t : Nat) (a : Nat) (d : Nat) (lm : Nat) (hn : n ≤ 4) (hdy : dy ≤ 20) (hbo : tx_okb bo) (hkd : ∀ e, kd e ≤ 5) (hwo : ∀ e, wo e ≤ 9) (hha : ∀ e, ha e ≤ 3) (hwe : ∀ e, we e ≤ 3) (hch : ch ≤ 9) (hl9 : lm ≤ 20) (hbm : bm = (lm : Int)) (hM1 : ∀ t, t < n → ∀ m, m ≤ dy → M1 t m = iI (tx_sm kd wo ha we t m)) (hM2 : ∀ t, t < n → ∀ e, e < dy → M2 t e = iI (tx_S n dy ch kd wo ha we bo lm e t)) (hM3 : ∀ t, t < n → ∀ e, e ≤ dy → M3 t e = iI (tx_R n dy ch kd wo ha we bo lm e t)) (hyf : yf a = nI t) (ht : t < n) (had : a < d) (hd : d < dy) (hin : tx_in n dy ch kd wo ha we bo lm a t d) : mI (S := Unit) l yX2_goesOn wsX2_goesOn ({ frames := 3, cells := 0, slots := 0, locals := 68 } : Room) D (tyc cs) sz [.ref pl, .ref h, .int (nI a), .int (nI d)] [(h, .inr (4, [.ref k0, .ref k1, .ref k2, .ref k3, .ref k4, .ref k5, .int (nI n), .int (nI dy), .int (nI ch), .int (nI lw)])), (k0, aI cs 4 (tx_nf kd)), (k1, aI cs 4 (tx_nf wo)), (k2, aI cs 4 (tx_nf ha)), (k3, aI cs 4 (tx_nf we)), (k5, aI cs 20 (tx_bf bo)), (pl, .inr (2, [.ref g1, .ref g2, .ref g3, .ref yr, .int (iI bl), .int (iI bm)])), (g1, aG cs ra), (ra 0, aI cs 21 (M1 0)), (ra 1, aI cs 21 (M1 1)), (ra 2, aI cs 21 (M1 2)), (ra 3, aI cs 21 (M1 3)), (g2, aG cs rb), (rb 0, aI cs 21 (M2 0)), (rb 1, aI cs 21 (M2 1)), (rb 2, aI cs 21 (M2 2)), (rb 3, aI cs 21 (M2 3)), (g3, aG cs rc), (rc 0, aI cs 21 (M3 0)), (rc 1, aI cs 21 (M3 1)), (rc 2, aI cs 21 (M3 2)), (rc 3, aI cs 21 (M3 3)), (yr, aI cs 20 yf)] [] (fun (r : Int32) (u : Unit) => r = bI (decide (tx_on n dy ch kd wo ha we bo lm d (t : Int) (d - a) t = tx_mx (fun v => tx_on n dy ch kd wo ha we bo lm d (t : Int) (d - a) v) n))) (fun _ => []) 0 0 := by
  unfold mI
  refine Met.ofW (cc := cX2_goesOn) (maxL := 7) (ret := (some .boolean)) (by decide) rfl ?_
  intro p e s m args below meth c s₁ B hml hv
  obtain ⟨rfl, hsz, hP, hK, hD0⟩ := hv
  have hx := B.exec
  have hb := B.bytes
  have hr := B.returns
  have hts := atoms_spec (ws := wsX2_goesOn) B.pre
  have hown : s.vm.findClass RX2 = some m.cls := findClass_of_methodNamed B.named
  have hlocks := B.notSynchronized
  subst hsz
  have hR := @en_R _ _ _ [(h, .inr (4, [.ref k0, .ref k1, .ref k2, .ref k3, .ref k4, .ref k5, .int (nI n), .int (nI dy), .int (nI ch), .int (nI lw)])), (k0, aI cs 4 (tx_nf kd)), (k1, aI cs 4 (tx_nf wo)), (k2, aI cs 4 (tx_nf ha)), (k3, aI cs 4 (tx_nf we)), (k5, aI cs 20 (tx_bf bo)), (pl, .inr (2, [.ref g1, .ref g2, .ref g3, .ref yr, .int (iI bl), .int (iI bm)])), (g1, aG cs ra), (ra 0, aI cs 21 (M1 0)), (ra 1, aI cs 21 (M1 1)), (ra 2, aI cs 21 (M1 2)), (ra 3, aI cs 21 (M1 3)), (g2, aG cs rb), (rb 0, aI cs 21 (M2 0)), (rb 1, aI cs 21 (M2 1)), (rb 2, aI cs 21 (M2 2)), (rb 3, aI cs 21 (M2 3)), (g3, aG cs rc), (rc 0, aI cs 21 (M3 0)), (rc 1, aI cs 21 (M3 1)), (rc 2, aI cs 21 (M3 2)), (rc 3, aI cs 21 (M3 3)), (yr, aI cs 20 yf)] [] _ hP hD0
  have hN := adN_of hD0
  have hD := en_D (wr := [(h, .inr (4, [.ref k0, .ref k1, .ref k2, .ref k3, .ref k4, .ref k5, .int (nI n), .int (nI dy), .int (nI ch), .int (nI lw)])), (k0, aI cs 4 (tx_nf kd)), (k1, aI cs 4 (tx_nf wo)), (k2, aI cs 4 (tx_nf ha)), (k3, aI cs 4 (tx_nf we)), (k5, aI cs 20 (tx_bf bo)), (pl, .inr (2, [.ref g1, .ref g2, .ref g3, .ref yr, .int (iI bl), .int (iI bm)])), (g1, aG cs ra), (ra 0, aI cs 21 (M1 0)), (ra 1, aI cs 21 (M1 1)), (ra 2, aI cs 21 (M1 2)), (ra 3, aI cs 21 (M1 3)), (g2, aG cs rb), (rb 0, aI cs 21 (M2 0)), (rb 1, aI cs 21 (M2 1)), (rb 2, aI cs 21 (M2 2)), (rb 3, aI cs 21 (M2 3)), (g3, aG cs rc), (rc 0, aI cs 21 (M3 0)), (rc 1, aI cs 21 (M3 1)), (rc 2, aI cs 21 (M3 2)), (rc 3, aI cs 21 (M3 3)), (yr, aI cs 20 yf)]) (ww := []) (sz := s.heap.size) hD0
  have hP := en_P (wr := [(h, .inr (4, [.ref k0, .ref k1, .ref k2, .ref k3, .ref k4, .ref k5, .int (nI n), .int (nI dy), .int (nI ch), .int (nI lw)])), (k0, aI cs 4 (tx_nf kd)), (k1, aI cs 4 (tx_nf wo)), (k2, aI cs 4 (tx_nf ha)), (k3, aI cs 4 (tx_nf we)), (k5, aI cs 20 (tx_bf bo)), (pl, .inr (2, [.ref g1, .ref g2, .ref g3, .ref yr, .int (iI bl), .int (iI bm)])), (g1, aG cs ra), (ra 0, aI cs 21 (M1 0)), (ra 1, aI cs 21 (M1 1)), (ra 2, aI cs 21 (M1 2)), (ra 3, aI cs 21 (M1 3)), (g2, aG cs rb), (rb 0, aI cs 21 (M2 0)), (rb 1, aI cs 21 (M2 1)), (rb 2, aI cs 21 (M2 2)), (rb 3, aI cs 21 (M2 3)), (g3, aG cs rc), (rc 0, aI cs 21 (M3 0)), (rc 1, aI cs 21 (M3 1)), (rc 2, aI cs 21 (M3 2)), (rc 3, aI cs 21 (M3 3)), (yr, aI cs 20 yf)]) (ww := []) hP
  generalize hAe : va_A [] s.heap.size = A at hD hR ⊢
  have hA : ∀ q : Nat, s.heap.size ≤ q → A q := fun q h => by rw [← hAe]; exact Or.inr h
  have hS : va_S A s.heap s.heap [] := va_S.rf
  have hN : adN [h, k0, k1, k2, k3, k5, pl, g1, ra 0, ra 1, ra 2, ra 3, g2, rb 0, rb 1, rb 2, rb 3, g3, rc 0, rc 1, rc 2, rc 3, yr] := hN
  have hf_11 := hts (.fieldLink RX2 11 "TaxedByLongest$Plan" "sums" "[[I") (by decide +kernel)
  have hf_16 := hts (.fieldLink RX2 16 "TaxedByLongest$Plan" "starts" "[[I") (by decide +kernel)
  have hf_19 := hts (.fieldLink RX2 19 "TaxedByLongest$Plan" "rests" "[[I") (by decide +kernel)
  have hf_22 := hts (.fieldLink RX2 22 "TaxedByLongest$Plan" "year" "[I") (by decide +kernel)
  have hf_30 := hts (.fieldLink RX2 30 "TaxedByLongest$Plan" "bestLimit" "I") (by decide +kernel)
  have in_X2 : ∀ w ∈ wsX20, w ∈ wsX2_goesOn := by decide +kernel
  have hl := lv_entry ([.ref pl, .ref h, .int (nI a), .int (nI d)]) (n := 7) (Nat.le_of_ble_eq_true rfl)
  rw [lg_entry_eq]
  generalize (lg_sl ([.ref pl, .ref h, .int (nI a), .int (nI d)]) ++ List.replicate (7 - (lg_sl ([.ref pl, .ref h, .int (nI a), .int (nI d)])).length) Slot.unset).toArray = ls at hl ⊢
  have hl : lv_has ls 7 [(0, .ref pl), (1, .ref h), (2, .int (nI a)), (3, .int (nI d))] := hl
  refine lv_aload_n hx hb dX2_goesOn_0 rfl (lv_at hl 0 rfl) ?_
  refine va_get (D := D) (ci := 2) (v := .ref yr) (C := RX2) (T := TX2) (N := 6) hx hb hts in_X2 hown hK (hR hS) 6 rfl rfl 3 (by decide) hf_22 (fun _ h9 => h9) rfl dX2_goesOn_1 ?_
  refine lv_iload_n hx hb dX2_goesOn_4 rfl (lv_at hl 2 rfl) ?_
  refine ia_n (f := yf) hx hb hK (hR hS) 22 0 rfl rfl (j := a) rfl (by omega) (by decide) dX2_goesOn_5 ?_
  refine tp_i (show yf a = nI t from hyf) ?_
  refine lv_istore (lv' := [(4, .int (nI t)), (0, .ref pl), (1, .ref h), (2, .int (nI a)), (3, .int (nI d))]) hx hb dX2_goesOn_6 hl (by decide) rfl (fun ls hl => ?_)
  refine lv_aload_n hx hb dX2_goesOn_8 rfl (lv_at hl 1 rfl) ?_
  refine lv_aload_n hx hb dX2_goesOn_9 rfl (lv_at hl 2 rfl) ?_
  refine lv_iload hx hb dX2_goesOn_10 (lv_at hl 0 rfl) ?_
  refine lv_iload_n hx hb dX2_goesOn_12 rfl (lv_at hl 3 rfl) ?_
  refine lv_aload_n hx hb dX2_goesOn_13 rfl (lv_at hl 1 rfl) ?_
  refine va_get (D := D) (ci := 2) (v := .int (iI bm)) (C := RX2) (T := TX2) (N := 6) hx hb hts in_X2 hown hK (hR hS) 6 rfl rfl 5 (by decide) hf_30 (fun _ h9 => h9) rfl dX2_goesOn_14 ?_
  refine tp_i (show iI bm = nI lm from by rw [hbm]; exact (nI_iI _).symm) ?_
  refine cV_i (As := [.ref h, .int (nI t), .int (nI a), .int (nI lm)]) (rest := []) (cr := [(h, .inr (4, [.ref k0, .ref k1, .ref k2, .ref k3, .ref k4, .ref k5, .int (nI n), .int (nI dy), .int (nI ch), .int (nI lw)])), (k0, aI cs 4 (tx_nf kd)), (k5, aI cs 20 (tx_bf bo)), (pl, .inr (2, [.ref g1, .ref g2, .ref g3, .ref yr, .int (iI bl), .int (iI bm)]))]) (cw1 := []) ⟨hx, hb, hml, hown, hts⟩ (c_X2_lastEnd l D cs _ h k0 k1 k2 k3 k4 k5 n dy ch lw kd bo pl g1 g2 g3 yr bl bm t a lm (by first | assumption | omega) (by first | assumption | omega) (by first | assumption | omega) (by first | assumption | omega) (by omega) (by omega) (by first | assumption | omega)) (cwV 4 hts gX2_goesOn_X2_lastEnd rfl rfl rfl (by decide +kernel) ⟨Nat.le_of_ble_eq_true rfl, Nat.le_of_ble_eq_true rfl⟩) hK hP hD hS hA (((hR hS).app hP).sub [0, 1, 5, 6] rfl) (dt_of hN [0, 1, 5, 6] (by decide) rfl) [] rfl 3 rfl rfl rfl hl.1 rfl (Nat.le_of_ble_eq_true rfl) dX2_goesOn_17 ⟨Nat.le_of_ble_eq_true rfl, Nat.le_of_ble_eq_true rfl⟩ (fun _ => rfl) (fun _ => rfl) (fun r_1 u9 H locs hw_2 hP hD hS => ?_)
  obtain ⟨u_3, rfl⟩ : ∃ z, z = u9 := ⟨_, rfl⟩
  have hP : va_P D vwCl [] H := hP
  have hD : va_D A [] := hD
  obtain ⟨hw_2_0, hw_2⟩ := hw_2
  subst r_1
  have hE := hw_2
  have hE1 := hE.1
  have hE2 := hE.2.1
  have hgo := tx_goes (n := n) (dy := dy) (ch := ch) (kd := kd) (wo := wo) (ha := ha) (we := we) (bo := bo) (l := lm) hwo hha hwe hch hdy had hd ht hE hin
  have hSb := tx_S_b (n := n) (dy := dy) (ch := ch) (kd := kd) (wo := wo) (ha := ha) (we := we) (bo := bo) (l := lm) hwo hha hwe hch hdy a t
  have hdu := hin.2.2 _ hE
  refine lv_istore (lv' := [(5, .int (nI u_3)), (4, .int (nI t)), (0, .ref pl), (1, .ref h), (2, .int (nI a)), (3, .int (nI d))]) hx hb dX2_goesOn_20 hl (by decide) rfl (fun ls hl => ?_)
  refine lv_iload_n hx hb dX2_goesOn_22 rfl (lv_at hl 5 rfl) ?_
  refine lv_iconst (v := 1) hx hb dX2_goesOn_23 (by decide) ?_
  refine lv_iadd hx hb dX2_goesOn_24 ?_
  refine tp_i (nI_add d 1) ?_
  refine lv_istore (lv' := [(6, .int (nI (d + 1))), (5, .int (nI u_3)), (4, .int (nI t)), (0, .ref pl), (1, .ref h), (2, .int (nI a)), (3, .int (nI d))]) hx hb dX2_goesOn_25 hl (by decide) rfl (fun ls hl => ?_)
  have loop27 : ∀ (n9 : Nat) (nx : Nat) (h1 : d + 1 ≤ nx) (h2 : nx ≤ u_3 + 1) (hle : tx_gt n dy ch kd wo ha we bo lm a t u_3 nx ≤ tx_S n dy ch kd wo ha we bo lm a t) (hiff : tx_gt n dy ch kd wo ha we bo lm a t u_3 (d + 1) = tx_S n dy ch kd wo ha we bo lm a t ↔ tx_gt n dy ch kd wo ha we bo lm a t u_3 nx = tx_S n dy ch kd wo ha we bo lm a t), u_3 + 1 - nx < n9 → ∀ (H : Heap) (locs : List Loc), va_P D vwCl [] H → va_D A [] → va_S A s.heap H locs → ∀ (ls : Array Slot), lv_has ls 7 [(0, .ref pl), (1, .ref h), (2, .int (nI a)), (3, .int (nI d)), (4, .int (nI t)), (5, .int (nI u_3)), (6, .int (nI nx))] → W p l e (headSpec wsX2_goesOn ({ frames := 3, cells := 0, slots := 0, locals := 68 } : Room)).room s m ([.ref pl, .ref h, .int (nI a), .int (nI d)] : List Value).toArray below meth c H locs 0 0 (MQ below (va_Qi (fun (r : Int32) (u : Unit) => r = bI (decide (tx_on n dy ch kd wo ha we bo lm d (t : Int) (d - a) t = tx_mx (fun v => tx_on n dy ch kd wo ha we bo lm d (t : Int) (d - a) v) n))) (QB D (fun _ => []) A) A) ([.ref pl, .ref h, .int (nI a), .int (nI d)] : List Value).toArray s 0 0 A) (F0 m 27 ls []) := by
    intro n9
    induction n9 with
    | zero => intros; omega
    | succ n9 ih27 =>
      intro nx h1 h2 hle hiff hmu H locs hP hD hS ls hl
      refine lv_iload hx hb dX2_goesOn_27 (lv_at hl 6 rfl) ?_
      refine lv_iload hx hb dX2_goesOn_29 (lv_at hl 5 rfl) ?_
      refine bn_gt (a := nx) (b := u_3) (tgt := 93) hx hb rfl rfl (by omega) (by omega) dX2_goesOn_31 (by decide) (fun c31 => ?_) (fun c31 => ?_)
      · refine lv_iconst (v := 0) hx hb dX2_goesOn_93 (by decide) ?_
        have hx9 : ¬ (tx_on n dy ch kd wo ha we bo lm d (t : Int) (d - a) t = tx_mx (fun v => tx_on n dy ch kd wo ha we bo lm d (t : Int) (d - a) v) n) := fun z => by
          have z2 := hiff.mp (hgo.1.mpr z)
          rw [show tx_gt n dy ch kd wo ha we bo lm a t u_3 nx = -999 from if_neg (by omega)] at z2
          exact hin.2.1 z2.symm
        exact rt_z hx hb hr rfl hlocks () (by rw [decide_eq_false hx9]; rfl) hP hD hS dX2_goesOn_94
      · have hGs := tx_gt_s (ch := ch) (wo := wo) (ha := ha) (we := we) (l := lm) hwo hha hwe hch hdy ht hE (nx := nx) (by omega) (by omega)
        have hRb := tx_R_b (n := n) (dy := dy) (ch := ch) (kd := kd) (wo := wo) (ha := ha) (we := we) (bo := bo) (l := lm) hwo hha hwe hch hdy nx t
        have hsb := tx_sm_b (kd := kd) (wo := wo) (ha := ha) (we := we) hwo hha hwe t (nx - a)
        refine lv_aload_n hx hb dX2_goesOn_34 rfl (lv_at hl 0 rfl) ?_
        refine va_get (D := D) (ci := 2) (v := .ref g3) (C := RX2) (T := TX2) (N := 6) hx hb hts in_X2 hown hK (hR hS) 6 rfl rfl 2 (by decide) hf_19 (fun _ h9 => h9) rfl dX2_goesOn_35 ?_
        refine lv_iload hx hb dX2_goesOn_38 (lv_at hl 4 rfl) ?_
        refine gr_ald (ra := rc) hx hb hK (hR hS) 17 3 rfl rfl (j := t) rfl (by omega) dX2_goesOn_40 ?_
        refine lv_iload hx hb dX2_goesOn_41 (lv_at hl 6 rfl) ?_
        refine ia_n (f := M3 t) hx hb hK (hR hS) (18 + t) 0 (row4 (w := [(h, .inr (4, [.ref k0, .ref k1, .ref k2, .ref k3, .ref k4, .ref k5, .int (nI n), .int (nI dy), .int (nI ch), .int (nI lw)])), (k0, aI cs 4 (tx_nf kd)), (k1, aI cs 4 (tx_nf wo)), (k2, aI cs 4 (tx_nf ha)), (k3, aI cs 4 (tx_nf we)), (k5, aI cs 20 (tx_bf bo)), (pl, .inr (2, [.ref g1, .ref g2, .ref g3, .ref yr, .int (iI bl), .int (iI bm)])), (g1, aG cs ra), (ra 0, aI cs 21 (M1 0)), (ra 1, aI cs 21 (M1 1)), (ra 2, aI cs 21 (M1 2)), (ra 3, aI cs 21 (M1 3)), (g2, aG cs rb), (rb 0, aI cs 21 (M2 0)), (rb 1, aI cs 21 (M2 1)), (rb 2, aI cs 21 (M2 2)), (rb 3, aI cs 21 (M2 3)), (g3, aG cs rc), (rc 0, aI cs 21 (M3 0)), (rc 1, aI cs 21 (M3 1)), (rc 2, aI cs 21 (M3 2)), (rc 3, aI cs 21 (M3 3)), (yr, aI cs 20 yf)]) (q := 18) (ra := rc) (g := fun i => aI cs 21 (M3 i)) rfl rfl rfl rfl (by omega)) rfl (j := nx) rfl (by omega) (by decide) dX2_goesOn_43 ?_
        refine tp_i (show M3 t nx = iI (tx_R n dy ch kd wo ha we bo lm nx t) from hM3 t ht nx (by omega)) ?_
        refine lv_sipush (v := (-999)) hx hb dX2_goesOn_44 (by decide) ?_
        refine bi_eq (a := tx_R n dy ch kd wo ha we bo lm nx t) (b := (-999)) (tgt := 87) hx hb rfl (by decide) (by omega) (by omega) (by omega) (by omega) dX2_goesOn_47 (by decide) (fun c47 => ?_) (fun c47 => ?_)
        · have hp9 : tx_p (tx_R n dy ch kd wo ha we bo lm nx t) (tx_sm kd wo ha we t (nx - a)) = -999 := by rw [c47]; exact tx_p_n _
          have hne := hin.2.1
          have hGb := tx_gt_b (n := n) (dy := dy) (ch := ch) (kd := kd) (wo := wo) (ha := ha) (we := we) (bo := bo) (l := lm) (d := a) (t := t) (nx := nx + 1) hwo hha hwe hch hdy hE2
          refine lv_iinc (v := nI (nx + 1)) (lv' := [(6, .int (nI (nx + 1))), (0, .ref pl), (1, .ref h), (2, .int (nI a)), (3, .int (nI d)), (4, .int (nI t)), (5, .int (nI u_3))]) hx hb dX2_goesOn_87 hl (k := 6) rfl (inc_n nx 1) (by decide) rfl (fun ls hl => ?_)
          refine lv_goto (tgt := 27) hx hb dX2_goesOn_90 (by decide) ?_
          exact ih27 (nx + 1) (by first | assumption | omega) (by first | assumption | omega) (by rw [hGs] at hle; omega) (by rw [hiff]; rw [hGs] at hle ⊢; omega) (by omega) _ _ hP hD hS ls (lv_sub hl [1, 2, 3, 4, 5, 6, 0] rfl)
        · have hp9 : tx_p (tx_R n dy ch kd wo ha we bo lm nx t) (tx_sm kd wo ha we t (nx - a)) = tx_R n dy ch kd wo ha we bo lm nx t + tx_sm kd wo ha we t (nx - a) := if_neg c47
          refine lv_aload_n hx hb dX2_goesOn_50 rfl (lv_at hl 0 rfl) ?_
          refine va_get (D := D) (ci := 2) (v := .ref g1) (C := RX2) (T := TX2) (N := 6) hx hb hts in_X2 hown hK (hR hS) 6 rfl rfl 0 (by decide) hf_11 (fun _ h9 => h9) rfl dX2_goesOn_51 ?_
          refine lv_iload hx hb dX2_goesOn_54 (lv_at hl 4 rfl) ?_
          refine gr_ald (ra := ra) hx hb hK (hR hS) 7 3 rfl rfl (j := t) rfl (by omega) dX2_goesOn_56 ?_
          refine lv_iload hx hb dX2_goesOn_57 (lv_at hl 6 rfl) ?_
          refine lv_iload_n hx hb dX2_goesOn_59 rfl (lv_at hl 2 rfl) ?_
          refine lv_isub hx hb dX2_goesOn_60 ?_
          refine tp_i (pk_sub (a := nx) (b := a) (by omega)) ?_
          refine ia_n (f := M1 t) hx hb hK (hR hS) (8 + t) 0 (row4 (w := [(h, .inr (4, [.ref k0, .ref k1, .ref k2, .ref k3, .ref k4, .ref k5, .int (nI n), .int (nI dy), .int (nI ch), .int (nI lw)])), (k0, aI cs 4 (tx_nf kd)), (k1, aI cs 4 (tx_nf wo)), (k2, aI cs 4 (tx_nf ha)), (k3, aI cs 4 (tx_nf we)), (k5, aI cs 20 (tx_bf bo)), (pl, .inr (2, [.ref g1, .ref g2, .ref g3, .ref yr, .int (iI bl), .int (iI bm)])), (g1, aG cs ra), (ra 0, aI cs 21 (M1 0)), (ra 1, aI cs 21 (M1 1)), (ra 2, aI cs 21 (M1 2)), (ra 3, aI cs 21 (M1 3)), (g2, aG cs rb), (rb 0, aI cs 21 (M2 0)), (rb 1, aI cs 21 (M2 1)), (rb 2, aI cs 21 (M2 2)), (rb 3, aI cs 21 (M2 3)), (g3, aG cs rc), (rc 0, aI cs 21 (M3 0)), (rc 1, aI cs 21 (M3 1)), (rc 2, aI cs 21 (M3 2)), (rc 3, aI cs 21 (M3 3)), (yr, aI cs 20 yf)]) (q := 8) (ra := ra) (g := fun i => aI cs 21 (M1 i)) rfl rfl rfl rfl (by omega)) rfl (j := nx - a) rfl (by omega) (by decide) dX2_goesOn_61 ?_
          refine tp_i (show M1 t (nx - a) = iI (tx_sm kd wo ha we t (nx - a)) from hM1 t ht (nx - a) (by omega)) ?_
          refine lv_aload_n hx hb dX2_goesOn_62 rfl (lv_at hl 0 rfl) ?_
          refine va_get (D := D) (ci := 2) (v := .ref g3) (C := RX2) (T := TX2) (N := 6) hx hb hts in_X2 hown hK (hR hS) 6 rfl rfl 2 (by decide) hf_19 (fun _ h9 => h9) rfl dX2_goesOn_63 ?_
          refine lv_iload hx hb dX2_goesOn_66 (lv_at hl 4 rfl) ?_
          refine gr_ald (ra := rc) hx hb hK (hR hS) 17 3 rfl rfl (j := t) rfl (by omega) dX2_goesOn_68 ?_
          refine lv_iload hx hb dX2_goesOn_69 (lv_at hl 6 rfl) ?_
          refine ia_n (f := M3 t) hx hb hK (hR hS) (18 + t) 0 (row4 (w := [(h, .inr (4, [.ref k0, .ref k1, .ref k2, .ref k3, .ref k4, .ref k5, .int (nI n), .int (nI dy), .int (nI ch), .int (nI lw)])), (k0, aI cs 4 (tx_nf kd)), (k1, aI cs 4 (tx_nf wo)), (k2, aI cs 4 (tx_nf ha)), (k3, aI cs 4 (tx_nf we)), (k5, aI cs 20 (tx_bf bo)), (pl, .inr (2, [.ref g1, .ref g2, .ref g3, .ref yr, .int (iI bl), .int (iI bm)])), (g1, aG cs ra), (ra 0, aI cs 21 (M1 0)), (ra 1, aI cs 21 (M1 1)), (ra 2, aI cs 21 (M1 2)), (ra 3, aI cs 21 (M1 3)), (g2, aG cs rb), (rb 0, aI cs 21 (M2 0)), (rb 1, aI cs 21 (M2 1)), (rb 2, aI cs 21 (M2 2)), (rb 3, aI cs 21 (M2 3)), (g3, aG cs rc), (rc 0, aI cs 21 (M3 0)), (rc 1, aI cs 21 (M3 1)), (rc 2, aI cs 21 (M3 2)), (rc 3, aI cs 21 (M3 3)), (yr, aI cs 20 yf)]) (q := 18) (ra := rc) (g := fun i => aI cs 21 (M3 i)) rfl rfl rfl rfl (by omega)) rfl (j := nx) rfl (by omega) (by decide) dX2_goesOn_71 ?_
          refine tp_i (show M3 t nx = iI (tx_R n dy ch kd wo ha we bo lm nx t) from hM3 t ht nx (by omega)) ?_
          refine lv_iadd hx hb dX2_goesOn_72 ?_
          refine tp_i (add_iI (a := tx_sm kd wo ha we t (nx - a)) (b := tx_R n dy ch kd wo ha we bo lm nx t) rfl rfl) ?_
          refine lv_aload_n hx hb dX2_goesOn_73 rfl (lv_at hl 0 rfl) ?_
          refine va_get (D := D) (ci := 2) (v := .ref g2) (C := RX2) (T := TX2) (N := 6) hx hb hts in_X2 hown hK (hR hS) 6 rfl rfl 1 (by decide) hf_16 (fun _ h9 => h9) rfl dX2_goesOn_74 ?_
          refine lv_iload hx hb dX2_goesOn_77 (lv_at hl 4 rfl) ?_
          refine gr_ald (ra := rb) hx hb hK (hR hS) 12 3 rfl rfl (j := t) rfl (by omega) dX2_goesOn_79 ?_
          refine lv_iload_n hx hb dX2_goesOn_80 rfl (lv_at hl 2 rfl) ?_
          refine ia_n (f := M2 t) hx hb hK (hR hS) (13 + t) 0 (row4 (w := [(h, .inr (4, [.ref k0, .ref k1, .ref k2, .ref k3, .ref k4, .ref k5, .int (nI n), .int (nI dy), .int (nI ch), .int (nI lw)])), (k0, aI cs 4 (tx_nf kd)), (k1, aI cs 4 (tx_nf wo)), (k2, aI cs 4 (tx_nf ha)), (k3, aI cs 4 (tx_nf we)), (k5, aI cs 20 (tx_bf bo)), (pl, .inr (2, [.ref g1, .ref g2, .ref g3, .ref yr, .int (iI bl), .int (iI bm)])), (g1, aG cs ra), (ra 0, aI cs 21 (M1 0)), (ra 1, aI cs 21 (M1 1)), (ra 2, aI cs 21 (M1 2)), (ra 3, aI cs 21 (M1 3)), (g2, aG cs rb), (rb 0, aI cs 21 (M2 0)), (rb 1, aI cs 21 (M2 1)), (rb 2, aI cs 21 (M2 2)), (rb 3, aI cs 21 (M2 3)), (g3, aG cs rc), (rc 0, aI cs 21 (M3 0)), (rc 1, aI cs 21 (M3 1)), (rc 2, aI cs 21 (M3 2)), (rc 3, aI cs 21 (M3 3)), (yr, aI cs 20 yf)]) (q := 13) (ra := rb) (g := fun i => aI cs 21 (M2 i)) rfl rfl rfl rfl (by omega)) rfl (j := a) rfl (by omega) (by decide) dX2_goesOn_81 ?_
          refine tp_i (show M2 t a = iI (tx_S n dy ch kd wo ha we bo lm a t) from hM2 t ht a (by omega)) ?_
          refine bi_ne (a := (tx_sm kd wo ha we t (nx - a)) + (tx_R n dy ch kd wo ha we bo lm nx t)) (b := tx_S n dy ch kd wo ha we bo lm a t) (tgt := 87) hx hb rfl rfl (by omega) (by omega) (by omega) (by omega) dX2_goesOn_82 (by decide) (fun c82 => ?_) (fun c82 => ?_)
          · have hne := hin.2.1
            have hGb := tx_gt_b (n := n) (dy := dy) (ch := ch) (kd := kd) (wo := wo) (ha := ha) (we := we) (bo := bo) (l := lm) (d := a) (t := t) (nx := nx + 1) hwo hha hwe hch hdy hE2
            refine lv_iinc (v := nI (nx + 1)) (lv' := [(6, .int (nI (nx + 1))), (0, .ref pl), (1, .ref h), (2, .int (nI a)), (3, .int (nI d)), (4, .int (nI t)), (5, .int (nI u_3))]) hx hb dX2_goesOn_87 hl (k := 6) rfl (inc_n nx 1) (by decide) rfl (fun ls hl => ?_)
            refine lv_goto (tgt := 27) hx hb dX2_goesOn_90 (by decide) ?_
            exact ih27 (nx + 1) (by first | assumption | omega) (by first | assumption | omega) (by rw [hGs] at hle; omega) (by rw [hiff]; rw [hGs] at hle ⊢; omega) (by omega) _ _ hP hD hS ls (lv_sub hl [1, 2, 3, 4, 5, 6, 0] rfl)
          · refine lv_iconst (v := 1) hx hb dX2_goesOn_85 (by decide) ?_
            have hx9 : tx_on n dy ch kd wo ha we bo lm d (t : Int) (d - a) t = tx_mx (fun v => tx_on n dy ch kd wo ha we bo lm d (t : Int) (d - a) v) n := hgo.1.mp (hiff.mpr (by rw [hGs, hp9] at hle ⊢; omega))
            exact rt_z hx hb hr rfl hlocks () (by rw [decide_eq_true hx9]; rfl) hP hD hS dX2_goesOn_86
  exact loop27 _ (d + 1) (by first | assumption | omega) (by first | assumption | omega) hgo.2 Iff.rfl (Nat.lt_succ_self _) _ _ hP hD hS ls (lv_sub hl [3, 4, 5, 6, 2, 1, 0] rfl)
set_option maxHeartbeats 4000000 in
set_option maxRecDepth 100000 in
theorem c_X2_nextThing (l : Launch) (D : va_G) (cs : Nat → ClassId) (sz : Nat) (h : Nat) (k0 : Nat) (k1 : Nat) (k2 : Nat) (k3 : Nat) (k4 : Nat) (k5 : Nat) (n : Nat) (dy : Nat) (ch : Nat) (lw : Nat) (kd : Nat → Nat) (wo : Nat → Nat) (ha : Nat → Nat) (we : Nat → Nat) (bo : Nat → Option Nat) (pl : Nat) (g1 : Nat) (g2 : Nat) (g3 : Nat) (yr : Nat) (bl : Int) (bm : Int) (ra : Nat → Nat) (rb : Nat → Nat) (rc : Nat → Nat) (M1 : Nat → Nat → Int32) (M2 : Nat → Nat → Int32) (M3 : Nat → Nat → Int32) (yf : Nat → Int32) (t : Nat) (a : Nat) (d : Nat) (lm : Nat) (hn : n ≤ 4) (hdy : dy ≤ 20) (hbo : tx_okb bo) (hkd : ∀ e, kd e ≤ 5) (hn0 : 0 < n) (hwo : ∀ e, wo e ≤ 9) (hha : ∀ e, ha e ≤ 3) (hwe : ∀ e, we e ≤ 3) (hch : ch ≤ 9) (hl9 : lm ≤ 20) (hbm : bm = (lm : Int)) (hM1 : ∀ t, t < n → ∀ m, m ≤ dy → M1 t m = iI (tx_sm kd wo ha we t m)) (hM2 : ∀ t, t < n → ∀ e, e < dy → M2 t e = iI (tx_S n dy ch kd wo ha we bo lm e t)) (hM3 : ∀ t, t < n → ∀ e, e ≤ dy → M3 t e = iI (tx_R n dy ch kd wo ha we bo lm e t)) (hyf : yf a = nI t) (ht : t < n) (had : a < d) (hd : d < dy) (hin : tx_in n dy ch kd wo ha we bo lm a t d) : mI (S := Unit) l yX2_nextThing wsX2_nextThing ({ frames := 4, cells := 0, slots := 0, locals := 94 } : Room) D (tyc cs) sz [.ref pl, .ref h, .int (nI a), .int (nI d)] [(h, .inr (4, [.ref k0, .ref k1, .ref k2, .ref k3, .ref k4, .ref k5, .int (nI n), .int (nI dy), .int (nI ch), .int (nI lw)])), (k0, aI cs 4 (tx_nf kd)), (k1, aI cs 4 (tx_nf wo)), (k2, aI cs 4 (tx_nf ha)), (k3, aI cs 4 (tx_nf we)), (k5, aI cs 20 (tx_bf bo)), (pl, .inr (2, [.ref g1, .ref g2, .ref g3, .ref yr, .int (iI bl), .int (iI bm)])), (g1, aG cs ra), (ra 0, aI cs 21 (M1 0)), (ra 1, aI cs 21 (M1 1)), (ra 2, aI cs 21 (M1 2)), (ra 3, aI cs 21 (M1 3)), (g2, aG cs rb), (rb 0, aI cs 21 (M2 0)), (rb 1, aI cs 21 (M2 1)), (rb 2, aI cs 21 (M2 2)), (rb 3, aI cs 21 (M2 3)), (g3, aG cs rc), (rc 0, aI cs 21 (M3 0)), (rc 1, aI cs 21 (M3 1)), (rc 2, aI cs 21 (M3 2)), (rc 3, aI cs 21 (M3 3)), (yr, aI cs 20 yf)] [] (fun (r : Int32) (u : Unit) => r = nI (tx_yu n dy ch kd wo ha we bo lm d (t : Int) (d - a))) (fun _ => []) 0 0 := by
  unfold mI
  refine Met.ofW (cc := cX2_nextThing) (maxL := 7) (ret := (some .int)) (by decide) rfl ?_
  intro p e s m args below meth c s₁ B hml hv
  obtain ⟨rfl, hsz, hP, hK, hD0⟩ := hv
  have hx := B.exec
  have hb := B.bytes
  have hr := B.returns
  have hts := atoms_spec (ws := wsX2_nextThing) B.pre
  have hown : s.vm.findClass RX2 = some m.cls := findClass_of_methodNamed B.named
  have hlocks := B.notSynchronized
  subst hsz
  have hR := @en_R _ _ _ [(h, .inr (4, [.ref k0, .ref k1, .ref k2, .ref k3, .ref k4, .ref k5, .int (nI n), .int (nI dy), .int (nI ch), .int (nI lw)])), (k0, aI cs 4 (tx_nf kd)), (k1, aI cs 4 (tx_nf wo)), (k2, aI cs 4 (tx_nf ha)), (k3, aI cs 4 (tx_nf we)), (k5, aI cs 20 (tx_bf bo)), (pl, .inr (2, [.ref g1, .ref g2, .ref g3, .ref yr, .int (iI bl), .int (iI bm)])), (g1, aG cs ra), (ra 0, aI cs 21 (M1 0)), (ra 1, aI cs 21 (M1 1)), (ra 2, aI cs 21 (M1 2)), (ra 3, aI cs 21 (M1 3)), (g2, aG cs rb), (rb 0, aI cs 21 (M2 0)), (rb 1, aI cs 21 (M2 1)), (rb 2, aI cs 21 (M2 2)), (rb 3, aI cs 21 (M2 3)), (g3, aG cs rc), (rc 0, aI cs 21 (M3 0)), (rc 1, aI cs 21 (M3 1)), (rc 2, aI cs 21 (M3 2)), (rc 3, aI cs 21 (M3 3)), (yr, aI cs 20 yf)] [] _ hP hD0
  have hN := adN_of hD0
  have hD := en_D (wr := [(h, .inr (4, [.ref k0, .ref k1, .ref k2, .ref k3, .ref k4, .ref k5, .int (nI n), .int (nI dy), .int (nI ch), .int (nI lw)])), (k0, aI cs 4 (tx_nf kd)), (k1, aI cs 4 (tx_nf wo)), (k2, aI cs 4 (tx_nf ha)), (k3, aI cs 4 (tx_nf we)), (k5, aI cs 20 (tx_bf bo)), (pl, .inr (2, [.ref g1, .ref g2, .ref g3, .ref yr, .int (iI bl), .int (iI bm)])), (g1, aG cs ra), (ra 0, aI cs 21 (M1 0)), (ra 1, aI cs 21 (M1 1)), (ra 2, aI cs 21 (M1 2)), (ra 3, aI cs 21 (M1 3)), (g2, aG cs rb), (rb 0, aI cs 21 (M2 0)), (rb 1, aI cs 21 (M2 1)), (rb 2, aI cs 21 (M2 2)), (rb 3, aI cs 21 (M2 3)), (g3, aG cs rc), (rc 0, aI cs 21 (M3 0)), (rc 1, aI cs 21 (M3 1)), (rc 2, aI cs 21 (M3 2)), (rc 3, aI cs 21 (M3 3)), (yr, aI cs 20 yf)]) (ww := []) (sz := s.heap.size) hD0
  have hP := en_P (wr := [(h, .inr (4, [.ref k0, .ref k1, .ref k2, .ref k3, .ref k4, .ref k5, .int (nI n), .int (nI dy), .int (nI ch), .int (nI lw)])), (k0, aI cs 4 (tx_nf kd)), (k1, aI cs 4 (tx_nf wo)), (k2, aI cs 4 (tx_nf ha)), (k3, aI cs 4 (tx_nf we)), (k5, aI cs 20 (tx_bf bo)), (pl, .inr (2, [.ref g1, .ref g2, .ref g3, .ref yr, .int (iI bl), .int (iI bm)])), (g1, aG cs ra), (ra 0, aI cs 21 (M1 0)), (ra 1, aI cs 21 (M1 1)), (ra 2, aI cs 21 (M1 2)), (ra 3, aI cs 21 (M1 3)), (g2, aG cs rb), (rb 0, aI cs 21 (M2 0)), (rb 1, aI cs 21 (M2 1)), (rb 2, aI cs 21 (M2 2)), (rb 3, aI cs 21 (M2 3)), (g3, aG cs rc), (rc 0, aI cs 21 (M3 0)), (rc 1, aI cs 21 (M3 1)), (rc 2, aI cs 21 (M3 2)), (rc 3, aI cs 21 (M3 3)), (yr, aI cs 20 yf)]) (ww := []) hP
  generalize hAe : va_A [] s.heap.size = A at hD hR ⊢
  have hA : ∀ q : Nat, s.heap.size ≤ q → A q := fun q h => by rw [← hAe]; exact Or.inr h
  have hS : va_S A s.heap s.heap [] := va_S.rf
  have hN : adN [h, k0, k1, k2, k3, k5, pl, g1, ra 0, ra 1, ra 2, ra 3, g2, rb 0, rb 1, rb 2, rb 3, g3, rc 0, rc 1, rc 2, rc 3, yr] := hN
  have hf_11 := hts (.fieldLink RX2 11 "TaxedByLongest$Plan" "sums" "[[I") (by decide +kernel)
  have hf_16 := hts (.fieldLink RX2 16 "TaxedByLongest$Plan" "starts" "[[I") (by decide +kernel)
  have hf_22 := hts (.fieldLink RX2 22 "TaxedByLongest$Plan" "year" "[I") (by decide +kernel)
  have hf_33 := hts (.fieldLink RX2 33 "TaxedByLongest$Told" "things" "I") (by decide +kernel)
  have in_X2 : ∀ w ∈ wsX20, w ∈ wsX2_nextThing := by decide +kernel
  have in_X4 : ∀ w ∈ wsX40, w ∈ wsX2_nextThing := by decide +kernel
  have hl := lv_entry ([.ref pl, .ref h, .int (nI a), .int (nI d)]) (n := 7) (Nat.le_of_ble_eq_true rfl)
  rw [lg_entry_eq]
  generalize (lg_sl ([.ref pl, .ref h, .int (nI a), .int (nI d)]) ++ List.replicate (7 - (lg_sl ([.ref pl, .ref h, .int (nI a), .int (nI d)])).length) Slot.unset).toArray = ls at hl ⊢
  have hl : lv_has ls 7 [(0, .ref pl), (1, .ref h), (2, .int (nI a)), (3, .int (nI d))] := hl
  refine lv_aload_n hx hb dX2_nextThing_0 rfl (lv_at hl 0 rfl) ?_
  refine va_get (D := D) (ci := 2) (v := .ref yr) (C := RX2) (T := TX2) (N := 6) hx hb hts in_X2 hown hK (hR hS) 6 rfl rfl 3 (by decide) hf_22 (fun _ h9 => h9) rfl dX2_nextThing_1 ?_
  refine lv_iload_n hx hb dX2_nextThing_4 rfl (lv_at hl 2 rfl) ?_
  refine ia_n (f := yf) hx hb hK (hR hS) 22 0 rfl rfl (j := a) rfl (by omega) (by decide) dX2_nextThing_5 ?_
  refine tp_i (show yf a = nI t from hyf) ?_
  refine lv_istore (lv' := [(4, .int (nI t)), (0, .ref pl), (1, .ref h), (2, .int (nI a)), (3, .int (nI d))]) hx hb dX2_nextThing_6 hl (by decide) rfl (fun ls hl => ?_)
  refine lv_aload_n hx hb dX2_nextThing_8 rfl (lv_at hl 1 rfl) ?_
  refine va_get (D := D) (ci := 2) (v := .ref g2) (C := RX2) (T := TX2) (N := 6) hx hb hts in_X2 hown hK (hR hS) 6 rfl rfl 1 (by decide) hf_16 (fun _ h9 => h9) rfl dX2_nextThing_9 ?_
  refine lv_iload hx hb dX2_nextThing_12 (lv_at hl 0 rfl) ?_
  refine gr_ald (ra := rb) hx hb hK (hR hS) 12 3 rfl rfl (j := t) rfl (by omega) dX2_nextThing_14 ?_
  refine lv_iload_n hx hb dX2_nextThing_15 rfl (lv_at hl 3 rfl) ?_
  refine ia_n (f := M2 t) hx hb hK (hR hS) (13 + t) 0 (row4 (w := [(h, .inr (4, [.ref k0, .ref k1, .ref k2, .ref k3, .ref k4, .ref k5, .int (nI n), .int (nI dy), .int (nI ch), .int (nI lw)])), (k0, aI cs 4 (tx_nf kd)), (k1, aI cs 4 (tx_nf wo)), (k2, aI cs 4 (tx_nf ha)), (k3, aI cs 4 (tx_nf we)), (k5, aI cs 20 (tx_bf bo)), (pl, .inr (2, [.ref g1, .ref g2, .ref g3, .ref yr, .int (iI bl), .int (iI bm)])), (g1, aG cs ra), (ra 0, aI cs 21 (M1 0)), (ra 1, aI cs 21 (M1 1)), (ra 2, aI cs 21 (M1 2)), (ra 3, aI cs 21 (M1 3)), (g2, aG cs rb), (rb 0, aI cs 21 (M2 0)), (rb 1, aI cs 21 (M2 1)), (rb 2, aI cs 21 (M2 2)), (rb 3, aI cs 21 (M2 3)), (g3, aG cs rc), (rc 0, aI cs 21 (M3 0)), (rc 1, aI cs 21 (M3 1)), (rc 2, aI cs 21 (M3 2)), (rc 3, aI cs 21 (M3 3)), (yr, aI cs 20 yf)]) (q := 13) (ra := rb) (g := fun i => aI cs 21 (M2 i)) rfl rfl rfl rfl (by omega)) rfl (j := a) rfl (by omega) (by decide) dX2_nextThing_16 ?_
  refine tp_i (show M2 t a = iI (tx_S n dy ch kd wo ha we bo lm a t) from hM2 t ht a (by omega)) ?_
  refine lv_aload_n hx hb dX2_nextThing_17 rfl (lv_at hl 1 rfl) ?_
  refine va_get (D := D) (ci := 2) (v := .ref g1) (C := RX2) (T := TX2) (N := 6) hx hb hts in_X2 hown hK (hR hS) 6 rfl rfl 0 (by decide) hf_11 (fun _ h9 => h9) rfl dX2_nextThing_18 ?_
  refine lv_iload hx hb dX2_nextThing_21 (lv_at hl 0 rfl) ?_
  refine gr_ald (ra := ra) hx hb hK (hR hS) 7 3 rfl rfl (j := t) rfl (by omega) dX2_nextThing_23 ?_
  refine lv_iload_n hx hb dX2_nextThing_24 rfl (lv_at hl 4 rfl) ?_
  refine lv_iload_n hx hb dX2_nextThing_25 rfl (lv_at hl 3 rfl) ?_
  refine lv_isub hx hb dX2_nextThing_26 ?_
  refine tp_i (pk_sub (a := d) (b := a) (by omega)) ?_
  refine ia_n (f := M1 t) hx hb hK (hR hS) (8 + t) 0 (row4 (w := [(h, .inr (4, [.ref k0, .ref k1, .ref k2, .ref k3, .ref k4, .ref k5, .int (nI n), .int (nI dy), .int (nI ch), .int (nI lw)])), (k0, aI cs 4 (tx_nf kd)), (k1, aI cs 4 (tx_nf wo)), (k2, aI cs 4 (tx_nf ha)), (k3, aI cs 4 (tx_nf we)), (k5, aI cs 20 (tx_bf bo)), (pl, .inr (2, [.ref g1, .ref g2, .ref g3, .ref yr, .int (iI bl), .int (iI bm)])), (g1, aG cs ra), (ra 0, aI cs 21 (M1 0)), (ra 1, aI cs 21 (M1 1)), (ra 2, aI cs 21 (M1 2)), (ra 3, aI cs 21 (M1 3)), (g2, aG cs rb), (rb 0, aI cs 21 (M2 0)), (rb 1, aI cs 21 (M2 1)), (rb 2, aI cs 21 (M2 2)), (rb 3, aI cs 21 (M2 3)), (g3, aG cs rc), (rc 0, aI cs 21 (M3 0)), (rc 1, aI cs 21 (M3 1)), (rc 2, aI cs 21 (M3 2)), (rc 3, aI cs 21 (M3 3)), (yr, aI cs 20 yf)]) (q := 8) (ra := ra) (g := fun i => aI cs 21 (M1 i)) rfl rfl rfl rfl (by omega)) rfl (j := d - a) rfl (by omega) (by decide) dX2_nextThing_27 ?_
  refine tp_i (show M1 t (d - a) = iI (tx_sm kd wo ha we t (d - a)) from hM1 t ht (d - a) (by omega)) ?_
  refine lv_isub hx hb dX2_nextThing_28 ?_
  refine tp_i (sub_iI (a := tx_S n dy ch kd wo ha we bo lm a t) (b := tx_sm kd wo ha we t (d - a)) rfl rfl) ?_
  refine lv_istore (lv' := [(5, .int (iI ((tx_S n dy ch kd wo ha we bo lm a t) - (tx_sm kd wo ha we t (d - a))))), (4, .int (nI t)), (0, .ref pl), (1, .ref h), (2, .int (nI a)), (3, .int (nI d))]) hx hb dX2_nextThing_29 hl (by decide) rfl (fun ls hl => ?_)
  refine lv_iconst (v := 0) hx hb dX2_nextThing_31 (by decide) ?_
  refine lv_istore (lv' := [(6, .int 0), (5, .int (iI ((tx_S n dy ch kd wo ha we bo lm a t) - (tx_sm kd wo ha we t (d - a))))), (4, .int (nI t)), (0, .ref pl), (1, .ref h), (2, .int (nI a)), (3, .int (nI d))]) hx hb dX2_nextThing_32 hl (by decide) rfl (fun ls hl => ?_)
  have loop34 : ∀ (n9 : Nat) (i : Nat) (du : Int) (hi : i ≤ n) (hdu : du = tx_mx (fun v => tx_on n dy ch kd wo ha we bo lm d (t : Int) (d - a) v) n) (hq : ∀ v, v < i → ¬ tx_on n dy ch kd wo ha we bo lm d (t : Int) (d - a) v = tx_mx (fun v => tx_on n dy ch kd wo ha we bo lm d (t : Int) (d - a) v) n), n - i < n9 → ∀ (H : Heap) (locs : List Loc), va_P D vwCl [] H → va_D A [] → va_S A s.heap H locs → ∀ (ls : Array Slot), lv_has ls 7 [(0, .ref pl), (1, .ref h), (2, .int (nI a)), (3, .int (nI d)), (4, .int (nI t)), (5, .int (iI du)), (6, .int (nI i))] → W p l e (headSpec wsX2_nextThing ({ frames := 4, cells := 0, slots := 0, locals := 94 } : Room)).room s m ([.ref pl, .ref h, .int (nI a), .int (nI d)] : List Value).toArray below meth c H locs 0 0 (MQ below (va_Qi (fun (r : Int32) (u : Unit) => r = nI (tx_yu n dy ch kd wo ha we bo lm d (t : Int) (d - a))) (QB D (fun _ => []) A) A) ([.ref pl, .ref h, .int (nI a), .int (nI d)] : List Value).toArray s 0 0 A) (F0 m 34 ls []) := by
    intro n9
    induction n9 with
    | zero => intros; omega
    | succ n9 ih34 =>
      intro i du hi hdu hq hmu H locs hP hD hS ls hl
      refine lv_iload hx hb dX2_nextThing_34 (lv_at hl 6 rfl) ?_
      refine lv_aload_n hx hb dX2_nextThing_36 rfl (lv_at hl 1 rfl) ?_
      refine va_get (D := D) (ci := 4) (v := .int (nI n)) (C := RX4) (T := TX4) (N := 10) hx hb hts in_X4 hown hK (hR hS) 0 rfl rfl 6 (by decide) hf_33 (fun _ h9 => h9) rfl dX2_nextThing_37 ?_
      refine bn_ge (a := i) (b := n) (tgt := 85) hx hb rfl rfl (by omega) (by omega) dX2_nextThing_40 (by decide) (fun c40 => ?_) (fun c40 => ?_)
      · exfalso
        obtain ⟨v, h9, h8⟩ := tx_yu_lt (n := n) (dy := dy) (ch := ch) (kd := kd) (wo := wo) (ha := ha) (we := we) (bo := bo) (l := lm) hwo hha hwe hch hdy hn0 d (t : Int) (d - a)
        exact hq v (by omega) h8
      · refine lv_iload hx hb dX2_nextThing_43 (lv_at hl 6 rfl) ?_
        refine lv_iload hx hb dX2_nextThing_45 (lv_at hl 4 rfl) ?_
        refine bn_ne (a := i) (b := t) (tgt := 63) hx hb rfl rfl (by omega) (by omega) dX2_nextThing_47 (by decide) (fun c47 => ?_) (fun c47 => ?_)
        · have hdb : -2000 ≤ du ∧ du ≤ 2000 := by
            obtain ⟨v, h9, h8⟩ := tx_yu_lt (n := n) (dy := dy) (ch := ch) (kd := kd) (wo := wo) (ha := ha) (we := we) (bo := bo) (l := lm) hwo hha hwe hch hdy hn0 d (t : Int) (d - a)
            have := tx_on_b (n := n) (dy := dy) (ch := ch) (kd := kd) (wo := wo) (ha := ha) (we := we) (bo := bo) (l := lm) hwo hha hwe hch hdy d (t : Int) (d - a) v
            rw [hdu]
            omega
          refine lv_aload_n hx hb dX2_nextThing_63 rfl (lv_at hl 0 rfl) ?_
          refine lv_aload_n hx hb dX2_nextThing_64 rfl (lv_at hl 1 rfl) ?_
          refine lv_iload hx hb dX2_nextThing_65 (lv_at hl 6 rfl) ?_
          refine lv_iload_n hx hb dX2_nextThing_67 rfl (lv_at hl 3 rfl) ?_
          refine lv_iload hx hb dX2_nextThing_68 (lv_at hl 5 rfl) ?_
          refine cV_i (As := [.ref h, .int (nI i), .int (nI d), .int (iI du)]) (rest := []) (cr := [(h, .inr (4, [.ref k0, .ref k1, .ref k2, .ref k3, .ref k4, .ref k5, .int (nI n), .int (nI dy), .int (nI ch), .int (nI lw)])), (k0, aI cs 4 (tx_nf kd)), (k1, aI cs 4 (tx_nf wo)), (k2, aI cs 4 (tx_nf ha)), (k3, aI cs 4 (tx_nf we)), (k5, aI cs 20 (tx_bf bo)), (pl, .inr (2, [.ref g1, .ref g2, .ref g3, .ref yr, .int (iI bl), .int (iI bm)])), (g2, aG cs rb), (rb 0, aI cs 21 (M2 0)), (rb 1, aI cs 21 (M2 1)), (rb 2, aI cs 21 (M2 2)), (rb 3, aI cs 21 (M2 3))]) (cw1 := []) ⟨hx, hb, hml, hown, hts⟩ (c_X2_turnsTo l D cs _ h k0 k1 k2 k3 k4 k5 n dy ch lw kd wo ha we bo pl g1 g2 g3 yr bl bm rb M2 i d lm du (by first | assumption | omega) (by first | assumption | omega) (by first | assumption | omega) (by first | assumption | omega) (by first | assumption | omega) (by first | assumption | omega) (by first | assumption | omega) (by omega) (by first | assumption | omega) hdb) (cwV 4 hts gX2_nextThing_X2_turnsTo rfl rfl rfl (by decide +kernel) ⟨Nat.le_of_ble_eq_true rfl, Nat.le_of_ble_eq_true rfl⟩) hK hP hD hS hA (((hR hS).app hP).sub [0, 1, 2, 3, 4, 5, 6, 12, 13, 14, 15, 16] rfl) (dt_of hN [0, 1, 2, 3, 4, 5, 6, 12, 13, 14, 15, 16] (by decide) rfl) [] rfl 6 rfl rfl rfl hl.1 rfl (Nat.le_of_ble_eq_true rfl) dX2_nextThing_70 ⟨Nat.le_of_ble_eq_true rfl, Nat.le_of_ble_eq_true rfl⟩ (fun _ => rfl) (fun _ => rfl) (fun r_1 u9 H locs hw_2 hP hD hS => ?_)
          have hP : va_P D vwCl [] H := hP
          have hD : va_D A [] := hD
          subst r_1
          refine tp_i (show bI (decide (tx_S n dy ch kd wo ha we bo lm d i ≠ -999 ∧ tx_S n dy ch kd wo ha we bo lm d i - (ch : Int) = du)) = bI (decide (tx_on n dy ch kd wo ha we bo lm d (t : Int) (d - a) i = tx_mx (fun v => tx_on n dy ch kd wo ha we bo lm d (t : Int) (d - a) v) n)) from congrArg bI (decide_eq_decide.mpr (by rw [hdu]; exact tx_turns hwo hha hwe hch hdy (by omega) c47 (tx_in_V hwo hha hwe hch hdy hd hin).2))) ?_
          refine bd_eq (P := tx_on n dy ch kd wo ha we bo lm d (t : Int) (d - a) i = tx_mx (fun v => tx_on n dy ch kd wo ha we bo lm d (t : Int) (d - a) v) n) (tgt := 79) hx hb rfl dX2_nextThing_73 (by decide) (fun c73 => ?_) (fun c73 => ?_)
          · have hx9 := c73
            refine lv_iinc (v := nI (i + 1)) (lv' := [(6, .int (nI (i + 1))), (0, .ref pl), (1, .ref h), (2, .int (nI a)), (3, .int (nI d)), (4, .int (nI t)), (5, .int (iI du))]) hx hb dX2_nextThing_79 hl (k := 6) rfl (inc_n i 1) (by decide) rfl (fun ls hl => ?_)
            refine lv_goto (tgt := 34) hx hb dX2_nextThing_82 (by decide) ?_
            exact ih34 (i + 1) du (by first | assumption | omega) (by first | assumption | omega) (fun v h9 => by by_cases e : v = i; (rw [e]; exact hx9); (exact hq v (by omega))) (by omega) _ _ hP hD hS ls (lv_sub hl [1, 2, 3, 4, 5, 6, 0] rfl)
          · have hx8 := c73
            refine lv_iload hx hb dX2_nextThing_76 (lv_at hl 6 rfl) ?_
            exact rt_i hx hb hr hlocks () (by rw [tx_yu_of (by omega) hq hx8]) hP hD hS dX2_nextThing_78
        · refine lv_aload_n hx hb dX2_nextThing_50 rfl (lv_at hl 0 rfl) ?_
          refine lv_aload_n hx hb dX2_nextThing_51 rfl (lv_at hl 1 rfl) ?_
          refine lv_iload_n hx hb dX2_nextThing_52 rfl (lv_at hl 2 rfl) ?_
          refine lv_iload_n hx hb dX2_nextThing_53 rfl (lv_at hl 3 rfl) ?_
          refine cV_i (As := [.ref h, .int (nI a), .int (nI d)]) (rest := []) (cr := [(h, .inr (4, [.ref k0, .ref k1, .ref k2, .ref k3, .ref k4, .ref k5, .int (nI n), .int (nI dy), .int (nI ch), .int (nI lw)])), (k0, aI cs 4 (tx_nf kd)), (k1, aI cs 4 (tx_nf wo)), (k2, aI cs 4 (tx_nf ha)), (k3, aI cs 4 (tx_nf we)), (k5, aI cs 20 (tx_bf bo)), (pl, .inr (2, [.ref g1, .ref g2, .ref g3, .ref yr, .int (iI bl), .int (iI bm)])), (g1, aG cs ra), (ra 0, aI cs 21 (M1 0)), (ra 1, aI cs 21 (M1 1)), (ra 2, aI cs 21 (M1 2)), (ra 3, aI cs 21 (M1 3)), (g2, aG cs rb), (rb 0, aI cs 21 (M2 0)), (rb 1, aI cs 21 (M2 1)), (rb 2, aI cs 21 (M2 2)), (rb 3, aI cs 21 (M2 3)), (g3, aG cs rc), (rc 0, aI cs 21 (M3 0)), (rc 1, aI cs 21 (M3 1)), (rc 2, aI cs 21 (M3 2)), (rc 3, aI cs 21 (M3 3)), (yr, aI cs 20 yf)]) (cw1 := []) ⟨hx, hb, hml, hown, hts⟩ (c_X2_goesOn l D cs _ h k0 k1 k2 k3 k4 k5 n dy ch lw kd wo ha we bo pl g1 g2 g3 yr bl bm ra rb rc M1 M2 M3 yf t a d lm (by first | assumption | omega) (by first | assumption | omega) (by first | assumption | omega) (by first | assumption | omega) (by first | assumption | omega) (by first | assumption | omega) (by first | assumption | omega) (by first | assumption | omega) (by first | assumption | omega) (by first | assumption | omega) (by first | assumption | omega) (by first | assumption | omega) (by first | assumption | omega) (by first | assumption | omega) (by first | assumption | omega) (by first | assumption | omega) (by first | assumption | omega) (by first | assumption | omega)) (cwV 3 hts gX2_nextThing_X2_goesOn rfl rfl rfl (by decide +kernel) ⟨Nat.le_of_ble_eq_true rfl, Nat.le_of_ble_eq_true rfl⟩) hK hP hD hS hA (((hR hS).app hP).sub [0, 1, 2, 3, 4, 5, 6, 7, 8, 9, 10, 11, 12, 13, 14, 15, 16, 17, 18, 19, 20, 21, 22] rfl) (dt_of hN [0, 1, 2, 3, 4, 5, 6, 7, 8, 9, 10, 11, 12, 13, 14, 15, 16, 17, 18, 19, 20, 21, 22] (by decide) rfl) [] rfl 6 rfl rfl rfl hl.1 rfl (Nat.le_of_ble_eq_true rfl) dX2_nextThing_54 ⟨Nat.le_of_ble_eq_true rfl, Nat.le_of_ble_eq_true rfl⟩ (fun _ => rfl) (fun _ => rfl) (fun r_3 u9 H locs hw_4 hP hD hS => ?_)
          have hP : va_P D vwCl [] H := hP
          have hD : va_D A [] := hD
          subst r_3
          refine tp_i (show bI (decide (tx_on n dy ch kd wo ha we bo lm d (t : Int) (d - a) t = tx_mx (fun v => tx_on n dy ch kd wo ha we bo lm d (t : Int) (d - a) v) n)) = bI (decide (tx_on n dy ch kd wo ha we bo lm d (t : Int) (d - a) i = tx_mx (fun v => tx_on n dy ch kd wo ha we bo lm d (t : Int) (d - a) v) n)) from by rw [c47]) ?_
          refine bd_eq (P := tx_on n dy ch kd wo ha we bo lm d (t : Int) (d - a) i = tx_mx (fun v => tx_on n dy ch kd wo ha we bo lm d (t : Int) (d - a) v) n) (tgt := 79) hx hb rfl dX2_nextThing_57 (by decide) (fun c57 => ?_) (fun c57 => ?_)
          · have hx9 := c57
            refine lv_iinc (v := nI (i + 1)) (lv' := [(6, .int (nI (i + 1))), (0, .ref pl), (1, .ref h), (2, .int (nI a)), (3, .int (nI d)), (4, .int (nI t)), (5, .int (iI du))]) hx hb dX2_nextThing_79 hl (k := 6) rfl (inc_n i 1) (by decide) rfl (fun ls hl => ?_)
            refine lv_goto (tgt := 34) hx hb dX2_nextThing_82 (by decide) ?_
            exact ih34 (i + 1) du (by first | assumption | omega) (by first | assumption | omega) (fun v h9 => by by_cases e : v = i; (rw [e]; exact hx9); (exact hq v (by omega))) (by omega) _ _ hP hD hS ls (lv_sub hl [1, 2, 3, 4, 5, 6, 0] rfl)
          · refine lv_goto (tgt := 76) hx hb dX2_nextThing_60 (by decide) ?_
            have hx8 := c57
            refine lv_iload hx hb dX2_nextThing_76 (lv_at hl 6 rfl) ?_
            exact rt_i hx hb hr hlocks () (by rw [tx_yu_of (by omega) hq hx8]) hP hD hS dX2_nextThing_78
  exact loop34 _ 0 ((tx_S n dy ch kd wo ha we bo lm a t) - (tx_sm kd wo ha we t (d - a))) (by first | assumption | omega) (tx_in_V hwo hha hwe hch hdy hd hin).1 (fun v h9 => absurd h9 (Nat.not_lt_zero v)) (Nat.lt_succ_self _) _ _ hP hD hS ls (lv_sub hl [3, 4, 5, 6, 2, 1, 0] rfl)
set_option maxHeartbeats 4000000 in
set_option maxRecDepth 100000 in
theorem c_X2_findFirstYear (l : Launch) (D : va_G) (cs : Nat → ClassId) (sz : Nat) (h : Nat) (k0 : Nat) (k1 : Nat) (k2 : Nat) (k3 : Nat) (k4 : Nat) (k5 : Nat) (n : Nat) (dy : Nat) (ch : Nat) (lw : Nat) (kd : Nat → Nat) (wo : Nat → Nat) (ha : Nat → Nat) (we : Nat → Nat) (bo : Nat → Option Nat) (pl : Nat) (g1 : Nat) (g2 : Nat) (g3 : Nat) (yr : Nat) (bl : Int) (bm : Int) (ra : Nat → Nat) (rb : Nat → Nat) (rc : Nat → Nat) (M1 : Nat → Nat → Int32) (M2 : Nat → Nat → Int32) (M3 : Nat → Nat → Int32) (yf : Nat → Int32) (lm : Nat) (hn : n ≤ 4) (hdy : dy ≤ 20) (hd1 : 1 ≤ dy) (hbo : tx_okb bo) (hkd : ∀ e, kd e ≤ 5) (hn0 : 0 < n) (hwo : ∀ e, wo e ≤ 9) (hha : ∀ e, ha e ≤ 3) (hwe : ∀ e, we e ≤ 3) (hch : ch ≤ 9) (hl9 : lm ≤ 20) (hbm : bm = (lm : Int)) (hM1 : ∀ t, t < n → ∀ m, m ≤ dy → M1 t m = iI (tx_sm kd wo ha we t m)) (hal : tx_aw n dy ch kd wo ha we bo lm ≠ -999) : mV (S := (Nat → Nat → Int32) × (Nat → Nat → Int32) × (Nat → Int32)) l yX2_findFirstYear wsX2_findFirstYear ({ frames := 5, cells := 0, slots := 0, locals := 120 } : Room) D (tyc cs) sz [.ref pl, .ref h] [(h, .inr (4, [.ref k0, .ref k1, .ref k2, .ref k3, .ref k4, .ref k5, .int (nI n), .int (nI dy), .int (nI ch), .int (nI lw)])), (k0, aI cs 4 (tx_nf kd)), (k1, aI cs 4 (tx_nf wo)), (k2, aI cs 4 (tx_nf ha)), (k3, aI cs 4 (tx_nf we)), (k5, aI cs 20 (tx_bf bo)), (pl, .inr (2, [.ref g1, .ref g2, .ref g3, .ref yr, .int (iI bl), .int (iI bm)])), (g1, aG cs ra), (ra 0, aI cs 21 (M1 0)), (ra 1, aI cs 21 (M1 1)), (ra 2, aI cs 21 (M1 2)), (ra 3, aI cs 21 (M1 3)), (g2, aG cs rb), (g3, aG cs rc)] [(rb 0, aI cs 21 (M2 0)), (rb 1, aI cs 21 (M2 1)), (rb 2, aI cs 21 (M2 2)), (rb 3, aI cs 21 (M2 3)), (rc 0, aI cs 21 (M3 0)), (rc 1, aI cs 21 (M3 1)), (rc 2, aI cs 21 (M3 2)), (rc 3, aI cs 21 (M3 3)), (yr, aI cs 20 yf)] (fun (u : (Nat → Nat → Int32) × (Nat → Nat → Int32) × (Nat → Int32)) => match u with | (M4, M5, yf2) => ∀ e, e < dy → yf2 e = nI (tx_yd n dy ch kd wo ha we bo lm e)) (fun (u : (Nat → Nat → Int32) × (Nat → Nat → Int32) × (Nat → Int32)) => match u with | (M4, M5, yf2) => [(rb 0, aI cs 21 (M4 0)), (rb 1, aI cs 21 (M4 1)), (rb 2, aI cs 21 (M4 2)), (rb 3, aI cs 21 (M4 3)), (rc 0, aI cs 21 (M5 0)), (rc 1, aI cs 21 (M5 1)), (rc 2, aI cs 21 (M5 2)), (rc 3, aI cs 21 (M5 3)), (yr, aI cs 20 yf2)]) 0 0 := by
  unfold mV
  refine Met.ofW (cc := cX2_findFirstYear) (maxL := 5) (ret := none) (by decide) rfl ?_
  intro p e s m args below meth c s₁ B hml hv
  obtain ⟨rfl, hsz, hP, hK, hD0⟩ := hv
  have hx := B.exec
  have hb := B.bytes
  have hr := B.returns
  have hts := atoms_spec (ws := wsX2_findFirstYear) B.pre
  have hown : s.vm.findClass RX2 = some m.cls := findClass_of_methodNamed B.named
  have hlocks := B.notSynchronized
  subst hsz
  have hR := @en_R _ _ _ [(h, .inr (4, [.ref k0, .ref k1, .ref k2, .ref k3, .ref k4, .ref k5, .int (nI n), .int (nI dy), .int (nI ch), .int (nI lw)])), (k0, aI cs 4 (tx_nf kd)), (k1, aI cs 4 (tx_nf wo)), (k2, aI cs 4 (tx_nf ha)), (k3, aI cs 4 (tx_nf we)), (k5, aI cs 20 (tx_bf bo)), (pl, .inr (2, [.ref g1, .ref g2, .ref g3, .ref yr, .int (iI bl), .int (iI bm)])), (g1, aG cs ra), (ra 0, aI cs 21 (M1 0)), (ra 1, aI cs 21 (M1 1)), (ra 2, aI cs 21 (M1 2)), (ra 3, aI cs 21 (M1 3)), (g2, aG cs rb), (g3, aG cs rc)] [(rb 0, aI cs 21 (M2 0)), (rb 1, aI cs 21 (M2 1)), (rb 2, aI cs 21 (M2 2)), (rb 3, aI cs 21 (M2 3)), (rc 0, aI cs 21 (M3 0)), (rc 1, aI cs 21 (M3 1)), (rc 2, aI cs 21 (M3 2)), (rc 3, aI cs 21 (M3 3)), (yr, aI cs 20 yf)] _ hP hD0
  have hN := adN_of hD0
  have hD := en_D (wr := [(h, .inr (4, [.ref k0, .ref k1, .ref k2, .ref k3, .ref k4, .ref k5, .int (nI n), .int (nI dy), .int (nI ch), .int (nI lw)])), (k0, aI cs 4 (tx_nf kd)), (k1, aI cs 4 (tx_nf wo)), (k2, aI cs 4 (tx_nf ha)), (k3, aI cs 4 (tx_nf we)), (k5, aI cs 20 (tx_bf bo)), (pl, .inr (2, [.ref g1, .ref g2, .ref g3, .ref yr, .int (iI bl), .int (iI bm)])), (g1, aG cs ra), (ra 0, aI cs 21 (M1 0)), (ra 1, aI cs 21 (M1 1)), (ra 2, aI cs 21 (M1 2)), (ra 3, aI cs 21 (M1 3)), (g2, aG cs rb), (g3, aG cs rc)]) (ww := [(rb 0, aI cs 21 (M2 0)), (rb 1, aI cs 21 (M2 1)), (rb 2, aI cs 21 (M2 2)), (rb 3, aI cs 21 (M2 3)), (rc 0, aI cs 21 (M3 0)), (rc 1, aI cs 21 (M3 1)), (rc 2, aI cs 21 (M3 2)), (rc 3, aI cs 21 (M3 3)), (yr, aI cs 20 yf)]) (sz := s.heap.size) hD0
  have hP := en_P (wr := [(h, .inr (4, [.ref k0, .ref k1, .ref k2, .ref k3, .ref k4, .ref k5, .int (nI n), .int (nI dy), .int (nI ch), .int (nI lw)])), (k0, aI cs 4 (tx_nf kd)), (k1, aI cs 4 (tx_nf wo)), (k2, aI cs 4 (tx_nf ha)), (k3, aI cs 4 (tx_nf we)), (k5, aI cs 20 (tx_bf bo)), (pl, .inr (2, [.ref g1, .ref g2, .ref g3, .ref yr, .int (iI bl), .int (iI bm)])), (g1, aG cs ra), (ra 0, aI cs 21 (M1 0)), (ra 1, aI cs 21 (M1 1)), (ra 2, aI cs 21 (M1 2)), (ra 3, aI cs 21 (M1 3)), (g2, aG cs rb), (g3, aG cs rc)]) (ww := [(rb 0, aI cs 21 (M2 0)), (rb 1, aI cs 21 (M2 1)), (rb 2, aI cs 21 (M2 2)), (rb 3, aI cs 21 (M2 3)), (rc 0, aI cs 21 (M3 0)), (rc 1, aI cs 21 (M3 1)), (rc 2, aI cs 21 (M3 2)), (rc 3, aI cs 21 (M3 3)), (yr, aI cs 20 yf)]) hP
  generalize hAe : va_A [(rb 0, aI cs 21 (M2 0)), (rb 1, aI cs 21 (M2 1)), (rb 2, aI cs 21 (M2 2)), (rb 3, aI cs 21 (M2 3)), (rc 0, aI cs 21 (M3 0)), (rc 1, aI cs 21 (M3 1)), (rc 2, aI cs 21 (M3 2)), (rc 3, aI cs 21 (M3 3)), (yr, aI cs 20 yf)] s.heap.size = A at hD hR ⊢
  have hA : ∀ q : Nat, s.heap.size ≤ q → A q := fun q h => by rw [← hAe]; exact Or.inr h
  have hS : va_S A s.heap s.heap [] := va_S.rf
  have hN : adN [h, k0, k1, k2, k3, k5, pl, g1, ra 0, ra 1, ra 2, ra 3, g2, g3, rb 0, rb 1, rb 2, rb 3, rc 0, rc 1, rc 2, rc 3, yr] := hN
  have hf_22 := hts (.fieldLink RX2 22 "TaxedByLongest$Plan" "year" "[I") (by decide +kernel)
  have hf_30 := hts (.fieldLink RX2 30 "TaxedByLongest$Plan" "bestLimit" "I") (by decide +kernel)
  have hf_38 := hts (.fieldLink RX2 38 "TaxedByLongest$Told" "days" "I") (by decide +kernel)
  have in_X2 : ∀ w ∈ wsX20, w ∈ wsX2_findFirstYear := by decide +kernel
  have in_X4 : ∀ w ∈ wsX40, w ∈ wsX2_findFirstYear := by decide +kernel
  have hl := lv_entry ([.ref pl, .ref h]) (n := 5) (Nat.le_of_ble_eq_true rfl)
  rw [lg_entry_eq]
  generalize (lg_sl ([.ref pl, .ref h]) ++ List.replicate (5 - (lg_sl ([.ref pl, .ref h])).length) Slot.unset).toArray = ls at hl ⊢
  have hl : lv_has ls 5 [(0, .ref pl), (1, .ref h)] := hl
  refine lv_aload_n hx hb dX2_findFirstYear_0 rfl (lv_at hl 0 rfl) ?_
  refine lv_aload_n hx hb dX2_findFirstYear_1 rfl (lv_at hl 1 rfl) ?_
  refine lv_aload_n hx hb dX2_findFirstYear_2 rfl (lv_at hl 0 rfl) ?_
  refine va_get (D := D) (ci := 2) (v := .int (iI bm)) (C := RX2) (T := TX2) (N := 6) hx hb hts in_X2 hown hK (hR hS) 6 rfl rfl 5 (by decide) hf_30 (fun _ h9 => h9) rfl dX2_findFirstYear_3 ?_
  refine tp_i (show iI bm = nI lm from by rw [hbm]; exact (nI_iI _).symm) ?_
  refine cV_i (As := [.ref h, .int (nI lm)]) (rest := []) (cr := [(h, .inr (4, [.ref k0, .ref k1, .ref k2, .ref k3, .ref k4, .ref k5, .int (nI n), .int (nI dy), .int (nI ch), .int (nI lw)])), (k0, aI cs 4 (tx_nf kd)), (k1, aI cs 4 (tx_nf wo)), (k2, aI cs 4 (tx_nf ha)), (k3, aI cs 4 (tx_nf we)), (k5, aI cs 20 (tx_bf bo)), (pl, .inr (2, [.ref g1, .ref g2, .ref g3, .ref yr, .int (iI bl), .int (iI bm)])), (g1, aG cs ra), (ra 0, aI cs 21 (M1 0)), (ra 1, aI cs 21 (M1 1)), (ra 2, aI cs 21 (M1 2)), (ra 3, aI cs 21 (M1 3)), (g2, aG cs rb), (g3, aG cs rc)]) (cw1 := [(rb 0, aI cs 21 (M2 0)), (rb 1, aI cs 21 (M2 1)), (rb 2, aI cs 21 (M2 2)), (rb 3, aI cs 21 (M2 3)), (rc 0, aI cs 21 (M3 0)), (rc 1, aI cs 21 (M3 1)), (rc 2, aI cs 21 (M3 2)), (rc 3, aI cs 21 (M3 3))]) ⟨hx, hb, hml, hown, hts⟩ (c_X2_mostWithin l D cs _ h k0 k1 k2 k3 k4 k5 n dy ch lw kd wo ha we bo pl g1 g2 g3 yr bl bm ra rb rc M1 M2 M3 lm (by first | assumption | omega) (by first | assumption | omega) (by first | assumption | omega) (by first | assumption | omega) (by first | assumption | omega) (by first | assumption | omega) (by first | assumption | omega) (by first | assumption | omega) (by first | assumption | omega) (by first | assumption | omega) (by first | assumption | omega)) (cwV 2 hts gX2_findFirstYear_X2_mostWithin rfl rfl rfl (by decide +kernel) ⟨Nat.le_of_ble_eq_true rfl, Nat.le_of_ble_eq_true rfl⟩) hK hP hD hS hA (((hR hS).app hP).sub [0, 1, 2, 3, 4, 5, 6, 7, 8, 9, 10, 11, 12, 13, 14, 15, 16, 17, 18, 19, 20, 21] rfl) (dt_of hN [0, 1, 2, 3, 4, 5, 6, 7, 8, 9, 10, 11, 12, 13, 14, 15, 16, 17, 18, 19, 20, 21] (by decide) rfl) [0, 1, 2, 3, 4, 5, 6, 7] rfl 6 rfl rfl rfl hl.1 rfl (Nat.le_of_ble_eq_true rfl) dX2_findFirstYear_6 ⟨Nat.le_of_ble_eq_true rfl, Nat.le_of_ble_eq_true rfl⟩ (fun _ => rfl) (fun _ => rfl) (fun r_1 u9 H locs hw_2 hP hD hS => ?_)
  obtain ⟨M4_3, M5_4⟩ := u9
  have hP : va_P D vwCl [(rb 0, aI cs 21 (M4_3 0)), (rb 1, aI cs 21 (M4_3 1)), (rb 2, aI cs 21 (M4_3 2)), (rb 3, aI cs 21 (M4_3 3)), (rc 0, aI cs 21 (M5_4 0)), (rc 1, aI cs 21 (M5_4 1)), (rc 2, aI cs 21 (M5_4 2)), (rc 3, aI cs 21 (M5_4 3)), (yr, aI cs 20 yf)] H := hP
  have hD : va_D A [(rb 0, aI cs 21 (M4_3 0)), (rb 1, aI cs 21 (M4_3 1)), (rb 2, aI cs 21 (M4_3 2)), (rb 3, aI cs 21 (M4_3 3)), (rc 0, aI cs 21 (M5_4 0)), (rc 1, aI cs 21 (M5_4 1)), (rc 2, aI cs 21 (M5_4 2)), (rc 3, aI cs 21 (M5_4 3)), (yr, aI cs 20 yf)] := hD
  obtain ⟨hw_2_0, hw_2⟩ := hw_2
  subst r_1
  have hT := hw_2
  refine lv_istore_n (lv' := [(2, .int (iI (tx_aw n dy ch kd wo ha we bo lm))), (0, .ref pl), (1, .ref h)]) hx hb dX2_findFirstYear_9 rfl hl (by decide) rfl (fun ls hl => ?_)
  have hy0 := tx_yu_b (n := n) (dy := dy) (ch := ch) (kd := kd) (wo := wo) (ha := ha) (we := we) (bo := bo) (l := lm) hwo hha hwe hch hdy hn0 0 (-1) 0
  have hS0 : tx_S n dy ch kd wo ha we bo lm 0 (tx_yu n dy ch kd wo ha we bo lm 0 (-1) 0) ≠ -999 := by
    rw [← tx_on_1, hy0.2, ← tx_aw_on]
    exact hal
  refine lv_iconst (v := 0) hx hb dX2_findFirstYear_10 (by decide) ?_
  refine lv_istore_n (lv' := [(3, .int 0), (2, .int (iI (tx_aw n dy ch kd wo ha we bo lm))), (0, .ref pl), (1, .ref h)]) hx hb dX2_findFirstYear_11 rfl hl (by decide) rfl (fun ls hl => ?_)
  refine lv_aload_n hx hb dX2_findFirstYear_12 rfl (lv_at hl 2 rfl) ?_
  refine va_get (D := D) (ci := 2) (v := .ref yr) (C := RX2) (T := TX2) (N := 6) hx hb hts in_X2 hown hK (hR hS) 6 rfl rfl 3 (by decide) hf_22 (fun _ h9 => h9) rfl dX2_findFirstYear_13 ?_
  refine lv_iconst (v := 0) hx hb dX2_findFirstYear_16 (by decide) ?_
  refine lv_aload_n hx hb dX2_findFirstYear_17 rfl (lv_at hl 2 rfl) ?_
  refine lv_aload_n hx hb dX2_findFirstYear_18 rfl (lv_at hl 3 rfl) ?_
  refine lv_iload_n hx hb dX2_findFirstYear_19 rfl (lv_at hl 1 rfl) ?_
  refine cV_i (As := [.ref h, .int (iI (tx_aw n dy ch kd wo ha we bo lm))]) (rest := [.int 0, .ref yr]) (cr := [(h, .inr (4, [.ref k0, .ref k1, .ref k2, .ref k3, .ref k4, .ref k5, .int (nI n), .int (nI dy), .int (nI ch), .int (nI lw)])), (k0, aI cs 4 (tx_nf kd)), (k1, aI cs 4 (tx_nf wo)), (k2, aI cs 4 (tx_nf ha)), (k3, aI cs 4 (tx_nf we)), (k5, aI cs 20 (tx_bf bo)), (pl, .inr (2, [.ref g1, .ref g2, .ref g3, .ref yr, .int (iI bl), .int (iI bm)])), (g2, aG cs rb), (rb 0, aI cs 21 (M4_3 0)), (rb 1, aI cs 21 (M4_3 1)), (rb 2, aI cs 21 (M4_3 2)), (rb 3, aI cs 21 (M4_3 3))]) (cw1 := []) ⟨hx, hb, hml, hown, hts⟩ (c_X2_firstStart l D cs _ h k0 k1 k2 k3 k4 k5 n dy ch lw kd wo ha we bo pl g1 g2 g3 yr bl bm rb M4_3 lm (tx_aw n dy ch kd wo ha we bo lm) (by first | assumption | omega) (by first | assumption | omega) (by first | assumption | omega) (by first | assumption | omega) (by first | assumption | omega) (by first | assumption | omega) (by first | assumption | omega) (by first | assumption | omega) hT.1 rfl) (cwV 2 hts gX2_findFirstYear_X2_firstStart rfl rfl rfl (by decide +kernel) ⟨Nat.le_of_ble_eq_true rfl, Nat.le_of_ble_eq_true rfl⟩) hK hP hD hS hA (((hR hS).app hP).sub [0, 1, 2, 3, 4, 5, 6, 12, 14, 15, 16, 17] rfl) (dt_of hN [0, 1, 2, 3, 4, 5, 6, 12, 14, 15, 16, 17] (by decide) rfl) [] rfl 6 rfl rfl rfl hl.1 rfl (Nat.le_of_ble_eq_true rfl) dX2_findFirstYear_20 ⟨Nat.le_of_ble_eq_true rfl, Nat.le_of_ble_eq_true rfl⟩ (fun _ => rfl) (fun _ => rfl) (fun r_5 u9 H locs hw_6 hP hD hS => ?_)
  have hP : va_P D vwCl [(rb 0, aI cs 21 (M4_3 0)), (rb 1, aI cs 21 (M4_3 1)), (rb 2, aI cs 21 (M4_3 2)), (rb 3, aI cs 21 (M4_3 3)), (rc 0, aI cs 21 (M5_4 0)), (rc 1, aI cs 21 (M5_4 1)), (rc 2, aI cs 21 (M5_4 2)), (rc 3, aI cs 21 (M5_4 3)), (yr, aI cs 20 yf)] H := hP
  have hD : va_D A [(rb 0, aI cs 21 (M4_3 0)), (rb 1, aI cs 21 (M4_3 1)), (rb 2, aI cs 21 (M4_3 2)), (rb 3, aI cs 21 (M4_3 3)), (rc 0, aI cs 21 (M5_4 0)), (rc 1, aI cs 21 (M5_4 1)), (rc 2, aI cs 21 (M5_4 2)), (rc 3, aI cs 21 (M5_4 3)), (yr, aI cs 20 yf)] := hD
  subst r_5
  refine is_n (f := yf) hx hb hK hP hD hS 8 0 rfl rfl (j := 0) rfl (by decide) (by decide) dX2_findFirstYear_23 (fun H locs hP hD hS => ?_)
  have hP : va_P D vwCl [(rb 0, aI cs 21 (M4_3 0)), (rb 1, aI cs 21 (M4_3 1)), (rb 2, aI cs 21 (M4_3 2)), (rb 3, aI cs 21 (M4_3 3)), (rc 0, aI cs 21 (M5_4 0)), (rc 1, aI cs 21 (M5_4 1)), (rc 2, aI cs 21 (M5_4 2)), (rc 3, aI cs 21 (M5_4 3)), (yr, aI cs 20 (upd yf 0 (nI (tx_yu n dy ch kd wo ha we bo lm 0 (-1) 0))))] H := hP
  have hD : va_D A [(rb 0, aI cs 21 (M4_3 0)), (rb 1, aI cs 21 (M4_3 1)), (rb 2, aI cs 21 (M4_3 2)), (rb 3, aI cs 21 (M4_3 3)), (rc 0, aI cs 21 (M5_4 0)), (rc 1, aI cs 21 (M5_4 1)), (rc 2, aI cs 21 (M5_4 2)), (rc 3, aI cs 21 (M5_4 3)), (yr, aI cs 20 (upd yf 0 (nI (tx_yu n dy ch kd wo ha we bo lm 0 (-1) 0))))] := hD
  refine lv_iconst (v := 1) hx hb dX2_findFirstYear_24 (by decide) ?_
  refine lv_istore (lv' := [(4, .int 1), (3, .int 0), (2, .int (iI (tx_aw n dy ch kd wo ha we bo lm))), (0, .ref pl), (1, .ref h)]) hx hb dX2_findFirstYear_25 hl (by decide) rfl (fun ls hl => ?_)
  have loop27 : ∀ (n9 : Nat) (d : Nat) (a : Nat) (t : Nat) (y9 : Nat → Int32) (had : a < d) (hd9 : d ≤ dy) (hyf : y9 a = nI t) (ht : t < n) (hin : tx_in n dy ch kd wo ha we bo lm a t d) (hys : tx_ys n dy ch kd wo ha we bo lm d = ((t : Int), d - a)) (hyd : ∀ e, e < d → y9 e = nI (tx_yd n dy ch kd wo ha we bo lm e)), dy - d < n9 → ∀ (H : Heap) (locs : List Loc), va_P D vwCl [(rb 0, aI cs 21 (M4_3 0)), (rb 1, aI cs 21 (M4_3 1)), (rb 2, aI cs 21 (M4_3 2)), (rb 3, aI cs 21 (M4_3 3)), (rc 0, aI cs 21 (M5_4 0)), (rc 1, aI cs 21 (M5_4 1)), (rc 2, aI cs 21 (M5_4 2)), (rc 3, aI cs 21 (M5_4 3)), (yr, aI cs 20 y9)] H → va_D A [(rb 0, aI cs 21 (M4_3 0)), (rb 1, aI cs 21 (M4_3 1)), (rb 2, aI cs 21 (M4_3 2)), (rb 3, aI cs 21 (M4_3 3)), (rc 0, aI cs 21 (M5_4 0)), (rc 1, aI cs 21 (M5_4 1)), (rc 2, aI cs 21 (M5_4 2)), (rc 3, aI cs 21 (M5_4 3)), (yr, aI cs 20 y9)] → va_S A s.heap H locs → ∀ (ls : Array Slot), lv_has ls 5 [(0, .ref pl), (1, .ref h), (3, .int (nI a)), (4, .int (nI d))] → W p l e (headSpec wsX2_findFirstYear ({ frames := 5, cells := 0, slots := 0, locals := 120 } : Room)).room s m ([.ref pl, .ref h] : List Value).toArray below meth c H locs 0 0 (MQ below (va_Qv (fun (u : (Nat → Nat → Int32) × (Nat → Nat → Int32) × (Nat → Int32)) => match u with | (M4, M5, yf2) => ∀ e, e < dy → yf2 e = nI (tx_yd n dy ch kd wo ha we bo lm e)) (QB D (fun (u : (Nat → Nat → Int32) × (Nat → Nat → Int32) × (Nat → Int32)) => match u with | (M4, M5, yf2) => [(rb 0, aI cs 21 (M4 0)), (rb 1, aI cs 21 (M4 1)), (rb 2, aI cs 21 (M4 2)), (rb 3, aI cs 21 (M4 3)), (rc 0, aI cs 21 (M5 0)), (rc 1, aI cs 21 (M5 1)), (rc 2, aI cs 21 (M5 2)), (rc 3, aI cs 21 (M5 3)), (yr, aI cs 20 yf2)]) A) A) ([.ref pl, .ref h] : List Value).toArray s 0 0 A) (F0 m 27 ls []) := by
    intro n9
    induction n9 with
    | zero => intros; omega
    | succ n9 ih27 =>
      intro d a t y9 had hd9 hyf ht hin hys hyd hmu H locs hP hD hS ls hl
      refine lv_iload hx hb dX2_findFirstYear_27 (lv_at hl 3 rfl) ?_
      refine lv_aload_n hx hb dX2_findFirstYear_29 rfl (lv_at hl 1 rfl) ?_
      refine va_get (D := D) (ci := 4) (v := .int (nI dy)) (C := RX4) (T := TX4) (N := 10) hx hb hts in_X4 hown hK (hR hS) 0 rfl rfl 7 (by decide) hf_38 (fun _ h9 => h9) rfl dX2_findFirstYear_30 ?_
      refine bn_ge (a := d) (b := dy) (tgt := 76) hx hb rfl rfl (by omega) (by omega) dX2_findFirstYear_33 (by decide) (fun c33 => ?_) (fun c33 => ?_)
      · exact rt_v hx hb hr hlocks (M4_3, M5_4, y9) (fun e h9 => hyd e (by omega)) hP hD hS dX2_findFirstYear_76
      · have hy1 := tx_yu_b (n := n) (dy := dy) (ch := ch) (kd := kd) (wo := wo) (ha := ha) (we := we) (bo := bo) (l := lm) hwo hha hwe hch hdy hn0 d (t : Int) (d - a)
        refine lv_aload_n hx hb dX2_findFirstYear_36 rfl (lv_at hl 0 rfl) ?_
        refine va_get (D := D) (ci := 2) (v := .ref yr) (C := RX2) (T := TX2) (N := 6) hx hb hts in_X2 hown hK (hR hS) 6 rfl rfl 3 (by decide) hf_22 (fun _ h9 => h9) rfl dX2_findFirstYear_37 ?_
        refine lv_iload hx hb dX2_findFirstYear_40 (lv_at hl 3 rfl) ?_
        refine lv_aload_n hx hb dX2_findFirstYear_42 rfl (lv_at hl 0 rfl) ?_
        refine lv_aload_n hx hb dX2_findFirstYear_43 rfl (lv_at hl 1 rfl) ?_
        refine lv_iload_n hx hb dX2_findFirstYear_44 rfl (lv_at hl 2 rfl) ?_
        refine lv_iload hx hb dX2_findFirstYear_45 (lv_at hl 3 rfl) ?_
        refine cV_i (As := [.ref h, .int (nI a), .int (nI d)]) (rest := [.int (nI d), .ref yr]) (cr := [(h, .inr (4, [.ref k0, .ref k1, .ref k2, .ref k3, .ref k4, .ref k5, .int (nI n), .int (nI dy), .int (nI ch), .int (nI lw)])), (k0, aI cs 4 (tx_nf kd)), (k1, aI cs 4 (tx_nf wo)), (k2, aI cs 4 (tx_nf ha)), (k3, aI cs 4 (tx_nf we)), (k5, aI cs 20 (tx_bf bo)), (pl, .inr (2, [.ref g1, .ref g2, .ref g3, .ref yr, .int (iI bl), .int (iI bm)])), (g1, aG cs ra), (ra 0, aI cs 21 (M1 0)), (ra 1, aI cs 21 (M1 1)), (ra 2, aI cs 21 (M1 2)), (ra 3, aI cs 21 (M1 3)), (g2, aG cs rb), (rb 0, aI cs 21 (M4_3 0)), (rb 1, aI cs 21 (M4_3 1)), (rb 2, aI cs 21 (M4_3 2)), (rb 3, aI cs 21 (M4_3 3)), (g3, aG cs rc), (rc 0, aI cs 21 (M5_4 0)), (rc 1, aI cs 21 (M5_4 1)), (rc 2, aI cs 21 (M5_4 2)), (rc 3, aI cs 21 (M5_4 3)), (yr, aI cs 20 y9)]) (cw1 := []) ⟨hx, hb, hml, hown, hts⟩ (c_X2_nextThing l D cs _ h k0 k1 k2 k3 k4 k5 n dy ch lw kd wo ha we bo pl g1 g2 g3 yr bl bm ra rb rc M1 M4_3 M5_4 y9 t a d lm (by first | assumption | omega) (by first | assumption | omega) (by first | assumption | omega) (by first | assumption | omega) (by first | assumption | omega) (by first | assumption | omega) (by first | assumption | omega) (by first | assumption | omega) (by first | assumption | omega) (by first | assumption | omega) (by first | assumption | omega) (by first | assumption | omega) hT.1 hT.2 (by first | assumption | omega) (by first | assumption | omega) (by first | assumption | omega) (by first | assumption | omega) (by first | assumption | omega)) (cwV 3 hts gX2_findFirstYear_X2_nextThing rfl rfl rfl (by decide +kernel) ⟨Nat.le_of_ble_eq_true rfl, Nat.le_of_ble_eq_true rfl⟩) hK hP hD hS hA (((hR hS).app hP).sub [0, 1, 2, 3, 4, 5, 6, 7, 8, 9, 10, 11, 12, 14, 15, 16, 17, 13, 18, 19, 20, 21, 22] rfl) (dt_of hN [0, 1, 2, 3, 4, 5, 6, 7, 8, 9, 10, 11, 12, 14, 15, 16, 17, 13, 18, 19, 20, 21, 22] (by decide) rfl) [] rfl 6 rfl rfl rfl hl.1 rfl (Nat.le_of_ble_eq_true rfl) dX2_findFirstYear_47 ⟨Nat.le_of_ble_eq_true rfl, Nat.le_of_ble_eq_true rfl⟩ (fun _ => rfl) (fun _ => rfl) (fun r_7 u9 H locs hw_8 hP hD hS => ?_)
        have hP : va_P D vwCl [(rb 0, aI cs 21 (M4_3 0)), (rb 1, aI cs 21 (M4_3 1)), (rb 2, aI cs 21 (M4_3 2)), (rb 3, aI cs 21 (M4_3 3)), (rc 0, aI cs 21 (M5_4 0)), (rc 1, aI cs 21 (M5_4 1)), (rc 2, aI cs 21 (M5_4 2)), (rc 3, aI cs 21 (M5_4 3)), (yr, aI cs 20 y9)] H := hP
        have hD : va_D A [(rb 0, aI cs 21 (M4_3 0)), (rb 1, aI cs 21 (M4_3 1)), (rb 2, aI cs 21 (M4_3 2)), (rb 3, aI cs 21 (M4_3 3)), (rc 0, aI cs 21 (M5_4 0)), (rc 1, aI cs 21 (M5_4 1)), (rc 2, aI cs 21 (M5_4 2)), (rc 3, aI cs 21 (M5_4 3)), (yr, aI cs 20 y9)] := hD
        subst r_7
        refine is_n (f := y9) hx hb hK hP hD hS 8 0 rfl rfl (j := d) rfl (by omega) (by decide) dX2_findFirstYear_50 (fun H locs hP hD hS => ?_)
        have hP : va_P D vwCl [(rb 0, aI cs 21 (M4_3 0)), (rb 1, aI cs 21 (M4_3 1)), (rb 2, aI cs 21 (M4_3 2)), (rb 3, aI cs 21 (M4_3 3)), (rc 0, aI cs 21 (M5_4 0)), (rc 1, aI cs 21 (M5_4 1)), (rc 2, aI cs 21 (M5_4 2)), (rc 3, aI cs 21 (M5_4 3)), (yr, aI cs 20 (upd y9 d (nI (tx_yu n dy ch kd wo ha we bo lm d (t : Int) (d - a)))))] H := hP
        have hD : va_D A [(rb 0, aI cs 21 (M4_3 0)), (rb 1, aI cs 21 (M4_3 1)), (rb 2, aI cs 21 (M4_3 2)), (rb 3, aI cs 21 (M4_3 3)), (rc 0, aI cs 21 (M5_4 0)), (rc 1, aI cs 21 (M5_4 1)), (rc 2, aI cs 21 (M5_4 2)), (rc 3, aI cs 21 (M5_4 3)), (yr, aI cs 20 (upd y9 d (nI (tx_yu n dy ch kd wo ha we bo lm d (t : Int) (d - a)))))] := hD
        refine lv_aload_n hx hb dX2_findFirstYear_51 rfl (lv_at hl 0 rfl) ?_
        refine va_get (D := D) (ci := 2) (v := .ref yr) (C := RX2) (T := TX2) (N := 6) hx hb hts in_X2 hown hK (hR hS) 6 rfl rfl 3 (by decide) hf_22 (fun _ h9 => h9) rfl dX2_findFirstYear_52 ?_
        refine lv_iload hx hb dX2_findFirstYear_55 (lv_at hl 3 rfl) ?_
        refine ia_n (f := upd y9 d (nI (tx_yu n dy ch kd wo ha we bo lm d (t : Int) (d - a)))) hx hb hK hP 8 0 rfl rfl (j := d) rfl (by omega) (by decide) dX2_findFirstYear_57 ?_
        refine tp_i (show upd y9 d (nI (tx_yu n dy ch kd wo ha we bo lm d (t : Int) (d - a))) d = nI (tx_yu n dy ch kd wo ha we bo lm d (t : Int) (d - a)) from pk_us) ?_
        refine lv_aload_n hx hb dX2_findFirstYear_58 rfl (lv_at hl 0 rfl) ?_
        refine va_get (D := D) (ci := 2) (v := .ref yr) (C := RX2) (T := TX2) (N := 6) hx hb hts in_X2 hown hK (hR hS) 6 rfl rfl 3 (by decide) hf_22 (fun _ h9 => h9) rfl dX2_findFirstYear_59 ?_
        refine lv_iload_n hx hb dX2_findFirstYear_62 rfl (lv_at hl 2 rfl) ?_
        refine ia_n (f := upd y9 d (nI (tx_yu n dy ch kd wo ha we bo lm d (t : Int) (d - a)))) hx hb hK hP 8 0 rfl rfl (j := a) rfl (by omega) (by decide) dX2_findFirstYear_63 ?_
        refine tp_i (show upd y9 d (nI (tx_yu n dy ch kd wo ha we bo lm d (t : Int) (d - a))) a = nI t from by rw [pk_un (by omega)]; exact hyf) ?_
        refine bn_eq (a := tx_yu n dy ch kd wo ha we bo lm d (t : Int) (d - a)) (b := t) (tgt := 70) hx hb rfl rfl (by omega) (by omega) dX2_findFirstYear_64 (by decide) (fun c64 => ?_) (fun c64 => ?_)
        · refine lv_iinc (v := nI (d + 1)) (lv' := [(4, .int (nI (d + 1))), (0, .ref pl), (1, .ref h), (3, .int (nI a))]) hx hb dX2_findFirstYear_70 hl (k := 3) rfl (inc_n d 1) (by decide) rfl (fun ls hl => ?_)
          refine lv_goto (tgt := 27) hx hb dX2_findFirstYear_73 (by decide) ?_
          exact ih27 (d + 1) a t (upd y9 d (nI (tx_yu n dy ch kd wo ha we bo lm d (t : Int) (d - a)))) (by first | assumption | omega) (by first | assumption | omega) (by rw [pk_un (by omega)]; exact hyf) ht (tx_in_s hwo hha hwe hch hdy had (by omega) hin (by rw [c64] at hy1; exact hy1.2)) (by rw [tx_ys, hys]; dsimp only; rw [c64, if_pos rfl, show d - a + 1 = d + 1 - a by omega]) (fun e h9 => by by_cases q : e = d; (rw [q]; exact pk_us.trans (by rw [tx_yd, hys])); (rw [pk_un q]; exact hyd e (by omega))) (by omega) _ _ hP hD hS ls (lv_sub hl [1, 2, 3, 0] rfl)
        · refine lv_iload hx hb dX2_findFirstYear_67 (lv_at hl 3 rfl) ?_
          refine lv_istore_n (lv' := [(3, .int (nI d)), (0, .ref pl), (1, .ref h), (4, .int (nI d))]) hx hb dX2_findFirstYear_69 rfl hl (by decide) rfl (fun ls hl => ?_)
          refine lv_iinc (v := nI (d + 1)) (lv' := [(4, .int (nI (d + 1))), (3, .int (nI d)), (0, .ref pl), (1, .ref h)]) hx hb dX2_findFirstYear_70 hl (k := 3) rfl (inc_n d 1) (by decide) rfl (fun ls hl => ?_)
          refine lv_goto (tgt := 27) hx hb dX2_findFirstYear_73 (by decide) ?_
          exact ih27 (d + 1) d (tx_yu n dy ch kd wo ha we bo lm d (t : Int) (d - a)) (upd y9 d (nI (tx_yu n dy ch kd wo ha we bo lm d (t : Int) (d - a)))) (by first | assumption | omega) (by first | assumption | omega) pk_us hy1.1 (tx_in_n hwo hha hwe hch hdy had (by omega) hin c64 hy1.2) (by rw [tx_ys, hys]; dsimp only; rw [if_neg (by omega), show d + 1 - d = 1 by omega]) (fun e h9 => by by_cases q : e = d; (rw [q]; exact pk_us.trans (by rw [tx_yd, hys])); (rw [pk_un q]; exact hyd e (by omega))) (by omega) _ _ hP hD hS ls (lv_sub hl [2, 3, 1, 0] rfl)
  exact loop27 _ 1 0 (tx_yu n dy ch kd wo ha we bo lm 0 (-1) 0) (upd yf 0 (nI (tx_yu n dy ch kd wo ha we bo lm 0 (-1) 0))) (by first | assumption | omega) (by first | assumption | omega) pk_us hy0.1 (tx_in_0 hwo hha hwe hch hdy (by omega) hS0) (Prod.ext rfl (if_neg (t := (0 + 1 : Nat)) (e := (1 : Nat)) (show ¬ ((-1 : Int) = ((tx_yu n dy ch kd wo ha we bo lm 0 (-1) 0 : Nat) : Int)) by omega))) (fun e h9 => by rw [show e = 0 by omega]; exact pk_us) (Nat.lt_succ_self _) _ _ hP hD hS ls (lv_sub hl [3, 4, 1, 0] rfl)
