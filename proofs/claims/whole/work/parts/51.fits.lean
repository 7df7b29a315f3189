set_option maxHeartbeats 16000000 in
set_option maxRecDepth 100000 in
theorem c_X6_fits (l : Launch) (D : va_G) (cs : Nat → ClassId) (sz : Nat) (o : Nat) (o1 : Nat) (o2 : Nat) (o3 : Nat) (o4 : Nat) (o5 : Nat) (o6 : Nat) (o7 : Nat) (o8 : Nat) (o9 : Nat) (o10 : Nat) (o11 : Nat) (o12 : Nat) (o13 : Nat) (o14 : Nat) (o15 : Nat) (n : Nat) (dy : Nat) (ch : Nat) (lw : Nat) (tz : Nat) (at9 : Nat) (va9 : Nat) (ss : Nat) (im : Bool) (kd : Nat → Nat) (sn : Nat → Nat) (now9 : Nat → Int64) (nxt9 : Nat → Int64) (sq : Nat) (day : Int) (th : Nat) (hn : n ≤ 4) (hkd : ∀ e, kd e ≤ 5) (hn0 : 0 < n) (hss1 : 1 ≤ ss) (hss : ss ≤ 20) (hsn : ∀ e, sn e ≤ 9) (hsq : sq ≤ 400) (hday : -1 ≤ day ∧ day ≤ 100) (hth : th ≤ 9) : mL (S := (Nat → Int64) × (Nat → Int64)) l yX6_fits wsX6_fits ({ frames := 1, cells := 0, slots := 0, locals := 21 } : Room) D (tyc cs) sz [.ref o, .int (nI sq), .int (iI day), .int (nI th)] [(o, .inr (6, [.int (nI n), .ref o1, .ref o2, .ref o3, .ref o4, .int (nI dy), .ref o5, .ref o6, .int (nI ch), .int (nI lw), .int (nI tz), .ref o7, .int (nI at9), .int (nI va9), .int (nI ss), .ref o8, .ref o9, .int (bI im), .ref o10, .ref o11, .ref o12, .ref o13, .ref o14, .ref o15])), (o1, aI cs 4 (tx_nf kd)), (o8, aI cs 20 (tx_nf sn))] [(o14, aL cs 1764 now9), (o15, aL cs 1764 nxt9)] (fun (r : Int64) (u : (Nat → Int64) × (Nat → Int64)) => match u with | (now2, nxt2) => r = lN (tx_pay n ss (tx_Pf sn day th) (tx_tx n kd) sq)) (fun (u : (Nat → Int64) × (Nat → Int64)) => match u with | (now2, nxt2) => [(o14, aL cs 1764 now2), (o15, aL cs 1764 nxt2)]) 0 0 := by
  unfold mL
  refine Met.ofW (cc := cX6_fits) (maxL := 12) (ret := (some .long)) (by decide) rfl ?_
  intro p e s m args below meth c s₁ B hml hv
  obtain ⟨rfl, hsz, hP, hK, hD0⟩ := hv
  have hx := B.exec
  have hb := B.bytes
  have hr := B.returns
  have hts := atoms_spec (ws := wsX6_fits) B.pre
  have hown : s.vm.findClass RX6 = some m.cls := findClass_of_methodNamed B.named
  have hlocks := B.notSynchronized
  subst hsz
  have hR := @en_R _ _ _ [(o, .inr (6, [.int (nI n), .ref o1, .ref o2, .ref o3, .ref o4, .int (nI dy), .ref o5, .ref o6, .int (nI ch), .int (nI lw), .int (nI tz), .ref o7, .int (nI at9), .int (nI va9), .int (nI ss), .ref o8, .ref o9, .int (bI im), .ref o10, .ref o11, .ref o12, .ref o13, .ref o14, .ref o15])), (o1, aI cs 4 (tx_nf kd)), (o8, aI cs 20 (tx_nf sn))] [(o14, aL cs 1764 now9), (o15, aL cs 1764 nxt9)] _ hP hD0
  have hN := adN_of hD0
  have hD := en_D (wr := [(o, .inr (6, [.int (nI n), .ref o1, .ref o2, .ref o3, .ref o4, .int (nI dy), .ref o5, .ref o6, .int (nI ch), .int (nI lw), .int (nI tz), .ref o7, .int (nI at9), .int (nI va9), .int (nI ss), .ref o8, .ref o9, .int (bI im), .ref o10, .ref o11, .ref o12, .ref o13, .ref o14, .ref o15])), (o1, aI cs 4 (tx_nf kd)), (o8, aI cs 20 (tx_nf sn))]) (ww := [(o14, aL cs 1764 now9), (o15, aL cs 1764 nxt9)]) (sz := s.heap.size) hD0
  have hP := en_P (wr := [(o, .inr (6, [.int (nI n), .ref o1, .ref o2, .ref o3, .ref o4, .int (nI dy), .ref o5, .ref o6, .int (nI ch), .int (nI lw), .int (nI tz), .ref o7, .int (nI at9), .int (nI va9), .int (nI ss), .ref o8, .ref o9, .int (bI im), .ref o10, .ref o11, .ref o12, .ref o13, .ref o14, .ref o15])), (o1, aI cs 4 (tx_nf kd)), (o8, aI cs 20 (tx_nf sn))]) (ww := [(o14, aL cs 1764 now9), (o15, aL cs 1764 nxt9)]) hP
  generalize hAe : va_A [(o14, aL cs 1764 now9), (o15, aL cs 1764 nxt9)] s.heap.size = A at hD hR ⊢
  have hA : ∀ q : Nat, s.heap.size ≤ q → A q := fun q h => by rw [← hAe]; exact Or.inr h
  have hS : va_S A s.heap s.heap [] := va_S.rf
  have hN : adN [o, o1, o8, o14, o15] := hN
  have hf_31 := hts (.fieldLink RX6 31 "TaxedByLongestModel" "row" "[I") (by decide +kernel)
  have hf_49 := hts (.fieldLink RX6 49 "TaxedByLongestModel" "now" "[J") (by decide +kernel)
  have hf_53 := hts (.fieldLink RX6 53 "TaxedByLongestModel" "next" "[J") (by decide +kernel)
  have hf_71 := hts (.fieldLink RX6 71 "TaxedByLongestModel" "things" "I") (by decide +kernel)
  have hf_189 := hts (.fieldLink RX6 189 "TaxedByLongestModel" "inRow" "I") (by decide +kernel)
  have in_X6 : ∀ w ∈ wsX60, w ∈ wsX6_fits := by decide +kernel
  have hl := lv_entry ([.ref o, .int (nI sq), .int (iI day), .int (nI th)]) (n := 12) (Nat.le_of_ble_eq_true rfl)
  rw [lg_entry_eq]
  generalize (lg_sl ([.ref o, .int (nI sq), .int (iI day), .int (nI th)]) ++ List.replicate (12 - (lg_sl ([.ref o, .int (nI sq), .int (iI day), .int (nI th)])).length) Slot.unset).toArray = ls at hl ⊢
  have hl : lv_has ls 12 [(0, .ref o), (1, .int (nI sq)), (2, .int (iI day)), (3, .int (nI th))] := hl
  refine lv_iconst (v := 0) hx hb dX6_fits_0 (by decide) ?_
  refine lv_istore (lv' := [(4, .int 0), (0, .ref o), (1, .int (nI sq)), (2, .int (iI day)), (3, .int (nI th))]) hx hb dX6_fits_1 hl (by decide) rfl (fun ls hl => ?_)
  have loop3 : ∀ (n9 : Nat) (i : Nat) (ga : Nat → Int64) (hi : i ≤ 1764) (hga : ∀ j, j < i → ga j = 0), 1764 - i < n9 → ∀ (H : Heap) (locs : List Loc), va_P D vwCl [(o14, aL cs 1764 ga), (o15, aL cs 1764 nxt9)] H → va_D A [(o14, aL cs 1764 ga), (o15, aL cs 1764 nxt9)] → va_S A s.heap H locs → ∀ (ls : Array Slot), lv_has ls 12 [(0, .ref o), (1, .int (nI sq)), (2, .int (iI day)), (3, .int (nI th)), (4, .int (nI i))] → W p l e (headSpec wsX6_fits ({ frames := 1, cells := 0, slots := 0, locals := 21 } : Room)).room s m ([.ref o, .int (nI sq), .int (iI day), .int (nI th)] : List Value).toArray below meth c H locs 0 0 (MQ below (va_Ql (fun (r : Int64) (u : (Nat → Int64) × (Nat → Int64)) => match u with | (now2, nxt2) => r = lN (tx_pay n ss (tx_Pf sn day th) (tx_tx n kd) sq)) (QB D (fun (u : (Nat → Int64) × (Nat → Int64)) => match u with | (now2, nxt2) => [(o14, aL cs 1764 now2), (o15, aL cs 1764 nxt2)]) A) A) ([.ref o, .int (nI sq), .int (iI day), .int (nI th)] : List Value).toArray s 0 0 A) (F0 m 3 ls []) := by
    intro n9
    induction n9 with
    | zero => intros; omega
    | succ n9 ih3 =>
      intro i ga hi hga hmu H locs hP hD hS ls hl
      refine lv_iload hx hb dX6_fits_3 (lv_at hl 4 rfl) ?_
      refine lv_sipush (v := 1764) hx hb dX6_fits_5 (by decide) ?_
      refine bn_ge (a := i) (b := 1764) (tgt := 25) hx hb rfl rfl (by omega) (by decide) dX6_fits_8 (by decide) (fun c8 => ?_) (fun c8 => ?_)
      · refine lv_iconst (v := 0) hx hb dX6_fits_25 (by decide) ?_
        refine lv_istore (lv' := [(4, .int 0), (0, .ref o), (1, .int (nI sq)), (2, .int (iI day)), (3, .int (nI th))]) hx hb dX6_fits_26 hl (by decide) rfl (fun ls hl => ?_)
        have loop28 : ∀ (n9 : Nat) (d : Nat) (ga : Nat → Int64) (gb : Nat → Int64) (hd9 : d ≤ ss) (hE : 0 < d → ∀ L, L ≤ 20 → tx_EE n ss (tx_Pf sn day th) (tx_tx n kd) L d ga = lN (tx_tot n ss (tx_Pf sn day th) (tx_tx n kd) L)) (hZ : tx_ZZ n d ga), ss - d < n9 → ∀ (H : Heap) (locs : List Loc), va_P D vwCl [(o14, aL cs 1764 ga), (o15, aL cs 1764 gb)] H → va_D A [(o14, aL cs 1764 ga), (o15, aL cs 1764 gb)] → va_S A s.heap H locs → ∀ (ls : Array Slot), lv_has ls 12 [(0, .ref o), (1, .int (nI sq)), (2, .int (iI day)), (3, .int (nI th)), (4, .int (nI d))] → W p l e (headSpec wsX6_fits ({ frames := 1, cells := 0, slots := 0, locals := 21 } : Room)).room s m ([.ref o, .int (nI sq), .int (iI day), .int (nI th)] : List Value).toArray below meth c H locs 0 0 (MQ below (va_Ql (fun (r : Int64) (u : (Nat → Int64) × (Nat → Int64)) => match u with | (now2, nxt2) => r = lN (tx_pay n ss (tx_Pf sn day th) (tx_tx n kd) sq)) (QB D (fun (u : (Nat → Int64) × (Nat → Int64)) => match u with | (now2, nxt2) => [(o14, aL cs 1764 now2), (o15, aL cs 1764 nxt2)]) A) A) ([.ref o, .int (nI sq), .int (iI day), .int (nI th)] : List Value).toArray s 0 0 A) (F0 m 28 ls []) := by
          intro n9
          induction n9 with
          | zero => intros; omega
          | succ n9 ih28 =>
            intro d ga gb hd9 hE hZ hmu H locs hP hD hS ls hl
            refine lv_iload hx hb dX6_fits_28 (lv_at hl 4 rfl) ?_
            refine lv_aload_n hx hb dX6_fits_30 rfl (lv_at hl 0 rfl) ?_
            refine va_get (D := D) (ci := 6) (v := .int (nI ss)) (C := RX6) (T := TX6) (N := 24) hx hb hts in_X6 hown hK (hR hS) 0 rfl rfl 14 (by decide) hf_189 (fun _ h9 => h9) rfl dX6_fits_31 ?_
            refine bn_ge (a := d) (b := ss) (tgt := 339) hx hb rfl rfl (by omega) (by omega) dX6_fits_34 (by decide) (fun c34 => ?_) (fun c34 => ?_)
            · refine lv_lconst (v := 0) hx hb dX6_fits_339 (by decide) ?_
              refine lv_lstore (lv' := [(4, .long 0), (0, .ref o), (1, .int (nI sq)), (2, .int (iI day)), (3, .int (nI th))]) hx hb dX6_fits_340 hl (by decide) rfl (fun ls hl => ?_)
              refine lv_iconst (v := 0) hx hb dX6_fits_342 (by decide) ?_
              refine lv_istore (lv' := [(6, .int 0), (4, .long 0), (0, .ref o), (1, .int (nI sq)), (2, .int (iI day)), (3, .int (nI th))]) hx hb dX6_fits_343 hl (by decide) rfl (fun ls hl => ?_)
              have loop345 : ∀ (n9 : Nat) (i : Nat) (al9 : Int64) (hi : i ≤ 1764) (hal : al9 = tx_sl (tx_fn sq ga) i), 1764 - i < n9 → ∀ (H : Heap) (locs : List Loc), va_P D vwCl [(o14, aL cs 1764 ga), (o15, aL cs 1764 gb)] H → va_D A [(o14, aL cs 1764 ga), (o15, aL cs 1764 gb)] → va_S A s.heap H locs → ∀ (ls : Array Slot), lv_has ls 12 [(0, .ref o), (1, .int (nI sq)), (2, .int (iI day)), (3, .int (nI th)), (4, .long al9), (6, .int (nI i))] → W p l e (headSpec wsX6_fits ({ frames := 1, cells := 0, slots := 0, locals := 21 } : Room)).room s m ([.ref o, .int (nI sq), .int (iI day), .int (nI th)] : List Value).toArray below meth c H locs 0 0 (MQ below (va_Ql (fun (r : Int64) (u : (Nat → Int64) × (Nat → Int64)) => match u with | (now2, nxt2) => r = lN (tx_pay n ss (tx_Pf sn day th) (tx_tx n kd) sq)) (QB D (fun (u : (Nat → Int64) × (Nat → Int64)) => match u with | (now2, nxt2) => [(o14, aL cs 1764 now2), (o15, aL cs 1764 nxt2)]) A) A) ([.ref o, .int (nI sq), .int (iI day), .int (nI th)] : List Value).toArray s 0 0 A) (F0 m 345 ls []) := by
                intro n9
                induction n9 with
                | zero => intros; omega
                | succ n9 ih345 =>
                  intro i al9 hi hal hmu H locs hP hD hS ls hl
                  refine lv_iload hx hb dX6_fits_345 (lv_at hl 5 rfl) ?_
                  refine lv_sipush (v := 1764) hx hb dX6_fits_347 (by decide) ?_
                  refine bn_ge (a := i) (b := 1764) (tgt := 386) hx hb rfl rfl (by omega) (by decide) dX6_fits_350 (by decide) (fun c350 => ?_) (fun c350 => ?_)
                  · refine lv_lload hx hb dX6_fits_386 (lv_at hl 4 rfl) ?_
                    exact rt_l hx hb hr hlocks (ga, gb) (by rw [hal, show i = 1764 by omega]; have hE9 := hE (by omega); rw [show d = ss by omega] at hE9; exact tx_fn_p hE9) hP hD hS dX6_fits_388
                  · refine lv_iload hx hb dX6_fits_353 (lv_at hl 5 rfl) ?_
                    refine lv_bipush (v := 21) hx hb dX6_fits_355 (by decide) ?_
                    refine lv_irem hx hb dX6_fits_357 (by decide) ?_
                    refine tp_i (show (nI i) - (nI i) / 21 * 21 = nI (i % 21) from tx_r21 (by omega)) ?_
                    refine lv_iload hx hb dX6_fits_358 (lv_at hl 5 rfl) ?_
                    refine lv_bipush (v := 21) hx hb dX6_fits_360 (by decide) ?_
                    refine lv_irem hx hb dX6_fits_362 (by decide) ?_
                    refine tp_i (show (nI i) - (nI i) / 21 * 21 = nI (i % 21) from tx_r21 (by omega)) ?_
                    have hsl : i % 21 * (i % 21) ≤ 20 * 20 := Nat.mul_le_mul (by omega) (by omega)
                    refine lv_imul hx hb dX6_fits_363 ?_
                    refine tp_i (pk_mul (i % 21) (i % 21)) ?_
                    refine lv_iload_n hx hb dX6_fits_364 rfl (lv_at hl 1 rfl) ?_
                    refine bn_ne (a := (i % 21) * (i % 21)) (b := sq) (tgt := 380) hx hb rfl rfl (by omega) (by omega) dX6_fits_365 (by decide) (fun c365 => ?_) (fun c365 => ?_)
                    · refine lv_iinc (v := nI (i + 1)) (lv' := [(6, .int (nI (i + 1))), (0, .ref o), (1, .int (nI sq)), (2, .int (iI day)), (3, .int (nI th)), (4, .long al9)]) hx hb dX6_fits_380 hl (k := 5) rfl (inc_n i 1) (by decide) rfl (fun ls hl => ?_)
                      refine lv_goto (tgt := 345) hx hb dX6_fits_383 (by decide) ?_
                      exact ih345 (i + 1) al9 (by first | assumption | omega) (by rw [hal, tx_sl, tx_fn, if_neg c365, Int64.add_zero]) (by omega) _ _ hP hD hS ls (lv_sub hl [1, 2, 3, 4, 5, 0] rfl)
                    · refine lv_lload hx hb dX6_fits_368 (lv_at hl 4 rfl) ?_
                      refine lv_aload_n hx hb dX6_fits_370 rfl (lv_at hl 0 rfl) ?_
                      refine va_get (D := D) (ci := 6) (v := .ref o14) (C := RX6) (T := TX6) (N := 24) hx hb hts in_X6 hown hK (hR hS) 0 rfl rfl 22 (by decide) hf_49 (fun _ h9 => h9) rfl dX6_fits_371 ?_
                      refine lv_iload hx hb dX6_fits_374 (lv_at hl 5 rfl) ?_
                      refine la_n (f := ga) hx hb hK hP 0 1 rfl rfl (j := i) rfl (by omega) (by decide) dX6_fits_376 ?_
                      refine lv_ladd hx hb dX6_fits_377 ?_
                      refine lv_lstore (lv' := [(4, .long (al9 + (ga i))), (0, .ref o), (1, .int (nI sq)), (2, .int (iI day)), (3, .int (nI th)), (6, .int (nI i))]) hx hb dX6_fits_378 hl (by decide) rfl (fun ls hl => ?_)
                      refine lv_iinc (v := nI (i + 1)) (lv' := [(6, .int (nI (i + 1))), (4, .long (al9 + (ga i))), (0, .ref o), (1, .int (nI sq)), (2, .int (iI day)), (3, .int (nI th))]) hx hb dX6_fits_380 hl (k := 5) rfl (inc_n i 1) (by decide) rfl (fun ls hl => ?_)
                      refine lv_goto (tgt := 345) hx hb dX6_fits_383 (by decide) ?_
                      exact ih345 (i + 1) (al9 + (ga i)) (by first | assumption | omega) (by rw [hal, tx_sl, tx_fn, if_pos c365]) (by omega) _ _ hP hD hS ls (lv_sub hl [2, 3, 4, 5, 1, 0] rfl)
              exact loop345 _ 0 0 (by first | assumption | omega) rfl (Nat.lt_succ_self _) _ _ hP hD hS ls (lv_sub hl [2, 3, 4, 5, 1, 0] rfl)
            · refine lv_iconst (v := 0) hx hb dX6_fits_37 (by decide) ?_
              refine lv_istore (lv' := [(5, .int 0), (0, .ref o), (1, .int (nI sq)), (2, .int (iI day)), (3, .int (nI th)), (4, .int (nI d))]) hx hb dX6_fits_38 hl (by decide) rfl (fun ls hl => ?_)
              have loop40 : ∀ (n9 : Nat) (i : Nat) (gb : Nat → Int64) (hi : i ≤ 1764) (hgb : ∀ j, j < i → gb j = 0), 1764 - i < n9 → ∀ (H : Heap) (locs : List Loc), va_P D vwCl [(o14, aL cs 1764 ga), (o15, aL cs 1764 gb)] H → va_D A [(o14, aL cs 1764 ga), (o15, aL cs 1764 gb)] → va_S A s.heap H locs → ∀ (ls : Array Slot), lv_has ls 12 [(0, .ref o), (1, .int (nI sq)), (2, .int (iI day)), (3, .int (nI th)), (4, .int (nI d)), (5, .int (nI i))] → W p l e (headSpec wsX6_fits ({ frames := 1, cells := 0, slots := 0, locals := 21 } : Room)).room s m ([.ref o, .int (nI sq), .int (iI day), .int (nI th)] : List Value).toArray below meth c H locs 0 0 (MQ below (va_Ql (fun (r : Int64) (u : (Nat → Int64) × (Nat → Int64)) => match u with | (now2, nxt2) => r = lN (tx_pay n ss (tx_Pf sn day th) (tx_tx n kd) sq)) (QB D (fun (u : (Nat → Int64) × (Nat → Int64)) => match u with | (now2, nxt2) => [(o14, aL cs 1764 now2), (o15, aL cs 1764 nxt2)]) A) A) ([.ref o, .int (nI sq), .int (iI day), .int (nI th)] : List Value).toArray s 0 0 A) (F0 m 40 ls []) := by
                intro n9
                induction n9 with
                | zero => intros; omega
                | succ n9 ih40 =>
                  intro i gb hi hgb hmu H locs hP hD hS ls hl
                  refine lv_iload hx hb dX6_fits_40 (lv_at hl 5 rfl) ?_
                  refine lv_sipush (v := 1764) hx hb dX6_fits_42 (by decide) ?_
                  refine bn_ge (a := i) (b := 1764) (tgt := 62) hx hb rfl rfl (by omega) (by decide) dX6_fits_45 (by decide) (fun c45 => ?_) (fun c45 => ?_)
                  · refine lv_iconst (v := 0) hx hb dX6_fits_62 (by decide) ?_
                    refine lv_istore (lv' := [(5, .int 0), (0, .ref o), (1, .int (nI sq)), (2, .int (iI day)), (3, .int (nI th)), (4, .int (nI d))]) hx hb dX6_fits_63 hl (by decide) rfl (fun ls hl => ?_)
                    have loop65 : ∀ (n9 : Nat) (ux : Nat) (gb : Nat → Int64) (hu : ux ≤ n) (hE2 : ∀ L, L ≤ 20 → tx_EE n ss (tx_Pf sn day th) (tx_tx n kd) L (d + 1) gb = tx_BS n ss (tx_Pf sn day th) (tx_tx n kd) L d ga ux) (hZ2 : tx_ZZ n (d + 1) gb), n - ux < n9 → ∀ (H : Heap) (locs : List Loc), va_P D vwCl [(o14, aL cs 1764 ga), (o15, aL cs 1764 gb)] H → va_D A [(o14, aL cs 1764 ga), (o15, aL cs 1764 gb)] → va_S A s.heap H locs → ∀ (ls : Array Slot), lv_has ls 12 [(0, .ref o), (1, .int (nI sq)), (2, .int (iI day)), (3, .int (nI th)), (4, .int (nI d)), (5, .int (nI ux))] → W p l e (headSpec wsX6_fits ({ frames := 1, cells := 0, slots := 0, locals := 21 } : Room)).room s m ([.ref o, .int (nI sq), .int (iI day), .int (nI th)] : List Value).toArray below meth c H locs 0 0 (MQ below (va_Ql (fun (r : Int64) (u : (Nat → Int64) × (Nat → Int64)) => match u with | (now2, nxt2) => r = lN (tx_pay n ss (tx_Pf sn day th) (tx_tx n kd) sq)) (QB D (fun (u : (Nat → Int64) × (Nat → Int64)) => match u with | (now2, nxt2) => [(o14, aL cs 1764 now2), (o15, aL cs 1764 nxt2)]) A) A) ([.ref o, .int (nI sq), .int (iI day), .int (nI th)] : List Value).toArray s 0 0 A) (F0 m 65 ls []) := by
                      intro n9
                      induction n9 with
                      | zero => intros; omega
                      | succ n9 ih65 =>
                        intro ux gb hu hE2 hZ2 hmu H locs hP hD hS ls hl
                        refine lv_iload hx hb dX6_fits_65 (lv_at hl 5 rfl) ?_
                        refine lv_aload_n hx hb dX6_fits_67 rfl (lv_at hl 0 rfl) ?_
                        refine va_get (D := D) (ci := 6) (v := .int (nI n)) (C := RX6) (T := TX6) (N := 24) hx hb hts in_X6 hown hK (hR hS) 0 rfl rfl 0 (by decide) hf_71 (fun _ h9 => h9) rfl dX6_fits_68 ?_
                        refine bn_ge (a := ux) (b := n) (tgt := 302) hx hb rfl rfl (by omega) (by omega) dX6_fits_71 (by decide) (fun c71 => ?_) (fun c71 => ?_)
                        · refine lv_iconst (v := 0) hx hb dX6_fits_302 (by decide) ?_
                          refine lv_istore (lv' := [(5, .int 0), (0, .ref o), (1, .int (nI sq)), (2, .int (iI day)), (3, .int (nI th)), (4, .int (nI d))]) hx hb dX6_fits_303 hl (by decide) rfl (fun ls hl => ?_)
                          have loop305 : ∀ (n9 : Nat) (i : Nat) (gc : Nat → Int64) (hi : i ≤ 1764) (hgc : ∀ j, j < i → gc j = gb j), 1764 - i < n9 → ∀ (H : Heap) (locs : List Loc), va_P D vwCl [(o14, aL cs 1764 gc), (o15, aL cs 1764 gb)] H → va_D A [(o14, aL cs 1764 gc), (o15, aL cs 1764 gb)] → va_S A s.heap H locs → ∀ (ls : Array Slot), lv_has ls 12 [(0, .ref o), (1, .int (nI sq)), (2, .int (iI day)), (3, .int (nI th)), (4, .int (nI d)), (5, .int (nI i))] → W p l e (headSpec wsX6_fits ({ frames := 1, cells := 0, slots := 0, locals := 21 } : Room)).room s m ([.ref o, .int (nI sq), .int (iI day), .int (nI th)] : List Value).toArray below meth c H locs 0 0 (MQ below (va_Ql (fun (r : Int64) (u : (Nat → Int64) × (Nat → Int64)) => match u with | (now2, nxt2) => r = lN (tx_pay n ss (tx_Pf sn day th) (tx_tx n kd) sq)) (QB D (fun (u : (Nat → Int64) × (Nat → Int64)) => match u with | (now2, nxt2) => [(o14, aL cs 1764 now2), (o15, aL cs 1764 nxt2)]) A) A) ([.ref o, .int (nI sq), .int (iI day), .int (nI th)] : List Value).toArray s 0 0 A) (F0 m 305 ls []) := by
                            intro n9
                            induction n9 with
                            | zero => intros; omega
                            | succ n9 ih305 =>
                              intro i gc hi hgc hmu H locs hP hD hS ls hl
                              refine lv_iload hx hb dX6_fits_305 (lv_at hl 5 rfl) ?_
                              refine lv_sipush (v := 1764) hx hb dX6_fits_307 (by decide) ?_
                              refine bn_ge (a := i) (b := 1764) (tgt := 333) hx hb rfl rfl (by omega) (by decide) dX6_fits_310 (by decide) (fun c310 => ?_) (fun c310 => ?_)
                              · have hP := w_extL hP 0 (gb) rfl (fun j z => hgc j (by omega))
                                have hD : va_D A [(o14, aL cs 1764 gb), (o15, aL cs 1764 gb)] := d_adr hD rfl
                                have hP : va_P D vwCl [(o14, aL cs 1764 gb), (o15, aL cs 1764 gb)] H := hP
                                have hD : va_D A [(o14, aL cs 1764 gb), (o15, aL cs 1764 gb)] := hD
                                refine lv_iinc (v := nI (d + 1)) (lv' := [(4, .int (nI (d + 1))), (0, .ref o), (1, .int (nI sq)), (2, .int (iI day)), (3, .int (nI th)), (5, .int (nI i))]) hx hb dX6_fits_333 hl (k := 4) rfl (inc_n d 1) (by decide) rfl (fun ls hl => ?_)
                                refine lv_goto (tgt := 28) hx hb dX6_fits_336 (by decide) ?_
                                exact ih28 (d + 1) gb gb (by first | assumption | omega) (fun _ L hL => by rw [hE2 L hL, show ux = n by omega]; exact tx_BS_e (by omega) hss hZ (fun z => hE z L hL)) hZ2 (by omega) _ _ hP hD hS ls (lv_sub hl [1, 2, 3, 4, 0] rfl)
                              · refine lv_aload_n hx hb dX6_fits_313 rfl (lv_at hl 0 rfl) ?_
                                refine va_get (D := D) (ci := 6) (v := .ref o14) (C := RX6) (T := TX6) (N := 24) hx hb hts in_X6 hown hK (hR hS) 0 rfl rfl 22 (by decide) hf_49 (fun _ h9 => h9) rfl dX6_fits_314 ?_
                                refine lv_iload hx hb dX6_fits_317 (lv_at hl 5 rfl) ?_
                                refine lv_aload_n hx hb dX6_fits_319 rfl (lv_at hl 0 rfl) ?_
                                refine va_get (D := D) (ci := 6) (v := .ref o15) (C := RX6) (T := TX6) (N := 24) hx hb hts in_X6 hown hK (hR hS) 0 rfl rfl 23 (by decide) hf_53 (fun _ h9 => h9) rfl dX6_fits_320 ?_
                                refine lv_iload hx hb dX6_fits_323 (lv_at hl 5 rfl) ?_
                                refine la_n (f := gb) hx hb hK hP 1 1 rfl rfl (j := i) rfl (by omega) (by decide) dX6_fits_325 ?_
                                refine ls_n (f := gc) hx hb hK hP hD hS 0 1 rfl rfl (j := i) rfl (by omega) (by decide) dX6_fits_326 (fun H locs hP hD hS => ?_)
                                have hP : va_P D vwCl [(o14, aL cs 1764 (vp_updL gc i (gb i))), (o15, aL cs 1764 gb)] H := hP
                                have hD : va_D A [(o14, aL cs 1764 (vp_updL gc i (gb i))), (o15, aL cs 1764 gb)] := hD
                                refine lv_iinc (v := nI (i + 1)) (lv' := [(5, .int (nI (i + 1))), (0, .ref o), (1, .int (nI sq)), (2, .int (iI day)), (3, .int (nI th)), (4, .int (nI d))]) hx hb dX6_fits_327 hl (k := 5) rfl (inc_n i 1) (by decide) rfl (fun ls hl => ?_)
                                refine lv_goto (tgt := 305) hx hb dX6_fits_330 (by decide) ?_
                                exact ih305 (i + 1) (vp_updL gc i (gb i)) (by first | assumption | omega) (fun j z => by by_cases q : j = i; (rw [q]; exact pk_uLs); (rw [pk_uLn q]; exact hgc j (by omega))) (by omega) _ _ hP hD hS ls (lv_sub hl [1, 2, 3, 4, 5, 0] rfl)
                          exact loop305 _ 0 ga (by first | assumption | omega) (fun j z => absurd z (Nat.not_lt_zero j)) (Nat.lt_succ_self _) _ _ hP hD hS ls (lv_sub hl [1, 2, 3, 4, 5, 0] rfl)
                        · refine lv_aload_n hx hb dX6_fits_74 rfl (lv_at hl 0 rfl) ?_
                          refine va_get (D := D) (ci := 6) (v := .ref o8) (C := RX6) (T := TX6) (N := 24) hx hb hts in_X6 hown hK (hR hS) 0 rfl rfl 15 (by decide) hf_31 (fun _ h9 => h9) rfl dX6_fits_75 ?_
                          refine lv_iload hx hb dX6_fits_78 (lv_at hl 4 rfl) ?_
                          refine ia_n (f := tx_nf sn) hx hb hK (hR hS) 2 0 rfl rfl (j := d) rfl (by omega) (by decide) dX6_fits_80 ?_
                          refine tp_i (y := nI (sn d)) rfl ?_
                          have hs9 := hsn d
                          refine lv_bipush (v := 9) hx hb dX6_fits_81 (by decide) ?_
                          refine bn_eq (a := sn d) (b := 9) (tgt := 98) hx hb rfl rfl (by omega) (by decide) dX6_fits_83 (by decide) (fun c83 => ?_) (fun c83 => ?_)
                          · refine lv_iload hx hb dX6_fits_98 (lv_at hl 4 rfl) ?_
                            refine lv_iload_n hx hb dX6_fits_100 rfl (lv_at hl 2 rfl) ?_
                            refine bi_ne (a := (d : Int)) (b := day) (tgt := 113) hx hb (nI_iI _) rfl (by omega) (by omega) (by omega) (by omega) dX6_fits_101 (by decide) (fun c101 => ?_) (fun c101 => ?_)
                            · have hP9 : tx_Pf sn day th d ux = true := decide_eq_true ⟨by omega, fun z => by omega⟩
                              refine lv_iload hx hb dX6_fits_113 (lv_at hl 4 rfl) ?_
                              refine bz_ne (a := d) (tgt := 155) hx hb rfl (by omega) dX6_fits_115 (by decide) (fun c115 => ?_) (fun c115 => ?_)
                              · refine lv_iconst (v := 0) hx hb dX6_fits_155 (by decide) ?_
                                refine lv_istore (lv' := [(6, .int 0), (0, .ref o), (1, .int (nI sq)), (2, .int (iI day)), (3, .int (nI th)), (4, .int (nI d)), (5, .int (nI ux))]) hx hb dX6_fits_156 hl (by decide) rfl (fun ls hl => ?_)
                                have loop158 : ∀ (n9 : Nat) (tx : Nat) (gb : Nat → Int64) (ht : tx ≤ n) (hE3 : ∀ L, L ≤ 20 → tx_EE n ss (tx_Pf sn day th) (tx_tx n kd) L (d + 1) gb = tx_BS n ss (tx_Pf sn day th) (tx_tx n kd) L d ga ux + tx_sl (tx_F9 n ss (tx_Pf sn day th) (tx_tx n kd) L d ux ga) (min ((21 * tx + 1) * 21) 1764)) (hZ3 : tx_ZZ n (d + 1) gb), n - tx < n9 → ∀ (H : Heap) (locs : List Loc), va_P D vwCl [(o14, aL cs 1764 ga), (o15, aL cs 1764 gb)] H → va_D A [(o14, aL cs 1764 ga), (o15, aL cs 1764 gb)] → va_S A s.heap H locs → ∀ (ls : Array Slot), lv_has ls 12 [(0, .ref o), (1, .int (nI sq)), (2, .int (iI day)), (3, .int (nI th)), (4, .int (nI d)), (5, .int (nI ux)), (6, .int (nI tx))] → W p l e (headSpec wsX6_fits ({ frames := 1, cells := 0, slots := 0, locals := 21 } : Room)).room s m ([.ref o, .int (nI sq), .int (iI day), .int (nI th)] : List Value).toArray below meth c H locs 0 0 (MQ below (va_Ql (fun (r : Int64) (u : (Nat → Int64) × (Nat → Int64)) => match u with | (now2, nxt2) => r = lN (tx_pay n ss (tx_Pf sn day th) (tx_tx n kd) sq)) (QB D (fun (u : (Nat → Int64) × (Nat → Int64)) => match u with | (now2, nxt2) => [(o14, aL cs 1764 now2), (o15, aL cs 1764 nxt2)]) A) A) ([.ref o, .int (nI sq), .int (iI day), .int (nI th)] : List Value).toArray s 0 0 A) (F0 m 158 ls []) := by
                                  intro n9
                                  induction n9 with
                                  | zero => intros; omega
                                  | succ n9 ih158 =>
                                    intro tx gb ht hE3 hZ3 hmu H locs hP hD hS ls hl
                                    refine lv_iload hx hb dX6_fits_158 (lv_at hl 6 rfl) ?_
                                    refine lv_aload_n hx hb dX6_fits_160 rfl (lv_at hl 0 rfl) ?_
                                    refine va_get (D := D) (ci := 6) (v := .int (nI n)) (C := RX6) (T := TX6) (N := 24) hx hb hts in_X6 hown hK (hR hS) 0 rfl rfl 0 (by decide) hf_71 (fun _ h9 => h9) rfl dX6_fits_161 ?_
                                    refine bn_ge (a := tx) (b := n) (tgt := 296) hx hb rfl rfl (by omega) (by omega) dX6_fits_164 (by decide) (fun c164 => ?_) (fun c164 => ?_)
                                    · refine lv_iinc (v := nI (ux + 1)) (lv' := [(5, .int (nI (ux + 1))), (0, .ref o), (1, .int (nI sq)), (2, .int (iI day)), (3, .int (nI th)), (4, .int (nI d)), (6, .int (nI tx))]) hx hb dX6_fits_296 hl (k := 5) rfl (inc_n ux 1) (by decide) rfl (fun ls hl => ?_)
                                      refine lv_goto (tgt := 65) hx hb dX6_fits_299 (by decide) ?_
                                      exact ih65 (ux + 1) gb (by first | assumption | omega) (fun L hL => by rw [tx_BS_s (by omega)]; exact tx_E3_z (by omega) (by omega) hZ (fun v z1 z2 z3 => by omega) (hE3 L hL)) hZ3 (by omega) _ _ hP hD hS ls (lv_sub hl [1, 2, 3, 4, 5, 0] rfl)
                                    · refine lv_iconst (v := 1) hx hb dX6_fits_167 (by decide) ?_
                                      refine lv_istore (lv' := [(7, .int 1), (0, .ref o), (1, .int (nI sq)), (2, .int (iI day)), (3, .int (nI th)), (4, .int (nI d)), (5, .int (nI ux)), (6, .int (nI tx))]) hx hb dX6_fits_168 hl (by decide) rfl (fun ls hl => ?_)
                                      have loop170 : ∀ (n9 : Nat) (k : Nat) (gb : Nat → Int64) (hk1 : 1 ≤ k) (hk2 : k ≤ d + 1) (hE3 : ∀ L, L ≤ 20 → tx_EE n ss (tx_Pf sn day th) (tx_tx n kd) L (d + 1) gb = tx_BS n ss (tx_Pf sn day th) (tx_tx n kd) L d ga ux + tx_sl (tx_F9 n ss (tx_Pf sn day th) (tx_tx n kd) L d ux ga) ((21 * tx + k) * 21)) (hZ3 : tx_ZZ n (d + 1) gb), d + 1 - k < n9 → ∀ (H : Heap) (locs : List Loc), va_P D vwCl [(o14, aL cs 1764 ga), (o15, aL cs 1764 gb)] H → va_D A [(o14, aL cs 1764 ga), (o15, aL cs 1764 gb)] → va_S A s.heap H locs → ∀ (ls : Array Slot), lv_has ls 12 [(0, .ref o), (1, .int (nI sq)), (2, .int (iI day)), (3, .int (nI th)), (4, .int (nI d)), (5, .int (nI ux)), (6, .int (nI tx)), (7, .int (nI k))] → W p l e (headSpec wsX6_fits ({ frames := 1, cells := 0, slots := 0, locals := 21 } : Room)).room s m ([.ref o, .int (nI sq), .int (iI day), .int (nI th)] : List Value).toArray below meth c H locs 0 0 (MQ below (va_Ql (fun (r : Int64) (u : (Nat → Int64) × (Nat → Int64)) => match u with | (now2, nxt2) => r = lN (tx_pay n ss (tx_Pf sn day th) (tx_tx n kd) sq)) (QB D (fun (u : (Nat → Int64) × (Nat → Int64)) => match u with | (now2, nxt2) => [(o14, aL cs 1764 now2), (o15, aL cs 1764 nxt2)]) A) A) ([.ref o, .int (nI sq), .int (iI day), .int (nI th)] : List Value).toArray s 0 0 A) (F0 m 170 ls []) := by
                                        intro n9
                                        induction n9 with
                                        | zero => intros; omega
                                        | succ n9 ih170 =>
                                          intro k gb hk1 hk2 hE3 hZ3 hmu H locs hP hD hS ls hl
                                          refine lv_iload hx hb dX6_fits_170 (lv_at hl 7 rfl) ?_
                                          refine lv_iload hx hb dX6_fits_172 (lv_at hl 4 rfl) ?_
                                          refine bn_gt (a := k) (b := d) (tgt := 290) hx hb rfl rfl (by omega) (by omega) dX6_fits_174 (by decide) (fun c174 => ?_) (fun c174 => ?_)
                                          · refine lv_iinc (v := nI (tx + 1)) (lv' := [(6, .int (nI (tx + 1))), (0, .ref o), (1, .int (nI sq)), (2, .int (iI day)), (3, .int (nI th)), (4, .int (nI d)), (5, .int (nI ux)), (7, .int (nI k))]) hx hb dX6_fits_290 hl (k := 6) rfl (inc_n tx 1) (by decide) rfl (fun ls hl => ?_)
                                            refine lv_goto (tgt := 158) hx hb dX6_fits_293 (by decide) ?_
                                            exact ih158 (tx + 1) gb (by first | assumption | omega) (fun L hL => tx_E3_z (i := (21 * tx + k) * 21) (by omega) (by omega) hZ (fun v z1 z2 z3 => by omega) (hE3 L hL)) hZ3 (by omega) _ _ hP hD hS ls (lv_sub hl [1, 2, 3, 4, 5, 6, 0] rfl)
                                          · refine lv_iconst (v := 0) hx hb dX6_fits_177 (by decide) ?_
                                            refine lv_istore (lv' := [(8, .int 0), (0, .ref o), (1, .int (nI sq)), (2, .int (iI day)), (3, .int (nI th)), (4, .int (nI d)), (5, .int (nI ux)), (6, .int (nI tx)), (7, .int (nI k))]) hx hb dX6_fits_178 hl (by decide) rfl (fun ls hl => ?_)
                                            have loop180 : ∀ (n9 : Nat) (l9 : Nat) (gb : Nat → Int64) (hl1 : l9 ≤ d + 1) (hE3 : ∀ L, L ≤ 20 → tx_EE n ss (tx_Pf sn day th) (tx_tx n kd) L (d + 1) gb = tx_BS n ss (tx_Pf sn day th) (tx_tx n kd) L d ga ux + tx_sl (tx_F9 n ss (tx_Pf sn day th) (tx_tx n kd) L d ux ga) ((21 * tx + k) * 21 + l9)) (hZ3 : tx_ZZ n (d + 1) gb), d + 1 - l9 < n9 → ∀ (H : Heap) (locs : List Loc), va_P D vwCl [(o14, aL cs 1764 ga), (o15, aL cs 1764 gb)] H → va_D A [(o14, aL cs 1764 ga), (o15, aL cs 1764 gb)] → va_S A s.heap H locs → ∀ (ls : Array Slot), lv_has ls 12 [(0, .ref o), (1, .int (nI sq)), (2, .int (iI day)), (3, .int (nI th)), (4, .int (nI d)), (5, .int (nI ux)), (6, .int (nI tx)), (7, .int (nI k)), (8, .int (nI l9))] → W p l e (headSpec wsX6_fits ({ frames := 1, cells := 0, slots := 0, locals := 21 } : Room)).room s m ([.ref o, .int (nI sq), .int (iI day), .int (nI th)] : List Value).toArray below meth c H locs 0 0 (MQ below (va_Ql (fun (r : Int64) (u : (Nat → Int64) × (Nat → Int64)) => match u with | (now2, nxt2) => r = lN (tx_pay n ss (tx_Pf sn day th) (tx_tx n kd) sq)) (QB D (fun (u : (Nat → Int64) × (Nat → Int64)) => match u with | (now2, nxt2) => [(o14, aL cs 1764 now2), (o15, aL cs 1764 nxt2)]) A) A) ([.ref o, .int (nI sq), .int (iI day), .int (nI th)] : List Value).toArray s 0 0 A) (F0 m 180 ls []) := by
                                              intro n9
                                              induction n9 with
                                              | zero => intros; omega
                                              | succ n9 ih180 =>
                                                intro l9 gb hl1 hE3 hZ3 hmu H locs hP hD hS ls hl
                                                refine lv_iload hx hb dX6_fits_180 (lv_at hl 8 rfl) ?_
                                                refine lv_iload hx hb dX6_fits_182 (lv_at hl 4 rfl) ?_
                                                refine bn_gt (a := l9) (b := d) (tgt := 284) hx hb rfl rfl (by omega) (by omega) dX6_fits_184 (by decide) (fun c184 => ?_) (fun c184 => ?_)
                                                · refine lv_iinc (v := nI (k + 1)) (lv' := [(7, .int (nI (k + 1))), (0, .ref o), (1, .int (nI sq)), (2, .int (iI day)), (3, .int (nI th)), (4, .int (nI d)), (5, .int (nI ux)), (6, .int (nI tx)), (8, .int (nI l9))]) hx hb dX6_fits_284 hl (k := 7) rfl (inc_n k 1) (by decide) rfl (fun ls hl => ?_)
                                                  refine lv_goto (tgt := 170) hx hb dX6_fits_287 (by decide) ?_
                                                  exact ih170 (k + 1) gb (by first | assumption | omega) (by first | assumption | omega) (fun L hL => tx_E3_z (i := (21 * tx + k) * 21 + l9) (by omega) (by omega) hZ (fun v z1 z2 z3 => by omega) (hE3 L hL)) hZ3 (by omega) _ _ hP hD hS ls (lv_sub hl [1, 2, 3, 4, 5, 6, 7, 0] rfl)
                                                · refine lv_aload_n hx hb dX6_fits_187 rfl (lv_at hl 0 rfl) ?_
                                                  refine va_get (D := D) (ci := 6) (v := .ref o14) (C := RX6) (T := TX6) (N := 24) hx hb hts in_X6 hown hK (hR hS) 0 rfl rfl 22 (by decide) hf_49 (fun _ h9 => h9) rfl dX6_fits_188 ?_
                                                  refine lv_bipush (v := 21) hx hb dX6_fits_191 (by decide) ?_
                                                  refine lv_iload hx hb dX6_fits_193 (lv_at hl 6 rfl) ?_
                                                  refine lv_imul hx hb dX6_fits_195 ?_
                                                  refine tp_i (pk_mul 21 tx) ?_
                                                  refine lv_iload hx hb dX6_fits_196 (lv_at hl 7 rfl) ?_
                                                  refine lv_iadd hx hb dX6_fits_198 ?_
                                                  refine tp_i (nI_add (21 * tx) k) ?_
                                                  refine lv_bipush (v := 21) hx hb dX6_fits_199 (by decide) ?_
                                                  refine lv_imul hx hb dX6_fits_201 ?_
                                                  refine tp_i (pk_mul ((21 * tx) + k) 21) ?_
                                                  refine lv_iload hx hb dX6_fits_202 (lv_at hl 8 rfl) ?_
                                                  refine lv_iadd hx hb dX6_fits_204 ?_
                                                  refine tp_i (nI_add (((21 * tx) + k) * 21) l9) ?_
                                                  refine la_n (f := ga) hx hb hK hP 0 1 rfl rfl (j := (((21 * tx) + k) * 21) + l9) rfl (by omega) (by decide) dX6_fits_205 ?_
                                                  refine lv_lstore (lv' := [(9, .long (ga ((((21 * tx) + k) * 21) + l9))), (0, .ref o), (1, .int (nI sq)), (2, .int (iI day)), (3, .int (nI th)), (4, .int (nI d)), (5, .int (nI ux)), (6, .int (nI tx)), (7, .int (nI k)), (8, .int (nI l9))]) hx hb dX6_fits_206 hl (by decide) rfl (fun ls hl => ?_)
                                                  refine lv_lload hx hb dX6_fits_208 (lv_at hl 0 rfl) ?_
                                                  refine lv_lconst (v := 0) hx hb dX6_fits_210 (by decide) ?_
                                                  refine W.lcmp hx hb dX6_fits_211 ?_
                                                  refine lv_if_ne (tgt := 218) hx hb dX6_fits_212 (by decide) (fun c212 => ?_) (fun c212 => ?_)
                                                  · refine lv_iload hx hb dX6_fits_218 (lv_at hl 7 rfl) ?_
                                                    refine lv_iload hx hb dX6_fits_220 (lv_at hl 6 rfl) ?_
                                                    refine bn_ne (a := tx) (b := ux) (tgt := 232) hx hb rfl rfl (by omega) (by omega) dX6_fits_222 (by decide) (fun c222 => ?_) (fun c222 => ?_)
                                                    · refine lv_iconst (v := 1) hx hb dX6_fits_232 (by decide) ?_
                                                      refine lv_istore (lv' := [(11, .int 1), (9, .long (ga ((((21 * tx) + k) * 21) + l9))), (0, .ref o), (1, .int (nI sq)), (2, .int (iI day)), (3, .int (nI th)), (4, .int (nI d)), (5, .int (nI ux)), (6, .int (nI tx)), (7, .int (nI k)), (8, .int (nI l9))]) hx hb dX6_fits_233 hl (by decide) rfl (fun ls hl => ?_)
                                                      refine lv_aload_n hx hb dX6_fits_235 rfl (lv_at hl 2 rfl) ?_
                                                      refine va_get (D := D) (ci := 6) (v := .ref o15) (C := RX6) (T := TX6) (N := 24) hx hb hts in_X6 hown hK (hR hS) 0 rfl rfl 23 (by decide) hf_53 (fun _ h9 => h9) rfl dX6_fits_236 ?_
                                                      refine lv_bipush (v := 21) hx hb dX6_fits_239 (by decide) ?_
                                                      refine lv_iload hx hb dX6_fits_241 (lv_at hl 7 rfl) ?_
                                                      refine lv_imul hx hb dX6_fits_243 ?_
                                                      refine tp_i (pk_mul 21 ux) ?_
                                                      refine lv_iload hx hb dX6_fits_244 (lv_at hl 0 rfl) ?_
                                                      refine lv_iadd hx hb dX6_fits_246 ?_
                                                      refine tp_i (nI_add (21 * ux) 1) ?_
                                                      refine lv_bipush (v := 21) hx hb dX6_fits_247 (by decide) ?_
                                                      refine lv_imul hx hb dX6_fits_249 ?_
                                                      refine tp_i (pk_mul ((21 * ux) + 1) 21) ?_
                                                      refine lv_aload_n hx hb dX6_fits_250 rfl (lv_at hl 2 rfl) ?_
                                                      refine lv_iload hx hb dX6_fits_251 (lv_at hl 7 rfl) ?_
                                                      refine cV_i (As := [.int (nI ux)]) (rest := [.int (nI (((21 * ux) + 1) * 21)), .ref o15]) (cr := [(o, .inr (6, [.int (nI n), .ref o1, .ref o2, .ref o3, .ref o4, .int (nI dy), .ref o5, .ref o6, .int (nI ch), .int (nI lw), .int (nI tz), .ref o7, .int (nI at9), .int (nI va9), .int (nI ss), .ref o8, .ref o9, .int (bI im), .ref o10, .ref o11, .ref o12, .ref o13, .ref o14, .ref o15])), (o1, aI cs 4 (tx_nf kd))]) (cw1 := []) ⟨hx, hb, hml, hown, hts⟩ (c_X6_counts l D cs _ o o1 o2 o3 o4 o5 o6 o7 o8 o9 o10 o11 o12 o13 o14 o15 n dy ch lw tz at9 va9 ss im kd ux (by first | assumption | omega) (by omega) (fun _ => by omega) (by first | assumption | omega)) (cwV 1 hts gX6_fits_X6_counts rfl rfl rfl (by decide +kernel) ⟨Nat.le_of_ble_eq_true rfl, Nat.le_of_ble_eq_true rfl⟩) hK hP hD hS hA (((hR hS).app hP).sub [0, 1] rfl) (dt_of hN [0, 1] (by decide) rfl) [] rfl 0 rfl rfl rfl hl.1 rfl (Nat.le_of_ble_eq_true rfl) dX6_fits_253 ⟨Nat.le_of_ble_eq_true rfl, Nat.le_of_ble_eq_true rfl⟩ (fun _ => rfl) (fun _ => rfl) (fun r_1 u9 H locs hw_2 hP hD hS => ?_)
                                                      have hP : va_P D vwCl [(o14, aL cs 1764 ga), (o15, aL cs 1764 gb)] H := hP
                                                      have hD : va_D A [(o14, aL cs 1764 ga), (o15, aL cs 1764 gb)] := hD
                                                      subst r_1
                                                      refine bb_eq (b := tx_tx n kd ux) (tgt := 269) hx hb rfl dX6_fits_256 (by decide) (fun c256 => ?_) (fun c256 => ?_)
                                                      · refine lv_iload hx hb dX6_fits_269 (lv_at hl 10 rfl) ?_
                                                        refine lv_iadd hx hb dX6_fits_271 ?_
                                                        refine tp_i (nI_add (((21 * ux) + 1) * 21) l9) ?_
                                                        refine lv_dup2_11 hx hb dX6_fits_272 rfl rfl ?_
                                                        refine la_n (f := gb) hx hb hK hP 1 1 rfl rfl (j := (((21 * ux) + 1) * 21) + l9) rfl (by omega) (by decide) dX6_fits_273 ?_
                                                        refine lv_lload hx hb dX6_fits_274 (lv_at hl 1 rfl) ?_
                                                        refine lv_ladd hx hb dX6_fits_276 ?_
                                                        refine ls_n (f := gb) hx hb hK hP hD hS 1 1 rfl rfl (j := (((21 * ux) + 1) * 21) + l9) rfl (by omega) (by decide) dX6_fits_277 (fun H locs hP hD hS => ?_)
                                                        have hP : va_P D vwCl [(o14, aL cs 1764 ga), (o15, aL cs 1764 (vp_updL gb ((((21 * ux) + 1) * 21) + l9) ((gb ((((21 * ux) + 1) * 21) + l9)) + (ga ((((21 * tx) + k) * 21) + l9)))))] H := hP
                                                        have hD : va_D A [(o14, aL cs 1764 ga), (o15, aL cs 1764 (vp_updL gb ((((21 * ux) + 1) * 21) + l9) ((gb ((((21 * ux) + 1) * 21) + l9)) + (ga ((((21 * tx) + k) * 21) + l9)))))] := hD
                                                        refine lv_iinc (v := nI (l9 + 1)) (lv' := [(8, .int (nI (l9 + 1))), (11, .int 1), (9, .long (ga ((((21 * tx) + k) * 21) + l9))), (0, .ref o), (1, .int (nI sq)), (2, .int (iI day)), (3, .int (nI th)), (4, .int (nI d)), (5, .int (nI ux)), (6, .int (nI tx)), (7, .int (nI k))]) hx hb dX6_fits_278 hl (k := 10) rfl (inc_n l9 1) (by decide) rfl (fun ls hl => ?_)
                                                        refine lv_goto (tgt := 180) hx hb dX6_fits_281 (by decide) ?_
                                                        exact ih180 (l9 + 1) (vp_updL gb ((((21 * ux) + 1) * 21) + l9) ((gb ((((21 * ux) + 1) * 21) + l9)) + (ga ((((21 * tx) + k) * 21) + l9)))) (by first | assumption | omega) (fun L hL => tx_E3_s (by omega) hP9 (by rw [tx_go_e (by omega) (by omega), if_neg c222, if_neg (by rw [c256]; decide)]) (hE3 L hL)) (tx_ZZ_v hZ3 (by omega) (by omega) (by omega) (by omega) (by omega)) (by omega) _ _ hP hD hS ls (lv_sub hl [3, 4, 5, 6, 7, 8, 9, 10, 0] rfl)
                                                      · refine lv_iload hx hb dX6_fits_259 (lv_at hl 10 rfl) ?_
                                                        refine lv_iload hx hb dX6_fits_261 (lv_at hl 0 rfl) ?_
                                                        refine va_mmax hx hb (hml.trans hl.1.symm) hown (hts (.methodLink RX6 140 Lib.Math.max.name) (by decide +kernel)) (hts (.static Lib.Math.max.name) (by decide +kernel)) (hts (.initialized "java/lang/Math") (by decide +kernel)) (hts (.code Lib.Math.max.name Lib.Math.max.code 2 (some .int)) (by decide +kernel)) (Nat.le_of_ble_eq_true rfl) (Nat.le_of_ble_eq_true rfl) (Nat.le_of_ble_eq_true rfl) (Nat.le_of_ble_eq_true rfl) dX6_fits_263 ?_
                                                        refine tp_i (max_n (a := l9) (b := 1) rfl rfl (by omega) (by decide)) ?_
                                                        refine lv_goto (tgt := 271) hx hb dX6_fits_266 (by decide) ?_
                                                        refine lv_iadd hx hb dX6_fits_271 ?_
                                                        refine tp_i (nI_add (((21 * ux) + 1) * 21) (max l9 1)) ?_
                                                        refine lv_dup2_11 hx hb dX6_fits_272 rfl rfl ?_
                                                        refine la_n (f := gb) hx hb hK hP 1 1 rfl rfl (j := (((21 * ux) + 1) * 21) + (max l9 1)) rfl (by omega) (by decide) dX6_fits_273 ?_
                                                        refine lv_lload hx hb dX6_fits_274 (lv_at hl 1 rfl) ?_
                                                        refine lv_ladd hx hb dX6_fits_276 ?_
                                                        refine ls_n (f := gb) hx hb hK hP hD hS 1 1 rfl rfl (j := (((21 * ux) + 1) * 21) + (max l9 1)) rfl (by omega) (by decide) dX6_fits_277 (fun H locs hP hD hS => ?_)
                                                        have hP : va_P D vwCl [(o14, aL cs 1764 ga), (o15, aL cs 1764 (vp_updL gb ((((21 * ux) + 1) * 21) + (max l9 1)) ((gb ((((21 * ux) + 1) * 21) + (max l9 1))) + (ga ((((21 * tx) + k) * 21) + l9)))))] H := hP
                                                        have hD : va_D A [(o14, aL cs 1764 ga), (o15, aL cs 1764 (vp_updL gb ((((21 * ux) + 1) * 21) + (max l9 1)) ((gb ((((21 * ux) + 1) * 21) + (max l9 1))) + (ga ((((21 * tx) + k) * 21) + l9)))))] := hD
                                                        refine lv_iinc (v := nI (l9 + 1)) (lv' := [(8, .int (nI (l9 + 1))), (11, .int 1), (9, .long (ga ((((21 * tx) + k) * 21) + l9))), (0, .ref o), (1, .int (nI sq)), (2, .int (iI day)), (3, .int (nI th)), (4, .int (nI d)), (5, .int (nI ux)), (6, .int (nI tx)), (7, .int (nI k))]) hx hb dX6_fits_278 hl (k := 10) rfl (inc_n l9 1) (by decide) rfl (fun ls hl => ?_)
                                                        refine lv_goto (tgt := 180) hx hb dX6_fits_281 (by decide) ?_
                                                        exact ih180 (l9 + 1) (vp_updL gb ((((21 * ux) + 1) * 21) + (max l9 1)) ((gb ((((21 * ux) + 1) * 21) + (max l9 1))) + (ga ((((21 * tx) + k) * 21) + l9)))) (by first | assumption | omega) (fun L hL => tx_E3_s (by omega) hP9 (by rw [tx_go_e (by omega) (by omega), if_neg c222, if_pos c256]) (hE3 L hL)) (tx_ZZ_v hZ3 (by omega) (by omega) (by omega) (by omega) (by omega)) (by omega) _ _ hP hD hS ls (lv_sub hl [3, 4, 5, 6, 7, 8, 9, 10, 0] rfl)
                                                    · refine lv_iload hx hb dX6_fits_225 (lv_at hl 8 rfl) ?_
                                                      refine lv_iconst (v := 1) hx hb dX6_fits_227 (by decide) ?_
                                                      refine lv_iadd hx hb dX6_fits_228 ?_
                                                      refine tp_i (nI_add k 1) ?_
                                                      refine lv_goto (tgt := 233) hx hb dX6_fits_229 (by decide) ?_
                                                      refine lv_istore (lv' := [(11, .int (nI (k + 1))), (9, .long (ga ((((21 * tx) + k) * 21) + l9))), (0, .ref o), (1, .int (nI sq)), (2, .int (iI day)), (3, .int (nI th)), (4, .int (nI d)), (5, .int (nI ux)), (6, .int (nI tx)), (7, .int (nI k)), (8, .int (nI l9))]) hx hb dX6_fits_233 hl (by decide) rfl (fun ls hl => ?_)
                                                      refine lv_aload_n hx hb dX6_fits_235 rfl (lv_at hl 2 rfl) ?_
                                                      refine va_get (D := D) (ci := 6) (v := .ref o15) (C := RX6) (T := TX6) (N := 24) hx hb hts in_X6 hown hK (hR hS) 0 rfl rfl 23 (by decide) hf_53 (fun _ h9 => h9) rfl dX6_fits_236 ?_
                                                      refine lv_bipush (v := 21) hx hb dX6_fits_239 (by decide) ?_
                                                      refine lv_iload hx hb dX6_fits_241 (lv_at hl 7 rfl) ?_
                                                      refine lv_imul hx hb dX6_fits_243 ?_
                                                      refine tp_i (pk_mul 21 ux) ?_
                                                      refine lv_iload hx hb dX6_fits_244 (lv_at hl 0 rfl) ?_
                                                      refine lv_iadd hx hb dX6_fits_246 ?_
                                                      refine tp_i (nI_add (21 * ux) (k + 1)) ?_
                                                      refine lv_bipush (v := 21) hx hb dX6_fits_247 (by decide) ?_
                                                      refine lv_imul hx hb dX6_fits_249 ?_
                                                      refine tp_i (pk_mul ((21 * ux) + (k + 1)) 21) ?_
                                                      refine lv_aload_n hx hb dX6_fits_250 rfl (lv_at hl 2 rfl) ?_
                                                      refine lv_iload hx hb dX6_fits_251 (lv_at hl 7 rfl) ?_
                                                      refine cV_i (As := [.int (nI ux)]) (rest := [.int (nI (((21 * ux) + (k + 1)) * 21)), .ref o15]) (cr := [(o, .inr (6, [.int (nI n), .ref o1, .ref o2, .ref o3, .ref o4, .int (nI dy), .ref o5, .ref o6, .int (nI ch), .int (nI lw), .int (nI tz), .ref o7, .int (nI at9), .int (nI va9), .int (nI ss), .ref o8, .ref o9, .int (bI im), .ref o10, .ref o11, .ref o12, .ref o13, .ref o14, .ref o15])), (o1, aI cs 4 (tx_nf kd))]) (cw1 := []) ⟨hx, hb, hml, hown, hts⟩ (c_X6_counts l D cs _ o o1 o2 o3 o4 o5 o6 o7 o8 o9 o10 o11 o12 o13 o14 o15 n dy ch lw tz at9 va9 ss im kd ux (by first | assumption | omega) (by omega) (fun _ => by omega) (by first | assumption | omega)) (cwV 1 hts gX6_fits_X6_counts rfl rfl rfl (by decide +kernel) ⟨Nat.le_of_ble_eq_true rfl, Nat.le_of_ble_eq_true rfl⟩) hK hP hD hS hA (((hR hS).app hP).sub [0, 1] rfl) (dt_of hN [0, 1] (by decide) rfl) [] rfl 0 rfl rfl rfl hl.1 rfl (Nat.le_of_ble_eq_true rfl) dX6_fits_253 ⟨Nat.le_of_ble_eq_true rfl, Nat.le_of_ble_eq_true rfl⟩ (fun _ => rfl) (fun _ => rfl) (fun r_3 u9 H locs hw_4 hP hD hS => ?_)
                                                      have hP : va_P D vwCl [(o14, aL cs 1764 ga), (o15, aL cs 1764 gb)] H := hP
                                                      have hD : va_D A [(o14, aL cs 1764 ga), (o15, aL cs 1764 gb)] := hD
                                                      subst r_3
                                                      refine bb_eq (b := tx_tx n kd ux) (tgt := 269) hx hb rfl dX6_fits_256 (by decide) (fun c256 => ?_) (fun c256 => ?_)
                                                      · refine lv_iload hx hb dX6_fits_269 (lv_at hl 10 rfl) ?_
                                                        refine lv_iadd hx hb dX6_fits_271 ?_
                                                        refine tp_i (nI_add (((21 * ux) + (k + 1)) * 21) l9) ?_
                                                        refine lv_dup2_11 hx hb dX6_fits_272 rfl rfl ?_
                                                        refine la_n (f := gb) hx hb hK hP 1 1 rfl rfl (j := (((21 * ux) + (k + 1)) * 21) + l9) rfl (by omega) (by decide) dX6_fits_273 ?_
                                                        refine lv_lload hx hb dX6_fits_274 (lv_at hl 1 rfl) ?_
                                                        refine lv_ladd hx hb dX6_fits_276 ?_
                                                        refine ls_n (f := gb) hx hb hK hP hD hS 1 1 rfl rfl (j := (((21 * ux) + (k + 1)) * 21) + l9) rfl (by omega) (by decide) dX6_fits_277 (fun H locs hP hD hS => ?_)
                                                        have hP : va_P D vwCl [(o14, aL cs 1764 ga), (o15, aL cs 1764 (vp_updL gb ((((21 * ux) + (k + 1)) * 21) + l9) ((gb ((((21 * ux) + (k + 1)) * 21) + l9)) + (ga ((((21 * tx) + k) * 21) + l9)))))] H := hP
                                                        have hD : va_D A [(o14, aL cs 1764 ga), (o15, aL cs 1764 (vp_updL gb ((((21 * ux) + (k + 1)) * 21) + l9) ((gb ((((21 * ux) + (k + 1)) * 21) + l9)) + (ga ((((21 * tx) + k) * 21) + l9)))))] := hD
                                                        refine lv_iinc (v := nI (l9 + 1)) (lv' := [(8, .int (nI (l9 + 1))), (11, .int (nI (k + 1))), (9, .long (ga ((((21 * tx) + k) * 21) + l9))), (0, .ref o), (1, .int (nI sq)), (2, .int (iI day)), (3, .int (nI th)), (4, .int (nI d)), (5, .int (nI ux)), (6, .int (nI tx)), (7, .int (nI k))]) hx hb dX6_fits_278 hl (k := 10) rfl (inc_n l9 1) (by decide) rfl (fun ls hl => ?_)
                                                        refine lv_goto (tgt := 180) hx hb dX6_fits_281 (by decide) ?_
                                                        exact ih180 (l9 + 1) (vp_updL gb ((((21 * ux) + (k + 1)) * 21) + l9) ((gb ((((21 * ux) + (k + 1)) * 21) + l9)) + (ga ((((21 * tx) + k) * 21) + l9)))) (by first | assumption | omega) (fun L hL => tx_E3_s (by omega) hP9 (by rw [tx_go_e (by omega) (by omega), if_pos c222, if_neg (by rw [c256]; decide)]) (hE3 L hL)) (tx_ZZ_v hZ3 (by omega) (by omega) (by omega) (by omega) (by omega)) (by omega) _ _ hP hD hS ls (lv_sub hl [3, 4, 5, 6, 7, 8, 9, 10, 0] rfl)
                                                      · refine lv_iload hx hb dX6_fits_259 (lv_at hl 10 rfl) ?_
                                                        refine lv_iload hx hb dX6_fits_261 (lv_at hl 0 rfl) ?_
                                                        refine va_mmax hx hb (hml.trans hl.1.symm) hown (hts (.methodLink RX6 140 Lib.Math.max.name) (by decide +kernel)) (hts (.static Lib.Math.max.name) (by decide +kernel)) (hts (.initialized "java/lang/Math") (by decide +kernel)) (hts (.code Lib.Math.max.name Lib.Math.max.code 2 (some .int)) (by decide +kernel)) (Nat.le_of_ble_eq_true rfl) (Nat.le_of_ble_eq_true rfl) (Nat.le_of_ble_eq_true rfl) (Nat.le_of_ble_eq_true rfl) dX6_fits_263 ?_
                                                        refine tp_i (max_n (a := l9) (b := k + 1) rfl rfl (by omega) (by omega)) ?_
                                                        refine lv_goto (tgt := 271) hx hb dX6_fits_266 (by decide) ?_
                                                        refine lv_iadd hx hb dX6_fits_271 ?_
                                                        refine tp_i (nI_add (((21 * ux) + (k + 1)) * 21) (max l9 (k + 1))) ?_
                                                        refine lv_dup2_11 hx hb dX6_fits_272 rfl rfl ?_
                                                        refine la_n (f := gb) hx hb hK hP 1 1 rfl rfl (j := (((21 * ux) + (k + 1)) * 21) + (max l9 (k + 1))) rfl (by omega) (by decide) dX6_fits_273 ?_
                                                        refine lv_lload hx hb dX6_fits_274 (lv_at hl 1 rfl) ?_
                                                        refine lv_ladd hx hb dX6_fits_276 ?_
                                                        refine ls_n (f := gb) hx hb hK hP hD hS 1 1 rfl rfl (j := (((21 * ux) + (k + 1)) * 21) + (max l9 (k + 1))) rfl (by omega) (by decide) dX6_fits_277 (fun H locs hP hD hS => ?_)
                                                        have hP : va_P D vwCl [(o14, aL cs 1764 ga), (o15, aL cs 1764 (vp_updL gb ((((21 * ux) + (k + 1)) * 21) + (max l9 (k + 1))) ((gb ((((21 * ux) + (k + 1)) * 21) + (max l9 (k + 1)))) + (ga ((((21 * tx) + k) * 21) + l9)))))] H := hP
                                                        have hD : va_D A [(o14, aL cs 1764 ga), (o15, aL cs 1764 (vp_updL gb ((((21 * ux) + (k + 1)) * 21) + (max l9 (k + 1))) ((gb ((((21 * ux) + (k + 1)) * 21) + (max l9 (k + 1)))) + (ga ((((21 * tx) + k) * 21) + l9)))))] := hD
                                                        refine lv_iinc (v := nI (l9 + 1)) (lv' := [(8, .int (nI (l9 + 1))), (11, .int (nI (k + 1))), (9, .long (ga ((((21 * tx) + k) * 21) + l9))), (0, .ref o), (1, .int (nI sq)), (2, .int (iI day)), (3, .int (nI th)), (4, .int (nI d)), (5, .int (nI ux)), (6, .int (nI tx)), (7, .int (nI k))]) hx hb dX6_fits_278 hl (k := 10) rfl (inc_n l9 1) (by decide) rfl (fun ls hl => ?_)
                                                        refine lv_goto (tgt := 180) hx hb dX6_fits_281 (by decide) ?_
                                                        exact ih180 (l9 + 1) (vp_updL gb ((((21 * ux) + (k + 1)) * 21) + (max l9 (k + 1))) ((gb ((((21 * ux) + (k + 1)) * 21) + (max l9 (k + 1)))) + (ga ((((21 * tx) + k) * 21) + l9)))) (by first | assumption | omega) (fun L hL => tx_E3_s (by omega) hP9 (by rw [tx_go_e (by omega) (by omega), if_pos c222, if_pos c256]) (hE3 L hL)) (tx_ZZ_v hZ3 (by omega) (by omega) (by omega) (by omega) (by omega)) (by omega) _ _ hP hD hS ls (lv_sub hl [3, 4, 5, 6, 7, 8, 9, 10, 0] rfl)
                                                  · refine lv_goto (tgt := 278) hx hb dX6_fits_215 (by decide) ?_
                                                    refine lv_iinc (v := nI (l9 + 1)) (lv' := [(8, .int (nI (l9 + 1))), (9, .long (ga ((((21 * tx) + k) * 21) + l9))), (0, .ref o), (1, .int (nI sq)), (2, .int (iI day)), (3, .int (nI th)), (4, .int (nI d)), (5, .int (nI ux)), (6, .int (nI tx)), (7, .int (nI k))]) hx hb dX6_fits_278 hl (k := 9) rfl (inc_n l9 1) (by decide) rfl (fun ls hl => ?_)
                                                    refine lv_goto (tgt := 180) hx hb dX6_fits_281 (by decide) ?_
                                                    exact ih180 (l9 + 1) gb (by first | assumption | omega) (fun L hL => tx_E3_0 (tx_lc1 c212) (hE3 L hL)) hZ3 (by omega) _ _ hP hD hS ls (lv_sub hl [2, 3, 4, 5, 6, 7, 8, 9, 0] rfl)
                                            exact loop180 _ 0 gb (by first | assumption | omega) hE3 hZ3 (Nat.lt_succ_self _) _ _ hP hD hS ls (lv_sub hl [1, 2, 3, 4, 5, 6, 7, 8, 0] rfl)
                                      exact loop170 _ 1 gb (by first | assumption | omega) (by first | assumption | omega) (fun L hL => by rw [hE3 L hL, show min ((21 * tx + 1) * 21) 1764 = (21 * tx + 1) * 21 by omega]) hZ3 (Nat.lt_succ_self _) _ _ hP hD hS ls (lv_sub hl [1, 2, 3, 4, 5, 6, 7, 0] rfl)
                                exact loop158 _ 0 gb (by first | assumption | omega) (fun L hL => tx_E3_z (i := 0) (by omega) (by omega) hZ (fun v z1 z2 z3 => by omega) (by rw [hE2 L hL, tx_sl, Int64.add_zero])) hZ2 (Nat.lt_succ_self _) _ _ hP hD hS ls (lv_sub hl [1, 2, 3, 4, 5, 6, 0] rfl)
                              · refine lv_aload_n hx hb dX6_fits_118 rfl (lv_at hl 0 rfl) ?_
                                refine va_get (D := D) (ci := 6) (v := .ref o15) (C := RX6) (T := TX6) (N := 24) hx hb hts in_X6 hown hK (hR hS) 0 rfl rfl 23 (by decide) hf_53 (fun _ h9 => h9) rfl dX6_fits_119 ?_
                                refine lv_bipush (v := 21) hx hb dX6_fits_122 (by decide) ?_
                                refine lv_iload hx hb dX6_fits_124 (lv_at hl 5 rfl) ?_
                                refine lv_imul hx hb dX6_fits_126 ?_
                                refine tp_i (pk_mul 21 ux) ?_
                                refine lv_iconst (v := 1) hx hb dX6_fits_127 (by decide) ?_
                                refine lv_iadd hx hb dX6_fits_128 ?_
                                refine tp_i (nI_add (21 * ux) 1) ?_
                                refine lv_bipush (v := 21) hx hb dX6_fits_129 (by decide) ?_
                                refine lv_imul hx hb dX6_fits_131 ?_
                                refine tp_i (pk_mul ((21 * ux) + 1) 21) ?_
                                refine lv_aload_n hx hb dX6_fits_132 rfl (lv_at hl 0 rfl) ?_
                                refine lv_iload hx hb dX6_fits_133 (lv_at hl 5 rfl) ?_
                                refine cV_i (As := [.int (nI ux)]) (rest := [.int (nI (((21 * ux) + 1) * 21)), .ref o15]) (cr := [(o, .inr (6, [.int (nI n), .ref o1, .ref o2, .ref o3, .ref o4, .int (nI dy), .ref o5, .ref o6, .int (nI ch), .int (nI lw), .int (nI tz), .ref o7, .int (nI at9), .int (nI va9), .int (nI ss), .ref o8, .ref o9, .int (bI im), .ref o10, .ref o11, .ref o12, .ref o13, .ref o14, .ref o15])), (o1, aI cs 4 (tx_nf kd))]) (cw1 := []) ⟨hx, hb, hml, hown, hts⟩ (c_X6_counts l D cs _ o o1 o2 o3 o4 o5 o6 o7 o8 o9 o10 o11 o12 o13 o14 o15 n dy ch lw tz at9 va9 ss im kd ux (by first | assumption | omega) (by omega) (fun _ => by omega) (by first | assumption | omega)) (cwV 1 hts gX6_fits_X6_counts rfl rfl rfl (by decide +kernel) ⟨Nat.le_of_ble_eq_true rfl, Nat.le_of_ble_eq_true rfl⟩) hK hP hD hS hA (((hR hS).app hP).sub [0, 1] rfl) (dt_of hN [0, 1] (by decide) rfl) [] rfl 0 rfl rfl rfl hl.1 rfl (Nat.le_of_ble_eq_true rfl) dX6_fits_135 ⟨Nat.le_of_ble_eq_true rfl, Nat.le_of_ble_eq_true rfl⟩ (fun _ => rfl) (fun _ => rfl) (fun r_5 u9 H locs hw_6 hP hD hS => ?_)
                                have hP : va_P D vwCl [(o14, aL cs 1764 ga), (o15, aL cs 1764 gb)] H := hP
                                have hD : va_D A [(o14, aL cs 1764 ga), (o15, aL cs 1764 gb)] := hD
                                subst r_5
                                refine bb_eq (b := tx_tx n kd ux) (tgt := 145) hx hb rfl dX6_fits_138 (by decide) (fun c138 => ?_) (fun c138 => ?_)
                                · refine lv_iconst (v := 0) hx hb dX6_fits_145 (by decide) ?_
                                  refine lv_iadd hx hb dX6_fits_146 ?_
                                  refine tp_i (nI_add (((21 * ux) + 1) * 21) 0) ?_
                                  refine lv_dup2_11 hx hb dX6_fits_147 rfl rfl ?_
                                  refine la_n (f := gb) hx hb hK hP 1 1 rfl rfl (j := (((21 * ux) + 1) * 21) + 0) rfl (by omega) (by decide) dX6_fits_148 ?_
                                  refine lv_lconst (v := 1) hx hb dX6_fits_149 (by decide) ?_
                                  refine lv_ladd hx hb dX6_fits_150 ?_
                                  refine ls_n (f := gb) hx hb hK hP hD hS 1 1 rfl rfl (j := (((21 * ux) + 1) * 21) + 0) rfl (by omega) (by decide) dX6_fits_151 (fun H locs hP hD hS => ?_)
                                  have hP : va_P D vwCl [(o14, aL cs 1764 ga), (o15, aL cs 1764 (vp_updL gb ((((21 * ux) + 1) * 21) + 0) ((gb ((((21 * ux) + 1) * 21) + 0)) + 1)))] H := hP
                                  have hD : va_D A [(o14, aL cs 1764 ga), (o15, aL cs 1764 (vp_updL gb ((((21 * ux) + 1) * 21) + 0) ((gb ((((21 * ux) + 1) * 21) + 0)) + 1)))] := hD
                                  refine lv_goto (tgt := 296) hx hb dX6_fits_152 (by decide) ?_
                                  refine lv_iinc (v := nI (ux + 1)) (lv' := [(5, .int (nI (ux + 1))), (0, .ref o), (1, .int (nI sq)), (2, .int (iI day)), (3, .int (nI th)), (4, .int (nI d))]) hx hb dX6_fits_296 hl (k := 5) rfl (inc_n ux 1) (by decide) rfl (fun ls hl => ?_)
                                  refine lv_goto (tgt := 65) hx hb dX6_fits_299 (by decide) ?_
                                  exact ih65 (ux + 1) (vp_updL gb ((((21 * ux) + 1) * 21) + 0) ((gb ((((21 * ux) + 1) * 21) + 0)) + 1)) (by first | assumption | omega) (fun L hL => by rw [tx_EE_u (by omega), hE2 L hL]; exact tx_BS_1 (by omega) hP9 (by rw [c138]; rfl)) (tx_ZZ_u hZ2 (by omega)) (by omega) _ _ hP hD hS ls (lv_sub hl [1, 2, 3, 4, 5, 0] rfl)
                                · refine lv_iconst (v := 1) hx hb dX6_fits_141 (by decide) ?_
                                  refine lv_goto (tgt := 146) hx hb dX6_fits_142 (by decide) ?_
                                  refine lv_iadd hx hb dX6_fits_146 ?_
                                  refine tp_i (nI_add (((21 * ux) + 1) * 21) 1) ?_
                                  refine lv_dup2_11 hx hb dX6_fits_147 rfl rfl ?_
                                  refine la_n (f := gb) hx hb hK hP 1 1 rfl rfl (j := (((21 * ux) + 1) * 21) + 1) rfl (by omega) (by decide) dX6_fits_148 ?_
                                  refine lv_lconst (v := 1) hx hb dX6_fits_149 (by decide) ?_
                                  refine lv_ladd hx hb dX6_fits_150 ?_
                                  refine ls_n (f := gb) hx hb hK hP hD hS 1 1 rfl rfl (j := (((21 * ux) + 1) * 21) + 1) rfl (by omega) (by decide) dX6_fits_151 (fun H locs hP hD hS => ?_)
                                  have hP : va_P D vwCl [(o14, aL cs 1764 ga), (o15, aL cs 1764 (vp_updL gb ((((21 * ux) + 1) * 21) + 1) ((gb ((((21 * ux) + 1) * 21) + 1)) + 1)))] H := hP
                                  have hD : va_D A [(o14, aL cs 1764 ga), (o15, aL cs 1764 (vp_updL gb ((((21 * ux) + 1) * 21) + 1) ((gb ((((21 * ux) + 1) * 21) + 1)) + 1)))] := hD
                                  refine lv_goto (tgt := 296) hx hb dX6_fits_152 (by decide) ?_
                                  refine lv_iinc (v := nI (ux + 1)) (lv' := [(5, .int (nI (ux + 1))), (0, .ref o), (1, .int (nI sq)), (2, .int (iI day)), (3, .int (nI th)), (4, .int (nI d))]) hx hb dX6_fits_296 hl (k := 5) rfl (inc_n ux 1) (by decide) rfl (fun ls hl => ?_)
                                  refine lv_goto (tgt := 65) hx hb dX6_fits_299 (by decide) ?_
                                  exact ih65 (ux + 1) (vp_updL gb ((((21 * ux) + 1) * 21) + 1) ((gb ((((21 * ux) + 1) * 21) + 1)) + 1)) (by first | assumption | omega) (fun L hL => by rw [tx_EE_u (by omega), hE2 L hL]; exact tx_BS_1 (by omega) hP9 (by rw [c138]; rfl)) (tx_ZZ_u hZ2 (by omega)) (by omega) _ _ hP hD hS ls (lv_sub hl [1, 2, 3, 4, 5, 0] rfl)
                            · refine lv_iload hx hb dX6_fits_104 (lv_at hl 5 rfl) ?_
                              refine lv_iload_n hx hb dX6_fits_106 rfl (lv_at hl 3 rfl) ?_
                              refine bn_eq (a := ux) (b := th) (tgt := 113) hx hb rfl rfl (by omega) (by omega) dX6_fits_107 (by decide) (fun c107 => ?_) (fun c107 => ?_)
                              · have hP9 : tx_Pf sn day th d ux = true := decide_eq_true ⟨by omega, fun z => by omega⟩
                                refine lv_iload hx hb dX6_fits_113 (lv_at hl 4 rfl) ?_
                                refine bz_ne (a := d) (tgt := 155) hx hb rfl (by omega) dX6_fits_115 (by decide) (fun c115 => ?_) (fun c115 => ?_)
                                · refine lv_iconst (v := 0) hx hb dX6_fits_155 (by decide) ?_
                                  refine lv_istore (lv' := [(6, .int 0), (0, .ref o), (1, .int (nI sq)), (2, .int (iI day)), (3, .int (nI th)), (4, .int (nI d)), (5, .int (nI ux))]) hx hb dX6_fits_156 hl (by decide) rfl (fun ls hl => ?_)
                                  have loop158 : ∀ (n9 : Nat) (tx : Nat) (gb : Nat → Int64) (ht : tx ≤ n) (hE3 : ∀ L, L ≤ 20 → tx_EE n ss (tx_Pf sn day th) (tx_tx n kd) L (d + 1) gb = tx_BS n ss (tx_Pf sn day th) (tx_tx n kd) L d ga ux + tx_sl (tx_F9 n ss (tx_Pf sn day th) (tx_tx n kd) L d ux ga) (min ((21 * tx + 1) * 21) 1764)) (hZ3 : tx_ZZ n (d + 1) gb), n - tx < n9 → ∀ (H : Heap) (locs : List Loc), va_P D vwCl [(o14, aL cs 1764 ga), (o15, aL cs 1764 gb)] H → va_D A [(o14, aL cs 1764 ga), (o15, aL cs 1764 gb)] → va_S A s.heap H locs → ∀ (ls : Array Slot), lv_has ls 12 [(0, .ref o), (1, .int (nI sq)), (2, .int (iI day)), (3, .int (nI th)), (4, .int (nI d)), (5, .int (nI ux)), (6, .int (nI tx))] → W p l e (headSpec wsX6_fits ({ frames := 1, cells := 0, slots := 0, locals := 21 } : Room)).room s m ([.ref o, .int (nI sq), .int (iI day), .int (nI th)] : List Value).toArray below meth c H locs 0 0 (MQ below (va_Ql (fun (r : Int64) (u : (Nat → Int64) × (Nat → Int64)) => match u with | (now2, nxt2) => r = lN (tx_pay n ss (tx_Pf sn day th) (tx_tx n kd) sq)) (QB D (fun (u : (Nat → Int64) × (Nat → Int64)) => match u with | (now2, nxt2) => [(o14, aL cs 1764 now2), (o15, aL cs 1764 nxt2)]) A) A) ([.ref o, .int (nI sq), .int (iI day), .int (nI th)] : List Value).toArray s 0 0 A) (F0 m 158 ls []) := by
                                    intro n9
                                    induction n9 with
                                    | zero => intros; omega
                                    | succ n9 ih158 =>
                                      intro tx gb ht hE3 hZ3 hmu H locs hP hD hS ls hl
                                      refine lv_iload hx hb dX6_fits_158 (lv_at hl 6 rfl) ?_
                                      refine lv_aload_n hx hb dX6_fits_160 rfl (lv_at hl 0 rfl) ?_
                                      refine va_get (D := D) (ci := 6) (v := .int (nI n)) (C := RX6) (T := TX6) (N := 24) hx hb hts in_X6 hown hK (hR hS) 0 rfl rfl 0 (by decide) hf_71 (fun _ h9 => h9) rfl dX6_fits_161 ?_
                                      refine bn_ge (a := tx) (b := n) (tgt := 296) hx hb rfl rfl (by omega) (by omega) dX6_fits_164 (by decide) (fun c164 => ?_) (fun c164 => ?_)
                                      · refine lv_iinc (v := nI (ux + 1)) (lv' := [(5, .int (nI (ux + 1))), (0, .ref o), (1, .int (nI sq)), (2, .int (iI day)), (3, .int (nI th)), (4, .int (nI d)), (6, .int (nI tx))]) hx hb dX6_fits_296 hl (k := 5) rfl (inc_n ux 1) (by decide) rfl (fun ls hl => ?_)
                                        refine lv_goto (tgt := 65) hx hb dX6_fits_299 (by decide) ?_
                                        exact ih65 (ux + 1) gb (by first | assumption | omega) (fun L hL => by rw [tx_BS_s (by omega)]; exact tx_E3_z (by omega) (by omega) hZ (fun v z1 z2 z3 => by omega) (hE3 L hL)) hZ3 (by omega) _ _ hP hD hS ls (lv_sub hl [1, 2, 3, 4, 5, 0] rfl)
                                      · refine lv_iconst (v := 1) hx hb dX6_fits_167 (by decide) ?_
                                        refine lv_istore (lv' := [(7, .int 1), (0, .ref o), (1, .int (nI sq)), (2, .int (iI day)), (3, .int (nI th)), (4, .int (nI d)), (5, .int (nI ux)), (6, .int (nI tx))]) hx hb dX6_fits_168 hl (by decide) rfl (fun ls hl => ?_)
                                        have loop170 : ∀ (n9 : Nat) (k : Nat) (gb : Nat → Int64) (hk1 : 1 ≤ k) (hk2 : k ≤ d + 1) (hE3 : ∀ L, L ≤ 20 → tx_EE n ss (tx_Pf sn day th) (tx_tx n kd) L (d + 1) gb = tx_BS n ss (tx_Pf sn day th) (tx_tx n kd) L d ga ux + tx_sl (tx_F9 n ss (tx_Pf sn day th) (tx_tx n kd) L d ux ga) ((21 * tx + k) * 21)) (hZ3 : tx_ZZ n (d + 1) gb), d + 1 - k < n9 → ∀ (H : Heap) (locs : List Loc), va_P D vwCl [(o14, aL cs 1764 ga), (o15, aL cs 1764 gb)] H → va_D A [(o14, aL cs 1764 ga), (o15, aL cs 1764 gb)] → va_S A s.heap H locs → ∀ (ls : Array Slot), lv_has ls 12 [(0, .ref o), (1, .int (nI sq)), (2, .int (iI day)), (3, .int (nI th)), (4, .int (nI d)), (5, .int (nI ux)), (6, .int (nI tx)), (7, .int (nI k))] → W p l e (headSpec wsX6_fits ({ frames := 1, cells := 0, slots := 0, locals := 21 } : Room)).room s m ([.ref o, .int (nI sq), .int (iI day), .int (nI th)] : List Value).toArray below meth c H locs 0 0 (MQ below (va_Ql (fun (r : Int64) (u : (Nat → Int64) × (Nat → Int64)) => match u with | (now2, nxt2) => r = lN (tx_pay n ss (tx_Pf sn day th) (tx_tx n kd) sq)) (QB D (fun (u : (Nat → Int64) × (Nat → Int64)) => match u with | (now2, nxt2) => [(o14, aL cs 1764 now2), (o15, aL cs 1764 nxt2)]) A) A) ([.ref o, .int (nI sq), .int (iI day), .int (nI th)] : List Value).toArray s 0 0 A) (F0 m 170 ls []) := by
                                          intro n9
                                          induction n9 with
                                          | zero => intros; omega
                                          | succ n9 ih170 =>
                                            intro k gb hk1 hk2 hE3 hZ3 hmu H locs hP hD hS ls hl
                                            refine lv_iload hx hb dX6_fits_170 (lv_at hl 7 rfl) ?_
                                            refine lv_iload hx hb dX6_fits_172 (lv_at hl 4 rfl) ?_
                                            refine bn_gt (a := k) (b := d) (tgt := 290) hx hb rfl rfl (by omega) (by omega) dX6_fits_174 (by decide) (fun c174 => ?_) (fun c174 => ?_)
                                            · refine lv_iinc (v := nI (tx + 1)) (lv' := [(6, .int (nI (tx + 1))), (0, .ref o), (1, .int (nI sq)), (2, .int (iI day)), (3, .int (nI th)), (4, .int (nI d)), (5, .int (nI ux)), (7, .int (nI k))]) hx hb dX6_fits_290 hl (k := 6) rfl (inc_n tx 1) (by decide) rfl (fun ls hl => ?_)
                                              refine lv_goto (tgt := 158) hx hb dX6_fits_293 (by decide) ?_
                                              exact ih158 (tx + 1) gb (by first | assumption | omega) (fun L hL => tx_E3_z (i := (21 * tx + k) * 21) (by omega) (by omega) hZ (fun v z1 z2 z3 => by omega) (hE3 L hL)) hZ3 (by omega) _ _ hP hD hS ls (lv_sub hl [1, 2, 3, 4, 5, 6, 0] rfl)
                                            · refine lv_iconst (v := 0) hx hb dX6_fits_177 (by decide) ?_
                                              refine lv_istore (lv' := [(8, .int 0), (0, .ref o), (1, .int (nI sq)), (2, .int (iI day)), (3, .int (nI th)), (4, .int (nI d)), (5, .int (nI ux)), (6, .int (nI tx)), (7, .int (nI k))]) hx hb dX6_fits_178 hl (by decide) rfl (fun ls hl => ?_)
                                              have loop180 : ∀ (n9 : Nat) (l9 : Nat) (gb : Nat → Int64) (hl1 : l9 ≤ d + 1) (hE3 : ∀ L, L ≤ 20 → tx_EE n ss (tx_Pf sn day th) (tx_tx n kd) L (d + 1) gb = tx_BS n ss (tx_Pf sn day th) (tx_tx n kd) L d ga ux + tx_sl (tx_F9 n ss (tx_Pf sn day th) (tx_tx n kd) L d ux ga) ((21 * tx + k) * 21 + l9)) (hZ3 : tx_ZZ n (d + 1) gb), d + 1 - l9 < n9 → ∀ (H : Heap) (locs : List Loc), va_P D vwCl [(o14, aL cs 1764 ga), (o15, aL cs 1764 gb)] H → va_D A [(o14, aL cs 1764 ga), (o15, aL cs 1764 gb)] → va_S A s.heap H locs → ∀ (ls : Array Slot), lv_has ls 12 [(0, .ref o), (1, .int (nI sq)), (2, .int (iI day)), (3, .int (nI th)), (4, .int (nI d)), (5, .int (nI ux)), (6, .int (nI tx)), (7, .int (nI k)), (8, .int (nI l9))] → W p l e (headSpec wsX6_fits ({ frames := 1, cells := 0, slots := 0, locals := 21 } : Room)).room s m ([.ref o, .int (nI sq), .int (iI day), .int (nI th)] : List Value).toArray below meth c H locs 0 0 (MQ below (va_Ql (fun (r : Int64) (u : (Nat → Int64) × (Nat → Int64)) => match u with | (now2, nxt2) => r = lN (tx_pay n ss (tx_Pf sn day th) (tx_tx n kd) sq)) (QB D (fun (u : (Nat → Int64) × (Nat → Int64)) => match u with | (now2, nxt2) => [(o14, aL cs 1764 now2), (o15, aL cs 1764 nxt2)]) A) A) ([.ref o, .int (nI sq), .int (iI day), .int (nI th)] : List Value).toArray s 0 0 A) (F0 m 180 ls []) := by
                                                intro n9
                                                induction n9 with
                                                | zero => intros; omega
                                                | succ n9 ih180 =>
                                                  intro l9 gb hl1 hE3 hZ3 hmu H locs hP hD hS ls hl
                                                  refine lv_iload hx hb dX6_fits_180 (lv_at hl 8 rfl) ?_
                                                  refine lv_iload hx hb dX6_fits_182 (lv_at hl 4 rfl) ?_
                                                  refine bn_gt (a := l9) (b := d) (tgt := 284) hx hb rfl rfl (by omega) (by omega) dX6_fits_184 (by decide) (fun c184 => ?_) (fun c184 => ?_)
                                                  · refine lv_iinc (v := nI (k + 1)) (lv' := [(7, .int (nI (k + 1))), (0, .ref o), (1, .int (nI sq)), (2, .int (iI day)), (3, .int (nI th)), (4, .int (nI d)), (5, .int (nI ux)), (6, .int (nI tx)), (8, .int (nI l9))]) hx hb dX6_fits_284 hl (k := 7) rfl (inc_n k 1) (by decide) rfl (fun ls hl => ?_)
                                                    refine lv_goto (tgt := 170) hx hb dX6_fits_287 (by decide) ?_
                                                    exact ih170 (k + 1) gb (by first | assumption | omega) (by first | assumption | omega) (fun L hL => tx_E3_z (i := (21 * tx + k) * 21 + l9) (by omega) (by omega) hZ (fun v z1 z2 z3 => by omega) (hE3 L hL)) hZ3 (by omega) _ _ hP hD hS ls (lv_sub hl [1, 2, 3, 4, 5, 6, 7, 0] rfl)
                                                  · refine lv_aload_n hx hb dX6_fits_187 rfl (lv_at hl 0 rfl) ?_
                                                    refine va_get (D := D) (ci := 6) (v := .ref o14) (C := RX6) (T := TX6) (N := 24) hx hb hts in_X6 hown hK (hR hS) 0 rfl rfl 22 (by decide) hf_49 (fun _ h9 => h9) rfl dX6_fits_188 ?_
                                                    refine lv_bipush (v := 21) hx hb dX6_fits_191 (by decide) ?_
                                                    refine lv_iload hx hb dX6_fits_193 (lv_at hl 6 rfl) ?_
                                                    refine lv_imul hx hb dX6_fits_195 ?_
                                                    refine tp_i (pk_mul 21 tx) ?_
                                                    refine lv_iload hx hb dX6_fits_196 (lv_at hl 7 rfl) ?_
                                                    refine lv_iadd hx hb dX6_fits_198 ?_
                                                    refine tp_i (nI_add (21 * tx) k) ?_
                                                    refine lv_bipush (v := 21) hx hb dX6_fits_199 (by decide) ?_
                                                    refine lv_imul hx hb dX6_fits_201 ?_
                                                    refine tp_i (pk_mul ((21 * tx) + k) 21) ?_
                                                    refine lv_iload hx hb dX6_fits_202 (lv_at hl 8 rfl) ?_
                                                    refine lv_iadd hx hb dX6_fits_204 ?_
                                                    refine tp_i (nI_add (((21 * tx) + k) * 21) l9) ?_
                                                    refine la_n (f := ga) hx hb hK hP 0 1 rfl rfl (j := (((21 * tx) + k) * 21) + l9) rfl (by omega) (by decide) dX6_fits_205 ?_
                                                    refine lv_lstore (lv' := [(9, .long (ga ((((21 * tx) + k) * 21) + l9))), (0, .ref o), (1, .int (nI sq)), (2, .int (iI day)), (3, .int (nI th)), (4, .int (nI d)), (5, .int (nI ux)), (6, .int (nI tx)), (7, .int (nI k)), (8, .int (nI l9))]) hx hb dX6_fits_206 hl (by decide) rfl (fun ls hl => ?_)
                                                    refine lv_lload hx hb dX6_fits_208 (lv_at hl 0 rfl) ?_
                                                    refine lv_lconst (v := 0) hx hb dX6_fits_210 (by decide) ?_
                                                    refine W.lcmp hx hb dX6_fits_211 ?_
                                                    refine lv_if_ne (tgt := 218) hx hb dX6_fits_212 (by decide) (fun c212 => ?_) (fun c212 => ?_)
                                                    · refine lv_iload hx hb dX6_fits_218 (lv_at hl 7 rfl) ?_
                                                      refine lv_iload hx hb dX6_fits_220 (lv_at hl 6 rfl) ?_
                                                      refine bn_ne (a := tx) (b := ux) (tgt := 232) hx hb rfl rfl (by omega) (by omega) dX6_fits_222 (by decide) (fun c222 => ?_) (fun c222 => ?_)
                                                      · refine lv_iconst (v := 1) hx hb dX6_fits_232 (by decide) ?_
                                                        refine lv_istore (lv' := [(11, .int 1), (9, .long (ga ((((21 * tx) + k) * 21) + l9))), (0, .ref o), (1, .int (nI sq)), (2, .int (iI day)), (3, .int (nI th)), (4, .int (nI d)), (5, .int (nI ux)), (6, .int (nI tx)), (7, .int (nI k)), (8, .int (nI l9))]) hx hb dX6_fits_233 hl (by decide) rfl (fun ls hl => ?_)
                                                        refine lv_aload_n hx hb dX6_fits_235 rfl (lv_at hl 2 rfl) ?_
                                                        refine va_get (D := D) (ci := 6) (v := .ref o15) (C := RX6) (T := TX6) (N := 24) hx hb hts in_X6 hown hK (hR hS) 0 rfl rfl 23 (by decide) hf_53 (fun _ h9 => h9) rfl dX6_fits_236 ?_
                                                        refine lv_bipush (v := 21) hx hb dX6_fits_239 (by decide) ?_
                                                        refine lv_iload hx hb dX6_fits_241 (lv_at hl 7 rfl) ?_
                                                        refine lv_imul hx hb dX6_fits_243 ?_
                                                        refine tp_i (pk_mul 21 ux) ?_
                                                        refine lv_iload hx hb dX6_fits_244 (lv_at hl 0 rfl) ?_
                                                        refine lv_iadd hx hb dX6_fits_246 ?_
                                                        refine tp_i (nI_add (21 * ux) 1) ?_
                                                        refine lv_bipush (v := 21) hx hb dX6_fits_247 (by decide) ?_
                                                        refine lv_imul hx hb dX6_fits_249 ?_
                                                        refine tp_i (pk_mul ((21 * ux) + 1) 21) ?_
                                                        refine lv_aload_n hx hb dX6_fits_250 rfl (lv_at hl 2 rfl) ?_
                                                        refine lv_iload hx hb dX6_fits_251 (lv_at hl 7 rfl) ?_
                                                        refine cV_i (As := [.int (nI ux)]) (rest := [.int (nI (((21 * ux) + 1) * 21)), .ref o15]) (cr := [(o, .inr (6, [.int (nI n), .ref o1, .ref o2, .ref o3, .ref o4, .int (nI dy), .ref o5, .ref o6, .int (nI ch), .int (nI lw), .int (nI tz), .ref o7, .int (nI at9), .int (nI va9), .int (nI ss), .ref o8, .ref o9, .int (bI im), .ref o10, .ref o11, .ref o12, .ref o13, .ref o14, .ref o15])), (o1, aI cs 4 (tx_nf kd))]) (cw1 := []) ⟨hx, hb, hml, hown, hts⟩ (c_X6_counts l D cs _ o o1 o2 o3 o4 o5 o6 o7 o8 o9 o10 o11 o12 o13 o14 o15 n dy ch lw tz at9 va9 ss im kd ux (by first | assumption | omega) (by omega) (fun _ => by omega) (by first | assumption | omega)) (cwV 1 hts gX6_fits_X6_counts rfl rfl rfl (by decide +kernel) ⟨Nat.le_of_ble_eq_true rfl, Nat.le_of_ble_eq_true rfl⟩) hK hP hD hS hA (((hR hS).app hP).sub [0, 1] rfl) (dt_of hN [0, 1] (by decide) rfl) [] rfl 0 rfl rfl rfl hl.1 rfl (Nat.le_of_ble_eq_true rfl) dX6_fits_253 ⟨Nat.le_of_ble_eq_true rfl, Nat.le_of_ble_eq_true rfl⟩ (fun _ => rfl) (fun _ => rfl) (fun r_7 u9 H locs hw_8 hP hD hS => ?_)
                                                        have hP : va_P D vwCl [(o14, aL cs 1764 ga), (o15, aL cs 1764 gb)] H := hP
                                                        have hD : va_D A [(o14, aL cs 1764 ga), (o15, aL cs 1764 gb)] := hD
                                                        subst r_7
                                                        refine bb_eq (b := tx_tx n kd ux) (tgt := 269) hx hb rfl dX6_fits_256 (by decide) (fun c256 => ?_) (fun c256 => ?_)
                                                        · refine lv_iload hx hb dX6_fits_269 (lv_at hl 10 rfl) ?_
                                                          refine lv_iadd hx hb dX6_fits_271 ?_
                                                          refine tp_i (nI_add (((21 * ux) + 1) * 21) l9) ?_
                                                          refine lv_dup2_11 hx hb dX6_fits_272 rfl rfl ?_
                                                          refine la_n (f := gb) hx hb hK hP 1 1 rfl rfl (j := (((21 * ux) + 1) * 21) + l9) rfl (by omega) (by decide) dX6_fits_273 ?_
                                                          refine lv_lload hx hb dX6_fits_274 (lv_at hl 1 rfl) ?_
                                                          refine lv_ladd hx hb dX6_fits_276 ?_
                                                          refine ls_n (f := gb) hx hb hK hP hD hS 1 1 rfl rfl (j := (((21 * ux) + 1) * 21) + l9) rfl (by omega) (by decide) dX6_fits_277 (fun H locs hP hD hS => ?_)
                                                          have hP : va_P D vwCl [(o14, aL cs 1764 ga), (o15, aL cs 1764 (vp_updL gb ((((21 * ux) + 1) * 21) + l9) ((gb ((((21 * ux) + 1) * 21) + l9)) + (ga ((((21 * tx) + k) * 21) + l9)))))] H := hP
                                                          have hD : va_D A [(o14, aL cs 1764 ga), (o15, aL cs 1764 (vp_updL gb ((((21 * ux) + 1) * 21) + l9) ((gb ((((21 * ux) + 1) * 21) + l9)) + (ga ((((21 * tx) + k) * 21) + l9)))))] := hD
                                                          refine lv_iinc (v := nI (l9 + 1)) (lv' := [(8, .int (nI (l9 + 1))), (11, .int 1), (9, .long (ga ((((21 * tx) + k) * 21) + l9))), (0, .ref o), (1, .int (nI sq)), (2, .int (iI day)), (3, .int (nI th)), (4, .int (nI d)), (5, .int (nI ux)), (6, .int (nI tx)), (7, .int (nI k))]) hx hb dX6_fits_278 hl (k := 10) rfl (inc_n l9 1) (by decide) rfl (fun ls hl => ?_)
                                                          refine lv_goto (tgt := 180) hx hb dX6_fits_281 (by decide) ?_
                                                          exact ih180 (l9 + 1) (vp_updL gb ((((21 * ux) + 1) * 21) + l9) ((gb ((((21 * ux) + 1) * 21) + l9)) + (ga ((((21 * tx) + k) * 21) + l9)))) (by first | assumption | omega) (fun L hL => tx_E3_s (by omega) hP9 (by rw [tx_go_e (by omega) (by omega), if_neg c222, if_neg (by rw [c256]; decide)]) (hE3 L hL)) (tx_ZZ_v hZ3 (by omega) (by omega) (by omega) (by omega) (by omega)) (by omega) _ _ hP hD hS ls (lv_sub hl [3, 4, 5, 6, 7, 8, 9, 10, 0] rfl)
                                                        · refine lv_iload hx hb dX6_fits_259 (lv_at hl 10 rfl) ?_
                                                          refine lv_iload hx hb dX6_fits_261 (lv_at hl 0 rfl) ?_
                                                          refine va_mmax hx hb (hml.trans hl.1.symm) hown (hts (.methodLink RX6 140 Lib.Math.max.name) (by decide +kernel)) (hts (.static Lib.Math.max.name) (by decide +kernel)) (hts (.initialized "java/lang/Math") (by decide +kernel)) (hts (.code Lib.Math.max.name Lib.Math.max.code 2 (some .int)) (by decide +kernel)) (Nat.le_of_ble_eq_true rfl) (Nat.le_of_ble_eq_true rfl) (Nat.le_of_ble_eq_true rfl) (Nat.le_of_ble_eq_true rfl) dX6_fits_263 ?_
                                                          refine tp_i (max_n (a := l9) (b := 1) rfl rfl (by omega) (by decide)) ?_
                                                          refine lv_goto (tgt := 271) hx hb dX6_fits_266 (by decide) ?_
                                                          refine lv_iadd hx hb dX6_fits_271 ?_
                                                          refine tp_i (nI_add (((21 * ux) + 1) * 21) (max l9 1)) ?_
                                                          refine lv_dup2_11 hx hb dX6_fits_272 rfl rfl ?_
                                                          refine la_n (f := gb) hx hb hK hP 1 1 rfl rfl (j := (((21 * ux) + 1) * 21) + (max l9 1)) rfl (by omega) (by decide) dX6_fits_273 ?_
                                                          refine lv_lload hx hb dX6_fits_274 (lv_at hl 1 rfl) ?_
                                                          refine lv_ladd hx hb dX6_fits_276 ?_
                                                          refine ls_n (f := gb) hx hb hK hP hD hS 1 1 rfl rfl (j := (((21 * ux) + 1) * 21) + (max l9 1)) rfl (by omega) (by decide) dX6_fits_277 (fun H locs hP hD hS => ?_)
                                                          have hP : va_P D vwCl [(o14, aL cs 1764 ga), (o15, aL cs 1764 (vp_updL gb ((((21 * ux) + 1) * 21) + (max l9 1)) ((gb ((((21 * ux) + 1) * 21) + (max l9 1))) + (ga ((((21 * tx) + k) * 21) + l9)))))] H := hP
                                                          have hD : va_D A [(o14, aL cs 1764 ga), (o15, aL cs 1764 (vp_updL gb ((((21 * ux) + 1) * 21) + (max l9 1)) ((gb ((((21 * ux) + 1) * 21) + (max l9 1))) + (ga ((((21 * tx) + k) * 21) + l9)))))] := hD
                                                          refine lv_iinc (v := nI (l9 + 1)) (lv' := [(8, .int (nI (l9 + 1))), (11, .int 1), (9, .long (ga ((((21 * tx) + k) * 21) + l9))), (0, .ref o), (1, .int (nI sq)), (2, .int (iI day)), (3, .int (nI th)), (4, .int (nI d)), (5, .int (nI ux)), (6, .int (nI tx)), (7, .int (nI k))]) hx hb dX6_fits_278 hl (k := 10) rfl (inc_n l9 1) (by decide) rfl (fun ls hl => ?_)
                                                          refine lv_goto (tgt := 180) hx hb dX6_fits_281 (by decide) ?_
                                                          exact ih180 (l9 + 1) (vp_updL gb ((((21 * ux) + 1) * 21) + (max l9 1)) ((gb ((((21 * ux) + 1) * 21) + (max l9 1))) + (ga ((((21 * tx) + k) * 21) + l9)))) (by first | assumption | omega) (fun L hL => tx_E3_s (by omega) hP9 (by rw [tx_go_e (by omega) (by omega), if_neg c222, if_pos c256]) (hE3 L hL)) (tx_ZZ_v hZ3 (by omega) (by omega) (by omega) (by omega) (by omega)) (by omega) _ _ hP hD hS ls (lv_sub hl [3, 4, 5, 6, 7, 8, 9, 10, 0] rfl)
                                                      · refine lv_iload hx hb dX6_fits_225 (lv_at hl 8 rfl) ?_
                                                        refine lv_iconst (v := 1) hx hb dX6_fits_227 (by decide) ?_
                                                        refine lv_iadd hx hb dX6_fits_228 ?_
                                                        refine tp_i (nI_add k 1) ?_
                                                        refine lv_goto (tgt := 233) hx hb dX6_fits_229 (by decide) ?_
                                                        refine lv_istore (lv' := [(11, .int (nI (k + 1))), (9, .long (ga ((((21 * tx) + k) * 21) + l9))), (0, .ref o), (1, .int (nI sq)), (2, .int (iI day)), (3, .int (nI th)), (4, .int (nI d)), (5, .int (nI ux)), (6, .int (nI tx)), (7, .int (nI k)), (8, .int (nI l9))]) hx hb dX6_fits_233 hl (by decide) rfl (fun ls hl => ?_)
                                                        refine lv_aload_n hx hb dX6_fits_235 rfl (lv_at hl 2 rfl) ?_
                                                        refine va_get (D := D) (ci := 6) (v := .ref o15) (C := RX6) (T := TX6) (N := 24) hx hb hts in_X6 hown hK (hR hS) 0 rfl rfl 23 (by decide) hf_53 (fun _ h9 => h9) rfl dX6_fits_236 ?_
                                                        refine lv_bipush (v := 21) hx hb dX6_fits_239 (by decide) ?_
                                                        refine lv_iload hx hb dX6_fits_241 (lv_at hl 7 rfl) ?_
                                                        refine lv_imul hx hb dX6_fits_243 ?_
                                                        refine tp_i (pk_mul 21 ux) ?_
                                                        refine lv_iload hx hb dX6_fits_244 (lv_at hl 0 rfl) ?_
                                                        refine lv_iadd hx hb dX6_fits_246 ?_
                                                        refine tp_i (nI_add (21 * ux) (k + 1)) ?_
                                                        refine lv_bipush (v := 21) hx hb dX6_fits_247 (by decide) ?_
                                                        refine lv_imul hx hb dX6_fits_249 ?_
                                                        refine tp_i (pk_mul ((21 * ux) + (k + 1)) 21) ?_
                                                        refine lv_aload_n hx hb dX6_fits_250 rfl (lv_at hl 2 rfl) ?_
                                                        refine lv_iload hx hb dX6_fits_251 (lv_at hl 7 rfl) ?_
                                                        refine cV_i (As := [.int (nI ux)]) (rest := [.int (nI (((21 * ux) + (k + 1)) * 21)), .ref o15]) (cr := [(o, .inr (6, [.int (nI n), .ref o1, .ref o2, .ref o3, .ref o4, .int (nI dy), .ref o5, .ref o6, .int (nI ch), .int (nI lw), .int (nI tz), .ref o7, .int (nI at9), .int (nI va9), .int (nI ss), .ref o8, .ref o9, .int (bI im), .ref o10, .ref o11, .ref o12, .ref o13, .ref o14, .ref o15])), (o1, aI cs 4 (tx_nf kd))]) (cw1 := []) ⟨hx, hb, hml, hown, hts⟩ (c_X6_counts l D cs _ o o1 o2 o3 o4 o5 o6 o7 o8 o9 o10 o11 o12 o13 o14 o15 n dy ch lw tz at9 va9 ss im kd ux (by first | assumption | omega) (by omega) (fun _ => by omega) (by first | assumption | omega)) (cwV 1 hts gX6_fits_X6_counts rfl rfl rfl (by decide +kernel) ⟨Nat.le_of_ble_eq_true rfl, Nat.le_of_ble_eq_true rfl⟩) hK hP hD hS hA (((hR hS).app hP).sub [0, 1] rfl) (dt_of hN [0, 1] (by decide) rfl) [] rfl 0 rfl rfl rfl hl.1 rfl (Nat.le_of_ble_eq_true rfl) dX6_fits_253 ⟨Nat.le_of_ble_eq_true rfl, Nat.le_of_ble_eq_true rfl⟩ (fun _ => rfl) (fun _ => rfl) (fun r_9 u9 H locs hw_10 hP hD hS => ?_)
                                                        have hP : va_P D vwCl [(o14, aL cs 1764 ga), (o15, aL cs 1764 gb)] H := hP
                                                        have hD : va_D A [(o14, aL cs 1764 ga), (o15, aL cs 1764 gb)] := hD
                                                        subst r_9
                                                        refine bb_eq (b := tx_tx n kd ux) (tgt := 269) hx hb rfl dX6_fits_256 (by decide) (fun c256 => ?_) (fun c256 => ?_)
                                                        · refine lv_iload hx hb dX6_fits_269 (lv_at hl 10 rfl) ?_
                                                          refine lv_iadd hx hb dX6_fits_271 ?_
                                                          refine tp_i (nI_add (((21 * ux) + (k + 1)) * 21) l9) ?_
                                                          refine lv_dup2_11 hx hb dX6_fits_272 rfl rfl ?_
                                                          refine la_n (f := gb) hx hb hK hP 1 1 rfl rfl (j := (((21 * ux) + (k + 1)) * 21) + l9) rfl (by omega) (by decide) dX6_fits_273 ?_
                                                          refine lv_lload hx hb dX6_fits_274 (lv_at hl 1 rfl) ?_
                                                          refine lv_ladd hx hb dX6_fits_276 ?_
                                                          refine ls_n (f := gb) hx hb hK hP hD hS 1 1 rfl rfl (j := (((21 * ux) + (k + 1)) * 21) + l9) rfl (by omega) (by decide) dX6_fits_277 (fun H locs hP hD hS => ?_)
                                                          have hP : va_P D vwCl [(o14, aL cs 1764 ga), (o15, aL cs 1764 (vp_updL gb ((((21 * ux) + (k + 1)) * 21) + l9) ((gb ((((21 * ux) + (k + 1)) * 21) + l9)) + (ga ((((21 * tx) + k) * 21) + l9)))))] H := hP
                                                          have hD : va_D A [(o14, aL cs 1764 ga), (o15, aL cs 1764 (vp_updL gb ((((21 * ux) + (k + 1)) * 21) + l9) ((gb ((((21 * ux) + (k + 1)) * 21) + l9)) + (ga ((((21 * tx) + k) * 21) + l9)))))] := hD
                                                          refine lv_iinc (v := nI (l9 + 1)) (lv' := [(8, .int (nI (l9 + 1))), (11, .int (nI (k + 1))), (9, .long (ga ((((21 * tx) + k) * 21) + l9))), (0, .ref o), (1, .int (nI sq)), (2, .int (iI day)), (3, .int (nI th)), (4, .int (nI d)), (5, .int (nI ux)), (6, .int (nI tx)), (7, .int (nI k))]) hx hb dX6_fits_278 hl (k := 10) rfl (inc_n l9 1) (by decide) rfl (fun ls hl => ?_)
                                                          refine lv_goto (tgt := 180) hx hb dX6_fits_281 (by decide) ?_
                                                          exact ih180 (l9 + 1) (vp_updL gb ((((21 * ux) + (k + 1)) * 21) + l9) ((gb ((((21 * ux) + (k + 1)) * 21) + l9)) + (ga ((((21 * tx) + k) * 21) + l9)))) (by first | assumption | omega) (fun L hL => tx_E3_s (by omega) hP9 (by rw [tx_go_e (by omega) (by omega), if_pos c222, if_neg (by rw [c256]; decide)]) (hE3 L hL)) (tx_ZZ_v hZ3 (by omega) (by omega) (by omega) (by omega) (by omega)) (by omega) _ _ hP hD hS ls (lv_sub hl [3, 4, 5, 6, 7, 8, 9, 10, 0] rfl)
                                                        · refine lv_iload hx hb dX6_fits_259 (lv_at hl 10 rfl) ?_
                                                          refine lv_iload hx hb dX6_fits_261 (lv_at hl 0 rfl) ?_
                                                          refine va_mmax hx hb (hml.trans hl.1.symm) hown (hts (.methodLink RX6 140 Lib.Math.max.name) (by decide +kernel)) (hts (.static Lib.Math.max.name) (by decide +kernel)) (hts (.initialized "java/lang/Math") (by decide +kernel)) (hts (.code Lib.Math.max.name Lib.Math.max.code 2 (some .int)) (by decide +kernel)) (Nat.le_of_ble_eq_true rfl) (Nat.le_of_ble_eq_true rfl) (Nat.le_of_ble_eq_true rfl) (Nat.le_of_ble_eq_true rfl) dX6_fits_263 ?_
                                                          refine tp_i (max_n (a := l9) (b := k + 1) rfl rfl (by omega) (by omega)) ?_
                                                          refine lv_goto (tgt := 271) hx hb dX6_fits_266 (by decide) ?_
                                                          refine lv_iadd hx hb dX6_fits_271 ?_
                                                          refine tp_i (nI_add (((21 * ux) + (k + 1)) * 21) (max l9 (k + 1))) ?_
                                                          refine lv_dup2_11 hx hb dX6_fits_272 rfl rfl ?_
                                                          refine la_n (f := gb) hx hb hK hP 1 1 rfl rfl (j := (((21 * ux) + (k + 1)) * 21) + (max l9 (k + 1))) rfl (by omega) (by decide) dX6_fits_273 ?_
                                                          refine lv_lload hx hb dX6_fits_274 (lv_at hl 1 rfl) ?_
                                                          refine lv_ladd hx hb dX6_fits_276 ?_
                                                          refine ls_n (f := gb) hx hb hK hP hD hS 1 1 rfl rfl (j := (((21 * ux) + (k + 1)) * 21) + (max l9 (k + 1))) rfl (by omega) (by decide) dX6_fits_277 (fun H locs hP hD hS => ?_)
                                                          have hP : va_P D vwCl [(o14, aL cs 1764 ga), (o15, aL cs 1764 (vp_updL gb ((((21 * ux) + (k + 1)) * 21) + (max l9 (k + 1))) ((gb ((((21 * ux) + (k + 1)) * 21) + (max l9 (k + 1)))) + (ga ((((21 * tx) + k) * 21) + l9)))))] H := hP
                                                          have hD : va_D A [(o14, aL cs 1764 ga), (o15, aL cs 1764 (vp_updL gb ((((21 * ux) + (k + 1)) * 21) + (max l9 (k + 1))) ((gb ((((21 * ux) + (k + 1)) * 21) + (max l9 (k + 1)))) + (ga ((((21 * tx) + k) * 21) + l9)))))] := hD
                                                          refine lv_iinc (v := nI (l9 + 1)) (lv' := [(8, .int (nI (l9 + 1))), (11, .int (nI (k + 1))), (9, .long (ga ((((21 * tx) + k) * 21) + l9))), (0, .ref o), (1, .int (nI sq)), (2, .int (iI day)), (3, .int (nI th)), (4, .int (nI d)), (5, .int (nI ux)), (6, .int (nI tx)), (7, .int (nI k))]) hx hb dX6_fits_278 hl (k := 10) rfl (inc_n l9 1) (by decide) rfl (fun ls hl => ?_)
                                                          refine lv_goto (tgt := 180) hx hb dX6_fits_281 (by decide) ?_
                                                          exact ih180 (l9 + 1) (vp_updL gb ((((21 * ux) + (k + 1)) * 21) + (max l9 (k + 1))) ((gb ((((21 * ux) + (k + 1)) * 21) + (max l9 (k + 1)))) + (ga ((((21 * tx) + k) * 21) + l9)))) (by first | assumption | omega) (fun L hL => tx_E3_s (by omega) hP9 (by rw [tx_go_e (by omega) (by omega), if_pos c222, if_pos c256]) (hE3 L hL)) (tx_ZZ_v hZ3 (by omega) (by omega) (by omega) (by omega) (by omega)) (by omega) _ _ hP hD hS ls (lv_sub hl [3, 4, 5, 6, 7, 8, 9, 10, 0] rfl)
                                                    · refine lv_goto (tgt := 278) hx hb dX6_fits_215 (by decide) ?_
                                                      refine lv_iinc (v := nI (l9 + 1)) (lv' := [(8, .int (nI (l9 + 1))), (9, .long (ga ((((21 * tx) + k) * 21) + l9))), (0, .ref o), (1, .int (nI sq)), (2, .int (iI day)), (3, .int (nI th)), (4, .int (nI d)), (5, .int (nI ux)), (6, .int (nI tx)), (7, .int (nI k))]) hx hb dX6_fits_278 hl (k := 9) rfl (inc_n l9 1) (by decide) rfl (fun ls hl => ?_)
                                                      refine lv_goto (tgt := 180) hx hb dX6_fits_281 (by decide) ?_
                                                      exact ih180 (l9 + 1) gb (by first | assumption | omega) (fun L hL => tx_E3_0 (tx_lc1 c212) (hE3 L hL)) hZ3 (by omega) _ _ hP hD hS ls (lv_sub hl [2, 3, 4, 5, 6, 7, 8, 9, 0] rfl)
                                              exact loop180 _ 0 gb (by first | assumption | omega) hE3 hZ3 (Nat.lt_succ_self _) _ _ hP hD hS ls (lv_sub hl [1, 2, 3, 4, 5, 6, 7, 8, 0] rfl)
                                        exact loop170 _ 1 gb (by first | assumption | omega) (by first | assumption | omega) (fun L hL => by rw [hE3 L hL, show min ((21 * tx + 1) * 21) 1764 = (21 * tx + 1) * 21 by omega]) hZ3 (Nat.lt_succ_self _) _ _ hP hD hS ls (lv_sub hl [1, 2, 3, 4, 5, 6, 7, 0] rfl)
                                  exact loop158 _ 0 gb (by first | assumption | omega) (fun L hL => tx_E3_z (i := 0) (by omega) (by omega) hZ (fun v z1 z2 z3 => by omega) (by rw [hE2 L hL, tx_sl, Int64.add_zero])) hZ2 (Nat.lt_succ_self _) _ _ hP hD hS ls (lv_sub hl [1, 2, 3, 4, 5, 6, 0] rfl)
                                · refine lv_aload_n hx hb dX6_fits_118 rfl (lv_at hl 0 rfl) ?_
                                  refine va_get (D := D) (ci := 6) (v := .ref o15) (C := RX6) (T := TX6) (N := 24) hx hb hts in_X6 hown hK (hR hS) 0 rfl rfl 23 (by decide) hf_53 (fun _ h9 => h9) rfl dX6_fits_119 ?_
                                  refine lv_bipush (v := 21) hx hb dX6_fits_122 (by decide) ?_
                                  refine lv_iload hx hb dX6_fits_124 (lv_at hl 5 rfl) ?_
                                  refine lv_imul hx hb dX6_fits_126 ?_
                                  refine tp_i (pk_mul 21 ux) ?_
                                  refine lv_iconst (v := 1) hx hb dX6_fits_127 (by decide) ?_
                                  refine lv_iadd hx hb dX6_fits_128 ?_
                                  refine tp_i (nI_add (21 * ux) 1) ?_
                                  refine lv_bipush (v := 21) hx hb dX6_fits_129 (by decide) ?_
                                  refine lv_imul hx hb dX6_fits_131 ?_
                                  refine tp_i (pk_mul ((21 * ux) + 1) 21) ?_
                                  refine lv_aload_n hx hb dX6_fits_132 rfl (lv_at hl 0 rfl) ?_
                                  refine lv_iload hx hb dX6_fits_133 (lv_at hl 5 rfl) ?_
                                  refine cV_i (As := [.int (nI ux)]) (rest := [.int (nI (((21 * ux) + 1) * 21)), .ref o15]) (cr := [(o, .inr (6, [.int (nI n), .ref o1, .ref o2, .ref o3, .ref o4, .int (nI dy), .ref o5, .ref o6, .int (nI ch), .int (nI lw), .int (nI tz), .ref o7, .int (nI at9), .int (nI va9), .int (nI ss), .ref o8, .ref o9, .int (bI im), .ref o10, .ref o11, .ref o12, .ref o13, .ref o14, .ref o15])), (o1, aI cs 4 (tx_nf kd))]) (cw1 := []) ⟨hx, hb, hml, hown, hts⟩ (c_X6_counts l D cs _ o o1 o2 o3 o4 o5 o6 o7 o8 o9 o10 o11 o12 o13 o14 o15 n dy ch lw tz at9 va9 ss im kd ux (by first | assumption | omega) (by omega) (fun _ => by omega) (by first | assumption | omega)) (cwV 1 hts gX6_fits_X6_counts rfl rfl rfl (by decide +kernel) ⟨Nat.le_of_ble_eq_true rfl, Nat.le_of_ble_eq_true rfl⟩) hK hP hD hS hA (((hR hS).app hP).sub [0, 1] rfl) (dt_of hN [0, 1] (by decide) rfl) [] rfl 0 rfl rfl rfl hl.1 rfl (Nat.le_of_ble_eq_true rfl) dX6_fits_135 ⟨Nat.le_of_ble_eq_true rfl, Nat.le_of_ble_eq_true rfl⟩ (fun _ => rfl) (fun _ => rfl) (fun r_11 u9 H locs hw_12 hP hD hS => ?_)
                                  have hP : va_P D vwCl [(o14, aL cs 1764 ga), (o15, aL cs 1764 gb)] H := hP
                                  have hD : va_D A [(o14, aL cs 1764 ga), (o15, aL cs 1764 gb)] := hD
                                  subst r_11
                                  refine bb_eq (b := tx_tx n kd ux) (tgt := 145) hx hb rfl dX6_fits_138 (by decide) (fun c138 => ?_) (fun c138 => ?_)
                                  · refine lv_iconst (v := 0) hx hb dX6_fits_145 (by decide) ?_
                                    refine lv_iadd hx hb dX6_fits_146 ?_
                                    refine tp_i (nI_add (((21 * ux) + 1) * 21) 0) ?_
                                    refine lv_dup2_11 hx hb dX6_fits_147 rfl rfl ?_
                                    refine la_n (f := gb) hx hb hK hP 1 1 rfl rfl (j := (((21 * ux) + 1) * 21) + 0) rfl (by omega) (by decide) dX6_fits_148 ?_
                                    refine lv_lconst (v := 1) hx hb dX6_fits_149 (by decide) ?_
                                    refine lv_ladd hx hb dX6_fits_150 ?_
                                    refine ls_n (f := gb) hx hb hK hP hD hS 1 1 rfl rfl (j := (((21 * ux) + 1) * 21) + 0) rfl (by omega) (by decide) dX6_fits_151 (fun H locs hP hD hS => ?_)
                                    have hP : va_P D vwCl [(o14, aL cs 1764 ga), (o15, aL cs 1764 (vp_updL gb ((((21 * ux) + 1) * 21) + 0) ((gb ((((21 * ux) + 1) * 21) + 0)) + 1)))] H := hP
                                    have hD : va_D A [(o14, aL cs 1764 ga), (o15, aL cs 1764 (vp_updL gb ((((21 * ux) + 1) * 21) + 0) ((gb ((((21 * ux) + 1) * 21) + 0)) + 1)))] := hD
                                    refine lv_goto (tgt := 296) hx hb dX6_fits_152 (by decide) ?_
                                    refine lv_iinc (v := nI (ux + 1)) (lv' := [(5, .int (nI (ux + 1))), (0, .ref o), (1, .int (nI sq)), (2, .int (iI day)), (3, .int (nI th)), (4, .int (nI d))]) hx hb dX6_fits_296 hl (k := 5) rfl (inc_n ux 1) (by decide) rfl (fun ls hl => ?_)
                                    refine lv_goto (tgt := 65) hx hb dX6_fits_299 (by decide) ?_
                                    exact ih65 (ux + 1) (vp_updL gb ((((21 * ux) + 1) * 21) + 0) ((gb ((((21 * ux) + 1) * 21) + 0)) + 1)) (by first | assumption | omega) (fun L hL => by rw [tx_EE_u (by omega), hE2 L hL]; exact tx_BS_1 (by omega) hP9 (by rw [c138]; rfl)) (tx_ZZ_u hZ2 (by omega)) (by omega) _ _ hP hD hS ls (lv_sub hl [1, 2, 3, 4, 5, 0] rfl)
                                  · refine lv_iconst (v := 1) hx hb dX6_fits_141 (by decide) ?_
                                    refine lv_goto (tgt := 146) hx hb dX6_fits_142 (by decide) ?_
                                    refine lv_iadd hx hb dX6_fits_146 ?_
                                    refine tp_i (nI_add (((21 * ux) + 1) * 21) 1) ?_
                                    refine lv_dup2_11 hx hb dX6_fits_147 rfl rfl ?_
                                    refine la_n (f := gb) hx hb hK hP 1 1 rfl rfl (j := (((21 * ux) + 1) * 21) + 1) rfl (by omega) (by decide) dX6_fits_148 ?_
                                    refine lv_lconst (v := 1) hx hb dX6_fits_149 (by decide) ?_
                                    refine lv_ladd hx hb dX6_fits_150 ?_
                                    refine ls_n (f := gb) hx hb hK hP hD hS 1 1 rfl rfl (j := (((21 * ux) + 1) * 21) + 1) rfl (by omega) (by decide) dX6_fits_151 (fun H locs hP hD hS => ?_)
                                    have hP : va_P D vwCl [(o14, aL cs 1764 ga), (o15, aL cs 1764 (vp_updL gb ((((21 * ux) + 1) * 21) + 1) ((gb ((((21 * ux) + 1) * 21) + 1)) + 1)))] H := hP
                                    have hD : va_D A [(o14, aL cs 1764 ga), (o15, aL cs 1764 (vp_updL gb ((((21 * ux) + 1) * 21) + 1) ((gb ((((21 * ux) + 1) * 21) + 1)) + 1)))] := hD
                                    refine lv_goto (tgt := 296) hx hb dX6_fits_152 (by decide) ?_
                                    refine lv_iinc (v := nI (ux + 1)) (lv' := [(5, .int (nI (ux + 1))), (0, .ref o), (1, .int (nI sq)), (2, .int (iI day)), (3, .int (nI th)), (4, .int (nI d))]) hx hb dX6_fits_296 hl (k := 5) rfl (inc_n ux 1) (by decide) rfl (fun ls hl => ?_)
                                    refine lv_goto (tgt := 65) hx hb dX6_fits_299 (by decide) ?_
                                    exact ih65 (ux + 1) (vp_updL gb ((((21 * ux) + 1) * 21) + 1) ((gb ((((21 * ux) + 1) * 21) + 1)) + 1)) (by first | assumption | omega) (fun L hL => by rw [tx_EE_u (by omega), hE2 L hL]; exact tx_BS_1 (by omega) hP9 (by rw [c138]; rfl)) (tx_ZZ_u hZ2 (by omega)) (by omega) _ _ hP hD hS ls (lv_sub hl [1, 2, 3, 4, 5, 0] rfl)
                              · refine lv_goto (tgt := 296) hx hb dX6_fits_110 (by decide) ?_
                                have hP9 : tx_Pf sn day th d ux = false := decide_eq_false (fun z => by have z1 := z.1; have z2 := z.2; omega)
                                refine lv_iinc (v := nI (ux + 1)) (lv' := [(5, .int (nI (ux + 1))), (0, .ref o), (1, .int (nI sq)), (2, .int (iI day)), (3, .int (nI th)), (4, .int (nI d))]) hx hb dX6_fits_296 hl (k := 5) rfl (inc_n ux 1) (by decide) rfl (fun ls hl => ?_)
                                refine lv_goto (tgt := 65) hx hb dX6_fits_299 (by decide) ?_
                                exact ih65 (ux + 1) gb (by first | assumption | omega) (fun L hL => by rw [hE2 L hL, tx_BS_n hP9]) hZ2 (by omega) _ _ hP hD hS ls (lv_sub hl [1, 2, 3, 4, 5, 0] rfl)
                          · refine lv_aload_n hx hb dX6_fits_86 rfl (lv_at hl 0 rfl) ?_
                            refine va_get (D := D) (ci := 6) (v := .ref o8) (C := RX6) (T := TX6) (N := 24) hx hb hts in_X6 hown hK (hR hS) 0 rfl rfl 15 (by decide) hf_31 (fun _ h9 => h9) rfl dX6_fits_87 ?_
                            refine lv_iload hx hb dX6_fits_90 (lv_at hl 4 rfl) ?_
                            refine ia_n (f := tx_nf sn) hx hb hK (hR hS) 2 0 rfl rfl (j := d) rfl (by omega) (by decide) dX6_fits_92 ?_
                            refine tp_i (y := nI (sn d)) rfl ?_
                            refine lv_iload hx hb dX6_fits_93 (lv_at hl 5 rfl) ?_
                            refine bn_ne (a := sn d) (b := ux) (tgt := 296) hx hb rfl rfl (by omega) (by omega) dX6_fits_95 (by decide) (fun c95 => ?_) (fun c95 => ?_)
                            · have hP9 : tx_Pf sn day th d ux = false := decide_eq_false (fun z => by have z1 := z.1; have z2 := z.2; omega)
                              refine lv_iinc (v := nI (ux + 1)) (lv' := [(5, .int (nI (ux + 1))), (0, .ref o), (1, .int (nI sq)), (2, .int (iI day)), (3, .int (nI th)), (4, .int (nI d))]) hx hb dX6_fits_296 hl (k := 5) rfl (inc_n ux 1) (by decide) rfl (fun ls hl => ?_)
                              refine lv_goto (tgt := 65) hx hb dX6_fits_299 (by decide) ?_
                              exact ih65 (ux + 1) gb (by first | assumption | omega) (fun L hL => by rw [hE2 L hL, tx_BS_n hP9]) hZ2 (by omega) _ _ hP hD hS ls (lv_sub hl [1, 2, 3, 4, 5, 0] rfl)
                            · refine lv_iload hx hb dX6_fits_98 (lv_at hl 4 rfl) ?_
                              refine lv_iload_n hx hb dX6_fits_100 rfl (lv_at hl 2 rfl) ?_
                              refine bi_ne (a := (d : Int)) (b := day) (tgt := 113) hx hb (nI_iI _) rfl (by omega) (by omega) (by omega) (by omega) dX6_fits_101 (by decide) (fun c101 => ?_) (fun c101 => ?_)
                              · have hP9 : tx_Pf sn day th d ux = true := decide_eq_true ⟨by omega, fun z => by omega⟩
                                refine lv_iload hx hb dX6_fits_113 (lv_at hl 4 rfl) ?_
                                refine bz_ne (a := d) (tgt := 155) hx hb rfl (by omega) dX6_fits_115 (by decide) (fun c115 => ?_) (fun c115 => ?_)
                                · refine lv_iconst (v := 0) hx hb dX6_fits_155 (by decide) ?_
                                  refine lv_istore (lv' := [(6, .int 0), (0, .ref o), (1, .int (nI sq)), (2, .int (iI day)), (3, .int (nI th)), (4, .int (nI d)), (5, .int (nI ux))]) hx hb dX6_fits_156 hl (by decide) rfl (fun ls hl => ?_)
                                  have loop158 : ∀ (n9 : Nat) (tx : Nat) (gb : Nat → Int64) (ht : tx ≤ n) (hE3 : ∀ L, L ≤ 20 → tx_EE n ss (tx_Pf sn day th) (tx_tx n kd) L (d + 1) gb = tx_BS n ss (tx_Pf sn day th) (tx_tx n kd) L d ga ux + tx_sl (tx_F9 n ss (tx_Pf sn day th) (tx_tx n kd) L d ux ga) (min ((21 * tx + 1) * 21) 1764)) (hZ3 : tx_ZZ n (d + 1) gb), n - tx < n9 → ∀ (H : Heap) (locs : List Loc), va_P D vwCl [(o14, aL cs 1764 ga), (o15, aL cs 1764 gb)] H → va_D A [(o14, aL cs 1764 ga), (o15, aL cs 1764 gb)] → va_S A s.heap H locs → ∀ (ls : Array Slot), lv_has ls 12 [(0, .ref o), (1, .int (nI sq)), (2, .int (iI day)), (3, .int (nI th)), (4, .int (nI d)), (5, .int (nI ux)), (6, .int (nI tx))] → W p l e (headSpec wsX6_fits ({ frames := 1, cells := 0, slots := 0, locals := 21 } : Room)).room s m ([.ref o, .int (nI sq), .int (iI day), .int (nI th)] : List Value).toArray below meth c H locs 0 0 (MQ below (va_Ql (fun (r : Int64) (u : (Nat → Int64) × (Nat → Int64)) => match u with | (now2, nxt2) => r = lN (tx_pay n ss (tx_Pf sn day th) (tx_tx n kd) sq)) (QB D (fun (u : (Nat → Int64) × (Nat → Int64)) => match u with | (now2, nxt2) => [(o14, aL cs 1764 now2), (o15, aL cs 1764 nxt2)]) A) A) ([.ref o, .int (nI sq), .int (iI day), .int (nI th)] : List Value).toArray s 0 0 A) (F0 m 158 ls []) := by
                                    intro n9
                                    induction n9 with
                                    | zero => intros; omega
                                    | succ n9 ih158 =>
                                      intro tx gb ht hE3 hZ3 hmu H locs hP hD hS ls hl
                                      refine lv_iload hx hb dX6_fits_158 (lv_at hl 6 rfl) ?_
                                      refine lv_aload_n hx hb dX6_fits_160 rfl (lv_at hl 0 rfl) ?_
                                      refine va_get (D := D) (ci := 6) (v := .int (nI n)) (C := RX6) (T := TX6) (N := 24) hx hb hts in_X6 hown hK (hR hS) 0 rfl rfl 0 (by decide) hf_71 (fun _ h9 => h9) rfl dX6_fits_161 ?_
                                      refine bn_ge (a := tx) (b := n) (tgt := 296) hx hb rfl rfl (by omega) (by omega) dX6_fits_164 (by decide) (fun c164 => ?_) (fun c164 => ?_)
                                      · refine lv_iinc (v := nI (ux + 1)) (lv' := [(5, .int (nI (ux + 1))), (0, .ref o), (1, .int (nI sq)), (2, .int (iI day)), (3, .int (nI th)), (4, .int (nI d)), (6, .int (nI tx))]) hx hb dX6_fits_296 hl (k := 5) rfl (inc_n ux 1) (by decide) rfl (fun ls hl => ?_)
                                        refine lv_goto (tgt := 65) hx hb dX6_fits_299 (by decide) ?_
                                        exact ih65 (ux + 1) gb (by first | assumption | omega) (fun L hL => by rw [tx_BS_s (by omega)]; exact tx_E3_z (by omega) (by omega) hZ (fun v z1 z2 z3 => by omega) (hE3 L hL)) hZ3 (by omega) _ _ hP hD hS ls (lv_sub hl [1, 2, 3, 4, 5, 0] rfl)
                                      · refine lv_iconst (v := 1) hx hb dX6_fits_167 (by decide) ?_
                                        refine lv_istore (lv' := [(7, .int 1), (0, .ref o), (1, .int (nI sq)), (2, .int (iI day)), (3, .int (nI th)), (4, .int (nI d)), (5, .int (nI ux)), (6, .int (nI tx))]) hx hb dX6_fits_168 hl (by decide) rfl (fun ls hl => ?_)
                                        have loop170 : ∀ (n9 : Nat) (k : Nat) (gb : Nat → Int64) (hk1 : 1 ≤ k) (hk2 : k ≤ d + 1) (hE3 : ∀ L, L ≤ 20 → tx_EE n ss (tx_Pf sn day th) (tx_tx n kd) L (d + 1) gb = tx_BS n ss (tx_Pf sn day th) (tx_tx n kd) L d ga ux + tx_sl (tx_F9 n ss (tx_Pf sn day th) (tx_tx n kd) L d ux ga) ((21 * tx + k) * 21)) (hZ3 : tx_ZZ n (d + 1) gb), d + 1 - k < n9 → ∀ (H : Heap) (locs : List Loc), va_P D vwCl [(o14, aL cs 1764 ga), (o15, aL cs 1764 gb)] H → va_D A [(o14, aL cs 1764 ga), (o15, aL cs 1764 gb)] → va_S A s.heap H locs → ∀ (ls : Array Slot), lv_has ls 12 [(0, .ref o), (1, .int (nI sq)), (2, .int (iI day)), (3, .int (nI th)), (4, .int (nI d)), (5, .int (nI ux)), (6, .int (nI tx)), (7, .int (nI k))] → W p l e (headSpec wsX6_fits ({ frames := 1, cells := 0, slots := 0, locals := 21 } : Room)).room s m ([.ref o, .int (nI sq), .int (iI day), .int (nI th)] : List Value).toArray below meth c H locs 0 0 (MQ below (va_Ql (fun (r : Int64) (u : (Nat → Int64) × (Nat → Int64)) => match u with | (now2, nxt2) => r = lN (tx_pay n ss (tx_Pf sn day th) (tx_tx n kd) sq)) (QB D (fun (u : (Nat → Int64) × (Nat → Int64)) => match u with | (now2, nxt2) => [(o14, aL cs 1764 now2), (o15, aL cs 1764 nxt2)]) A) A) ([.ref o, .int (nI sq), .int (iI day), .int (nI th)] : List Value).toArray s 0 0 A) (F0 m 170 ls []) := by
                                          intro n9
                                          induction n9 with
                                          | zero => intros; omega
                                          | succ n9 ih170 =>
                                            intro k gb hk1 hk2 hE3 hZ3 hmu H locs hP hD hS ls hl
                                            refine lv_iload hx hb dX6_fits_170 (lv_at hl 7 rfl) ?_
                                            refine lv_iload hx hb dX6_fits_172 (lv_at hl 4 rfl) ?_
                                            refine bn_gt (a := k) (b := d) (tgt := 290) hx hb rfl rfl (by omega) (by omega) dX6_fits_174 (by decide) (fun c174 => ?_) (fun c174 => ?_)
                                            · refine lv_iinc (v := nI (tx + 1)) (lv' := [(6, .int (nI (tx + 1))), (0, .ref o), (1, .int (nI sq)), (2, .int (iI day)), (3, .int (nI th)), (4, .int (nI d)), (5, .int (nI ux)), (7, .int (nI k))]) hx hb dX6_fits_290 hl (k := 6) rfl (inc_n tx 1) (by decide) rfl (fun ls hl => ?_)
                                              refine lv_goto (tgt := 158) hx hb dX6_fits_293 (by decide) ?_
                                              exact ih158 (tx + 1) gb (by first | assumption | omega) (fun L hL => tx_E3_z (i := (21 * tx + k) * 21) (by omega) (by omega) hZ (fun v z1 z2 z3 => by omega) (hE3 L hL)) hZ3 (by omega) _ _ hP hD hS ls (lv_sub hl [1, 2, 3, 4, 5, 6, 0] rfl)
                                            · refine lv_iconst (v := 0) hx hb dX6_fits_177 (by decide) ?_
                                              refine lv_istore (lv' := [(8, .int 0), (0, .ref o), (1, .int (nI sq)), (2, .int (iI day)), (3, .int (nI th)), (4, .int (nI d)), (5, .int (nI ux)), (6, .int (nI tx)), (7, .int (nI k))]) hx hb dX6_fits_178 hl (by decide) rfl (fun ls hl => ?_)
                                              have loop180 : ∀ (n9 : Nat) (l9 : Nat) (gb : Nat → Int64) (hl1 : l9 ≤ d + 1) (hE3 : ∀ L, L ≤ 20 → tx_EE n ss (tx_Pf sn day th) (tx_tx n kd) L (d + 1) gb = tx_BS n ss (tx_Pf sn day th) (tx_tx n kd) L d ga ux + tx_sl (tx_F9 n ss (tx_Pf sn day th) (tx_tx n kd) L d ux ga) ((21 * tx + k) * 21 + l9)) (hZ3 : tx_ZZ n (d + 1) gb), d + 1 - l9 < n9 → ∀ (H : Heap) (locs : List Loc), va_P D vwCl [(o14, aL cs 1764 ga), (o15, aL cs 1764 gb)] H → va_D A [(o14, aL cs 1764 ga), (o15, aL cs 1764 gb)] → va_S A s.heap H locs → ∀ (ls : Array Slot), lv_has ls 12 [(0, .ref o), (1, .int (nI sq)), (2, .int (iI day)), (3, .int (nI th)), (4, .int (nI d)), (5, .int (nI ux)), (6, .int (nI tx)), (7, .int (nI k)), (8, .int (nI l9))] → W p l e (headSpec wsX6_fits ({ frames := 1, cells := 0, slots := 0, locals := 21 } : Room)).room s m ([.ref o, .int (nI sq), .int (iI day), .int (nI th)] : List Value).toArray below meth c H locs 0 0 (MQ below (va_Ql (fun (r : Int64) (u : (Nat → Int64) × (Nat → Int64)) => match u with | (now2, nxt2) => r = lN (tx_pay n ss (tx_Pf sn day th) (tx_tx n kd) sq)) (QB D (fun (u : (Nat → Int64) × (Nat → Int64)) => match u with | (now2, nxt2) => [(o14, aL cs 1764 now2), (o15, aL cs 1764 nxt2)]) A) A) ([.ref o, .int (nI sq), .int (iI day), .int (nI th)] : List Value).toArray s 0 0 A) (F0 m 180 ls []) := by
                                                intro n9
                                                induction n9 with
                                                | zero => intros; omega
                                                | succ n9 ih180 =>
                                                  intro l9 gb hl1 hE3 hZ3 hmu H locs hP hD hS ls hl
                                                  refine lv_iload hx hb dX6_fits_180 (lv_at hl 8 rfl) ?_
                                                  refine lv_iload hx hb dX6_fits_182 (lv_at hl 4 rfl) ?_
                                                  refine bn_gt (a := l9) (b := d) (tgt := 284) hx hb rfl rfl (by omega) (by omega) dX6_fits_184 (by decide) (fun c184 => ?_) (fun c184 => ?_)
                                                  · refine lv_iinc (v := nI (k + 1)) (lv' := [(7, .int (nI (k + 1))), (0, .ref o), (1, .int (nI sq)), (2, .int (iI day)), (3, .int (nI th)), (4, .int (nI d)), (5, .int (nI ux)), (6, .int (nI tx)), (8, .int (nI l9))]) hx hb dX6_fits_284 hl (k := 7) rfl (inc_n k 1) (by decide) rfl (fun ls hl => ?_)
                                                    refine lv_goto (tgt := 170) hx hb dX6_fits_287 (by decide) ?_
                                                    exact ih170 (k + 1) gb (by first | assumption | omega) (by first | assumption | omega) (fun L hL => tx_E3_z (i := (21 * tx + k) * 21 + l9) (by omega) (by omega) hZ (fun v z1 z2 z3 => by omega) (hE3 L hL)) hZ3 (by omega) _ _ hP hD hS ls (lv_sub hl [1, 2, 3, 4, 5, 6, 7, 0] rfl)
                                                  · refine lv_aload_n hx hb dX6_fits_187 rfl (lv_at hl 0 rfl) ?_
                                                    refine va_get (D := D) (ci := 6) (v := .ref o14) (C := RX6) (T := TX6) (N := 24) hx hb hts in_X6 hown hK (hR hS) 0 rfl rfl 22 (by decide) hf_49 (fun _ h9 => h9) rfl dX6_fits_188 ?_
                                                    refine lv_bipush (v := 21) hx hb dX6_fits_191 (by decide) ?_
                                                    refine lv_iload hx hb dX6_fits_193 (lv_at hl 6 rfl) ?_
                                                    refine lv_imul hx hb dX6_fits_195 ?_
                                                    refine tp_i (pk_mul 21 tx) ?_
                                                    refine lv_iload hx hb dX6_fits_196 (lv_at hl 7 rfl) ?_
                                                    refine lv_iadd hx hb dX6_fits_198 ?_
                                                    refine tp_i (nI_add (21 * tx) k) ?_
                                                    refine lv_bipush (v := 21) hx hb dX6_fits_199 (by decide) ?_
                                                    refine lv_imul hx hb dX6_fits_201 ?_
                                                    refine tp_i (pk_mul ((21 * tx) + k) 21) ?_
                                                    refine lv_iload hx hb dX6_fits_202 (lv_at hl 8 rfl) ?_
                                                    refine lv_iadd hx hb dX6_fits_204 ?_
                                                    refine tp_i (nI_add (((21 * tx) + k) * 21) l9) ?_
                                                    refine la_n (f := ga) hx hb hK hP 0 1 rfl rfl (j := (((21 * tx) + k) * 21) + l9) rfl (by omega) (by decide) dX6_fits_205 ?_
                                                    refine lv_lstore (lv' := [(9, .long (ga ((((21 * tx) + k) * 21) + l9))), (0, .ref o), (1, .int (nI sq)), (2, .int (iI day)), (3, .int (nI th)), (4, .int (nI d)), (5, .int (nI ux)), (6, .int (nI tx)), (7, .int (nI k)), (8, .int (nI l9))]) hx hb dX6_fits_206 hl (by decide) rfl (fun ls hl => ?_)
                                                    refine lv_lload hx hb dX6_fits_208 (lv_at hl 0 rfl) ?_
                                                    refine lv_lconst (v := 0) hx hb dX6_fits_210 (by decide) ?_
                                                    refine W.lcmp hx hb dX6_fits_211 ?_
                                                    refine lv_if_ne (tgt := 218) hx hb dX6_fits_212 (by decide) (fun c212 => ?_) (fun c212 => ?_)
                                                    · refine lv_iload hx hb dX6_fits_218 (lv_at hl 7 rfl) ?_
                                                      refine lv_iload hx hb dX6_fits_220 (lv_at hl 6 rfl) ?_
                                                      refine bn_ne (a := tx) (b := ux) (tgt := 232) hx hb rfl rfl (by omega) (by omega) dX6_fits_222 (by decide) (fun c222 => ?_) (fun c222 => ?_)
                                                      · refine lv_iconst (v := 1) hx hb dX6_fits_232 (by decide) ?_
                                                        refine lv_istore (lv' := [(11, .int 1), (9, .long (ga ((((21 * tx) + k) * 21) + l9))), (0, .ref o), (1, .int (nI sq)), (2, .int (iI day)), (3, .int (nI th)), (4, .int (nI d)), (5, .int (nI ux)), (6, .int (nI tx)), (7, .int (nI k)), (8, .int (nI l9))]) hx hb dX6_fits_233 hl (by decide) rfl (fun ls hl => ?_)
                                                        refine lv_aload_n hx hb dX6_fits_235 rfl (lv_at hl 2 rfl) ?_
                                                        refine va_get (D := D) (ci := 6) (v := .ref o15) (C := RX6) (T := TX6) (N := 24) hx hb hts in_X6 hown hK (hR hS) 0 rfl rfl 23 (by decide) hf_53 (fun _ h9 => h9) rfl dX6_fits_236 ?_
                                                        refine lv_bipush (v := 21) hx hb dX6_fits_239 (by decide) ?_
                                                        refine lv_iload hx hb dX6_fits_241 (lv_at hl 7 rfl) ?_
                                                        refine lv_imul hx hb dX6_fits_243 ?_
                                                        refine tp_i (pk_mul 21 ux) ?_
                                                        refine lv_iload hx hb dX6_fits_244 (lv_at hl 0 rfl) ?_
                                                        refine lv_iadd hx hb dX6_fits_246 ?_
                                                        refine tp_i (nI_add (21 * ux) 1) ?_
                                                        refine lv_bipush (v := 21) hx hb dX6_fits_247 (by decide) ?_
                                                        refine lv_imul hx hb dX6_fits_249 ?_
                                                        refine tp_i (pk_mul ((21 * ux) + 1) 21) ?_
                                                        refine lv_aload_n hx hb dX6_fits_250 rfl (lv_at hl 2 rfl) ?_
                                                        refine lv_iload hx hb dX6_fits_251 (lv_at hl 7 rfl) ?_
                                                        refine cV_i (As := [.int (nI ux)]) (rest := [.int (nI (((21 * ux) + 1) * 21)), .ref o15]) (cr := [(o, .inr (6, [.int (nI n), .ref o1, .ref o2, .ref o3, .ref o4, .int (nI dy), .ref o5, .ref o6, .int (nI ch), .int (nI lw), .int (nI tz), .ref o7, .int (nI at9), .int (nI va9), .int (nI ss), .ref o8, .ref o9, .int (bI im), .ref o10, .ref o11, .ref o12, .ref o13, .ref o14, .ref o15])), (o1, aI cs 4 (tx_nf kd))]) (cw1 := []) ⟨hx, hb, hml, hown, hts⟩ (c_X6_counts l D cs _ o o1 o2 o3 o4 o5 o6 o7 o8 o9 o10 o11 o12 o13 o14 o15 n dy ch lw tz at9 va9 ss im kd ux (by first | assumption | omega) (by omega) (fun _ => by omega) (by first | assumption | omega)) (cwV 1 hts gX6_fits_X6_counts rfl rfl rfl (by decide +kernel) ⟨Nat.le_of_ble_eq_true rfl, Nat.le_of_ble_eq_true rfl⟩) hK hP hD hS hA (((hR hS).app hP).sub [0, 1] rfl) (dt_of hN [0, 1] (by decide) rfl) [] rfl 0 rfl rfl rfl hl.1 rfl (Nat.le_of_ble_eq_true rfl) dX6_fits_253 ⟨Nat.le_of_ble_eq_true rfl, Nat.le_of_ble_eq_true rfl⟩ (fun _ => rfl) (fun _ => rfl) (fun r_13 u9 H locs hw_14 hP hD hS => ?_)
                                                        have hP : va_P D vwCl [(o14, aL cs 1764 ga), (o15, aL cs 1764 gb)] H := hP
                                                        have hD : va_D A [(o14, aL cs 1764 ga), (o15, aL cs 1764 gb)] := hD
                                                        subst r_13
                                                        refine bb_eq (b := tx_tx n kd ux) (tgt := 269) hx hb rfl dX6_fits_256 (by decide) (fun c256 => ?_) (fun c256 => ?_)
                                                        · refine lv_iload hx hb dX6_fits_269 (lv_at hl 10 rfl) ?_
                                                          refine lv_iadd hx hb dX6_fits_271 ?_
                                                          refine tp_i (nI_add (((21 * ux) + 1) * 21) l9) ?_
                                                          refine lv_dup2_11 hx hb dX6_fits_272 rfl rfl ?_
                                                          refine la_n (f := gb) hx hb hK hP 1 1 rfl rfl (j := (((21 * ux) + 1) * 21) + l9) rfl (by omega) (by decide) dX6_fits_273 ?_
                                                          refine lv_lload hx hb dX6_fits_274 (lv_at hl 1 rfl) ?_
                                                          refine lv_ladd hx hb dX6_fits_276 ?_
                                                          refine ls_n (f := gb) hx hb hK hP hD hS 1 1 rfl rfl (j := (((21 * ux) + 1) * 21) + l9) rfl (by omega) (by decide) dX6_fits_277 (fun H locs hP hD hS => ?_)
                                                          have hP : va_P D vwCl [(o14, aL cs 1764 ga), (o15, aL cs 1764 (vp_updL gb ((((21 * ux) + 1) * 21) + l9) ((gb ((((21 * ux) + 1) * 21) + l9)) + (ga ((((21 * tx) + k) * 21) + l9)))))] H := hP
                                                          have hD : va_D A [(o14, aL cs 1764 ga), (o15, aL cs 1764 (vp_updL gb ((((21 * ux) + 1) * 21) + l9) ((gb ((((21 * ux) + 1) * 21) + l9)) + (ga ((((21 * tx) + k) * 21) + l9)))))] := hD
                                                          refine lv_iinc (v := nI (l9 + 1)) (lv' := [(8, .int (nI (l9 + 1))), (11, .int 1), (9, .long (ga ((((21 * tx) + k) * 21) + l9))), (0, .ref o), (1, .int (nI sq)), (2, .int (iI day)), (3, .int (nI th)), (4, .int (nI d)), (5, .int (nI ux)), (6, .int (nI tx)), (7, .int (nI k))]) hx hb dX6_fits_278 hl (k := 10) rfl (inc_n l9 1) (by decide) rfl (fun ls hl => ?_)
                                                          refine lv_goto (tgt := 180) hx hb dX6_fits_281 (by decide) ?_
                                                          exact ih180 (l9 + 1) (vp_updL gb ((((21 * ux) + 1) * 21) + l9) ((gb ((((21 * ux) + 1) * 21) + l9)) + (ga ((((21 * tx) + k) * 21) + l9)))) (by first | assumption | omega) (fun L hL => tx_E3_s (by omega) hP9 (by rw [tx_go_e (by omega) (by omega), if_neg c222, if_neg (by rw [c256]; decide)]) (hE3 L hL)) (tx_ZZ_v hZ3 (by omega) (by omega) (by omega) (by omega) (by omega)) (by omega) _ _ hP hD hS ls (lv_sub hl [3, 4, 5, 6, 7, 8, 9, 10, 0] rfl)
                                                        · refine lv_iload hx hb dX6_fits_259 (lv_at hl 10 rfl) ?_
                                                          refine lv_iload hx hb dX6_fits_261 (lv_at hl 0 rfl) ?_
                                                          refine va_mmax hx hb (hml.trans hl.1.symm) hown (hts (.methodLink RX6 140 Lib.Math.max.name) (by decide +kernel)) (hts (.static Lib.Math.max.name) (by decide +kernel)) (hts (.initialized "java/lang/Math") (by decide +kernel)) (hts (.code Lib.Math.max.name Lib.Math.max.code 2 (some .int)) (by decide +kernel)) (Nat.le_of_ble_eq_true rfl) (Nat.le_of_ble_eq_true rfl) (Nat.le_of_ble_eq_true rfl) (Nat.le_of_ble_eq_true rfl) dX6_fits_263 ?_
                                                          refine tp_i (max_n (a := l9) (b := 1) rfl rfl (by omega) (by decide)) ?_
                                                          refine lv_goto (tgt := 271) hx hb dX6_fits_266 (by decide) ?_
                                                          refine lv_iadd hx hb dX6_fits_271 ?_
                                                          refine tp_i (nI_add (((21 * ux) + 1) * 21) (max l9 1)) ?_
                                                          refine lv_dup2_11 hx hb dX6_fits_272 rfl rfl ?_
                                                          refine la_n (f := gb) hx hb hK hP 1 1 rfl rfl (j := (((21 * ux) + 1) * 21) + (max l9 1)) rfl (by omega) (by decide) dX6_fits_273 ?_
                                                          refine lv_lload hx hb dX6_fits_274 (lv_at hl 1 rfl) ?_
                                                          refine lv_ladd hx hb dX6_fits_276 ?_
                                                          refine ls_n (f := gb) hx hb hK hP hD hS 1 1 rfl rfl (j := (((21 * ux) + 1) * 21) + (max l9 1)) rfl (by omega) (by decide) dX6_fits_277 (fun H locs hP hD hS => ?_)
                                                          have hP : va_P D vwCl [(o14, aL cs 1764 ga), (o15, aL cs 1764 (vp_updL gb ((((21 * ux) + 1) * 21) + (max l9 1)) ((gb ((((21 * ux) + 1) * 21) + (max l9 1))) + (ga ((((21 * tx) + k) * 21) + l9)))))] H := hP
                                                          have hD : va_D A [(o14, aL cs 1764 ga), (o15, aL cs 1764 (vp_updL gb ((((21 * ux) + 1) * 21) + (max l9 1)) ((gb ((((21 * ux) + 1) * 21) + (max l9 1))) + (ga ((((21 * tx) + k) * 21) + l9)))))] := hD
                                                          refine lv_iinc (v := nI (l9 + 1)) (lv' := [(8, .int (nI (l9 + 1))), (11, .int 1), (9, .long (ga ((((21 * tx) + k) * 21) + l9))), (0, .ref o), (1, .int (nI sq)), (2, .int (iI day)), (3, .int (nI th)), (4, .int (nI d)), (5, .int (nI ux)), (6, .int (nI tx)), (7, .int (nI k))]) hx hb dX6_fits_278 hl (k := 10) rfl (inc_n l9 1) (by decide) rfl (fun ls hl => ?_)
                                                          refine lv_goto (tgt := 180) hx hb dX6_fits_281 (by decide) ?_
                                                          exact ih180 (l9 + 1) (vp_updL gb ((((21 * ux) + 1) * 21) + (max l9 1)) ((gb ((((21 * ux) + 1) * 21) + (max l9 1))) + (ga ((((21 * tx) + k) * 21) + l9)))) (by first | assumption | omega) (fun L hL => tx_E3_s (by omega) hP9 (by rw [tx_go_e (by omega) (by omega), if_neg c222, if_pos c256]) (hE3 L hL)) (tx_ZZ_v hZ3 (by omega) (by omega) (by omega) (by omega) (by omega)) (by omega) _ _ hP hD hS ls (lv_sub hl [3, 4, 5, 6, 7, 8, 9, 10, 0] rfl)
                                                      · refine lv_iload hx hb dX6_fits_225 (lv_at hl 8 rfl) ?_
                                                        refine lv_iconst (v := 1) hx hb dX6_fits_227 (by decide) ?_
                                                        refine lv_iadd hx hb dX6_fits_228 ?_
                                                        refine tp_i (nI_add k 1) ?_
                                                        refine lv_goto (tgt := 233) hx hb dX6_fits_229 (by decide) ?_
                                                        refine lv_istore (lv' := [(11, .int (nI (k + 1))), (9, .long (ga ((((21 * tx) + k) * 21) + l9))), (0, .ref o), (1, .int (nI sq)), (2, .int (iI day)), (3, .int (nI th)), (4, .int (nI d)), (5, .int (nI ux)), (6, .int (nI tx)), (7, .int (nI k)), (8, .int (nI l9))]) hx hb dX6_fits_233 hl (by decide) rfl (fun ls hl => ?_)
                                                        refine lv_aload_n hx hb dX6_fits_235 rfl (lv_at hl 2 rfl) ?_
                                                        refine va_get (D := D) (ci := 6) (v := .ref o15) (C := RX6) (T := TX6) (N := 24) hx hb hts in_X6 hown hK (hR hS) 0 rfl rfl 23 (by decide) hf_53 (fun _ h9 => h9) rfl dX6_fits_236 ?_
                                                        refine lv_bipush (v := 21) hx hb dX6_fits_239 (by decide) ?_
                                                        refine lv_iload hx hb dX6_fits_241 (lv_at hl 7 rfl) ?_
                                                        refine lv_imul hx hb dX6_fits_243 ?_
                                                        refine tp_i (pk_mul 21 ux) ?_
                                                        refine lv_iload hx hb dX6_fits_244 (lv_at hl 0 rfl) ?_
                                                        refine lv_iadd hx hb dX6_fits_246 ?_
                                                        refine tp_i (nI_add (21 * ux) (k + 1)) ?_
                                                        refine lv_bipush (v := 21) hx hb dX6_fits_247 (by decide) ?_
                                                        refine lv_imul hx hb dX6_fits_249 ?_
                                                        refine tp_i (pk_mul ((21 * ux) + (k + 1)) 21) ?_
                                                        refine lv_aload_n hx hb dX6_fits_250 rfl (lv_at hl 2 rfl) ?_
                                                        refine lv_iload hx hb dX6_fits_251 (lv_at hl 7 rfl) ?_
                                                        refine cV_i (As := [.int (nI ux)]) (rest := [.int (nI (((21 * ux) + (k + 1)) * 21)), .ref o15]) (cr := [(o, .inr (6, [.int (nI n), .ref o1, .ref o2, .ref o3, .ref o4, .int (nI dy), .ref o5, .ref o6, .int (nI ch), .int (nI lw), .int (nI tz), .ref o7, .int (nI at9), .int (nI va9), .int (nI ss), .ref o8, .ref o9, .int (bI im), .ref o10, .ref o11, .ref o12, .ref o13, .ref o14, .ref o15])), (o1, aI cs 4 (tx_nf kd))]) (cw1 := []) ⟨hx, hb, hml, hown, hts⟩ (c_X6_counts l D cs _ o o1 o2 o3 o4 o5 o6 o7 o8 o9 o10 o11 o12 o13 o14 o15 n dy ch lw tz at9 va9 ss im kd ux (by first | assumption | omega) (by omega) (fun _ => by omega) (by first | assumption | omega)) (cwV 1 hts gX6_fits_X6_counts rfl rfl rfl (by decide +kernel) ⟨Nat.le_of_ble_eq_true rfl, Nat.le_of_ble_eq_true rfl⟩) hK hP hD hS hA (((hR hS).app hP).sub [0, 1] rfl) (dt_of hN [0, 1] (by decide) rfl) [] rfl 0 rfl rfl rfl hl.1 rfl (Nat.le_of_ble_eq_true rfl) dX6_fits_253 ⟨Nat.le_of_ble_eq_true rfl, Nat.le_of_ble_eq_true rfl⟩ (fun _ => rfl) (fun _ => rfl) (fun r_15 u9 H locs hw_16 hP hD hS => ?_)
                                                        have hP : va_P D vwCl [(o14, aL cs 1764 ga), (o15, aL cs 1764 gb)] H := hP
                                                        have hD : va_D A [(o14, aL cs 1764 ga), (o15, aL cs 1764 gb)] := hD
                                                        subst r_15
                                                        refine bb_eq (b := tx_tx n kd ux) (tgt := 269) hx hb rfl dX6_fits_256 (by decide) (fun c256 => ?_) (fun c256 => ?_)
                                                        · refine lv_iload hx hb dX6_fits_269 (lv_at hl 10 rfl) ?_
                                                          refine lv_iadd hx hb dX6_fits_271 ?_
                                                          refine tp_i (nI_add (((21 * ux) + (k + 1)) * 21) l9) ?_
                                                          refine lv_dup2_11 hx hb dX6_fits_272 rfl rfl ?_
                                                          refine la_n (f := gb) hx hb hK hP 1 1 rfl rfl (j := (((21 * ux) + (k + 1)) * 21) + l9) rfl (by omega) (by decide) dX6_fits_273 ?_
                                                          refine lv_lload hx hb dX6_fits_274 (lv_at hl 1 rfl) ?_
                                                          refine lv_ladd hx hb dX6_fits_276 ?_
                                                          refine ls_n (f := gb) hx hb hK hP hD hS 1 1 rfl rfl (j := (((21 * ux) + (k + 1)) * 21) + l9) rfl (by omega) (by decide) dX6_fits_277 (fun H locs hP hD hS => ?_)
                                                          have hP : va_P D vwCl [(o14, aL cs 1764 ga), (o15, aL cs 1764 (vp_updL gb ((((21 * ux) + (k + 1)) * 21) + l9) ((gb ((((21 * ux) + (k + 1)) * 21) + l9)) + (ga ((((21 * tx) + k) * 21) + l9)))))] H := hP
                                                          have hD : va_D A [(o14, aL cs 1764 ga), (o15, aL cs 1764 (vp_updL gb ((((21 * ux) + (k + 1)) * 21) + l9) ((gb ((((21 * ux) + (k + 1)) * 21) + l9)) + (ga ((((21 * tx) + k) * 21) + l9)))))] := hD
                                                          refine lv_iinc (v := nI (l9 + 1)) (lv' := [(8, .int (nI (l9 + 1))), (11, .int (nI (k + 1))), (9, .long (ga ((((21 * tx) + k) * 21) + l9))), (0, .ref o), (1, .int (nI sq)), (2, .int (iI day)), (3, .int (nI th)), (4, .int (nI d)), (5, .int (nI ux)), (6, .int (nI tx)), (7, .int (nI k))]) hx hb dX6_fits_278 hl (k := 10) rfl (inc_n l9 1) (by decide) rfl (fun ls hl => ?_)
                                                          refine lv_goto (tgt := 180) hx hb dX6_fits_281 (by decide) ?_
                                                          exact ih180 (l9 + 1) (vp_updL gb ((((21 * ux) + (k + 1)) * 21) + l9) ((gb ((((21 * ux) + (k + 1)) * 21) + l9)) + (ga ((((21 * tx) + k) * 21) + l9)))) (by first | assumption | omega) (fun L hL => tx_E3_s (by omega) hP9 (by rw [tx_go_e (by omega) (by omega), if_pos c222, if_neg (by rw [c256]; decide)]) (hE3 L hL)) (tx_ZZ_v hZ3 (by omega) (by omega) (by omega) (by omega) (by omega)) (by omega) _ _ hP hD hS ls (lv_sub hl [3, 4, 5, 6, 7, 8, 9, 10, 0] rfl)
                                                        · refine lv_iload hx hb dX6_fits_259 (lv_at hl 10 rfl) ?_
                                                          refine lv_iload hx hb dX6_fits_261 (lv_at hl 0 rfl) ?_
                                                          refine va_mmax hx hb (hml.trans hl.1.symm) hown (hts (.methodLink RX6 140 Lib.Math.max.name) (by decide +kernel)) (hts (.static Lib.Math.max.name) (by decide +kernel)) (hts (.initialized "java/lang/Math") (by decide +kernel)) (hts (.code Lib.Math.max.name Lib.Math.max.code 2 (some .int)) (by decide +kernel)) (Nat.le_of_ble_eq_true rfl) (Nat.le_of_ble_eq_true rfl) (Nat.le_of_ble_eq_true rfl) (Nat.le_of_ble_eq_true rfl) dX6_fits_263 ?_
                                                          refine tp_i (max_n (a := l9) (b := k + 1) rfl rfl (by omega) (by omega)) ?_
                                                          refine lv_goto (tgt := 271) hx hb dX6_fits_266 (by decide) ?_
                                                          refine lv_iadd hx hb dX6_fits_271 ?_
                                                          refine tp_i (nI_add (((21 * ux) + (k + 1)) * 21) (max l9 (k + 1))) ?_
                                                          refine lv_dup2_11 hx hb dX6_fits_272 rfl rfl ?_
                                                          refine la_n (f := gb) hx hb hK hP 1 1 rfl rfl (j := (((21 * ux) + (k + 1)) * 21) + (max l9 (k + 1))) rfl (by omega) (by decide) dX6_fits_273 ?_
                                                          refine lv_lload hx hb dX6_fits_274 (lv_at hl 1 rfl) ?_
                                                          refine lv_ladd hx hb dX6_fits_276 ?_
                                                          refine ls_n (f := gb) hx hb hK hP hD hS 1 1 rfl rfl (j := (((21 * ux) + (k + 1)) * 21) + (max l9 (k + 1))) rfl (by omega) (by decide) dX6_fits_277 (fun H locs hP hD hS => ?_)
                                                          have hP : va_P D vwCl [(o14, aL cs 1764 ga), (o15, aL cs 1764 (vp_updL gb ((((21 * ux) + (k + 1)) * 21) + (max l9 (k + 1))) ((gb ((((21 * ux) + (k + 1)) * 21) + (max l9 (k + 1)))) + (ga ((((21 * tx) + k) * 21) + l9)))))] H := hP
                                                          have hD : va_D A [(o14, aL cs 1764 ga), (o15, aL cs 1764 (vp_updL gb ((((21 * ux) + (k + 1)) * 21) + (max l9 (k + 1))) ((gb ((((21 * ux) + (k + 1)) * 21) + (max l9 (k + 1)))) + (ga ((((21 * tx) + k) * 21) + l9)))))] := hD
                                                          refine lv_iinc (v := nI (l9 + 1)) (lv' := [(8, .int (nI (l9 + 1))), (11, .int (nI (k + 1))), (9, .long (ga ((((21 * tx) + k) * 21) + l9))), (0, .ref o), (1, .int (nI sq)), (2, .int (iI day)), (3, .int (nI th)), (4, .int (nI d)), (5, .int (nI ux)), (6, .int (nI tx)), (7, .int (nI k))]) hx hb dX6_fits_278 hl (k := 10) rfl (inc_n l9 1) (by decide) rfl (fun ls hl => ?_)
                                                          refine lv_goto (tgt := 180) hx hb dX6_fits_281 (by decide) ?_
                                                          exact ih180 (l9 + 1) (vp_updL gb ((((21 * ux) + (k + 1)) * 21) + (max l9 (k + 1))) ((gb ((((21 * ux) + (k + 1)) * 21) + (max l9 (k + 1)))) + (ga ((((21 * tx) + k) * 21) + l9)))) (by first | assumption | omega) (fun L hL => tx_E3_s (by omega) hP9 (by rw [tx_go_e (by omega) (by omega), if_pos c222, if_pos c256]) (hE3 L hL)) (tx_ZZ_v hZ3 (by omega) (by omega) (by omega) (by omega) (by omega)) (by omega) _ _ hP hD hS ls (lv_sub hl [3, 4, 5, 6, 7, 8, 9, 10, 0] rfl)
                                                    · refine lv_goto (tgt := 278) hx hb dX6_fits_215 (by decide) ?_
                                                      refine lv_iinc (v := nI (l9 + 1)) (lv' := [(8, .int (nI (l9 + 1))), (9, .long (ga ((((21 * tx) + k) * 21) + l9))), (0, .ref o), (1, .int (nI sq)), (2, .int (iI day)), (3, .int (nI th)), (4, .int (nI d)), (5, .int (nI ux)), (6, .int (nI tx)), (7, .int (nI k))]) hx hb dX6_fits_278 hl (k := 9) rfl (inc_n l9 1) (by decide) rfl (fun ls hl => ?_)
                                                      refine lv_goto (tgt := 180) hx hb dX6_fits_281 (by decide) ?_
                                                      exact ih180 (l9 + 1) gb (by first | assumption | omega) (fun L hL => tx_E3_0 (tx_lc1 c212) (hE3 L hL)) hZ3 (by omega) _ _ hP hD hS ls (lv_sub hl [2, 3, 4, 5, 6, 7, 8, 9, 0] rfl)
                                              exact loop180 _ 0 gb (by first | assumption | omega) hE3 hZ3 (Nat.lt_succ_self _) _ _ hP hD hS ls (lv_sub hl [1, 2, 3, 4, 5, 6, 7, 8, 0] rfl)
                                        exact loop170 _ 1 gb (by first | assumption | omega) (by first | assumption | omega) (fun L hL => by rw [hE3 L hL, show min ((21 * tx + 1) * 21) 1764 = (21 * tx + 1) * 21 by omega]) hZ3 (Nat.lt_succ_self _) _ _ hP hD hS ls (lv_sub hl [1, 2, 3, 4, 5, 6, 7, 0] rfl)
                                  exact loop158 _ 0 gb (by first | assumption | omega) (fun L hL => tx_E3_z (i := 0) (by omega) (by omega) hZ (fun v z1 z2 z3 => by omega) (by rw [hE2 L hL, tx_sl, Int64.add_zero])) hZ2 (Nat.lt_succ_self _) _ _ hP hD hS ls (lv_sub hl [1, 2, 3, 4, 5, 6, 0] rfl)
                                · refine lv_aload_n hx hb dX6_fits_118 rfl (lv_at hl 0 rfl) ?_
                                  refine va_get (D := D) (ci := 6) (v := .ref o15) (C := RX6) (T := TX6) (N := 24) hx hb hts in_X6 hown hK (hR hS) 0 rfl rfl 23 (by decide) hf_53 (fun _ h9 => h9) rfl dX6_fits_119 ?_
                                  refine lv_bipush (v := 21) hx hb dX6_fits_122 (by decide) ?_
                                  refine lv_iload hx hb dX6_fits_124 (lv_at hl 5 rfl) ?_
                                  refine lv_imul hx hb dX6_fits_126 ?_
                                  refine tp_i (pk_mul 21 ux) ?_
                                  refine lv_iconst (v := 1) hx hb dX6_fits_127 (by decide) ?_
                                  refine lv_iadd hx hb dX6_fits_128 ?_
                                  refine tp_i (nI_add (21 * ux) 1) ?_
                                  refine lv_bipush (v := 21) hx hb dX6_fits_129 (by decide) ?_
                                  refine lv_imul hx hb dX6_fits_131 ?_
                                  refine tp_i (pk_mul ((21 * ux) + 1) 21) ?_
                                  refine lv_aload_n hx hb dX6_fits_132 rfl (lv_at hl 0 rfl) ?_
                                  refine lv_iload hx hb dX6_fits_133 (lv_at hl 5 rfl) ?_
                                  refine cV_i (As := [.int (nI ux)]) (rest := [.int (nI (((21 * ux) + 1) * 21)), .ref o15]) (cr := [(o, .inr (6, [.int (nI n), .ref o1, .ref o2, .ref o3, .ref o4, .int (nI dy), .ref o5, .ref o6, .int (nI ch), .int (nI lw), .int (nI tz), .ref o7, .int (nI at9), .int (nI va9), .int (nI ss), .ref o8, .ref o9, .int (bI im), .ref o10, .ref o11, .ref o12, .ref o13, .ref o14, .ref o15])), (o1, aI cs 4 (tx_nf kd))]) (cw1 := []) ⟨hx, hb, hml, hown, hts⟩ (c_X6_counts l D cs _ o o1 o2 o3 o4 o5 o6 o7 o8 o9 o10 o11 o12 o13 o14 o15 n dy ch lw tz at9 va9 ss im kd ux (by first | assumption | omega) (by omega) (fun _ => by omega) (by first | assumption | omega)) (cwV 1 hts gX6_fits_X6_counts rfl rfl rfl (by decide +kernel) ⟨Nat.le_of_ble_eq_true rfl, Nat.le_of_ble_eq_true rfl⟩) hK hP hD hS hA (((hR hS).app hP).sub [0, 1] rfl) (dt_of hN [0, 1] (by decide) rfl) [] rfl 0 rfl rfl rfl hl.1 rfl (Nat.le_of_ble_eq_true rfl) dX6_fits_135 ⟨Nat.le_of_ble_eq_true rfl, Nat.le_of_ble_eq_true rfl⟩ (fun _ => rfl) (fun _ => rfl) (fun r_17 u9 H locs hw_18 hP hD hS => ?_)
                                  have hP : va_P D vwCl [(o14, aL cs 1764 ga), (o15, aL cs 1764 gb)] H := hP
                                  have hD : va_D A [(o14, aL cs 1764 ga), (o15, aL cs 1764 gb)] := hD
                                  subst r_17
                                  refine bb_eq (b := tx_tx n kd ux) (tgt := 145) hx hb rfl dX6_fits_138 (by decide) (fun c138 => ?_) (fun c138 => ?_)
                                  · refine lv_iconst (v := 0) hx hb dX6_fits_145 (by decide) ?_
                                    refine lv_iadd hx hb dX6_fits_146 ?_
                                    refine tp_i (nI_add (((21 * ux) + 1) * 21) 0) ?_
                                    refine lv_dup2_11 hx hb dX6_fits_147 rfl rfl ?_
                                    refine la_n (f := gb) hx hb hK hP 1 1 rfl rfl (j := (((21 * ux) + 1) * 21) + 0) rfl (by omega) (by decide) dX6_fits_148 ?_
                                    refine lv_lconst (v := 1) hx hb dX6_fits_149 (by decide) ?_
                                    refine lv_ladd hx hb dX6_fits_150 ?_
                                    refine ls_n (f := gb) hx hb hK hP hD hS 1 1 rfl rfl (j := (((21 * ux) + 1) * 21) + 0) rfl (by omega) (by decide) dX6_fits_151 (fun H locs hP hD hS => ?_)
                                    have hP : va_P D vwCl [(o14, aL cs 1764 ga), (o15, aL cs 1764 (vp_updL gb ((((21 * ux) + 1) * 21) + 0) ((gb ((((21 * ux) + 1) * 21) + 0)) + 1)))] H := hP
                                    have hD : va_D A [(o14, aL cs 1764 ga), (o15, aL cs 1764 (vp_updL gb ((((21 * ux) + 1) * 21) + 0) ((gb ((((21 * ux) + 1) * 21) + 0)) + 1)))] := hD
                                    refine lv_goto (tgt := 296) hx hb dX6_fits_152 (by decide) ?_
                                    refine lv_iinc (v := nI (ux + 1)) (lv' := [(5, .int (nI (ux + 1))), (0, .ref o), (1, .int (nI sq)), (2, .int (iI day)), (3, .int (nI th)), (4, .int (nI d))]) hx hb dX6_fits_296 hl (k := 5) rfl (inc_n ux 1) (by decide) rfl (fun ls hl => ?_)
                                    refine lv_goto (tgt := 65) hx hb dX6_fits_299 (by decide) ?_
                                    exact ih65 (ux + 1) (vp_updL gb ((((21 * ux) + 1) * 21) + 0) ((gb ((((21 * ux) + 1) * 21) + 0)) + 1)) (by first | assumption | omega) (fun L hL => by rw [tx_EE_u (by omega), hE2 L hL]; exact tx_BS_1 (by omega) hP9 (by rw [c138]; rfl)) (tx_ZZ_u hZ2 (by omega)) (by omega) _ _ hP hD hS ls (lv_sub hl [1, 2, 3, 4, 5, 0] rfl)
                                  · refine lv_iconst (v := 1) hx hb dX6_fits_141 (by decide) ?_
                                    refine lv_goto (tgt := 146) hx hb dX6_fits_142 (by decide) ?_
                                    refine lv_iadd hx hb dX6_fits_146 ?_
                                    refine tp_i (nI_add (((21 * ux) + 1) * 21) 1) ?_
                                    refine lv_dup2_11 hx hb dX6_fits_147 rfl rfl ?_
                                    refine la_n (f := gb) hx hb hK hP 1 1 rfl rfl (j := (((21 * ux) + 1) * 21) + 1) rfl (by omega) (by decide) dX6_fits_148 ?_
                                    refine lv_lconst (v := 1) hx hb dX6_fits_149 (by decide) ?_
                                    refine lv_ladd hx hb dX6_fits_150 ?_
                                    refine ls_n (f := gb) hx hb hK hP hD hS 1 1 rfl rfl (j := (((21 * ux) + 1) * 21) + 1) rfl (by omega) (by decide) dX6_fits_151 (fun H locs hP hD hS => ?_)
                                    have hP : va_P D vwCl [(o14, aL cs 1764 ga), (o15, aL cs 1764 (vp_updL gb ((((21 * ux) + 1) * 21) + 1) ((gb ((((21 * ux) + 1) * 21) + 1)) + 1)))] H := hP
                                    have hD : va_D A [(o14, aL cs 1764 ga), (o15, aL cs 1764 (vp_updL gb ((((21 * ux) + 1) * 21) + 1) ((gb ((((21 * ux) + 1) * 21) + 1)) + 1)))] := hD
                                    refine lv_goto (tgt := 296) hx hb dX6_fits_152 (by decide) ?_
                                    refine lv_iinc (v := nI (ux + 1)) (lv' := [(5, .int (nI (ux + 1))), (0, .ref o), (1, .int (nI sq)), (2, .int (iI day)), (3, .int (nI th)), (4, .int (nI d))]) hx hb dX6_fits_296 hl (k := 5) rfl (inc_n ux 1) (by decide) rfl (fun ls hl => ?_)
                                    refine lv_goto (tgt := 65) hx hb dX6_fits_299 (by decide) ?_
                                    exact ih65 (ux + 1) (vp_updL gb ((((21 * ux) + 1) * 21) + 1) ((gb ((((21 * ux) + 1) * 21) + 1)) + 1)) (by first | assumption | omega) (fun L hL => by rw [tx_EE_u (by omega), hE2 L hL]; exact tx_BS_1 (by omega) hP9 (by rw [c138]; rfl)) (tx_ZZ_u hZ2 (by omega)) (by omega) _ _ hP hD hS ls (lv_sub hl [1, 2, 3, 4, 5, 0] rfl)
                              · refine lv_iload hx hb dX6_fits_104 (lv_at hl 5 rfl) ?_
                                refine lv_iload_n hx hb dX6_fits_106 rfl (lv_at hl 3 rfl) ?_
                                refine bn_eq (a := ux) (b := th) (tgt := 113) hx hb rfl rfl (by omega) (by omega) dX6_fits_107 (by decide) (fun c107 => ?_) (fun c107 => ?_)
                                · have hP9 : tx_Pf sn day th d ux = true := decide_eq_true ⟨by omega, fun z => by omega⟩
                                  refine lv_iload hx hb dX6_fits_113 (lv_at hl 4 rfl) ?_
                                  refine bz_ne (a := d) (tgt := 155) hx hb rfl (by omega) dX6_fits_115 (by decide) (fun c115 => ?_) (fun c115 => ?_)
                                  · refine lv_iconst (v := 0) hx hb dX6_fits_155 (by decide) ?_
                                    refine lv_istore (lv' := [(6, .int 0), (0, .ref o), (1, .int (nI sq)), (2, .int (iI day)), (3, .int (nI th)), (4, .int (nI d)), (5, .int (nI ux))]) hx hb dX6_fits_156 hl (by decide) rfl (fun ls hl => ?_)
                                    have loop158 : ∀ (n9 : Nat) (tx : Nat) (gb : Nat → Int64) (ht : tx ≤ n) (hE3 : ∀ L, L ≤ 20 → tx_EE n ss (tx_Pf sn day th) (tx_tx n kd) L (d + 1) gb = tx_BS n ss (tx_Pf sn day th) (tx_tx n kd) L d ga ux + tx_sl (tx_F9 n ss (tx_Pf sn day th) (tx_tx n kd) L d ux ga) (min ((21 * tx + 1) * 21) 1764)) (hZ3 : tx_ZZ n (d + 1) gb), n - tx < n9 → ∀ (H : Heap) (locs : List Loc), va_P D vwCl [(o14, aL cs 1764 ga), (o15, aL cs 1764 gb)] H → va_D A [(o14, aL cs 1764 ga), (o15, aL cs 1764 gb)] → va_S A s.heap H locs → ∀ (ls : Array Slot), lv_has ls 12 [(0, .ref o), (1, .int (nI sq)), (2, .int (iI day)), (3, .int (nI th)), (4, .int (nI d)), (5, .int (nI ux)), (6, .int (nI tx))] → W p l e (headSpec wsX6_fits ({ frames := 1, cells := 0, slots := 0, locals := 21 } : Room)).room s m ([.ref o, .int (nI sq), .int (iI day), .int (nI th)] : List Value).toArray below meth c H locs 0 0 (MQ below (va_Ql (fun (r : Int64) (u : (Nat → Int64) × (Nat → Int64)) => match u with | (now2, nxt2) => r = lN (tx_pay n ss (tx_Pf sn day th) (tx_tx n kd) sq)) (QB D (fun (u : (Nat → Int64) × (Nat → Int64)) => match u with | (now2, nxt2) => [(o14, aL cs 1764 now2), (o15, aL cs 1764 nxt2)]) A) A) ([.ref o, .int (nI sq), .int (iI day), .int (nI th)] : List Value).toArray s 0 0 A) (F0 m 158 ls []) := by
                                      intro n9
                                      induction n9 with
                                      | zero => intros; omega
                                      | succ n9 ih158 =>
                                        intro tx gb ht hE3 hZ3 hmu H locs hP hD hS ls hl
                                        refine lv_iload hx hb dX6_fits_158 (lv_at hl 6 rfl) ?_
                                        refine lv_aload_n hx hb dX6_fits_160 rfl (lv_at hl 0 rfl) ?_
                                        refine va_get (D := D) (ci := 6) (v := .int (nI n)) (C := RX6) (T := TX6) (N := 24) hx hb hts in_X6 hown hK (hR hS) 0 rfl rfl 0 (by decide) hf_71 (fun _ h9 => h9) rfl dX6_fits_161 ?_
                                        refine bn_ge (a := tx) (b := n) (tgt := 296) hx hb rfl rfl (by omega) (by omega) dX6_fits_164 (by decide) (fun c164 => ?_) (fun c164 => ?_)
                                        · refine lv_iinc (v := nI (ux + 1)) (lv' := [(5, .int (nI (ux + 1))), (0, .ref o), (1, .int (nI sq)), (2, .int (iI day)), (3, .int (nI th)), (4, .int (nI d)), (6, .int (nI tx))]) hx hb dX6_fits_296 hl (k := 5) rfl (inc_n ux 1) (by decide) rfl (fun ls hl => ?_)
                                          refine lv_goto (tgt := 65) hx hb dX6_fits_299 (by decide) ?_
                                          exact ih65 (ux + 1) gb (by first | assumption | omega) (fun L hL => by rw [tx_BS_s (by omega)]; exact tx_E3_z (by omega) (by omega) hZ (fun v z1 z2 z3 => by omega) (hE3 L hL)) hZ3 (by omega) _ _ hP hD hS ls (lv_sub hl [1, 2, 3, 4, 5, 0] rfl)
                                        · refine lv_iconst (v := 1) hx hb dX6_fits_167 (by decide) ?_
                                          refine lv_istore (lv' := [(7, .int 1), (0, .ref o), (1, .int (nI sq)), (2, .int (iI day)), (3, .int (nI th)), (4, .int (nI d)), (5, .int (nI ux)), (6, .int (nI tx))]) hx hb dX6_fits_168 hl (by decide) rfl (fun ls hl => ?_)
                                          have loop170 : ∀ (n9 : Nat) (k : Nat) (gb : Nat → Int64) (hk1 : 1 ≤ k) (hk2 : k ≤ d + 1) (hE3 : ∀ L, L ≤ 20 → tx_EE n ss (tx_Pf sn day th) (tx_tx n kd) L (d + 1) gb = tx_BS n ss (tx_Pf sn day th) (tx_tx n kd) L d ga ux + tx_sl (tx_F9 n ss (tx_Pf sn day th) (tx_tx n kd) L d ux ga) ((21 * tx + k) * 21)) (hZ3 : tx_ZZ n (d + 1) gb), d + 1 - k < n9 → ∀ (H : Heap) (locs : List Loc), va_P D vwCl [(o14, aL cs 1764 ga), (o15, aL cs 1764 gb)] H → va_D A [(o14, aL cs 1764 ga), (o15, aL cs 1764 gb)] → va_S A s.heap H locs → ∀ (ls : Array Slot), lv_has ls 12 [(0, .ref o), (1, .int (nI sq)), (2, .int (iI day)), (3, .int (nI th)), (4, .int (nI d)), (5, .int (nI ux)), (6, .int (nI tx)), (7, .int (nI k))] → W p l e (headSpec wsX6_fits ({ frames := 1, cells := 0, slots := 0, locals := 21 } : Room)).room s m ([.ref o, .int (nI sq), .int (iI day), .int (nI th)] : List Value).toArray below meth c H locs 0 0 (MQ below (va_Ql (fun (r : Int64) (u : (Nat → Int64) × (Nat → Int64)) => match u with | (now2, nxt2) => r = lN (tx_pay n ss (tx_Pf sn day th) (tx_tx n kd) sq)) (QB D (fun (u : (Nat → Int64) × (Nat → Int64)) => match u with | (now2, nxt2) => [(o14, aL cs 1764 now2), (o15, aL cs 1764 nxt2)]) A) A) ([.ref o, .int (nI sq), .int (iI day), .int (nI th)] : List Value).toArray s 0 0 A) (F0 m 170 ls []) := by
                                            intro n9
                                            induction n9 with
                                            | zero => intros; omega
                                            | succ n9 ih170 =>
                                              intro k gb hk1 hk2 hE3 hZ3 hmu H locs hP hD hS ls hl
                                              refine lv_iload hx hb dX6_fits_170 (lv_at hl 7 rfl) ?_
                                              refine lv_iload hx hb dX6_fits_172 (lv_at hl 4 rfl) ?_
                                              refine bn_gt (a := k) (b := d) (tgt := 290) hx hb rfl rfl (by omega) (by omega) dX6_fits_174 (by decide) (fun c174 => ?_) (fun c174 => ?_)
                                              · refine lv_iinc (v := nI (tx + 1)) (lv' := [(6, .int (nI (tx + 1))), (0, .ref o), (1, .int (nI sq)), (2, .int (iI day)), (3, .int (nI th)), (4, .int (nI d)), (5, .int (nI ux)), (7, .int (nI k))]) hx hb dX6_fits_290 hl (k := 6) rfl (inc_n tx 1) (by decide) rfl (fun ls hl => ?_)
                                                refine lv_goto (tgt := 158) hx hb dX6_fits_293 (by decide) ?_
                                                exact ih158 (tx + 1) gb (by first | assumption | omega) (fun L hL => tx_E3_z (i := (21 * tx + k) * 21) (by omega) (by omega) hZ (fun v z1 z2 z3 => by omega) (hE3 L hL)) hZ3 (by omega) _ _ hP hD hS ls (lv_sub hl [1, 2, 3, 4, 5, 6, 0] rfl)
                                              · refine lv_iconst (v := 0) hx hb dX6_fits_177 (by decide) ?_
                                                refine lv_istore (lv' := [(8, .int 0), (0, .ref o), (1, .int (nI sq)), (2, .int (iI day)), (3, .int (nI th)), (4, .int (nI d)), (5, .int (nI ux)), (6, .int (nI tx)), (7, .int (nI k))]) hx hb dX6_fits_178 hl (by decide) rfl (fun ls hl => ?_)
                                                have loop180 : ∀ (n9 : Nat) (l9 : Nat) (gb : Nat → Int64) (hl1 : l9 ≤ d + 1) (hE3 : ∀ L, L ≤ 20 → tx_EE n ss (tx_Pf sn day th) (tx_tx n kd) L (d + 1) gb = tx_BS n ss (tx_Pf sn day th) (tx_tx n kd) L d ga ux + tx_sl (tx_F9 n ss (tx_Pf sn day th) (tx_tx n kd) L d ux ga) ((21 * tx + k) * 21 + l9)) (hZ3 : tx_ZZ n (d + 1) gb), d + 1 - l9 < n9 → ∀ (H : Heap) (locs : List Loc), va_P D vwCl [(o14, aL cs 1764 ga), (o15, aL cs 1764 gb)] H → va_D A [(o14, aL cs 1764 ga), (o15, aL cs 1764 gb)] → va_S A s.heap H locs → ∀ (ls : Array Slot), lv_has ls 12 [(0, .ref o), (1, .int (nI sq)), (2, .int (iI day)), (3, .int (nI th)), (4, .int (nI d)), (5, .int (nI ux)), (6, .int (nI tx)), (7, .int (nI k)), (8, .int (nI l9))] → W p l e (headSpec wsX6_fits ({ frames := 1, cells := 0, slots := 0, locals := 21 } : Room)).room s m ([.ref o, .int (nI sq), .int (iI day), .int (nI th)] : List Value).toArray below meth c H locs 0 0 (MQ below (va_Ql (fun (r : Int64) (u : (Nat → Int64) × (Nat → Int64)) => match u with | (now2, nxt2) => r = lN (tx_pay n ss (tx_Pf sn day th) (tx_tx n kd) sq)) (QB D (fun (u : (Nat → Int64) × (Nat → Int64)) => match u with | (now2, nxt2) => [(o14, aL cs 1764 now2), (o15, aL cs 1764 nxt2)]) A) A) ([.ref o, .int (nI sq), .int (iI day), .int (nI th)] : List Value).toArray s 0 0 A) (F0 m 180 ls []) := by
                                                  intro n9
                                                  induction n9 with
                                                  | zero => intros; omega
                                                  | succ n9 ih180 =>
                                                    intro l9 gb hl1 hE3 hZ3 hmu H locs hP hD hS ls hl
                                                    refine lv_iload hx hb dX6_fits_180 (lv_at hl 8 rfl) ?_
                                                    refine lv_iload hx hb dX6_fits_182 (lv_at hl 4 rfl) ?_
                                                    refine bn_gt (a := l9) (b := d) (tgt := 284) hx hb rfl rfl (by omega) (by omega) dX6_fits_184 (by decide) (fun c184 => ?_) (fun c184 => ?_)
                                                    · refine lv_iinc (v := nI (k + 1)) (lv' := [(7, .int (nI (k + 1))), (0, .ref o), (1, .int (nI sq)), (2, .int (iI day)), (3, .int (nI th)), (4, .int (nI d)), (5, .int (nI ux)), (6, .int (nI tx)), (8, .int (nI l9))]) hx hb dX6_fits_284 hl (k := 7) rfl (inc_n k 1) (by decide) rfl (fun ls hl => ?_)
                                                      refine lv_goto (tgt := 170) hx hb dX6_fits_287 (by decide) ?_
                                                      exact ih170 (k + 1) gb (by first | assumption | omega) (by first | assumption | omega) (fun L hL => tx_E3_z (i := (21 * tx + k) * 21 + l9) (by omega) (by omega) hZ (fun v z1 z2 z3 => by omega) (hE3 L hL)) hZ3 (by omega) _ _ hP hD hS ls (lv_sub hl [1, 2, 3, 4, 5, 6, 7, 0] rfl)
                                                    · refine lv_aload_n hx hb dX6_fits_187 rfl (lv_at hl 0 rfl) ?_
                                                      refine va_get (D := D) (ci := 6) (v := .ref o14) (C := RX6) (T := TX6) (N := 24) hx hb hts in_X6 hown hK (hR hS) 0 rfl rfl 22 (by decide) hf_49 (fun _ h9 => h9) rfl dX6_fits_188 ?_
                                                      refine lv_bipush (v := 21) hx hb dX6_fits_191 (by decide) ?_
                                                      refine lv_iload hx hb dX6_fits_193 (lv_at hl 6 rfl) ?_
                                                      refine lv_imul hx hb dX6_fits_195 ?_
                                                      refine tp_i (pk_mul 21 tx) ?_
                                                      refine lv_iload hx hb dX6_fits_196 (lv_at hl 7 rfl) ?_
                                                      refine lv_iadd hx hb dX6_fits_198 ?_
                                                      refine tp_i (nI_add (21 * tx) k) ?_
                                                      refine lv_bipush (v := 21) hx hb dX6_fits_199 (by decide) ?_
                                                      refine lv_imul hx hb dX6_fits_201 ?_
                                                      refine tp_i (pk_mul ((21 * tx) + k) 21) ?_
                                                      refine lv_iload hx hb dX6_fits_202 (lv_at hl 8 rfl) ?_
                                                      refine lv_iadd hx hb dX6_fits_204 ?_
                                                      refine tp_i (nI_add (((21 * tx) + k) * 21) l9) ?_
                                                      refine la_n (f := ga) hx hb hK hP 0 1 rfl rfl (j := (((21 * tx) + k) * 21) + l9) rfl (by omega) (by decide) dX6_fits_205 ?_
                                                      refine lv_lstore (lv' := [(9, .long (ga ((((21 * tx) + k) * 21) + l9))), (0, .ref o), (1, .int (nI sq)), (2, .int (iI day)), (3, .int (nI th)), (4, .int (nI d)), (5, .int (nI ux)), (6, .int (nI tx)), (7, .int (nI k)), (8, .int (nI l9))]) hx hb dX6_fits_206 hl (by decide) rfl (fun ls hl => ?_)
                                                      refine lv_lload hx hb dX6_fits_208 (lv_at hl 0 rfl) ?_
                                                      refine lv_lconst (v := 0) hx hb dX6_fits_210 (by decide) ?_
                                                      refine W.lcmp hx hb dX6_fits_211 ?_
                                                      refine lv_if_ne (tgt := 218) hx hb dX6_fits_212 (by decide) (fun c212 => ?_) (fun c212 => ?_)
                                                      · refine lv_iload hx hb dX6_fits_218 (lv_at hl 7 rfl) ?_
                                                        refine lv_iload hx hb dX6_fits_220 (lv_at hl 6 rfl) ?_
                                                        refine bn_ne (a := tx) (b := ux) (tgt := 232) hx hb rfl rfl (by omega) (by omega) dX6_fits_222 (by decide) (fun c222 => ?_) (fun c222 => ?_)
                                                        · refine lv_iconst (v := 1) hx hb dX6_fits_232 (by decide) ?_
                                                          refine lv_istore (lv' := [(11, .int 1), (9, .long (ga ((((21 * tx) + k) * 21) + l9))), (0, .ref o), (1, .int (nI sq)), (2, .int (iI day)), (3, .int (nI th)), (4, .int (nI d)), (5, .int (nI ux)), (6, .int (nI tx)), (7, .int (nI k)), (8, .int (nI l9))]) hx hb dX6_fits_233 hl (by decide) rfl (fun ls hl => ?_)
                                                          refine lv_aload_n hx hb dX6_fits_235 rfl (lv_at hl 2 rfl) ?_
                                                          refine va_get (D := D) (ci := 6) (v := .ref o15) (C := RX6) (T := TX6) (N := 24) hx hb hts in_X6 hown hK (hR hS) 0 rfl rfl 23 (by decide) hf_53 (fun _ h9 => h9) rfl dX6_fits_236 ?_
                                                          refine lv_bipush (v := 21) hx hb dX6_fits_239 (by decide) ?_
                                                          refine lv_iload hx hb dX6_fits_241 (lv_at hl 7 rfl) ?_
                                                          refine lv_imul hx hb dX6_fits_243 ?_
                                                          refine tp_i (pk_mul 21 ux) ?_
                                                          refine lv_iload hx hb dX6_fits_244 (lv_at hl 0 rfl) ?_
                                                          refine lv_iadd hx hb dX6_fits_246 ?_
                                                          refine tp_i (nI_add (21 * ux) 1) ?_
                                                          refine lv_bipush (v := 21) hx hb dX6_fits_247 (by decide) ?_
                                                          refine lv_imul hx hb dX6_fits_249 ?_
                                                          refine tp_i (pk_mul ((21 * ux) + 1) 21) ?_
                                                          refine lv_aload_n hx hb dX6_fits_250 rfl (lv_at hl 2 rfl) ?_
                                                          refine lv_iload hx hb dX6_fits_251 (lv_at hl 7 rfl) ?_
                                                          refine cV_i (As := [.int (nI ux)]) (rest := [.int (nI (((21 * ux) + 1) * 21)), .ref o15]) (cr := [(o, .inr (6, [.int (nI n), .ref o1, .ref o2, .ref o3, .ref o4, .int (nI dy), .ref o5, .ref o6, .int (nI ch), .int (nI lw), .int (nI tz), .ref o7, .int (nI at9), .int (nI va9), .int (nI ss), .ref o8, .ref o9, .int (bI im), .ref o10, .ref o11, .ref o12, .ref o13, .ref o14, .ref o15])), (o1, aI cs 4 (tx_nf kd))]) (cw1 := []) ⟨hx, hb, hml, hown, hts⟩ (c_X6_counts l D cs _ o o1 o2 o3 o4 o5 o6 o7 o8 o9 o10 o11 o12 o13 o14 o15 n dy ch lw tz at9 va9 ss im kd ux (by first | assumption | omega) (by omega) (fun _ => by omega) (by first | assumption | omega)) (cwV 1 hts gX6_fits_X6_counts rfl rfl rfl (by decide +kernel) ⟨Nat.le_of_ble_eq_true rfl, Nat.le_of_ble_eq_true rfl⟩) hK hP hD hS hA (((hR hS).app hP).sub [0, 1] rfl) (dt_of hN [0, 1] (by decide) rfl) [] rfl 0 rfl rfl rfl hl.1 rfl (Nat.le_of_ble_eq_true rfl) dX6_fits_253 ⟨Nat.le_of_ble_eq_true rfl, Nat.le_of_ble_eq_true rfl⟩ (fun _ => rfl) (fun _ => rfl) (fun r_19 u9 H locs hw_20 hP hD hS => ?_)
                                                          have hP : va_P D vwCl [(o14, aL cs 1764 ga), (o15, aL cs 1764 gb)] H := hP
                                                          have hD : va_D A [(o14, aL cs 1764 ga), (o15, aL cs 1764 gb)] := hD
                                                          subst r_19
                                                          refine bb_eq (b := tx_tx n kd ux) (tgt := 269) hx hb rfl dX6_fits_256 (by decide) (fun c256 => ?_) (fun c256 => ?_)
                                                          · refine lv_iload hx hb dX6_fits_269 (lv_at hl 10 rfl) ?_
                                                            refine lv_iadd hx hb dX6_fits_271 ?_
                                                            refine tp_i (nI_add (((21 * ux) + 1) * 21) l9) ?_
                                                            refine lv_dup2_11 hx hb dX6_fits_272 rfl rfl ?_
                                                            refine la_n (f := gb) hx hb hK hP 1 1 rfl rfl (j := (((21 * ux) + 1) * 21) + l9) rfl (by omega) (by decide) dX6_fits_273 ?_
                                                            refine lv_lload hx hb dX6_fits_274 (lv_at hl 1 rfl) ?_
                                                            refine lv_ladd hx hb dX6_fits_276 ?_
                                                            refine ls_n (f := gb) hx hb hK hP hD hS 1 1 rfl rfl (j := (((21 * ux) + 1) * 21) + l9) rfl (by omega) (by decide) dX6_fits_277 (fun H locs hP hD hS => ?_)
                                                            have hP : va_P D vwCl [(o14, aL cs 1764 ga), (o15, aL cs 1764 (vp_updL gb ((((21 * ux) + 1) * 21) + l9) ((gb ((((21 * ux) + 1) * 21) + l9)) + (ga ((((21 * tx) + k) * 21) + l9)))))] H := hP
                                                            have hD : va_D A [(o14, aL cs 1764 ga), (o15, aL cs 1764 (vp_updL gb ((((21 * ux) + 1) * 21) + l9) ((gb ((((21 * ux) + 1) * 21) + l9)) + (ga ((((21 * tx) + k) * 21) + l9)))))] := hD
                                                            refine lv_iinc (v := nI (l9 + 1)) (lv' := [(8, .int (nI (l9 + 1))), (11, .int 1), (9, .long (ga ((((21 * tx) + k) * 21) + l9))), (0, .ref o), (1, .int (nI sq)), (2, .int (iI day)), (3, .int (nI th)), (4, .int (nI d)), (5, .int (nI ux)), (6, .int (nI tx)), (7, .int (nI k))]) hx hb dX6_fits_278 hl (k := 10) rfl (inc_n l9 1) (by decide) rfl (fun ls hl => ?_)
                                                            refine lv_goto (tgt := 180) hx hb dX6_fits_281 (by decide) ?_
                                                            exact ih180 (l9 + 1) (vp_updL gb ((((21 * ux) + 1) * 21) + l9) ((gb ((((21 * ux) + 1) * 21) + l9)) + (ga ((((21 * tx) + k) * 21) + l9)))) (by first | assumption | omega) (fun L hL => tx_E3_s (by omega) hP9 (by rw [tx_go_e (by omega) (by omega), if_neg c222, if_neg (by rw [c256]; decide)]) (hE3 L hL)) (tx_ZZ_v hZ3 (by omega) (by omega) (by omega) (by omega) (by omega)) (by omega) _ _ hP hD hS ls (lv_sub hl [3, 4, 5, 6, 7, 8, 9, 10, 0] rfl)
                                                          · refine lv_iload hx hb dX6_fits_259 (lv_at hl 10 rfl) ?_
                                                            refine lv_iload hx hb dX6_fits_261 (lv_at hl 0 rfl) ?_
                                                            refine va_mmax hx hb (hml.trans hl.1.symm) hown (hts (.methodLink RX6 140 Lib.Math.max.name) (by decide +kernel)) (hts (.static Lib.Math.max.name) (by decide +kernel)) (hts (.initialized "java/lang/Math") (by decide +kernel)) (hts (.code Lib.Math.max.name Lib.Math.max.code 2 (some .int)) (by decide +kernel)) (Nat.le_of_ble_eq_true rfl) (Nat.le_of_ble_eq_true rfl) (Nat.le_of_ble_eq_true rfl) (Nat.le_of_ble_eq_true rfl) dX6_fits_263 ?_
                                                            refine tp_i (max_n (a := l9) (b := 1) rfl rfl (by omega) (by decide)) ?_
                                                            refine lv_goto (tgt := 271) hx hb dX6_fits_266 (by decide) ?_
                                                            refine lv_iadd hx hb dX6_fits_271 ?_
                                                            refine tp_i (nI_add (((21 * ux) + 1) * 21) (max l9 1)) ?_
                                                            refine lv_dup2_11 hx hb dX6_fits_272 rfl rfl ?_
                                                            refine la_n (f := gb) hx hb hK hP 1 1 rfl rfl (j := (((21 * ux) + 1) * 21) + (max l9 1)) rfl (by omega) (by decide) dX6_fits_273 ?_
                                                            refine lv_lload hx hb dX6_fits_274 (lv_at hl 1 rfl) ?_
                                                            refine lv_ladd hx hb dX6_fits_276 ?_
                                                            refine ls_n (f := gb) hx hb hK hP hD hS 1 1 rfl rfl (j := (((21 * ux) + 1) * 21) + (max l9 1)) rfl (by omega) (by decide) dX6_fits_277 (fun H locs hP hD hS => ?_)
                                                            have hP : va_P D vwCl [(o14, aL cs 1764 ga), (o15, aL cs 1764 (vp_updL gb ((((21 * ux) + 1) * 21) + (max l9 1)) ((gb ((((21 * ux) + 1) * 21) + (max l9 1))) + (ga ((((21 * tx) + k) * 21) + l9)))))] H := hP
                                                            have hD : va_D A [(o14, aL cs 1764 ga), (o15, aL cs 1764 (vp_updL gb ((((21 * ux) + 1) * 21) + (max l9 1)) ((gb ((((21 * ux) + 1) * 21) + (max l9 1))) + (ga ((((21 * tx) + k) * 21) + l9)))))] := hD
                                                            refine lv_iinc (v := nI (l9 + 1)) (lv' := [(8, .int (nI (l9 + 1))), (11, .int 1), (9, .long (ga ((((21 * tx) + k) * 21) + l9))), (0, .ref o), (1, .int (nI sq)), (2, .int (iI day)), (3, .int (nI th)), (4, .int (nI d)), (5, .int (nI ux)), (6, .int (nI tx)), (7, .int (nI k))]) hx hb dX6_fits_278 hl (k := 10) rfl (inc_n l9 1) (by decide) rfl (fun ls hl => ?_)
                                                            refine lv_goto (tgt := 180) hx hb dX6_fits_281 (by decide) ?_
                                                            exact ih180 (l9 + 1) (vp_updL gb ((((21 * ux) + 1) * 21) + (max l9 1)) ((gb ((((21 * ux) + 1) * 21) + (max l9 1))) + (ga ((((21 * tx) + k) * 21) + l9)))) (by first | assumption | omega) (fun L hL => tx_E3_s (by omega) hP9 (by rw [tx_go_e (by omega) (by omega), if_neg c222, if_pos c256]) (hE3 L hL)) (tx_ZZ_v hZ3 (by omega) (by omega) (by omega) (by omega) (by omega)) (by omega) _ _ hP hD hS ls (lv_sub hl [3, 4, 5, 6, 7, 8, 9, 10, 0] rfl)
                                                        · refine lv_iload hx hb dX6_fits_225 (lv_at hl 8 rfl) ?_
                                                          refine lv_iconst (v := 1) hx hb dX6_fits_227 (by decide) ?_
                                                          refine lv_iadd hx hb dX6_fits_228 ?_
                                                          refine tp_i (nI_add k 1) ?_
                                                          refine lv_goto (tgt := 233) hx hb dX6_fits_229 (by decide) ?_
                                                          refine lv_istore (lv' := [(11, .int (nI (k + 1))), (9, .long (ga ((((21 * tx) + k) * 21) + l9))), (0, .ref o), (1, .int (nI sq)), (2, .int (iI day)), (3, .int (nI th)), (4, .int (nI d)), (5, .int (nI ux)), (6, .int (nI tx)), (7, .int (nI k)), (8, .int (nI l9))]) hx hb dX6_fits_233 hl (by decide) rfl (fun ls hl => ?_)
                                                          refine lv_aload_n hx hb dX6_fits_235 rfl (lv_at hl 2 rfl) ?_
                                                          refine va_get (D := D) (ci := 6) (v := .ref o15) (C := RX6) (T := TX6) (N := 24) hx hb hts in_X6 hown hK (hR hS) 0 rfl rfl 23 (by decide) hf_53 (fun _ h9 => h9) rfl dX6_fits_236 ?_
                                                          refine lv_bipush (v := 21) hx hb dX6_fits_239 (by decide) ?_
                                                          refine lv_iload hx hb dX6_fits_241 (lv_at hl 7 rfl) ?_
                                                          refine lv_imul hx hb dX6_fits_243 ?_
                                                          refine tp_i (pk_mul 21 ux) ?_
                                                          refine lv_iload hx hb dX6_fits_244 (lv_at hl 0 rfl) ?_
                                                          refine lv_iadd hx hb dX6_fits_246 ?_
                                                          refine tp_i (nI_add (21 * ux) (k + 1)) ?_
                                                          refine lv_bipush (v := 21) hx hb dX6_fits_247 (by decide) ?_
                                                          refine lv_imul hx hb dX6_fits_249 ?_
                                                          refine tp_i (pk_mul ((21 * ux) + (k + 1)) 21) ?_
                                                          refine lv_aload_n hx hb dX6_fits_250 rfl (lv_at hl 2 rfl) ?_
                                                          refine lv_iload hx hb dX6_fits_251 (lv_at hl 7 rfl) ?_
                                                          refine cV_i (As := [.int (nI ux)]) (rest := [.int (nI (((21 * ux) + (k + 1)) * 21)), .ref o15]) (cr := [(o, .inr (6, [.int (nI n), .ref o1, .ref o2, .ref o3, .ref o4, .int (nI dy), .ref o5, .ref o6, .int (nI ch), .int (nI lw), .int (nI tz), .ref o7, .int (nI at9), .int (nI va9), .int (nI ss), .ref o8, .ref o9, .int (bI im), .ref o10, .ref o11, .ref o12, .ref o13, .ref o14, .ref o15])), (o1, aI cs 4 (tx_nf kd))]) (cw1 := []) ⟨hx, hb, hml, hown, hts⟩ (c_X6_counts l D cs _ o o1 o2 o3 o4 o5 o6 o7 o8 o9 o10 o11 o12 o13 o14 o15 n dy ch lw tz at9 va9 ss im kd ux (by first | assumption | omega) (by omega) (fun _ => by omega) (by first | assumption | omega)) (cwV 1 hts gX6_fits_X6_counts rfl rfl rfl (by decide +kernel) ⟨Nat.le_of_ble_eq_true rfl, Nat.le_of_ble_eq_true rfl⟩) hK hP hD hS hA (((hR hS).app hP).sub [0, 1] rfl) (dt_of hN [0, 1] (by decide) rfl) [] rfl 0 rfl rfl rfl hl.1 rfl (Nat.le_of_ble_eq_true rfl) dX6_fits_253 ⟨Nat.le_of_ble_eq_true rfl, Nat.le_of_ble_eq_true rfl⟩ (fun _ => rfl) (fun _ => rfl) (fun r_21 u9 H locs hw_22 hP hD hS => ?_)
                                                          have hP : va_P D vwCl [(o14, aL cs 1764 ga), (o15, aL cs 1764 gb)] H := hP
                                                          have hD : va_D A [(o14, aL cs 1764 ga), (o15, aL cs 1764 gb)] := hD
                                                          subst r_21
                                                          refine bb_eq (b := tx_tx n kd ux) (tgt := 269) hx hb rfl dX6_fits_256 (by decide) (fun c256 => ?_) (fun c256 => ?_)
                                                          · refine lv_iload hx hb dX6_fits_269 (lv_at hl 10 rfl) ?_
                                                            refine lv_iadd hx hb dX6_fits_271 ?_
                                                            refine tp_i (nI_add (((21 * ux) + (k + 1)) * 21) l9) ?_
                                                            refine lv_dup2_11 hx hb dX6_fits_272 rfl rfl ?_
                                                            refine la_n (f := gb) hx hb hK hP 1 1 rfl rfl (j := (((21 * ux) + (k + 1)) * 21) + l9) rfl (by omega) (by decide) dX6_fits_273 ?_
                                                            refine lv_lload hx hb dX6_fits_274 (lv_at hl 1 rfl) ?_
                                                            refine lv_ladd hx hb dX6_fits_276 ?_
                                                            refine ls_n (f := gb) hx hb hK hP hD hS 1 1 rfl rfl (j := (((21 * ux) + (k + 1)) * 21) + l9) rfl (by omega) (by decide) dX6_fits_277 (fun H locs hP hD hS => ?_)
                                                            have hP : va_P D vwCl [(o14, aL cs 1764 ga), (o15, aL cs 1764 (vp_updL gb ((((21 * ux) + (k + 1)) * 21) + l9) ((gb ((((21 * ux) + (k + 1)) * 21) + l9)) + (ga ((((21 * tx) + k) * 21) + l9)))))] H := hP
                                                            have hD : va_D A [(o14, aL cs 1764 ga), (o15, aL cs 1764 (vp_updL gb ((((21 * ux) + (k + 1)) * 21) + l9) ((gb ((((21 * ux) + (k + 1)) * 21) + l9)) + (ga ((((21 * tx) + k) * 21) + l9)))))] := hD
                                                            refine lv_iinc (v := nI (l9 + 1)) (lv' := [(8, .int (nI (l9 + 1))), (11, .int (nI (k + 1))), (9, .long (ga ((((21 * tx) + k) * 21) + l9))), (0, .ref o), (1, .int (nI sq)), (2, .int (iI day)), (3, .int (nI th)), (4, .int (nI d)), (5, .int (nI ux)), (6, .int (nI tx)), (7, .int (nI k))]) hx hb dX6_fits_278 hl (k := 10) rfl (inc_n l9 1) (by decide) rfl (fun ls hl => ?_)
                                                            refine lv_goto (tgt := 180) hx hb dX6_fits_281 (by decide) ?_
                                                            exact ih180 (l9 + 1) (vp_updL gb ((((21 * ux) + (k + 1)) * 21) + l9) ((gb ((((21 * ux) + (k + 1)) * 21) + l9)) + (ga ((((21 * tx) + k) * 21) + l9)))) (by first | assumption | omega) (fun L hL => tx_E3_s (by omega) hP9 (by rw [tx_go_e (by omega) (by omega), if_pos c222, if_neg (by rw [c256]; decide)]) (hE3 L hL)) (tx_ZZ_v hZ3 (by omega) (by omega) (by omega) (by omega) (by omega)) (by omega) _ _ hP hD hS ls (lv_sub hl [3, 4, 5, 6, 7, 8, 9, 10, 0] rfl)
                                                          · refine lv_iload hx hb dX6_fits_259 (lv_at hl 10 rfl) ?_
                                                            refine lv_iload hx hb dX6_fits_261 (lv_at hl 0 rfl) ?_
                                                            refine va_mmax hx hb (hml.trans hl.1.symm) hown (hts (.methodLink RX6 140 Lib.Math.max.name) (by decide +kernel)) (hts (.static Lib.Math.max.name) (by decide +kernel)) (hts (.initialized "java/lang/Math") (by decide +kernel)) (hts (.code Lib.Math.max.name Lib.Math.max.code 2 (some .int)) (by decide +kernel)) (Nat.le_of_ble_eq_true rfl) (Nat.le_of_ble_eq_true rfl) (Nat.le_of_ble_eq_true rfl) (Nat.le_of_ble_eq_true rfl) dX6_fits_263 ?_
                                                            refine tp_i (max_n (a := l9) (b := k + 1) rfl rfl (by omega) (by omega)) ?_
                                                            refine lv_goto (tgt := 271) hx hb dX6_fits_266 (by decide) ?_
                                                            refine lv_iadd hx hb dX6_fits_271 ?_
                                                            refine tp_i (nI_add (((21 * ux) + (k + 1)) * 21) (max l9 (k + 1))) ?_
                                                            refine lv_dup2_11 hx hb dX6_fits_272 rfl rfl ?_
                                                            refine la_n (f := gb) hx hb hK hP 1 1 rfl rfl (j := (((21 * ux) + (k + 1)) * 21) + (max l9 (k + 1))) rfl (by omega) (by decide) dX6_fits_273 ?_
                                                            refine lv_lload hx hb dX6_fits_274 (lv_at hl 1 rfl) ?_
                                                            refine lv_ladd hx hb dX6_fits_276 ?_
                                                            refine ls_n (f := gb) hx hb hK hP hD hS 1 1 rfl rfl (j := (((21 * ux) + (k + 1)) * 21) + (max l9 (k + 1))) rfl (by omega) (by decide) dX6_fits_277 (fun H locs hP hD hS => ?_)
                                                            have hP : va_P D vwCl [(o14, aL cs 1764 ga), (o15, aL cs 1764 (vp_updL gb ((((21 * ux) + (k + 1)) * 21) + (max l9 (k + 1))) ((gb ((((21 * ux) + (k + 1)) * 21) + (max l9 (k + 1)))) + (ga ((((21 * tx) + k) * 21) + l9)))))] H := hP
                                                            have hD : va_D A [(o14, aL cs 1764 ga), (o15, aL cs 1764 (vp_updL gb ((((21 * ux) + (k + 1)) * 21) + (max l9 (k + 1))) ((gb ((((21 * ux) + (k + 1)) * 21) + (max l9 (k + 1)))) + (ga ((((21 * tx) + k) * 21) + l9)))))] := hD
                                                            refine lv_iinc (v := nI (l9 + 1)) (lv' := [(8, .int (nI (l9 + 1))), (11, .int (nI (k + 1))), (9, .long (ga ((((21 * tx) + k) * 21) + l9))), (0, .ref o), (1, .int (nI sq)), (2, .int (iI day)), (3, .int (nI th)), (4, .int (nI d)), (5, .int (nI ux)), (6, .int (nI tx)), (7, .int (nI k))]) hx hb dX6_fits_278 hl (k := 10) rfl (inc_n l9 1) (by decide) rfl (fun ls hl => ?_)
                                                            refine lv_goto (tgt := 180) hx hb dX6_fits_281 (by decide) ?_
                                                            exact ih180 (l9 + 1) (vp_updL gb ((((21 * ux) + (k + 1)) * 21) + (max l9 (k + 1))) ((gb ((((21 * ux) + (k + 1)) * 21) + (max l9 (k + 1)))) + (ga ((((21 * tx) + k) * 21) + l9)))) (by first | assumption | omega) (fun L hL => tx_E3_s (by omega) hP9 (by rw [tx_go_e (by omega) (by omega), if_pos c222, if_pos c256]) (hE3 L hL)) (tx_ZZ_v hZ3 (by omega) (by omega) (by omega) (by omega) (by omega)) (by omega) _ _ hP hD hS ls (lv_sub hl [3, 4, 5, 6, 7, 8, 9, 10, 0] rfl)
                                                      · refine lv_goto (tgt := 278) hx hb dX6_fits_215 (by decide) ?_
                                                        refine lv_iinc (v := nI (l9 + 1)) (lv' := [(8, .int (nI (l9 + 1))), (9, .long (ga ((((21 * tx) + k) * 21) + l9))), (0, .ref o), (1, .int (nI sq)), (2, .int (iI day)), (3, .int (nI th)), (4, .int (nI d)), (5, .int (nI ux)), (6, .int (nI tx)), (7, .int (nI k))]) hx hb dX6_fits_278 hl (k := 9) rfl (inc_n l9 1) (by decide) rfl (fun ls hl => ?_)
                                                        refine lv_goto (tgt := 180) hx hb dX6_fits_281 (by decide) ?_
                                                        exact ih180 (l9 + 1) gb (by first | assumption | omega) (fun L hL => tx_E3_0 (tx_lc1 c212) (hE3 L hL)) hZ3 (by omega) _ _ hP hD hS ls (lv_sub hl [2, 3, 4, 5, 6, 7, 8, 9, 0] rfl)
                                                exact loop180 _ 0 gb (by first | assumption | omega) hE3 hZ3 (Nat.lt_succ_self _) _ _ hP hD hS ls (lv_sub hl [1, 2, 3, 4, 5, 6, 7, 8, 0] rfl)
                                          exact loop170 _ 1 gb (by first | assumption | omega) (by first | assumption | omega) (fun L hL => by rw [hE3 L hL, show min ((21 * tx + 1) * 21) 1764 = (21 * tx + 1) * 21 by omega]) hZ3 (Nat.lt_succ_self _) _ _ hP hD hS ls (lv_sub hl [1, 2, 3, 4, 5, 6, 7, 0] rfl)
                                    exact loop158 _ 0 gb (by first | assumption | omega) (fun L hL => tx_E3_z (i := 0) (by omega) (by omega) hZ (fun v z1 z2 z3 => by omega) (by rw [hE2 L hL, tx_sl, Int64.add_zero])) hZ2 (Nat.lt_succ_self _) _ _ hP hD hS ls (lv_sub hl [1, 2, 3, 4, 5, 6, 0] rfl)
                                  · refine lv_aload_n hx hb dX6_fits_118 rfl (lv_at hl 0 rfl) ?_
                                    refine va_get (D := D) (ci := 6) (v := .ref o15) (C := RX6) (T := TX6) (N := 24) hx hb hts in_X6 hown hK (hR hS) 0 rfl rfl 23 (by decide) hf_53 (fun _ h9 => h9) rfl dX6_fits_119 ?_
                                    refine lv_bipush (v := 21) hx hb dX6_fits_122 (by decide) ?_
                                    refine lv_iload hx hb dX6_fits_124 (lv_at hl 5 rfl) ?_
                                    refine lv_imul hx hb dX6_fits_126 ?_
                                    refine tp_i (pk_mul 21 ux) ?_
                                    refine lv_iconst (v := 1) hx hb dX6_fits_127 (by decide) ?_
                                    refine lv_iadd hx hb dX6_fits_128 ?_
                                    refine tp_i (nI_add (21 * ux) 1) ?_
                                    refine lv_bipush (v := 21) hx hb dX6_fits_129 (by decide) ?_
                                    refine lv_imul hx hb dX6_fits_131 ?_
                                    refine tp_i (pk_mul ((21 * ux) + 1) 21) ?_
                                    refine lv_aload_n hx hb dX6_fits_132 rfl (lv_at hl 0 rfl) ?_
                                    refine lv_iload hx hb dX6_fits_133 (lv_at hl 5 rfl) ?_
                                    refine cV_i (As := [.int (nI ux)]) (rest := [.int (nI (((21 * ux) + 1) * 21)), .ref o15]) (cr := [(o, .inr (6, [.int (nI n), .ref o1, .ref o2, .ref o3, .ref o4, .int (nI dy), .ref o5, .ref o6, .int (nI ch), .int (nI lw), .int (nI tz), .ref o7, .int (nI at9), .int (nI va9), .int (nI ss), .ref o8, .ref o9, .int (bI im), .ref o10, .ref o11, .ref o12, .ref o13, .ref o14, .ref o15])), (o1, aI cs 4 (tx_nf kd))]) (cw1 := []) ⟨hx, hb, hml, hown, hts⟩ (c_X6_counts l D cs _ o o1 o2 o3 o4 o5 o6 o7 o8 o9 o10 o11 o12 o13 o14 o15 n dy ch lw tz at9 va9 ss im kd ux (by first | assumption | omega) (by omega) (fun _ => by omega) (by first | assumption | omega)) (cwV 1 hts gX6_fits_X6_counts rfl rfl rfl (by decide +kernel) ⟨Nat.le_of_ble_eq_true rfl, Nat.le_of_ble_eq_true rfl⟩) hK hP hD hS hA (((hR hS).app hP).sub [0, 1] rfl) (dt_of hN [0, 1] (by decide) rfl) [] rfl 0 rfl rfl rfl hl.1 rfl (Nat.le_of_ble_eq_true rfl) dX6_fits_135 ⟨Nat.le_of_ble_eq_true rfl, Nat.le_of_ble_eq_true rfl⟩ (fun _ => rfl) (fun _ => rfl) (fun r_23 u9 H locs hw_24 hP hD hS => ?_)
                                    have hP : va_P D vwCl [(o14, aL cs 1764 ga), (o15, aL cs 1764 gb)] H := hP
                                    have hD : va_D A [(o14, aL cs 1764 ga), (o15, aL cs 1764 gb)] := hD
                                    subst r_23
                                    refine bb_eq (b := tx_tx n kd ux) (tgt := 145) hx hb rfl dX6_fits_138 (by decide) (fun c138 => ?_) (fun c138 => ?_)
                                    · refine lv_iconst (v := 0) hx hb dX6_fits_145 (by decide) ?_
                                      refine lv_iadd hx hb dX6_fits_146 ?_
                                      refine tp_i (nI_add (((21 * ux) + 1) * 21) 0) ?_
                                      refine lv_dup2_11 hx hb dX6_fits_147 rfl rfl ?_
                                      refine la_n (f := gb) hx hb hK hP 1 1 rfl rfl (j := (((21 * ux) + 1) * 21) + 0) rfl (by omega) (by decide) dX6_fits_148 ?_
                                      refine lv_lconst (v := 1) hx hb dX6_fits_149 (by decide) ?_
                                      refine lv_ladd hx hb dX6_fits_150 ?_
                                      refine ls_n (f := gb) hx hb hK hP hD hS 1 1 rfl rfl (j := (((21 * ux) + 1) * 21) + 0) rfl (by omega) (by decide) dX6_fits_151 (fun H locs hP hD hS => ?_)
                                      have hP : va_P D vwCl [(o14, aL cs 1764 ga), (o15, aL cs 1764 (vp_updL gb ((((21 * ux) + 1) * 21) + 0) ((gb ((((21 * ux) + 1) * 21) + 0)) + 1)))] H := hP
                                      have hD : va_D A [(o14, aL cs 1764 ga), (o15, aL cs 1764 (vp_updL gb ((((21 * ux) + 1) * 21) + 0) ((gb ((((21 * ux) + 1) * 21) + 0)) + 1)))] := hD
                                      refine lv_goto (tgt := 296) hx hb dX6_fits_152 (by decide) ?_
                                      refine lv_iinc (v := nI (ux + 1)) (lv' := [(5, .int (nI (ux + 1))), (0, .ref o), (1, .int (nI sq)), (2, .int (iI day)), (3, .int (nI th)), (4, .int (nI d))]) hx hb dX6_fits_296 hl (k := 5) rfl (inc_n ux 1) (by decide) rfl (fun ls hl => ?_)
                                      refine lv_goto (tgt := 65) hx hb dX6_fits_299 (by decide) ?_
                                      exact ih65 (ux + 1) (vp_updL gb ((((21 * ux) + 1) * 21) + 0) ((gb ((((21 * ux) + 1) * 21) + 0)) + 1)) (by first | assumption | omega) (fun L hL => by rw [tx_EE_u (by omega), hE2 L hL]; exact tx_BS_1 (by omega) hP9 (by rw [c138]; rfl)) (tx_ZZ_u hZ2 (by omega)) (by omega) _ _ hP hD hS ls (lv_sub hl [1, 2, 3, 4, 5, 0] rfl)
                                    · refine lv_iconst (v := 1) hx hb dX6_fits_141 (by decide) ?_
                                      refine lv_goto (tgt := 146) hx hb dX6_fits_142 (by decide) ?_
                                      refine lv_iadd hx hb dX6_fits_146 ?_
                                      refine tp_i (nI_add (((21 * ux) + 1) * 21) 1) ?_
                                      refine lv_dup2_11 hx hb dX6_fits_147 rfl rfl ?_
                                      refine la_n (f := gb) hx hb hK hP 1 1 rfl rfl (j := (((21 * ux) + 1) * 21) + 1) rfl (by omega) (by decide) dX6_fits_148 ?_
                                      refine lv_lconst (v := 1) hx hb dX6_fits_149 (by decide) ?_
                                      refine lv_ladd hx hb dX6_fits_150 ?_
                                      refine ls_n (f := gb) hx hb hK hP hD hS 1 1 rfl rfl (j := (((21 * ux) + 1) * 21) + 1) rfl (by omega) (by decide) dX6_fits_151 (fun H locs hP hD hS => ?_)
                                      have hP : va_P D vwCl [(o14, aL cs 1764 ga), (o15, aL cs 1764 (vp_updL gb ((((21 * ux) + 1) * 21) + 1) ((gb ((((21 * ux) + 1) * 21) + 1)) + 1)))] H := hP
                                      have hD : va_D A [(o14, aL cs 1764 ga), (o15, aL cs 1764 (vp_updL gb ((((21 * ux) + 1) * 21) + 1) ((gb ((((21 * ux) + 1) * 21) + 1)) + 1)))] := hD
                                      refine lv_goto (tgt := 296) hx hb dX6_fits_152 (by decide) ?_
                                      refine lv_iinc (v := nI (ux + 1)) (lv' := [(5, .int (nI (ux + 1))), (0, .ref o), (1, .int (nI sq)), (2, .int (iI day)), (3, .int (nI th)), (4, .int (nI d))]) hx hb dX6_fits_296 hl (k := 5) rfl (inc_n ux 1) (by decide) rfl (fun ls hl => ?_)
                                      refine lv_goto (tgt := 65) hx hb dX6_fits_299 (by decide) ?_
                                      exact ih65 (ux + 1) (vp_updL gb ((((21 * ux) + 1) * 21) + 1) ((gb ((((21 * ux) + 1) * 21) + 1)) + 1)) (by first | assumption | omega) (fun L hL => by rw [tx_EE_u (by omega), hE2 L hL]; exact tx_BS_1 (by omega) hP9 (by rw [c138]; rfl)) (tx_ZZ_u hZ2 (by omega)) (by omega) _ _ hP hD hS ls (lv_sub hl [1, 2, 3, 4, 5, 0] rfl)
                                · refine lv_goto (tgt := 296) hx hb dX6_fits_110 (by decide) ?_
                                  have hP9 : tx_Pf sn day th d ux = false := decide_eq_false (fun z => by have z1 := z.1; have z2 := z.2; omega)
                                  refine lv_iinc (v := nI (ux + 1)) (lv' := [(5, .int (nI (ux + 1))), (0, .ref o), (1, .int (nI sq)), (2, .int (iI day)), (3, .int (nI th)), (4, .int (nI d))]) hx hb dX6_fits_296 hl (k := 5) rfl (inc_n ux 1) (by decide) rfl (fun ls hl => ?_)
                                  refine lv_goto (tgt := 65) hx hb dX6_fits_299 (by decide) ?_
                                  exact ih65 (ux + 1) gb (by first | assumption | omega) (fun L hL => by rw [hE2 L hL, tx_BS_n hP9]) hZ2 (by omega) _ _ hP hD hS ls (lv_sub hl [1, 2, 3, 4, 5, 0] rfl)
                    exact loop65 _ 0 gb (by first | assumption | omega) (fun L hL => by rw [tx_BS_0]; exact tx_EE_z (fun j z => hgb j (by omega))) (fun j z _ => hgb j (by omega)) (Nat.lt_succ_self _) _ _ hP hD hS ls (lv_sub hl [1, 2, 3, 4, 5, 0] rfl)
                  · refine lv_aload_n hx hb dX6_fits_48 rfl (lv_at hl 0 rfl) ?_
                    refine va_get (D := D) (ci := 6) (v := .ref o15) (C := RX6) (T := TX6) (N := 24) hx hb hts in_X6 hown hK (hR hS) 0 rfl rfl 23 (by decide) hf_53 (fun _ h9 => h9) rfl dX6_fits_49 ?_
                    refine lv_iload hx hb dX6_fits_52 (lv_at hl 5 rfl) ?_
                    refine lv_lconst (v := 0) hx hb dX6_fits_54 (by decide) ?_
                    refine ls_n (f := gb) hx hb hK hP hD hS 1 1 rfl rfl (j := i) rfl (by omega) (by decide) dX6_fits_55 (fun H locs hP hD hS => ?_)
                    have hP : va_P D vwCl [(o14, aL cs 1764 ga), (o15, aL cs 1764 (vp_updL gb i 0))] H := hP
                    have hD : va_D A [(o14, aL cs 1764 ga), (o15, aL cs 1764 (vp_updL gb i 0))] := hD
                    refine lv_iinc (v := nI (i + 1)) (lv' := [(5, .int (nI (i + 1))), (0, .ref o), (1, .int (nI sq)), (2, .int (iI day)), (3, .int (nI th)), (4, .int (nI d))]) hx hb dX6_fits_56 hl (k := 5) rfl (inc_n i 1) (by decide) rfl (fun ls hl => ?_)
                    refine lv_goto (tgt := 40) hx hb dX6_fits_59 (by decide) ?_
                    exact ih40 (i + 1) (vp_updL gb i 0) (by first | assumption | omega) (fun j z => by by_cases q : j = i; (rw [q]; exact pk_uLs); (rw [pk_uLn q]; exact hgb j (by omega))) (by omega) _ _ hP hD hS ls (lv_sub hl [1, 2, 3, 4, 5, 0] rfl)
              exact loop40 _ 0 gb (by first | assumption | omega) (fun j z => absurd z (Nat.not_lt_zero j)) (Nat.lt_succ_self _) _ _ hP hD hS ls (lv_sub hl [1, 2, 3, 4, 5, 0] rfl)
        exact loop28 _ 0 ga nxt9 (by first | assumption | omega) (fun z => absurd z (Nat.lt_irrefl 0)) (fun j z _ => hga j (by omega)) (Nat.lt_succ_self _) _ _ hP hD hS ls (lv_sub hl [1, 2, 3, 4, 0] rfl)
      · refine lv_aload_n hx hb dX6_fits_11 rfl (lv_at hl 0 rfl) ?_
        refine va_get (D := D) (ci := 6) (v := .ref o14) (C := RX6) (T := TX6) (N := 24) hx hb hts in_X6 hown hK (hR hS) 0 rfl rfl 22 (by decide) hf_49 (fun _ h9 => h9) rfl dX6_fits_12 ?_
        refine lv_iload hx hb dX6_fits_15 (lv_at hl 4 rfl) ?_
        refine lv_lconst (v := 0) hx hb dX6_fits_17 (by decide) ?_
        refine ls_n (f := ga) hx hb hK hP hD hS 0 1 rfl rfl (j := i) rfl (by omega) (by decide) dX6_fits_18 (fun H locs hP hD hS => ?_)
        have hP : va_P D vwCl [(o14, aL cs 1764 (vp_updL ga i 0)), (o15, aL cs 1764 nxt9)] H := hP
        have hD : va_D A [(o14, aL cs 1764 (vp_updL ga i 0)), (o15, aL cs 1764 nxt9)] := hD
        refine lv_iinc (v := nI (i + 1)) (lv' := [(4, .int (nI (i + 1))), (0, .ref o), (1, .int (nI sq)), (2, .int (iI day)), (3, .int (nI th))]) hx hb dX6_fits_19 hl (k := 4) rfl (inc_n i 1) (by decide) rfl (fun ls hl => ?_)
        refine lv_goto (tgt := 3) hx hb dX6_fits_22 (by decide) ?_
        exact ih3 (i + 1) (vp_updL ga i 0) (by first | assumption | omega) (fun j z => by by_cases q : j = i; (rw [q]; exact pk_uLs); (rw [pk_uLn q]; exact hga j (by omega))) (by omega) _ _ hP hD hS ls (lv_sub hl [1, 2, 3, 4, 0] rfl)
  exact loop3 _ 0 now9 (by first | assumption | omega) (fun j z => absurd z (Nat.not_lt_zero j)) (Nat.lt_succ_self _) _ _ hP hD hS ls (lv_sub hl [1, 2, 3, 4, 0] rfl)
