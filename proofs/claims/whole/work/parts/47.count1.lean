set_option maxHeartbeats 4000000 in
set_option maxRecDepth 100000 in
theorem c_X0_isPossible (l : Launch) (D : va_G) (cs : Nat → ClassId) (sz : Nat) (cq : Nat) (q1 : Nat) (q2 : Nat) (q3 : Nat) (q4 : Nat) (dd : Nat) (nn : Nat) (kn : Nat → Nat) (d : Nat) (t : Nat) (hkn : ∀ e, kn e ≤ 9) (hd : d < 20) (ht : t < 2 ^ 31) : mI (S := Unit) l yX0_isPossible wsX0_isPossible ({ frames := 0, cells := 0, slots := 0, locals := 0 } : Room) D (tyc cs) sz [.ref cq, .int (nI d), .int (nI t)] [(cq, .inr (0, [.ref q1, .ref q2, .ref q3, .ref q4, .int (nI dd), .int (nI nn)])), (q1, aI cs 20 (tx_nf kn))] [] (fun (r : Int32) (u : Unit) => r = bI (tx_Pk kn d t)) (fun _ => []) 0 0 := by
  unfold mI
  refine Met.ofW (cc := cX0_isPossible) (maxL := 3) (ret := (some .boolean)) (by decide) rfl ?_
  intro p e s m args below meth c s₁ B hml hv
  obtain ⟨rfl, hsz, hP, hK, hD0⟩ := hv
  have hx := B.exec
  have hb := B.bytes
  have hr := B.returns
  have hts := atoms_spec (ws := wsX0_isPossible) B.pre
  have hown : s.vm.findClass RX0 = some m.cls := findClass_of_methodNamed B.named
  have hlocks := B.notSynchronized
  subst hsz
  have hR := @en_R _ _ _ [(cq, .inr (0, [.ref q1, .ref q2, .ref q3, .ref q4, .int (nI dd), .int (nI nn)])), (q1, aI cs 20 (tx_nf kn))] [] _ hP hD0
  have hN := adN_of hD0
  have hD := en_D (wr := [(cq, .inr (0, [.ref q1, .ref q2, .ref q3, .ref q4, .int (nI dd), .int (nI nn)])), (q1, aI cs 20 (tx_nf kn))]) (ww := []) (sz := s.heap.size) hD0
  have hP := en_P (wr := [(cq, .inr (0, [.ref q1, .ref q2, .ref q3, .ref q4, .int (nI dd), .int (nI nn)])), (q1, aI cs 20 (tx_nf kn))]) (ww := []) hP
  generalize hAe : va_A [] s.heap.size = A at hD hR ⊢
  have hA : ∀ q : Nat, s.heap.size ≤ q → A q := fun q h => by rw [← hAe]; exact Or.inr h
  have hS : va_S A s.heap s.heap [] := va_S.rf
  have hN : adN [cq, q1] := hN
  have hf_9 := hts (.fieldLink RX0 9 "TaxedByLongest$Counting" "known" "[I") (by decide +kernel)
  have in_X0 : ∀ w ∈ wsX00, w ∈ wsX0_isPossible := by decide +kernel
  have hl := lv_entry ([.ref cq, .int (nI d), .int (nI t)]) (n := 3) (Nat.le_of_ble_eq_true rfl)
  rw [lg_entry_eq]
  generalize (lg_sl ([.ref cq, .int (nI d), .int (nI t)]) ++ List.replicate (3 - (lg_sl ([.ref cq, .int (nI d), .int (nI t)])).length) Slot.unset).toArray = ls at hl ⊢
  have hl : lv_has ls 3 [(0, .ref cq), (1, .int (nI d)), (2, .int (nI t))] := hl
  have hk9 := hkn d
  refine lv_aload_n hx hb dX0_isPossible_0 rfl (lv_at hl 0 rfl) ?_
  refine va_get (D := D) (ci := 0) (v := .ref q1) (C := RX0) (T := TX0) (N := 6) hx hb hts in_X0 hown hK (hR hS) 0 rfl rfl 0 (by decide) hf_9 (fun _ h9 => h9) rfl dX0_isPossible_1 ?_
  refine lv_iload_n hx hb dX0_isPossible_4 rfl (lv_at hl 1 rfl) ?_
  refine ia_n (f := tx_nf kn) hx hb hK (hR hS) 1 0 rfl rfl (j := d) rfl (by omega) (by decide) dX0_isPossible_5 ?_
  refine tp_i (y := nI (kn d)) rfl ?_
  refine lv_bipush (v := 9) hx hb dX0_isPossible_6 (by decide) ?_
  refine bn_eq (a := kn d) (b := 9) (tgt := 21) hx hb rfl rfl (by omega) (by decide) dX0_isPossible_8 (by decide) (fun c8 => ?_) (fun c8 => ?_)
  · refine lv_iconst (v := 1) hx hb dX0_isPossible_21 (by decide) ?_
    refine lv_goto (tgt := 26) hx hb dX0_isPossible_22 (by decide) ?_
    exact rt_z hx hb hr rfl hlocks () (by rw [show tx_Pk kn d t = true from decide_eq_true (by omega)]; rfl) hP hD hS dX0_isPossible_26
  · refine lv_aload_n hx hb dX0_isPossible_11 rfl (lv_at hl 0 rfl) ?_
    refine va_get (D := D) (ci := 0) (v := .ref q1) (C := RX0) (T := TX0) (N := 6) hx hb hts in_X0 hown hK (hR hS) 0 rfl rfl 0 (by decide) hf_9 (fun _ h9 => h9) rfl dX0_isPossible_12 ?_
    refine lv_iload_n hx hb dX0_isPossible_15 rfl (lv_at hl 1 rfl) ?_
    refine ia_n (f := tx_nf kn) hx hb hK (hR hS) 1 0 rfl rfl (j := d) rfl (by omega) (by decide) dX0_isPossible_16 ?_
    refine tp_i (y := nI (kn d)) rfl ?_
    refine lv_iload_n hx hb dX0_isPossible_17 rfl (lv_at hl 2 rfl) ?_
    refine bn_ne (a := kn d) (b := t) (tgt := 25) hx hb rfl rfl (by omega) (by omega) dX0_isPossible_18 (by decide) (fun c18 => ?_) (fun c18 => ?_)
    · refine lv_iconst (v := 0) hx hb dX0_isPossible_25 (by decide) ?_
      exact rt_z hx hb hr rfl hlocks () (by rw [show tx_Pk kn d t = false from decide_eq_false (by omega)]; rfl) hP hD hS dX0_isPossible_26
    · refine lv_iconst (v := 1) hx hb dX0_isPossible_21 (by decide) ?_
      refine lv_goto (tgt := 26) hx hb dX0_isPossible_22 (by decide) ?_
      exact rt_z hx hb hr rfl hlocks () (by rw [show tx_Pk kn d t = true from decide_eq_true (by omega)]; rfl) hP hD hS dX0_isPossible_26
set_option maxHeartbeats 4000000 in
set_option maxRecDepth 100000 in
theorem c_X0_waysOfStretch (l : Launch) (D : va_G) (cs : Nat → ClassId) (sz : Nat) (cq : Nat) (q1 : Nat) (q2 : Nat) (q3 : Nat) (q4 : Nat) (dd : Nat) (nn : Nat) (cc9 : Nat → Bool) (z9 : Nat → Int32) (kn : Nat → Nat) (rt : Nat → Nat) (Mt : Nat → Nat → Int64) (t : Nat) (d : Nat) (lm : Nat) (hnn : nn ≤ 4) (hdd : dd ≤ 20) (hkn : ∀ e, kn e ≤ 9) (hCt : ∀ t, t < nn → z9 t = bI (cc9 t)) (ht : t < nn) (hd : d < dd) (hl9 : lm ≤ 20) (hMt : ∀ e, d < e → e ≤ dd → Mt t e = lN (tx_wR nn dd (tx_Pk kn) cc9 lm e t)) : mL (S := Unit) l yX0_waysOfStretch wsX0_waysOfStretch ({ frames := 1, cells := 0, slots := 0, locals := 22 } : Room) D (tyc cs) sz [.ref cq, .int (nI t), .int (nI d), .int (nI lm)] [(cq, .inr (0, [.ref q1, .ref q2, .ref q3, .ref q4, .int (nI dd), .int (nI nn)])), (q1, aI cs 20 (tx_nf kn)), (q2, aZ cs 4 z9), (q4, aM cs rt), (rt 0, aL cs 21 (Mt 0)), (rt 1, aL cs 21 (Mt 1)), (rt 2, aL cs 21 (Mt 2)), (rt 3, aL cs 21 (Mt 3))] [] (fun (r : Int64) (u : Unit) => r = lN (tx_wS nn dd (tx_Pk kn) cc9 lm d t)) (fun _ => []) 0 0 := by
  unfold mL
  refine Met.ofW (cc := cX0_waysOfStretch) (maxL := 8) (ret := (some .long)) (by decide) rfl ?_
  intro p e s m args below meth c s₁ B hml hv
  obtain ⟨rfl, hsz, hP, hK, hD0⟩ := hv
  have hx := B.exec
  have hb := B.bytes
  have hr := B.returns
  have hts := atoms_spec (ws := wsX0_waysOfStretch) B.pre
  have hown : s.vm.findClass RX0 = some m.cls := findClass_of_methodNamed B.named
  have hlocks := B.notSynchronized
  subst hsz
  have hR := @en_R _ _ _ [(cq, .inr (0, [.ref q1, .ref q2, .ref q3, .ref q4, .int (nI dd), .int (nI nn)])), (q1, aI cs 20 (tx_nf kn)), (q2, aZ cs 4 z9), (q4, aM cs rt), (rt 0, aL cs 21 (Mt 0)), (rt 1, aL cs 21 (Mt 1)), (rt 2, aL cs 21 (Mt 2)), (rt 3, aL cs 21 (Mt 3))] [] _ hP hD0
  have hN := adN_of hD0
  have hD := en_D (wr := [(cq, .inr (0, [.ref q1, .ref q2, .ref q3, .ref q4, .int (nI dd), .int (nI nn)])), (q1, aI cs 20 (tx_nf kn)), (q2, aZ cs 4 z9), (q4, aM cs rt), (rt 0, aL cs 21 (Mt 0)), (rt 1, aL cs 21 (Mt 1)), (rt 2, aL cs 21 (Mt 2)), (rt 3, aL cs 21 (Mt 3))]) (ww := []) (sz := s.heap.size) hD0
  have hP := en_P (wr := [(cq, .inr (0, [.ref q1, .ref q2, .ref q3, .ref q4, .int (nI dd), .int (nI nn)])), (q1, aI cs 20 (tx_nf kn)), (q2, aZ cs 4 z9), (q4, aM cs rt), (rt 0, aL cs 21 (Mt 0)), (rt 1, aL cs 21 (Mt 1)), (rt 2, aL cs 21 (Mt 2)), (rt 3, aL cs 21 (Mt 3))]) (ww := []) hP
  generalize hAe : va_A [] s.heap.size = A at hD hR ⊢
  have hA : ∀ q : Nat, s.heap.size ≤ q → A q := fun q h => by rw [← hAe]; exact Or.inr h
  have hS : va_S A s.heap s.heap [] := va_S.rf
  have hN : adN [cq, q1, q2, q4, rt 0, rt 1, rt 2, rt 3] := hN
  have hf_15 := hts (.fieldLink RX0 15 "TaxedByLongest$Counting" "isTaxed" "[Z") (by decide +kernel)
  have hf_24 := hts (.fieldLink RX0 24 "TaxedByLongest$Counting" "rests" "[[J") (by decide +kernel)
  have hf_27 := hts (.fieldLink RX0 27 "TaxedByLongest$Counting" "days" "I") (by decide +kernel)
  have in_X0 : ∀ w ∈ wsX00, w ∈ wsX0_waysOfStretch := by decide +kernel
  have hl := lv_entry ([.ref cq, .int (nI t), .int (nI d), .int (nI lm)]) (n := 8) (Nat.le_of_ble_eq_true rfl)
  rw [lg_entry_eq]
  generalize (lg_sl ([.ref cq, .int (nI t), .int (nI d), .int (nI lm)]) ++ List.replicate (8 - (lg_sl ([.ref cq, .int (nI t), .int (nI d), .int (nI lm)])).length) Slot.unset).toArray = ls at hl ⊢
  have hl : lv_has ls 8 [(0, .ref cq), (1, .int (nI t)), (2, .int (nI d)), (3, .int (nI lm))] := hl
  refine lv_aload_n hx hb dX0_waysOfStretch_0 rfl (lv_at hl 0 rfl) ?_
  refine va_get (D := D) (ci := 0) (v := .ref q2) (C := RX0) (T := TX0) (N := 6) hx hb hts in_X0 hown hK (hR hS) 0 rfl rfl 1 (by decide) hf_15 (fun _ h9 => h9) rfl dX0_waysOfStretch_1 ?_
  refine lv_iload_n hx hb dX0_waysOfStretch_4 rfl (lv_at hl 1 rfl) ?_
  refine za_n (f := z9) hx hb hK (hR hS) 2 2 rfl rfl (j := t) rfl (by omega) (by decide) dX0_waysOfStretch_5 ?_
  refine tp_i (show z9 t = bI (cc9 t) from hCt t ht) ?_
  refine bb_eq (b := cc9 t) (tgt := 22) hx hb rfl dX0_waysOfStretch_6 (by decide) (fun c6 => ?_) (fun c6 => ?_)
  · refine lv_aload_n hx hb dX0_waysOfStretch_22 rfl (lv_at hl 0 rfl) ?_
    refine va_get (D := D) (ci := 0) (v := .int (nI dd)) (C := RX0) (T := TX0) (N := 6) hx hb hts in_X0 hown hK (hR hS) 0 rfl rfl 4 (by decide) hf_27 (fun _ h9 => h9) rfl dX0_waysOfStretch_23 ?_
    refine lv_istore (lv' := [(4, .int (nI dd)), (0, .ref cq), (1, .int (nI t)), (2, .int (nI d)), (3, .int (nI lm))]) hx hb dX0_waysOfStretch_26 hl (by decide) rfl (fun ls hl => ?_)
    refine lv_lconst (v := 0) hx hb dX0_waysOfStretch_28 (by decide) ?_
    refine lv_lstore (lv' := [(5, .long 0), (4, .int (nI dd)), (0, .ref cq), (1, .int (nI t)), (2, .int (nI d)), (3, .int (nI lm))]) hx hb dX0_waysOfStretch_29 hl (by decide) rfl (fun ls hl => ?_)
    refine lv_iload_n hx hb dX0_waysOfStretch_31 rfl (lv_at hl 4 rfl) ?_
    refine lv_istore (lv' := [(7, .int (nI d)), (5, .long 0), (4, .int (nI dd)), (0, .ref cq), (1, .int (nI t)), (2, .int (nI d)), (3, .int (nI lm))]) hx hb dX0_waysOfStretch_32 hl (by decide) rfl (fun ls hl => ?_)
    have loop34 : ∀ (n9 : Nat) (e9 : Nat) (br : Nat) (ac : Int64) (h1 : d ≤ e9) (h2 : e9 ≤ dd) (h3 : br ≤ dd) (hbr : ∀ e, e < br ↔ (e < dd ∧ ¬ (cc9 t = true ∧ d + lm ≤ e))) (hac : ac + lN (tx_wg nn dd (tx_Pk kn) cc9 lm d t e9) = lN (tx_wS nn dd (tx_Pk kn) cc9 lm d t)), dd - e9 < n9 → ∀ (H : Heap) (locs : List Loc), va_P D vwCl [] H → va_D A [] → va_S A s.heap H locs → ∀ (ls : Array Slot), lv_has ls 8 [(0, .ref cq), (1, .int (nI t)), (2, .int (nI d)), (3, .int (nI lm)), (4, .int (nI br)), (5, .long ac), (7, .int (nI e9))] → W p l e (headSpec wsX0_waysOfStretch ({ frames := 1, cells := 0, slots := 0, locals := 22 } : Room)).room s m ([.ref cq, .int (nI t), .int (nI d), .int (nI lm)] : List Value).toArray below meth c H locs 0 0 (MQ below (va_Ql (fun (r : Int64) (u : Unit) => r = lN (tx_wS nn dd (tx_Pk kn) cc9 lm d t)) (QB D (fun _ => []) A) A) ([.ref cq, .int (nI t), .int (nI d), .int (nI lm)] : List Value).toArray s 0 0 A) (F0 m 34 ls []) := by
      intro n9
      induction n9 with
      | zero => intros; omega
      | succ n9 ih34 =>
        intro e9 br ac h1 h2 h3 hbr hac hmu H locs hP hD hS ls hl
        refine lv_iload hx hb dX0_waysOfStretch_34 (lv_at hl 6 rfl) ?_
        refine lv_iload hx hb dX0_waysOfStretch_36 (lv_at hl 4 rfl) ?_
        refine bn_ge (a := e9) (b := br) (tgt := 73) hx hb rfl rfl (by omega) (by omega) dX0_waysOfStretch_38 (by decide) (fun c38 => ?_) (fun c38 => ?_)
        · refine lv_lload hx hb dX0_waysOfStretch_73 (lv_at hl 5 rfl) ?_
          exact rt_l hx hb hr hlocks () (by rw [← hac, tx_wg_n (fun z => absurd ((hbr e9).mpr ⟨z.1, z.2.2⟩) (by omega))]; exact (Int64.add_zero _).symm) hP hD hS dX0_waysOfStretch_75
        · refine lv_aload_n hx hb dX0_waysOfStretch_41 rfl (lv_at hl 0 rfl) ?_
          refine lv_iload hx hb dX0_waysOfStretch_42 (lv_at hl 6 rfl) ?_
          refine lv_iload_n hx hb dX0_waysOfStretch_44 rfl (lv_at hl 1 rfl) ?_
          refine cV_i (As := [.int (nI e9), .int (nI t)]) (rest := []) (cr := [(cq, .inr (0, [.ref q1, .ref q2, .ref q3, .ref q4, .int (nI dd), .int (nI nn)])), (q1, aI cs 20 (tx_nf kn))]) (cw1 := []) ⟨hx, hb, hml, hown, hts⟩ (c_X0_isPossible l D cs _ cq q1 q2 q3 q4 dd nn kn e9 t (by first | assumption | omega) (by first | assumption | omega) (by first | assumption | omega)) (cwV 2 hts gX0_waysOfStretch_X0_isPossible rfl rfl rfl (by decide +kernel) ⟨Nat.le_of_ble_eq_true rfl, Nat.le_of_ble_eq_true rfl⟩) hK hP hD hS hA (((hR hS).app hP).sub [0, 1] rfl) (dt_of hN [0, 1] (by decide) rfl) [] rfl 0 rfl rfl rfl hl.1 rfl (Nat.le_of_ble_eq_true rfl) dX0_waysOfStretch_45 ⟨Nat.le_of_ble_eq_true rfl, Nat.le_of_ble_eq_true rfl⟩ (fun _ => rfl) (fun _ => rfl) (fun r_1 u9 H locs hw_2 hP hD hS => ?_)
          have hP : va_P D vwCl [] H := hP
          have hD : va_D A [] := hD
          subst r_1
          refine bb_eq (b := tx_Pk kn e9 t) (tgt := 73) hx hb rfl dX0_waysOfStretch_48 (by decide) (fun c48 => ?_) (fun c48 => ?_)
          · refine lv_lload hx hb dX0_waysOfStretch_73 (lv_at hl 5 rfl) ?_
            exact rt_l hx hb hr hlocks () (by rw [← hac, tx_wg_n (fun z => absurd z.2.1 (by rw [c48]; decide))]; exact (Int64.add_zero _).symm) hP hD hS dX0_waysOfStretch_75
          · refine lv_lload hx hb dX0_waysOfStretch_51 (lv_at hl 5 rfl) ?_
            refine lv_aload_n hx hb dX0_waysOfStretch_53 rfl (lv_at hl 0 rfl) ?_
            refine va_get (D := D) (ci := 0) (v := .ref q4) (C := RX0) (T := TX0) (N := 6) hx hb hts in_X0 hown hK (hR hS) 0 rfl rfl 3 (by decide) hf_24 (fun _ h9 => h9) rfl dX0_waysOfStretch_54 ?_
            refine lv_iload_n hx hb dX0_waysOfStretch_57 rfl (lv_at hl 1 rfl) ?_
            refine gr_ald (ra := rt) hx hb hK (hR hS) 3 4 rfl rfl (j := t) rfl (by omega) dX0_waysOfStretch_58 ?_
            refine lv_iload hx hb dX0_waysOfStretch_59 (lv_at hl 6 rfl) ?_
            refine lv_iconst (v := 1) hx hb dX0_waysOfStretch_61 (by decide) ?_
            refine lv_iadd hx hb dX0_waysOfStretch_62 ?_
            refine tp_i (nI_add e9 1) ?_
            refine la_n (f := Mt t) hx hb hK (hR hS) (4 + t) 1 (row4 (w := [(cq, .inr (0, [.ref q1, .ref q2, .ref q3, .ref q4, .int (nI dd), .int (nI nn)])), (q1, aI cs 20 (tx_nf kn)), (q2, aZ cs 4 z9), (q4, aM cs rt), (rt 0, aL cs 21 (Mt 0)), (rt 1, aL cs 21 (Mt 1)), (rt 2, aL cs 21 (Mt 2)), (rt 3, aL cs 21 (Mt 3))]) (q := 4) (ra := rt) (g := fun r8 => aL cs 21 (Mt r8)) rfl rfl rfl rfl (by omega)) rfl (j := e9 + 1) rfl (by omega) (by decide) dX0_waysOfStretch_63 ?_
            refine tp_l (show Mt t (e9 + 1) = lN (tx_wR nn dd (tx_Pk kn) cc9 lm (e9 + 1) t) from hMt (e9 + 1) (by omega) (by omega)) ?_
            refine lv_ladd hx hb dX0_waysOfStretch_64 ?_
            refine lv_lstore (lv' := [(5, .long (ac + (lN (tx_wR nn dd (tx_Pk kn) cc9 lm (e9 + 1) t)))), (0, .ref cq), (1, .int (nI t)), (2, .int (nI d)), (3, .int (nI lm)), (4, .int (nI br)), (7, .int (nI e9))]) hx hb dX0_waysOfStretch_65 hl (by decide) rfl (fun ls hl => ?_)
            refine lv_iinc (v := nI (e9 + 1)) (lv' := [(7, .int (nI (e9 + 1))), (5, .long (ac + (lN (tx_wR nn dd (tx_Pk kn) cc9 lm (e9 + 1) t)))), (0, .ref cq), (1, .int (nI t)), (2, .int (nI d)), (3, .int (nI lm)), (4, .int (nI br))]) hx hb dX0_waysOfStretch_67 hl (k := 6) rfl (inc_n e9 1) (by decide) rfl (fun ls hl => ?_)
            refine lv_goto (tgt := 34) hx hb dX0_waysOfStretch_70 (by decide) ?_
            exact ih34 (e9 + 1) br (ac + (lN (tx_wR nn dd (tx_Pk kn) cc9 lm (e9 + 1) t))) (by first | assumption | omega) (by first | assumption | omega) (by first | assumption | omega) (by first | assumption | omega) (by rw [← hac, tx_wg_s ht h1 ⟨((hbr e9).mp (by omega)).1, c48, ((hbr e9).mp (by omega)).2⟩, ← lN_add, Int64.add_assoc]) (by omega) _ _ hP hD hS ls (lv_sub hl [2, 3, 4, 5, 6, 1, 0] rfl)
    exact loop34 _ d dd 0 (by first | assumption | omega) (by first | assumption | omega) (by first | assumption | omega) (fun e => by rw [c6]; constructor; (intro z; exact ⟨z, fun y => absurd y.1 (by decide)⟩); (intro z; exact z.1)) (by rw [tx_wg_0 hd]; exact Int64.zero_add _) (Nat.lt_succ_self _) _ _ hP hD hS ls (lv_sub hl [3, 4, 5, 6, 2, 1, 0] rfl)
  · refine lv_aload_n hx hb dX0_waysOfStretch_9 rfl (lv_at hl 0 rfl) ?_
    refine va_get (D := D) (ci := 0) (v := .int (nI dd)) (C := RX0) (T := TX0) (N := 6) hx hb hts in_X0 hown hK (hR hS) 0 rfl rfl 4 (by decide) hf_27 (fun _ h9 => h9) rfl dX0_waysOfStretch_10 ?_
    refine lv_iload_n hx hb dX0_waysOfStretch_13 rfl (lv_at hl 2 rfl) ?_
    refine lv_iload_n hx hb dX0_waysOfStretch_14 rfl (lv_at hl 3 rfl) ?_
    refine lv_iadd hx hb dX0_waysOfStretch_15 ?_
    refine tp_i (nI_add d lm) ?_
    refine va_mmin hx hb (hml.trans hl.1.symm) hown (hts (.methodLink RX0 34 Lib.Math.min.name) (by decide +kernel)) (hts (.static Lib.Math.min.name) (by decide +kernel)) (hts (.initialized "java/lang/Math") (by decide +kernel)) (hts (.code Lib.Math.min.name Lib.Math.min.code 2 (some .int)) (by decide +kernel)) (Nat.le_of_ble_eq_true rfl) (Nat.le_of_ble_eq_true rfl) (Nat.le_of_ble_eq_true rfl) (Nat.le_of_ble_eq_true rfl) dX0_waysOfStretch_16 ?_
    refine tp_i (min_n (a := dd) (b := d + lm) rfl rfl (by omega) (by omega)) ?_
    refine lv_goto (tgt := 26) hx hb dX0_waysOfStretch_19 (by decide) ?_
    refine lv_istore (lv' := [(4, .int (nI (min dd (d + lm)))), (0, .ref cq), (1, .int (nI t)), (2, .int (nI d)), (3, .int (nI lm))]) hx hb dX0_waysOfStretch_26 hl (by decide) rfl (fun ls hl => ?_)
    refine lv_lconst (v := 0) hx hb dX0_waysOfStretch_28 (by decide) ?_
    refine lv_lstore (lv' := [(5, .long 0), (4, .int (nI (min dd (d + lm)))), (0, .ref cq), (1, .int (nI t)), (2, .int (nI d)), (3, .int (nI lm))]) hx hb dX0_waysOfStretch_29 hl (by decide) rfl (fun ls hl => ?_)
    refine lv_iload_n hx hb dX0_waysOfStretch_31 rfl (lv_at hl 4 rfl) ?_
    refine lv_istore (lv' := [(7, .int (nI d)), (5, .long 0), (4, .int (nI (min dd (d + lm)))), (0, .ref cq), (1, .int (nI t)), (2, .int (nI d)), (3, .int (nI lm))]) hx hb dX0_waysOfStretch_32 hl (by decide) rfl (fun ls hl => ?_)
    have loop34 : ∀ (n9 : Nat) (e9 : Nat) (br : Nat) (ac : Int64) (h1 : d ≤ e9) (h2 : e9 ≤ dd) (h3 : br ≤ dd) (hbr : ∀ e, e < br ↔ (e < dd ∧ ¬ (cc9 t = true ∧ d + lm ≤ e))) (hac : ac + lN (tx_wg nn dd (tx_Pk kn) cc9 lm d t e9) = lN (tx_wS nn dd (tx_Pk kn) cc9 lm d t)), dd - e9 < n9 → ∀ (H : Heap) (locs : List Loc), va_P D vwCl [] H → va_D A [] → va_S A s.heap H locs → ∀ (ls : Array Slot), lv_has ls 8 [(0, .ref cq), (1, .int (nI t)), (2, .int (nI d)), (3, .int (nI lm)), (4, .int (nI br)), (5, .long ac), (7, .int (nI e9))] → W p l e (headSpec wsX0_waysOfStretch ({ frames := 1, cells := 0, slots := 0, locals := 22 } : Room)).room s m ([.ref cq, .int (nI t), .int (nI d), .int (nI lm)] : List Value).toArray below meth c H locs 0 0 (MQ below (va_Ql (fun (r : Int64) (u : Unit) => r = lN (tx_wS nn dd (tx_Pk kn) cc9 lm d t)) (QB D (fun _ => []) A) A) ([.ref cq, .int (nI t), .int (nI d), .int (nI lm)] : List Value).toArray s 0 0 A) (F0 m 34 ls []) := by
      intro n9
      induction n9 with
      | zero => intros; omega
      | succ n9 ih34 =>
        intro e9 br ac h1 h2 h3 hbr hac hmu H locs hP hD hS ls hl
        refine lv_iload hx hb dX0_waysOfStretch_34 (lv_at hl 6 rfl) ?_
        refine lv_iload hx hb dX0_waysOfStretch_36 (lv_at hl 4 rfl) ?_
        refine bn_ge (a := e9) (b := br) (tgt := 73) hx hb rfl rfl (by omega) (by omega) dX0_waysOfStretch_38 (by decide) (fun c38 => ?_) (fun c38 => ?_)
        · refine lv_lload hx hb dX0_waysOfStretch_73 (lv_at hl 5 rfl) ?_
          exact rt_l hx hb hr hlocks () (by rw [← hac, tx_wg_n (fun z => absurd ((hbr e9).mpr ⟨z.1, z.2.2⟩) (by omega))]; exact (Int64.add_zero _).symm) hP hD hS dX0_waysOfStretch_75
        · refine lv_aload_n hx hb dX0_waysOfStretch_41 rfl (lv_at hl 0 rfl) ?_
          refine lv_iload hx hb dX0_waysOfStretch_42 (lv_at hl 6 rfl) ?_
          refine lv_iload_n hx hb dX0_waysOfStretch_44 rfl (lv_at hl 1 rfl) ?_
          refine cV_i (As := [.int (nI e9), .int (nI t)]) (rest := []) (cr := [(cq, .inr (0, [.ref q1, .ref q2, .ref q3, .ref q4, .int (nI dd), .int (nI nn)])), (q1, aI cs 20 (tx_nf kn))]) (cw1 := []) ⟨hx, hb, hml, hown, hts⟩ (c_X0_isPossible l D cs _ cq q1 q2 q3 q4 dd nn kn e9 t (by first | assumption | omega) (by first | assumption | omega) (by first | assumption | omega)) (cwV 2 hts gX0_waysOfStretch_X0_isPossible rfl rfl rfl (by decide +kernel) ⟨Nat.le_of_ble_eq_true rfl, Nat.le_of_ble_eq_true rfl⟩) hK hP hD hS hA (((hR hS).app hP).sub [0, 1] rfl) (dt_of hN [0, 1] (by decide) rfl) [] rfl 0 rfl rfl rfl hl.1 rfl (Nat.le_of_ble_eq_true rfl) dX0_waysOfStretch_45 ⟨Nat.le_of_ble_eq_true rfl, Nat.le_of_ble_eq_true rfl⟩ (fun _ => rfl) (fun _ => rfl) (fun r_3 u9 H locs hw_4 hP hD hS => ?_)
          have hP : va_P D vwCl [] H := hP
          have hD : va_D A [] := hD
          subst r_3
          refine bb_eq (b := tx_Pk kn e9 t) (tgt := 73) hx hb rfl dX0_waysOfStretch_48 (by decide) (fun c48 => ?_) (fun c48 => ?_)
          · refine lv_lload hx hb dX0_waysOfStretch_73 (lv_at hl 5 rfl) ?_
            exact rt_l hx hb hr hlocks () (by rw [← hac, tx_wg_n (fun z => absurd z.2.1 (by rw [c48]; decide))]; exact (Int64.add_zero _).symm) hP hD hS dX0_waysOfStretch_75
          · refine lv_lload hx hb dX0_waysOfStretch_51 (lv_at hl 5 rfl) ?_
            refine lv_aload_n hx hb dX0_waysOfStretch_53 rfl (lv_at hl 0 rfl) ?_
            refine va_get (D := D) (ci := 0) (v := .ref q4) (C := RX0) (T := TX0) (N := 6) hx hb hts in_X0 hown hK (hR hS) 0 rfl rfl 3 (by decide) hf_24 (fun _ h9 => h9) rfl dX0_waysOfStretch_54 ?_
            refine lv_iload_n hx hb dX0_waysOfStretch_57 rfl (lv_at hl 1 rfl) ?_
            refine gr_ald (ra := rt) hx hb hK (hR hS) 3 4 rfl rfl (j := t) rfl (by omega) dX0_waysOfStretch_58 ?_
            refine lv_iload hx hb dX0_waysOfStretch_59 (lv_at hl 6 rfl) ?_
            refine lv_iconst (v := 1) hx hb dX0_waysOfStretch_61 (by decide) ?_
            refine lv_iadd hx hb dX0_waysOfStretch_62 ?_
            refine tp_i (nI_add e9 1) ?_
            refine la_n (f := Mt t) hx hb hK (hR hS) (4 + t) 1 (row4 (w := [(cq, .inr (0, [.ref q1, .ref q2, .ref q3, .ref q4, .int (nI dd), .int (nI nn)])), (q1, aI cs 20 (tx_nf kn)), (q2, aZ cs 4 z9), (q4, aM cs rt), (rt 0, aL cs 21 (Mt 0)), (rt 1, aL cs 21 (Mt 1)), (rt 2, aL cs 21 (Mt 2)), (rt 3, aL cs 21 (Mt 3))]) (q := 4) (ra := rt) (g := fun r8 => aL cs 21 (Mt r8)) rfl rfl rfl rfl (by omega)) rfl (j := e9 + 1) rfl (by omega) (by decide) dX0_waysOfStretch_63 ?_
            refine tp_l (show Mt t (e9 + 1) = lN (tx_wR nn dd (tx_Pk kn) cc9 lm (e9 + 1) t) from hMt (e9 + 1) (by omega) (by omega)) ?_
            refine lv_ladd hx hb dX0_waysOfStretch_64 ?_
            refine lv_lstore (lv' := [(5, .long (ac + (lN (tx_wR nn dd (tx_Pk kn) cc9 lm (e9 + 1) t)))), (0, .ref cq), (1, .int (nI t)), (2, .int (nI d)), (3, .int (nI lm)), (4, .int (nI br)), (7, .int (nI e9))]) hx hb dX0_waysOfStretch_65 hl (by decide) rfl (fun ls hl => ?_)
            refine lv_iinc (v := nI (e9 + 1)) (lv' := [(7, .int (nI (e9 + 1))), (5, .long (ac + (lN (tx_wR nn dd (tx_Pk kn) cc9 lm (e9 + 1) t)))), (0, .ref cq), (1, .int (nI t)), (2, .int (nI d)), (3, .int (nI lm)), (4, .int (nI br))]) hx hb dX0_waysOfStretch_67 hl (k := 6) rfl (inc_n e9 1) (by decide) rfl (fun ls hl => ?_)
            refine lv_goto (tgt := 34) hx hb dX0_waysOfStretch_70 (by decide) ?_
            exact ih34 (e9 + 1) br (ac + (lN (tx_wR nn dd (tx_Pk kn) cc9 lm (e9 + 1) t))) (by first | assumption | omega) (by first | assumption | omega) (by first | assumption | omega) (by first | assumption | omega) (by rw [← hac, tx_wg_s ht h1 ⟨((hbr e9).mp (by omega)).1, c48, ((hbr e9).mp (by omega)).2⟩, ← lN_add, Int64.add_assoc]) (by omega) _ _ hP hD hS ls (lv_sub hl [2, 3, 4, 5, 6, 1, 0] rfl)
    exact loop34 _ d (min dd (d + lm)) 0 (by first | assumption | omega) (by first | assumption | omega) (by first | assumption | omega) (fun e => by constructor; (intro z; exact ⟨by omega, fun y => by have := y.2; omega⟩); (intro z; have z2 : ¬ (d + lm ≤ e) := fun y => z.2 ⟨c6, y⟩; have z3 := z.1; omega)) (by rw [tx_wg_0 hd]; exact Int64.zero_add _) (Nat.lt_succ_self _) _ _ hP hD hS ls (lv_sub hl [3, 4, 5, 6, 2, 1, 0] rfl)
set_option maxHeartbeats 4000000 in
set_option maxRecDepth 100000 in
theorem c_X0_within (l : Launch) (D : va_G) (cs : Nat → ClassId) (sz : Nat) (cq : Nat) (q1 : Nat) (q2 : Nat) (q3 : Nat) (q4 : Nat) (dd : Nat) (nn : Nat) (cc9 : Nat → Bool) (z9 : Nat → Int32) (kn : Nat → Nat) (rs : Nat → Nat) (rt : Nat → Nat) (Ms : Nat → Nat → Int64) (Mt : Nat → Nat → Int64) (lm : Nat) (hnn : nn ≤ 4) (hdd : dd ≤ 20) (hd1 : 1 ≤ dd) (hkn : ∀ e, kn e ≤ 9) (hCt : ∀ t, t < nn → z9 t = bI (cc9 t)) (hl9 : lm ≤ 20) : mL (S := (Nat → Nat → Int64) × (Nat → Nat → Int64)) l yX0_within wsX0_within ({ frames := 2, cells := 0, slots := 0, locals := 49 } : Room) D (tyc cs) sz [.ref cq, .int (nI lm)] [(cq, .inr (0, [.ref q1, .ref q2, .ref q3, .ref q4, .int (nI dd), .int (nI nn)])), (q1, aI cs 20 (tx_nf kn)), (q2, aZ cs 4 z9), (q3, aM cs rs), (q4, aM cs rt)] [(rs 0, aL cs 21 (Ms 0)), (rs 1, aL cs 21 (Ms 1)), (rs 2, aL cs 21 (Ms 2)), (rs 3, aL cs 21 (Ms 3)), (rt 0, aL cs 21 (Mt 0)), (rt 1, aL cs 21 (Mt 1)), (rt 2, aL cs 21 (Mt 2)), (rt 3, aL cs 21 (Mt 3))] (fun (r : Int64) (u : (Nat → Nat → Int64) × (Nat → Nat → Int64)) => match u with | (Ms2, Mt2) => r = lN (tx_tot nn dd (tx_Pk kn) cc9 lm)) (fun (u : (Nat → Nat → Int64) × (Nat → Nat → Int64)) => match u with | (Ms2, Mt2) => [(rs 0, aL cs 21 (Ms2 0)), (rs 1, aL cs 21 (Ms2 1)), (rs 2, aL cs 21 (Ms2 2)), (rs 3, aL cs 21 (Ms2 3)), (rt 0, aL cs 21 (Mt2 0)), (rt 1, aL cs 21 (Mt2 1)), (rt 2, aL cs 21 (Mt2 2)), (rt 3, aL cs 21 (Mt2 3))]) 0 0 := by
  unfold mL
  refine Met.ofW (cc := cX0_within) (maxL := 6) (ret := (some .long)) (by decide) rfl ?_
  intro p e s m args below meth c s₁ B hml hv
  obtain ⟨rfl, hsz, hP, hK, hD0⟩ := hv
  have hx := B.exec
  have hb := B.bytes
  have hr := B.returns
  have hts := atoms_spec (ws := wsX0_within) B.pre
  have hown : s.vm.findClass RX0 = some m.cls := findClass_of_methodNamed B.named
  have hlocks := B.notSynchronized
  subst hsz
  have hR := @en_R _ _ _ [(cq, .inr (0, [.ref q1, .ref q2, .ref q3, .ref q4, .int (nI dd), .int (nI nn)])), (q1, aI cs 20 (tx_nf kn)), (q2, aZ cs 4 z9), (q3, aM cs rs), (q4, aM cs rt)] [(rs 0, aL cs 21 (Ms 0)), (rs 1, aL cs 21 (Ms 1)), (rs 2, aL cs 21 (Ms 2)), (rs 3, aL cs 21 (Ms 3)), (rt 0, aL cs 21 (Mt 0)), (rt 1, aL cs 21 (Mt 1)), (rt 2, aL cs 21 (Mt 2)), (rt 3, aL cs 21 (Mt 3))] _ hP hD0
  have hN := adN_of hD0
  have hD := en_D (wr := [(cq, .inr (0, [.ref q1, .ref q2, .ref q3, .ref q4, .int (nI dd), .int (nI nn)])), (q1, aI cs 20 (tx_nf kn)), (q2, aZ cs 4 z9), (q3, aM cs rs), (q4, aM cs rt)]) (ww := [(rs 0, aL cs 21 (Ms 0)), (rs 1, aL cs 21 (Ms 1)), (rs 2, aL cs 21 (Ms 2)), (rs 3, aL cs 21 (Ms 3)), (rt 0, aL cs 21 (Mt 0)), (rt 1, aL cs 21 (Mt 1)), (rt 2, aL cs 21 (Mt 2)), (rt 3, aL cs 21 (Mt 3))]) (sz := s.heap.size) hD0
  have hP := en_P (wr := [(cq, .inr (0, [.ref q1, .ref q2, .ref q3, .ref q4, .int (nI dd), .int (nI nn)])), (q1, aI cs 20 (tx_nf kn)), (q2, aZ cs 4 z9), (q3, aM cs rs), (q4, aM cs rt)]) (ww := [(rs 0, aL cs 21 (Ms 0)), (rs 1, aL cs 21 (Ms 1)), (rs 2, aL cs 21 (Ms 2)), (rs 3, aL cs 21 (Ms 3)), (rt 0, aL cs 21 (Mt 0)), (rt 1, aL cs 21 (Mt 1)), (rt 2, aL cs 21 (Mt 2)), (rt 3, aL cs 21 (Mt 3))]) hP
  generalize hAe : va_A [(rs 0, aL cs 21 (Ms 0)), (rs 1, aL cs 21 (Ms 1)), (rs 2, aL cs 21 (Ms 2)), (rs 3, aL cs 21 (Ms 3)), (rt 0, aL cs 21 (Mt 0)), (rt 1, aL cs 21 (Mt 1)), (rt 2, aL cs 21 (Mt 2)), (rt 3, aL cs 21 (Mt 3))] s.heap.size = A at hD hR ⊢
  have hA : ∀ q : Nat, s.heap.size ≤ q → A q := fun q h => by rw [← hAe]; exact Or.inr h
  have hS : va_S A s.heap s.heap [] := va_S.rf
  have hN : adN [cq, q1, q2, q3, q4, rs 0, rs 1, rs 2, rs 3, rt 0, rt 1, rt 2, rt 3] := hN
  have hf_21 := hts (.fieldLink RX0 21 "TaxedByLongest$Counting" "starts" "[[J") (by decide +kernel)
  have hf_24 := hts (.fieldLink RX0 24 "TaxedByLongest$Counting" "rests" "[[J") (by decide +kernel)
  have hf_27 := hts (.fieldLink RX0 27 "TaxedByLongest$Counting" "days" "I") (by decide +kernel)
  have hf_31 := hts (.fieldLink RX0 31 "TaxedByLongest$Counting" "things" "I") (by decide +kernel)
  have in_X0 : ∀ w ∈ wsX00, w ∈ wsX0_within := by decide +kernel
  have hl := lv_entry ([.ref cq, .int (nI lm)]) (n := 6) (Nat.le_of_ble_eq_true rfl)
  rw [lg_entry_eq]
  generalize (lg_sl ([.ref cq, .int (nI lm)]) ++ List.replicate (6 - (lg_sl ([.ref cq, .int (nI lm)])).length) Slot.unset).toArray = ls at hl ⊢
  have hl : lv_has ls 6 [(0, .ref cq), (1, .int (nI lm))] := hl
  refine lv_iconst (v := 0) hx hb dX0_within_0 (by decide) ?_
  refine lv_istore_n (lv' := [(2, .int 0), (0, .ref cq), (1, .int (nI lm))]) hx hb dX0_within_1 rfl hl (by decide) rfl (fun ls hl => ?_)
  have loop2 : ∀ (n9 : Nat) (i : Nat) (M6 : Nat → Nat → Int64) (hi : i ≤ nn) (h0 : ∀ t, t < i → M6 t dd = 1), nn - i < n9 → ∀ (H : Heap) (locs : List Loc), va_P D vwCl [(rs 0, aL cs 21 (Ms 0)), (rs 1, aL cs 21 (Ms 1)), (rs 2, aL cs 21 (Ms 2)), (rs 3, aL cs 21 (Ms 3)), (rt 0, aL cs 21 (M6 0)), (rt 1, aL cs 21 (M6 1)), (rt 2, aL cs 21 (M6 2)), (rt 3, aL cs 21 (M6 3))] H → va_D A [(rs 0, aL cs 21 (Ms 0)), (rs 1, aL cs 21 (Ms 1)), (rs 2, aL cs 21 (Ms 2)), (rs 3, aL cs 21 (Ms 3)), (rt 0, aL cs 21 (M6 0)), (rt 1, aL cs 21 (M6 1)), (rt 2, aL cs 21 (M6 2)), (rt 3, aL cs 21 (M6 3))] → va_S A s.heap H locs → ∀ (ls : Array Slot), lv_has ls 6 [(0, .ref cq), (1, .int (nI lm)), (2, .int (nI i))] → W p l e (headSpec wsX0_within ({ frames := 2, cells := 0, slots := 0, locals := 49 } : Room)).room s m ([.ref cq, .int (nI lm)] : List Value).toArray below meth c H locs 0 0 (MQ below (va_Ql (fun (r : Int64) (u : (Nat → Nat → Int64) × (Nat → Nat → Int64)) => match u with | (Ms2, Mt2) => r = lN (tx_tot nn dd (tx_Pk kn) cc9 lm)) (QB D (fun (u : (Nat → Nat → Int64) × (Nat → Nat → Int64)) => match u with | (Ms2, Mt2) => [(rs 0, aL cs 21 (Ms2 0)), (rs 1, aL cs 21 (Ms2 1)), (rs 2, aL cs 21 (Ms2 2)), (rs 3, aL cs 21 (Ms2 3)), (rt 0, aL cs 21 (Mt2 0)), (rt 1, aL cs 21 (Mt2 1)), (rt 2, aL cs 21 (Mt2 2)), (rt 3, aL cs 21 (Mt2 3))]) A) A) ([.ref cq, .int (nI lm)] : List Value).toArray s 0 0 A) (F0 m 2 ls []) := by
    intro n9
    induction n9 with
    | zero => intros; omega
    | succ n9 ih2 =>
      intro i M6 hi h0 hmu H locs hP hD hS ls hl
      refine lv_iload_n hx hb dX0_within_2 rfl (lv_at hl 2 rfl) ?_
      refine lv_aload_n hx hb dX0_within_3 rfl (lv_at hl 0 rfl) ?_
      refine va_get (D := D) (ci := 0) (v := .int (nI nn)) (C := RX0) (T := TX0) (N := 6) hx hb hts in_X0 hown hK (hR hS) 0 rfl rfl 5 (by decide) hf_31 (fun _ h9 => h9) rfl dX0_within_4 ?_
      refine bn_ge (a := i) (b := nn) (tgt := 28) hx hb rfl rfl (by omega) (by omega) dX0_within_7 (by decide) (fun c7 => ?_) (fun c7 => ?_)
      · refine lv_lconst (v := 0) hx hb dX0_within_28 (by decide) ?_
        refine lv_lstore_n (lv' := [(2, .long 0), (0, .ref cq), (1, .int (nI lm))]) hx hb dX0_within_29 rfl hl (by decide) rfl (fun ls hl => ?_)
        refine lv_aload_n hx hb dX0_within_30 rfl (lv_at hl 1 rfl) ?_
        refine va_get (D := D) (ci := 0) (v := .int (nI dd)) (C := RX0) (T := TX0) (N := 6) hx hb hts in_X0 hown hK (hR hS) 0 rfl rfl 4 (by decide) hf_27 (fun _ h9 => h9) rfl dX0_within_31 ?_
        refine lv_iconst (v := 1) hx hb dX0_within_34 (by decide) ?_
        refine lv_isub hx hb dX0_within_35 ?_
        refine tp_i (sub_iI (a := (dd : Int)) (b := 1) (nI_iI _) (by decide)) ?_
        refine lv_istore (lv' := [(4, .int (iI ((dd : Int) - 1))), (2, .long 0), (0, .ref cq), (1, .int (nI lm))]) hx hb dX0_within_36 hl (by decide) rfl (fun ls hl => ?_)
        have loop38 : ∀ (n9 : Nat) (q : Nat) (zz : Int) (wy : Int64) (M6 : Nat → Nat → Int64) (M7 : Nat → Nat → Int64) (hq : q ≤ dd) (hzz : zz = (q : Int) - 1) (hRr : ∀ t, t < nn → ∀ e, q ≤ e → e ≤ dd → M7 t e = lN (tx_wR nn dd (tx_Pk kn) cc9 lm e t)) (hwy : q < dd → wy = lN (tx_ns (fun u => tx_wS nn dd (tx_Pk kn) cc9 lm q u) nn)), q < n9 → ∀ (H : Heap) (locs : List Loc), va_P D vwCl [(rs 0, aL cs 21 (M6 0)), (rs 1, aL cs 21 (M6 1)), (rs 2, aL cs 21 (M6 2)), (rs 3, aL cs 21 (M6 3)), (rt 0, aL cs 21 (M7 0)), (rt 1, aL cs 21 (M7 1)), (rt 2, aL cs 21 (M7 2)), (rt 3, aL cs 21 (M7 3))] H → va_D A [(rs 0, aL cs 21 (M6 0)), (rs 1, aL cs 21 (M6 1)), (rs 2, aL cs 21 (M6 2)), (rs 3, aL cs 21 (M6 3)), (rt 0, aL cs 21 (M7 0)), (rt 1, aL cs 21 (M7 1)), (rt 2, aL cs 21 (M7 2)), (rt 3, aL cs 21 (M7 3))] → va_S A s.heap H locs → ∀ (ls : Array Slot), lv_has ls 6 [(0, .ref cq), (1, .int (nI lm)), (2, .long wy), (4, .int (iI zz))] → W p l e (headSpec wsX0_within ({ frames := 2, cells := 0, slots := 0, locals := 49 } : Room)).room s m ([.ref cq, .int (nI lm)] : List Value).toArray below meth c H locs 0 0 (MQ below (va_Ql (fun (r : Int64) (u : (Nat → Nat → Int64) × (Nat → Nat → Int64)) => match u with | (Ms2, Mt2) => r = lN (tx_tot nn dd (tx_Pk kn) cc9 lm)) (QB D (fun (u : (Nat → Nat → Int64) × (Nat → Nat → Int64)) => match u with | (Ms2, Mt2) => [(rs 0, aL cs 21 (Ms2 0)), (rs 1, aL cs 21 (Ms2 1)), (rs 2, aL cs 21 (Ms2 2)), (rs 3, aL cs 21 (Ms2 3)), (rt 0, aL cs 21 (Mt2 0)), (rt 1, aL cs 21 (Mt2 1)), (rt 2, aL cs 21 (Mt2 2)), (rt 3, aL cs 21 (Mt2 3))]) A) A) ([.ref cq, .int (nI lm)] : List Value).toArray s 0 0 A) (F0 m 38 ls []) := by
          intro n9
          induction n9 with
          | zero => intros; omega
          | succ n9 ih38 =>
            intro q zz wy M6 M7 hq hzz hRr hwy hmu H locs hP hD hS ls hl
            refine lv_iload hx hb dX0_within_38 (lv_at hl 3 rfl) ?_
            refine bi0_lt (a := zz) (tgt := 141) hx hb rfl (by omega) (by omega) dX0_within_40 (by decide) (fun c40 => ?_) (fun c40 => ?_)
            · refine lv_lload_n hx hb dX0_within_141 rfl (lv_at hl 2 rfl) ?_
              exact rt_l hx hb hr hlocks (M6, M7) (by rw [hwy (by omega), show q = 0 by omega]; rfl) hP hD hS dX0_within_142
            · obtain ⟨d9, hd9⟩ : ∃ d9, q = d9 + 1 := ⟨q - 1, by omega⟩
              rw [show iI zz = nI d9 from by rw [nI_iI]; congr 1; omega] at hl
              have hl : lv_has ls 6 [(0, .ref cq), (1, .int (nI lm)), (2, .long wy), (4, .int (nI d9))] := hl
              refine lv_lconst (v := 0) hx hb dX0_within_43 (by decide) ?_
              refine lv_lstore_n (lv' := [(2, .long 0), (0, .ref cq), (1, .int (nI lm)), (4, .int (nI d9))]) hx hb dX0_within_44 rfl hl (by decide) rfl (fun ls hl => ?_)
              refine lv_iconst (v := 0) hx hb dX0_within_45 (by decide) ?_
              refine lv_istore (lv' := [(5, .int 0), (2, .long 0), (0, .ref cq), (1, .int (nI lm)), (4, .int (nI d9))]) hx hb dX0_within_46 hl (by decide) rfl (fun ls hl => ?_)
              have loop48 : ∀ (n9 : Nat) (i : Nat) (wy : Int64) (M8 : Nat → Nat → Int64) (hi : i ≤ nn) (hSi : ∀ t, t < i → M8 t d9 = lN (tx_wS nn dd (tx_Pk kn) cc9 lm d9 t)) (hwi : wy = lN (tx_ns (fun u => tx_wS nn dd (tx_Pk kn) cc9 lm d9 u) i)), nn - i < n9 → ∀ (H : Heap) (locs : List Loc), va_P D vwCl [(rs 0, aL cs 21 (M8 0)), (rs 1, aL cs 21 (M8 1)), (rs 2, aL cs 21 (M8 2)), (rs 3, aL cs 21 (M8 3)), (rt 0, aL cs 21 (M7 0)), (rt 1, aL cs 21 (M7 1)), (rt 2, aL cs 21 (M7 2)), (rt 3, aL cs 21 (M7 3))] H → va_D A [(rs 0, aL cs 21 (M8 0)), (rs 1, aL cs 21 (M8 1)), (rs 2, aL cs 21 (M8 2)), (rs 3, aL cs 21 (M8 3)), (rt 0, aL cs 21 (M7 0)), (rt 1, aL cs 21 (M7 1)), (rt 2, aL cs 21 (M7 2)), (rt 3, aL cs 21 (M7 3))] → va_S A s.heap H locs → ∀ (ls : Array Slot), lv_has ls 6 [(0, .ref cq), (1, .int (nI lm)), (2, .long wy), (4, .int (nI d9)), (5, .int (nI i))] → W p l e (headSpec wsX0_within ({ frames := 2, cells := 0, slots := 0, locals := 49 } : Room)).room s m ([.ref cq, .int (nI lm)] : List Value).toArray below meth c H locs 0 0 (MQ below (va_Ql (fun (r : Int64) (u : (Nat → Nat → Int64) × (Nat → Nat → Int64)) => match u with | (Ms2, Mt2) => r = lN (tx_tot nn dd (tx_Pk kn) cc9 lm)) (QB D (fun (u : (Nat → Nat → Int64) × (Nat → Nat → Int64)) => match u with | (Ms2, Mt2) => [(rs 0, aL cs 21 (Ms2 0)), (rs 1, aL cs 21 (Ms2 1)), (rs 2, aL cs 21 (Ms2 2)), (rs 3, aL cs 21 (Ms2 3)), (rt 0, aL cs 21 (Mt2 0)), (rt 1, aL cs 21 (Mt2 1)), (rt 2, aL cs 21 (Mt2 2)), (rt 3, aL cs 21 (Mt2 3))]) A) A) ([.ref cq, .int (nI lm)] : List Value).toArray s 0 0 A) (F0 m 48 ls []) := by
                intro n9
                induction n9 with
                | zero => intros; omega
                | succ n9 ih48 =>
                  intro i wy M8 hi hSi hwi hmu H locs hP hD hS ls hl
                  refine lv_iload hx hb dX0_within_48 (lv_at hl 4 rfl) ?_
                  refine lv_aload_n hx hb dX0_within_50 rfl (lv_at hl 0 rfl) ?_
                  refine va_get (D := D) (ci := 0) (v := .int (nI nn)) (C := RX0) (T := TX0) (N := 6) hx hb hts in_X0 hown hK (hR hS) 0 rfl rfl 5 (by decide) hf_31 (fun _ h9 => h9) rfl dX0_within_51 ?_
                  refine bn_ge (a := i) (b := nn) (tgt := 95) hx hb rfl rfl (by omega) (by omega) dX0_within_54 (by decide) (fun c54 => ?_) (fun c54 => ?_)
                  · have hSn : ∀ t, t < nn → M8 t d9 = lN (tx_wS nn dd (tx_Pk kn) cc9 lm d9 t) := fun t ht => hSi t (by omega)
                    have hwn : wy = lN (tx_ns (fun u => tx_wS nn dd (tx_Pk kn) cc9 lm d9 u) nn) := by rw [hwi, show i = nn by omega]
                    refine lv_iconst (v := 0) hx hb dX0_within_95 (by decide) ?_
                    refine lv_istore (lv' := [(5, .int 0), (0, .ref cq), (1, .int (nI lm)), (2, .long wy), (4, .int (nI d9))]) hx hb dX0_within_96 hl (by decide) rfl (fun ls hl => ?_)
                    have loop98 : ∀ (n9 : Nat) (i : Nat) (M9 : Nat → Nat → Int64) (hi : i ≤ nn) (hRi : ∀ t, t < i → M9 t d9 = lN (tx_wR nn dd (tx_Pk kn) cc9 lm d9 t)) (hR2 : ∀ t, t < nn → ∀ e, q ≤ e → e ≤ dd → M9 t e = lN (tx_wR nn dd (tx_Pk kn) cc9 lm e t)), nn - i < n9 → ∀ (H : Heap) (locs : List Loc), va_P D vwCl [(rs 0, aL cs 21 (M8 0)), (rs 1, aL cs 21 (M8 1)), (rs 2, aL cs 21 (M8 2)), (rs 3, aL cs 21 (M8 3)), (rt 0, aL cs 21 (M9 0)), (rt 1, aL cs 21 (M9 1)), (rt 2, aL cs 21 (M9 2)), (rt 3, aL cs 21 (M9 3))] H → va_D A [(rs 0, aL cs 21 (M8 0)), (rs 1, aL cs 21 (M8 1)), (rs 2, aL cs 21 (M8 2)), (rs 3, aL cs 21 (M8 3)), (rt 0, aL cs 21 (M9 0)), (rt 1, aL cs 21 (M9 1)), (rt 2, aL cs 21 (M9 2)), (rt 3, aL cs 21 (M9 3))] → va_S A s.heap H locs → ∀ (ls : Array Slot), lv_has ls 6 [(0, .ref cq), (1, .int (nI lm)), (2, .long wy), (4, .int (nI d9)), (5, .int (nI i))] → W p l e (headSpec wsX0_within ({ frames := 2, cells := 0, slots := 0, locals := 49 } : Room)).room s m ([.ref cq, .int (nI lm)] : List Value).toArray below meth c H locs 0 0 (MQ below (va_Ql (fun (r : Int64) (u : (Nat → Nat → Int64) × (Nat → Nat → Int64)) => match u with | (Ms2, Mt2) => r = lN (tx_tot nn dd (tx_Pk kn) cc9 lm)) (QB D (fun (u : (Nat → Nat → Int64) × (Nat → Nat → Int64)) => match u with | (Ms2, Mt2) => [(rs 0, aL cs 21 (Ms2 0)), (rs 1, aL cs 21 (Ms2 1)), (rs 2, aL cs 21 (Ms2 2)), (rs 3, aL cs 21 (Ms2 3)), (rt 0, aL cs 21 (Mt2 0)), (rt 1, aL cs 21 (Mt2 1)), (rt 2, aL cs 21 (Mt2 2)), (rt 3, aL cs 21 (Mt2 3))]) A) A) ([.ref cq, .int (nI lm)] : List Value).toArray s 0 0 A) (F0 m 98 ls []) := by
                      intro n9
                      induction n9 with
                      | zero => intros; omega
                      | succ n9 ih98 =>
                        intro i M9 hi hRi hR2 hmu H locs hP hD hS ls hl
                        refine lv_iload hx hb dX0_within_98 (lv_at hl 4 rfl) ?_
                        refine lv_aload_n hx hb dX0_within_100 rfl (lv_at hl 0 rfl) ?_
                        refine va_get (D := D) (ci := 0) (v := .int (nI nn)) (C := RX0) (T := TX0) (N := 6) hx hb hts in_X0 hown hK (hR hS) 0 rfl rfl 5 (by decide) hf_31 (fun _ h9 => h9) rfl dX0_within_101 ?_
                        refine bn_ge (a := i) (b := nn) (tgt := 135) hx hb rfl rfl (by omega) (by omega) dX0_within_104 (by decide) (fun c104 => ?_) (fun c104 => ?_)
                        · rw [show nI d9 = iI (d9 : Int) from nI_iI _] at hl
                          have hl : lv_has ls 6 [(0, .ref cq), (1, .int (nI lm)), (2, .long wy), (4, .int (iI (d9 : Int))), (5, .int (nI i))] := hl
                          refine lv_iinc (v := iI ((d9 : Int) + (-1))) (lv' := [(4, .int (iI ((d9 : Int) + (-1)))), (0, .ref cq), (1, .int (nI lm)), (2, .long wy), (5, .int (nI i))]) hx hb dX0_within_135 hl (k := 3) rfl (add_iI (a := (d9 : Int)) (b := (-1)) rfl rfl) (by decide) rfl (fun ls hl => ?_)
                          refine lv_goto (tgt := 38) hx hb dX0_within_138 (by decide) ?_
                          exact ih38 d9 ((d9 : Int) + (-1)) wy M8 M9 (by first | assumption | omega) (by omega) (fun t ht e h9 h8 => by by_cases e9 : e = d9; (rw [e9]; exact hRi t (by omega)); (exact hR2 t ht e (by omega) h8)) (fun _ => hwn) (by omega) _ _ hP hD hS ls (lv_sub hl [1, 2, 3, 0] rfl)
                        · refine lv_aload_n hx hb dX0_within_107 rfl (lv_at hl 0 rfl) ?_
                          refine va_get (D := D) (ci := 0) (v := .ref q4) (C := RX0) (T := TX0) (N := 6) hx hb hts in_X0 hown hK (hR hS) 0 rfl rfl 3 (by decide) hf_24 (fun _ h9 => h9) rfl dX0_within_108 ?_
                          refine lv_iload hx hb dX0_within_111 (lv_at hl 4 rfl) ?_
                          refine gr_ald (ra := rt) hx hb hK (hR hS) 4 4 rfl rfl (j := i) rfl (by omega) dX0_within_113 ?_
                          refine lv_iload hx hb dX0_within_114 (lv_at hl 3 rfl) ?_
                          refine lv_lload_n hx hb dX0_within_116 rfl (lv_at hl 2 rfl) ?_
                          refine lv_aload_n hx hb dX0_within_117 rfl (lv_at hl 0 rfl) ?_
                          refine va_get (D := D) (ci := 0) (v := .ref q3) (C := RX0) (T := TX0) (N := 6) hx hb hts in_X0 hown hK (hR hS) 0 rfl rfl 2 (by decide) hf_21 (fun _ h9 => h9) rfl dX0_within_118 ?_
                          refine lv_iload hx hb dX0_within_121 (lv_at hl 4 rfl) ?_
                          refine gr_ald (ra := rs) hx hb hK (hR hS) 3 4 rfl rfl (j := i) rfl (by omega) dX0_within_123 ?_
                          refine lv_iload hx hb dX0_within_124 (lv_at hl 3 rfl) ?_
                          refine la_n (f := M8 i) hx hb hK hP (0 + i) 1 (row4 (w := [(rs 0, aL cs 21 (M8 0)), (rs 1, aL cs 21 (M8 1)), (rs 2, aL cs 21 (M8 2)), (rs 3, aL cs 21 (M8 3)), (rt 0, aL cs 21 (M9 0)), (rt 1, aL cs 21 (M9 1)), (rt 2, aL cs 21 (M9 2)), (rt 3, aL cs 21 (M9 3))]) (q := 0) (ra := rs) (g := fun r8 => aL cs 21 (M8 r8)) rfl rfl rfl rfl (by omega)) rfl (j := d9) rfl (by omega) (by decide) dX0_within_126 ?_
                          refine tp_l (show M8 i d9 = lN (tx_wS nn dd (tx_Pk kn) cc9 lm d9 i) from hSn i (by omega)) ?_
                          refine lv_lsub hx hb dX0_within_127 ?_
                          refine tp_l (show wy - (lN (tx_wS nn dd (tx_Pk kn) cc9 lm d9 i)) = lN (tx_wR nn dd (tx_Pk kn) cc9 lm d9 i) from by rw [hwn]; exact tx_wR_e (by omega) (by omega)) ?_
                          refine ls_n (f := M9 i) hx hb hK hP hD hS (4 + i) 1 (row4 (w := [(rs 0, aL cs 21 (M8 0)), (rs 1, aL cs 21 (M8 1)), (rs 2, aL cs 21 (M8 2)), (rs 3, aL cs 21 (M8 3)), (rt 0, aL cs 21 (M9 0)), (rt 1, aL cs 21 (M9 1)), (rt 2, aL cs 21 (M9 2)), (rt 3, aL cs 21 (M9 3))]) (q := 4) (ra := rt) (g := fun r8 => aL cs 21 (M9 r8)) rfl rfl rfl rfl (by omega)) rfl (j := d9) rfl (by omega) (by decide) dX0_within_128 (fun H locs hP hD hS => ?_)
                          have e9 : ([(rs 0, aL cs 21 (M8 0)), (rs 1, aL cs 21 (M8 1)), (rs 2, aL cs 21 (M8 2)), (rs 3, aL cs 21 (M8 3)), (rt 0, aL cs 21 (M9 0)), (rt 1, aL cs 21 (M9 1)), (rt 2, aL cs 21 (M9 2)), (rt 3, aL cs 21 (M9 3))] : va_W).set (4 + i) (rt i, aL cs 21 (vp_updL (M9 i) d9 (lN (tx_wR nn dd (tx_Pk kn) cc9 lm d9 i)))) = [(rs 0, aL cs 21 (M8 0)), (rs 1, aL cs 21 (M8 1)), (rs 2, aL cs 21 (M8 2)), (rs 3, aL cs 21 (M8 3)), (rt 0, aL cs 21 ((updML M9 i d9 (lN (tx_wR nn dd (tx_Pk kn) cc9 lm d9 i))) 0)), (rt 1, aL cs 21 ((updML M9 i d9 (lN (tx_wR nn dd (tx_Pk kn) cc9 lm d9 i))) 1)), (rt 2, aL cs 21 ((updML M9 i d9 (lN (tx_wR nn dd (tx_Pk kn) cc9 lm d9 i))) 2)), (rt 3, aL cs 21 ((updML M9 i d9 (lN (tx_wR nn dd (tx_Pk kn) cc9 lm d9 i))) 3))] := set4 (fun r9 => ([(rs 0, aL cs 21 (M8 0)), (rs 1, aL cs 21 (M8 1)), (rs 2, aL cs 21 (M8 2)), (rs 3, aL cs 21 (M8 3)), (rt 0, aL cs 21 (M9 0)), (rt 1, aL cs 21 (M9 1)), (rt 2, aL cs 21 (M9 2)), (rt 3, aL cs 21 (M9 3))] : va_W).set (4 + r9) (rt r9, aL cs 21 (vp_updL (M9 r9) d9 (lN (tx_wR nn dd (tx_Pk kn) cc9 lm d9 i)))) = [(rs 0, aL cs 21 (M8 0)), (rs 1, aL cs 21 (M8 1)), (rs 2, aL cs 21 (M8 2)), (rs 3, aL cs 21 (M8 3)), (rt 0, aL cs 21 ((updML M9 r9 d9 (lN (tx_wR nn dd (tx_Pk kn) cc9 lm d9 i))) 0)), (rt 1, aL cs 21 ((updML M9 r9 d9 (lN (tx_wR nn dd (tx_Pk kn) cc9 lm d9 i))) 1)), (rt 2, aL cs 21 ((updML M9 r9 d9 (lN (tx_wR nn dd (tx_Pk kn) cc9 lm d9 i))) 2)), (rt 3, aL cs 21 ((updML M9 r9 d9 (lN (tx_wR nn dd (tx_Pk kn) cc9 lm d9 i))) 3))]) rfl rfl rfl rfl (by omega)
                          rw [e9] at hP hD
                          refine lv_iinc (v := nI (i + 1)) (lv' := [(5, .int (nI (i + 1))), (0, .ref cq), (1, .int (nI lm)), (2, .long wy), (4, .int (nI d9))]) hx hb dX0_within_129 hl (k := 4) rfl (inc_n i 1) (by decide) rfl (fun ls hl => ?_)
                          refine lv_goto (tgt := 98) hx hb dX0_within_132 (by decide) ?_
                          exact ih98 (i + 1) (updML M9 i d9 (lN (tx_wR nn dd (tx_Pk kn) cc9 lm d9 i))) (by first | assumption | omega) (fun t ht => by by_cases e : t = i; (rw [e, updML_s]); (rw [updML_t e]; exact hRi t (by omega))) (fun t ht e h9 h8 => by rw [updML_j (by omega)]; exact hR2 t ht e h9 h8) (by omega) _ _ hP hD hS ls (lv_sub hl [1, 2, 3, 4, 0] rfl)
                    exact loop98 _ 0 M7 (by first | assumption | omega) (fun t ht => absurd ht (Nat.not_lt_zero t)) hRr (Nat.lt_succ_self _) _ _ hP hD hS ls (lv_sub hl [1, 2, 3, 4, 0] rfl)
                  · refine lv_aload_n hx hb dX0_within_57 rfl (lv_at hl 0 rfl) ?_
                    refine va_get (D := D) (ci := 0) (v := .ref q3) (C := RX0) (T := TX0) (N := 6) hx hb hts in_X0 hown hK (hR hS) 0 rfl rfl 2 (by decide) hf_21 (fun _ h9 => h9) rfl dX0_within_58 ?_
                    refine lv_iload hx hb dX0_within_61 (lv_at hl 4 rfl) ?_
                    refine gr_ald (ra := rs) hx hb hK (hR hS) 3 4 rfl rfl (j := i) rfl (by omega) dX0_within_63 ?_
                    refine lv_iload hx hb dX0_within_64 (lv_at hl 3 rfl) ?_
                    refine lv_aload_n hx hb dX0_within_66 rfl (lv_at hl 0 rfl) ?_
                    refine lv_iload hx hb dX0_within_67 (lv_at hl 4 rfl) ?_
                    refine lv_iload hx hb dX0_within_69 (lv_at hl 3 rfl) ?_
                    refine lv_iload_n hx hb dX0_within_71 rfl (lv_at hl 1 rfl) ?_
                    refine cV_l (As := [.int (nI i), .int (nI d9), .int (nI lm)]) (rest := [.int (nI d9), .ref (rs i)]) (cr := [(cq, .inr (0, [.ref q1, .ref q2, .ref q3, .ref q4, .int (nI dd), .int (nI nn)])), (q1, aI cs 20 (tx_nf kn)), (q2, aZ cs 4 z9), (q4, aM cs rt), (rt 0, aL cs 21 (M7 0)), (rt 1, aL cs 21 (M7 1)), (rt 2, aL cs 21 (M7 2)), (rt 3, aL cs 21 (M7 3))]) (cw1 := []) ⟨hx, hb, hml, hown, hts⟩ (c_X0_waysOfStretch l D cs _ cq q1 q2 q3 q4 dd nn cc9 z9 kn rt M7 i d9 lm (by first | assumption | omega) (by first | assumption | omega) (by first | assumption | omega) (by first | assumption | omega) (by omega) (by omega) (by first | assumption | omega) (fun e h9 h8 => hRr i (by omega) e (by omega) h8)) (cwV 3 hts gX0_within_X0_waysOfStretch rfl rfl rfl (by decide +kernel) ⟨Nat.le_of_ble_eq_true rfl, Nat.le_of_ble_eq_true rfl⟩) hK hP hD hS hA (((hR hS).app hP).sub [0, 1, 2, 4, 9, 10, 11, 12] rfl) (dt_of hN [0, 1, 2, 4, 9, 10, 11, 12] (by decide) rfl) [] rfl 0 rfl rfl rfl hl.1 rfl (Nat.le_of_ble_eq_true rfl) dX0_within_72 ⟨Nat.le_of_ble_eq_true rfl, Nat.le_of_ble_eq_true rfl⟩ (fun _ => rfl) (fun _ => rfl) (fun r_1 u9 H locs hw_2 hP hD hS => ?_)
                    have hP : va_P D vwCl [(rs 0, aL cs 21 (M8 0)), (rs 1, aL cs 21 (M8 1)), (rs 2, aL cs 21 (M8 2)), (rs 3, aL cs 21 (M8 3)), (rt 0, aL cs 21 (M7 0)), (rt 1, aL cs 21 (M7 1)), (rt 2, aL cs 21 (M7 2)), (rt 3, aL cs 21 (M7 3))] H := hP
                    have hD : va_D A [(rs 0, aL cs 21 (M8 0)), (rs 1, aL cs 21 (M8 1)), (rs 2, aL cs 21 (M8 2)), (rs 3, aL cs 21 (M8 3)), (rt 0, aL cs 21 (M7 0)), (rt 1, aL cs 21 (M7 1)), (rt 2, aL cs 21 (M7 2)), (rt 3, aL cs 21 (M7 3))] := hD
                    subst r_1
                    refine ls_n (f := M8 i) hx hb hK hP hD hS (0 + i) 1 (row4 (w := [(rs 0, aL cs 21 (M8 0)), (rs 1, aL cs 21 (M8 1)), (rs 2, aL cs 21 (M8 2)), (rs 3, aL cs 21 (M8 3)), (rt 0, aL cs 21 (M7 0)), (rt 1, aL cs 21 (M7 1)), (rt 2, aL cs 21 (M7 2)), (rt 3, aL cs 21 (M7 3))]) (q := 0) (ra := rs) (g := fun r8 => aL cs 21 (M8 r8)) rfl rfl rfl rfl (by omega)) rfl (j := d9) rfl (by omega) (by decide) dX0_within_75 (fun H locs hP hD hS => ?_)
                    have e9 : ([(rs 0, aL cs 21 (M8 0)), (rs 1, aL cs 21 (M8 1)), (rs 2, aL cs 21 (M8 2)), (rs 3, aL cs 21 (M8 3)), (rt 0, aL cs 21 (M7 0)), (rt 1, aL cs 21 (M7 1)), (rt 2, aL cs 21 (M7 2)), (rt 3, aL cs 21 (M7 3))] : va_W).set (0 + i) (rs i, aL cs 21 (vp_updL (M8 i) d9 (lN (tx_wS nn dd (tx_Pk kn) cc9 lm d9 i)))) = [(rs 0, aL cs 21 ((updML M8 i d9 (lN (tx_wS nn dd (tx_Pk kn) cc9 lm d9 i))) 0)), (rs 1, aL cs 21 ((updML M8 i d9 (lN (tx_wS nn dd (tx_Pk kn) cc9 lm d9 i))) 1)), (rs 2, aL cs 21 ((updML M8 i d9 (lN (tx_wS nn dd (tx_Pk kn) cc9 lm d9 i))) 2)), (rs 3, aL cs 21 ((updML M8 i d9 (lN (tx_wS nn dd (tx_Pk kn) cc9 lm d9 i))) 3)), (rt 0, aL cs 21 (M7 0)), (rt 1, aL cs 21 (M7 1)), (rt 2, aL cs 21 (M7 2)), (rt 3, aL cs 21 (M7 3))] := set4 (fun r9 => ([(rs 0, aL cs 21 (M8 0)), (rs 1, aL cs 21 (M8 1)), (rs 2, aL cs 21 (M8 2)), (rs 3, aL cs 21 (M8 3)), (rt 0, aL cs 21 (M7 0)), (rt 1, aL cs 21 (M7 1)), (rt 2, aL cs 21 (M7 2)), (rt 3, aL cs 21 (M7 3))] : va_W).set (0 + r9) (rs r9, aL cs 21 (vp_updL (M8 r9) d9 (lN (tx_wS nn dd (tx_Pk kn) cc9 lm d9 i)))) = [(rs 0, aL cs 21 ((updML M8 r9 d9 (lN (tx_wS nn dd (tx_Pk kn) cc9 lm d9 i))) 0)), (rs 1, aL cs 21 ((updML M8 r9 d9 (lN (tx_wS nn dd (tx_Pk kn) cc9 lm d9 i))) 1)), (rs 2, aL cs 21 ((updML M8 r9 d9 (lN (tx_wS nn dd (tx_Pk kn) cc9 lm d9 i))) 2)), (rs 3, aL cs 21 ((updML M8 r9 d9 (lN (tx_wS nn dd (tx_Pk kn) cc9 lm d9 i))) 3)), (rt 0, aL cs 21 (M7 0)), (rt 1, aL cs 21 (M7 1)), (rt 2, aL cs 21 (M7 2)), (rt 3, aL cs 21 (M7 3))]) rfl rfl rfl rfl (by omega)
                    rw [e9] at hP hD
                    refine lv_lload_n hx hb dX0_within_76 rfl (lv_at hl 2 rfl) ?_
                    refine lv_aload_n hx hb dX0_within_77 rfl (lv_at hl 0 rfl) ?_
                    refine va_get (D := D) (ci := 0) (v := .ref q3) (C := RX0) (T := TX0) (N := 6) hx hb hts in_X0 hown hK (hR hS) 0 rfl rfl 2 (by decide) hf_21 (fun _ h9 => h9) rfl dX0_within_78 ?_
                    refine lv_iload hx hb dX0_within_81 (lv_at hl 4 rfl) ?_
                    refine gr_ald (ra := rs) hx hb hK (hR hS) 3 4 rfl rfl (j := i) rfl (by omega) dX0_within_83 ?_
                    refine lv_iload hx hb dX0_within_84 (lv_at hl 3 rfl) ?_
                    refine la_n (f := (updML M8 i d9 (lN (tx_wS nn dd (tx_Pk kn) cc9 lm d9 i))) i) hx hb hK hP (0 + i) 1 (row4 (w := [(rs 0, aL cs 21 ((updML M8 i d9 (lN (tx_wS nn dd (tx_Pk kn) cc9 lm d9 i))) 0)), (rs 1, aL cs 21 ((updML M8 i d9 (lN (tx_wS nn dd (tx_Pk kn) cc9 lm d9 i))) 1)), (rs 2, aL cs 21 ((updML M8 i d9 (lN (tx_wS nn dd (tx_Pk kn) cc9 lm d9 i))) 2)), (rs 3, aL cs 21 ((updML M8 i d9 (lN (tx_wS nn dd (tx_Pk kn) cc9 lm d9 i))) 3)), (rt 0, aL cs 21 (M7 0)), (rt 1, aL cs 21 (M7 1)), (rt 2, aL cs 21 (M7 2)), (rt 3, aL cs 21 (M7 3))]) (q := 0) (ra := rs) (g := fun r8 => aL cs 21 ((updML M8 i d9 (lN (tx_wS nn dd (tx_Pk kn) cc9 lm d9 i))) r8)) rfl rfl rfl rfl (by omega)) rfl (j := d9) rfl (by omega) (by decide) dX0_within_86 ?_
                    refine tp_l (show ((updML M8 i d9 (lN (tx_wS nn dd (tx_Pk kn) cc9 lm d9 i))) i) d9 = lN (tx_wS nn dd (tx_Pk kn) cc9 lm d9 i) from updML_s) ?_
                    refine lv_ladd hx hb dX0_within_87 ?_
                    refine lv_lstore_n (lv' := [(2, .long (wy + (lN (tx_wS nn dd (tx_Pk kn) cc9 lm d9 i)))), (0, .ref cq), (1, .int (nI lm)), (4, .int (nI d9)), (5, .int (nI i))]) hx hb dX0_within_88 rfl hl (by decide) rfl (fun ls hl => ?_)
                    refine lv_iinc (v := nI (i + 1)) (lv' := [(5, .int (nI (i + 1))), (2, .long (wy + (lN (tx_wS nn dd (tx_Pk kn) cc9 lm d9 i)))), (0, .ref cq), (1, .int (nI lm)), (4, .int (nI d9))]) hx hb dX0_within_89 hl (k := 4) rfl (inc_n i 1) (by decide) rfl (fun ls hl => ?_)
                    refine lv_goto (tgt := 48) hx hb dX0_within_92 (by decide) ?_
                    exact ih48 (i + 1) (wy + (lN (tx_wS nn dd (tx_Pk kn) cc9 lm d9 i))) (updML M8 i d9 (lN (tx_wS nn dd (tx_Pk kn) cc9 lm d9 i))) (by first | assumption | omega) (fun t ht => by by_cases e : t = i; (rw [e, updML_s]); (rw [updML_t e]; exact hSi t (by omega))) (by rw [hwi, lN_add]; rfl) (by omega) _ _ hP hD hS ls (lv_sub hl [2, 3, 1, 4, 0] rfl)
              exact loop48 _ 0 0 M6 (by first | assumption | omega) (fun t ht => absurd ht (Nat.not_lt_zero t)) rfl (Nat.lt_succ_self _) _ _ hP hD hS ls (lv_sub hl [2, 3, 1, 4, 0] rfl)
        exact loop38 _ dd ((dd : Int) - 1) 0 Ms M6 (by first | assumption | omega) rfl (fun t ht e h9 h8 => by rw [show e = dd by omega, h0 t (by omega), tx_wR, if_pos (Nat.le_refl dd)]; rfl) (fun z => absurd z (Nat.lt_irrefl _)) (Nat.lt_succ_self _) _ _ hP hD hS ls (lv_sub hl [2, 3, 1, 0] rfl)
      · refine lv_aload_n hx hb dX0_within_10 rfl (lv_at hl 0 rfl) ?_
        refine va_get (D := D) (ci := 0) (v := .ref q4) (C := RX0) (T := TX0) (N := 6) hx hb hts in_X0 hown hK (hR hS) 0 rfl rfl 3 (by decide) hf_24 (fun _ h9 => h9) rfl dX0_within_11 ?_
        refine lv_iload_n hx hb dX0_within_14 rfl (lv_at hl 2 rfl) ?_
        refine gr_ald (ra := rt) hx hb hK (hR hS) 4 4 rfl rfl (j := i) rfl (by omega) dX0_within_15 ?_
        refine lv_aload_n hx hb dX0_within_16 rfl (lv_at hl 0 rfl) ?_
        refine va_get (D := D) (ci := 0) (v := .int (nI dd)) (C := RX0) (T := TX0) (N := 6) hx hb hts in_X0 hown hK (hR hS) 0 rfl rfl 4 (by decide) hf_27 (fun _ h9 => h9) rfl dX0_within_17 ?_
        refine lv_lconst (v := 1) hx hb dX0_within_20 (by decide) ?_
        refine ls_n (f := M6 i) hx hb hK hP hD hS (4 + i) 1 (row4 (w := [(rs 0, aL cs 21 (Ms 0)), (rs 1, aL cs 21 (Ms 1)), (rs 2, aL cs 21 (Ms 2)), (rs 3, aL cs 21 (Ms 3)), (rt 0, aL cs 21 (M6 0)), (rt 1, aL cs 21 (M6 1)), (rt 2, aL cs 21 (M6 2)), (rt 3, aL cs 21 (M6 3))]) (q := 4) (ra := rt) (g := fun r8 => aL cs 21 (M6 r8)) rfl rfl rfl rfl (by omega)) rfl (j := dd) rfl (by omega) (by decide) dX0_within_21 (fun H locs hP hD hS => ?_)
        have e9 : ([(rs 0, aL cs 21 (Ms 0)), (rs 1, aL cs 21 (Ms 1)), (rs 2, aL cs 21 (Ms 2)), (rs 3, aL cs 21 (Ms 3)), (rt 0, aL cs 21 (M6 0)), (rt 1, aL cs 21 (M6 1)), (rt 2, aL cs 21 (M6 2)), (rt 3, aL cs 21 (M6 3))] : va_W).set (4 + i) (rt i, aL cs 21 (vp_updL (M6 i) dd 1)) = [(rs 0, aL cs 21 (Ms 0)), (rs 1, aL cs 21 (Ms 1)), (rs 2, aL cs 21 (Ms 2)), (rs 3, aL cs 21 (Ms 3)), (rt 0, aL cs 21 ((updML M6 i dd 1) 0)), (rt 1, aL cs 21 ((updML M6 i dd 1) 1)), (rt 2, aL cs 21 ((updML M6 i dd 1) 2)), (rt 3, aL cs 21 ((updML M6 i dd 1) 3))] := set4 (fun r9 => ([(rs 0, aL cs 21 (Ms 0)), (rs 1, aL cs 21 (Ms 1)), (rs 2, aL cs 21 (Ms 2)), (rs 3, aL cs 21 (Ms 3)), (rt 0, aL cs 21 (M6 0)), (rt 1, aL cs 21 (M6 1)), (rt 2, aL cs 21 (M6 2)), (rt 3, aL cs 21 (M6 3))] : va_W).set (4 + r9) (rt r9, aL cs 21 (vp_updL (M6 r9) dd 1)) = [(rs 0, aL cs 21 (Ms 0)), (rs 1, aL cs 21 (Ms 1)), (rs 2, aL cs 21 (Ms 2)), (rs 3, aL cs 21 (Ms 3)), (rt 0, aL cs 21 ((updML M6 r9 dd 1) 0)), (rt 1, aL cs 21 ((updML M6 r9 dd 1) 1)), (rt 2, aL cs 21 ((updML M6 r9 dd 1) 2)), (rt 3, aL cs 21 ((updML M6 r9 dd 1) 3))]) rfl rfl rfl rfl (by omega)
        rw [e9] at hP hD
        refine lv_iinc (v := nI (i + 1)) (lv' := [(2, .int (nI (i + 1))), (0, .ref cq), (1, .int (nI lm))]) hx hb dX0_within_22 hl (k := 2) rfl (inc_n i 1) (by decide) rfl (fun ls hl => ?_)
        refine lv_goto (tgt := 2) hx hb dX0_within_25 (by decide) ?_
        exact ih2 (i + 1) (updML M6 i dd 1) (by first | assumption | omega) (fun t ht => by by_cases e : t = i; (rw [e, updML_s]); (rw [updML_t e]; exact h0 t (by omega))) (by omega) _ _ hP hD hS ls (lv_sub hl [1, 2, 0] rfl)
  exact loop2 _ 0 Mt (by first | assumption | omega) (fun t ht => absurd ht (Nat.not_lt_zero t)) (Nat.lt_succ_self _) _ _ hP hD hS ls (lv_sub hl [1, 2, 0] rfl)
set_option maxHeartbeats 4000000 in
set_option maxRecDepth 100000 in
theorem c_X0_withLongest (l : Launch) (D : va_G) (cs : Nat → ClassId) (sz : Nat) (cq : Nat) (q1 : Nat) (q2 : Nat) (q3 : Nat) (q4 : Nat) (dd : Nat) (nn : Nat) (cc9 : Nat → Bool) (z9 : Nat → Int32) (kn : Nat → Nat) (rs : Nat → Nat) (rt : Nat → Nat) (Ms : Nat → Nat → Int64) (Mt : Nat → Nat → Int64) (lq : Nat) (hnn : nn ≤ 4) (hdd : dd ≤ 20) (hd1 : 1 ≤ dd) (hkn : ∀ e, kn e ≤ 9) (hCt : ∀ t, t < nn → z9 t = bI (cc9 t)) (hl9 : lq ≤ 20) : mL (S := (Nat → Nat → Int64) × (Nat → Nat → Int64)) l yX0_withLongest wsX0_withLongest ({ frames := 3, cells := 0, slots := 0, locals := 74 } : Room) D (tyc cs) sz [.ref cq, .int (nI lq)] [(cq, .inr (0, [.ref q1, .ref q2, .ref q3, .ref q4, .int (nI dd), .int (nI nn)])), (q1, aI cs 20 (tx_nf kn)), (q2, aZ cs 4 z9), (q3, aM cs rs), (q4, aM cs rt)] [(rs 0, aL cs 21 (Ms 0)), (rs 1, aL cs 21 (Ms 1)), (rs 2, aL cs 21 (Ms 2)), (rs 3, aL cs 21 (Ms 3)), (rt 0, aL cs 21 (Mt 0)), (rt 1, aL cs 21 (Mt 1)), (rt 2, aL cs 21 (Mt 2)), (rt 3, aL cs 21 (Mt 3))] (fun (r : Int64) (u : (Nat → Nat → Int64) × (Nat → Nat → Int64)) => match u with | (Ms2, Mt2) => r = lN (tx_wl nn dd (tx_Pk kn) cc9 lq)) (fun (u : (Nat → Nat → Int64) × (Nat → Nat → Int64)) => match u with | (Ms2, Mt2) => [(rs 0, aL cs 21 (Ms2 0)), (rs 1, aL cs 21 (Ms2 1)), (rs 2, aL cs 21 (Ms2 2)), (rs 3, aL cs 21 (Ms2 3)), (rt 0, aL cs 21 (Mt2 0)), (rt 1, aL cs 21 (Mt2 1)), (rt 2, aL cs 21 (Mt2 2)), (rt 3, aL cs 21 (Mt2 3))]) 0 0 := by
  unfold mL
  refine Met.ofW (cc := cX0_withLongest) (maxL := 2) (ret := (some .long)) (by decide) rfl ?_
  intro p e s m args below meth c s₁ B hml hv
  obtain ⟨rfl, hsz, hP, hK, hD0⟩ := hv
  have hx := B.exec
  have hb := B.bytes
  have hr := B.returns
  have hts := atoms_spec (ws := wsX0_withLongest) B.pre
  have hown : s.vm.findClass RX0 = some m.cls := findClass_of_methodNamed B.named
  have hlocks := B.notSynchronized
  subst hsz
  have hR := @en_R _ _ _ [(cq, .inr (0, [.ref q1, .ref q2, .ref q3, .ref q4, .int (nI dd), .int (nI nn)])), (q1, aI cs 20 (tx_nf kn)), (q2, aZ cs 4 z9), (q3, aM cs rs), (q4, aM cs rt)] [(rs 0, aL cs 21 (Ms 0)), (rs 1, aL cs 21 (Ms 1)), (rs 2, aL cs 21 (Ms 2)), (rs 3, aL cs 21 (Ms 3)), (rt 0, aL cs 21 (Mt 0)), (rt 1, aL cs 21 (Mt 1)), (rt 2, aL cs 21 (Mt 2)), (rt 3, aL cs 21 (Mt 3))] _ hP hD0
  have hN := adN_of hD0
  have hD := en_D (wr := [(cq, .inr (0, [.ref q1, .ref q2, .ref q3, .ref q4, .int (nI dd), .int (nI nn)])), (q1, aI cs 20 (tx_nf kn)), (q2, aZ cs 4 z9), (q3, aM cs rs), (q4, aM cs rt)]) (ww := [(rs 0, aL cs 21 (Ms 0)), (rs 1, aL cs 21 (Ms 1)), (rs 2, aL cs 21 (Ms 2)), (rs 3, aL cs 21 (Ms 3)), (rt 0, aL cs 21 (Mt 0)), (rt 1, aL cs 21 (Mt 1)), (rt 2, aL cs 21 (Mt 2)), (rt 3, aL cs 21 (Mt 3))]) (sz := s.heap.size) hD0
  have hP := en_P (wr := [(cq, .inr (0, [.ref q1, .ref q2, .ref q3, .ref q4, .int (nI dd), .int (nI nn)])), (q1, aI cs 20 (tx_nf kn)), (q2, aZ cs 4 z9), (q3, aM cs rs), (q4, aM cs rt)]) (ww := [(rs 0, aL cs 21 (Ms 0)), (rs 1, aL cs 21 (Ms 1)), (rs 2, aL cs 21 (Ms 2)), (rs 3, aL cs 21 (Ms 3)), (rt 0, aL cs 21 (Mt 0)), (rt 1, aL cs 21 (Mt 1)), (rt 2, aL cs 21 (Mt 2)), (rt 3, aL cs 21 (Mt 3))]) hP
  generalize hAe : va_A [(rs 0, aL cs 21 (Ms 0)), (rs 1, aL cs 21 (Ms 1)), (rs 2, aL cs 21 (Ms 2)), (rs 3, aL cs 21 (Ms 3)), (rt 0, aL cs 21 (Mt 0)), (rt 1, aL cs 21 (Mt 1)), (rt 2, aL cs 21 (Mt 2)), (rt 3, aL cs 21 (Mt 3))] s.heap.size = A at hD hR ⊢
  have hA : ∀ q : Nat, s.heap.size ≤ q → A q := fun q h => by rw [← hAe]; exact Or.inr h
  have hS : va_S A s.heap s.heap [] := va_S.rf
  have hN : adN [cq, q1, q2, q3, q4, rs 0, rs 1, rs 2, rs 3, rt 0, rt 1, rt 2, rt 3] := hN
  have hl := lv_entry ([.ref cq, .int (nI lq)]) (n := 2) (Nat.le_of_ble_eq_true rfl)
  rw [lg_entry_eq]
  generalize (lg_sl ([.ref cq, .int (nI lq)]) ++ List.replicate (2 - (lg_sl ([.ref cq, .int (nI lq)])).length) Slot.unset).toArray = ls at hl ⊢
  have hl : lv_has ls 2 [(0, .ref cq), (1, .int (nI lq))] := hl
  refine lv_iload_n hx hb dX0_withLongest_0 rfl (lv_at hl 1 rfl) ?_
  refine bz_ne (a := lq) (tgt := 12) hx hb rfl (by omega) dX0_withLongest_1 (by decide) (fun c1 => ?_) (fun c1 => ?_)
  · refine lv_aload_n hx hb dX0_withLongest_12 rfl (lv_at hl 0 rfl) ?_
    refine lv_iload_n hx hb dX0_withLongest_13 rfl (lv_at hl 1 rfl) ?_
    refine cV_l (As := [.int (nI lq)]) (rest := []) (cr := [(cq, .inr (0, [.ref q1, .ref q2, .ref q3, .ref q4, .int (nI dd), .int (nI nn)])), (q1, aI cs 20 (tx_nf kn)), (q2, aZ cs 4 z9), (q3, aM cs rs), (q4, aM cs rt)]) (cw1 := [(rs 0, aL cs 21 (Ms 0)), (rs 1, aL cs 21 (Ms 1)), (rs 2, aL cs 21 (Ms 2)), (rs 3, aL cs 21 (Ms 3)), (rt 0, aL cs 21 (Mt 0)), (rt 1, aL cs 21 (Mt 1)), (rt 2, aL cs 21 (Mt 2)), (rt 3, aL cs 21 (Mt 3))]) ⟨hx, hb, hml, hown, hts⟩ (c_X0_within l D cs _ cq q1 q2 q3 q4 dd nn cc9 z9 kn rs rt Ms Mt lq (by first | assumption | omega) (by first | assumption | omega) (by first | assumption | omega) (by first | assumption | omega) (by first | assumption | omega) (by first | assumption | omega)) (cwV 1 hts gX0_withLongest_X0_within rfl rfl rfl (by decide +kernel) ⟨Nat.le_of_ble_eq_true rfl, Nat.le_of_ble_eq_true rfl⟩) hK hP hD hS hA (((hR hS).app hP).sub [0, 1, 2, 3, 4, 5, 6, 7, 8, 9, 10, 11, 12] rfl) (dt_of hN [0, 1, 2, 3, 4, 5, 6, 7, 8, 9, 10, 11, 12] (by decide) rfl) [0, 1, 2, 3, 4, 5, 6, 7] rfl 0 rfl rfl rfl hl.1 rfl (Nat.le_of_ble_eq_true rfl) dX0_withLongest_14 ⟨Nat.le_of_ble_eq_true rfl, Nat.le_of_ble_eq_true rfl⟩ (fun _ => rfl) (fun _ => rfl) (fun r_1 u9 H locs hw_2 hP hD hS => ?_)
    obtain ⟨Ms2_3, Mt2_4⟩ := u9
    have hP : va_P D vwCl [(rs 0, aL cs 21 (Ms2_3 0)), (rs 1, aL cs 21 (Ms2_3 1)), (rs 2, aL cs 21 (Ms2_3 2)), (rs 3, aL cs 21 (Ms2_3 3)), (rt 0, aL cs 21 (Mt2_4 0)), (rt 1, aL cs 21 (Mt2_4 1)), (rt 2, aL cs 21 (Mt2_4 2)), (rt 3, aL cs 21 (Mt2_4 3))] H := hP
    have hD : va_D A [(rs 0, aL cs 21 (Ms2_3 0)), (rs 1, aL cs 21 (Ms2_3 1)), (rs 2, aL cs 21 (Ms2_3 2)), (rs 3, aL cs 21 (Ms2_3 3)), (rt 0, aL cs 21 (Mt2_4 0)), (rt 1, aL cs 21 (Mt2_4 1)), (rt 2, aL cs 21 (Mt2_4 2)), (rt 3, aL cs 21 (Mt2_4 3))] := hD
    subst r_1
    refine lv_aload_n hx hb dX0_withLongest_17 rfl (lv_at hl 0 rfl) ?_
    refine lv_iload_n hx hb dX0_withLongest_18 rfl (lv_at hl 1 rfl) ?_
    refine lv_iconst (v := 1) hx hb dX0_withLongest_19 (by decide) ?_
    refine lv_isub hx hb dX0_withLongest_20 ?_
    refine tp_i (pk_sub (a := lq) (b := 1) (by omega)) ?_
    refine cV_l (As := [.int (nI (lq - 1))]) (rest := [.long (lN (tx_tot nn dd (tx_Pk kn) cc9 lq))]) (cr := [(cq, .inr (0, [.ref q1, .ref q2, .ref q3, .ref q4, .int (nI dd), .int (nI nn)])), (q1, aI cs 20 (tx_nf kn)), (q2, aZ cs 4 z9), (q3, aM cs rs), (q4, aM cs rt)]) (cw1 := [(rs 0, aL cs 21 (Ms2_3 0)), (rs 1, aL cs 21 (Ms2_3 1)), (rs 2, aL cs 21 (Ms2_3 2)), (rs 3, aL cs 21 (Ms2_3 3)), (rt 0, aL cs 21 (Mt2_4 0)), (rt 1, aL cs 21 (Mt2_4 1)), (rt 2, aL cs 21 (Mt2_4 2)), (rt 3, aL cs 21 (Mt2_4 3))]) ⟨hx, hb, hml, hown, hts⟩ (c_X0_within l D cs _ cq q1 q2 q3 q4 dd nn cc9 z9 kn rs rt Ms2_3 Mt2_4 (lq - 1) (by first | assumption | omega) (by first | assumption | omega) (by first | assumption | omega) (by first | assumption | omega) (by first | assumption | omega) (by first | assumption | omega)) (cwV 1 hts gX0_withLongest_X0_within rfl rfl rfl (by decide +kernel) ⟨Nat.le_of_ble_eq_true rfl, Nat.le_of_ble_eq_true rfl⟩) hK hP hD hS hA (((hR hS).app hP).sub [0, 1, 2, 3, 4, 5, 6, 7, 8, 9, 10, 11, 12] rfl) (dt_of hN [0, 1, 2, 3, 4, 5, 6, 7, 8, 9, 10, 11, 12] (by decide) rfl) [0, 1, 2, 3, 4, 5, 6, 7] rfl 0 rfl rfl rfl hl.1 rfl (Nat.le_of_ble_eq_true rfl) dX0_withLongest_21 ⟨Nat.le_of_ble_eq_true rfl, Nat.le_of_ble_eq_true rfl⟩ (fun _ => rfl) (fun _ => rfl) (fun r_5 u9 H locs hw_6 hP hD hS => ?_)
    obtain ⟨Ms2_7, Mt2_8⟩ := u9
    have hP : va_P D vwCl [(rs 0, aL cs 21 (Ms2_7 0)), (rs 1, aL cs 21 (Ms2_7 1)), (rs 2, aL cs 21 (Ms2_7 2)), (rs 3, aL cs 21 (Ms2_7 3)), (rt 0, aL cs 21 (Mt2_8 0)), (rt 1, aL cs 21 (Mt2_8 1)), (rt 2, aL cs 21 (Mt2_8 2)), (rt 3, aL cs 21 (Mt2_8 3))] H := hP
    have hD : va_D A [(rs 0, aL cs 21 (Ms2_7 0)), (rs 1, aL cs 21 (Ms2_7 1)), (rs 2, aL cs 21 (Ms2_7 2)), (rs 3, aL cs 21 (Ms2_7 3)), (rt 0, aL cs 21 (Mt2_8 0)), (rt 1, aL cs 21 (Mt2_8 1)), (rt 2, aL cs 21 (Mt2_8 2)), (rt 3, aL cs 21 (Mt2_8 3))] := hD
    subst r_5
    refine lv_lsub hx hb dX0_withLongest_24 ?_
    exact rt_l hx hb hr hlocks (Ms2_7, Mt2_8) (by rw [tx_wl_e, if_neg (by omega)]) hP hD hS dX0_withLongest_25
  · refine lv_aload_n hx hb dX0_withLongest_4 rfl (lv_at hl 0 rfl) ?_
    refine lv_iconst (v := 0) hx hb dX0_withLongest_5 (by decide) ?_
    refine cV_l (As := [.int 0]) (rest := []) (cr := [(cq, .inr (0, [.ref q1, .ref q2, .ref q3, .ref q4, .int (nI dd), .int (nI nn)])), (q1, aI cs 20 (tx_nf kn)), (q2, aZ cs 4 z9), (q3, aM cs rs), (q4, aM cs rt)]) (cw1 := [(rs 0, aL cs 21 (Ms 0)), (rs 1, aL cs 21 (Ms 1)), (rs 2, aL cs 21 (Ms 2)), (rs 3, aL cs 21 (Ms 3)), (rt 0, aL cs 21 (Mt 0)), (rt 1, aL cs 21 (Mt 1)), (rt 2, aL cs 21 (Mt 2)), (rt 3, aL cs 21 (Mt 3))]) ⟨hx, hb, hml, hown, hts⟩ (c_X0_within l D cs _ cq q1 q2 q3 q4 dd nn cc9 z9 kn rs rt Ms Mt 0 (by first | assumption | omega) (by first | assumption | omega) (by first | assumption | omega) (by first | assumption | omega) (by first | assumption | omega) (by first | assumption | omega)) (cwV 1 hts gX0_withLongest_X0_within rfl rfl rfl (by decide +kernel) ⟨Nat.le_of_ble_eq_true rfl, Nat.le_of_ble_eq_true rfl⟩) hK hP hD hS hA (((hR hS).app hP).sub [0, 1, 2, 3, 4, 5, 6, 7, 8, 9, 10, 11, 12] rfl) (dt_of hN [0, 1, 2, 3, 4, 5, 6, 7, 8, 9, 10, 11, 12] (by decide) rfl) [0, 1, 2, 3, 4, 5, 6, 7] rfl 0 rfl rfl rfl hl.1 rfl (Nat.le_of_ble_eq_true rfl) dX0_withLongest_6 ⟨Nat.le_of_ble_eq_true rfl, Nat.le_of_ble_eq_true rfl⟩ (fun _ => rfl) (fun _ => rfl) (fun r_9 u9 H locs hw_10 hP hD hS => ?_)
    obtain ⟨Ms2_11, Mt2_12⟩ := u9
    have hP : va_P D vwCl [(rs 0, aL cs 21 (Ms2_11 0)), (rs 1, aL cs 21 (Ms2_11 1)), (rs 2, aL cs 21 (Ms2_11 2)), (rs 3, aL cs 21 (Ms2_11 3)), (rt 0, aL cs 21 (Mt2_12 0)), (rt 1, aL cs 21 (Mt2_12 1)), (rt 2, aL cs 21 (Mt2_12 2)), (rt 3, aL cs 21 (Mt2_12 3))] H := hP
    have hD : va_D A [(rs 0, aL cs 21 (Ms2_11 0)), (rs 1, aL cs 21 (Ms2_11 1)), (rs 2, aL cs 21 (Ms2_11 2)), (rs 3, aL cs 21 (Ms2_11 3)), (rt 0, aL cs 21 (Mt2_12 0)), (rt 1, aL cs 21 (Mt2_12 1)), (rt 2, aL cs 21 (Mt2_12 2)), (rt 3, aL cs 21 (Mt2_12 3))] := hD
    subst r_9
    refine lv_goto (tgt := 25) hx hb dX0_withLongest_9 (by decide) ?_
    exact rt_l hx hb hr hlocks (Ms2_11, Mt2_12) (by rw [tx_wl_e, if_pos (by omega)]) hP hD hS dX0_withLongest_25
set_option maxHeartbeats 4000000 in
set_option maxRecDepth 100000 in
theorem c_X0_thatPay (l : Launch) (D : va_G) (cs : Nat → ClassId) (sz : Nat) (cq : Nat) (q1 : Nat) (q2 : Nat) (q3 : Nat) (q4 : Nat) (dd : Nat) (nn : Nat) (cc9 : Nat → Bool) (z9 : Nat → Int32) (kn : Nat → Nat) (rs : Nat → Nat) (rt : Nat → Nat) (Ms : Nat → Nat → Int64) (Mt : Nat → Nat → Int64) (sq : Nat) (hnn : nn ≤ 4) (hdd : dd ≤ 20) (hd1 : 1 ≤ dd) (hkn : ∀ e, kn e ≤ 9) (hCt : ∀ t, t < nn → z9 t = bI (cc9 t)) (hsq : sq ≤ 400) : mL (S := (Nat → Nat → Int64) × (Nat → Nat → Int64)) l yX0_thatPay wsX0_thatPay ({ frames := 4, cells := 0, slots := 0, locals := 95 } : Room) D (tyc cs) sz [.ref cq, .int (nI sq)] [(cq, .inr (0, [.ref q1, .ref q2, .ref q3, .ref q4, .int (nI dd), .int (nI nn)])), (q1, aI cs 20 (tx_nf kn)), (q2, aZ cs 4 z9), (q3, aM cs rs), (q4, aM cs rt)] [(rs 0, aL cs 21 (Ms 0)), (rs 1, aL cs 21 (Ms 1)), (rs 2, aL cs 21 (Ms 2)), (rs 3, aL cs 21 (Ms 3)), (rt 0, aL cs 21 (Mt 0)), (rt 1, aL cs 21 (Mt 1)), (rt 2, aL cs 21 (Mt 2)), (rt 3, aL cs 21 (Mt 3))] (fun (r : Int64) (u : (Nat → Nat → Int64) × (Nat → Nat → Int64)) => match u with | (Ms2, Mt2) => r = lN (tx_pay nn dd (tx_Pk kn) cc9 sq)) (fun (u : (Nat → Nat → Int64) × (Nat → Nat → Int64)) => match u with | (Ms2, Mt2) => [(rs 0, aL cs 21 (Ms2 0)), (rs 1, aL cs 21 (Ms2 1)), (rs 2, aL cs 21 (Ms2 2)), (rs 3, aL cs 21 (Ms2 3)), (rt 0, aL cs 21 (Mt2 0)), (rt 1, aL cs 21 (Mt2 1)), (rt 2, aL cs 21 (Mt2 2)), (rt 3, aL cs 21 (Mt2 3))]) 0 0 := by
  unfold mL
  refine Met.ofW (cc := cX0_thatPay) (maxL := 3) (ret := (some .long)) (by decide) rfl ?_
  intro p e s m args below meth c s₁ B hml hv
  obtain ⟨rfl, hsz, hP, hK, hD0⟩ := hv
  have hx := B.exec
  have hb := B.bytes
  have hr := B.returns
  have hts := atoms_spec (ws := wsX0_thatPay) B.pre
  have hown : s.vm.findClass RX0 = some m.cls := findClass_of_methodNamed B.named
  have hlocks := B.notSynchronized
  subst hsz
  have hR := @en_R _ _ _ [(cq, .inr (0, [.ref q1, .ref q2, .ref q3, .ref q4, .int (nI dd), .int (nI nn)])), (q1, aI cs 20 (tx_nf kn)), (q2, aZ cs 4 z9), (q3, aM cs rs), (q4, aM cs rt)] [(rs 0, aL cs 21 (Ms 0)), (rs 1, aL cs 21 (Ms 1)), (rs 2, aL cs 21 (Ms 2)), (rs 3, aL cs 21 (Ms 3)), (rt 0, aL cs 21 (Mt 0)), (rt 1, aL cs 21 (Mt 1)), (rt 2, aL cs 21 (Mt 2)), (rt 3, aL cs 21 (Mt 3))] _ hP hD0
  have hN := adN_of hD0
  have hD := en_D (wr := [(cq, .inr (0, [.ref q1, .ref q2, .ref q3, .ref q4, .int (nI dd), .int (nI nn)])), (q1, aI cs 20 (tx_nf kn)), (q2, aZ cs 4 z9), (q3, aM cs rs), (q4, aM cs rt)]) (ww := [(rs 0, aL cs 21 (Ms 0)), (rs 1, aL cs 21 (Ms 1)), (rs 2, aL cs 21 (Ms 2)), (rs 3, aL cs 21 (Ms 3)), (rt 0, aL cs 21 (Mt 0)), (rt 1, aL cs 21 (Mt 1)), (rt 2, aL cs 21 (Mt 2)), (rt 3, aL cs 21 (Mt 3))]) (sz := s.heap.size) hD0
  have hP := en_P (wr := [(cq, .inr (0, [.ref q1, .ref q2, .ref q3, .ref q4, .int (nI dd), .int (nI nn)])), (q1, aI cs 20 (tx_nf kn)), (q2, aZ cs 4 z9), (q3, aM cs rs), (q4, aM cs rt)]) (ww := [(rs 0, aL cs 21 (Ms 0)), (rs 1, aL cs 21 (Ms 1)), (rs 2, aL cs 21 (Ms 2)), (rs 3, aL cs 21 (Ms 3)), (rt 0, aL cs 21 (Mt 0)), (rt 1, aL cs 21 (Mt 1)), (rt 2, aL cs 21 (Mt 2)), (rt 3, aL cs 21 (Mt 3))]) hP
  generalize hAe : va_A [(rs 0, aL cs 21 (Ms 0)), (rs 1, aL cs 21 (Ms 1)), (rs 2, aL cs 21 (Ms 2)), (rs 3, aL cs 21 (Ms 3)), (rt 0, aL cs 21 (Mt 0)), (rt 1, aL cs 21 (Mt 1)), (rt 2, aL cs 21 (Mt 2)), (rt 3, aL cs 21 (Mt 3))] s.heap.size = A at hD hR ⊢
  have hA : ∀ q : Nat, s.heap.size ≤ q → A q := fun q h => by rw [← hAe]; exact Or.inr h
  have hS : va_S A s.heap s.heap [] := va_S.rf
  have hN : adN [cq, q1, q2, q3, q4, rs 0, rs 1, rs 2, rs 3, rt 0, rt 1, rt 2, rt 3] := hN
  have hl := lv_entry ([.ref cq, .int (nI sq)]) (n := 3) (Nat.le_of_ble_eq_true rfl)
  rw [lg_entry_eq]
  generalize (lg_sl ([.ref cq, .int (nI sq)]) ++ List.replicate (3 - (lg_sl ([.ref cq, .int (nI sq)])).length) Slot.unset).toArray = ls at hl ⊢
  have hl : lv_has ls 3 [(0, .ref cq), (1, .int (nI sq))] := hl
  refine lv_iconst (v := 0) hx hb dX0_thatPay_0 (by decide) ?_
  refine lv_istore_n (lv' := [(2, .int 0), (0, .ref cq), (1, .int (nI sq))]) hx hb dX0_thatPay_1 rfl hl (by decide) rfl (fun ls hl => ?_)
  have loop2 : ∀ (n9 : Nat) (i : Nat) (hi : i ≤ 21) (hq : ∀ v, v < i → ¬ v * v = sq), 21 - i < n9 → ∀ (H : Heap) (locs : List Loc), va_P D vwCl [(rs 0, aL cs 21 (Ms 0)), (rs 1, aL cs 21 (Ms 1)), (rs 2, aL cs 21 (Ms 2)), (rs 3, aL cs 21 (Ms 3)), (rt 0, aL cs 21 (Mt 0)), (rt 1, aL cs 21 (Mt 1)), (rt 2, aL cs 21 (Mt 2)), (rt 3, aL cs 21 (Mt 3))] H → va_D A [(rs 0, aL cs 21 (Ms 0)), (rs 1, aL cs 21 (Ms 1)), (rs 2, aL cs 21 (Ms 2)), (rs 3, aL cs 21 (Ms 3)), (rt 0, aL cs 21 (Mt 0)), (rt 1, aL cs 21 (Mt 1)), (rt 2, aL cs 21 (Mt 2)), (rt 3, aL cs 21 (Mt 3))] → va_S A s.heap H locs → ∀ (ls : Array Slot), lv_has ls 3 [(0, .ref cq), (1, .int (nI sq)), (2, .int (nI i))] → W p l e (headSpec wsX0_thatPay ({ frames := 4, cells := 0, slots := 0, locals := 95 } : Room)).room s m ([.ref cq, .int (nI sq)] : List Value).toArray below meth c H locs 0 0 (MQ below (va_Ql (fun (r : Int64) (u : (Nat → Nat → Int64) × (Nat → Nat → Int64)) => match u with | (Ms2, Mt2) => r = lN (tx_pay nn dd (tx_Pk kn) cc9 sq)) (QB D (fun (u : (Nat → Nat → Int64) × (Nat → Nat → Int64)) => match u with | (Ms2, Mt2) => [(rs 0, aL cs 21 (Ms2 0)), (rs 1, aL cs 21 (Ms2 1)), (rs 2, aL cs 21 (Ms2 2)), (rs 3, aL cs 21 (Ms2 3)), (rt 0, aL cs 21 (Mt2 0)), (rt 1, aL cs 21 (Mt2 1)), (rt 2, aL cs 21 (Mt2 2)), (rt 3, aL cs 21 (Mt2 3))]) A) A) ([.ref cq, .int (nI sq)] : List Value).toArray s 0 0 A) (F0 m 2 ls []) := by
    intro n9
    induction n9 with
    | zero => intros; omega
    | succ n9 ih2 =>
      intro i hi hq hmu H locs hP hD hS ls hl
      refine lv_iload_n hx hb dX0_thatPay_2 rfl (lv_at hl 2 rfl) ?_
      refine lv_bipush (v := 20) hx hb dX0_thatPay_3 (by decide) ?_
      refine bn_gt (a := i) (b := 20) (tgt := 27) hx hb rfl rfl (by omega) (by decide) dX0_thatPay_5 (by decide) (fun c5 => ?_) (fun c5 => ?_)
      · refine lv_lconst (v := 0) hx hb dX0_thatPay_27 (by decide) ?_
        exact rt_l hx hb hr hlocks (Ms, Mt) (by rw [tx_pay_no (fun v h9 => hq v (by omega))]; rfl) hP hD hS dX0_thatPay_28
      · have hsl : i * i ≤ 20 * 20 := Nat.mul_le_mul (by omega) (by omega)
        refine lv_iload_n hx hb dX0_thatPay_8 rfl (lv_at hl 2 rfl) ?_
        refine lv_iload_n hx hb dX0_thatPay_9 rfl (lv_at hl 2 rfl) ?_
        refine lv_imul hx hb dX0_thatPay_10 ?_
        refine tp_i (pk_mul i i) ?_
        refine lv_iload_n hx hb dX0_thatPay_11 rfl (lv_at hl 1 rfl) ?_
        refine bn_ne (a := i * i) (b := sq) (tgt := 21) hx hb rfl rfl (by omega) (by omega) dX0_thatPay_12 (by decide) (fun c12 => ?_) (fun c12 => ?_)
        · refine lv_iinc (v := nI (i + 1)) (lv' := [(2, .int (nI (i + 1))), (0, .ref cq), (1, .int (nI sq))]) hx hb dX0_thatPay_21 hl (k := 2) rfl (inc_n i 1) (by decide) rfl (fun ls hl => ?_)
          refine lv_goto (tgt := 2) hx hb dX0_thatPay_24 (by decide) ?_
          exact ih2 (i + 1) (by first | assumption | omega) (fun v h9 => by by_cases e : v = i; (rw [e]; exact c12); (exact hq v (by omega))) (by omega) _ _ hP hD hS ls (lv_sub hl [1, 2, 0] rfl)
        · refine lv_aload_n hx hb dX0_thatPay_15 rfl (lv_at hl 0 rfl) ?_
          refine lv_iload_n hx hb dX0_thatPay_16 rfl (lv_at hl 2 rfl) ?_
          refine cV_l (As := [.int (nI i)]) (rest := []) (cr := [(cq, .inr (0, [.ref q1, .ref q2, .ref q3, .ref q4, .int (nI dd), .int (nI nn)])), (q1, aI cs 20 (tx_nf kn)), (q2, aZ cs 4 z9), (q3, aM cs rs), (q4, aM cs rt)]) (cw1 := [(rs 0, aL cs 21 (Ms 0)), (rs 1, aL cs 21 (Ms 1)), (rs 2, aL cs 21 (Ms 2)), (rs 3, aL cs 21 (Ms 3)), (rt 0, aL cs 21 (Mt 0)), (rt 1, aL cs 21 (Mt 1)), (rt 2, aL cs 21 (Mt 2)), (rt 3, aL cs 21 (Mt 3))]) ⟨hx, hb, hml, hown, hts⟩ (c_X0_withLongest l D cs _ cq q1 q2 q3 q4 dd nn cc9 z9 kn rs rt Ms Mt i (by first | assumption | omega) (by first | assumption | omega) (by first | assumption | omega) (by first | assumption | omega) (by first | assumption | omega) (by first | assumption | omega)) (cwV 1 hts gX0_thatPay_X0_withLongest rfl rfl rfl (by decide +kernel) ⟨Nat.le_of_ble_eq_true rfl, Nat.le_of_ble_eq_true rfl⟩) hK hP hD hS hA (((hR hS).app hP).sub [0, 1, 2, 3, 4, 5, 6, 7, 8, 9, 10, 11, 12] rfl) (dt_of hN [0, 1, 2, 3, 4, 5, 6, 7, 8, 9, 10, 11, 12] (by decide) rfl) [0, 1, 2, 3, 4, 5, 6, 7] rfl 0 rfl rfl rfl hl.1 rfl (Nat.le_of_ble_eq_true rfl) dX0_thatPay_17 ⟨Nat.le_of_ble_eq_true rfl, Nat.le_of_ble_eq_true rfl⟩ (fun _ => rfl) (fun _ => rfl) (fun r_1 u9 H locs hw_2 hP hD hS => ?_)
          obtain ⟨Ms2_3, Mt2_4⟩ := u9
          have hP : va_P D vwCl [(rs 0, aL cs 21 (Ms2_3 0)), (rs 1, aL cs 21 (Ms2_3 1)), (rs 2, aL cs 21 (Ms2_3 2)), (rs 3, aL cs 21 (Ms2_3 3)), (rt 0, aL cs 21 (Mt2_4 0)), (rt 1, aL cs 21 (Mt2_4 1)), (rt 2, aL cs 21 (Mt2_4 2)), (rt 3, aL cs 21 (Mt2_4 3))] H := hP
          have hD : va_D A [(rs 0, aL cs 21 (Ms2_3 0)), (rs 1, aL cs 21 (Ms2_3 1)), (rs 2, aL cs 21 (Ms2_3 2)), (rs 3, aL cs 21 (Ms2_3 3)), (rt 0, aL cs 21 (Mt2_4 0)), (rt 1, aL cs 21 (Mt2_4 1)), (rt 2, aL cs 21 (Mt2_4 2)), (rt 3, aL cs 21 (Mt2_4 3))] := hD
          subst r_1
          exact rt_l hx hb hr hlocks (Ms2_3, Mt2_4) (by rw [tx_pay_of (by omega) c12]) hP hD hS dX0_thatPay_20
  exact loop2 _ 0 (by first | assumption | omega) (fun v h9 => absurd h9 (Nat.not_lt_zero v)) (Nat.lt_succ_self _) _ _ hP hD hS ls (lv_sub hl [1, 2, 0] rfl)
set_option maxHeartbeats 4000000 in
set_option maxRecDepth 100000 in
theorem c_X0_thatPayWith (l : Launch) (D : va_G) (cs : Nat → ClassId) (sz : Nat) (cq : Nat) (q1 : Nat) (q2 : Nat) (q3 : Nat) (q4 : Nat) (dd : Nat) (nn : Nat) (cc9 : Nat → Bool) (z9 : Nat → Int32) (kn : Nat → Nat) (rs : Nat → Nat) (rt : Nat → Nat) (Ms : Nat → Nat → Int64) (Mt : Nat → Nat → Int64) (sq : Nat) (d : Nat) (t : Nat) (hnn : nn ≤ 4) (hdd : dd ≤ 20) (hd1 : 1 ≤ dd) (hkn : ∀ e, kn e ≤ 9) (hCt : ∀ t, t < nn → z9 t = bI (cc9 t)) (hsq : sq ≤ 400) (hd : d < dd) (ht : t ≤ 9) : mL (S := (Nat → Nat) × (Nat → Nat → Int64) × (Nat → Nat → Int64)) l yX0_thatPayWith wsX0_thatPayWith ({ frames := 5, cells := 0, slots := 0, locals := 117 } : Room) D (tyc cs) sz [.ref cq, .int (nI sq), .int (nI d), .int (nI t)] [(cq, .inr (0, [.ref q1, .ref q2, .ref q3, .ref q4, .int (nI dd), .int (nI nn)])), (q2, aZ cs 4 z9), (q3, aM cs rs), (q4, aM cs rt)] [(q1, aI cs 20 (tx_nf kn)), (rs 0, aL cs 21 (Ms 0)), (rs 1, aL cs 21 (Ms 1)), (rs 2, aL cs 21 (Ms 2)), (rs 3, aL cs 21 (Ms 3)), (rt 0, aL cs 21 (Mt 0)), (rt 1, aL cs 21 (Mt 1)), (rt 2, aL cs 21 (Mt 2)), (rt 3, aL cs 21 (Mt 3))] (fun (r : Int64) (u : (Nat → Nat) × (Nat → Nat → Int64) × (Nat → Nat → Int64)) => match u with | (kn2, Ms2, Mt2) => r = lN (if tx_Pk kn d t = true then tx_pay nn dd (tx_Pk (va_up kn d t)) cc9 sq else 0)) (fun (u : (Nat → Nat) × (Nat → Nat → Int64) × (Nat → Nat → Int64)) => match u with | (kn2, Ms2, Mt2) => [(q1, aI cs 20 (tx_nf kn2)), (rs 0, aL cs 21 (Ms2 0)), (rs 1, aL cs 21 (Ms2 1)), (rs 2, aL cs 21 (Ms2 2)), (rs 3, aL cs 21 (Ms2 3)), (rt 0, aL cs 21 (Mt2 0)), (rt 1, aL cs 21 (Mt2 1)), (rt 2, aL cs 21 (Mt2 2)), (rt 3, aL cs 21 (Mt2 3))]) 0 0 := by
  unfold mL
  refine Met.ofW (cc := cX0_thatPayWith) (maxL := 4) (ret := (some .long)) (by decide) rfl ?_
  intro p e s m args below meth c s₁ B hml hv
  obtain ⟨rfl, hsz, hP, hK, hD0⟩ := hv
  have hx := B.exec
  have hb := B.bytes
  have hr := B.returns
  have hts := atoms_spec (ws := wsX0_thatPayWith) B.pre
  have hown : s.vm.findClass RX0 = some m.cls := findClass_of_methodNamed B.named
  have hlocks := B.notSynchronized
  subst hsz
  have hR := @en_R _ _ _ [(cq, .inr (0, [.ref q1, .ref q2, .ref q3, .ref q4, .int (nI dd), .int (nI nn)])), (q2, aZ cs 4 z9), (q3, aM cs rs), (q4, aM cs rt)] [(q1, aI cs 20 (tx_nf kn)), (rs 0, aL cs 21 (Ms 0)), (rs 1, aL cs 21 (Ms 1)), (rs 2, aL cs 21 (Ms 2)), (rs 3, aL cs 21 (Ms 3)), (rt 0, aL cs 21 (Mt 0)), (rt 1, aL cs 21 (Mt 1)), (rt 2, aL cs 21 (Mt 2)), (rt 3, aL cs 21 (Mt 3))] _ hP hD0
  have hN := adN_of hD0
  have hD := en_D (wr := [(cq, .inr (0, [.ref q1, .ref q2, .ref q3, .ref q4, .int (nI dd), .int (nI nn)])), (q2, aZ cs 4 z9), (q3, aM cs rs), (q4, aM cs rt)]) (ww := [(q1, aI cs 20 (tx_nf kn)), (rs 0, aL cs 21 (Ms 0)), (rs 1, aL cs 21 (Ms 1)), (rs 2, aL cs 21 (Ms 2)), (rs 3, aL cs 21 (Ms 3)), (rt 0, aL cs 21 (Mt 0)), (rt 1, aL cs 21 (Mt 1)), (rt 2, aL cs 21 (Mt 2)), (rt 3, aL cs 21 (Mt 3))]) (sz := s.heap.size) hD0
  have hP := en_P (wr := [(cq, .inr (0, [.ref q1, .ref q2, .ref q3, .ref q4, .int (nI dd), .int (nI nn)])), (q2, aZ cs 4 z9), (q3, aM cs rs), (q4, aM cs rt)]) (ww := [(q1, aI cs 20 (tx_nf kn)), (rs 0, aL cs 21 (Ms 0)), (rs 1, aL cs 21 (Ms 1)), (rs 2, aL cs 21 (Ms 2)), (rs 3, aL cs 21 (Ms 3)), (rt 0, aL cs 21 (Mt 0)), (rt 1, aL cs 21 (Mt 1)), (rt 2, aL cs 21 (Mt 2)), (rt 3, aL cs 21 (Mt 3))]) hP
  generalize hAe : va_A [(q1, aI cs 20 (tx_nf kn)), (rs 0, aL cs 21 (Ms 0)), (rs 1, aL cs 21 (Ms 1)), (rs 2, aL cs 21 (Ms 2)), (rs 3, aL cs 21 (Ms 3)), (rt 0, aL cs 21 (Mt 0)), (rt 1, aL cs 21 (Mt 1)), (rt 2, aL cs 21 (Mt 2)), (rt 3, aL cs 21 (Mt 3))] s.heap.size = A at hD hR ⊢
  have hA : ∀ q : Nat, s.heap.size ≤ q → A q := fun q h => by rw [← hAe]; exact Or.inr h
  have hS : va_S A s.heap s.heap [] := va_S.rf
  have hN : adN [cq, q2, q3, q4, q1, rs 0, rs 1, rs 2, rs 3, rt 0, rt 1, rt 2, rt 3] := hN
  have hf_9 := hts (.fieldLink RX0 9 "TaxedByLongest$Counting" "known" "[I") (by decide +kernel)
  have hf_27 := hts (.fieldLink RX0 27 "TaxedByLongest$Counting" "days" "I") (by decide +kernel)
  have in_X0 : ∀ w ∈ wsX00, w ∈ wsX0_thatPayWith := by decide +kernel
  have hl := lv_entry ([.ref cq, .int (nI sq), .int (nI d), .int (nI t)]) (n := 4) (Nat.le_of_ble_eq_true rfl)
  rw [lg_entry_eq]
  generalize (lg_sl ([.ref cq, .int (nI sq), .int (nI d), .int (nI t)]) ++ List.replicate (4 - (lg_sl ([.ref cq, .int (nI sq), .int (nI d), .int (nI t)])).length) Slot.unset).toArray = ls at hl ⊢
  have hl : lv_has ls 4 [(0, .ref cq), (1, .int (nI sq)), (2, .int (nI d)), (3, .int (nI t))] := hl
  refine lv_iload_n hx hb dX0_thatPayWith_0 rfl (lv_at hl 2 rfl) ?_
  refine bz_lt (a := d) (tgt := 21) hx hb rfl (by omega) dX0_thatPayWith_1 (by decide) ?_
  refine lv_iload_n hx hb dX0_thatPayWith_4 rfl (lv_at hl 2 rfl) ?_
  refine lv_aload_n hx hb dX0_thatPayWith_5 rfl (lv_at hl 0 rfl) ?_
  refine va_get (D := D) (ci := 0) (v := .int (nI dd)) (C := RX0) (T := TX0) (N := 6) hx hb hts in_X0 hown hK (hR hS) 0 rfl rfl 4 (by decide) hf_27 (fun _ h9 => h9) rfl dX0_thatPayWith_6 ?_
  refine bn_ge (a := d) (b := dd) (tgt := 21) hx hb rfl rfl (by omega) (by omega) dX0_thatPayWith_9 (by decide) (fun c9 => ?_) (fun c9 => ?_)
  · exfalso; omega
  · refine lv_aload_n hx hb dX0_thatPayWith_12 rfl (lv_at hl 0 rfl) ?_
    refine lv_iload_n hx hb dX0_thatPayWith_13 rfl (lv_at hl 2 rfl) ?_
    refine lv_iload_n hx hb dX0_thatPayWith_14 rfl (lv_at hl 3 rfl) ?_
    refine cV_i (As := [.int (nI d), .int (nI t)]) (rest := []) (cr := [(cq, .inr (0, [.ref q1, .ref q2, .ref q3, .ref q4, .int (nI dd), .int (nI nn)])), (q1, aI cs 20 (tx_nf kn))]) (cw1 := []) ⟨hx, hb, hml, hown, hts⟩ (c_X0_isPossible l D cs _ cq q1 q2 q3 q4 dd nn kn d t (by first | assumption | omega) (by first | assumption | omega) (by first | assumption | omega)) (cwV 2 hts gX0_thatPayWith_X0_isPossible rfl rfl rfl (by decide +kernel) ⟨Nat.le_of_ble_eq_true rfl, Nat.le_of_ble_eq_true rfl⟩) hK hP hD hS hA (((hR hS).app hP).sub [0, 4] rfl) (dt_of hN [0, 4] (by decide) rfl) [] rfl 0 rfl rfl rfl hl.1 rfl (Nat.le_of_ble_eq_true rfl) dX0_thatPayWith_15 ⟨Nat.le_of_ble_eq_true rfl, Nat.le_of_ble_eq_true rfl⟩ (fun _ => rfl) (fun _ => rfl) (fun r_1 u9 H locs hw_2 hP hD hS => ?_)
    have hP : va_P D vwCl [(q1, aI cs 20 (tx_nf kn)), (rs 0, aL cs 21 (Ms 0)), (rs 1, aL cs 21 (Ms 1)), (rs 2, aL cs 21 (Ms 2)), (rs 3, aL cs 21 (Ms 3)), (rt 0, aL cs 21 (Mt 0)), (rt 1, aL cs 21 (Mt 1)), (rt 2, aL cs 21 (Mt 2)), (rt 3, aL cs 21 (Mt 3))] H := hP
    have hD : va_D A [(q1, aI cs 20 (tx_nf kn)), (rs 0, aL cs 21 (Ms 0)), (rs 1, aL cs 21 (Ms 1)), (rs 2, aL cs 21 (Ms 2)), (rs 3, aL cs 21 (Ms 3)), (rt 0, aL cs 21 (Mt 0)), (rt 1, aL cs 21 (Mt 1)), (rt 2, aL cs 21 (Mt 2)), (rt 3, aL cs 21 (Mt 3))] := hD
    subst r_1
    refine bb_ne (b := tx_Pk kn d t) (tgt := 23) hx hb rfl dX0_thatPayWith_18 (by decide) (fun c18 => ?_) (fun c18 => ?_)
    · refine lv_aload_n hx hb dX0_thatPayWith_23 rfl (lv_at hl 0 rfl) ?_
      refine va_get (D := D) (ci := 0) (v := .ref q1) (C := RX0) (T := TX0) (N := 6) hx hb hts in_X0 hown hK (hR hS) 0 rfl rfl 0 (by decide) hf_9 (fun _ h9 => h9) rfl dX0_thatPayWith_24 ?_
      refine lv_iload_n hx hb dX0_thatPayWith_27 rfl (lv_at hl 2 rfl) ?_
      refine lv_iload_n hx hb dX0_thatPayWith_28 rfl (lv_at hl 3 rfl) ?_
      refine is_n (f := tx_nf kn) hx hb hK hP hD hS 0 0 rfl rfl (j := d) rfl (by omega) (by decide) dX0_thatPayWith_29 (fun H locs hP hD hS => ?_)
      rw [show upd (tx_nf kn) d (nI t) = tx_nf (va_up kn d t) from nf_up _ _ _] at hP hD
      have hP : va_P D vwCl [(q1, aI cs 20 (tx_nf (va_up kn d t))), (rs 0, aL cs 21 (Ms 0)), (rs 1, aL cs 21 (Ms 1)), (rs 2, aL cs 21 (Ms 2)), (rs 3, aL cs 21 (Ms 3)), (rt 0, aL cs 21 (Mt 0)), (rt 1, aL cs 21 (Mt 1)), (rt 2, aL cs 21 (Mt 2)), (rt 3, aL cs 21 (Mt 3))] H := hP
      have hD : va_D A [(q1, aI cs 20 (tx_nf (va_up kn d t))), (rs 0, aL cs 21 (Ms 0)), (rs 1, aL cs 21 (Ms 1)), (rs 2, aL cs 21 (Ms 2)), (rs 3, aL cs 21 (Ms 3)), (rt 0, aL cs 21 (Mt 0)), (rt 1, aL cs 21 (Mt 1)), (rt 2, aL cs 21 (Mt 2)), (rt 3, aL cs 21 (Mt 3))] := hD
      refine lv_aload_n hx hb dX0_thatPayWith_30 rfl (lv_at hl 0 rfl) ?_
      refine lv_iload_n hx hb dX0_thatPayWith_31 rfl (lv_at hl 1 rfl) ?_
      refine cV_l (As := [.int (nI sq)]) (rest := []) (cr := [(cq, .inr (0, [.ref q1, .ref q2, .ref q3, .ref q4, .int (nI dd), .int (nI nn)])), (q1, aI cs 20 (tx_nf (va_up kn d t))), (q2, aZ cs 4 z9), (q3, aM cs rs), (q4, aM cs rt)]) (cw1 := [(rs 0, aL cs 21 (Ms 0)), (rs 1, aL cs 21 (Ms 1)), (rs 2, aL cs 21 (Ms 2)), (rs 3, aL cs 21 (Ms 3)), (rt 0, aL cs 21 (Mt 0)), (rt 1, aL cs 21 (Mt 1)), (rt 2, aL cs 21 (Mt 2)), (rt 3, aL cs 21 (Mt 3))]) ⟨hx, hb, hml, hown, hts⟩ (c_X0_thatPay l D cs _ cq q1 q2 q3 q4 dd nn cc9 z9 (va_up kn d t) rs rt Ms Mt sq (by first | assumption | omega) (by first | assumption | omega) (by first | assumption | omega) (tx_up_le hkn ht) (by first | assumption | omega) (by first | assumption | omega)) (cwV 1 hts gX0_thatPayWith_X0_thatPay rfl rfl rfl (by decide +kernel) ⟨Nat.le_of_ble_eq_true rfl, Nat.le_of_ble_eq_true rfl⟩) hK hP hD hS hA (((hR hS).app hP).sub [0, 4, 1, 2, 3, 5, 6, 7, 8, 9, 10, 11, 12] rfl) (dt_of hN [0, 4, 1, 2, 3, 5, 6, 7, 8, 9, 10, 11, 12] (by decide) rfl) [1, 2, 3, 4, 5, 6, 7, 8] rfl 0 rfl rfl rfl hl.1 rfl (Nat.le_of_ble_eq_true rfl) dX0_thatPayWith_32 ⟨Nat.le_of_ble_eq_true rfl, Nat.le_of_ble_eq_true rfl⟩ (fun _ => rfl) (fun _ => rfl) (fun r_3 u9 H locs hw_4 hP hD hS => ?_)
      obtain ⟨Ms2_5, Mt2_6⟩ := u9
      have hP : va_P D vwCl [(q1, aI cs 20 (tx_nf (va_up kn d t))), (rs 0, aL cs 21 (Ms2_5 0)), (rs 1, aL cs 21 (Ms2_5 1)), (rs 2, aL cs 21 (Ms2_5 2)), (rs 3, aL cs 21 (Ms2_5 3)), (rt 0, aL cs 21 (Mt2_6 0)), (rt 1, aL cs 21 (Mt2_6 1)), (rt 2, aL cs 21 (Mt2_6 2)), (rt 3, aL cs 21 (Mt2_6 3))] H := hP
      have hD : va_D A [(q1, aI cs 20 (tx_nf (va_up kn d t))), (rs 0, aL cs 21 (Ms2_5 0)), (rs 1, aL cs 21 (Ms2_5 1)), (rs 2, aL cs 21 (Ms2_5 2)), (rs 3, aL cs 21 (Ms2_5 3)), (rt 0, aL cs 21 (Mt2_6 0)), (rt 1, aL cs 21 (Mt2_6 1)), (rt 2, aL cs 21 (Mt2_6 2)), (rt 3, aL cs 21 (Mt2_6 3))] := hD
      subst r_3
      exact rt_l hx hb hr hlocks (va_up kn d t, Ms2_5, Mt2_6) (by rw [if_pos c18]) hP hD hS dX0_thatPayWith_35
    · refine lv_lconst (v := 0) hx hb dX0_thatPayWith_21 (by decide) ?_
      exact rt_l hx hb hr hlocks (kn, Ms, Mt) (by rw [if_neg (by rw [c18]; decide)]; rfl) hP hD hS dX0_thatPayWith_22
set_option maxHeartbeats 4000000 in
set_option maxRecDepth 100000 in
theorem c_X0_beginUnknown (l : Launch) (D : va_G) (cs : Nat → ClassId) (sz : Nat) (cq : Nat) (q1 : Nat) (q2 : Nat) (q3 : Nat) (q4 : Nat) (dd : Nat) (nn : Nat) (z9 : Nat → Int32) (kn : Nat → Nat) (nq : Nat) (mq : Nat) (hnq : nq ≤ 20) (hmq : mq ≤ 4) : mV (S := Nat → Int32) l yX0_beginUnknown wsX0_beginUnknown ({ frames := 1, cells := 0, slots := 0, locals := 23 } : Room) D (tyc cs) sz [.ref cq, .int (nI nq), .int (nI mq)] [] [(cq, .inr (0, [.ref q1, .ref q2, .ref q3, .ref q4, .int (nI dd), .int (nI nn)])), (q1, aI cs 20 (tx_nf kn)), (q2, aZ cs 4 z9)] (fun (u : Nat → Int32) => match u with | z2 => ∀ t, t < mq → z2 t = bI (tx_t1 t)) (fun (u : Nat → Int32) => match u with | z2 => [(cq, .inr (0, [.ref q1, .ref q2, .ref q3, .ref q4, .int (nI nq), .int (nI mq)])), (q1, aI cs 20 (tx_nf (fun _ => 9))), (q2, aZ cs 4 z2)]) 0 0 := by
  unfold mV
  refine Met.ofW (cc := cX0_beginUnknown) (maxL := 4) (ret := none) (by decide) rfl ?_
  intro p e s m args below meth c s₁ B hml hv
  obtain ⟨rfl, hsz, hP, hK, hD0⟩ := hv
  have hx := B.exec
  have hb := B.bytes
  have hr := B.returns
  have hts := atoms_spec (ws := wsX0_beginUnknown) B.pre
  have hown : s.vm.findClass RX0 = some m.cls := findClass_of_methodNamed B.named
  have hlocks := B.notSynchronized
  subst hsz
  have hR := @en_R _ _ _ [] [(cq, .inr (0, [.ref q1, .ref q2, .ref q3, .ref q4, .int (nI dd), .int (nI nn)])), (q1, aI cs 20 (tx_nf kn)), (q2, aZ cs 4 z9)] _ hP hD0
  have hN := adN_of hD0
  have hD := en_D (wr := []) (ww := [(cq, .inr (0, [.ref q1, .ref q2, .ref q3, .ref q4, .int (nI dd), .int (nI nn)])), (q1, aI cs 20 (tx_nf kn)), (q2, aZ cs 4 z9)]) (sz := s.heap.size) hD0
  have hP := en_P (wr := []) (ww := [(cq, .inr (0, [.ref q1, .ref q2, .ref q3, .ref q4, .int (nI dd), .int (nI nn)])), (q1, aI cs 20 (tx_nf kn)), (q2, aZ cs 4 z9)]) hP
  generalize hAe : va_A [(cq, .inr (0, [.ref q1, .ref q2, .ref q3, .ref q4, .int (nI dd), .int (nI nn)])), (q1, aI cs 20 (tx_nf kn)), (q2, aZ cs 4 z9)] s.heap.size = A at hD hR ⊢
  have hA : ∀ q : Nat, s.heap.size ≤ q → A q := fun q h => by rw [← hAe]; exact Or.inr h
  have hS : va_S A s.heap s.heap [] := va_S.rf
  have hN : adN [cq, q1, q2] := hN
  have hf_9 := hts (.fieldLink RX0 9 "TaxedByLongest$Counting" "known" "[I") (by decide +kernel)
  have hf_15 := hts (.fieldLink RX0 15 "TaxedByLongest$Counting" "isTaxed" "[Z") (by decide +kernel)
  have hf_27 := hts (.fieldLink RX0 27 "TaxedByLongest$Counting" "days" "I") (by decide +kernel)
  have hf_31 := hts (.fieldLink RX0 31 "TaxedByLongest$Counting" "things" "I") (by decide +kernel)
  have in_X0 : ∀ w ∈ wsX00, w ∈ wsX0_beginUnknown := by decide +kernel
  have hl := lv_entry ([.ref cq, .int (nI nq), .int (nI mq)]) (n := 4) (Nat.le_of_ble_eq_true rfl)
  rw [lg_entry_eq]
  generalize (lg_sl ([.ref cq, .int (nI nq), .int (nI mq)]) ++ List.replicate (4 - (lg_sl ([.ref cq, .int (nI nq), .int (nI mq)])).length) Slot.unset).toArray = ls at hl ⊢
  have hl : lv_has ls 4 [(0, .ref cq), (1, .int (nI nq)), (2, .int (nI mq))] := hl
  refine lv_aload_n hx hb dX0_beginUnknown_0 rfl (lv_at hl 0 rfl) ?_
  refine lv_iload_n hx hb dX0_beginUnknown_1 rfl (lv_at hl 1 rfl) ?_
  refine lv_bipush (v := 20) hx hb dX0_beginUnknown_2 (by decide) ?_
  refine va_mmin hx hb (hml.trans hl.1.symm) hown (hts (.methodLink RX0 34 Lib.Math.min.name) (by decide +kernel)) (hts (.static Lib.Math.min.name) (by decide +kernel)) (hts (.initialized "java/lang/Math") (by decide +kernel)) (hts (.code Lib.Math.min.name Lib.Math.min.code 2 (some .int)) (by decide +kernel)) (Nat.le_of_ble_eq_true rfl) (Nat.le_of_ble_eq_true rfl) (Nat.le_of_ble_eq_true rfl) (Nat.le_of_ble_eq_true rfl) dX0_beginUnknown_4 ?_
  refine tp_i (min_n (a := nq) (b := 20) rfl rfl (by omega) (by decide)) ?_
  refine tp_i (show nI (min nq 20) = nI nq from by rw [Nat.min_eq_left (by omega)]) ?_
  refine va_put (D := D) (ci := 0) (v := .int (nI nq)) (ty := .int) (C := RX0) (T := TX0) (N := 6) hx hb hts in_X0 tyX0 tyX0_ok nmX0 hown hK hP hD hS 0 rfl rfl 4 (by decide) hf_27 (fun _ h9 => h9) rfl (by decide +kernel) rfl rfl (Nat.le_of_ble_eq_true rfl) dX0_beginUnknown_7 (fun H locs hP hD hS => ?_)
  have hP : va_P D vwCl [(cq, .inr (0, [.ref q1, .ref q2, .ref q3, .ref q4, .int (nI nq), .int (nI nn)])), (q1, aI cs 20 (tx_nf kn)), (q2, aZ cs 4 z9)] H := hP
  have hD : va_D A [(cq, .inr (0, [.ref q1, .ref q2, .ref q3, .ref q4, .int (nI nq), .int (nI nn)])), (q1, aI cs 20 (tx_nf kn)), (q2, aZ cs 4 z9)] := hD
  refine lv_aload_n hx hb dX0_beginUnknown_10 rfl (lv_at hl 0 rfl) ?_
  refine lv_iload_n hx hb dX0_beginUnknown_11 rfl (lv_at hl 2 rfl) ?_
  refine lv_iconst (v := 4) hx hb dX0_beginUnknown_12 (by decide) ?_
  refine va_mmin hx hb (hml.trans hl.1.symm) hown (hts (.methodLink RX0 34 Lib.Math.min.name) (by decide +kernel)) (hts (.static Lib.Math.min.name) (by decide +kernel)) (hts (.initialized "java/lang/Math") (by decide +kernel)) (hts (.code Lib.Math.min.name Lib.Math.min.code 2 (some .int)) (by decide +kernel)) (Nat.le_of_ble_eq_true rfl) (Nat.le_of_ble_eq_true rfl) (Nat.le_of_ble_eq_true rfl) (Nat.le_of_ble_eq_true rfl) dX0_beginUnknown_13 ?_
  refine tp_i (min_n (a := mq) (b := 4) rfl rfl (by omega) (by decide)) ?_
  refine tp_i (show nI (min mq 4) = nI mq from by rw [Nat.min_eq_left (by omega)]) ?_
  refine va_put (D := D) (ci := 0) (v := .int (nI mq)) (ty := .int) (C := RX0) (T := TX0) (N := 6) hx hb hts in_X0 tyX0 tyX0_ok nmX0 hown hK hP hD hS 0 rfl rfl 5 (by decide) hf_31 (fun _ h9 => h9) rfl (by decide +kernel) rfl rfl (Nat.le_of_ble_eq_true rfl) dX0_beginUnknown_16 (fun H locs hP hD hS => ?_)
  have hP : va_P D vwCl [(cq, .inr (0, [.ref q1, .ref q2, .ref q3, .ref q4, .int (nI nq), .int (nI mq)])), (q1, aI cs 20 (tx_nf kn)), (q2, aZ cs 4 z9)] H := hP
  have hD : va_D A [(cq, .inr (0, [.ref q1, .ref q2, .ref q3, .ref q4, .int (nI nq), .int (nI mq)])), (q1, aI cs 20 (tx_nf kn)), (q2, aZ cs 4 z9)] := hD
  refine lv_aload_n hx hb dX0_beginUnknown_19 rfl (lv_at hl 0 rfl) ?_
  refine va_get (D := D) (ci := 0) (v := .ref q1) (C := RX0) (T := TX0) (N := 6) hx hb hts in_X0 hown hK hP 0 rfl rfl 0 (by decide) hf_9 (fun _ h9 => h9) rfl dX0_beginUnknown_20 ?_
  refine lv_bipush (v := 9) hx hb dX0_beginUnknown_23 (by decide) ?_
  refine cS_v (As := [.ref q1, .int 9]) (rest := []) (cr := []) (cw1 := [(q1, aI cs 20 (tx_nf kn))]) ⟨hx, hb, hml, hown, hts⟩ (c_fill l D cs _ q1 20 (tx_nf kn) 9 (by first | assumption | omega)) (va_cwS 2 hts gX0_beginUnknown_J7_fill_53178 rfl rfl rfl (by decide +kernel) ⟨Nat.le_of_ble_eq_true rfl, Nat.le_of_ble_eq_true rfl⟩) hK hP hD hS hA (hP.sub [1] rfl) (dt_of hN [1] (by decide) rfl) [1] rfl rfl hl.1 rfl (Nat.le_of_ble_eq_true rfl) dX0_beginUnknown_25 ⟨Nat.le_of_ble_eq_true rfl, Nat.le_of_ble_eq_true rfl⟩ (fun _ => rfl) (fun _ => rfl) (fun u9 H locs hw_1 hP hD hS => ?_)
  have hP : va_P D vwCl [(cq, .inr (0, [.ref q1, .ref q2, .ref q3, .ref q4, .int (nI nq), .int (nI mq)])), (q1, aI cs 20 (fun _ => 9)), (q2, aZ cs 4 z9)] H := hP
  have hD : va_D A [(cq, .inr (0, [.ref q1, .ref q2, .ref q3, .ref q4, .int (nI nq), .int (nI mq)])), (q1, aI cs 20 (fun _ => 9)), (q2, aZ cs 4 z9)] := hD
  have e9 : (fun _ => 9 : Nat → _) = tx_nf (fun _ => 9) := rfl
  rw [e9] at hP hD
  refine lv_iconst (v := 0) hx hb dX0_beginUnknown_28 (by decide) ?_
  refine lv_istore_n (lv' := [(3, .int 0), (0, .ref cq), (1, .int (nI nq)), (2, .int (nI mq))]) hx hb dX0_beginUnknown_29 rfl hl (by decide) rfl (fun ls hl => ?_)
  have loop30 : ∀ (n9 : Nat) (i : Nat) (z3 : Nat → Int32) (hi : i ≤ mq) (hz3 : ∀ t, t < i → z3 t = bI (tx_t1 t)), mq - i < n9 → ∀ (H : Heap) (locs : List Loc), va_P D vwCl [(cq, .inr (0, [.ref q1, .ref q2, .ref q3, .ref q4, .int (nI nq), .int (nI mq)])), (q1, aI cs 20 (tx_nf (fun _ => 9))), (q2, aZ cs 4 z3)] H → va_D A [(cq, .inr (0, [.ref q1, .ref q2, .ref q3, .ref q4, .int (nI nq), .int (nI mq)])), (q1, aI cs 20 (tx_nf (fun _ => 9))), (q2, aZ cs 4 z3)] → va_S A s.heap H locs → ∀ (ls : Array Slot), lv_has ls 4 [(0, .ref cq), (1, .int (nI nq)), (2, .int (nI mq)), (3, .int (nI i))] → W p l e (headSpec wsX0_beginUnknown ({ frames := 1, cells := 0, slots := 0, locals := 23 } : Room)).room s m ([.ref cq, .int (nI nq), .int (nI mq)] : List Value).toArray below meth c H locs 0 0 (MQ below (va_Qv (fun (u : Nat → Int32) => match u with | z2 => ∀ t, t < mq → z2 t = bI (tx_t1 t)) (QB D (fun (u : Nat → Int32) => match u with | z2 => [(cq, .inr (0, [.ref q1, .ref q2, .ref q3, .ref q4, .int (nI nq), .int (nI mq)])), (q1, aI cs 20 (tx_nf (fun _ => 9))), (q2, aZ cs 4 z2)]) A) A) ([.ref cq, .int (nI nq), .int (nI mq)] : List Value).toArray s 0 0 A) (F0 m 30 ls []) := by
    intro n9
    induction n9 with
    | zero => intros; omega
    | succ n9 ih30 =>
      intro i z3 hi hz3 hmu H locs hP hD hS ls hl
      refine lv_iload_n hx hb dX0_beginUnknown_30 rfl (lv_at hl 3 rfl) ?_
      refine lv_aload_n hx hb dX0_beginUnknown_31 rfl (lv_at hl 0 rfl) ?_
      refine va_get (D := D) (ci := 0) (v := .int (nI mq)) (C := RX0) (T := TX0) (N := 6) hx hb hts in_X0 hown hK hP 0 rfl rfl 5 (by decide) hf_31 (fun _ h9 => h9) rfl dX0_beginUnknown_32 ?_
      refine bn_ge (a := i) (b := mq) (tgt := 51) hx hb rfl rfl (by omega) (by omega) dX0_beginUnknown_35 (by decide) (fun c35 => ?_) (fun c35 => ?_)
      · exact rt_v hx hb hr hlocks (z3) (fun t ht => hz3 t (by omega)) hP hD hS dX0_beginUnknown_51
      · refine lv_aload_n hx hb dX0_beginUnknown_38 rfl (lv_at hl 0 rfl) ?_
        refine va_get (D := D) (ci := 0) (v := .ref q2) (C := RX0) (T := TX0) (N := 6) hx hb hts in_X0 hown hK hP 0 rfl rfl 1 (by decide) hf_15 (fun _ h9 => h9) rfl dX0_beginUnknown_39 ?_
        refine lv_iload_n hx hb dX0_beginUnknown_42 rfl (lv_at hl 3 rfl) ?_
        refine lv_iconst (v := 1) hx hb dX0_beginUnknown_43 (by decide) ?_
        refine zs_n (f := z3) (b := true) hx hb hK hP hD hS 2 2 rfl rfl (j := i) rfl rfl (by omega) (by decide) dX0_beginUnknown_44 (fun H locs hP hD hS => ?_)
        have hP : va_P D vwCl [(cq, .inr (0, [.ref q1, .ref q2, .ref q3, .ref q4, .int (nI nq), .int (nI mq)])), (q1, aI cs 20 (tx_nf (fun _ => 9))), (q2, aZ cs 4 (upd z3 i (bI true)))] H := hP
        have hD : va_D A [(cq, .inr (0, [.ref q1, .ref q2, .ref q3, .ref q4, .int (nI nq), .int (nI mq)])), (q1, aI cs 20 (tx_nf (fun _ => 9))), (q2, aZ cs 4 (upd z3 i (bI true)))] := hD
        refine lv_iinc (v := nI (i + 1)) (lv' := [(3, .int (nI (i + 1))), (0, .ref cq), (1, .int (nI nq)), (2, .int (nI mq))]) hx hb dX0_beginUnknown_45 hl (k := 3) rfl (inc_n i 1) (by decide) rfl (fun ls hl => ?_)
        refine lv_goto (tgt := 30) hx hb dX0_beginUnknown_48 (by decide) ?_
        exact ih30 (i + 1) (upd z3 i (bI true)) (by first | assumption | omega) (fun t ht => by by_cases e : t = i; (rw [e, pk_us]; rfl); (rw [pk_un e]; exact hz3 t (by omega))) (by omega) _ _ hP hD hS ls (lv_sub hl [1, 2, 3, 0] rfl)
  exact loop30 _ 0 z9 (by first | assumption | omega) (fun t ht => absurd ht (Nat.not_lt_zero t)) (Nat.lt_succ_self _) _ _ hP hD hS ls (lv_sub hl [1, 2, 3, 0] rfl)
set_option maxHeartbeats 4000000 in
set_option maxRecDepth 100000 in
theorem c_X0_beginSeen (l : Launch) (D : va_G) (cs : Nat → ClassId) (sz : Nat) (h : Nat) (k0 : Nat) (k1 : Nat) (k2 : Nat) (k3 : Nat) (k4 : Nat) (k5 : Nat) (n : Nat) (dy : Nat) (ch : Nat) (lw : Nat) (kd : Nat → Nat) (cq : Nat) (q1 : Nat) (q2 : Nat) (q3 : Nat) (q4 : Nat) (dd : Nat) (nn : Nat) (z9 : Nat → Int32) (kn : Nat → Nat) (s0 : Nat) (sn : Nat → Nat) (ss : Nat) (hn : n ≤ 4) (hkd : ∀ e, kd e ≤ 5) (hss : ss ≤ 20) : mV (S := Nat → Int32) l yX0_beginSeen wsX0_beginSeen ({ frames := 2, cells := 0, slots := 0, locals := 64 } : Room) D (tyc cs) sz [.ref cq, .ref h, .ref s0, .int (nI ss)] [(h, .inr (4, [.ref k0, .ref k1, .ref k2, .ref k3, .ref k4, .ref k5, .int (nI n), .int (nI dy), .int (nI ch), .int (nI lw)])), (k0, aI cs 4 (tx_nf kd))] [(cq, .inr (0, [.ref q1, .ref q2, .ref q3, .ref q4, .int (nI dd), .int (nI nn)])), (q1, aI cs 20 (tx_nf kn)), (q2, aZ cs 4 z9), (s0, aI cs 20 (tx_nf sn))] (fun (u : Nat → Int32) => match u with | z2 => ∀ t, t < n → z2 t = bI (tx_tx n kd t)) (fun (u : Nat → Int32) => match u with | z2 => [(cq, .inr (0, [.ref q1, .ref q2, .ref q3, .ref q4, .int (nI ss), .int (nI n)])), (q1, aI cs 20 (tx_nf sn)), (q2, aZ cs 4 z2), (s0, aI cs 20 (tx_nf sn))]) 0 0 := by
  unfold mV
  refine Met.ofW (cc := cX0_beginSeen) (maxL := 5) (ret := none) (by decide) rfl ?_
  intro p e s m args below meth c s₁ B hml hv
  obtain ⟨rfl, hsz, hP, hK, hD0⟩ := hv
  have hx := B.exec
  have hb := B.bytes
  have hr := B.returns
  have hts := atoms_spec (ws := wsX0_beginSeen) B.pre
  have hown : s.vm.findClass RX0 = some m.cls := findClass_of_methodNamed B.named
  have hlocks := B.notSynchronized
  subst hsz
  have hR := @en_R _ _ _ [(h, .inr (4, [.ref k0, .ref k1, .ref k2, .ref k3, .ref k4, .ref k5, .int (nI n), .int (nI dy), .int (nI ch), .int (nI lw)])), (k0, aI cs 4 (tx_nf kd))] [(cq, .inr (0, [.ref q1, .ref q2, .ref q3, .ref q4, .int (nI dd), .int (nI nn)])), (q1, aI cs 20 (tx_nf kn)), (q2, aZ cs 4 z9), (s0, aI cs 20 (tx_nf sn))] _ hP hD0
  have hN := adN_of hD0
  have hD := en_D (wr := [(h, .inr (4, [.ref k0, .ref k1, .ref k2, .ref k3, .ref k4, .ref k5, .int (nI n), .int (nI dy), .int (nI ch), .int (nI lw)])), (k0, aI cs 4 (tx_nf kd))]) (ww := [(cq, .inr (0, [.ref q1, .ref q2, .ref q3, .ref q4, .int (nI dd), .int (nI nn)])), (q1, aI cs 20 (tx_nf kn)), (q2, aZ cs 4 z9), (s0, aI cs 20 (tx_nf sn))]) (sz := s.heap.size) hD0
  have hP := en_P (wr := [(h, .inr (4, [.ref k0, .ref k1, .ref k2, .ref k3, .ref k4, .ref k5, .int (nI n), .int (nI dy), .int (nI ch), .int (nI lw)])), (k0, aI cs 4 (tx_nf kd))]) (ww := [(cq, .inr (0, [.ref q1, .ref q2, .ref q3, .ref q4, .int (nI dd), .int (nI nn)])), (q1, aI cs 20 (tx_nf kn)), (q2, aZ cs 4 z9), (s0, aI cs 20 (tx_nf sn))]) hP
  generalize hAe : va_A [(cq, .inr (0, [.ref q1, .ref q2, .ref q3, .ref q4, .int (nI dd), .int (nI nn)])), (q1, aI cs 20 (tx_nf kn)), (q2, aZ cs 4 z9), (s0, aI cs 20 (tx_nf sn))] s.heap.size = A at hD hR ⊢
  have hA : ∀ q : Nat, s.heap.size ≤ q → A q := fun q h => by rw [← hAe]; exact Or.inr h
  have hS : va_S A s.heap s.heap [] := va_S.rf
  have hN : adN [h, k0, cq, q1, q2, s0] := hN
  have hf_9 := hts (.fieldLink RX0 9 "TaxedByLongest$Counting" "known" "[I") (by decide +kernel)
  have hf_15 := hts (.fieldLink RX0 15 "TaxedByLongest$Counting" "isTaxed" "[Z") (by decide +kernel)
  have hf_27 := hts (.fieldLink RX0 27 "TaxedByLongest$Counting" "days" "I") (by decide +kernel)
  have hf_31 := hts (.fieldLink RX0 31 "TaxedByLongest$Counting" "things" "I") (by decide +kernel)
  have hf_46 := hts (.fieldLink RX0 46 "TaxedByLongest$Told" "things" "I") (by decide +kernel)
  have in_X0 : ∀ w ∈ wsX00, w ∈ wsX0_beginSeen := by decide +kernel
  have in_X4 : ∀ w ∈ wsX40, w ∈ wsX0_beginSeen := by decide +kernel
  have hl := lv_entry ([.ref cq, .ref h, .ref s0, .int (nI ss)]) (n := 5) (Nat.le_of_ble_eq_true rfl)
  rw [lg_entry_eq]
  generalize (lg_sl ([.ref cq, .ref h, .ref s0, .int (nI ss)]) ++ List.replicate (5 - (lg_sl ([.ref cq, .ref h, .ref s0, .int (nI ss)])).length) Slot.unset).toArray = ls at hl ⊢
  have hl : lv_has ls 5 [(0, .ref cq), (1, .ref h), (2, .ref s0), (3, .int (nI ss))] := hl
  refine lv_aload_n hx hb dX0_beginSeen_0 rfl (lv_at hl 0 rfl) ?_
  refine lv_iload_n hx hb dX0_beginSeen_1 rfl (lv_at hl 3 rfl) ?_
  refine lv_bipush (v := 20) hx hb dX0_beginSeen_2 (by decide) ?_
  refine va_mmin hx hb (hml.trans hl.1.symm) hown (hts (.methodLink RX0 34 Lib.Math.min.name) (by decide +kernel)) (hts (.static Lib.Math.min.name) (by decide +kernel)) (hts (.initialized "java/lang/Math") (by decide +kernel)) (hts (.code Lib.Math.min.name Lib.Math.min.code 2 (some .int)) (by decide +kernel)) (Nat.le_of_ble_eq_true rfl) (Nat.le_of_ble_eq_true rfl) (Nat.le_of_ble_eq_true rfl) (Nat.le_of_ble_eq_true rfl) dX0_beginSeen_4 ?_
  refine tp_i (min_n (a := ss) (b := 20) rfl rfl (by omega) (by decide)) ?_
  refine tp_i (show nI (min ss 20) = nI ss from by rw [Nat.min_eq_left (by omega)]) ?_
  refine va_put (D := D) (ci := 0) (v := .int (nI ss)) (ty := .int) (C := RX0) (T := TX0) (N := 6) hx hb hts in_X0 tyX0 tyX0_ok nmX0 hown hK hP hD hS 0 rfl rfl 4 (by decide) hf_27 (fun _ h9 => h9) rfl (by decide +kernel) rfl rfl (Nat.le_of_ble_eq_true rfl) dX0_beginSeen_7 (fun H locs hP hD hS => ?_)
  have hP : va_P D vwCl [(cq, .inr (0, [.ref q1, .ref q2, .ref q3, .ref q4, .int (nI ss), .int (nI nn)])), (q1, aI cs 20 (tx_nf kn)), (q2, aZ cs 4 z9), (s0, aI cs 20 (tx_nf sn))] H := hP
  have hD : va_D A [(cq, .inr (0, [.ref q1, .ref q2, .ref q3, .ref q4, .int (nI ss), .int (nI nn)])), (q1, aI cs 20 (tx_nf kn)), (q2, aZ cs 4 z9), (s0, aI cs 20 (tx_nf sn))] := hD
  refine lv_aload_n hx hb dX0_beginSeen_10 rfl (lv_at hl 0 rfl) ?_
  refine lv_aload_n hx hb dX0_beginSeen_11 rfl (lv_at hl 1 rfl) ?_
  refine va_get (D := D) (ci := 4) (v := .int (nI n)) (C := RX4) (T := TX4) (N := 10) hx hb hts in_X4 hown hK (hR hS) 0 rfl rfl 6 (by decide) hf_46 (fun _ h9 => h9) rfl dX0_beginSeen_12 ?_
  refine va_put (D := D) (ci := 0) (v := .int (nI n)) (ty := .int) (C := RX0) (T := TX0) (N := 6) hx hb hts in_X0 tyX0 tyX0_ok nmX0 hown hK hP hD hS 0 rfl rfl 5 (by decide) hf_31 (fun _ h9 => h9) rfl (by decide +kernel) rfl rfl (Nat.le_of_ble_eq_true rfl) dX0_beginSeen_15 (fun H locs hP hD hS => ?_)
  have hP : va_P D vwCl [(cq, .inr (0, [.ref q1, .ref q2, .ref q3, .ref q4, .int (nI ss), .int (nI n)])), (q1, aI cs 20 (tx_nf kn)), (q2, aZ cs 4 z9), (s0, aI cs 20 (tx_nf sn))] H := hP
  have hD : va_D A [(cq, .inr (0, [.ref q1, .ref q2, .ref q3, .ref q4, .int (nI ss), .int (nI n)])), (q1, aI cs 20 (tx_nf kn)), (q2, aZ cs 4 z9), (s0, aI cs 20 (tx_nf sn))] := hD
  refine lv_aload_n hx hb dX0_beginSeen_18 rfl (lv_at hl 2 rfl) ?_
  refine lv_iconst (v := 0) hx hb dX0_beginSeen_19 (by decide) ?_
  refine lv_aload_n hx hb dX0_beginSeen_20 rfl (lv_at hl 0 rfl) ?_
  refine va_get (D := D) (ci := 0) (v := .ref q1) (C := RX0) (T := TX0) (N := 6) hx hb hts in_X0 hown hK hP 0 rfl rfl 0 (by decide) hf_9 (fun _ h9 => h9) rfl dX0_beginSeen_21 ?_
  refine lv_iconst (v := 0) hx hb dX0_beginSeen_24 (by decide) ?_
  refine lv_bipush (v := 20) hx hb dX0_beginSeen_25 (by decide) ?_
  refine ac_n (f := tx_nf sn) (g := tx_nf kn) hx hb (hml.trans hl.1.symm) hown (hts (.methodLink RX0 49 arraycopyName) (by decide +kernel)) (hts (.native arraycopyName) (by decide +kernel)) (hts (.static arraycopyName) (by decide +kernel)) (hts (.initialized "java/lang/System") (by decide +kernel)) hK hP hD hS 3 1 0 0 rfl rfl rfl rfl (N := 20) rfl rfl rfl (by decide) (by decide) (by decide) (Nat.le_of_ble_eq_true rfl) (Nat.le_of_ble_eq_true (by decide +kernel)) dX0_beginSeen_27 (fun H locs hP hD hS => ?_)
  have hP : va_P D vwCl [(cq, .inr (0, [.ref q1, .ref q2, .ref q3, .ref q4, .int (nI ss), .int (nI n)])), (q1, aI cs 20 (va_cpy (tx_nf sn) (tx_nf kn) 0 0 20)), (q2, aZ cs 4 z9), (s0, aI cs 20 (tx_nf sn))] H := hP
  have hD : va_D A [(cq, .inr (0, [.ref q1, .ref q2, .ref q3, .ref q4, .int (nI ss), .int (nI n)])), (q1, aI cs 20 (va_cpy (tx_nf sn) (tx_nf kn) 0 0 20)), (q2, aZ cs 4 z9), (s0, aI cs 20 (tx_nf sn))] := hD
  have hP := w_ext hP 1 (tx_nf sn) rfl (fun q hq => by rw [pk_cpy_in (Nat.zero_le _) (by omega)]; show nI (sn (0 + (q - 0))) = nI (sn q); rw [Nat.zero_add, Nat.sub_zero])
  have hD : va_D A [(cq, .inr (0, [.ref q1, .ref q2, .ref q3, .ref q4, .int (nI ss), .int (nI n)])), (q1, aI cs 20 (tx_nf sn)), (q2, aZ cs 4 z9), (s0, aI cs 20 (tx_nf sn))] := d_adr hD rfl
  have hP : va_P D vwCl [(cq, .inr (0, [.ref q1, .ref q2, .ref q3, .ref q4, .int (nI ss), .int (nI n)])), (q1, aI cs 20 (tx_nf sn)), (q2, aZ cs 4 z9), (s0, aI cs 20 (tx_nf sn))] H := hP
  have hD : va_D A [(cq, .inr (0, [.ref q1, .ref q2, .ref q3, .ref q4, .int (nI ss), .int (nI n)])), (q1, aI cs 20 (tx_nf sn)), (q2, aZ cs 4 z9), (s0, aI cs 20 (tx_nf sn))] := hD
  refine lv_iconst (v := 0) hx hb dX0_beginSeen_30 (by decide) ?_
  refine lv_istore (lv' := [(4, .int 0), (0, .ref cq), (1, .ref h), (2, .ref s0), (3, .int (nI ss))]) hx hb dX0_beginSeen_31 hl (by decide) rfl (fun ls hl => ?_)
  have loop33 : ∀ (n9 : Nat) (i : Nat) (z3 : Nat → Int32) (hi : i ≤ n) (hz3 : ∀ t, t < i → z3 t = bI (tx_tx n kd t)), n - i < n9 → ∀ (H : Heap) (locs : List Loc), va_P D vwCl [(cq, .inr (0, [.ref q1, .ref q2, .ref q3, .ref q4, .int (nI ss), .int (nI n)])), (q1, aI cs 20 (tx_nf sn)), (q2, aZ cs 4 z3), (s0, aI cs 20 (tx_nf sn))] H → va_D A [(cq, .inr (0, [.ref q1, .ref q2, .ref q3, .ref q4, .int (nI ss), .int (nI n)])), (q1, aI cs 20 (tx_nf sn)), (q2, aZ cs 4 z3), (s0, aI cs 20 (tx_nf sn))] → va_S A s.heap H locs → ∀ (ls : Array Slot), lv_has ls 5 [(0, .ref cq), (1, .ref h), (2, .ref s0), (3, .int (nI ss)), (4, .int (nI i))] → W p l e (headSpec wsX0_beginSeen ({ frames := 2, cells := 0, slots := 0, locals := 64 } : Room)).room s m ([.ref cq, .ref h, .ref s0, .int (nI ss)] : List Value).toArray below meth c H locs 0 0 (MQ below (va_Qv (fun (u : Nat → Int32) => match u with | z2 => ∀ t, t < n → z2 t = bI (tx_tx n kd t)) (QB D (fun (u : Nat → Int32) => match u with | z2 => [(cq, .inr (0, [.ref q1, .ref q2, .ref q3, .ref q4, .int (nI ss), .int (nI n)])), (q1, aI cs 20 (tx_nf sn)), (q2, aZ cs 4 z2), (s0, aI cs 20 (tx_nf sn))]) A) A) ([.ref cq, .ref h, .ref s0, .int (nI ss)] : List Value).toArray s 0 0 A) (F0 m 33 ls []) := by
    intro n9
    induction n9 with
    | zero => intros; omega
    | succ n9 ih33 =>
      intro i z3 hi hz3 hmu H locs hP hD hS ls hl
      refine lv_iload hx hb dX0_beginSeen_33 (lv_at hl 4 rfl) ?_
      refine lv_aload_n hx hb dX0_beginSeen_35 rfl (lv_at hl 0 rfl) ?_
      refine va_get (D := D) (ci := 0) (v := .int (nI n)) (C := RX0) (T := TX0) (N := 6) hx hb hts in_X0 hown hK hP 0 rfl rfl 5 (by decide) hf_31 (fun _ h9 => h9) rfl dX0_beginSeen_36 ?_
      refine bn_ge (a := i) (b := n) (tgt := 61) hx hb rfl rfl (by omega) (by omega) dX0_beginSeen_39 (by decide) (fun c39 => ?_) (fun c39 => ?_)
      · exact rt_v hx hb hr hlocks (z3) (fun t ht => hz3 t (by omega)) hP hD hS dX0_beginSeen_61
      · refine lv_aload_n hx hb dX0_beginSeen_42 rfl (lv_at hl 0 rfl) ?_
        refine va_get (D := D) (ci := 0) (v := .ref q2) (C := RX0) (T := TX0) (N := 6) hx hb hts in_X0 hown hK hP 0 rfl rfl 1 (by decide) hf_15 (fun _ h9 => h9) rfl dX0_beginSeen_43 ?_
        refine lv_iload hx hb dX0_beginSeen_46 (lv_at hl 4 rfl) ?_
        refine lv_aload_n hx hb dX0_beginSeen_48 rfl (lv_at hl 1 rfl) ?_
        refine lv_iload hx hb dX0_beginSeen_49 (lv_at hl 4 rfl) ?_
        refine cV_i (As := [.int (nI i)]) (rest := [.int (nI i), .ref q2]) (cr := [(h, .inr (4, [.ref k0, .ref k1, .ref k2, .ref k3, .ref k4, .ref k5, .int (nI n), .int (nI dy), .int (nI ch), .int (nI lw)])), (k0, aI cs 4 (tx_nf kd))]) (cw1 := []) ⟨hx, hb, hml, hown, hts⟩ (c_X4_isTaxed l D cs _ h k0 k1 k2 k3 k4 k5 n dy ch lw kd i (by first | assumption | omega) (by omega) (by first | assumption | omega)) (cwV 1 hts gX0_beginSeen_X4_isTaxed rfl rfl rfl (by decide +kernel) ⟨Nat.le_of_ble_eq_true rfl, Nat.le_of_ble_eq_true rfl⟩) hK hP hD hS hA (((hR hS).app hP).sub [0, 1] rfl) (dt_of hN [0, 1] (by decide) rfl) [] rfl 0 rfl rfl rfl hl.1 rfl (Nat.le_of_ble_eq_true rfl) dX0_beginSeen_51 ⟨Nat.le_of_ble_eq_true rfl, Nat.le_of_ble_eq_true rfl⟩ (fun _ => rfl) (fun _ => rfl) (fun r_1 u9 H locs hw_2 hP hD hS => ?_)
        have hP : va_P D vwCl [(cq, .inr (0, [.ref q1, .ref q2, .ref q3, .ref q4, .int (nI ss), .int (nI n)])), (q1, aI cs 20 (tx_nf sn)), (q2, aZ cs 4 z3), (s0, aI cs 20 (tx_nf sn))] H := hP
        have hD : va_D A [(cq, .inr (0, [.ref q1, .ref q2, .ref q3, .ref q4, .int (nI ss), .int (nI n)])), (q1, aI cs 20 (tx_nf sn)), (q2, aZ cs 4 z3), (s0, aI cs 20 (tx_nf sn))] := hD
        subst r_1
        refine zs_n (f := z3) (b := tx_tx n kd i) hx hb hK hP hD hS 2 2 rfl rfl (j := i) rfl rfl (by omega) (by decide) dX0_beginSeen_54 (fun H locs hP hD hS => ?_)
        have hP : va_P D vwCl [(cq, .inr (0, [.ref q1, .ref q2, .ref q3, .ref q4, .int (nI ss), .int (nI n)])), (q1, aI cs 20 (tx_nf sn)), (q2, aZ cs 4 (upd z3 i (bI (tx_tx n kd i)))), (s0, aI cs 20 (tx_nf sn))] H := hP
        have hD : va_D A [(cq, .inr (0, [.ref q1, .ref q2, .ref q3, .ref q4, .int (nI ss), .int (nI n)])), (q1, aI cs 20 (tx_nf sn)), (q2, aZ cs 4 (upd z3 i (bI (tx_tx n kd i)))), (s0, aI cs 20 (tx_nf sn))] := hD
        refine lv_iinc (v := nI (i + 1)) (lv' := [(4, .int (nI (i + 1))), (0, .ref cq), (1, .ref h), (2, .ref s0), (3, .int (nI ss))]) hx hb dX0_beginSeen_55 hl (k := 4) rfl (inc_n i 1) (by decide) rfl (fun ls hl => ?_)
        refine lv_goto (tgt := 33) hx hb dX0_beginSeen_58 (by decide) ?_
        exact ih33 (i + 1) (upd z3 i (bI (tx_tx n kd i))) (by first | assumption | omega) (fun t ht => by by_cases e : t = i; (rw [e, pk_us]); (rw [pk_un e]; exact hz3 t (by omega))) (by omega) _ _ hP hD hS ls (lv_sub hl [1, 2, 3, 4, 0] rfl)
  exact loop33 _ 0 z9 (by first | assumption | omega) (fun t ht => absurd ht (Nat.not_lt_zero t)) (Nat.lt_succ_self _) _ _ hP hD hS ls (lv_sub hl [1, 2, 3, 4, 0] rfl)
