set_option maxHeartbeats 4000000 in
set_option maxRecDepth 100000 in
theorem c_X6_keep (l : Launch) (D : va_G) (cs : Nat → ClassId) (sz : Nat) (o : Nat) (o1 : Nat) (o2 : Nat) (o3 : Nat) (o4 : Nat) (o5 : Nat) (o6 : Nat) (o7 : Nat) (o8 : Nat) (o9 : Nat) (o10 : Nat) (o11 : Nat) (o12 : Nat) (o13 : Nat) (o14 : Nat) (o15 : Nat) (n : Nat) (dy : Nat) (ch : Nat) (lw : Nat) (tz : Nat) (at9 : Nat) (va9 : Nat) (ss : Nat) (im : Bool) (kd : Nat → Nat) (wo : Nat → Nat) (ha : Nat → Nat) (we : Nat → Nat) (td : Nat → Nat) (bo : Nat → Option Nat) (ta : Nat) (f0 : Nat → Int32)  : mV (S := Nat → Int32) l yX6_keep wsX6_keep ({ frames := 0, cells := 0, slots := 0, locals := 0 } : Room) D (tyc cs) sz [.ref o, .ref ta] [(o, .inr (6, [.int (nI n), .ref o1, .ref o2, .ref o3, .ref o4, .int (nI dy), .ref o5, .ref o6, .int (nI ch), .int (nI lw), .int (nI tz), .ref o7, .int (nI at9), .int (nI va9), .int (nI ss), .ref o8, .ref o9, .int (bI im), .ref o10, .ref o11, .ref o12, .ref o13, .ref o14, .ref o15])), (o1, aI cs 4 (tx_nf kd)), (o2, aI cs 4 (tx_nf wo)), (o3, aI cs 4 (tx_nf ha)), (o4, aI cs 4 (tx_nf we)), (o5, aI cs 21 (tx_nf td)), (o6, aI cs 21 (tx_bf bo))] [(ta, aI cs 61 f0)] (fun (u : Nat → Int32) => match u with | f2 => ∀ i, i < 60 → f2 i = tx_kp n dy ch lw kd wo ha we td bo i) (fun (u : Nat → Int32) => match u with | f2 => [(ta, aI cs 61 f2)]) 0 0 := by
  unfold mV
  refine Met.ofW (cc := cX6_keep) (maxL := 3) (ret := none) (by decide) rfl ?_
  intro p e s m args below meth c s₁ B hml hv
  obtain ⟨rfl, hsz, hP, hK, hD0⟩ := hv
  have hx := B.exec
  have hb := B.bytes
  have hr := B.returns
  have hts := atoms_spec (ws := wsX6_keep) B.pre
  have hown : s.vm.findClass RX6 = some m.cls := findClass_of_methodNamed B.named
  have hlocks := B.notSynchronized
  subst hsz
  have hR := @en_R _ _ _ [(o, .inr (6, [.int (nI n), .ref o1, .ref o2, .ref o3, .ref o4, .int (nI dy), .ref o5, .ref o6, .int (nI ch), .int (nI lw), .int (nI tz), .ref o7, .int (nI at9), .int (nI va9), .int (nI ss), .ref o8, .ref o9, .int (bI im), .ref o10, .ref o11, .ref o12, .ref o13, .ref o14, .ref o15])), (o1, aI cs 4 (tx_nf kd)), (o2, aI cs 4 (tx_nf wo)), (o3, aI cs 4 (tx_nf ha)), (o4, aI cs 4 (tx_nf we)), (o5, aI cs 21 (tx_nf td)), (o6, aI cs 21 (tx_bf bo))] [(ta, aI cs 61 f0)] _ hP hD0
  have hN := adN_of hD0
  have hD := en_D (wr := [(o, .inr (6, [.int (nI n), .ref o1, .ref o2, .ref o3, .ref o4, .int (nI dy), .ref o5, .ref o6, .int (nI ch), .int (nI lw), .int (nI tz), .ref o7, .int (nI at9), .int (nI va9), .int (nI ss), .ref o8, .ref o9, .int (bI im), .ref o10, .ref o11, .ref o12, .ref o13, .ref o14, .ref o15])), (o1, aI cs 4 (tx_nf kd)), (o2, aI cs 4 (tx_nf wo)), (o3, aI cs 4 (tx_nf ha)), (o4, aI cs 4 (tx_nf we)), (o5, aI cs 21 (tx_nf td)), (o6, aI cs 21 (tx_bf bo))]) (ww := [(ta, aI cs 61 f0)]) (sz := s.heap.size) hD0
  have hP := en_P (wr := [(o, .inr (6, [.int (nI n), .ref o1, .ref o2, .ref o3, .ref o4, .int (nI dy), .ref o5, .ref o6, .int (nI ch), .int (nI lw), .int (nI tz), .ref o7, .int (nI at9), .int (nI va9), .int (nI ss), .ref o8, .ref o9, .int (bI im), .ref o10, .ref o11, .ref o12, .ref o13, .ref o14, .ref o15])), (o1, aI cs 4 (tx_nf kd)), (o2, aI cs 4 (tx_nf wo)), (o3, aI cs 4 (tx_nf ha)), (o4, aI cs 4 (tx_nf we)), (o5, aI cs 21 (tx_nf td)), (o6, aI cs 21 (tx_bf bo))]) (ww := [(ta, aI cs 61 f0)]) hP
  generalize hAe : va_A [(ta, aI cs 61 f0)] s.heap.size = A at hD hR ⊢
  have hA : ∀ q : Nat, s.heap.size ≤ q → A q := fun q h => by rw [← hAe]; exact Or.inr h
  have hS : va_S A s.heap s.heap [] := va_S.rf
  have hN : adN [o, o1, o2, o3, o4, o5, o6, ta] := hN
  have hf_7 := hts (.fieldLink RX6 7 "TaxedByLongestModel" "kind" "[I") (by decide +kernel)
  have hf_13 := hts (.fieldLink RX6 13 "TaxedByLongestModel" "worth" "[I") (by decide +kernel)
  have hf_16 := hts (.fieldLink RX6 16 "TaxedByLongestModel" "habit" "[I") (by decide +kernel)
  have hf_19 := hts (.fieldLink RX6 19 "TaxedByLongestModel" "weary" "[I") (by decide +kernel)
  have hf_22 := hts (.fieldLink RX6 22 "TaxedByLongestModel" "done" "[I") (by decide +kernel)
  have hf_25 := hts (.fieldLink RX6 25 "TaxedByLongestModel" "bound" "[I") (by decide +kernel)
  have hf_60 := hts (.fieldLink RX6 60 "TaxedByLongestModel" "change" "I") (by decide +kernel)
  have hf_71 := hts (.fieldLink RX6 71 "TaxedByLongestModel" "things" "I") (by decide +kernel)
  have hf_78 := hts (.fieldLink RX6 78 "TaxedByLongestModel" "days" "I") (by decide +kernel)
  have hf_114 := hts (.fieldLink RX6 114 "TaxedByLongestModel" "law" "I") (by decide +kernel)
  have in_X6 : ∀ w ∈ wsX60, w ∈ wsX6_keep := by decide +kernel
  have hl := lv_entry ([.ref o, .ref ta]) (n := 3) (Nat.le_of_ble_eq_true rfl)
  rw [lg_entry_eq]
  generalize (lg_sl ([.ref o, .ref ta]) ++ List.replicate (3 - (lg_sl ([.ref o, .ref ta])).length) Slot.unset).toArray = ls at hl ⊢
  have hl : lv_has ls 3 [(0, .ref o), (1, .ref ta)] := hl
  refine lv_iconst (v := 0) hx hb dX6_keep_0 (by decide) ?_
  refine lv_istore_n (lv' := [(2, .int 0), (0, .ref o), (1, .ref ta)]) hx hb dX6_keep_1 rfl hl (by decide) rfl (fun ls hl => ?_)
  have loop2 : ∀ (n9 : Nat) (i : Nat) (f1 : Nat → Int32) (hi : i ≤ 20) (hq : ∀ k, k < i → f1 k = nI (td k) ∧ f1 (20 + k) = tx_bf bo k), 20 - i < n9 → ∀ (H : Heap) (locs : List Loc), va_P D vwCl [(ta, aI cs 61 f1)] H → va_D A [(ta, aI cs 61 f1)] → va_S A s.heap H locs → ∀ (ls : Array Slot), lv_has ls 3 [(0, .ref o), (1, .ref ta), (2, .int (nI i))] → W p l e (headSpec wsX6_keep ({ frames := 0, cells := 0, slots := 0, locals := 0 } : Room)).room s m ([.ref o, .ref ta] : List Value).toArray below meth c H locs 0 0 (MQ below (va_Qv (fun (u : Nat → Int32) => match u with | f2 => ∀ i, i < 60 → f2 i = tx_kp n dy ch lw kd wo ha we td bo i) (QB D (fun (u : Nat → Int32) => match u with | f2 => [(ta, aI cs 61 f2)]) A) A) ([.ref o, .ref ta] : List Value).toArray s 0 0 A) (F0 m 2 ls []) := by
    intro n9
    induction n9 with
    | zero => intros; omega
    | succ n9 ih2 =>
      intro i f1 hi hq hmu H locs hP hD hS ls hl
      refine lv_iload_n hx hb dX6_keep_2 rfl (lv_at hl 2 rfl) ?_
      refine lv_bipush (v := 20) hx hb dX6_keep_3 (by decide) ?_
      refine bn_ge (a := i) (b := 20) (tgt := 35) hx hb rfl rfl (by omega) (by decide) dX6_keep_5 (by decide) (fun c5 => ?_) (fun c5 => ?_)
      · refine lv_iconst (v := 0) hx hb dX6_keep_35 (by decide) ?_
        refine lv_istore_n (lv' := [(2, .int 0), (0, .ref o), (1, .ref ta)]) hx hb dX6_keep_36 rfl hl (by decide) rfl (fun ls hl => ?_)
        have loop37 : ∀ (n9 : Nat) (i : Nat) (f1 : Nat → Int32) (hi : i ≤ 4) (hq20 : ∀ k, k < 20 → f1 k = nI (td k) ∧ f1 (20 + k) = tx_bf bo k) (hq : ∀ k, k < i → f1 (40 + k) = nI (kd k) ∧ f1 (44 + k) = nI (wo k) ∧ f1 (48 + k) = nI (ha k) ∧ f1 (52 + k) = nI (we k)), 4 - i < n9 → ∀ (H : Heap) (locs : List Loc), va_P D vwCl [(ta, aI cs 61 f1)] H → va_D A [(ta, aI cs 61 f1)] → va_S A s.heap H locs → ∀ (ls : Array Slot), lv_has ls 3 [(0, .ref o), (1, .ref ta), (2, .int (nI i))] → W p l e (headSpec wsX6_keep ({ frames := 0, cells := 0, slots := 0, locals := 0 } : Room)).room s m ([.ref o, .ref ta] : List Value).toArray below meth c H locs 0 0 (MQ below (va_Qv (fun (u : Nat → Int32) => match u with | f2 => ∀ i, i < 60 → f2 i = tx_kp n dy ch lw kd wo ha we td bo i) (QB D (fun (u : Nat → Int32) => match u with | f2 => [(ta, aI cs 61 f2)]) A) A) ([.ref o, .ref ta] : List Value).toArray s 0 0 A) (F0 m 37 ls []) := by
          intro n9
          induction n9 with
          | zero => intros; omega
          | succ n9 ih37 =>
            intro i f1 hi hq20 hq hmu H locs hP hD hS ls hl
            refine lv_iload_n hx hb dX6_keep_37 rfl (lv_at hl 2 rfl) ?_
            refine lv_iconst (v := 4) hx hb dX6_keep_38 (by decide) ?_
            refine bn_ge (a := i) (b := 4) (tgt := 96) hx hb rfl rfl (by omega) (by decide) dX6_keep_39 (by decide) (fun c39 => ?_) (fun c39 => ?_)
            · refine lv_aload_n hx hb dX6_keep_96 rfl (lv_at hl 1 rfl) ?_
              refine lv_bipush (v := 56) hx hb dX6_keep_97 (by decide) ?_
              refine lv_aload_n hx hb dX6_keep_99 rfl (lv_at hl 0 rfl) ?_
              refine va_get (D := D) (ci := 6) (v := .int (nI n)) (C := RX6) (T := TX6) (N := 24) hx hb hts in_X6 hown hK (hR hS) 0 rfl rfl 0 (by decide) hf_71 (fun _ h9 => h9) rfl dX6_keep_100 ?_
              refine is_n (f := f1) hx hb hK hP hD hS 0 0 rfl rfl (j := 56) rfl (by decide) (by decide) dX6_keep_103 (fun H locs hP hD hS => ?_)
              have hP : va_P D vwCl [(ta, aI cs 61 (upd f1 56 (nI n)))] H := hP
              have hD : va_D A [(ta, aI cs 61 (upd f1 56 (nI n)))] := hD
              refine lv_aload_n hx hb dX6_keep_104 rfl (lv_at hl 1 rfl) ?_
              refine lv_bipush (v := 57) hx hb dX6_keep_105 (by decide) ?_
              refine lv_aload_n hx hb dX6_keep_107 rfl (lv_at hl 0 rfl) ?_
              refine va_get (D := D) (ci := 6) (v := .int (nI dy)) (C := RX6) (T := TX6) (N := 24) hx hb hts in_X6 hown hK (hR hS) 0 rfl rfl 5 (by decide) hf_78 (fun _ h9 => h9) rfl dX6_keep_108 ?_
              refine is_n (f := upd f1 56 (nI n)) hx hb hK hP hD hS 0 0 rfl rfl (j := 57) rfl (by decide) (by decide) dX6_keep_111 (fun H locs hP hD hS => ?_)
              have hP : va_P D vwCl [(ta, aI cs 61 (upd (upd f1 56 (nI n)) 57 (nI dy)))] H := hP
              have hD : va_D A [(ta, aI cs 61 (upd (upd f1 56 (nI n)) 57 (nI dy)))] := hD
              refine lv_aload_n hx hb dX6_keep_112 rfl (lv_at hl 1 rfl) ?_
              refine lv_bipush (v := 58) hx hb dX6_keep_113 (by decide) ?_
              refine lv_aload_n hx hb dX6_keep_115 rfl (lv_at hl 0 rfl) ?_
              refine va_get (D := D) (ci := 6) (v := .int (nI ch)) (C := RX6) (T := TX6) (N := 24) hx hb hts in_X6 hown hK (hR hS) 0 rfl rfl 8 (by decide) hf_60 (fun _ h9 => h9) rfl dX6_keep_116 ?_
              refine is_n (f := upd (upd f1 56 (nI n)) 57 (nI dy)) hx hb hK hP hD hS 0 0 rfl rfl (j := 58) rfl (by decide) (by decide) dX6_keep_119 (fun H locs hP hD hS => ?_)
              have hP : va_P D vwCl [(ta, aI cs 61 (upd (upd (upd f1 56 (nI n)) 57 (nI dy)) 58 (nI ch)))] H := hP
              have hD : va_D A [(ta, aI cs 61 (upd (upd (upd f1 56 (nI n)) 57 (nI dy)) 58 (nI ch)))] := hD
              refine lv_aload_n hx hb dX6_keep_120 rfl (lv_at hl 1 rfl) ?_
              refine lv_bipush (v := 59) hx hb dX6_keep_121 (by decide) ?_
              refine lv_aload_n hx hb dX6_keep_123 rfl (lv_at hl 0 rfl) ?_
              refine va_get (D := D) (ci := 6) (v := .int (nI lw)) (C := RX6) (T := TX6) (N := 24) hx hb hts in_X6 hown hK (hR hS) 0 rfl rfl 9 (by decide) hf_114 (fun _ h9 => h9) rfl dX6_keep_124 ?_
              refine is_n (f := upd (upd (upd f1 56 (nI n)) 57 (nI dy)) 58 (nI ch)) hx hb hK hP hD hS 0 0 rfl rfl (j := 59) rfl (by decide) (by decide) dX6_keep_127 (fun H locs hP hD hS => ?_)
              have hP : va_P D vwCl [(ta, aI cs 61 (upd (upd (upd (upd f1 56 (nI n)) 57 (nI dy)) 58 (nI ch)) 59 (nI lw)))] H := hP
              have hD : va_D A [(ta, aI cs 61 (upd (upd (upd (upd f1 56 (nI n)) 57 (nI dy)) 58 (nI ch)) 59 (nI lw)))] := hD
              exact rt_v hx hb hr hlocks (upd (upd (upd (upd f1 56 (nI n)) 57 (nI dy)) 58 (nI ch)) 59 (nI lw)) (tx_kp_of (fun k hk => ⟨(by unfold upd; (repeat' split) <;> first | (exfalso; omega) | exact (hq20 k hk).1), (by unfold upd; (repeat' split) <;> first | (exfalso; omega) | exact (hq20 k hk).2)⟩) (fun k hk => ⟨(by unfold upd; (repeat' split) <;> first | (exfalso; omega) | exact (hq k (by omega)).1), (by unfold upd; (repeat' split) <;> first | (exfalso; omega) | exact (hq k (by omega)).2.1), (by unfold upd; (repeat' split) <;> first | (exfalso; omega) | exact (hq k (by omega)).2.2.1), (by unfold upd; (repeat' split) <;> first | (exfalso; omega) | exact (hq k (by omega)).2.2.2)⟩) (by simp [upd]) (by simp [upd]) (by simp [upd]) (by simp [upd])) hP hD hS dX6_keep_128
            · refine lv_aload_n hx hb dX6_keep_42 rfl (lv_at hl 1 rfl) ?_
              refine lv_bipush (v := 40) hx hb dX6_keep_43 (by decide) ?_
              refine lv_iload_n hx hb dX6_keep_45 rfl (lv_at hl 2 rfl) ?_
              refine lv_iadd hx hb dX6_keep_46 ?_
              refine tp_i (nI_add 40 i) ?_
              refine lv_aload_n hx hb dX6_keep_47 rfl (lv_at hl 0 rfl) ?_
              refine va_get (D := D) (ci := 6) (v := .ref o1) (C := RX6) (T := TX6) (N := 24) hx hb hts in_X6 hown hK (hR hS) 0 rfl rfl 1 (by decide) hf_7 (fun _ h9 => h9) rfl dX6_keep_48 ?_
              refine lv_iload_n hx hb dX6_keep_51 rfl (lv_at hl 2 rfl) ?_
              refine ia_n (f := tx_nf kd) hx hb hK (hR hS) 1 0 rfl rfl (j := i) rfl (by omega) (by decide) dX6_keep_52 ?_
              refine tp_i (y := nI (kd i)) rfl ?_
              refine is_n (f := f1) hx hb hK hP hD hS 0 0 rfl rfl (j := 40 + i) rfl (by omega) (by decide) dX6_keep_53 (fun H locs hP hD hS => ?_)
              have hP : va_P D vwCl [(ta, aI cs 61 (upd f1 (40 + i) (nI (kd i))))] H := hP
              have hD : va_D A [(ta, aI cs 61 (upd f1 (40 + i) (nI (kd i))))] := hD
              refine lv_aload_n hx hb dX6_keep_54 rfl (lv_at hl 1 rfl) ?_
              refine lv_bipush (v := 44) hx hb dX6_keep_55 (by decide) ?_
              refine lv_iload_n hx hb dX6_keep_57 rfl (lv_at hl 2 rfl) ?_
              refine lv_iadd hx hb dX6_keep_58 ?_
              refine tp_i (nI_add 44 i) ?_
              refine lv_aload_n hx hb dX6_keep_59 rfl (lv_at hl 0 rfl) ?_
              refine va_get (D := D) (ci := 6) (v := .ref o2) (C := RX6) (T := TX6) (N := 24) hx hb hts in_X6 hown hK (hR hS) 0 rfl rfl 2 (by decide) hf_13 (fun _ h9 => h9) rfl dX6_keep_60 ?_
              refine lv_iload_n hx hb dX6_keep_63 rfl (lv_at hl 2 rfl) ?_
              refine ia_n (f := tx_nf wo) hx hb hK (hR hS) 2 0 rfl rfl (j := i) rfl (by omega) (by decide) dX6_keep_64 ?_
              refine tp_i (y := nI (wo i)) rfl ?_
              refine is_n (f := upd f1 (40 + i) (nI (kd i))) hx hb hK hP hD hS 0 0 rfl rfl (j := 44 + i) rfl (by omega) (by decide) dX6_keep_65 (fun H locs hP hD hS => ?_)
              have hP : va_P D vwCl [(ta, aI cs 61 (upd (upd f1 (40 + i) (nI (kd i))) (44 + i) (nI (wo i))))] H := hP
              have hD : va_D A [(ta, aI cs 61 (upd (upd f1 (40 + i) (nI (kd i))) (44 + i) (nI (wo i))))] := hD
              refine lv_aload_n hx hb dX6_keep_66 rfl (lv_at hl 1 rfl) ?_
              refine lv_bipush (v := 48) hx hb dX6_keep_67 (by decide) ?_
              refine lv_iload_n hx hb dX6_keep_69 rfl (lv_at hl 2 rfl) ?_
              refine lv_iadd hx hb dX6_keep_70 ?_
              refine tp_i (nI_add 48 i) ?_
              refine lv_aload_n hx hb dX6_keep_71 rfl (lv_at hl 0 rfl) ?_
              refine va_get (D := D) (ci := 6) (v := .ref o3) (C := RX6) (T := TX6) (N := 24) hx hb hts in_X6 hown hK (hR hS) 0 rfl rfl 3 (by decide) hf_16 (fun _ h9 => h9) rfl dX6_keep_72 ?_
              refine lv_iload_n hx hb dX6_keep_75 rfl (lv_at hl 2 rfl) ?_
              refine ia_n (f := tx_nf ha) hx hb hK (hR hS) 3 0 rfl rfl (j := i) rfl (by omega) (by decide) dX6_keep_76 ?_
              refine tp_i (y := nI (ha i)) rfl ?_
              refine is_n (f := upd (upd f1 (40 + i) (nI (kd i))) (44 + i) (nI (wo i))) hx hb hK hP hD hS 0 0 rfl rfl (j := 48 + i) rfl (by omega) (by decide) dX6_keep_77 (fun H locs hP hD hS => ?_)
              have hP : va_P D vwCl [(ta, aI cs 61 (upd (upd (upd f1 (40 + i) (nI (kd i))) (44 + i) (nI (wo i))) (48 + i) (nI (ha i))))] H := hP
              have hD : va_D A [(ta, aI cs 61 (upd (upd (upd f1 (40 + i) (nI (kd i))) (44 + i) (nI (wo i))) (48 + i) (nI (ha i))))] := hD
              refine lv_aload_n hx hb dX6_keep_78 rfl (lv_at hl 1 rfl) ?_
              refine lv_bipush (v := 52) hx hb dX6_keep_79 (by decide) ?_
              refine lv_iload_n hx hb dX6_keep_81 rfl (lv_at hl 2 rfl) ?_
              refine lv_iadd hx hb dX6_keep_82 ?_
              refine tp_i (nI_add 52 i) ?_
              refine lv_aload_n hx hb dX6_keep_83 rfl (lv_at hl 0 rfl) ?_
              refine va_get (D := D) (ci := 6) (v := .ref o4) (C := RX6) (T := TX6) (N := 24) hx hb hts in_X6 hown hK (hR hS) 0 rfl rfl 4 (by decide) hf_19 (fun _ h9 => h9) rfl dX6_keep_84 ?_
              refine lv_iload_n hx hb dX6_keep_87 rfl (lv_at hl 2 rfl) ?_
              refine ia_n (f := tx_nf we) hx hb hK (hR hS) 4 0 rfl rfl (j := i) rfl (by omega) (by decide) dX6_keep_88 ?_
              refine tp_i (y := nI (we i)) rfl ?_
              refine is_n (f := upd (upd (upd f1 (40 + i) (nI (kd i))) (44 + i) (nI (wo i))) (48 + i) (nI (ha i))) hx hb hK hP hD hS 0 0 rfl rfl (j := 52 + i) rfl (by omega) (by decide) dX6_keep_89 (fun H locs hP hD hS => ?_)
              have hP : va_P D vwCl [(ta, aI cs 61 (upd (upd (upd (upd f1 (40 + i) (nI (kd i))) (44 + i) (nI (wo i))) (48 + i) (nI (ha i))) (52 + i) (nI (we i))))] H := hP
              have hD : va_D A [(ta, aI cs 61 (upd (upd (upd (upd f1 (40 + i) (nI (kd i))) (44 + i) (nI (wo i))) (48 + i) (nI (ha i))) (52 + i) (nI (we i))))] := hD
              refine lv_iinc (v := nI (i + 1)) (lv' := [(2, .int (nI (i + 1))), (0, .ref o), (1, .ref ta)]) hx hb dX6_keep_90 hl (k := 2) rfl (inc_n i 1) (by decide) rfl (fun ls hl => ?_)
              refine lv_goto (tgt := 37) hx hb dX6_keep_93 (by decide) ?_
              exact ih37 (i + 1) (upd (upd (upd (upd f1 (40 + i) (nI (kd i))) (44 + i) (nI (wo i))) (48 + i) (nI (ha i))) (52 + i) (nI (we i))) (by first | assumption | omega) (fun k hk => ⟨(by unfold upd; (repeat' split) <;> first | (exfalso; omega) | exact (hq20 k hk).1), (by unfold upd; (repeat' split) <;> first | (exfalso; omega) | exact (hq20 k hk).2)⟩) (fun k hk => ⟨(by by_cases e : k = i; (subst e; unfold upd; (repeat' split) <;> first | rfl | (exfalso; omega)); (unfold upd; rw [if_neg (by omega), if_neg (by omega), if_neg (by omega), if_neg (by omega)]; exact (hq k (by omega)).1)), (by by_cases e : k = i; (subst e; unfold upd; (repeat' split) <;> first | rfl | (exfalso; omega)); (unfold upd; rw [if_neg (by omega), if_neg (by omega), if_neg (by omega), if_neg (by omega)]; exact (hq k (by omega)).2.1)), (by by_cases e : k = i; (subst e; unfold upd; (repeat' split) <;> first | rfl | (exfalso; omega)); (unfold upd; rw [if_neg (by omega), if_neg (by omega), if_neg (by omega), if_neg (by omega)]; exact (hq k (by omega)).2.2.1)), (by by_cases e : k = i; (subst e; unfold upd; (repeat' split) <;> first | rfl | (exfalso; omega)); (unfold upd; rw [if_neg (by omega), if_neg (by omega), if_neg (by omega), if_neg (by omega)]; exact (hq k (by omega)).2.2.2))⟩) (by omega) _ _ hP hD hS ls (lv_sub hl [1, 2, 0] rfl)
        exact loop37 _ 0 f1 (by first | assumption | omega) (fun k hk => hq k (by omega)) (fun k hk => absurd hk (Nat.not_lt_zero k)) (Nat.lt_succ_self _) _ _ hP hD hS ls (lv_sub hl [1, 2, 0] rfl)
      · refine lv_aload_n hx hb dX6_keep_8 rfl (lv_at hl 1 rfl) ?_
        refine lv_iload_n hx hb dX6_keep_9 rfl (lv_at hl 2 rfl) ?_
        refine lv_aload_n hx hb dX6_keep_10 rfl (lv_at hl 0 rfl) ?_
        refine va_get (D := D) (ci := 6) (v := .ref o5) (C := RX6) (T := TX6) (N := 24) hx hb hts in_X6 hown hK (hR hS) 0 rfl rfl 6 (by decide) hf_22 (fun _ h9 => h9) rfl dX6_keep_11 ?_
        refine lv_iload_n hx hb dX6_keep_14 rfl (lv_at hl 2 rfl) ?_
        refine ia_n (f := tx_nf td) hx hb hK (hR hS) 5 0 rfl rfl (j := i) rfl (by omega) (by decide) dX6_keep_15 ?_
        refine tp_i (y := nI (td i)) rfl ?_
        refine is_n (f := f1) hx hb hK hP hD hS 0 0 rfl rfl (j := i) rfl (by omega) (by decide) dX6_keep_16 (fun H locs hP hD hS => ?_)
        have hP : va_P D vwCl [(ta, aI cs 61 (upd f1 i (nI (td i))))] H := hP
        have hD : va_D A [(ta, aI cs 61 (upd f1 i (nI (td i))))] := hD
        refine lv_aload_n hx hb dX6_keep_17 rfl (lv_at hl 1 rfl) ?_
        refine lv_bipush (v := 20) hx hb dX6_keep_18 (by decide) ?_
        refine lv_iload_n hx hb dX6_keep_20 rfl (lv_at hl 2 rfl) ?_
        refine lv_iadd hx hb dX6_keep_21 ?_
        refine tp_i (nI_add 20 i) ?_
        refine lv_aload_n hx hb dX6_keep_22 rfl (lv_at hl 0 rfl) ?_
        refine va_get (D := D) (ci := 6) (v := .ref o6) (C := RX6) (T := TX6) (N := 24) hx hb hts in_X6 hown hK (hR hS) 0 rfl rfl 7 (by decide) hf_25 (fun _ h9 => h9) rfl dX6_keep_23 ?_
        refine lv_iload_n hx hb dX6_keep_26 rfl (lv_at hl 2 rfl) ?_
        refine ia_n (f := tx_bf bo) hx hb hK (hR hS) 6 0 rfl rfl (j := i) rfl (by omega) (by decide) dX6_keep_27 ?_
        refine is_n (f := upd f1 i (nI (td i))) hx hb hK hP hD hS 0 0 rfl rfl (j := 20 + i) rfl (by omega) (by decide) dX6_keep_28 (fun H locs hP hD hS => ?_)
        have hP : va_P D vwCl [(ta, aI cs 61 (upd (upd f1 i (nI (td i))) (20 + i) (tx_bf bo i)))] H := hP
        have hD : va_D A [(ta, aI cs 61 (upd (upd f1 i (nI (td i))) (20 + i) (tx_bf bo i)))] := hD
        refine lv_iinc (v := nI (i + 1)) (lv' := [(2, .int (nI (i + 1))), (0, .ref o), (1, .ref ta)]) hx hb dX6_keep_29 hl (k := 2) rfl (inc_n i 1) (by decide) rfl (fun ls hl => ?_)
        refine lv_goto (tgt := 2) hx hb dX6_keep_32 (by decide) ?_
        exact ih2 (i + 1) (upd (upd f1 i (nI (td i))) (20 + i) (tx_bf bo i)) (by first | assumption | omega) (fun k hk => ⟨(by by_cases e : k = i; (subst e; unfold upd; (repeat' split) <;> first | rfl | (exfalso; omega)); (unfold upd; rw [if_neg (by omega), if_neg (by omega)]; exact (hq k (by omega)).1)), (by by_cases e : k = i; (subst e; unfold upd; (repeat' split) <;> first | rfl | (exfalso; omega)); (unfold upd; rw [if_neg (by omega), if_neg (by omega)]; exact (hq k (by omega)).2))⟩) (by omega) _ _ hP hD hS ls (lv_sub hl [1, 2, 0] rfl)
  exact loop2 _ 0 f0 (by first | assumption | omega) (fun k hk => absurd hk (Nat.not_lt_zero k)) (Nat.lt_succ_self _) _ _ hP hD hS ls (lv_sub hl [1, 2, 0] rfl)
set_option maxHeartbeats 4000000 in
set_option maxRecDepth 100000 in
theorem c_X6_again (l : Launch) (D : va_G) (cs : Nat → ClassId) (sz : Nat) (o : Nat) (o1 : Nat) (o2 : Nat) (o3 : Nat) (o4 : Nat) (o5 : Nat) (o6 : Nat) (o7 : Nat) (o8 : Nat) (o9 : Nat) (o10 : Nat) (o11 : Nat) (o12 : Nat) (o13 : Nat) (o14 : Nat) (o15 : Nat) (n : Nat) (dy : Nat) (ch : Nat) (lw : Nat) (tz : Nat) (at9 : Nat) (va9 : Nat) (ss : Nat) (im : Bool) (kd : Nat → Nat) (wo : Nat → Nat) (ha : Nat → Nat) (we : Nat → Nat) (td : Nat → Nat) (bo : Nat → Option Nat) (ta : Nat) (f0 : Nat → Int32) (n2 : Nat) (dy2 : Nat) (ch2 : Nat) (lw2 : Nat) (kd2 : Nat → Nat) (wo2 : Nat → Nat) (ha2 : Nat → Nat) (we2 : Nat → Nat) (td2 : Nat → Nat) (bo2 : Nat → Option Nat) (hg : ∀ i, i < 60 → f0 i = tx_kp n2 dy2 ch2 lw2 kd2 wo2 ha2 we2 td2 bo2 i) (hz : ∀ d, 20 ≤ d → td d = td2 d ∧ bo d = bo2 d) : mV (S := Unit) l yX6_again wsX6_again ({ frames := 0, cells := 0, slots := 0, locals := 0 } : Room) D (tyc cs) sz [.ref o, .ref ta] [(ta, aI cs 61 f0)] [(o, .inr (6, [.int (nI n), .ref o1, .ref o2, .ref o3, .ref o4, .int (nI dy), .ref o5, .ref o6, .int (nI ch), .int (nI lw), .int (nI tz), .ref o7, .int (nI at9), .int (nI va9), .int (nI ss), .ref o8, .ref o9, .int (bI im), .ref o10, .ref o11, .ref o12, .ref o13, .ref o14, .ref o15])), (o1, aI cs 4 (tx_nf kd)), (o2, aI cs 4 (tx_nf wo)), (o3, aI cs 4 (tx_nf ha)), (o4, aI cs 4 (tx_nf we)), (o5, aI cs 21 (tx_nf td)), (o6, aI cs 21 (tx_bf bo))] (fun (u : Unit) => True) (fun _ => [(o, .inr (6, [.int (nI n2), .ref o1, .ref o2, .ref o3, .ref o4, .int (nI dy2), .ref o5, .ref o6, .int (nI ch2), .int (nI lw2), .int (nI tz), .ref o7, .int (nI at9), .int (nI va9), .int (nI ss), .ref o8, .ref o9, .int (bI im), .ref o10, .ref o11, .ref o12, .ref o13, .ref o14, .ref o15])), (o1, aI cs 4 (tx_nf kd2)), (o2, aI cs 4 (tx_nf wo2)), (o3, aI cs 4 (tx_nf ha2)), (o4, aI cs 4 (tx_nf we2)), (o5, aI cs 21 (tx_nf td2)), (o6, aI cs 21 (tx_bf bo2))]) 0 0 := by
  unfold mV
  refine Met.ofW (cc := cX6_again) (maxL := 3) (ret := none) (by decide) rfl ?_
  intro p e s m args below meth c s₁ B hml hv
  obtain ⟨rfl, hsz, hP, hK, hD0⟩ := hv
  have hx := B.exec
  have hb := B.bytes
  have hr := B.returns
  have hts := atoms_spec (ws := wsX6_again) B.pre
  have hown : s.vm.findClass RX6 = some m.cls := findClass_of_methodNamed B.named
  have hlocks := B.notSynchronized
  subst hsz
  have hR := @en_R _ _ _ [(ta, aI cs 61 f0)] [(o, .inr (6, [.int (nI n), .ref o1, .ref o2, .ref o3, .ref o4, .int (nI dy), .ref o5, .ref o6, .int (nI ch), .int (nI lw), .int (nI tz), .ref o7, .int (nI at9), .int (nI va9), .int (nI ss), .ref o8, .ref o9, .int (bI im), .ref o10, .ref o11, .ref o12, .ref o13, .ref o14, .ref o15])), (o1, aI cs 4 (tx_nf kd)), (o2, aI cs 4 (tx_nf wo)), (o3, aI cs 4 (tx_nf ha)), (o4, aI cs 4 (tx_nf we)), (o5, aI cs 21 (tx_nf td)), (o6, aI cs 21 (tx_bf bo))] _ hP hD0
  have hN := adN_of hD0
  have hD := en_D (wr := [(ta, aI cs 61 f0)]) (ww := [(o, .inr (6, [.int (nI n), .ref o1, .ref o2, .ref o3, .ref o4, .int (nI dy), .ref o5, .ref o6, .int (nI ch), .int (nI lw), .int (nI tz), .ref o7, .int (nI at9), .int (nI va9), .int (nI ss), .ref o8, .ref o9, .int (bI im), .ref o10, .ref o11, .ref o12, .ref o13, .ref o14, .ref o15])), (o1, aI cs 4 (tx_nf kd)), (o2, aI cs 4 (tx_nf wo)), (o3, aI cs 4 (tx_nf ha)), (o4, aI cs 4 (tx_nf we)), (o5, aI cs 21 (tx_nf td)), (o6, aI cs 21 (tx_bf bo))]) (sz := s.heap.size) hD0
  have hP := en_P (wr := [(ta, aI cs 61 f0)]) (ww := [(o, .inr (6, [.int (nI n), .ref o1, .ref o2, .ref o3, .ref o4, .int (nI dy), .ref o5, .ref o6, .int (nI ch), .int (nI lw), .int (nI tz), .ref o7, .int (nI at9), .int (nI va9), .int (nI ss), .ref o8, .ref o9, .int (bI im), .ref o10, .ref o11, .ref o12, .ref o13, .ref o14, .ref o15])), (o1, aI cs 4 (tx_nf kd)), (o2, aI cs 4 (tx_nf wo)), (o3, aI cs 4 (tx_nf ha)), (o4, aI cs 4 (tx_nf we)), (o5, aI cs 21 (tx_nf td)), (o6, aI cs 21 (tx_bf bo))]) hP
  generalize hAe : va_A [(o, .inr (6, [.int (nI n), .ref o1, .ref o2, .ref o3, .ref o4, .int (nI dy), .ref o5, .ref o6, .int (nI ch), .int (nI lw), .int (nI tz), .ref o7, .int (nI at9), .int (nI va9), .int (nI ss), .ref o8, .ref o9, .int (bI im), .ref o10, .ref o11, .ref o12, .ref o13, .ref o14, .ref o15])), (o1, aI cs 4 (tx_nf kd)), (o2, aI cs 4 (tx_nf wo)), (o3, aI cs 4 (tx_nf ha)), (o4, aI cs 4 (tx_nf we)), (o5, aI cs 21 (tx_nf td)), (o6, aI cs 21 (tx_bf bo))] s.heap.size = A at hD hR ⊢
  have hA : ∀ q : Nat, s.heap.size ≤ q → A q := fun q h => by rw [← hAe]; exact Or.inr h
  have hS : va_S A s.heap s.heap [] := va_S.rf
  have hN : adN [ta, o, o1, o2, o3, o4, o5, o6] := hN
  have hf_7 := hts (.fieldLink RX6 7 "TaxedByLongestModel" "kind" "[I") (by decide +kernel)
  have hf_13 := hts (.fieldLink RX6 13 "TaxedByLongestModel" "worth" "[I") (by decide +kernel)
  have hf_16 := hts (.fieldLink RX6 16 "TaxedByLongestModel" "habit" "[I") (by decide +kernel)
  have hf_19 := hts (.fieldLink RX6 19 "TaxedByLongestModel" "weary" "[I") (by decide +kernel)
  have hf_22 := hts (.fieldLink RX6 22 "TaxedByLongestModel" "done" "[I") (by decide +kernel)
  have hf_25 := hts (.fieldLink RX6 25 "TaxedByLongestModel" "bound" "[I") (by decide +kernel)
  have hf_60 := hts (.fieldLink RX6 60 "TaxedByLongestModel" "change" "I") (by decide +kernel)
  have hf_71 := hts (.fieldLink RX6 71 "TaxedByLongestModel" "things" "I") (by decide +kernel)
  have hf_78 := hts (.fieldLink RX6 78 "TaxedByLongestModel" "days" "I") (by decide +kernel)
  have hf_114 := hts (.fieldLink RX6 114 "TaxedByLongestModel" "law" "I") (by decide +kernel)
  have in_X6 : ∀ w ∈ wsX60, w ∈ wsX6_again := by decide +kernel
  have hl := lv_entry ([.ref o, .ref ta]) (n := 3) (Nat.le_of_ble_eq_true rfl)
  rw [lg_entry_eq]
  generalize (lg_sl ([.ref o, .ref ta]) ++ List.replicate (3 - (lg_sl ([.ref o, .ref ta])).length) Slot.unset).toArray = ls at hl ⊢
  have hl : lv_has ls 3 [(0, .ref o), (1, .ref ta)] := hl
  refine lv_iconst (v := 0) hx hb dX6_again_0 (by decide) ?_
  refine lv_istore_n (lv' := [(2, .int 0), (0, .ref o), (1, .ref ta)]) hx hb dX6_again_1 rfl hl (by decide) rfl (fun ls hl => ?_)
  have loop2 : ∀ (n9 : Nat) (i : Nat) (f1 : Nat → Nat) (b1 : Nat → Option Nat) (hi : i ≤ 20) (hq : ∀ k, k < i → f1 k = td2 k ∧ b1 k = bo2 k) (hr9 : ∀ k, 20 ≤ k → f1 k = td k ∧ b1 k = bo k), 20 - i < n9 → ∀ (H : Heap) (locs : List Loc), va_P D vwCl [(o, .inr (6, [.int (nI n), .ref o1, .ref o2, .ref o3, .ref o4, .int (nI dy), .ref o5, .ref o6, .int (nI ch), .int (nI lw), .int (nI tz), .ref o7, .int (nI at9), .int (nI va9), .int (nI ss), .ref o8, .ref o9, .int (bI im), .ref o10, .ref o11, .ref o12, .ref o13, .ref o14, .ref o15])), (o1, aI cs 4 (tx_nf kd)), (o2, aI cs 4 (tx_nf wo)), (o3, aI cs 4 (tx_nf ha)), (o4, aI cs 4 (tx_nf we)), (o5, aI cs 21 (tx_nf f1)), (o6, aI cs 21 (tx_bf b1))] H → va_D A [(o, .inr (6, [.int (nI n), .ref o1, .ref o2, .ref o3, .ref o4, .int (nI dy), .ref o5, .ref o6, .int (nI ch), .int (nI lw), .int (nI tz), .ref o7, .int (nI at9), .int (nI va9), .int (nI ss), .ref o8, .ref o9, .int (bI im), .ref o10, .ref o11, .ref o12, .ref o13, .ref o14, .ref o15])), (o1, aI cs 4 (tx_nf kd)), (o2, aI cs 4 (tx_nf wo)), (o3, aI cs 4 (tx_nf ha)), (o4, aI cs 4 (tx_nf we)), (o5, aI cs 21 (tx_nf f1)), (o6, aI cs 21 (tx_bf b1))] → va_S A s.heap H locs → ∀ (ls : Array Slot), lv_has ls 3 [(0, .ref o), (1, .ref ta), (2, .int (nI i))] → W p l e (headSpec wsX6_again ({ frames := 0, cells := 0, slots := 0, locals := 0 } : Room)).room s m ([.ref o, .ref ta] : List Value).toArray below meth c H locs 0 0 (MQ below (va_Qv (fun (u : Unit) => True) (QB D (fun _ => [(o, .inr (6, [.int (nI n2), .ref o1, .ref o2, .ref o3, .ref o4, .int (nI dy2), .ref o5, .ref o6, .int (nI ch2), .int (nI lw2), .int (nI tz), .ref o7, .int (nI at9), .int (nI va9), .int (nI ss), .ref o8, .ref o9, .int (bI im), .ref o10, .ref o11, .ref o12, .ref o13, .ref o14, .ref o15])), (o1, aI cs 4 (tx_nf kd2)), (o2, aI cs 4 (tx_nf wo2)), (o3, aI cs 4 (tx_nf ha2)), (o4, aI cs 4 (tx_nf we2)), (o5, aI cs 21 (tx_nf td2)), (o6, aI cs 21 (tx_bf bo2))]) A) A) ([.ref o, .ref ta] : List Value).toArray s 0 0 A) (F0 m 2 ls []) := by
    intro n9
    induction n9 with
    | zero => intros; omega
    | succ n9 ih2 =>
      intro i f1 b1 hi hq hr9 hmu H locs hP hD hS ls hl
      refine lv_iload_n hx hb dX6_again_2 rfl (lv_at hl 2 rfl) ?_
      refine lv_bipush (v := 20) hx hb dX6_again_3 (by decide) ?_
      refine bn_ge (a := i) (b := 20) (tgt := 35) hx hb rfl rfl (by omega) (by decide) dX6_again_5 (by decide) (fun c5 => ?_) (fun c5 => ?_)
      · have hP := w_ext hP 5 (tx_nf td2) rfl (fun q hq9 => by unfold tx_nf; by_cases e : q < 20; (rw [(hq q (by omega)).1]); (rw [(hr9 q (by omega)).1, (hz q (by omega)).1]))
        have hD : va_D A [(o, .inr (6, [.int (nI n), .ref o1, .ref o2, .ref o3, .ref o4, .int (nI dy), .ref o5, .ref o6, .int (nI ch), .int (nI lw), .int (nI tz), .ref o7, .int (nI at9), .int (nI va9), .int (nI ss), .ref o8, .ref o9, .int (bI im), .ref o10, .ref o11, .ref o12, .ref o13, .ref o14, .ref o15])), (o1, aI cs 4 (tx_nf kd)), (o2, aI cs 4 (tx_nf wo)), (o3, aI cs 4 (tx_nf ha)), (o4, aI cs 4 (tx_nf we)), (o5, aI cs 21 (tx_nf td2)), (o6, aI cs 21 (tx_bf b1))] := d_adr hD rfl
        have hP : va_P D vwCl [(o, .inr (6, [.int (nI n), .ref o1, .ref o2, .ref o3, .ref o4, .int (nI dy), .ref o5, .ref o6, .int (nI ch), .int (nI lw), .int (nI tz), .ref o7, .int (nI at9), .int (nI va9), .int (nI ss), .ref o8, .ref o9, .int (bI im), .ref o10, .ref o11, .ref o12, .ref o13, .ref o14, .ref o15])), (o1, aI cs 4 (tx_nf kd)), (o2, aI cs 4 (tx_nf wo)), (o3, aI cs 4 (tx_nf ha)), (o4, aI cs 4 (tx_nf we)), (o5, aI cs 21 (tx_nf td2)), (o6, aI cs 21 (tx_bf b1))] H := hP
        have hD : va_D A [(o, .inr (6, [.int (nI n), .ref o1, .ref o2, .ref o3, .ref o4, .int (nI dy), .ref o5, .ref o6, .int (nI ch), .int (nI lw), .int (nI tz), .ref o7, .int (nI at9), .int (nI va9), .int (nI ss), .ref o8, .ref o9, .int (bI im), .ref o10, .ref o11, .ref o12, .ref o13, .ref o14, .ref o15])), (o1, aI cs 4 (tx_nf kd)), (o2, aI cs 4 (tx_nf wo)), (o3, aI cs 4 (tx_nf ha)), (o4, aI cs 4 (tx_nf we)), (o5, aI cs 21 (tx_nf td2)), (o6, aI cs 21 (tx_bf b1))] := hD
        have hP := w_ext hP 6 (tx_bf bo2) rfl (fun q hq9 => by unfold tx_bf; by_cases e : q < 20; (rw [(hq q (by omega)).2]); (rw [(hr9 q (by omega)).2, (hz q (by omega)).2]))
        have hD : va_D A [(o, .inr (6, [.int (nI n), .ref o1, .ref o2, .ref o3, .ref o4, .int (nI dy), .ref o5, .ref o6, .int (nI ch), .int (nI lw), .int (nI tz), .ref o7, .int (nI at9), .int (nI va9), .int (nI ss), .ref o8, .ref o9, .int (bI im), .ref o10, .ref o11, .ref o12, .ref o13, .ref o14, .ref o15])), (o1, aI cs 4 (tx_nf kd)), (o2, aI cs 4 (tx_nf wo)), (o3, aI cs 4 (tx_nf ha)), (o4, aI cs 4 (tx_nf we)), (o5, aI cs 21 (tx_nf td2)), (o6, aI cs 21 (tx_bf bo2))] := d_adr hD rfl
        have hP : va_P D vwCl [(o, .inr (6, [.int (nI n), .ref o1, .ref o2, .ref o3, .ref o4, .int (nI dy), .ref o5, .ref o6, .int (nI ch), .int (nI lw), .int (nI tz), .ref o7, .int (nI at9), .int (nI va9), .int (nI ss), .ref o8, .ref o9, .int (bI im), .ref o10, .ref o11, .ref o12, .ref o13, .ref o14, .ref o15])), (o1, aI cs 4 (tx_nf kd)), (o2, aI cs 4 (tx_nf wo)), (o3, aI cs 4 (tx_nf ha)), (o4, aI cs 4 (tx_nf we)), (o5, aI cs 21 (tx_nf td2)), (o6, aI cs 21 (tx_bf bo2))] H := hP
        have hD : va_D A [(o, .inr (6, [.int (nI n), .ref o1, .ref o2, .ref o3, .ref o4, .int (nI dy), .ref o5, .ref o6, .int (nI ch), .int (nI lw), .int (nI tz), .ref o7, .int (nI at9), .int (nI va9), .int (nI ss), .ref o8, .ref o9, .int (bI im), .ref o10, .ref o11, .ref o12, .ref o13, .ref o14, .ref o15])), (o1, aI cs 4 (tx_nf kd)), (o2, aI cs 4 (tx_nf wo)), (o3, aI cs 4 (tx_nf ha)), (o4, aI cs 4 (tx_nf we)), (o5, aI cs 21 (tx_nf td2)), (o6, aI cs 21 (tx_bf bo2))] := hD
        refine lv_iconst (v := 0) hx hb dX6_again_35 (by decide) ?_
        refine lv_istore_n (lv' := [(2, .int 0), (0, .ref o), (1, .ref ta)]) hx hb dX6_again_36 rfl hl (by decide) rfl (fun ls hl => ?_)
        have loop37 : ∀ (n9 : Nat) (i : Nat) (a1 : Nat → Nat) (a2 : Nat → Nat) (a3 : Nat → Nat) (a4 : Nat → Nat) (hi : i ≤ 4) (hq4 : ∀ k, k < i → a1 k = kd2 k ∧ a2 k = wo2 k ∧ a3 k = ha2 k ∧ a4 k = we2 k), 4 - i < n9 → ∀ (H : Heap) (locs : List Loc), va_P D vwCl [(o, .inr (6, [.int (nI n), .ref o1, .ref o2, .ref o3, .ref o4, .int (nI dy), .ref o5, .ref o6, .int (nI ch), .int (nI lw), .int (nI tz), .ref o7, .int (nI at9), .int (nI va9), .int (nI ss), .ref o8, .ref o9, .int (bI im), .ref o10, .ref o11, .ref o12, .ref o13, .ref o14, .ref o15])), (o1, aI cs 4 (tx_nf a1)), (o2, aI cs 4 (tx_nf a2)), (o3, aI cs 4 (tx_nf a3)), (o4, aI cs 4 (tx_nf a4)), (o5, aI cs 21 (tx_nf td2)), (o6, aI cs 21 (tx_bf bo2))] H → va_D A [(o, .inr (6, [.int (nI n), .ref o1, .ref o2, .ref o3, .ref o4, .int (nI dy), .ref o5, .ref o6, .int (nI ch), .int (nI lw), .int (nI tz), .ref o7, .int (nI at9), .int (nI va9), .int (nI ss), .ref o8, .ref o9, .int (bI im), .ref o10, .ref o11, .ref o12, .ref o13, .ref o14, .ref o15])), (o1, aI cs 4 (tx_nf a1)), (o2, aI cs 4 (tx_nf a2)), (o3, aI cs 4 (tx_nf a3)), (o4, aI cs 4 (tx_nf a4)), (o5, aI cs 21 (tx_nf td2)), (o6, aI cs 21 (tx_bf bo2))] → va_S A s.heap H locs → ∀ (ls : Array Slot), lv_has ls 3 [(0, .ref o), (1, .ref ta), (2, .int (nI i))] → W p l e (headSpec wsX6_again ({ frames := 0, cells := 0, slots := 0, locals := 0 } : Room)).room s m ([.ref o, .ref ta] : List Value).toArray below meth c H locs 0 0 (MQ below (va_Qv (fun (u : Unit) => True) (QB D (fun _ => [(o, .inr (6, [.int (nI n2), .ref o1, .ref o2, .ref o3, .ref o4, .int (nI dy2), .ref o5, .ref o6, .int (nI ch2), .int (nI lw2), .int (nI tz), .ref o7, .int (nI at9), .int (nI va9), .int (nI ss), .ref o8, .ref o9, .int (bI im), .ref o10, .ref o11, .ref o12, .ref o13, .ref o14, .ref o15])), (o1, aI cs 4 (tx_nf kd2)), (o2, aI cs 4 (tx_nf wo2)), (o3, aI cs 4 (tx_nf ha2)), (o4, aI cs 4 (tx_nf we2)), (o5, aI cs 21 (tx_nf td2)), (o6, aI cs 21 (tx_bf bo2))]) A) A) ([.ref o, .ref ta] : List Value).toArray s 0 0 A) (F0 m 37 ls []) := by
          intro n9
          induction n9 with
          | zero => intros; omega
          | succ n9 ih37 =>
            intro i a1 a2 a3 a4 hi hq4 hmu H locs hP hD hS ls hl
            refine lv_iload_n hx hb dX6_again_37 rfl (lv_at hl 2 rfl) ?_
            refine lv_iconst (v := 4) hx hb dX6_again_38 (by decide) ?_
            refine bn_ge (a := i) (b := 4) (tgt := 96) hx hb rfl rfl (by omega) (by decide) dX6_again_39 (by decide) (fun c39 => ?_) (fun c39 => ?_)
            · have hP := w_ext hP 1 (tx_nf kd2) rfl (fun q hq9 => by unfold tx_nf; rw [(hq4 q (by omega)).1])
              have hD : va_D A [(o, .inr (6, [.int (nI n), .ref o1, .ref o2, .ref o3, .ref o4, .int (nI dy), .ref o5, .ref o6, .int (nI ch), .int (nI lw), .int (nI tz), .ref o7, .int (nI at9), .int (nI va9), .int (nI ss), .ref o8, .ref o9, .int (bI im), .ref o10, .ref o11, .ref o12, .ref o13, .ref o14, .ref o15])), (o1, aI cs 4 (tx_nf kd2)), (o2, aI cs 4 (tx_nf a2)), (o3, aI cs 4 (tx_nf a3)), (o4, aI cs 4 (tx_nf a4)), (o5, aI cs 21 (tx_nf td2)), (o6, aI cs 21 (tx_bf bo2))] := d_adr hD rfl
              have hP : va_P D vwCl [(o, .inr (6, [.int (nI n), .ref o1, .ref o2, .ref o3, .ref o4, .int (nI dy), .ref o5, .ref o6, .int (nI ch), .int (nI lw), .int (nI tz), .ref o7, .int (nI at9), .int (nI va9), .int (nI ss), .ref o8, .ref o9, .int (bI im), .ref o10, .ref o11, .ref o12, .ref o13, .ref o14, .ref o15])), (o1, aI cs 4 (tx_nf kd2)), (o2, aI cs 4 (tx_nf a2)), (o3, aI cs 4 (tx_nf a3)), (o4, aI cs 4 (tx_nf a4)), (o5, aI cs 21 (tx_nf td2)), (o6, aI cs 21 (tx_bf bo2))] H := hP
              have hD : va_D A [(o, .inr (6, [.int (nI n), .ref o1, .ref o2, .ref o3, .ref o4, .int (nI dy), .ref o5, .ref o6, .int (nI ch), .int (nI lw), .int (nI tz), .ref o7, .int (nI at9), .int (nI va9), .int (nI ss), .ref o8, .ref o9, .int (bI im), .ref o10, .ref o11, .ref o12, .ref o13, .ref o14, .ref o15])), (o1, aI cs 4 (tx_nf kd2)), (o2, aI cs 4 (tx_nf a2)), (o3, aI cs 4 (tx_nf a3)), (o4, aI cs 4 (tx_nf a4)), (o5, aI cs 21 (tx_nf td2)), (o6, aI cs 21 (tx_bf bo2))] := hD
              have hP := w_ext hP 2 (tx_nf wo2) rfl (fun q hq9 => by unfold tx_nf; rw [(hq4 q (by omega)).2.1])
              have hD : va_D A [(o, .inr (6, [.int (nI n), .ref o1, .ref o2, .ref o3, .ref o4, .int (nI dy), .ref o5, .ref o6, .int (nI ch), .int (nI lw), .int (nI tz), .ref o7, .int (nI at9), .int (nI va9), .int (nI ss), .ref o8, .ref o9, .int (bI im), .ref o10, .ref o11, .ref o12, .ref o13, .ref o14, .ref o15])), (o1, aI cs 4 (tx_nf kd2)), (o2, aI cs 4 (tx_nf wo2)), (o3, aI cs 4 (tx_nf a3)), (o4, aI cs 4 (tx_nf a4)), (o5, aI cs 21 (tx_nf td2)), (o6, aI cs 21 (tx_bf bo2))] := d_adr hD rfl
              have hP : va_P D vwCl [(o, .inr (6, [.int (nI n), .ref o1, .ref o2, .ref o3, .ref o4, .int (nI dy), .ref o5, .ref o6, .int (nI ch), .int (nI lw), .int (nI tz), .ref o7, .int (nI at9), .int (nI va9), .int (nI ss), .ref o8, .ref o9, .int (bI im), .ref o10, .ref o11, .ref o12, .ref o13, .ref o14, .ref o15])), (o1, aI cs 4 (tx_nf kd2)), (o2, aI cs 4 (tx_nf wo2)), (o3, aI cs 4 (tx_nf a3)), (o4, aI cs 4 (tx_nf a4)), (o5, aI cs 21 (tx_nf td2)), (o6, aI cs 21 (tx_bf bo2))] H := hP
              have hD : va_D A [(o, .inr (6, [.int (nI n), .ref o1, .ref o2, .ref o3, .ref o4, .int (nI dy), .ref o5, .ref o6, .int (nI ch), .int (nI lw), .int (nI tz), .ref o7, .int (nI at9), .int (nI va9), .int (nI ss), .ref o8, .ref o9, .int (bI im), .ref o10, .ref o11, .ref o12, .ref o13, .ref o14, .ref o15])), (o1, aI cs 4 (tx_nf kd2)), (o2, aI cs 4 (tx_nf wo2)), (o3, aI cs 4 (tx_nf a3)), (o4, aI cs 4 (tx_nf a4)), (o5, aI cs 21 (tx_nf td2)), (o6, aI cs 21 (tx_bf bo2))] := hD
              have hP := w_ext hP 3 (tx_nf ha2) rfl (fun q hq9 => by unfold tx_nf; rw [(hq4 q (by omega)).2.2.1])
              have hD : va_D A [(o, .inr (6, [.int (nI n), .ref o1, .ref o2, .ref o3, .ref o4, .int (nI dy), .ref o5, .ref o6, .int (nI ch), .int (nI lw), .int (nI tz), .ref o7, .int (nI at9), .int (nI va9), .int (nI ss), .ref o8, .ref o9, .int (bI im), .ref o10, .ref o11, .ref o12, .ref o13, .ref o14, .ref o15])), (o1, aI cs 4 (tx_nf kd2)), (o2, aI cs 4 (tx_nf wo2)), (o3, aI cs 4 (tx_nf ha2)), (o4, aI cs 4 (tx_nf a4)), (o5, aI cs 21 (tx_nf td2)), (o6, aI cs 21 (tx_bf bo2))] := d_adr hD rfl
              have hP : va_P D vwCl [(o, .inr (6, [.int (nI n), .ref o1, .ref o2, .ref o3, .ref o4, .int (nI dy), .ref o5, .ref o6, .int (nI ch), .int (nI lw), .int (nI tz), .ref o7, .int (nI at9), .int (nI va9), .int (nI ss), .ref o8, .ref o9, .int (bI im), .ref o10, .ref o11, .ref o12, .ref o13, .ref o14, .ref o15])), (o1, aI cs 4 (tx_nf kd2)), (o2, aI cs 4 (tx_nf wo2)), (o3, aI cs 4 (tx_nf ha2)), (o4, aI cs 4 (tx_nf a4)), (o5, aI cs 21 (tx_nf td2)), (o6, aI cs 21 (tx_bf bo2))] H := hP
              have hD : va_D A [(o, .inr (6, [.int (nI n), .ref o1, .ref o2, .ref o3, .ref o4, .int (nI dy), .ref o5, .ref o6, .int (nI ch), .int (nI lw), .int (nI tz), .ref o7, .int (nI at9), .int (nI va9), .int (nI ss), .ref o8, .ref o9, .int (bI im), .ref o10, .ref o11, .ref o12, .ref o13, .ref o14, .ref o15])), (o1, aI cs 4 (tx_nf kd2)), (o2, aI cs 4 (tx_nf wo2)), (o3, aI cs 4 (tx_nf ha2)), (o4, aI cs 4 (tx_nf a4)), (o5, aI cs 21 (tx_nf td2)), (o6, aI cs 21 (tx_bf bo2))] := hD
              have hP := w_ext hP 4 (tx_nf we2) rfl (fun q hq9 => by unfold tx_nf; rw [(hq4 q (by omega)).2.2.2])
              have hD : va_D A [(o, .inr (6, [.int (nI n), .ref o1, .ref o2, .ref o3, .ref o4, .int (nI dy), .ref o5, .ref o6, .int (nI ch), .int (nI lw), .int (nI tz), .ref o7, .int (nI at9), .int (nI va9), .int (nI ss), .ref o8, .ref o9, .int (bI im), .ref o10, .ref o11, .ref o12, .ref o13, .ref o14, .ref o15])), (o1, aI cs 4 (tx_nf kd2)), (o2, aI cs 4 (tx_nf wo2)), (o3, aI cs 4 (tx_nf ha2)), (o4, aI cs 4 (tx_nf we2)), (o5, aI cs 21 (tx_nf td2)), (o6, aI cs 21 (tx_bf bo2))] := d_adr hD rfl
              have hP : va_P D vwCl [(o, .inr (6, [.int (nI n), .ref o1, .ref o2, .ref o3, .ref o4, .int (nI dy), .ref o5, .ref o6, .int (nI ch), .int (nI lw), .int (nI tz), .ref o7, .int (nI at9), .int (nI va9), .int (nI ss), .ref o8, .ref o9, .int (bI im), .ref o10, .ref o11, .ref o12, .ref o13, .ref o14, .ref o15])), (o1, aI cs 4 (tx_nf kd2)), (o2, aI cs 4 (tx_nf wo2)), (o3, aI cs 4 (tx_nf ha2)), (o4, aI cs 4 (tx_nf we2)), (o5, aI cs 21 (tx_nf td2)), (o6, aI cs 21 (tx_bf bo2))] H := hP
              have hD : va_D A [(o, .inr (6, [.int (nI n), .ref o1, .ref o2, .ref o3, .ref o4, .int (nI dy), .ref o5, .ref o6, .int (nI ch), .int (nI lw), .int (nI tz), .ref o7, .int (nI at9), .int (nI va9), .int (nI ss), .ref o8, .ref o9, .int (bI im), .ref o10, .ref o11, .ref o12, .ref o13, .ref o14, .ref o15])), (o1, aI cs 4 (tx_nf kd2)), (o2, aI cs 4 (tx_nf wo2)), (o3, aI cs 4 (tx_nf ha2)), (o4, aI cs 4 (tx_nf we2)), (o5, aI cs 21 (tx_nf td2)), (o6, aI cs 21 (tx_bf bo2))] := hD
              refine lv_aload_n hx hb dX6_again_96 rfl (lv_at hl 0 rfl) ?_
              refine lv_aload_n hx hb dX6_again_97 rfl (lv_at hl 1 rfl) ?_
              refine lv_bipush (v := 56) hx hb dX6_again_98 (by decide) ?_
              refine ia_n (f := f0) hx hb hK (hR hS) 0 0 rfl rfl (j := 56) rfl (by decide) (by decide) dX6_again_100 ?_
              refine tp_i (show f0 56 = nI n2 from hg 56 (by decide)) ?_
              refine va_put (D := D) (ci := 6) (v := .int (nI n2)) (ty := .int) (C := RX6) (T := TX6) (N := 24) hx hb hts in_X6 tyX6 tyX6_ok nmX6 hown hK hP hD hS 0 rfl rfl 0 (by decide) hf_71 (fun _ h9 => h9) rfl (by decide +kernel) rfl rfl (Nat.le_of_ble_eq_true rfl) dX6_again_101 (fun H locs hP hD hS => ?_)
              have hP : va_P D vwCl [(o, .inr (6, [.int (nI n2), .ref o1, .ref o2, .ref o3, .ref o4, .int (nI dy), .ref o5, .ref o6, .int (nI ch), .int (nI lw), .int (nI tz), .ref o7, .int (nI at9), .int (nI va9), .int (nI ss), .ref o8, .ref o9, .int (bI im), .ref o10, .ref o11, .ref o12, .ref o13, .ref o14, .ref o15])), (o1, aI cs 4 (tx_nf kd2)), (o2, aI cs 4 (tx_nf wo2)), (o3, aI cs 4 (tx_nf ha2)), (o4, aI cs 4 (tx_nf we2)), (o5, aI cs 21 (tx_nf td2)), (o6, aI cs 21 (tx_bf bo2))] H := hP
              have hD : va_D A [(o, .inr (6, [.int (nI n2), .ref o1, .ref o2, .ref o3, .ref o4, .int (nI dy), .ref o5, .ref o6, .int (nI ch), .int (nI lw), .int (nI tz), .ref o7, .int (nI at9), .int (nI va9), .int (nI ss), .ref o8, .ref o9, .int (bI im), .ref o10, .ref o11, .ref o12, .ref o13, .ref o14, .ref o15])), (o1, aI cs 4 (tx_nf kd2)), (o2, aI cs 4 (tx_nf wo2)), (o3, aI cs 4 (tx_nf ha2)), (o4, aI cs 4 (tx_nf we2)), (o5, aI cs 21 (tx_nf td2)), (o6, aI cs 21 (tx_bf bo2))] := hD
              refine lv_aload_n hx hb dX6_again_104 rfl (lv_at hl 0 rfl) ?_
              refine lv_aload_n hx hb dX6_again_105 rfl (lv_at hl 1 rfl) ?_
              refine lv_bipush (v := 57) hx hb dX6_again_106 (by decide) ?_
              refine ia_n (f := f0) hx hb hK (hR hS) 0 0 rfl rfl (j := 57) rfl (by decide) (by decide) dX6_again_108 ?_
              refine tp_i (show f0 57 = nI dy2 from hg 57 (by decide)) ?_
              refine va_put (D := D) (ci := 6) (v := .int (nI dy2)) (ty := .int) (C := RX6) (T := TX6) (N := 24) hx hb hts in_X6 tyX6 tyX6_ok nmX6 hown hK hP hD hS 0 rfl rfl 5 (by decide) hf_78 (fun _ h9 => h9) rfl (by decide +kernel) rfl rfl (Nat.le_of_ble_eq_true rfl) dX6_again_109 (fun H locs hP hD hS => ?_)
              have hP : va_P D vwCl [(o, .inr (6, [.int (nI n2), .ref o1, .ref o2, .ref o3, .ref o4, .int (nI dy2), .ref o5, .ref o6, .int (nI ch), .int (nI lw), .int (nI tz), .ref o7, .int (nI at9), .int (nI va9), .int (nI ss), .ref o8, .ref o9, .int (bI im), .ref o10, .ref o11, .ref o12, .ref o13, .ref o14, .ref o15])), (o1, aI cs 4 (tx_nf kd2)), (o2, aI cs 4 (tx_nf wo2)), (o3, aI cs 4 (tx_nf ha2)), (o4, aI cs 4 (tx_nf we2)), (o5, aI cs 21 (tx_nf td2)), (o6, aI cs 21 (tx_bf bo2))] H := hP
              have hD : va_D A [(o, .inr (6, [.int (nI n2), .ref o1, .ref o2, .ref o3, .ref o4, .int (nI dy2), .ref o5, .ref o6, .int (nI ch), .int (nI lw), .int (nI tz), .ref o7, .int (nI at9), .int (nI va9), .int (nI ss), .ref o8, .ref o9, .int (bI im), .ref o10, .ref o11, .ref o12, .ref o13, .ref o14, .ref o15])), (o1, aI cs 4 (tx_nf kd2)), (o2, aI cs 4 (tx_nf wo2)), (o3, aI cs 4 (tx_nf ha2)), (o4, aI cs 4 (tx_nf we2)), (o5, aI cs 21 (tx_nf td2)), (o6, aI cs 21 (tx_bf bo2))] := hD
              refine lv_aload_n hx hb dX6_again_112 rfl (lv_at hl 0 rfl) ?_
              refine lv_aload_n hx hb dX6_again_113 rfl (lv_at hl 1 rfl) ?_
              refine lv_bipush (v := 58) hx hb dX6_again_114 (by decide) ?_
              refine ia_n (f := f0) hx hb hK (hR hS) 0 0 rfl rfl (j := 58) rfl (by decide) (by decide) dX6_again_116 ?_
              refine tp_i (show f0 58 = nI ch2 from hg 58 (by decide)) ?_
              refine va_put (D := D) (ci := 6) (v := .int (nI ch2)) (ty := .int) (C := RX6) (T := TX6) (N := 24) hx hb hts in_X6 tyX6 tyX6_ok nmX6 hown hK hP hD hS 0 rfl rfl 8 (by decide) hf_60 (fun _ h9 => h9) rfl (by decide +kernel) rfl rfl (Nat.le_of_ble_eq_true rfl) dX6_again_117 (fun H locs hP hD hS => ?_)
              have hP : va_P D vwCl [(o, .inr (6, [.int (nI n2), .ref o1, .ref o2, .ref o3, .ref o4, .int (nI dy2), .ref o5, .ref o6, .int (nI ch2), .int (nI lw), .int (nI tz), .ref o7, .int (nI at9), .int (nI va9), .int (nI ss), .ref o8, .ref o9, .int (bI im), .ref o10, .ref o11, .ref o12, .ref o13, .ref o14, .ref o15])), (o1, aI cs 4 (tx_nf kd2)), (o2, aI cs 4 (tx_nf wo2)), (o3, aI cs 4 (tx_nf ha2)), (o4, aI cs 4 (tx_nf we2)), (o5, aI cs 21 (tx_nf td2)), (o6, aI cs 21 (tx_bf bo2))] H := hP
              have hD : va_D A [(o, .inr (6, [.int (nI n2), .ref o1, .ref o2, .ref o3, .ref o4, .int (nI dy2), .ref o5, .ref o6, .int (nI ch2), .int (nI lw), .int (nI tz), .ref o7, .int (nI at9), .int (nI va9), .int (nI ss), .ref o8, .ref o9, .int (bI im), .ref o10, .ref o11, .ref o12, .ref o13, .ref o14, .ref o15])), (o1, aI cs 4 (tx_nf kd2)), (o2, aI cs 4 (tx_nf wo2)), (o3, aI cs 4 (tx_nf ha2)), (o4, aI cs 4 (tx_nf we2)), (o5, aI cs 21 (tx_nf td2)), (o6, aI cs 21 (tx_bf bo2))] := hD
              refine lv_aload_n hx hb dX6_again_120 rfl (lv_at hl 0 rfl) ?_
              refine lv_aload_n hx hb dX6_again_121 rfl (lv_at hl 1 rfl) ?_
              refine lv_bipush (v := 59) hx hb dX6_again_122 (by decide) ?_
              refine ia_n (f := f0) hx hb hK (hR hS) 0 0 rfl rfl (j := 59) rfl (by decide) (by decide) dX6_again_124 ?_
              refine tp_i (show f0 59 = nI lw2 from hg 59 (by decide)) ?_
              refine va_put (D := D) (ci := 6) (v := .int (nI lw2)) (ty := .int) (C := RX6) (T := TX6) (N := 24) hx hb hts in_X6 tyX6 tyX6_ok nmX6 hown hK hP hD hS 0 rfl rfl 9 (by decide) hf_114 (fun _ h9 => h9) rfl (by decide +kernel) rfl rfl (Nat.le_of_ble_eq_true rfl) dX6_again_125 (fun H locs hP hD hS => ?_)
              have hP : va_P D vwCl [(o, .inr (6, [.int (nI n2), .ref o1, .ref o2, .ref o3, .ref o4, .int (nI dy2), .ref o5, .ref o6, .int (nI ch2), .int (nI lw2), .int (nI tz), .ref o7, .int (nI at9), .int (nI va9), .int (nI ss), .ref o8, .ref o9, .int (bI im), .ref o10, .ref o11, .ref o12, .ref o13, .ref o14, .ref o15])), (o1, aI cs 4 (tx_nf kd2)), (o2, aI cs 4 (tx_nf wo2)), (o3, aI cs 4 (tx_nf ha2)), (o4, aI cs 4 (tx_nf we2)), (o5, aI cs 21 (tx_nf td2)), (o6, aI cs 21 (tx_bf bo2))] H := hP
              have hD : va_D A [(o, .inr (6, [.int (nI n2), .ref o1, .ref o2, .ref o3, .ref o4, .int (nI dy2), .ref o5, .ref o6, .int (nI ch2), .int (nI lw2), .int (nI tz), .ref o7, .int (nI at9), .int (nI va9), .int (nI ss), .ref o8, .ref o9, .int (bI im), .ref o10, .ref o11, .ref o12, .ref o13, .ref o14, .ref o15])), (o1, aI cs 4 (tx_nf kd2)), (o2, aI cs 4 (tx_nf wo2)), (o3, aI cs 4 (tx_nf ha2)), (o4, aI cs 4 (tx_nf we2)), (o5, aI cs 21 (tx_nf td2)), (o6, aI cs 21 (tx_bf bo2))] := hD
              exact rt_v hx hb hr hlocks () (trivial) hP hD hS dX6_again_128
            · refine lv_aload_n hx hb dX6_again_42 rfl (lv_at hl 0 rfl) ?_
              refine va_get (D := D) (ci := 6) (v := .ref o1) (C := RX6) (T := TX6) (N := 24) hx hb hts in_X6 hown hK hP 0 rfl rfl 1 (by decide) hf_7 (fun _ h9 => h9) rfl dX6_again_43 ?_
              refine lv_iload_n hx hb dX6_again_46 rfl (lv_at hl 2 rfl) ?_
              refine lv_aload_n hx hb dX6_again_47 rfl (lv_at hl 1 rfl) ?_
              refine lv_bipush (v := 40) hx hb dX6_again_48 (by decide) ?_
              refine lv_iload_n hx hb dX6_again_50 rfl (lv_at hl 2 rfl) ?_
              refine lv_iadd hx hb dX6_again_51 ?_
              refine tp_i (nI_add 40 i) ?_
              refine ia_n (f := f0) hx hb hK (hR hS) 0 0 rfl rfl (j := 40 + i) rfl (by omega) (by decide) dX6_again_52 ?_
              refine tp_i (show f0 (40 + i) = nI (kd2 i) from (hg _ (by omega)).trans (tx_kp_1 (by omega))) ?_
              refine is_n (f := tx_nf a1) hx hb hK hP hD hS 1 0 rfl rfl (j := i) rfl (by omega) (by decide) dX6_again_53 (fun H locs hP hD hS => ?_)
              rw [show upd (tx_nf a1) i (nI (kd2 i)) = tx_nf (va_up a1 i (kd2 i)) from nf_up _ _ _] at hP hD
              have hP : va_P D vwCl [(o, .inr (6, [.int (nI n), .ref o1, .ref o2, .ref o3, .ref o4, .int (nI dy), .ref o5, .ref o6, .int (nI ch), .int (nI lw), .int (nI tz), .ref o7, .int (nI at9), .int (nI va9), .int (nI ss), .ref o8, .ref o9, .int (bI im), .ref o10, .ref o11, .ref o12, .ref o13, .ref o14, .ref o15])), (o1, aI cs 4 (tx_nf (va_up a1 i (kd2 i)))), (o2, aI cs 4 (tx_nf a2)), (o3, aI cs 4 (tx_nf a3)), (o4, aI cs 4 (tx_nf a4)), (o5, aI cs 21 (tx_nf td2)), (o6, aI cs 21 (tx_bf bo2))] H := hP
              have hD : va_D A [(o, .inr (6, [.int (nI n), .ref o1, .ref o2, .ref o3, .ref o4, .int (nI dy), .ref o5, .ref o6, .int (nI ch), .int (nI lw), .int (nI tz), .ref o7, .int (nI at9), .int (nI va9), .int (nI ss), .ref o8, .ref o9, .int (bI im), .ref o10, .ref o11, .ref o12, .ref o13, .ref o14, .ref o15])), (o1, aI cs 4 (tx_nf (va_up a1 i (kd2 i)))), (o2, aI cs 4 (tx_nf a2)), (o3, aI cs 4 (tx_nf a3)), (o4, aI cs 4 (tx_nf a4)), (o5, aI cs 21 (tx_nf td2)), (o6, aI cs 21 (tx_bf bo2))] := hD
              refine lv_aload_n hx hb dX6_again_54 rfl (lv_at hl 0 rfl) ?_
              refine va_get (D := D) (ci := 6) (v := .ref o2) (C := RX6) (T := TX6) (N := 24) hx hb hts in_X6 hown hK hP 0 rfl rfl 2 (by decide) hf_13 (fun _ h9 => h9) rfl dX6_again_55 ?_
              refine lv_iload_n hx hb dX6_again_58 rfl (lv_at hl 2 rfl) ?_
              refine lv_aload_n hx hb dX6_again_59 rfl (lv_at hl 1 rfl) ?_
              refine lv_bipush (v := 44) hx hb dX6_again_60 (by decide) ?_
              refine lv_iload_n hx hb dX6_again_62 rfl (lv_at hl 2 rfl) ?_
              refine lv_iadd hx hb dX6_again_63 ?_
              refine tp_i (nI_add 44 i) ?_
              refine ia_n (f := f0) hx hb hK (hR hS) 0 0 rfl rfl (j := 44 + i) rfl (by omega) (by decide) dX6_again_64 ?_
              refine tp_i (show f0 (44 + i) = nI (wo2 i) from (hg _ (by omega)).trans (tx_kp_2 (by omega))) ?_
              refine is_n (f := tx_nf a2) hx hb hK hP hD hS 2 0 rfl rfl (j := i) rfl (by omega) (by decide) dX6_again_65 (fun H locs hP hD hS => ?_)
              rw [show upd (tx_nf a2) i (nI (wo2 i)) = tx_nf (va_up a2 i (wo2 i)) from nf_up _ _ _] at hP hD
              have hP : va_P D vwCl [(o, .inr (6, [.int (nI n), .ref o1, .ref o2, .ref o3, .ref o4, .int (nI dy), .ref o5, .ref o6, .int (nI ch), .int (nI lw), .int (nI tz), .ref o7, .int (nI at9), .int (nI va9), .int (nI ss), .ref o8, .ref o9, .int (bI im), .ref o10, .ref o11, .ref o12, .ref o13, .ref o14, .ref o15])), (o1, aI cs 4 (tx_nf (va_up a1 i (kd2 i)))), (o2, aI cs 4 (tx_nf (va_up a2 i (wo2 i)))), (o3, aI cs 4 (tx_nf a3)), (o4, aI cs 4 (tx_nf a4)), (o5, aI cs 21 (tx_nf td2)), (o6, aI cs 21 (tx_bf bo2))] H := hP
              have hD : va_D A [(o, .inr (6, [.int (nI n), .ref o1, .ref o2, .ref o3, .ref o4, .int (nI dy), .ref o5, .ref o6, .int (nI ch), .int (nI lw), .int (nI tz), .ref o7, .int (nI at9), .int (nI va9), .int (nI ss), .ref o8, .ref o9, .int (bI im), .ref o10, .ref o11, .ref o12, .ref o13, .ref o14, .ref o15])), (o1, aI cs 4 (tx_nf (va_up a1 i (kd2 i)))), (o2, aI cs 4 (tx_nf (va_up a2 i (wo2 i)))), (o3, aI cs 4 (tx_nf a3)), (o4, aI cs 4 (tx_nf a4)), (o5, aI cs 21 (tx_nf td2)), (o6, aI cs 21 (tx_bf bo2))] := hD
              refine lv_aload_n hx hb dX6_again_66 rfl (lv_at hl 0 rfl) ?_
              refine va_get (D := D) (ci := 6) (v := .ref o3) (C := RX6) (T := TX6) (N := 24) hx hb hts in_X6 hown hK hP 0 rfl rfl 3 (by decide) hf_16 (fun _ h9 => h9) rfl dX6_again_67 ?_
              refine lv_iload_n hx hb dX6_again_70 rfl (lv_at hl 2 rfl) ?_
              refine lv_aload_n hx hb dX6_again_71 rfl (lv_at hl 1 rfl) ?_
              refine lv_bipush (v := 48) hx hb dX6_again_72 (by decide) ?_
              refine lv_iload_n hx hb dX6_again_74 rfl (lv_at hl 2 rfl) ?_
              refine lv_iadd hx hb dX6_again_75 ?_
              refine tp_i (nI_add 48 i) ?_
              refine ia_n (f := f0) hx hb hK (hR hS) 0 0 rfl rfl (j := 48 + i) rfl (by omega) (by decide) dX6_again_76 ?_
              refine tp_i (show f0 (48 + i) = nI (ha2 i) from (hg _ (by omega)).trans (tx_kp_3 (by omega))) ?_
              refine is_n (f := tx_nf a3) hx hb hK hP hD hS 3 0 rfl rfl (j := i) rfl (by omega) (by decide) dX6_again_77 (fun H locs hP hD hS => ?_)
              rw [show upd (tx_nf a3) i (nI (ha2 i)) = tx_nf (va_up a3 i (ha2 i)) from nf_up _ _ _] at hP hD
              have hP : va_P D vwCl [(o, .inr (6, [.int (nI n), .ref o1, .ref o2, .ref o3, .ref o4, .int (nI dy), .ref o5, .ref o6, .int (nI ch), .int (nI lw), .int (nI tz), .ref o7, .int (nI at9), .int (nI va9), .int (nI ss), .ref o8, .ref o9, .int (bI im), .ref o10, .ref o11, .ref o12, .ref o13, .ref o14, .ref o15])), (o1, aI cs 4 (tx_nf (va_up a1 i (kd2 i)))), (o2, aI cs 4 (tx_nf (va_up a2 i (wo2 i)))), (o3, aI cs 4 (tx_nf (va_up a3 i (ha2 i)))), (o4, aI cs 4 (tx_nf a4)), (o5, aI cs 21 (tx_nf td2)), (o6, aI cs 21 (tx_bf bo2))] H := hP
              have hD : va_D A [(o, .inr (6, [.int (nI n), .ref o1, .ref o2, .ref o3, .ref o4, .int (nI dy), .ref o5, .ref o6, .int (nI ch), .int (nI lw), .int (nI tz), .ref o7, .int (nI at9), .int (nI va9), .int (nI ss), .ref o8, .ref o9, .int (bI im), .ref o10, .ref o11, .ref o12, .ref o13, .ref o14, .ref o15])), (o1, aI cs 4 (tx_nf (va_up a1 i (kd2 i)))), (o2, aI cs 4 (tx_nf (va_up a2 i (wo2 i)))), (o3, aI cs 4 (tx_nf (va_up a3 i (ha2 i)))), (o4, aI cs 4 (tx_nf a4)), (o5, aI cs 21 (tx_nf td2)), (o6, aI cs 21 (tx_bf bo2))] := hD
              refine lv_aload_n hx hb dX6_again_78 rfl (lv_at hl 0 rfl) ?_
              refine va_get (D := D) (ci := 6) (v := .ref o4) (C := RX6) (T := TX6) (N := 24) hx hb hts in_X6 hown hK hP 0 rfl rfl 4 (by decide) hf_19 (fun _ h9 => h9) rfl dX6_again_79 ?_
              refine lv_iload_n hx hb dX6_again_82 rfl (lv_at hl 2 rfl) ?_
              refine lv_aload_n hx hb dX6_again_83 rfl (lv_at hl 1 rfl) ?_
              refine lv_bipush (v := 52) hx hb dX6_again_84 (by decide) ?_
              refine lv_iload_n hx hb dX6_again_86 rfl (lv_at hl 2 rfl) ?_
              refine lv_iadd hx hb dX6_again_87 ?_
              refine tp_i (nI_add 52 i) ?_
              refine ia_n (f := f0) hx hb hK (hR hS) 0 0 rfl rfl (j := 52 + i) rfl (by omega) (by decide) dX6_again_88 ?_
              refine tp_i (show f0 (52 + i) = nI (we2 i) from (hg _ (by omega)).trans (tx_kp_4 (by omega))) ?_
              refine is_n (f := tx_nf a4) hx hb hK hP hD hS 4 0 rfl rfl (j := i) rfl (by omega) (by decide) dX6_again_89 (fun H locs hP hD hS => ?_)
              rw [show upd (tx_nf a4) i (nI (we2 i)) = tx_nf (va_up a4 i (we2 i)) from nf_up _ _ _] at hP hD
              have hP : va_P D vwCl [(o, .inr (6, [.int (nI n), .ref o1, .ref o2, .ref o3, .ref o4, .int (nI dy), .ref o5, .ref o6, .int (nI ch), .int (nI lw), .int (nI tz), .ref o7, .int (nI at9), .int (nI va9), .int (nI ss), .ref o8, .ref o9, .int (bI im), .ref o10, .ref o11, .ref o12, .ref o13, .ref o14, .ref o15])), (o1, aI cs 4 (tx_nf (va_up a1 i (kd2 i)))), (o2, aI cs 4 (tx_nf (va_up a2 i (wo2 i)))), (o3, aI cs 4 (tx_nf (va_up a3 i (ha2 i)))), (o4, aI cs 4 (tx_nf (va_up a4 i (we2 i)))), (o5, aI cs 21 (tx_nf td2)), (o6, aI cs 21 (tx_bf bo2))] H := hP
              have hD : va_D A [(o, .inr (6, [.int (nI n), .ref o1, .ref o2, .ref o3, .ref o4, .int (nI dy), .ref o5, .ref o6, .int (nI ch), .int (nI lw), .int (nI tz), .ref o7, .int (nI at9), .int (nI va9), .int (nI ss), .ref o8, .ref o9, .int (bI im), .ref o10, .ref o11, .ref o12, .ref o13, .ref o14, .ref o15])), (o1, aI cs 4 (tx_nf (va_up a1 i (kd2 i)))), (o2, aI cs 4 (tx_nf (va_up a2 i (wo2 i)))), (o3, aI cs 4 (tx_nf (va_up a3 i (ha2 i)))), (o4, aI cs 4 (tx_nf (va_up a4 i (we2 i)))), (o5, aI cs 21 (tx_nf td2)), (o6, aI cs 21 (tx_bf bo2))] := hD
              refine lv_iinc (v := nI (i + 1)) (lv' := [(2, .int (nI (i + 1))), (0, .ref o), (1, .ref ta)]) hx hb dX6_again_90 hl (k := 2) rfl (inc_n i 1) (by decide) rfl (fun ls hl => ?_)
              refine lv_goto (tgt := 37) hx hb dX6_again_93 (by decide) ?_
              exact ih37 (i + 1) (va_up a1 i (kd2 i)) (va_up a2 i (wo2 i)) (va_up a3 i (ha2 i)) (va_up a4 i (we2 i)) (by first | assumption | omega) (fun k hk => by by_cases e : k = i; (rw [e, va_up_self, va_up_self, va_up_self, va_up_self]; exact ⟨rfl, rfl, rfl, rfl⟩); (rw [va_up_ne _ _ e, va_up_ne _ _ e, va_up_ne _ _ e, va_up_ne _ _ e]; exact hq4 k (by omega))) (by omega) _ _ hP hD hS ls (lv_sub hl [1, 2, 0] rfl)
        exact loop37 _ 0 kd wo ha we (by first | assumption | omega) (fun k hk => absurd hk (Nat.not_lt_zero k)) (Nat.lt_succ_self _) _ _ hP hD hS ls (lv_sub hl [1, 2, 0] rfl)
      · refine lv_aload_n hx hb dX6_again_8 rfl (lv_at hl 0 rfl) ?_
        refine va_get (D := D) (ci := 6) (v := .ref o5) (C := RX6) (T := TX6) (N := 24) hx hb hts in_X6 hown hK hP 0 rfl rfl 6 (by decide) hf_22 (fun _ h9 => h9) rfl dX6_again_9 ?_
        refine lv_iload_n hx hb dX6_again_12 rfl (lv_at hl 2 rfl) ?_
        refine lv_aload_n hx hb dX6_again_13 rfl (lv_at hl 1 rfl) ?_
        refine lv_iload_n hx hb dX6_again_14 rfl (lv_at hl 2 rfl) ?_
        refine ia_n (f := f0) hx hb hK (hR hS) 0 0 rfl rfl (j := i) rfl (by omega) (by decide) dX6_again_15 ?_
        refine tp_i (show f0 i = nI (td2 i) from (hg _ (by omega)).trans (tx_kp_t (by omega))) ?_
        refine is_n (f := tx_nf f1) hx hb hK hP hD hS 5 0 rfl rfl (j := i) rfl (by omega) (by decide) dX6_again_16 (fun H locs hP hD hS => ?_)
        rw [show upd (tx_nf f1) i (nI (td2 i)) = tx_nf (va_up f1 i (td2 i)) from nf_up _ _ _] at hP hD
        have hP : va_P D vwCl [(o, .inr (6, [.int (nI n), .ref o1, .ref o2, .ref o3, .ref o4, .int (nI dy), .ref o5, .ref o6, .int (nI ch), .int (nI lw), .int (nI tz), .ref o7, .int (nI at9), .int (nI va9), .int (nI ss), .ref o8, .ref o9, .int (bI im), .ref o10, .ref o11, .ref o12, .ref o13, .ref o14, .ref o15])), (o1, aI cs 4 (tx_nf kd)), (o2, aI cs 4 (tx_nf wo)), (o3, aI cs 4 (tx_nf ha)), (o4, aI cs 4 (tx_nf we)), (o5, aI cs 21 (tx_nf (va_up f1 i (td2 i)))), (o6, aI cs 21 (tx_bf b1))] H := hP
        have hD : va_D A [(o, .inr (6, [.int (nI n), .ref o1, .ref o2, .ref o3, .ref o4, .int (nI dy), .ref o5, .ref o6, .int (nI ch), .int (nI lw), .int (nI tz), .ref o7, .int (nI at9), .int (nI va9), .int (nI ss), .ref o8, .ref o9, .int (bI im), .ref o10, .ref o11, .ref o12, .ref o13, .ref o14, .ref o15])), (o1, aI cs 4 (tx_nf kd)), (o2, aI cs 4 (tx_nf wo)), (o3, aI cs 4 (tx_nf ha)), (o4, aI cs 4 (tx_nf we)), (o5, aI cs 21 (tx_nf (va_up f1 i (td2 i)))), (o6, aI cs 21 (tx_bf b1))] := hD
        refine lv_aload_n hx hb dX6_again_17 rfl (lv_at hl 0 rfl) ?_
        refine va_get (D := D) (ci := 6) (v := .ref o6) (C := RX6) (T := TX6) (N := 24) hx hb hts in_X6 hown hK hP 0 rfl rfl 7 (by decide) hf_25 (fun _ h9 => h9) rfl dX6_again_18 ?_
        refine lv_iload_n hx hb dX6_again_21 rfl (lv_at hl 2 rfl) ?_
        refine lv_aload_n hx hb dX6_again_22 rfl (lv_at hl 1 rfl) ?_
        refine lv_bipush (v := 20) hx hb dX6_again_23 (by decide) ?_
        refine lv_iload_n hx hb dX6_again_25 rfl (lv_at hl 2 rfl) ?_
        refine lv_iadd hx hb dX6_again_26 ?_
        refine tp_i (nI_add 20 i) ?_
        refine ia_n (f := f0) hx hb hK (hR hS) 0 0 rfl rfl (j := 20 + i) rfl (by omega) (by decide) dX6_again_27 ?_
        refine tp_i (show f0 (20 + i) = tx_bf bo2 i from (hg _ (by omega)).trans (tx_kp_b (by omega))) ?_
        refine is_n (f := tx_bf b1) hx hb hK hP hD hS 6 0 rfl rfl (j := i) rfl (by omega) (by decide) dX6_again_28 (fun H locs hP hD hS => ?_)
        rw [show upd (tx_bf b1) i (tx_bf bo2 i) = tx_bf (va_up b1 i (bo2 i)) from bf_upB _ _ _ _] at hP hD
        have hP : va_P D vwCl [(o, .inr (6, [.int (nI n), .ref o1, .ref o2, .ref o3, .ref o4, .int (nI dy), .ref o5, .ref o6, .int (nI ch), .int (nI lw), .int (nI tz), .ref o7, .int (nI at9), .int (nI va9), .int (nI ss), .ref o8, .ref o9, .int (bI im), .ref o10, .ref o11, .ref o12, .ref o13, .ref o14, .ref o15])), (o1, aI cs 4 (tx_nf kd)), (o2, aI cs 4 (tx_nf wo)), (o3, aI cs 4 (tx_nf ha)), (o4, aI cs 4 (tx_nf we)), (o5, aI cs 21 (tx_nf (va_up f1 i (td2 i)))), (o6, aI cs 21 (tx_bf (va_up b1 i (bo2 i))))] H := hP
        have hD : va_D A [(o, .inr (6, [.int (nI n), .ref o1, .ref o2, .ref o3, .ref o4, .int (nI dy), .ref o5, .ref o6, .int (nI ch), .int (nI lw), .int (nI tz), .ref o7, .int (nI at9), .int (nI va9), .int (nI ss), .ref o8, .ref o9, .int (bI im), .ref o10, .ref o11, .ref o12, .ref o13, .ref o14, .ref o15])), (o1, aI cs 4 (tx_nf kd)), (o2, aI cs 4 (tx_nf wo)), (o3, aI cs 4 (tx_nf ha)), (o4, aI cs 4 (tx_nf we)), (o5, aI cs 21 (tx_nf (va_up f1 i (td2 i)))), (o6, aI cs 21 (tx_bf (va_up b1 i (bo2 i))))] := hD
        refine lv_iinc (v := nI (i + 1)) (lv' := [(2, .int (nI (i + 1))), (0, .ref o), (1, .ref ta)]) hx hb dX6_again_29 hl (k := 2) rfl (inc_n i 1) (by decide) rfl (fun ls hl => ?_)
        refine lv_goto (tgt := 2) hx hb dX6_again_32 (by decide) ?_
        exact ih2 (i + 1) (va_up f1 i (td2 i)) (va_up b1 i (bo2 i)) (by first | assumption | omega) (fun k hk => by by_cases e : k = i; (rw [e, va_up_self, va_up_self]; exact ⟨rfl, rfl⟩); (rw [va_up_ne _ _ e, va_up_ne _ _ e]; exact hq k (by omega))) (fun k hk => by rw [va_up_ne _ _ (by omega), va_up_ne _ _ (by omega)]; exact hr9 k hk) (by omega) _ _ hP hD hS ls (lv_sub hl [1, 2, 0] rfl)
  exact loop2 _ 0 td bo (by first | assumption | omega) (fun k hk => absurd hk (Nat.not_lt_zero k)) (fun k hk => ⟨rfl, rfl⟩) (Nat.lt_succ_self _) _ _ hP hD hS ls (lv_sub hl [1, 2, 0] rfl)
