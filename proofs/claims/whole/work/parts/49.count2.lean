set_option maxHeartbeats 4000000 in
set_option maxRecDepth 100000 in
theorem c_X6_upTo (l : Launch) (D : va_G) (cs : Nat → ClassId) (sz : Nat) (nq : Nat) (mq : Nat) (lq : Nat) (hn1 : 1 ≤ nq) (hnq : nq ≤ 20) (hm1 : 1 ≤ mq) (hmq : mq ≤ 4) (hlq : lq ≤ 20) : mL (S := Unit) l yX6_upTo wsX6_upTo ({ frames := 0, cells := 1, slots := 22, locals := 0 } : Room) D (tyc cs) sz [.int (nI nq), .int (nI mq), .int (nI lq)] [] [] (fun (r : Int64) (u : Unit) => r = lN (tx_tot mq nq tx_tt tx_t1 lq)) (fun _ => []) 1 22 := by
  unfold mL
  refine Met.ofW (cc := cX6_upTo) (maxL := 8) (ret := (some .long)) (by decide) rfl ?_
  intro p e s m args below meth c s₁ B hml hv
  obtain ⟨rfl, hsz, hP, hK, hD0⟩ := hv
  have hx := B.exec
  have hb := B.bytes
  have hr := B.returns
  have hts := atoms_spec (ws := wsX6_upTo) B.pre
  have hown : s.vm.findClass RX6 = some m.cls := findClass_of_methodNamed B.named
  have hlocks := B.notSynchronized
  subst hsz
  have hR := @en_R _ _ _ [] [] _ hP hD0
  have hN := adN_of hD0
  have hD := en_D (wr := []) (ww := []) (sz := s.heap.size) hD0
  have hP := en_P (wr := []) (ww := []) hP
  generalize hAe : va_A [] s.heap.size = A at hD hR ⊢
  have hA : ∀ q : Nat, s.heap.size ≤ q → A q := fun q h => by rw [← hAe]; exact Or.inr h
  have hS : va_S A s.heap s.heap [] := va_S.rf
  have hN : adN [] := hN
  have hl := lv_entry ([.int (nI nq), .int (nI mq), .int (nI lq)]) (n := 8) (Nat.le_of_ble_eq_true rfl)
  rw [lg_entry_eq]
  generalize (lg_sl ([.int (nI nq), .int (nI mq), .int (nI lq)]) ++ List.replicate (8 - (lg_sl ([.int (nI nq), .int (nI mq), .int (nI lq)])).length) Slot.unset).toArray = ls at hl ⊢
  have hl : lv_has ls 8 [(0, .int (nI nq)), (1, .int (nI mq)), (2, .int (nI lq))] := hl
  refine lv_bipush (v := 22) hx hb dX6_upTo_0 (by decide) ?_
  refine va_newa (atype := .long) (ty := .long) hx hb (hts (.arrayClass .long) (by decide +kernel)) rfl hK hP hD hS hA (a0 := (22, .inr (.inl (fun _ => 0)))) (fun _ => rfl) (by decide) (by decide) (by decide) (Nat.le_of_ble_eq_true rfl) (Nat.le_of_ble_eq_true rfl) dX6_upTo_2 (fun qn cA9 H hK hP hD hS => ?_)
  have hP : va_P D vwCl [(qn, .inl (cA9, 22, .inr (.inl (fun _ => 0))))] H := hP
  have hD : va_D A [(qn, .inl (cA9, 22, .inr (.inl (fun _ => 0))))] := hD
  refine lv_astore_n (lv' := [(3, .ref qn), (0, .int (nI nq)), (1, .int (nI mq)), (2, .int (nI lq))]) hx hb dX6_upTo_4 rfl hl (by decide) rfl (fun ls hl => ?_)
  refine lv_iconst (v := 1) hx hb dX6_upTo_5 (by decide) ?_
  refine lv_istore (lv' := [(4, .int 1), (3, .ref qn), (0, .int (nI nq)), (1, .int (nI mq)), (2, .int (nI lq))]) hx hb dX6_upTo_6 hl (by decide) rfl (fun ls hl => ?_)
  have loop8 : ∀ (n9 : Nat) (d : Nat) (fb : Nat → Int64) (hd1 : 1 ≤ d) (hd2 : d ≤ nq + 1) (hf : ∀ e, 1 ≤ e → e < d → fb e = lN (mq * tx_rr mq nq lq (e - 1))), nq + 1 - d < n9 → ∀ (H : Heap) (locs : List Loc), va_P D vwCl [(qn, .inl (cA9, 22, .inr (.inl fb)))] H → va_D A [(qn, .inl (cA9, 22, .inr (.inl fb)))] → va_S A s.heap H locs → ∀ (ls : Array Slot), lv_has ls 8 [(0, .int (nI nq)), (1, .int (nI mq)), (2, .int (nI lq)), (3, .ref qn), (4, .int (nI d))] → W p l e (headSpec wsX6_upTo ({ frames := 0, cells := 1, slots := 22, locals := 0 } : Room)).room s m ([.int (nI nq), .int (nI mq), .int (nI lq)] : List Value).toArray below meth c H locs 1 22 (MQ below (va_Ql (fun (r : Int64) (u : Unit) => r = lN (tx_tot mq nq tx_tt tx_t1 lq)) (QB D (fun _ => []) A) A) ([.int (nI nq), .int (nI mq), .int (nI lq)] : List Value).toArray s 1 22 A) (F0 m 8 ls []) := by
    intro n9
    induction n9 with
    | zero => intros; omega
    | succ n9 ih8 =>
      intro d fb hd1 hd2 hf hmu H locs hP hD hS ls hl
      refine lv_iload hx hb dX6_upTo_8 (lv_at hl 4 rfl) ?_
      refine lv_iload_n hx hb dX6_upTo_10 rfl (lv_at hl 0 rfl) ?_
      refine bn_gt (a := d) (b := nq) (tgt := 83) hx hb rfl rfl (by omega) (by omega) dX6_upTo_11 (by decide) (fun c11 => ?_) (fun c11 => ?_)
      · refine lv_lconst (v := 0) hx hb dX6_upTo_83 (by decide) ?_
        refine lv_lstore (lv' := [(4, .long 0), (0, .int (nI nq)), (1, .int (nI mq)), (2, .int (nI lq)), (3, .ref qn)]) hx hb dX6_upTo_84 hl (by decide) rfl (fun ls hl => ?_)
        refine lv_iconst (v := 1) hx hb dX6_upTo_86 (by decide) ?_
        refine lv_istore (lv' := [(6, .int 1), (4, .long 0), (0, .int (nI nq)), (1, .int (nI mq)), (2, .int (nI lq)), (3, .ref qn)]) hx hb dX6_upTo_87 hl (by decide) rfl (fun ls hl => ?_)
        have loop89 : ∀ (n9 : Nat) (k : Nat) (sm : Int64) (hk1 : 1 ≤ k) (hk2 : k ≤ nq + 1) (hk3 : k - 1 ≤ lq) (hsm : sm = lN (mq * tx_ns (fun i => tx_rr mq nq lq (nq - 1 - i)) (k - 1))), nq + 1 - k < n9 → ∀ (H : Heap) (locs : List Loc), va_P D vwCl [(qn, .inl (cA9, 22, .inr (.inl fb)))] H → va_D A [(qn, .inl (cA9, 22, .inr (.inl fb)))] → va_S A s.heap H locs → ∀ (ls : Array Slot), lv_has ls 8 [(0, .int (nI nq)), (1, .int (nI mq)), (2, .int (nI lq)), (3, .ref qn), (4, .long sm), (6, .int (nI k))] → W p l e (headSpec wsX6_upTo ({ frames := 0, cells := 1, slots := 22, locals := 0 } : Room)).room s m ([.int (nI nq), .int (nI mq), .int (nI lq)] : List Value).toArray below meth c H locs 1 22 (MQ below (va_Ql (fun (r : Int64) (u : Unit) => r = lN (tx_tot mq nq tx_tt tx_t1 lq)) (QB D (fun _ => []) A) A) ([.int (nI nq), .int (nI mq), .int (nI lq)] : List Value).toArray s 1 22 A) (F0 m 89 ls []) := by
          intro n9
          induction n9 with
          | zero => intros; omega
          | succ n9 ih89 =>
            intro k sm hk1 hk2 hk3 hsm hmu H locs hP hD hS ls hl
            refine lv_iload hx hb dX6_upTo_89 (lv_at hl 5 rfl) ?_
            refine lv_iload_n hx hb dX6_upTo_91 rfl (lv_at hl 2 rfl) ?_
            refine bn_gt (a := k) (b := lq) (tgt := 120) hx hb rfl rfl (by omega) (by omega) dX6_upTo_92 (by decide) (fun c92 => ?_) (fun c92 => ?_)
            · refine lv_lload hx hb dX6_upTo_120 (lv_at hl 4 rfl) ?_
              have hP := hP.sub (ws' := []) [] rfl
              have hD : va_D A [] := hD.sub [] rfl rfl
              exact rt_l hx hb hr hlocks () (by rw [hsm, tx_tot_u (by omega) (by omega), show min nq lq = k - 1 by omega]) hP hD hS dX6_upTo_122
            · refine lv_iload hx hb dX6_upTo_95 (lv_at hl 5 rfl) ?_
              refine lv_iload_n hx hb dX6_upTo_97 rfl (lv_at hl 0 rfl) ?_
              refine bn_gt (a := k) (b := nq) (tgt := 120) hx hb rfl rfl (by omega) (by omega) dX6_upTo_98 (by decide) (fun c98 => ?_) (fun c98 => ?_)
              · refine lv_lload hx hb dX6_upTo_120 (lv_at hl 4 rfl) ?_
                have hP := hP.sub (ws' := []) [] rfl
                have hD : va_D A [] := hD.sub [] rfl rfl
                exact rt_l hx hb hr hlocks () (by rw [hsm, tx_tot_u (by omega) (by omega), show min nq lq = k - 1 by omega]) hP hD hS dX6_upTo_122
              · refine lv_lload hx hb dX6_upTo_101 (lv_at hl 4 rfl) ?_
                refine lv_aload_n hx hb dX6_upTo_103 rfl (lv_at hl 3 rfl) ?_
                refine lv_iload_n hx hb dX6_upTo_104 rfl (lv_at hl 0 rfl) ?_
                refine lv_iload hx hb dX6_upTo_105 (lv_at hl 5 rfl) ?_
                refine lv_isub hx hb dX6_upTo_107 ?_
                refine tp_i (pk_sub (a := nq) (b := k) (by omega)) ?_
                refine lv_iconst (v := 1) hx hb dX6_upTo_108 (by decide) ?_
                refine lv_iadd hx hb dX6_upTo_109 ?_
                refine tp_i (nI_add (nq - k) 1) ?_
                refine la_n (f := fb) hx hb hK hP 0 5 rfl rfl (j := (nq - k) + 1) rfl (by omega) (by decide) dX6_upTo_110 ?_
                refine tp_l (show fb ((nq - k) + 1) = lN (mq * tx_rr mq nq lq (nq - k)) from (hf ((nq - k) + 1) (by omega) (by omega)).trans (by rw [Nat.add_sub_cancel])) ?_
                refine lv_ladd hx hb dX6_upTo_111 ?_
                refine lv_lstore (lv' := [(4, .long (sm + (lN (mq * tx_rr mq nq lq (nq - k))))), (0, .int (nI nq)), (1, .int (nI mq)), (2, .int (nI lq)), (3, .ref qn), (6, .int (nI k))]) hx hb dX6_upTo_112 hl (by decide) rfl (fun ls hl => ?_)
                refine lv_iinc (v := nI (k + 1)) (lv' := [(6, .int (nI (k + 1))), (4, .long (sm + (lN (mq * tx_rr mq nq lq (nq - k))))), (0, .int (nI nq)), (1, .int (nI mq)), (2, .int (nI lq)), (3, .ref qn)]) hx hb dX6_upTo_114 hl (k := 5) rfl (inc_n k 1) (by decide) rfl (fun ls hl => ?_)
                refine lv_goto (tgt := 89) hx hb dX6_upTo_117 (by decide) ?_
                exact ih89 (k + 1) (sm + (lN (mq * tx_rr mq nq lq (nq - k)))) (by first | assumption | omega) (by first | assumption | omega) (by first | assumption | omega) (by rw [hsm, lN_add, tx_up2 hk1 (by omega)]) (by omega) _ _ hP hD hS ls (lv_sub hl [2, 3, 4, 5, 1, 0] rfl)
        exact loop89 _ 1 0 (by first | assumption | omega) (by first | assumption | omega) (by first | assumption | omega) rfl (Nat.lt_succ_self _) _ _ hP hD hS ls (lv_sub hl [2, 3, 4, 5, 1, 0] rfl)
      · refine lv_iload hx hb dX6_upTo_14 (lv_at hl 4 rfl) ?_
        refine lv_iconst (v := 1) hx hb dX6_upTo_16 (by decide) ?_
        refine bn_ne (a := d) (b := 1) (tgt := 29) hx hb rfl rfl (by omega) (by decide) dX6_upTo_17 (by decide) (fun c17 => ?_) (fun c17 => ?_)
        · refine lv_lconst (v := 0) hx hb dX6_upTo_29 (by decide) ?_
          refine lv_lstore (lv' := [(5, .long 0), (0, .int (nI nq)), (1, .int (nI mq)), (2, .int (nI lq)), (3, .ref qn), (4, .int (nI d))]) hx hb dX6_upTo_30 hl (by decide) rfl (fun ls hl => ?_)
          refine lv_iconst (v := 1) hx hb dX6_upTo_32 (by decide) ?_
          refine lv_istore (lv' := [(7, .int 1), (5, .long 0), (0, .int (nI nq)), (1, .int (nI mq)), (2, .int (nI lq)), (3, .ref qn), (4, .int (nI d))]) hx hb dX6_upTo_33 hl (by decide) rfl (fun ls hl => ?_)
          have loop35 : ∀ (n9 : Nat) (k : Nat) (en : Int64) (hk1 : 1 ≤ k) (hk2 : k ≤ d) (hk3 : k - 1 ≤ lq) (hen : en = lN (mq * tx_ns (fun i => tx_rr mq nq lq (d - 1 - 1 - i)) (k - 1))), d - k < n9 → ∀ (H : Heap) (locs : List Loc), va_P D vwCl [(qn, .inl (cA9, 22, .inr (.inl fb)))] H → va_D A [(qn, .inl (cA9, 22, .inr (.inl fb)))] → va_S A s.heap H locs → ∀ (ls : Array Slot), lv_has ls 8 [(0, .int (nI nq)), (1, .int (nI mq)), (2, .int (nI lq)), (3, .ref qn), (4, .int (nI d)), (5, .long en), (7, .int (nI k))] → W p l e (headSpec wsX6_upTo ({ frames := 0, cells := 1, slots := 22, locals := 0 } : Room)).room s m ([.int (nI nq), .int (nI mq), .int (nI lq)] : List Value).toArray below meth c H locs 1 22 (MQ below (va_Ql (fun (r : Int64) (u : Unit) => r = lN (tx_tot mq nq tx_tt tx_t1 lq)) (QB D (fun _ => []) A) A) ([.int (nI nq), .int (nI mq), .int (nI lq)] : List Value).toArray s 1 22 A) (F0 m 35 ls []) := by
            intro n9
            induction n9 with
            | zero => intros; omega
            | succ n9 ih35 =>
              intro k en hk1 hk2 hk3 hen hmu H locs hP hD hS ls hl
              refine lv_iload hx hb dX6_upTo_35 (lv_at hl 6 rfl) ?_
              refine lv_iload_n hx hb dX6_upTo_37 rfl (lv_at hl 2 rfl) ?_
              refine bn_gt (a := k) (b := lq) (tgt := 66) hx hb rfl rfl (by omega) (by omega) dX6_upTo_38 (by decide) (fun c38 => ?_) (fun c38 => ?_)
              · refine lv_aload_n hx hb dX6_upTo_66 rfl (lv_at hl 3 rfl) ?_
                refine lv_iload hx hb dX6_upTo_67 (lv_at hl 4 rfl) ?_
                refine lv_lload hx hb dX6_upTo_69 (lv_at hl 5 rfl) ?_
                refine lv_iload_n hx hb dX6_upTo_71 rfl (lv_at hl 1 rfl) ?_
                refine lv_iconst (v := 1) hx hb dX6_upTo_72 (by decide) ?_
                refine lv_isub hx hb dX6_upTo_73 ?_
                refine tp_i (pk_sub (a := mq) (b := 1) (by omega)) ?_
                refine lv_i2l (v := (nI (mq - 1)).toInt64) hx hb dX6_upTo_74 rfl ?_
                refine tp_l (show (nI (mq - 1)).toInt64 = lN (mq - 1) from nI_l (by omega)) ?_
                refine lv_lmul hx hb dX6_upTo_75 ?_
                refine tp_l (show en * (lN (mq - 1)) = lN (mq * tx_rr mq nq lq (d - 1)) from by rw [hen, lN_mul, tx_rr_s (j := d - 1) (by omega) (by omega) (by omega), show min (d - 1) lq = k - 1 by omega, Nat.mul_assoc]) ?_
                refine ls_n (f := fb) hx hb hK hP hD hS 0 5 rfl rfl (j := d) rfl (by omega) (by decide) dX6_upTo_76 (fun H locs hP hD hS => ?_)
                have hP : va_P D vwCl [(qn, .inl (cA9, 22, .inr (.inl (vp_updL fb d (lN (mq * tx_rr mq nq lq (d - 1)))))))] H := hP
                have hD : va_D A [(qn, .inl (cA9, 22, .inr (.inl (vp_updL fb d (lN (mq * tx_rr mq nq lq (d - 1)))))))] := hD
                refine lv_iinc (v := nI (d + 1)) (lv' := [(4, .int (nI (d + 1))), (0, .int (nI nq)), (1, .int (nI mq)), (2, .int (nI lq)), (3, .ref qn), (5, .long en), (7, .int (nI k))]) hx hb dX6_upTo_77 hl (k := 4) rfl (inc_n d 1) (by decide) rfl (fun ls hl => ?_)
                refine lv_goto (tgt := 8) hx hb dX6_upTo_80 (by decide) ?_
                exact ih8 (d + 1) (vp_updL fb d (lN (mq * tx_rr mq nq lq (d - 1)))) (by first | assumption | omega) (by first | assumption | omega) (fun e z1 z2 => by by_cases q : e = d; (rw [q]; exact pk_uLs.trans rfl); (exact (pk_uLn q).trans (hf e z1 (by omega)))) (by omega) _ _ hP hD hS ls (lv_sub hl [1, 2, 3, 4, 0] rfl)
              · refine lv_iload hx hb dX6_upTo_41 (lv_at hl 6 rfl) ?_
                refine lv_iload hx hb dX6_upTo_43 (lv_at hl 4 rfl) ?_
                refine bn_ge (a := k) (b := d) (tgt := 66) hx hb rfl rfl (by omega) (by omega) dX6_upTo_45 (by decide) (fun c45 => ?_) (fun c45 => ?_)
                · refine lv_aload_n hx hb dX6_upTo_66 rfl (lv_at hl 3 rfl) ?_
                  refine lv_iload hx hb dX6_upTo_67 (lv_at hl 4 rfl) ?_
                  refine lv_lload hx hb dX6_upTo_69 (lv_at hl 5 rfl) ?_
                  refine lv_iload_n hx hb dX6_upTo_71 rfl (lv_at hl 1 rfl) ?_
                  refine lv_iconst (v := 1) hx hb dX6_upTo_72 (by decide) ?_
                  refine lv_isub hx hb dX6_upTo_73 ?_
                  refine tp_i (pk_sub (a := mq) (b := 1) (by omega)) ?_
                  refine lv_i2l (v := (nI (mq - 1)).toInt64) hx hb dX6_upTo_74 rfl ?_
                  refine tp_l (show (nI (mq - 1)).toInt64 = lN (mq - 1) from nI_l (by omega)) ?_
                  refine lv_lmul hx hb dX6_upTo_75 ?_
                  refine tp_l (show en * (lN (mq - 1)) = lN (mq * tx_rr mq nq lq (d - 1)) from by rw [hen, lN_mul, tx_rr_s (j := d - 1) (by omega) (by omega) (by omega), show min (d - 1) lq = k - 1 by omega, Nat.mul_assoc]) ?_
                  refine ls_n (f := fb) hx hb hK hP hD hS 0 5 rfl rfl (j := d) rfl (by omega) (by decide) dX6_upTo_76 (fun H locs hP hD hS => ?_)
                  have hP : va_P D vwCl [(qn, .inl (cA9, 22, .inr (.inl (vp_updL fb d (lN (mq * tx_rr mq nq lq (d - 1)))))))] H := hP
                  have hD : va_D A [(qn, .inl (cA9, 22, .inr (.inl (vp_updL fb d (lN (mq * tx_rr mq nq lq (d - 1)))))))] := hD
                  refine lv_iinc (v := nI (d + 1)) (lv' := [(4, .int (nI (d + 1))), (0, .int (nI nq)), (1, .int (nI mq)), (2, .int (nI lq)), (3, .ref qn), (5, .long en), (7, .int (nI k))]) hx hb dX6_upTo_77 hl (k := 4) rfl (inc_n d 1) (by decide) rfl (fun ls hl => ?_)
                  refine lv_goto (tgt := 8) hx hb dX6_upTo_80 (by decide) ?_
                  exact ih8 (d + 1) (vp_updL fb d (lN (mq * tx_rr mq nq lq (d - 1)))) (by first | assumption | omega) (by first | assumption | omega) (fun e z1 z2 => by by_cases q : e = d; (rw [q]; exact pk_uLs.trans rfl); (exact (pk_uLn q).trans (hf e z1 (by omega)))) (by omega) _ _ hP hD hS ls (lv_sub hl [1, 2, 3, 4, 0] rfl)
                · refine lv_lload hx hb dX6_upTo_48 (lv_at hl 5 rfl) ?_
                  refine lv_aload_n hx hb dX6_upTo_50 rfl (lv_at hl 3 rfl) ?_
                  refine lv_iload hx hb dX6_upTo_51 (lv_at hl 4 rfl) ?_
                  refine lv_iload hx hb dX6_upTo_53 (lv_at hl 6 rfl) ?_
                  refine lv_isub hx hb dX6_upTo_55 ?_
                  refine tp_i (pk_sub (a := d) (b := k) (by omega)) ?_
                  refine la_n (f := fb) hx hb hK hP 0 5 rfl rfl (j := d - k) rfl (by omega) (by decide) dX6_upTo_56 ?_
                  refine tp_l (show fb (d - k) = lN (mq * tx_rr mq nq lq (d - k - 1)) from hf (d - k) (by omega) (by omega)) ?_
                  refine lv_ladd hx hb dX6_upTo_57 ?_
                  refine lv_lstore (lv' := [(5, .long (en + (lN (mq * tx_rr mq nq lq (d - k - 1))))), (0, .int (nI nq)), (1, .int (nI mq)), (2, .int (nI lq)), (3, .ref qn), (4, .int (nI d)), (7, .int (nI k))]) hx hb dX6_upTo_58 hl (by decide) rfl (fun ls hl => ?_)
                  refine lv_iinc (v := nI (k + 1)) (lv' := [(7, .int (nI (k + 1))), (5, .long (en + (lN (mq * tx_rr mq nq lq (d - k - 1))))), (0, .int (nI nq)), (1, .int (nI mq)), (2, .int (nI lq)), (3, .ref qn), (4, .int (nI d))]) hx hb dX6_upTo_60 hl (k := 6) rfl (inc_n k 1) (by decide) rfl (fun ls hl => ?_)
                  refine lv_goto (tgt := 35) hx hb dX6_upTo_63 (by decide) ?_
                  exact ih35 (k + 1) (en + (lN (mq * tx_rr mq nq lq (d - k - 1)))) (by first | assumption | omega) (by first | assumption | omega) (by first | assumption | omega) (by rw [hen, lN_add, tx_up1 hk1 (by omega)]) (by omega) _ _ hP hD hS ls (lv_sub hl [2, 3, 4, 5, 6, 1, 0] rfl)
          exact loop35 _ 1 0 (by first | assumption | omega) (by first | assumption | omega) (by first | assumption | omega) rfl (Nat.lt_succ_self _) _ _ hP hD hS ls (lv_sub hl [2, 3, 4, 5, 6, 1, 0] rfl)
        · refine lv_aload_n hx hb dX6_upTo_20 rfl (lv_at hl 3 rfl) ?_
          refine lv_iload hx hb dX6_upTo_21 (lv_at hl 4 rfl) ?_
          refine lv_iload_n hx hb dX6_upTo_23 rfl (lv_at hl 1 rfl) ?_
          refine lv_i2l (v := (nI mq).toInt64) hx hb dX6_upTo_24 rfl ?_
          refine tp_l (show (nI mq).toInt64 = lN mq from nI_l (by omega)) ?_
          refine ls_n (f := fb) hx hb hK hP hD hS 0 5 rfl rfl (j := d) rfl (by omega) (by decide) dX6_upTo_25 (fun H locs hP hD hS => ?_)
          have hP : va_P D vwCl [(qn, .inl (cA9, 22, .inr (.inl (vp_updL fb d (lN mq)))))] H := hP
          have hD : va_D A [(qn, .inl (cA9, 22, .inr (.inl (vp_updL fb d (lN mq)))))] := hD
          refine lv_goto (tgt := 77) hx hb dX6_upTo_26 (by decide) ?_
          refine lv_iinc (v := nI (d + 1)) (lv' := [(4, .int (nI (d + 1))), (0, .int (nI nq)), (1, .int (nI mq)), (2, .int (nI lq)), (3, .ref qn)]) hx hb dX6_upTo_77 hl (k := 4) rfl (inc_n d 1) (by decide) rfl (fun ls hl => ?_)
          refine lv_goto (tgt := 8) hx hb dX6_upTo_80 (by decide) ?_
          exact ih8 (d + 1) (vp_updL fb d (lN mq)) (by first | assumption | omega) (by first | assumption | omega) (fun e z1 z2 => by by_cases q : e = d; (rw [q]; exact pk_uLs.trans (by rw [show d - 1 = 0 by omega, tx_rr_0, Nat.mul_one])); (exact (pk_uLn q).trans (hf e z1 (by omega)))) (by omega) _ _ hP hD hS ls (lv_sub hl [1, 2, 3, 4, 0] rfl)
  exact loop8 _ 1 (fun _ => 0) (by first | assumption | omega) (by first | assumption | omega) (fun e z1 z2 => by exfalso; omega) (Nat.lt_succ_self _) _ _ hP hD hS ls (lv_sub hl [2, 3, 4, 1, 0] rfl)
set_option maxHeartbeats 4000000 in
set_option maxRecDepth 100000 in
theorem c_X5_years (l : Launch) (D : va_G) (cs : Nat → ClassId) (sz : Nat) (xo : Nat) (hk : Nat) (im : Bool) (tx : Nat) (pn : Nat) (cn : Nat) (s0 : Nat) (ss : Nat) (r0 : Nat) (h : Nat) (g : Nat) (q1 : Nat) (q2 : Nat) (q3 : Nat) (q4 : Nat) (dd : Nat) (nn : Nat) (z9 : Nat → Int32) (kn : Nat → Nat) (rs : Nat → Nat) (rt : Nat → Nat) (Ms : Nat → Nat → Int64) (Mt : Nat → Nat → Int64) (rf : Nat → Nat) (v1 : Int32) (v2 : Int32) (v3 : Int32)  : mL (S := Nat × Nat × (Nat → Nat) × (Nat → Int32) × (Nat → Nat → Int64) × (Nat → Nat → Int64)) l yX5_years wsX5_years ({ frames := 4, cells := 0, slots := 0, locals := 95 } : Room) D (tyc cs) sz [.ref xo, .int v1, .int v2, .int v3] [(xo, .inr (5, [.ref h, .ref hk, .int (bI im), .ref tx, .ref g, .ref pn, .ref cn, .ref s0, .int (nI ss), .ref r0])), (q3, aM cs rs), (q4, aM cs rt)] [(cn, .inr (0, [.ref q1, .ref q2, .ref q3, .ref q4, .int (nI dd), .int (nI nn)])), (q1, aI cs 20 (tx_nf kn)), (q2, aZ cs 4 z9), (rs 0, aL cs 21 (Ms 0)), (rs 1, aL cs 21 (Ms 1)), (rs 2, aL cs 21 (Ms 2)), (rs 3, aL cs 21 (Ms 3)), (rt 0, aL cs 21 (Mt 0)), (rt 1, aL cs 21 (Mt 1)), (rt 2, aL cs 21 (Mt 2)), (rt 3, aL cs 21 (Mt 3)), (r0, aI cs 7 (tx_nf rf))] (fun (r : Int64) (u : Nat × Nat × (Nat → Nat) × (Nat → Int32) × (Nat → Nat → Int64) × (Nat → Nat → Int64)) => match u with | (dd2, nn2, kn2, z2, Ms2, Mt2) => r = tx_al (tx_q_years v1 v2 v3) (lN (tx_wl (tx_ix v2) (tx_ix v1) tx_tt tx_t1 (tx_ix v3)))) (fun (u : Nat × Nat × (Nat → Nat) × (Nat → Int32) × (Nat → Nat → Int64) × (Nat → Nat → Int64)) => match u with | (dd2, nn2, kn2, z2, Ms2, Mt2) => [(cn, .inr (0, [.ref q1, .ref q2, .ref q3, .ref q4, .int (nI dd2), .int (nI nn2)])), (q1, aI cs 20 (tx_nf kn2)), (q2, aZ cs 4 z2), (rs 0, aL cs 21 (Ms2 0)), (rs 1, aL cs 21 (Ms2 1)), (rs 2, aL cs 21 (Ms2 2)), (rs 3, aL cs 21 (Ms2 3)), (rt 0, aL cs 21 (Mt2 0)), (rt 1, aL cs 21 (Mt2 1)), (rt 2, aL cs 21 (Mt2 2)), (rt 3, aL cs 21 (Mt2 3)), (r0, aI cs 7 (tx_nf (tx_rf rf (tx_q_years v1 v2 v3))))]) 0 0 := by
  unfold mL
  refine Met.ofW (cc := cX5_years) (maxL := 4) (ret := (some .long)) (by decide) rfl ?_
  intro p e s m args below meth c s₁ B hml hv
  obtain ⟨rfl, hsz, hP, hK, hD0⟩ := hv
  have hx := B.exec
  have hb := B.bytes
  have hr := B.returns
  have hts := atoms_spec (ws := wsX5_years) B.pre
  have hown : s.vm.findClass RX5 = some m.cls := findClass_of_methodNamed B.named
  have hlocks := B.notSynchronized
  subst hsz
  have hR := @en_R _ _ _ [(xo, .inr (5, [.ref h, .ref hk, .int (bI im), .ref tx, .ref g, .ref pn, .ref cn, .ref s0, .int (nI ss), .ref r0])), (q3, aM cs rs), (q4, aM cs rt)] [(cn, .inr (0, [.ref q1, .ref q2, .ref q3, .ref q4, .int (nI dd), .int (nI nn)])), (q1, aI cs 20 (tx_nf kn)), (q2, aZ cs 4 z9), (rs 0, aL cs 21 (Ms 0)), (rs 1, aL cs 21 (Ms 1)), (rs 2, aL cs 21 (Ms 2)), (rs 3, aL cs 21 (Ms 3)), (rt 0, aL cs 21 (Mt 0)), (rt 1, aL cs 21 (Mt 1)), (rt 2, aL cs 21 (Mt 2)), (rt 3, aL cs 21 (Mt 3)), (r0, aI cs 7 (tx_nf rf))] _ hP hD0
  have hN := adN_of hD0
  have hD := en_D (wr := [(xo, .inr (5, [.ref h, .ref hk, .int (bI im), .ref tx, .ref g, .ref pn, .ref cn, .ref s0, .int (nI ss), .ref r0])), (q3, aM cs rs), (q4, aM cs rt)]) (ww := [(cn, .inr (0, [.ref q1, .ref q2, .ref q3, .ref q4, .int (nI dd), .int (nI nn)])), (q1, aI cs 20 (tx_nf kn)), (q2, aZ cs 4 z9), (rs 0, aL cs 21 (Ms 0)), (rs 1, aL cs 21 (Ms 1)), (rs 2, aL cs 21 (Ms 2)), (rs 3, aL cs 21 (Ms 3)), (rt 0, aL cs 21 (Mt 0)), (rt 1, aL cs 21 (Mt 1)), (rt 2, aL cs 21 (Mt 2)), (rt 3, aL cs 21 (Mt 3)), (r0, aI cs 7 (tx_nf rf))]) (sz := s.heap.size) hD0
  have hP := en_P (wr := [(xo, .inr (5, [.ref h, .ref hk, .int (bI im), .ref tx, .ref g, .ref pn, .ref cn, .ref s0, .int (nI ss), .ref r0])), (q3, aM cs rs), (q4, aM cs rt)]) (ww := [(cn, .inr (0, [.ref q1, .ref q2, .ref q3, .ref q4, .int (nI dd), .int (nI nn)])), (q1, aI cs 20 (tx_nf kn)), (q2, aZ cs 4 z9), (rs 0, aL cs 21 (Ms 0)), (rs 1, aL cs 21 (Ms 1)), (rs 2, aL cs 21 (Ms 2)), (rs 3, aL cs 21 (Ms 3)), (rt 0, aL cs 21 (Mt 0)), (rt 1, aL cs 21 (Mt 1)), (rt 2, aL cs 21 (Mt 2)), (rt 3, aL cs 21 (Mt 3)), (r0, aI cs 7 (tx_nf rf))]) hP
  generalize hAe : va_A [(cn, .inr (0, [.ref q1, .ref q2, .ref q3, .ref q4, .int (nI dd), .int (nI nn)])), (q1, aI cs 20 (tx_nf kn)), (q2, aZ cs 4 z9), (rs 0, aL cs 21 (Ms 0)), (rs 1, aL cs 21 (Ms 1)), (rs 2, aL cs 21 (Ms 2)), (rs 3, aL cs 21 (Ms 3)), (rt 0, aL cs 21 (Mt 0)), (rt 1, aL cs 21 (Mt 1)), (rt 2, aL cs 21 (Mt 2)), (rt 3, aL cs 21 (Mt 3)), (r0, aI cs 7 (tx_nf rf))] s.heap.size = A at hD hR ⊢
  have hA : ∀ q : Nat, s.heap.size ≤ q → A q := fun q h => by rw [← hAe]; exact Or.inr h
  have hS : va_S A s.heap s.heap [] := va_S.rf
  have hN : adN [xo, q3, q4, cn, q1, q2, rs 0, rs 1, rs 2, rs 3, rt 0, rt 1, rt 2, rt 3, r0] := hN
  have hf_47 := hts (.fieldLink RX5 47 "TaxedByLongest" "counting" "LTaxedByLongest$Counting;") (by decide +kernel)
  have in_X5 : ∀ w ∈ wsX50, w ∈ wsX5_years := by decide +kernel
  have hl := lv_entry ([.ref xo, .int v1, .int v2, .int v3]) (n := 4) (Nat.le_of_ble_eq_true rfl)
  rw [lg_entry_eq]
  generalize (lg_sl ([.ref xo, .int v1, .int v2, .int v3]) ++ List.replicate (4 - (lg_sl ([.ref xo, .int v1, .int v2, .int v3])).length) Slot.unset).toArray = ls at hl ⊢
  have hl : lv_has ls 4 [(0, .ref xo), (1, .int v1), (2, .int v2), (3, .int v3)] := hl
  refine lv_iload_n hx hb dX5_years_0 rfl (lv_at hl 1 rfl) ?_
  refine lv_iconst (v := 1) hx hb dX5_years_1 (by decide) ?_
  refine lv_icmp_lt (tgt := 15) hx hb dX5_years_2 (by decide) (fun c2 => ?_) (fun c2 => ?_)
  · refine lv_aload_n hx hb dX5_years_15 rfl (lv_at hl 0 rfl) ?_
    refine lv_bipush (v := (-4)) hx hb dX5_years_16 (by decide) ?_
    refine cV_l (As := [.int (-4)]) (rest := []) (cr := [(xo, .inr (5, [.ref h, .ref hk, .int (bI im), .ref tx, .ref g, .ref pn, .ref cn, .ref s0, .int (nI ss), .ref r0]))]) (cw1 := [(r0, aI cs 7 (tx_nf rf))]) ⟨hx, hb, hml, hown, hts⟩ (c_X5_refuseLong l D cs _ xo hk im tx pn cn s0 ss r0 h g rf (-4) 4 (by decide) (by decide) (by decide)) (cwV 1 hts gX5_years_X5_refuseLong rfl rfl rfl (by decide +kernel) ⟨Nat.le_of_ble_eq_true rfl, Nat.le_of_ble_eq_true rfl⟩) hK hP hD hS hA (((hR hS).app hP).sub [0, 14] rfl) (dt_of hN [0, 14] (by decide) rfl) [11] rfl 0 rfl rfl rfl hl.1 rfl (Nat.le_of_ble_eq_true rfl) dX5_years_18 ⟨Nat.le_of_ble_eq_true rfl, Nat.le_of_ble_eq_true rfl⟩ (fun _ => rfl) (fun _ => rfl) (fun r_1 u9 H locs hw_2 hP hD hS => ?_)
    have hP : va_P D vwCl [(cn, .inr (0, [.ref q1, .ref q2, .ref q3, .ref q4, .int (nI dd), .int (nI nn)])), (q1, aI cs 20 (tx_nf kn)), (q2, aZ cs 4 z9), (rs 0, aL cs 21 (Ms 0)), (rs 1, aL cs 21 (Ms 1)), (rs 2, aL cs 21 (Ms 2)), (rs 3, aL cs 21 (Ms 3)), (rt 0, aL cs 21 (Mt 0)), (rt 1, aL cs 21 (Mt 1)), (rt 2, aL cs 21 (Mt 2)), (rt 3, aL cs 21 (Mt 3)), (r0, aI cs 7 (tx_nf (tx_rf rf 4)))] H := hP
    have hD : va_D A [(cn, .inr (0, [.ref q1, .ref q2, .ref q3, .ref q4, .int (nI dd), .int (nI nn)])), (q1, aI cs 20 (tx_nf kn)), (q2, aZ cs 4 z9), (rs 0, aL cs 21 (Ms 0)), (rs 1, aL cs 21 (Ms 1)), (rs 2, aL cs 21 (Ms 2)), (rs 3, aL cs 21 (Ms 3)), (rt 0, aL cs 21 (Mt 0)), (rt 1, aL cs 21 (Mt 1)), (rt 2, aL cs 21 (Mt 2)), (rt 3, aL cs 21 (Mt 3)), (r0, aI cs 7 (tx_nf (tx_rf rf 4)))] := hD
    subst r_1
    have hQ : tx_q_years v1 v2 v3 = 4 := by unfold tx_q_years; rw [if_pos (Or.inl c2)]
    have e9 : tx_rf rf (tx_q_years v1 v2 v3) = tx_rf rf 4 := by rw [hQ] <;> rfl
    have hP : va_P D vwCl [(cn, .inr (0, [.ref q1, .ref q2, .ref q3, .ref q4, .int (nI dd), .int (nI nn)])), (q1, aI cs 20 (tx_nf kn)), (q2, aZ cs 4 z9), (rs 0, aL cs 21 (Ms 0)), (rs 1, aL cs 21 (Ms 1)), (rs 2, aL cs 21 (Ms 2)), (rs 3, aL cs 21 (Ms 3)), (rt 0, aL cs 21 (Mt 0)), (rt 1, aL cs 21 (Mt 1)), (rt 2, aL cs 21 (Mt 2)), (rt 3, aL cs 21 (Mt 3)), (r0, aI cs 7 (tx_nf (tx_rf rf (tx_q_years v1 v2 v3))))] H := by rw [e9]; (try simp only [hQ]); exact hP
    have hD : va_D A [(cn, .inr (0, [.ref q1, .ref q2, .ref q3, .ref q4, .int (nI dd), .int (nI nn)])), (q1, aI cs 20 (tx_nf kn)), (q2, aZ cs 4 z9), (rs 0, aL cs 21 (Ms 0)), (rs 1, aL cs 21 (Ms 1)), (rs 2, aL cs 21 (Ms 2)), (rs 3, aL cs 21 (Ms 3)), (rt 0, aL cs 21 (Mt 0)), (rt 1, aL cs 21 (Mt 1)), (rt 2, aL cs 21 (Mt 2)), (rt 3, aL cs 21 (Mt 3)), (r0, aI cs 7 (tx_nf (tx_rf rf (tx_q_years v1 v2 v3))))] := by rw [e9]; (try simp only [hQ]); exact hD
    exact rt_l hx hb hr hlocks (dd, nn, kn, z9, Ms, Mt) (by rw [hQ] <;> (first | done | rfl)) hP hD hS dX5_years_21
  · refine lv_iload_n hx hb dX5_years_5 rfl (lv_at hl 2 rfl) ?_
    refine lv_iconst (v := 1) hx hb dX5_years_6 (by decide) ?_
    refine lv_icmp_lt (tgt := 15) hx hb dX5_years_7 (by decide) (fun c7 => ?_) (fun c7 => ?_)
    · refine lv_aload_n hx hb dX5_years_15 rfl (lv_at hl 0 rfl) ?_
      refine lv_bipush (v := (-4)) hx hb dX5_years_16 (by decide) ?_
      refine cV_l (As := [.int (-4)]) (rest := []) (cr := [(xo, .inr (5, [.ref h, .ref hk, .int (bI im), .ref tx, .ref g, .ref pn, .ref cn, .ref s0, .int (nI ss), .ref r0]))]) (cw1 := [(r0, aI cs 7 (tx_nf rf))]) ⟨hx, hb, hml, hown, hts⟩ (c_X5_refuseLong l D cs _ xo hk im tx pn cn s0 ss r0 h g rf (-4) 4 (by decide) (by decide) (by decide)) (cwV 1 hts gX5_years_X5_refuseLong rfl rfl rfl (by decide +kernel) ⟨Nat.le_of_ble_eq_true rfl, Nat.le_of_ble_eq_true rfl⟩) hK hP hD hS hA (((hR hS).app hP).sub [0, 14] rfl) (dt_of hN [0, 14] (by decide) rfl) [11] rfl 0 rfl rfl rfl hl.1 rfl (Nat.le_of_ble_eq_true rfl) dX5_years_18 ⟨Nat.le_of_ble_eq_true rfl, Nat.le_of_ble_eq_true rfl⟩ (fun _ => rfl) (fun _ => rfl) (fun r_3 u9 H locs hw_4 hP hD hS => ?_)
      have hP : va_P D vwCl [(cn, .inr (0, [.ref q1, .ref q2, .ref q3, .ref q4, .int (nI dd), .int (nI nn)])), (q1, aI cs 20 (tx_nf kn)), (q2, aZ cs 4 z9), (rs 0, aL cs 21 (Ms 0)), (rs 1, aL cs 21 (Ms 1)), (rs 2, aL cs 21 (Ms 2)), (rs 3, aL cs 21 (Ms 3)), (rt 0, aL cs 21 (Mt 0)), (rt 1, aL cs 21 (Mt 1)), (rt 2, aL cs 21 (Mt 2)), (rt 3, aL cs 21 (Mt 3)), (r0, aI cs 7 (tx_nf (tx_rf rf 4)))] H := hP
      have hD : va_D A [(cn, .inr (0, [.ref q1, .ref q2, .ref q3, .ref q4, .int (nI dd), .int (nI nn)])), (q1, aI cs 20 (tx_nf kn)), (q2, aZ cs 4 z9), (rs 0, aL cs 21 (Ms 0)), (rs 1, aL cs 21 (Ms 1)), (rs 2, aL cs 21 (Ms 2)), (rs 3, aL cs 21 (Ms 3)), (rt 0, aL cs 21 (Mt 0)), (rt 1, aL cs 21 (Mt 1)), (rt 2, aL cs 21 (Mt 2)), (rt 3, aL cs 21 (Mt 3)), (r0, aI cs 7 (tx_nf (tx_rf rf 4)))] := hD
      subst r_3
      have hQ : tx_q_years v1 v2 v3 = 4 := by unfold tx_q_years; rw [if_pos (Or.inr (Or.inl c7))]
      have e9 : tx_rf rf (tx_q_years v1 v2 v3) = tx_rf rf 4 := by rw [hQ] <;> rfl
      have hP : va_P D vwCl [(cn, .inr (0, [.ref q1, .ref q2, .ref q3, .ref q4, .int (nI dd), .int (nI nn)])), (q1, aI cs 20 (tx_nf kn)), (q2, aZ cs 4 z9), (rs 0, aL cs 21 (Ms 0)), (rs 1, aL cs 21 (Ms 1)), (rs 2, aL cs 21 (Ms 2)), (rs 3, aL cs 21 (Ms 3)), (rt 0, aL cs 21 (Mt 0)), (rt 1, aL cs 21 (Mt 1)), (rt 2, aL cs 21 (Mt 2)), (rt 3, aL cs 21 (Mt 3)), (r0, aI cs 7 (tx_nf (tx_rf rf (tx_q_years v1 v2 v3))))] H := by rw [e9]; (try simp only [hQ]); exact hP
      have hD : va_D A [(cn, .inr (0, [.ref q1, .ref q2, .ref q3, .ref q4, .int (nI dd), .int (nI nn)])), (q1, aI cs 20 (tx_nf kn)), (q2, aZ cs 4 z9), (rs 0, aL cs 21 (Ms 0)), (rs 1, aL cs 21 (Ms 1)), (rs 2, aL cs 21 (Ms 2)), (rs 3, aL cs 21 (Ms 3)), (rt 0, aL cs 21 (Mt 0)), (rt 1, aL cs 21 (Mt 1)), (rt 2, aL cs 21 (Mt 2)), (rt 3, aL cs 21 (Mt 3)), (r0, aI cs 7 (tx_nf (tx_rf rf (tx_q_years v1 v2 v3))))] := by rw [e9]; (try simp only [hQ]); exact hD
      exact rt_l hx hb hr hlocks (dd, nn, kn, z9, Ms, Mt) (by rw [hQ] <;> (first | done | rfl)) hP hD hS dX5_years_21
    · refine lv_iload_n hx hb dX5_years_10 rfl (lv_at hl 3 rfl) ?_
      refine lv_iconst (v := 1) hx hb dX5_years_11 (by decide) ?_
      refine lv_icmp_ge (tgt := 22) hx hb dX5_years_12 (by decide) (fun c12 => ?_) (fun c12 => ?_)
      · refine lv_iload_n hx hb dX5_years_22 rfl (lv_at hl 1 rfl) ?_
        refine lv_bipush (v := 20) hx hb dX5_years_23 (by decide) ?_
        refine lv_icmp_gt (tgt := 39) hx hb dX5_years_25 (by decide) (fun c25 => ?_) (fun c25 => ?_)
        · refine lv_aload_n hx hb dX5_years_39 rfl (lv_at hl 0 rfl) ?_
          refine lv_bipush (v := (-6)) hx hb dX5_years_40 (by decide) ?_
          refine cV_l (As := [.int (-6)]) (rest := []) (cr := [(xo, .inr (5, [.ref h, .ref hk, .int (bI im), .ref tx, .ref g, .ref pn, .ref cn, .ref s0, .int (nI ss), .ref r0]))]) (cw1 := [(r0, aI cs 7 (tx_nf rf))]) ⟨hx, hb, hml, hown, hts⟩ (c_X5_refuseLong l D cs _ xo hk im tx pn cn s0 ss r0 h g rf (-6) 6 (by decide) (by decide) (by decide)) (cwV 1 hts gX5_years_X5_refuseLong rfl rfl rfl (by decide +kernel) ⟨Nat.le_of_ble_eq_true rfl, Nat.le_of_ble_eq_true rfl⟩) hK hP hD hS hA (((hR hS).app hP).sub [0, 14] rfl) (dt_of hN [0, 14] (by decide) rfl) [11] rfl 0 rfl rfl rfl hl.1 rfl (Nat.le_of_ble_eq_true rfl) dX5_years_42 ⟨Nat.le_of_ble_eq_true rfl, Nat.le_of_ble_eq_true rfl⟩ (fun _ => rfl) (fun _ => rfl) (fun r_5 u9 H locs hw_6 hP hD hS => ?_)
          have hP : va_P D vwCl [(cn, .inr (0, [.ref q1, .ref q2, .ref q3, .ref q4, .int (nI dd), .int (nI nn)])), (q1, aI cs 20 (tx_nf kn)), (q2, aZ cs 4 z9), (rs 0, aL cs 21 (Ms 0)), (rs 1, aL cs 21 (Ms 1)), (rs 2, aL cs 21 (Ms 2)), (rs 3, aL cs 21 (Ms 3)), (rt 0, aL cs 21 (Mt 0)), (rt 1, aL cs 21 (Mt 1)), (rt 2, aL cs 21 (Mt 2)), (rt 3, aL cs 21 (Mt 3)), (r0, aI cs 7 (tx_nf (tx_rf rf 6)))] H := hP
          have hD : va_D A [(cn, .inr (0, [.ref q1, .ref q2, .ref q3, .ref q4, .int (nI dd), .int (nI nn)])), (q1, aI cs 20 (tx_nf kn)), (q2, aZ cs 4 z9), (rs 0, aL cs 21 (Ms 0)), (rs 1, aL cs 21 (Ms 1)), (rs 2, aL cs 21 (Ms 2)), (rs 3, aL cs 21 (Ms 3)), (rt 0, aL cs 21 (Mt 0)), (rt 1, aL cs 21 (Mt 1)), (rt 2, aL cs 21 (Mt 2)), (rt 3, aL cs 21 (Mt 3)), (r0, aI cs 7 (tx_nf (tx_rf rf 6)))] := hD
          subst r_5
          have hQ : tx_q_years v1 v2 v3 = 6 := by unfold tx_q_years; rw [if_neg (by rintro (q | q | q); exact c2 q; exact c7 q; exact absurd q (Int32.not_lt.mpr c12)), if_pos (Or.inl c25)]
          have e9 : tx_rf rf (tx_q_years v1 v2 v3) = tx_rf rf 6 := by rw [hQ] <;> rfl
          have hP : va_P D vwCl [(cn, .inr (0, [.ref q1, .ref q2, .ref q3, .ref q4, .int (nI dd), .int (nI nn)])), (q1, aI cs 20 (tx_nf kn)), (q2, aZ cs 4 z9), (rs 0, aL cs 21 (Ms 0)), (rs 1, aL cs 21 (Ms 1)), (rs 2, aL cs 21 (Ms 2)), (rs 3, aL cs 21 (Ms 3)), (rt 0, aL cs 21 (Mt 0)), (rt 1, aL cs 21 (Mt 1)), (rt 2, aL cs 21 (Mt 2)), (rt 3, aL cs 21 (Mt 3)), (r0, aI cs 7 (tx_nf (tx_rf rf (tx_q_years v1 v2 v3))))] H := by rw [e9]; (try simp only [hQ]); exact hP
          have hD : va_D A [(cn, .inr (0, [.ref q1, .ref q2, .ref q3, .ref q4, .int (nI dd), .int (nI nn)])), (q1, aI cs 20 (tx_nf kn)), (q2, aZ cs 4 z9), (rs 0, aL cs 21 (Ms 0)), (rs 1, aL cs 21 (Ms 1)), (rs 2, aL cs 21 (Ms 2)), (rs 3, aL cs 21 (Ms 3)), (rt 0, aL cs 21 (Mt 0)), (rt 1, aL cs 21 (Mt 1)), (rt 2, aL cs 21 (Mt 2)), (rt 3, aL cs 21 (Mt 3)), (r0, aI cs 7 (tx_nf (tx_rf rf (tx_q_years v1 v2 v3))))] := by rw [e9]; (try simp only [hQ]); exact hD
          exact rt_l hx hb hr hlocks (dd, nn, kn, z9, Ms, Mt) (by rw [hQ] <;> (first | done | rfl)) hP hD hS dX5_years_45
        · refine lv_iload_n hx hb dX5_years_28 rfl (lv_at hl 2 rfl) ?_
          refine lv_iconst (v := 4) hx hb dX5_years_29 (by decide) ?_
          refine lv_icmp_gt (tgt := 39) hx hb dX5_years_30 (by decide) (fun c30 => ?_) (fun c30 => ?_)
          · refine lv_aload_n hx hb dX5_years_39 rfl (lv_at hl 0 rfl) ?_
            refine lv_bipush (v := (-6)) hx hb dX5_years_40 (by decide) ?_
            refine cV_l (As := [.int (-6)]) (rest := []) (cr := [(xo, .inr (5, [.ref h, .ref hk, .int (bI im), .ref tx, .ref g, .ref pn, .ref cn, .ref s0, .int (nI ss), .ref r0]))]) (cw1 := [(r0, aI cs 7 (tx_nf rf))]) ⟨hx, hb, hml, hown, hts⟩ (c_X5_refuseLong l D cs _ xo hk im tx pn cn s0 ss r0 h g rf (-6) 6 (by decide) (by decide) (by decide)) (cwV 1 hts gX5_years_X5_refuseLong rfl rfl rfl (by decide +kernel) ⟨Nat.le_of_ble_eq_true rfl, Nat.le_of_ble_eq_true rfl⟩) hK hP hD hS hA (((hR hS).app hP).sub [0, 14] rfl) (dt_of hN [0, 14] (by decide) rfl) [11] rfl 0 rfl rfl rfl hl.1 rfl (Nat.le_of_ble_eq_true rfl) dX5_years_42 ⟨Nat.le_of_ble_eq_true rfl, Nat.le_of_ble_eq_true rfl⟩ (fun _ => rfl) (fun _ => rfl) (fun r_7 u9 H locs hw_8 hP hD hS => ?_)
            have hP : va_P D vwCl [(cn, .inr (0, [.ref q1, .ref q2, .ref q3, .ref q4, .int (nI dd), .int (nI nn)])), (q1, aI cs 20 (tx_nf kn)), (q2, aZ cs 4 z9), (rs 0, aL cs 21 (Ms 0)), (rs 1, aL cs 21 (Ms 1)), (rs 2, aL cs 21 (Ms 2)), (rs 3, aL cs 21 (Ms 3)), (rt 0, aL cs 21 (Mt 0)), (rt 1, aL cs 21 (Mt 1)), (rt 2, aL cs 21 (Mt 2)), (rt 3, aL cs 21 (Mt 3)), (r0, aI cs 7 (tx_nf (tx_rf rf 6)))] H := hP
            have hD : va_D A [(cn, .inr (0, [.ref q1, .ref q2, .ref q3, .ref q4, .int (nI dd), .int (nI nn)])), (q1, aI cs 20 (tx_nf kn)), (q2, aZ cs 4 z9), (rs 0, aL cs 21 (Ms 0)), (rs 1, aL cs 21 (Ms 1)), (rs 2, aL cs 21 (Ms 2)), (rs 3, aL cs 21 (Ms 3)), (rt 0, aL cs 21 (Mt 0)), (rt 1, aL cs 21 (Mt 1)), (rt 2, aL cs 21 (Mt 2)), (rt 3, aL cs 21 (Mt 3)), (r0, aI cs 7 (tx_nf (tx_rf rf 6)))] := hD
            subst r_7
            have hQ : tx_q_years v1 v2 v3 = 6 := by unfold tx_q_years; rw [if_neg (by rintro (q | q | q); exact c2 q; exact c7 q; exact absurd q (Int32.not_lt.mpr c12)), if_pos (Or.inr (Or.inl c30))]
            have e9 : tx_rf rf (tx_q_years v1 v2 v3) = tx_rf rf 6 := by rw [hQ] <;> rfl
            have hP : va_P D vwCl [(cn, .inr (0, [.ref q1, .ref q2, .ref q3, .ref q4, .int (nI dd), .int (nI nn)])), (q1, aI cs 20 (tx_nf kn)), (q2, aZ cs 4 z9), (rs 0, aL cs 21 (Ms 0)), (rs 1, aL cs 21 (Ms 1)), (rs 2, aL cs 21 (Ms 2)), (rs 3, aL cs 21 (Ms 3)), (rt 0, aL cs 21 (Mt 0)), (rt 1, aL cs 21 (Mt 1)), (rt 2, aL cs 21 (Mt 2)), (rt 3, aL cs 21 (Mt 3)), (r0, aI cs 7 (tx_nf (tx_rf rf (tx_q_years v1 v2 v3))))] H := by rw [e9]; (try simp only [hQ]); exact hP
            have hD : va_D A [(cn, .inr (0, [.ref q1, .ref q2, .ref q3, .ref q4, .int (nI dd), .int (nI nn)])), (q1, aI cs 20 (tx_nf kn)), (q2, aZ cs 4 z9), (rs 0, aL cs 21 (Ms 0)), (rs 1, aL cs 21 (Ms 1)), (rs 2, aL cs 21 (Ms 2)), (rs 3, aL cs 21 (Ms 3)), (rt 0, aL cs 21 (Mt 0)), (rt 1, aL cs 21 (Mt 1)), (rt 2, aL cs 21 (Mt 2)), (rt 3, aL cs 21 (Mt 3)), (r0, aI cs 7 (tx_nf (tx_rf rf (tx_q_years v1 v2 v3))))] := by rw [e9]; (try simp only [hQ]); exact hD
            exact rt_l hx hb hr hlocks (dd, nn, kn, z9, Ms, Mt) (by rw [hQ] <;> (first | done | rfl)) hP hD hS dX5_years_45
          · refine lv_iload_n hx hb dX5_years_33 rfl (lv_at hl 3 rfl) ?_
            refine lv_bipush (v := 20) hx hb dX5_years_34 (by decide) ?_
            refine lv_icmp_le (tgt := 46) hx hb dX5_years_36 (by decide) (fun c36 => ?_) (fun c36 => ?_)
            · obtain ⟨j1, hj1, rfl⟩ := nI_of2 (x := v1) (M := 20) (n := 20) (by decide) (fun q => c2 (Int32.lt_trans q (by decide))) (Int32.not_lt.mp c25)
              have hij1 : tx_ix (nI j1) = j1 := tx_ix_n (by omega)
              have h1j1 : 1 ≤ j1 := tx_1le c2
              obtain ⟨j2, hj2, rfl⟩ := nI_of2 (x := v2) (M := 4) (n := 4) (by decide) (fun q => c7 (Int32.lt_trans q (by decide))) (Int32.not_lt.mp c30)
              have hij2 : tx_ix (nI j2) = j2 := tx_ix_n (by omega)
              have h1j2 : 1 ≤ j2 := tx_1le c7
              obtain ⟨j3, hj3, rfl⟩ := nI_of2 (x := v3) (M := 20) (n := 20) (by decide) (fun q => (Int32.not_lt.mpr c12) (Int32.lt_trans q (by decide))) c36
              have hij3 : tx_ix (nI j3) = j3 := tx_ix_n (by omega)
              have h1j3 : 1 ≤ j3 := tx_1le (Int32.not_lt.mpr c12)
              refine lv_aload_n hx hb dX5_years_46 rfl (lv_at hl 0 rfl) ?_
              refine va_get (D := D) (ci := 5) (v := .ref cn) (C := RX5) (T := TX5) (N := 10) hx hb hts in_X5 hown hK (hR hS) 0 rfl rfl 6 (by decide) hf_47 (fun _ h9 => h9) rfl dX5_years_47 ?_
              refine lv_iload_n hx hb dX5_years_50 rfl (lv_at hl 1 rfl) ?_
              refine lv_iload_n hx hb dX5_years_51 rfl (lv_at hl 2 rfl) ?_
              refine cV_v (As := [.int (nI j1), .int (nI j2)]) (rest := []) (cr := []) (cw1 := [(cn, .inr (0, [.ref q1, .ref q2, .ref q3, .ref q4, .int (nI dd), .int (nI nn)])), (q1, aI cs 20 (tx_nf kn)), (q2, aZ cs 4 z9)]) ⟨hx, hb, hml, hown, hts⟩ (c_X0_beginUnknown l D cs _ cn q1 q2 q3 q4 dd nn z9 kn j1 j2 (by omega) (by omega)) (cwV 2 hts gX5_years_X0_beginUnknown rfl rfl rfl (by decide +kernel) ⟨Nat.le_of_ble_eq_true rfl, Nat.le_of_ble_eq_true rfl⟩) hK hP hD hS hA (((hR hS).app hP).sub [3, 4, 5] rfl) (dt_of hN [3, 4, 5] (by decide) rfl) [0, 1, 2] rfl 0 rfl rfl rfl hl.1 rfl (Nat.le_of_ble_eq_true rfl) dX5_years_52 ⟨Nat.le_of_ble_eq_true rfl, Nat.le_of_ble_eq_true rfl⟩ (fun _ => rfl) (fun _ => rfl) (fun u9 H locs hw_9 hP hD hS => ?_)
              obtain ⟨z2_10, rfl⟩ : ∃ z, z = u9 := ⟨_, rfl⟩
              have hP : va_P D vwCl [(cn, .inr (0, [.ref q1, .ref q2, .ref q3, .ref q4, .int (nI j1), .int (nI j2)])), (q1, aI cs 20 (tx_nf (fun _ => 9))), (q2, aZ cs 4 z2_10), (rs 0, aL cs 21 (Ms 0)), (rs 1, aL cs 21 (Ms 1)), (rs 2, aL cs 21 (Ms 2)), (rs 3, aL cs 21 (Ms 3)), (rt 0, aL cs 21 (Mt 0)), (rt 1, aL cs 21 (Mt 1)), (rt 2, aL cs 21 (Mt 2)), (rt 3, aL cs 21 (Mt 3)), (r0, aI cs 7 (tx_nf rf))] H := hP
              have hD : va_D A [(cn, .inr (0, [.ref q1, .ref q2, .ref q3, .ref q4, .int (nI j1), .int (nI j2)])), (q1, aI cs 20 (tx_nf (fun _ => 9))), (q2, aZ cs 4 z2_10), (rs 0, aL cs 21 (Ms 0)), (rs 1, aL cs 21 (Ms 1)), (rs 2, aL cs 21 (Ms 2)), (rs 3, aL cs 21 (Ms 3)), (rt 0, aL cs 21 (Mt 0)), (rt 1, aL cs 21 (Mt 1)), (rt 2, aL cs 21 (Mt 2)), (rt 3, aL cs 21 (Mt 3)), (r0, aI cs 7 (tx_nf rf))] := hD
              have hCt9 := hw_9
              refine lv_aload_n hx hb dX5_years_55 rfl (lv_at hl 0 rfl) ?_
              refine va_get (D := D) (ci := 5) (v := .ref cn) (C := RX5) (T := TX5) (N := 10) hx hb hts in_X5 hown hK (hR hS) 0 rfl rfl 6 (by decide) hf_47 (fun _ h9 => h9) rfl dX5_years_56 ?_
              refine lv_iload_n hx hb dX5_years_59 rfl (lv_at hl 3 rfl) ?_
              refine cV_l (As := [.int (nI j3)]) (rest := []) (cr := [(cn, .inr (0, [.ref q1, .ref q2, .ref q3, .ref q4, .int (nI j1), .int (nI j2)])), (q1, aI cs 20 (tx_nf (fun _ => 9))), (q2, aZ cs 4 z2_10), (q3, aM cs rs), (q4, aM cs rt)]) (cw1 := [(rs 0, aL cs 21 (Ms 0)), (rs 1, aL cs 21 (Ms 1)), (rs 2, aL cs 21 (Ms 2)), (rs 3, aL cs 21 (Ms 3)), (rt 0, aL cs 21 (Mt 0)), (rt 1, aL cs 21 (Mt 1)), (rt 2, aL cs 21 (Mt 2)), (rt 3, aL cs 21 (Mt 3))]) ⟨hx, hb, hml, hown, hts⟩ (c_X0_withLongest l D cs _ cn q1 q2 q3 q4 j1 j2 tx_t1 z2_10 (fun _ => 9) rs rt Ms Mt j3 (by omega) (by omega) (by omega) (fun _ => Nat.le_refl 9) hCt9 (by omega)) (cwV 1 hts gX5_years_X0_withLongest rfl rfl rfl (by decide +kernel) ⟨Nat.le_of_ble_eq_true rfl, Nat.le_of_ble_eq_true rfl⟩) hK hP hD hS hA (((hR hS).app hP).sub [3, 4, 5, 1, 2, 6, 7, 8, 9, 10, 11, 12, 13] rfl) (dt_of hN [3, 4, 5, 1, 2, 6, 7, 8, 9, 10, 11, 12, 13] (by decide) rfl) [3, 4, 5, 6, 7, 8, 9, 10] rfl 0 rfl rfl rfl hl.1 rfl (Nat.le_of_ble_eq_true rfl) dX5_years_60 ⟨Nat.le_of_ble_eq_true rfl, Nat.le_of_ble_eq_true rfl⟩ (fun _ => rfl) (fun _ => rfl) (fun r_11 u9 H locs hw_12 hP hD hS => ?_)
              obtain ⟨Ms2_13, Mt2_14⟩ := u9
              have hP : va_P D vwCl [(cn, .inr (0, [.ref q1, .ref q2, .ref q3, .ref q4, .int (nI j1), .int (nI j2)])), (q1, aI cs 20 (tx_nf (fun _ => 9))), (q2, aZ cs 4 z2_10), (rs 0, aL cs 21 (Ms2_13 0)), (rs 1, aL cs 21 (Ms2_13 1)), (rs 2, aL cs 21 (Ms2_13 2)), (rs 3, aL cs 21 (Ms2_13 3)), (rt 0, aL cs 21 (Mt2_14 0)), (rt 1, aL cs 21 (Mt2_14 1)), (rt 2, aL cs 21 (Mt2_14 2)), (rt 3, aL cs 21 (Mt2_14 3)), (r0, aI cs 7 (tx_nf rf))] H := hP
              have hD : va_D A [(cn, .inr (0, [.ref q1, .ref q2, .ref q3, .ref q4, .int (nI j1), .int (nI j2)])), (q1, aI cs 20 (tx_nf (fun _ => 9))), (q2, aZ cs 4 z2_10), (rs 0, aL cs 21 (Ms2_13 0)), (rs 1, aL cs 21 (Ms2_13 1)), (rs 2, aL cs 21 (Ms2_13 2)), (rs 3, aL cs 21 (Ms2_13 3)), (rt 0, aL cs 21 (Mt2_14 0)), (rt 1, aL cs 21 (Mt2_14 1)), (rt 2, aL cs 21 (Mt2_14 2)), (rt 3, aL cs 21 (Mt2_14 3)), (r0, aI cs 7 (tx_nf rf))] := hD
              subst r_11
              have hQ : tx_q_years (nI j1) (nI j2) (nI j3) = 0 := by unfold tx_q_years; rw [if_neg (by rintro (q | q | q); exact c2 q; exact c7 q; exact absurd q (Int32.not_lt.mpr c12)), if_neg (by rintro (q | q | q); exact c25 q; exact c30 q; exact absurd q (Int32.not_lt.mpr c36))]
              have e9 : tx_rf rf (tx_q_years (nI j1) (nI j2) (nI j3)) = rf := by rw [hQ] <;> rfl
              have hP : va_P D vwCl [(cn, .inr (0, [.ref q1, .ref q2, .ref q3, .ref q4, .int (nI j1), .int (nI j2)])), (q1, aI cs 20 (tx_nf (fun _ => 9))), (q2, aZ cs 4 z2_10), (rs 0, aL cs 21 (Ms2_13 0)), (rs 1, aL cs 21 (Ms2_13 1)), (rs 2, aL cs 21 (Ms2_13 2)), (rs 3, aL cs 21 (Ms2_13 3)), (rt 0, aL cs 21 (Mt2_14 0)), (rt 1, aL cs 21 (Mt2_14 1)), (rt 2, aL cs 21 (Mt2_14 2)), (rt 3, aL cs 21 (Mt2_14 3)), (r0, aI cs 7 (tx_nf (tx_rf rf (tx_q_years (nI j1) (nI j2) (nI j3)))))] H := by rw [e9]; (try simp only [hQ]); exact hP
              have hD : va_D A [(cn, .inr (0, [.ref q1, .ref q2, .ref q3, .ref q4, .int (nI j1), .int (nI j2)])), (q1, aI cs 20 (tx_nf (fun _ => 9))), (q2, aZ cs 4 z2_10), (rs 0, aL cs 21 (Ms2_13 0)), (rs 1, aL cs 21 (Ms2_13 1)), (rs 2, aL cs 21 (Ms2_13 2)), (rs 3, aL cs 21 (Ms2_13 3)), (rt 0, aL cs 21 (Mt2_14 0)), (rt 1, aL cs 21 (Mt2_14 1)), (rt 2, aL cs 21 (Mt2_14 2)), (rt 3, aL cs 21 (Mt2_14 3)), (r0, aI cs 7 (tx_nf (tx_rf rf (tx_q_years (nI j1) (nI j2) (nI j3)))))] := by rw [e9]; (try simp only [hQ]); exact hD
              exact rt_l hx hb hr hlocks (j1, j2, fun _ => 9, z2_10, Ms2_13, Mt2_14) (by rw [hQ] <;> (rw [hij1, hij2, hij3, tx_Pk_9] <;> rfl)) hP hD hS dX5_years_63
            · refine lv_aload_n hx hb dX5_years_39 rfl (lv_at hl 0 rfl) ?_
              refine lv_bipush (v := (-6)) hx hb dX5_years_40 (by decide) ?_
              refine cV_l (As := [.int (-6)]) (rest := []) (cr := [(xo, .inr (5, [.ref h, .ref hk, .int (bI im), .ref tx, .ref g, .ref pn, .ref cn, .ref s0, .int (nI ss), .ref r0]))]) (cw1 := [(r0, aI cs 7 (tx_nf rf))]) ⟨hx, hb, hml, hown, hts⟩ (c_X5_refuseLong l D cs _ xo hk im tx pn cn s0 ss r0 h g rf (-6) 6 (by decide) (by decide) (by decide)) (cwV 1 hts gX5_years_X5_refuseLong rfl rfl rfl (by decide +kernel) ⟨Nat.le_of_ble_eq_true rfl, Nat.le_of_ble_eq_true rfl⟩) hK hP hD hS hA (((hR hS).app hP).sub [0, 14] rfl) (dt_of hN [0, 14] (by decide) rfl) [11] rfl 0 rfl rfl rfl hl.1 rfl (Nat.le_of_ble_eq_true rfl) dX5_years_42 ⟨Nat.le_of_ble_eq_true rfl, Nat.le_of_ble_eq_true rfl⟩ (fun _ => rfl) (fun _ => rfl) (fun r_15 u9 H locs hw_16 hP hD hS => ?_)
              have hP : va_P D vwCl [(cn, .inr (0, [.ref q1, .ref q2, .ref q3, .ref q4, .int (nI dd), .int (nI nn)])), (q1, aI cs 20 (tx_nf kn)), (q2, aZ cs 4 z9), (rs 0, aL cs 21 (Ms 0)), (rs 1, aL cs 21 (Ms 1)), (rs 2, aL cs 21 (Ms 2)), (rs 3, aL cs 21 (Ms 3)), (rt 0, aL cs 21 (Mt 0)), (rt 1, aL cs 21 (Mt 1)), (rt 2, aL cs 21 (Mt 2)), (rt 3, aL cs 21 (Mt 3)), (r0, aI cs 7 (tx_nf (tx_rf rf 6)))] H := hP
              have hD : va_D A [(cn, .inr (0, [.ref q1, .ref q2, .ref q3, .ref q4, .int (nI dd), .int (nI nn)])), (q1, aI cs 20 (tx_nf kn)), (q2, aZ cs 4 z9), (rs 0, aL cs 21 (Ms 0)), (rs 1, aL cs 21 (Ms 1)), (rs 2, aL cs 21 (Ms 2)), (rs 3, aL cs 21 (Ms 3)), (rt 0, aL cs 21 (Mt 0)), (rt 1, aL cs 21 (Mt 1)), (rt 2, aL cs 21 (Mt 2)), (rt 3, aL cs 21 (Mt 3)), (r0, aI cs 7 (tx_nf (tx_rf rf 6)))] := hD
              subst r_15
              have hQ : tx_q_years v1 v2 v3 = 6 := by unfold tx_q_years; rw [if_neg (by rintro (q | q | q); exact c2 q; exact c7 q; exact absurd q (Int32.not_lt.mpr c12)), if_pos (Or.inr (Or.inr (Int32.not_le.mp c36)))]
              have e9 : tx_rf rf (tx_q_years v1 v2 v3) = tx_rf rf 6 := by rw [hQ] <;> rfl
              have hP : va_P D vwCl [(cn, .inr (0, [.ref q1, .ref q2, .ref q3, .ref q4, .int (nI dd), .int (nI nn)])), (q1, aI cs 20 (tx_nf kn)), (q2, aZ cs 4 z9), (rs 0, aL cs 21 (Ms 0)), (rs 1, aL cs 21 (Ms 1)), (rs 2, aL cs 21 (Ms 2)), (rs 3, aL cs 21 (Ms 3)), (rt 0, aL cs 21 (Mt 0)), (rt 1, aL cs 21 (Mt 1)), (rt 2, aL cs 21 (Mt 2)), (rt 3, aL cs 21 (Mt 3)), (r0, aI cs 7 (tx_nf (tx_rf rf (tx_q_years v1 v2 v3))))] H := by rw [e9]; (try simp only [hQ]); exact hP
              have hD : va_D A [(cn, .inr (0, [.ref q1, .ref q2, .ref q3, .ref q4, .int (nI dd), .int (nI nn)])), (q1, aI cs 20 (tx_nf kn)), (q2, aZ cs 4 z9), (rs 0, aL cs 21 (Ms 0)), (rs 1, aL cs 21 (Ms 1)), (rs 2, aL cs 21 (Ms 2)), (rs 3, aL cs 21 (Ms 3)), (rt 0, aL cs 21 (Mt 0)), (rt 1, aL cs 21 (Mt 1)), (rt 2, aL cs 21 (Mt 2)), (rt 3, aL cs 21 (Mt 3)), (r0, aI cs 7 (tx_nf (tx_rf rf (tx_q_years v1 v2 v3))))] := by rw [e9]; (try simp only [hQ]); exact hD
              exact rt_l hx hb hr hlocks (dd, nn, kn, z9, Ms, Mt) (by rw [hQ] <;> (first | done | rfl)) hP hD hS dX5_years_45
      · refine lv_aload_n hx hb dX5_years_15 rfl (lv_at hl 0 rfl) ?_
        refine lv_bipush (v := (-4)) hx hb dX5_years_16 (by decide) ?_
        refine cV_l (As := [.int (-4)]) (rest := []) (cr := [(xo, .inr (5, [.ref h, .ref hk, .int (bI im), .ref tx, .ref g, .ref pn, .ref cn, .ref s0, .int (nI ss), .ref r0]))]) (cw1 := [(r0, aI cs 7 (tx_nf rf))]) ⟨hx, hb, hml, hown, hts⟩ (c_X5_refuseLong l D cs _ xo hk im tx pn cn s0 ss r0 h g rf (-4) 4 (by decide) (by decide) (by decide)) (cwV 1 hts gX5_years_X5_refuseLong rfl rfl rfl (by decide +kernel) ⟨Nat.le_of_ble_eq_true rfl, Nat.le_of_ble_eq_true rfl⟩) hK hP hD hS hA (((hR hS).app hP).sub [0, 14] rfl) (dt_of hN [0, 14] (by decide) rfl) [11] rfl 0 rfl rfl rfl hl.1 rfl (Nat.le_of_ble_eq_true rfl) dX5_years_18 ⟨Nat.le_of_ble_eq_true rfl, Nat.le_of_ble_eq_true rfl⟩ (fun _ => rfl) (fun _ => rfl) (fun r_17 u9 H locs hw_18 hP hD hS => ?_)
        have hP : va_P D vwCl [(cn, .inr (0, [.ref q1, .ref q2, .ref q3, .ref q4, .int (nI dd), .int (nI nn)])), (q1, aI cs 20 (tx_nf kn)), (q2, aZ cs 4 z9), (rs 0, aL cs 21 (Ms 0)), (rs 1, aL cs 21 (Ms 1)), (rs 2, aL cs 21 (Ms 2)), (rs 3, aL cs 21 (Ms 3)), (rt 0, aL cs 21 (Mt 0)), (rt 1, aL cs 21 (Mt 1)), (rt 2, aL cs 21 (Mt 2)), (rt 3, aL cs 21 (Mt 3)), (r0, aI cs 7 (tx_nf (tx_rf rf 4)))] H := hP
        have hD : va_D A [(cn, .inr (0, [.ref q1, .ref q2, .ref q3, .ref q4, .int (nI dd), .int (nI nn)])), (q1, aI cs 20 (tx_nf kn)), (q2, aZ cs 4 z9), (rs 0, aL cs 21 (Ms 0)), (rs 1, aL cs 21 (Ms 1)), (rs 2, aL cs 21 (Ms 2)), (rs 3, aL cs 21 (Ms 3)), (rt 0, aL cs 21 (Mt 0)), (rt 1, aL cs 21 (Mt 1)), (rt 2, aL cs 21 (Mt 2)), (rt 3, aL cs 21 (Mt 3)), (r0, aI cs 7 (tx_nf (tx_rf rf 4)))] := hD
        subst r_17
        have hQ : tx_q_years v1 v2 v3 = 4 := by unfold tx_q_years; rw [if_pos (Or.inr (Or.inr (Int32.not_le.mp c12)))]
        have e9 : tx_rf rf (tx_q_years v1 v2 v3) = tx_rf rf 4 := by rw [hQ] <;> rfl
        have hP : va_P D vwCl [(cn, .inr (0, [.ref q1, .ref q2, .ref q3, .ref q4, .int (nI dd), .int (nI nn)])), (q1, aI cs 20 (tx_nf kn)), (q2, aZ cs 4 z9), (rs 0, aL cs 21 (Ms 0)), (rs 1, aL cs 21 (Ms 1)), (rs 2, aL cs 21 (Ms 2)), (rs 3, aL cs 21 (Ms 3)), (rt 0, aL cs 21 (Mt 0)), (rt 1, aL cs 21 (Mt 1)), (rt 2, aL cs 21 (Mt 2)), (rt 3, aL cs 21 (Mt 3)), (r0, aI cs 7 (tx_nf (tx_rf rf (tx_q_years v1 v2 v3))))] H := by rw [e9]; (try simp only [hQ]); exact hP
        have hD : va_D A [(cn, .inr (0, [.ref q1, .ref q2, .ref q3, .ref q4, .int (nI dd), .int (nI nn)])), (q1, aI cs 20 (tx_nf kn)), (q2, aZ cs 4 z9), (rs 0, aL cs 21 (Ms 0)), (rs 1, aL cs 21 (Ms 1)), (rs 2, aL cs 21 (Ms 2)), (rs 3, aL cs 21 (Ms 3)), (rt 0, aL cs 21 (Mt 0)), (rt 1, aL cs 21 (Mt 1)), (rt 2, aL cs 21 (Mt 2)), (rt 3, aL cs 21 (Mt 3)), (r0, aI cs 7 (tx_nf (tx_rf rf (tx_q_years v1 v2 v3))))] := by rw [e9]; (try simp only [hQ]); exact hD
        exact rt_l hx hb hr hlocks (dd, nn, kn, z9, Ms, Mt) (by rw [hQ] <;> (first | done | rfl)) hP hD hS dX5_years_21
set_option maxHeartbeats 4000000 in
set_option maxRecDepth 100000 in
theorem c_X6_years (l : Launch) (D : va_G) (cs : Nat → ClassId) (sz : Nat) (o : Nat) (o1 : Nat) (o2 : Nat) (o3 : Nat) (o4 : Nat) (o5 : Nat) (o6 : Nat) (o7 : Nat) (o8 : Nat) (o9 : Nat) (o10 : Nat) (o11 : Nat) (o12 : Nat) (o13 : Nat) (o14 : Nat) (o15 : Nat) (n : Nat) (dy : Nat) (ch : Nat) (lw : Nat) (tz : Nat) (at9 : Nat) (va9 : Nat) (ss : Nat) (im : Bool) (rf : Nat → Nat) (v1 : Int32) (v2 : Int32) (v3 : Int32)  : mL (S := Unit) l yX6_years wsX6_years ({ frames := 2, cells := 2, slots := 44, locals := 42 } : Room) D (tyc cs) sz [.ref o, .int v1, .int v2, .int v3] [(o, .inr (6, [.int (nI n), .ref o1, .ref o2, .ref o3, .ref o4, .int (nI dy), .ref o5, .ref o6, .int (nI ch), .int (nI lw), .int (nI tz), .ref o7, .int (nI at9), .int (nI va9), .int (nI ss), .ref o8, .ref o9, .int (bI im), .ref o10, .ref o11, .ref o12, .ref o13, .ref o14, .ref o15]))] [(o9, aI cs 7 (tx_nf rf))] (fun (r : Int64) (u : Unit) => r = tx_al (tx_q_years v1 v2 v3) (lN (tx_wl (tx_ix v2) (tx_ix v1) tx_tt tx_t1 (tx_ix v3)))) (fun _ => [(o9, aI cs 7 (tx_nf (tx_rf rf (tx_q_years v1 v2 v3))))]) 2 44 := by
  unfold mL
  refine Met.ofW (cc := cX6_years) (maxL := 4) (ret := (some .long)) (by decide) rfl ?_
  intro p e s m args below meth c s₁ B hml hv
  obtain ⟨rfl, hsz, hP, hK, hD0⟩ := hv
  have hx := B.exec
  have hb := B.bytes
  have hr := B.returns
  have hts := atoms_spec (ws := wsX6_years) B.pre
  have hown : s.vm.findClass RX6 = some m.cls := findClass_of_methodNamed B.named
  have hlocks := B.notSynchronized
  subst hsz
  have hR := @en_R _ _ _ [(o, .inr (6, [.int (nI n), .ref o1, .ref o2, .ref o3, .ref o4, .int (nI dy), .ref o5, .ref o6, .int (nI ch), .int (nI lw), .int (nI tz), .ref o7, .int (nI at9), .int (nI va9), .int (nI ss), .ref o8, .ref o9, .int (bI im), .ref o10, .ref o11, .ref o12, .ref o13, .ref o14, .ref o15]))] [(o9, aI cs 7 (tx_nf rf))] _ hP hD0
  have hN := adN_of hD0
  have hD := en_D (wr := [(o, .inr (6, [.int (nI n), .ref o1, .ref o2, .ref o3, .ref o4, .int (nI dy), .ref o5, .ref o6, .int (nI ch), .int (nI lw), .int (nI tz), .ref o7, .int (nI at9), .int (nI va9), .int (nI ss), .ref o8, .ref o9, .int (bI im), .ref o10, .ref o11, .ref o12, .ref o13, .ref o14, .ref o15]))]) (ww := [(o9, aI cs 7 (tx_nf rf))]) (sz := s.heap.size) hD0
  have hP := en_P (wr := [(o, .inr (6, [.int (nI n), .ref o1, .ref o2, .ref o3, .ref o4, .int (nI dy), .ref o5, .ref o6, .int (nI ch), .int (nI lw), .int (nI tz), .ref o7, .int (nI at9), .int (nI va9), .int (nI ss), .ref o8, .ref o9, .int (bI im), .ref o10, .ref o11, .ref o12, .ref o13, .ref o14, .ref o15]))]) (ww := [(o9, aI cs 7 (tx_nf rf))]) hP
  generalize hAe : va_A [(o9, aI cs 7 (tx_nf rf))] s.heap.size = A at hD hR ⊢
  have hA : ∀ q : Nat, s.heap.size ≤ q → A q := fun q h => by rw [← hAe]; exact Or.inr h
  have hS : va_S A s.heap s.heap [] := va_S.rf
  have hN : adN [o, o9] := hN
  have hl := lv_entry ([.ref o, .int v1, .int v2, .int v3]) (n := 4) (Nat.le_of_ble_eq_true rfl)
  rw [lg_entry_eq]
  generalize (lg_sl ([.ref o, .int v1, .int v2, .int v3]) ++ List.replicate (4 - (lg_sl ([.ref o, .int v1, .int v2, .int v3])).length) Slot.unset).toArray = ls at hl ⊢
  have hl : lv_has ls 4 [(0, .ref o), (1, .int v1), (2, .int v2), (3, .int v3)] := hl
  refine lv_iload_n hx hb dX6_years_0 rfl (lv_at hl 1 rfl) ?_
  refine lv_iconst (v := 1) hx hb dX6_years_1 (by decide) ?_
  refine lv_icmp_lt (tgt := 15) hx hb dX6_years_2 (by decide) (fun c2 => ?_) (fun c2 => ?_)
  · refine lv_aload_n hx hb dX6_years_15 rfl (lv_at hl 0 rfl) ?_
    refine lv_bipush (v := (-4)) hx hb dX6_years_16 (by decide) ?_
    refine cV_l (As := [.int (-4)]) (rest := []) (cr := [(o, .inr (6, [.int (nI n), .ref o1, .ref o2, .ref o3, .ref o4, .int (nI dy), .ref o5, .ref o6, .int (nI ch), .int (nI lw), .int (nI tz), .ref o7, .int (nI at9), .int (nI va9), .int (nI ss), .ref o8, .ref o9, .int (bI im), .ref o10, .ref o11, .ref o12, .ref o13, .ref o14, .ref o15]))]) (cw1 := [(o9, aI cs 7 (tx_nf rf))]) ⟨hx, hb, hml, hown, hts⟩ (c_X6_noLong l D cs _ o o1 o2 o3 o4 o5 o6 o7 o8 o9 o10 o11 o12 o13 o14 o15 n dy ch lw tz at9 va9 ss im rf (-4) 4 (by decide) (by decide) (by decide)) (cwV 1 hts gX6_years_X6_noLong rfl rfl rfl (by decide +kernel) ⟨Nat.le_of_ble_eq_true rfl, Nat.le_of_ble_eq_true rfl⟩) hK hP hD hS hA (((hR hS).app hP).sub [0, 1] rfl) (dt_of hN [0, 1] (by decide) rfl) [0] rfl 0 rfl rfl rfl hl.1 rfl (Nat.le_of_ble_eq_true rfl) dX6_years_18 ⟨Nat.le_of_ble_eq_true rfl, Nat.le_of_ble_eq_true rfl⟩ (fun _ => rfl) (fun _ => rfl) (fun r_1 u9 H locs hw_2 hP hD hS => ?_)
    have hP : va_P D vwCl [(o9, aI cs 7 (tx_nf (tx_rf rf 4)))] H := hP
    have hD : va_D A [(o9, aI cs 7 (tx_nf (tx_rf rf 4)))] := hD
    subst r_1
    refine W.widen (k := 2) (n := 44) (Nat.le_of_ble_eq_true rfl) (Nat.le_of_ble_eq_true rfl) ?_
    have hQ : tx_q_years v1 v2 v3 = 4 := by unfold tx_q_years; rw [if_pos (Or.inl c2)]
    have e9 : tx_rf rf (tx_q_years v1 v2 v3) = tx_rf rf 4 := by rw [hQ] <;> rfl
    have hP : va_P D vwCl [(o9, aI cs 7 (tx_nf (tx_rf rf (tx_q_years v1 v2 v3))))] H := by rw [e9]; (try simp only [hQ]); exact hP
    have hD : va_D A [(o9, aI cs 7 (tx_nf (tx_rf rf (tx_q_years v1 v2 v3))))] := by rw [e9]; (try simp only [hQ]); exact hD
    exact rt_l hx hb hr hlocks () (by rw [hQ] <;> (first | done | rfl)) hP hD hS dX6_years_21
  · refine lv_iload_n hx hb dX6_years_5 rfl (lv_at hl 2 rfl) ?_
    refine lv_iconst (v := 1) hx hb dX6_years_6 (by decide) ?_
    refine lv_icmp_lt (tgt := 15) hx hb dX6_years_7 (by decide) (fun c7 => ?_) (fun c7 => ?_)
    · refine lv_aload_n hx hb dX6_years_15 rfl (lv_at hl 0 rfl) ?_
      refine lv_bipush (v := (-4)) hx hb dX6_years_16 (by decide) ?_
      refine cV_l (As := [.int (-4)]) (rest := []) (cr := [(o, .inr (6, [.int (nI n), .ref o1, .ref o2, .ref o3, .ref o4, .int (nI dy), .ref o5, .ref o6, .int (nI ch), .int (nI lw), .int (nI tz), .ref o7, .int (nI at9), .int (nI va9), .int (nI ss), .ref o8, .ref o9, .int (bI im), .ref o10, .ref o11, .ref o12, .ref o13, .ref o14, .ref o15]))]) (cw1 := [(o9, aI cs 7 (tx_nf rf))]) ⟨hx, hb, hml, hown, hts⟩ (c_X6_noLong l D cs _ o o1 o2 o3 o4 o5 o6 o7 o8 o9 o10 o11 o12 o13 o14 o15 n dy ch lw tz at9 va9 ss im rf (-4) 4 (by decide) (by decide) (by decide)) (cwV 1 hts gX6_years_X6_noLong rfl rfl rfl (by decide +kernel) ⟨Nat.le_of_ble_eq_true rfl, Nat.le_of_ble_eq_true rfl⟩) hK hP hD hS hA (((hR hS).app hP).sub [0, 1] rfl) (dt_of hN [0, 1] (by decide) rfl) [0] rfl 0 rfl rfl rfl hl.1 rfl (Nat.le_of_ble_eq_true rfl) dX6_years_18 ⟨Nat.le_of_ble_eq_true rfl, Nat.le_of_ble_eq_true rfl⟩ (fun _ => rfl) (fun _ => rfl) (fun r_3 u9 H locs hw_4 hP hD hS => ?_)
      have hP : va_P D vwCl [(o9, aI cs 7 (tx_nf (tx_rf rf 4)))] H := hP
      have hD : va_D A [(o9, aI cs 7 (tx_nf (tx_rf rf 4)))] := hD
      subst r_3
      refine W.widen (k := 2) (n := 44) (Nat.le_of_ble_eq_true rfl) (Nat.le_of_ble_eq_true rfl) ?_
      have hQ : tx_q_years v1 v2 v3 = 4 := by unfold tx_q_years; rw [if_pos (Or.inr (Or.inl c7))]
      have e9 : tx_rf rf (tx_q_years v1 v2 v3) = tx_rf rf 4 := by rw [hQ] <;> rfl
      have hP : va_P D vwCl [(o9, aI cs 7 (tx_nf (tx_rf rf (tx_q_years v1 v2 v3))))] H := by rw [e9]; (try simp only [hQ]); exact hP
      have hD : va_D A [(o9, aI cs 7 (tx_nf (tx_rf rf (tx_q_years v1 v2 v3))))] := by rw [e9]; (try simp only [hQ]); exact hD
      exact rt_l hx hb hr hlocks () (by rw [hQ] <;> (first | done | rfl)) hP hD hS dX6_years_21
    · refine lv_iload_n hx hb dX6_years_10 rfl (lv_at hl 3 rfl) ?_
      refine lv_iconst (v := 1) hx hb dX6_years_11 (by decide) ?_
      refine lv_icmp_ge (tgt := 22) hx hb dX6_years_12 (by decide) (fun c12 => ?_) (fun c12 => ?_)
      · refine lv_iload_n hx hb dX6_years_22 rfl (lv_at hl 1 rfl) ?_
        refine lv_bipush (v := 20) hx hb dX6_years_23 (by decide) ?_
        refine lv_icmp_gt (tgt := 39) hx hb dX6_years_25 (by decide) (fun c25 => ?_) (fun c25 => ?_)
        · refine lv_aload_n hx hb dX6_years_39 rfl (lv_at hl 0 rfl) ?_
          refine lv_bipush (v := (-6)) hx hb dX6_years_40 (by decide) ?_
          refine cV_l (As := [.int (-6)]) (rest := []) (cr := [(o, .inr (6, [.int (nI n), .ref o1, .ref o2, .ref o3, .ref o4, .int (nI dy), .ref o5, .ref o6, .int (nI ch), .int (nI lw), .int (nI tz), .ref o7, .int (nI at9), .int (nI va9), .int (nI ss), .ref o8, .ref o9, .int (bI im), .ref o10, .ref o11, .ref o12, .ref o13, .ref o14, .ref o15]))]) (cw1 := [(o9, aI cs 7 (tx_nf rf))]) ⟨hx, hb, hml, hown, hts⟩ (c_X6_noLong l D cs _ o o1 o2 o3 o4 o5 o6 o7 o8 o9 o10 o11 o12 o13 o14 o15 n dy ch lw tz at9 va9 ss im rf (-6) 6 (by decide) (by decide) (by decide)) (cwV 1 hts gX6_years_X6_noLong rfl rfl rfl (by decide +kernel) ⟨Nat.le_of_ble_eq_true rfl, Nat.le_of_ble_eq_true rfl⟩) hK hP hD hS hA (((hR hS).app hP).sub [0, 1] rfl) (dt_of hN [0, 1] (by decide) rfl) [0] rfl 0 rfl rfl rfl hl.1 rfl (Nat.le_of_ble_eq_true rfl) dX6_years_42 ⟨Nat.le_of_ble_eq_true rfl, Nat.le_of_ble_eq_true rfl⟩ (fun _ => rfl) (fun _ => rfl) (fun r_5 u9 H locs hw_6 hP hD hS => ?_)
          have hP : va_P D vwCl [(o9, aI cs 7 (tx_nf (tx_rf rf 6)))] H := hP
          have hD : va_D A [(o9, aI cs 7 (tx_nf (tx_rf rf 6)))] := hD
          subst r_5
          refine W.widen (k := 2) (n := 44) (Nat.le_of_ble_eq_true rfl) (Nat.le_of_ble_eq_true rfl) ?_
          have hQ : tx_q_years v1 v2 v3 = 6 := by unfold tx_q_years; rw [if_neg (by rintro (q | q | q); exact c2 q; exact c7 q; exact absurd q (Int32.not_lt.mpr c12)), if_pos (Or.inl c25)]
          have e9 : tx_rf rf (tx_q_years v1 v2 v3) = tx_rf rf 6 := by rw [hQ] <;> rfl
          have hP : va_P D vwCl [(o9, aI cs 7 (tx_nf (tx_rf rf (tx_q_years v1 v2 v3))))] H := by rw [e9]; (try simp only [hQ]); exact hP
          have hD : va_D A [(o9, aI cs 7 (tx_nf (tx_rf rf (tx_q_years v1 v2 v3))))] := by rw [e9]; (try simp only [hQ]); exact hD
          exact rt_l hx hb hr hlocks () (by rw [hQ] <;> (first | done | rfl)) hP hD hS dX6_years_45
        · refine lv_iload_n hx hb dX6_years_28 rfl (lv_at hl 2 rfl) ?_
          refine lv_iconst (v := 4) hx hb dX6_years_29 (by decide) ?_
          refine lv_icmp_gt (tgt := 39) hx hb dX6_years_30 (by decide) (fun c30 => ?_) (fun c30 => ?_)
          · refine lv_aload_n hx hb dX6_years_39 rfl (lv_at hl 0 rfl) ?_
            refine lv_bipush (v := (-6)) hx hb dX6_years_40 (by decide) ?_
            refine cV_l (As := [.int (-6)]) (rest := []) (cr := [(o, .inr (6, [.int (nI n), .ref o1, .ref o2, .ref o3, .ref o4, .int (nI dy), .ref o5, .ref o6, .int (nI ch), .int (nI lw), .int (nI tz), .ref o7, .int (nI at9), .int (nI va9), .int (nI ss), .ref o8, .ref o9, .int (bI im), .ref o10, .ref o11, .ref o12, .ref o13, .ref o14, .ref o15]))]) (cw1 := [(o9, aI cs 7 (tx_nf rf))]) ⟨hx, hb, hml, hown, hts⟩ (c_X6_noLong l D cs _ o o1 o2 o3 o4 o5 o6 o7 o8 o9 o10 o11 o12 o13 o14 o15 n dy ch lw tz at9 va9 ss im rf (-6) 6 (by decide) (by decide) (by decide)) (cwV 1 hts gX6_years_X6_noLong rfl rfl rfl (by decide +kernel) ⟨Nat.le_of_ble_eq_true rfl, Nat.le_of_ble_eq_true rfl⟩) hK hP hD hS hA (((hR hS).app hP).sub [0, 1] rfl) (dt_of hN [0, 1] (by decide) rfl) [0] rfl 0 rfl rfl rfl hl.1 rfl (Nat.le_of_ble_eq_true rfl) dX6_years_42 ⟨Nat.le_of_ble_eq_true rfl, Nat.le_of_ble_eq_true rfl⟩ (fun _ => rfl) (fun _ => rfl) (fun r_7 u9 H locs hw_8 hP hD hS => ?_)
            have hP : va_P D vwCl [(o9, aI cs 7 (tx_nf (tx_rf rf 6)))] H := hP
            have hD : va_D A [(o9, aI cs 7 (tx_nf (tx_rf rf 6)))] := hD
            subst r_7
            refine W.widen (k := 2) (n := 44) (Nat.le_of_ble_eq_true rfl) (Nat.le_of_ble_eq_true rfl) ?_
            have hQ : tx_q_years v1 v2 v3 = 6 := by unfold tx_q_years; rw [if_neg (by rintro (q | q | q); exact c2 q; exact c7 q; exact absurd q (Int32.not_lt.mpr c12)), if_pos (Or.inr (Or.inl c30))]
            have e9 : tx_rf rf (tx_q_years v1 v2 v3) = tx_rf rf 6 := by rw [hQ] <;> rfl
            have hP : va_P D vwCl [(o9, aI cs 7 (tx_nf (tx_rf rf (tx_q_years v1 v2 v3))))] H := by rw [e9]; (try simp only [hQ]); exact hP
            have hD : va_D A [(o9, aI cs 7 (tx_nf (tx_rf rf (tx_q_years v1 v2 v3))))] := by rw [e9]; (try simp only [hQ]); exact hD
            exact rt_l hx hb hr hlocks () (by rw [hQ] <;> (first | done | rfl)) hP hD hS dX6_years_45
          · refine lv_iload_n hx hb dX6_years_33 rfl (lv_at hl 3 rfl) ?_
            refine lv_bipush (v := 20) hx hb dX6_years_34 (by decide) ?_
            refine lv_icmp_le (tgt := 46) hx hb dX6_years_36 (by decide) (fun c36 => ?_) (fun c36 => ?_)
            · obtain ⟨j1, hj1, rfl⟩ := nI_of2 (x := v1) (M := 20) (n := 20) (by decide) (fun q => c2 (Int32.lt_trans q (by decide))) (Int32.not_lt.mp c25)
              have hij1 : tx_ix (nI j1) = j1 := tx_ix_n (by omega)
              have h1j1 : 1 ≤ j1 := tx_1le c2
              obtain ⟨j2, hj2, rfl⟩ := nI_of2 (x := v2) (M := 4) (n := 4) (by decide) (fun q => c7 (Int32.lt_trans q (by decide))) (Int32.not_lt.mp c30)
              have hij2 : tx_ix (nI j2) = j2 := tx_ix_n (by omega)
              have h1j2 : 1 ≤ j2 := tx_1le c7
              obtain ⟨j3, hj3, rfl⟩ := nI_of2 (x := v3) (M := 20) (n := 20) (by decide) (fun q => (Int32.not_lt.mpr c12) (Int32.lt_trans q (by decide))) c36
              have hij3 : tx_ix (nI j3) = j3 := tx_ix_n (by omega)
              have h1j3 : 1 ≤ j3 := tx_1le (Int32.not_lt.mpr c12)
              refine lv_iload_n hx hb dX6_years_46 rfl (lv_at hl 1 rfl) ?_
              refine lv_iload_n hx hb dX6_years_47 rfl (lv_at hl 2 rfl) ?_
              refine lv_iload_n hx hb dX6_years_48 rfl (lv_at hl 3 rfl) ?_
              refine cS_l (As := [.int (nI j1), .int (nI j2), .int (nI j3)]) (rest := []) (cr := []) (cw1 := []) ⟨hx, hb, hml, hown, hts⟩ (c_X6_upTo l D cs _ j1 j2 j3 (by omega) (by omega) (by omega) (by omega) (by omega)) (va_cwS 3 hts gX6_years_X6_upTo rfl rfl rfl (by decide +kernel) ⟨Nat.le_of_ble_eq_true rfl, Nat.le_of_ble_eq_true rfl⟩) hK hP hD hS hA (((hR hS).app hP).sub [] rfl) (dt_of hN [] (by decide) rfl) [] rfl rfl hl.1 rfl (Nat.le_of_ble_eq_true rfl) dX6_years_49 ⟨Nat.le_of_ble_eq_true rfl, Nat.le_of_ble_eq_true rfl⟩ (fun _ => rfl) (fun _ => rfl) (fun r_9 u9 H locs hw_10 hP hD hS => ?_)
              have hP : va_P D vwCl [(o9, aI cs 7 (tx_nf rf))] H := hP
              have hD : va_D A [(o9, aI cs 7 (tx_nf rf))] := hD
              subst r_9
              refine lv_iload_n hx hb dX6_years_52 rfl (lv_at hl 1 rfl) ?_
              refine lv_iload_n hx hb dX6_years_53 rfl (lv_at hl 2 rfl) ?_
              refine lv_iload_n hx hb dX6_years_54 rfl (lv_at hl 3 rfl) ?_
              refine lv_iconst (v := 1) hx hb dX6_years_55 (by decide) ?_
              refine lv_isub hx hb dX6_years_56 ?_
              refine tp_i (pk_sub (a := j3) (b := 1) (by omega)) ?_
              refine cS_l (As := [.int (nI j1), .int (nI j2), .int (nI (j3 - 1))]) (rest := [.long (lN (tx_tot j2 j1 tx_tt tx_t1 j3))]) (cr := []) (cw1 := []) ⟨hx, hb, hml, hown, hts⟩ (c_X6_upTo l D cs _ j1 j2 (j3 - 1) (by omega) (by omega) (by omega) (by omega) (by omega)) (va_cwS 3 hts gX6_years_X6_upTo rfl rfl rfl (by decide +kernel) ⟨Nat.le_of_ble_eq_true rfl, Nat.le_of_ble_eq_true rfl⟩) hK hP hD hS hA (((hR hS).app hP).sub [] rfl) (dt_of hN [] (by decide) rfl) [] rfl rfl hl.1 rfl (Nat.le_of_ble_eq_true rfl) dX6_years_57 ⟨Nat.le_of_ble_eq_true rfl, Nat.le_of_ble_eq_true rfl⟩ (fun _ => rfl) (fun _ => rfl) (fun r_11 u9 H locs hw_12 hP hD hS => ?_)
              have hP : va_P D vwCl [(o9, aI cs 7 (tx_nf rf))] H := hP
              have hD : va_D A [(o9, aI cs 7 (tx_nf rf))] := hD
              subst r_11
              refine lv_lsub hx hb dX6_years_60 ?_
              refine tp_l (show (lN (tx_tot j2 j1 tx_tt tx_t1 j3)) - (lN (tx_tot j2 j1 tx_tt tx_t1 (j3 - 1))) = lN (tx_wl j2 j1 tx_tt tx_t1 j3) from by rw [tx_wl_e, if_neg (by omega)]) ?_
              have hQ : tx_q_years (nI j1) (nI j2) (nI j3) = 0 := by unfold tx_q_years; rw [if_neg (by rintro (q | q | q); exact c2 q; exact c7 q; exact absurd q (Int32.not_lt.mpr c12)), if_neg (by rintro (q | q | q); exact c25 q; exact c30 q; exact absurd q (Int32.not_lt.mpr c36))]
              have e9 : tx_rf rf (tx_q_years (nI j1) (nI j2) (nI j3)) = rf := by rw [hQ] <;> rfl
              have hP : va_P D vwCl [(o9, aI cs 7 (tx_nf (tx_rf rf (tx_q_years (nI j1) (nI j2) (nI j3)))))] H := by rw [e9]; (try simp only [hQ]); exact hP
              have hD : va_D A [(o9, aI cs 7 (tx_nf (tx_rf rf (tx_q_years (nI j1) (nI j2) (nI j3)))))] := by rw [e9]; (try simp only [hQ]); exact hD
              exact rt_l hx hb hr hlocks () (by rw [hQ] <;> (rw [hij1, hij2, hij3] <;> rfl)) hP hD hS dX6_years_61
            · refine lv_aload_n hx hb dX6_years_39 rfl (lv_at hl 0 rfl) ?_
              refine lv_bipush (v := (-6)) hx hb dX6_years_40 (by decide) ?_
              refine cV_l (As := [.int (-6)]) (rest := []) (cr := [(o, .inr (6, [.int (nI n), .ref o1, .ref o2, .ref o3, .ref o4, .int (nI dy), .ref o5, .ref o6, .int (nI ch), .int (nI lw), .int (nI tz), .ref o7, .int (nI at9), .int (nI va9), .int (nI ss), .ref o8, .ref o9, .int (bI im), .ref o10, .ref o11, .ref o12, .ref o13, .ref o14, .ref o15]))]) (cw1 := [(o9, aI cs 7 (tx_nf rf))]) ⟨hx, hb, hml, hown, hts⟩ (c_X6_noLong l D cs _ o o1 o2 o3 o4 o5 o6 o7 o8 o9 o10 o11 o12 o13 o14 o15 n dy ch lw tz at9 va9 ss im rf (-6) 6 (by decide) (by decide) (by decide)) (cwV 1 hts gX6_years_X6_noLong rfl rfl rfl (by decide +kernel) ⟨Nat.le_of_ble_eq_true rfl, Nat.le_of_ble_eq_true rfl⟩) hK hP hD hS hA (((hR hS).app hP).sub [0, 1] rfl) (dt_of hN [0, 1] (by decide) rfl) [0] rfl 0 rfl rfl rfl hl.1 rfl (Nat.le_of_ble_eq_true rfl) dX6_years_42 ⟨Nat.le_of_ble_eq_true rfl, Nat.le_of_ble_eq_true rfl⟩ (fun _ => rfl) (fun _ => rfl) (fun r_13 u9 H locs hw_14 hP hD hS => ?_)
              have hP : va_P D vwCl [(o9, aI cs 7 (tx_nf (tx_rf rf 6)))] H := hP
              have hD : va_D A [(o9, aI cs 7 (tx_nf (tx_rf rf 6)))] := hD
              subst r_13
              refine W.widen (k := 2) (n := 44) (Nat.le_of_ble_eq_true rfl) (Nat.le_of_ble_eq_true rfl) ?_
              have hQ : tx_q_years v1 v2 v3 = 6 := by unfold tx_q_years; rw [if_neg (by rintro (q | q | q); exact c2 q; exact c7 q; exact absurd q (Int32.not_lt.mpr c12)), if_pos (Or.inr (Or.inr (Int32.not_le.mp c36)))]
              have e9 : tx_rf rf (tx_q_years v1 v2 v3) = tx_rf rf 6 := by rw [hQ] <;> rfl
              have hP : va_P D vwCl [(o9, aI cs 7 (tx_nf (tx_rf rf (tx_q_years v1 v2 v3))))] H := by rw [e9]; (try simp only [hQ]); exact hP
              have hD : va_D A [(o9, aI cs 7 (tx_nf (tx_rf rf (tx_q_years v1 v2 v3))))] := by rw [e9]; (try simp only [hQ]); exact hD
              exact rt_l hx hb hr hlocks () (by rw [hQ] <;> (first | done | rfl)) hP hD hS dX6_years_45
      · refine lv_aload_n hx hb dX6_years_15 rfl (lv_at hl 0 rfl) ?_
        refine lv_bipush (v := (-4)) hx hb dX6_years_16 (by decide) ?_
        refine cV_l (As := [.int (-4)]) (rest := []) (cr := [(o, .inr (6, [.int (nI n), .ref o1, .ref o2, .ref o3, .ref o4, .int (nI dy), .ref o5, .ref o6, .int (nI ch), .int (nI lw), .int (nI tz), .ref o7, .int (nI at9), .int (nI va9), .int (nI ss), .ref o8, .ref o9, .int (bI im), .ref o10, .ref o11, .ref o12, .ref o13, .ref o14, .ref o15]))]) (cw1 := [(o9, aI cs 7 (tx_nf rf))]) ⟨hx, hb, hml, hown, hts⟩ (c_X6_noLong l D cs _ o o1 o2 o3 o4 o5 o6 o7 o8 o9 o10 o11 o12 o13 o14 o15 n dy ch lw tz at9 va9 ss im rf (-4) 4 (by decide) (by decide) (by decide)) (cwV 1 hts gX6_years_X6_noLong rfl rfl rfl (by decide +kernel) ⟨Nat.le_of_ble_eq_true rfl, Nat.le_of_ble_eq_true rfl⟩) hK hP hD hS hA (((hR hS).app hP).sub [0, 1] rfl) (dt_of hN [0, 1] (by decide) rfl) [0] rfl 0 rfl rfl rfl hl.1 rfl (Nat.le_of_ble_eq_true rfl) dX6_years_18 ⟨Nat.le_of_ble_eq_true rfl, Nat.le_of_ble_eq_true rfl⟩ (fun _ => rfl) (fun _ => rfl) (fun r_15 u9 H locs hw_16 hP hD hS => ?_)
        have hP : va_P D vwCl [(o9, aI cs 7 (tx_nf (tx_rf rf 4)))] H := hP
        have hD : va_D A [(o9, aI cs 7 (tx_nf (tx_rf rf 4)))] := hD
        subst r_15
        refine W.widen (k := 2) (n := 44) (Nat.le_of_ble_eq_true rfl) (Nat.le_of_ble_eq_true rfl) ?_
        have hQ : tx_q_years v1 v2 v3 = 4 := by unfold tx_q_years; rw [if_pos (Or.inr (Or.inr (Int32.not_le.mp c12)))]
        have e9 : tx_rf rf (tx_q_years v1 v2 v3) = tx_rf rf 4 := by rw [hQ] <;> rfl
        have hP : va_P D vwCl [(o9, aI cs 7 (tx_nf (tx_rf rf (tx_q_years v1 v2 v3))))] H := by rw [e9]; (try simp only [hQ]); exact hP
        have hD : va_D A [(o9, aI cs 7 (tx_nf (tx_rf rf (tx_q_years v1 v2 v3))))] := by rw [e9]; (try simp only [hQ]); exact hD
        exact rt_l hx hb hr hlocks () (by rw [hQ] <;> (first | done | rfl)) hP hD hS dX6_years_21
set_option maxHeartbeats 4000000 in
set_option maxRecDepth 100000 in
theorem c_X5_commonDivisor (l : Launch) (D : va_G) (cs : Nat → ClassId) (sz : Nat) (a9 : Nat) (b9 : Nat) (ha9 : a9 ≤ 1099511627776) (hb9 : b9 ≤ 1099511627776) : mL (S := Unit) l yX5_commonDivisor wsX5_commonDivisor ({ frames := 0, cells := 0, slots := 0, locals := 0 } : Room) D (tyc cs) sz [.long (lN a9), .long (lN b9)] [] [] (fun (r : Int64) (u : Unit) => r = lN (Nat.gcd a9 b9)) (fun _ => []) 0 0 := by
  unfold mL
  refine Met.ofW (cc := cX5_commonDivisor) (maxL := 11) (ret := (some .long)) (by decide) rfl ?_
  intro p e s m args below meth c s₁ B hml hv
  obtain ⟨rfl, hsz, hP, hK, hD0⟩ := hv
  have hx := B.exec
  have hb := B.bytes
  have hr := B.returns
  have hts := atoms_spec (ws := wsX5_commonDivisor) B.pre
  have hown : s.vm.findClass RX5 = some m.cls := findClass_of_methodNamed B.named
  have hlocks := B.notSynchronized
  subst hsz
  have hR := @en_R _ _ _ [] [] _ hP hD0
  have hN := adN_of hD0
  have hD := en_D (wr := []) (ww := []) (sz := s.heap.size) hD0
  have hP := en_P (wr := []) (ww := []) hP
  generalize hAe : va_A [] s.heap.size = A at hD hR ⊢
  have hA : ∀ q : Nat, s.heap.size ≤ q → A q := fun q h => by rw [← hAe]; exact Or.inr h
  have hS : va_S A s.heap s.heap [] := va_S.rf
  have hN : adN [] := hN
  have hl := lv_entry ([.long (lN a9), .long (lN b9)]) (n := 11) (Nat.le_of_ble_eq_true rfl)
  rw [lg_entry_eq]
  generalize (lg_sl ([.long (lN a9), .long (lN b9)]) ++ List.replicate (11 - (lg_sl ([.long (lN a9), .long (lN b9)])).length) Slot.unset).toArray = ls at hl ⊢
  have hl : lv_has ls 11 [(0, .long (lN a9)), (2, .long (lN b9))] := hl
  refine lv_lload_n hx hb dX5_commonDivisor_0 rfl (lv_at hl 0 rfl) ?_
  refine lv_lstore (lv' := [(4, .long (lN a9)), (0, .long (lN a9)), (2, .long (lN b9))]) hx hb dX5_commonDivisor_1 hl (by decide) rfl (fun ls hl => ?_)
  refine lv_lload_n hx hb dX5_commonDivisor_3 rfl (lv_at hl 2 rfl) ?_
  refine lv_lstore (lv' := [(6, .long (lN b9)), (4, .long (lN a9)), (0, .long (lN a9)), (2, .long (lN b9))]) hx hb dX5_commonDivisor_4 hl (by decide) rfl (fun ls hl => ?_)
  refine lv_iconst (v := 0) hx hb dX5_commonDivisor_6 (by decide) ?_
  refine lv_istore (lv' := [(8, .int 0), (6, .long (lN b9)), (4, .long (lN a9)), (0, .long (lN a9)), (2, .long (lN b9))]) hx hb dX5_commonDivisor_7 hl (by decide) rfl (fun ls hl => ?_)
  have loop9 : ∀ (n9 : Nat) (i : Nat) (x9 : Nat) (y9 : Nat) (hi : i ≤ 200) (hx9 : x9 ≤ 1099511627776) (hy9 : y9 ≤ 1099511627776) (heu : tx_eu x9 y9 i) (hg9 : Nat.gcd x9 y9 = Nat.gcd a9 b9), 200 - i < n9 → ∀ (H : Heap) (locs : List Loc), va_P D vwCl [] H → va_D A [] → va_S A s.heap H locs → ∀ (ls : Array Slot), lv_has ls 11 [(4, .long (lN x9)), (6, .long (lN y9)), (8, .int (nI i))] → W p l e (headSpec wsX5_commonDivisor ({ frames := 0, cells := 0, slots := 0, locals := 0 } : Room)).room s m ([.long (lN a9), .long (lN b9)] : List Value).toArray below meth c H locs 0 0 (MQ below (va_Ql (fun (r : Int64) (u : Unit) => r = lN (Nat.gcd a9 b9)) (QB D (fun _ => []) A) A) ([.long (lN a9), .long (lN b9)] : List Value).toArray s 0 0 A) (F0 m 9 ls []) := by
    intro n9
    induction n9 with
    | zero => intros; omega
    | succ n9 ih9 =>
      intro i x9 y9 hi hx9 hy9 heu hg9 hmu H locs hP hD hS ls hl
      refine lv_iload hx hb dX5_commonDivisor_9 (lv_at hl 2 rfl) ?_
      refine lv_sipush (v := 200) hx hb dX5_commonDivisor_11 (by decide) ?_
      refine bn_ge (a := i) (b := 200) (tgt := 45) hx hb rfl rfl (by omega) (by decide) dX5_commonDivisor_14 (by decide) (fun c14 => ?_) (fun c14 => ?_)
      · refine lv_lload hx hb dX5_commonDivisor_45 (lv_at hl 0 rfl) ?_
        exact rt_l hx hb hr hlocks () (by rw [← hg9, show y9 = 0 from tx_eu_e (by rw [show 200 = i by omega]; exact heu), Nat.gcd_zero_right]) hP hD hS dX5_commonDivisor_47
      · refine lv_lload hx hb dX5_commonDivisor_17 (lv_at hl 1 rfl) ?_
        refine lv_lconst (v := 0) hx hb dX5_commonDivisor_19 (by decide) ?_
        refine W.lcmp hx hb dX5_commonDivisor_20 ?_
        refine tp_i (show lg_cmp (lN y9) 0 = bI (decide (y9 ≠ 0)) from tx_lc0 (by omega)) ?_
        refine bd_eq (P := y9 ≠ 0) (tgt := 45) hx hb rfl dX5_commonDivisor_21 (by decide) (fun c21 => ?_) (fun c21 => ?_)
        · refine lv_lload hx hb dX5_commonDivisor_45 (lv_at hl 0 rfl) ?_
          exact rt_l hx hb hr hlocks () (by rw [← hg9, show y9 = 0 from by omega, Nat.gcd_zero_right]) hP hD hS dX5_commonDivisor_47
        · refine lv_lload hx hb dX5_commonDivisor_24 (lv_at hl 0 rfl) ?_
          refine lv_lload hx hb dX5_commonDivisor_26 (lv_at hl 1 rfl) ?_
          refine lv_lrem hx hb dX5_commonDivisor_28 (tx_ln0 (by omega) c21) ?_
          refine tp_l (show (lN x9) - (lN x9) / (lN y9) * (lN y9) = lN (x9 % y9) from pk_lRem (by omega) (by omega) (by omega)) ?_
          refine lv_lstore (lv' := [(9, .long (lN (x9 % y9))), (4, .long (lN x9)), (6, .long (lN y9)), (8, .int (nI i))]) hx hb dX5_commonDivisor_29 hl (by decide) rfl (fun ls hl => ?_)
          refine lv_lload hx hb dX5_commonDivisor_31 (lv_at hl 2 rfl) ?_
          refine lv_lstore (lv' := [(4, .long (lN y9)), (9, .long (lN (x9 % y9))), (6, .long (lN y9)), (8, .int (nI i))]) hx hb dX5_commonDivisor_33 hl (by decide) rfl (fun ls hl => ?_)
          refine lv_lload hx hb dX5_commonDivisor_35 (lv_at hl 1 rfl) ?_
          refine lv_lstore (lv' := [(6, .long (lN (x9 % y9))), (4, .long (lN y9)), (9, .long (lN (x9 % y9))), (8, .int (nI i))]) hx hb dX5_commonDivisor_37 hl (by decide) rfl (fun ls hl => ?_)
          refine lv_iinc (v := nI (i + 1)) (lv' := [(8, .int (nI (i + 1))), (6, .long (lN (x9 % y9))), (4, .long (lN y9)), (9, .long (lN (x9 % y9)))]) hx hb dX5_commonDivisor_39 hl (k := 3) rfl (inc_n i 1) (by decide) rfl (fun ls hl => ?_)
          refine lv_goto (tgt := 9) hx hb dX5_commonDivisor_42 (by decide) ?_
          exact ih9 (i + 1) y9 (x9 % y9) (by first | assumption | omega) (by first | assumption | omega) (Nat.le_trans (Nat.le_of_lt (Nat.mod_lt _ (by omega))) hy9) (tx_eu_s c21 heu) (by rw [← hg9, Nat.gcd_comm x9 y9, Nat.gcd_rec y9 x9, Nat.gcd_comm]) (by omega) _ _ hP hD hS ls (lv_sub hl [2, 1, 0] rfl)
  exact loop9 _ 0 a9 b9 (by first | assumption | omega) (by first | assumption | omega) (by first | assumption | omega) (tx_eu_0 ha9 hb9) rfl (Nat.lt_succ_self _) _ _ hP hD hS ls (lv_sub hl [2, 1, 0] rfl)
set_option maxHeartbeats 4000000 in
set_option maxRecDepth 100000 in
theorem c_X5_inLeastTerms (l : Launch) (D : va_G) (cs : Nat → ClassId) (sz : Nat) (a9 : Nat) (b9 : Nat) (w9 : Int32) (ha9 : a9 ≤ 1099511627776) (hb9 : b9 ≤ 1099511627776) : mL (S := Unit) l yX5_inLeastTerms wsX5_inLeastTerms ({ frames := 1, cells := 0, slots := 0, locals := 30 } : Room) D (tyc cs) sz [.long (lN a9), .long (lN b9), .int w9] [] [] (fun (r : Int64) (u : Unit) => r = tx_lt2 a9 b9 w9) (fun _ => []) 0 0 := by
  unfold mL
  refine Met.ofW (cc := cX5_inLeastTerms) (maxL := 7) (ret := (some .long)) (by decide) rfl ?_
  intro p e s m args below meth c s₁ B hml hv
  obtain ⟨rfl, hsz, hP, hK, hD0⟩ := hv
  have hx := B.exec
  have hb := B.bytes
  have hr := B.returns
  have hts := atoms_spec (ws := wsX5_inLeastTerms) B.pre
  have hown : s.vm.findClass RX5 = some m.cls := findClass_of_methodNamed B.named
  have hlocks := B.notSynchronized
  subst hsz
  have hR := @en_R _ _ _ [] [] _ hP hD0
  have hN := adN_of hD0
  have hD := en_D (wr := []) (ww := []) (sz := s.heap.size) hD0
  have hP := en_P (wr := []) (ww := []) hP
  generalize hAe : va_A [] s.heap.size = A at hD hR ⊢
  have hA : ∀ q : Nat, s.heap.size ≤ q → A q := fun q h => by rw [← hAe]; exact Or.inr h
  have hS : va_S A s.heap s.heap [] := va_S.rf
  have hN : adN [] := hN
  have hl := lv_entry ([.long (lN a9), .long (lN b9), .int w9]) (n := 7) (Nat.le_of_ble_eq_true rfl)
  rw [lg_entry_eq]
  generalize (lg_sl ([.long (lN a9), .long (lN b9), .int w9]) ++ List.replicate (7 - (lg_sl ([.long (lN a9), .long (lN b9), .int w9])).length) Slot.unset).toArray = ls at hl ⊢
  have hl : lv_has ls 7 [(0, .long (lN a9)), (2, .long (lN b9)), (4, .int w9)] := hl
  refine lv_lload_n hx hb dX5_inLeastTerms_0 rfl (lv_at hl 1 rfl) ?_
  refine lv_lconst (v := 0) hx hb dX5_inLeastTerms_1 (by decide) ?_
  refine W.lcmp hx hb dX5_inLeastTerms_2 ?_
  refine tp_i (show lg_cmp (lN b9) 0 = bI (decide (b9 ≠ 0)) from tx_lc0 (by omega)) ?_
  refine bd_ne (P := b9 ≠ 0) (tgt := 10) hx hb rfl dX5_inLeastTerms_3 (by decide) (fun c3 => ?_) (fun c3 => ?_)
  · have hg1 : Nat.gcd a9 b9 ≤ b9 := Nat.gcd_le_right a9 (by omega)
    have hg2 : 0 < Nat.gcd a9 b9 := Nat.gcd_pos_of_pos_right a9 (by omega)
    refine lv_lload_n hx hb dX5_inLeastTerms_10 rfl (lv_at hl 0 rfl) ?_
    refine lv_lload_n hx hb dX5_inLeastTerms_11 rfl (lv_at hl 1 rfl) ?_
    refine cS_l (As := [.long (lN a9), .long (lN b9)]) (rest := []) (cr := []) (cw1 := []) ⟨hx, hb, hml, hown, hts⟩ (c_X5_commonDivisor l D cs _ a9 b9 (by first | assumption | omega) (by first | assumption | omega)) (va_cwS 2 hts gX5_inLeastTerms_X5_commonDivisor rfl rfl rfl (by decide +kernel) ⟨Nat.le_of_ble_eq_true rfl, Nat.le_of_ble_eq_true rfl⟩) hK hP hD hS hA (hP.sub [] rfl) (dt_of hN [] (by decide) rfl) [] rfl rfl hl.1 rfl (Nat.le_of_ble_eq_true rfl) dX5_inLeastTerms_12 ⟨Nat.le_of_ble_eq_true rfl, Nat.le_of_ble_eq_true rfl⟩ (fun _ => rfl) (fun _ => rfl) (fun r_1 u9 H locs hw_2 hP hD hS => ?_)
    have hP : va_P D vwCl [] H := hP
    have hD : va_D A [] := hD
    subst r_1
    refine lv_lstore (lv' := [(5, .long (lN (Nat.gcd a9 b9))), (0, .long (lN a9)), (2, .long (lN b9)), (4, .int w9)]) hx hb dX5_inLeastTerms_15 hl (by decide) rfl (fun ls hl => ?_)
    refine lv_lload hx hb dX5_inLeastTerms_17 (lv_at hl 0 rfl) ?_
    refine lv_lconst (v := 0) hx hb dX5_inLeastTerms_19 (by decide) ?_
    refine W.lcmp hx hb dX5_inLeastTerms_20 ?_
    refine tp_i (show lg_cmp (lN (Nat.gcd a9 b9)) 0 = bI (decide (Nat.gcd a9 b9 ≠ 0)) from tx_lc0 (by omega)) ?_
    refine bd_ne (P := Nat.gcd a9 b9 ≠ 0) (tgt := 28) hx hb rfl dX5_inLeastTerms_21 (by decide) (fun c21 => ?_) (fun c21 => ?_)
    · refine lv_iload hx hb dX5_inLeastTerms_28 (lv_at hl 3 rfl) ?_
      refine lv_if_ne (tgt := 37) hx hb dX5_inLeastTerms_30 (by decide) (fun c30 => ?_) (fun c30 => ?_)
      · refine lv_lload_n hx hb dX5_inLeastTerms_37 rfl (lv_at hl 2 rfl) ?_
        refine lv_lload hx hb dX5_inLeastTerms_38 (lv_at hl 0 rfl) ?_
        refine lv_ldiv hx hb dX5_inLeastTerms_40 (tx_ln0 (by omega) (by omega)) ?_
        refine tp_l (show (lN b9) / (lN (Nat.gcd a9 b9)) = lN (b9 / Nat.gcd a9 b9) from pk_lDiv (by omega) hg2 (by omega)) ?_
        exact rt_l hx hb hr hlocks () (by unfold tx_lt2; rw [if_neg c3, if_neg c30]) hP hD hS dX5_inLeastTerms_41
      · refine lv_lload_n hx hb dX5_inLeastTerms_33 rfl (lv_at hl 1 rfl) ?_
        refine lv_goto (tgt := 38) hx hb dX5_inLeastTerms_34 (by decide) ?_
        refine lv_lload hx hb dX5_inLeastTerms_38 (lv_at hl 0 rfl) ?_
        refine lv_ldiv hx hb dX5_inLeastTerms_40 (tx_ln0 (by omega) (by omega)) ?_
        refine tp_l (show (lN a9) / (lN (Nat.gcd a9 b9)) = lN (a9 / Nat.gcd a9 b9) from pk_lDiv (by omega) hg2 (by omega)) ?_
        exact rt_l hx hb hr hlocks () (by unfold tx_lt2; rw [if_neg c3, if_pos c30]) hP hD hS dX5_inLeastTerms_41
    · exfalso; omega
  · refine lv_iload hx hb dX5_inLeastTerms_6 (lv_at hl 2 rfl) ?_
    refine lv_i2l (v := w9.toInt64) hx hb dX5_inLeastTerms_8 rfl ?_
    exact rt_l hx hb hr hlocks () (by unfold tx_lt2; rw [if_pos (by omega)]) hP hD hS dX5_inLeastTerms_9
