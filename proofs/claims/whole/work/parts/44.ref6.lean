set_option maxHeartbeats 4000000 in
set_option maxRecDepth 100000 in
theorem c_X6_allowed (l : Launch) (D : va_G) (cs : Nat → ClassId) (sz : Nat) (o : Nat) (o1 : Nat) (o2 : Nat) (o3 : Nat) (o4 : Nat) (o5 : Nat) (o6 : Nat) (o7 : Nat) (o8 : Nat) (o9 : Nat) (o10 : Nat) (o11 : Nat) (o12 : Nat) (o13 : Nat) (o14 : Nat) (o15 : Nat) (n : Nat) (dy : Nat) (ch : Nat) (lw : Nat) (tz : Nat) (at9 : Nat) (va9 : Nat) (ss : Nat) (im : Bool) (kd : Nat → Nat) (wo : Nat → Nat) (ha : Nat → Nat) (we : Nat → Nat) (bo : Nat → Option Nat) (mst : Nat → Int32) (lm : Nat) (hn : n ≤ 4) (hdy : dy ≤ 20) (hd1 : 1 ≤ dy) (hbo : tx_okb bo) (hkd : ∀ e, kd e ≤ 5) (hwo : ∀ e, wo e ≤ 9) (hha : ∀ e, ha e ≤ 3) (hwe : ∀ e, we e ≤ 3) (hch : ch ≤ 9) (hl9 : lm ≤ 20) : mI (S := Nat → Int32) l yX6_allowed wsX6_allowed ({ frames := 2, cells := 0, slots := 0, locals := 50 } : Room) D (tyc cs) sz [.ref o, .int (nI lm)] [(o, .inr (6, [.int (nI n), .ref o1, .ref o2, .ref o3, .ref o4, .int (nI dy), .ref o5, .ref o6, .int (nI ch), .int (nI lw), .int (nI tz), .ref o7, .int (nI at9), .int (nI va9), .int (nI ss), .ref o8, .ref o9, .int (bI im), .ref o10, .ref o11, .ref o12, .ref o13, .ref o14, .ref o15])), (o1, aI cs 4 (tx_nf kd)), (o2, aI cs 4 (tx_nf wo)), (o3, aI cs 4 (tx_nf ha)), (o4, aI cs 4 (tx_nf we)), (o6, aI cs 21 (tx_bf bo))] [(o12, aI cs 1848 mst)] (fun (r : Int32) (u : Nat → Int32) => match u with | f3 => r = iI (tx_aw n dy ch kd wo ha we bo lm) ∧ ∀ d, 0 ≤ d → d ≤ dy → ∀ t, t < n → ∀ k, 1 ≤ k → k ≤ 20 → f3 ((4 * d + t) * 22 + k) = iI (tx_V n dy ch kd wo ha we bo lm (dy - d) t k)) (fun (u : Nat → Int32) => match u with | f3 => [(o12, aI cs 1848 f3)]) 0 0 := by
  unfold mI
  refine Met.ofW (cc := cX6_allowed) (maxL := 8) (ret := (some .int)) (by decide) rfl ?_
  intro p e s m args below meth c s₁ B hml hv
  obtain ⟨rfl, hsz, hP, hK, hD0⟩ := hv
  have hx := B.exec
  have hb := B.bytes
  have hr := B.returns
  have hts := atoms_spec (ws := wsX6_allowed) B.pre
  have hown : s.vm.findClass RX6 = some m.cls := findClass_of_methodNamed B.named
  have hlocks := B.notSynchronized
  subst hsz
  have hR := @en_R _ _ _ [(o, .inr (6, [.int (nI n), .ref o1, .ref o2, .ref o3, .ref o4, .int (nI dy), .ref o5, .ref o6, .int (nI ch), .int (nI lw), .int (nI tz), .ref o7, .int (nI at9), .int (nI va9), .int (nI ss), .ref o8, .ref o9, .int (bI im), .ref o10, .ref o11, .ref o12, .ref o13, .ref o14, .ref o15])), (o1, aI cs 4 (tx_nf kd)), (o2, aI cs 4 (tx_nf wo)), (o3, aI cs 4 (tx_nf ha)), (o4, aI cs 4 (tx_nf we)), (o6, aI cs 21 (tx_bf bo))] [(o12, aI cs 1848 mst)] _ hP hD0
  have hN := adN_of hD0
  have hD := en_D (wr := [(o, .inr (6, [.int (nI n), .ref o1, .ref o2, .ref o3, .ref o4, .int (nI dy), .ref o5, .ref o6, .int (nI ch), .int (nI lw), .int (nI tz), .ref o7, .int (nI at9), .int (nI va9), .int (nI ss), .ref o8, .ref o9, .int (bI im), .ref o10, .ref o11, .ref o12, .ref o13, .ref o14, .ref o15])), (o1, aI cs 4 (tx_nf kd)), (o2, aI cs 4 (tx_nf wo)), (o3, aI cs 4 (tx_nf ha)), (o4, aI cs 4 (tx_nf we)), (o6, aI cs 21 (tx_bf bo))]) (ww := [(o12, aI cs 1848 mst)]) (sz := s.heap.size) hD0
  have hP := en_P (wr := [(o, .inr (6, [.int (nI n), .ref o1, .ref o2, .ref o3, .ref o4, .int (nI dy), .ref o5, .ref o6, .int (nI ch), .int (nI lw), .int (nI tz), .ref o7, .int (nI at9), .int (nI va9), .int (nI ss), .ref o8, .ref o9, .int (bI im), .ref o10, .ref o11, .ref o12, .ref o13, .ref o14, .ref o15])), (o1, aI cs 4 (tx_nf kd)), (o2, aI cs 4 (tx_nf wo)), (o3, aI cs 4 (tx_nf ha)), (o4, aI cs 4 (tx_nf we)), (o6, aI cs 21 (tx_bf bo))]) (ww := [(o12, aI cs 1848 mst)]) hP
  generalize hAe : va_A [(o12, aI cs 1848 mst)] s.heap.size = A at hD hR ⊢
  have hA : ∀ q : Nat, s.heap.size ≤ q → A q := fun q h => by rw [← hAe]; exact Or.inr h
  have hS : va_S A s.heap s.heap [] := va_S.rf
  have hN : adN [o, o1, o2, o3, o4, o6, o12] := hN
  have hf_43 := hts (.fieldLink RX6 43 "TaxedByLongestModel" "most" "[I") (by decide +kernel)
  have hf_71 := hts (.fieldLink RX6 71 "TaxedByLongestModel" "things" "I") (by decide +kernel)
  have hf_78 := hts (.fieldLink RX6 78 "TaxedByLongestModel" "days" "I") (by decide +kernel)
  have in_X6 : ∀ w ∈ wsX60, w ∈ wsX6_allowed := by decide +kernel
  have hl := lv_entry ([.ref o, .int (nI lm)]) (n := 8) (Nat.le_of_ble_eq_true rfl)
  rw [lg_entry_eq]
  generalize (lg_sl ([.ref o, .int (nI lm)]) ++ List.replicate (8 - (lg_sl ([.ref o, .int (nI lm)])).length) Slot.unset).toArray = ls at hl ⊢
  have hl : lv_has ls 8 [(0, .ref o), (1, .int (nI lm))] := hl
  refine lv_aload_n hx hb dX6_allowed_0 rfl (lv_at hl 0 rfl) ?_
  refine va_get (D := D) (ci := 6) (v := .int (nI dy)) (C := RX6) (T := TX6) (N := 24) hx hb hts in_X6 hown hK (hR hS) 0 rfl rfl 5 (by decide) hf_78 (fun _ h9 => h9) rfl dX6_allowed_1 ?_
  refine tp_i (show nI dy = iI (dy : Int) from nI_iI _) ?_
  refine lv_istore_n (lv' := [(2, .int (iI (dy : Int))), (0, .ref o), (1, .int (nI lm))]) hx hb dX6_allowed_4 rfl hl (by decide) rfl (fun ls hl => ?_)
  have loop5 : ∀ (n9 : Nat) (q : Nat) (zz : Int) (f1 : Nat → Int32) (hq : q ≤ dy + 1) (hzz : zz = (q : Int) - 1) (hT : ∀ d, q ≤ d → d ≤ dy → ∀ t, t < n → ∀ k, 1 ≤ k → k ≤ 20 → f1 ((4 * d + t) * 22 + k) = iI (tx_V n dy ch kd wo ha we bo lm (dy - d) t k)), q < n9 → ∀ (H : Heap) (locs : List Loc), va_P D vwCl [(o12, aI cs 1848 f1)] H → va_D A [(o12, aI cs 1848 f1)] → va_S A s.heap H locs → ∀ (ls : Array Slot), lv_has ls 8 [(0, .ref o), (1, .int (nI lm)), (2, .int (iI zz))] → W p l e (headSpec wsX6_allowed ({ frames := 2, cells := 0, slots := 0, locals := 50 } : Room)).room s m ([.ref o, .int (nI lm)] : List Value).toArray below meth c H locs 0 0 (MQ below (va_Qi (fun (r : Int32) (u : Nat → Int32) => match u with | f3 => r = iI (tx_aw n dy ch kd wo ha we bo lm) ∧ ∀ d, 0 ≤ d → d ≤ dy → ∀ t, t < n → ∀ k, 1 ≤ k → k ≤ 20 → f3 ((4 * d + t) * 22 + k) = iI (tx_V n dy ch kd wo ha we bo lm (dy - d) t k)) (QB D (fun (u : Nat → Int32) => match u with | f3 => [(o12, aI cs 1848 f3)]) A) A) ([.ref o, .int (nI lm)] : List Value).toArray s 0 0 A) (F0 m 5 ls []) := by
    intro n9
    induction n9 with
    | zero => intros; omega
    | succ n9 ih5 =>
      intro q zz f1 hq hzz hT hmu H locs hP hD hS ls hl
      refine lv_iload_n hx hb dX6_allowed_5 rfl (lv_at hl 2 rfl) ?_
      refine bi0_lt (a := zz) (tgt := 126) hx hb rfl (by omega) (by omega) dX6_allowed_6 (by decide) (fun c6 => ?_) (fun c6 => ?_)
      · refine lv_sipush (v := (-999)) hx hb dX6_allowed_126 (by decide) ?_
        refine lv_istore_n (lv' := [(2, .int (-999)), (0, .ref o), (1, .int (nI lm))]) hx hb dX6_allowed_129 rfl hl (by decide) rfl (fun ls hl => ?_)
        refine lv_iconst (v := 0) hx hb dX6_allowed_130 (by decide) ?_
        refine lv_istore_n (lv' := [(3, .int 0), (2, .int (-999)), (0, .ref o), (1, .int (nI lm))]) hx hb dX6_allowed_131 rfl hl (by decide) rfl (fun ls hl => ?_)
        have loop132 : ∀ (n9 : Nat) (u : Nat) (ac : Int) (hu : u ≤ n) (hac : ac = tx_mx (fun v => tx_on n dy ch kd wo ha we bo lm 0 (-1) 0 v) u) (ha1 : -999 ≤ ac) (ha2 : ac ≤ 1000), n - u < n9 → ∀ (H : Heap) (locs : List Loc), va_P D vwCl [(o12, aI cs 1848 f1)] H → va_D A [(o12, aI cs 1848 f1)] → va_S A s.heap H locs → ∀ (ls : Array Slot), lv_has ls 8 [(0, .ref o), (1, .int (nI lm)), (2, .int (iI ac)), (3, .int (nI u))] → W p l e (headSpec wsX6_allowed ({ frames := 2, cells := 0, slots := 0, locals := 50 } : Room)).room s m ([.ref o, .int (nI lm)] : List Value).toArray below meth c H locs 0 0 (MQ below (va_Qi (fun (r : Int32) (u : Nat → Int32) => match u with | f3 => r = iI (tx_aw n dy ch kd wo ha we bo lm) ∧ ∀ d, 0 ≤ d → d ≤ dy → ∀ t, t < n → ∀ k, 1 ≤ k → k ≤ 20 → f3 ((4 * d + t) * 22 + k) = iI (tx_V n dy ch kd wo ha we bo lm (dy - d) t k)) (QB D (fun (u : Nat → Int32) => match u with | f3 => [(o12, aI cs 1848 f3)]) A) A) ([.ref o, .int (nI lm)] : List Value).toArray s 0 0 A) (F0 m 132 ls []) := by
          intro n9
          induction n9 with
          | zero => intros; omega
          | succ n9 ih132 =>
            intro u ac hu hac ha1 ha2 hmu H locs hP hD hS ls hl
            refine lv_iload_n hx hb dX6_allowed_132 rfl (lv_at hl 3 rfl) ?_
            refine lv_aload_n hx hb dX6_allowed_133 rfl (lv_at hl 0 rfl) ?_
            refine va_get (D := D) (ci := 6) (v := .int (nI n)) (C := RX6) (T := TX6) (N := 24) hx hb hts in_X6 hown hK (hR hS) 0 rfl rfl 0 (by decide) hf_71 (fun _ h9 => h9) rfl dX6_allowed_134 ?_
            refine bn_ge (a := u) (b := n) (tgt := 160) hx hb rfl rfl (by omega) (by omega) dX6_allowed_137 (by decide) (fun c137 => ?_) (fun c137 => ?_)
            · refine lv_iload_n hx hb dX6_allowed_160 rfl (lv_at hl 2 rfl) ?_
              exact rt_i hx hb hr hlocks (f1) (⟨by rw [hac, show u = n by omega, ← tx_aw_on], fun d h1 h2 t9 h3 k9 h4 h5 => hT d (by omega) h2 t9 h3 k9 h4 h5⟩) hP hD hS dX6_allowed_161
            · refine lv_iload_n hx hb dX6_allowed_140 rfl (lv_at hl 2 rfl) ?_
              refine lv_aload_n hx hb dX6_allowed_141 rfl (lv_at hl 0 rfl) ?_
              refine lv_iconst (v := 0) hx hb dX6_allowed_142 (by decide) ?_
              refine lv_iconst (v := (-1)) hx hb dX6_allowed_143 (by decide) ?_
              refine lv_iconst (v := 0) hx hb dX6_allowed_144 (by decide) ?_
              refine lv_iload_n hx hb dX6_allowed_145 rfl (lv_at hl 3 rfl) ?_
              refine lv_iload_n hx hb dX6_allowed_146 rfl (lv_at hl 1 rfl) ?_
              refine cV_i (As := [.int 0, .int (-1), .int 0, .int (nI u), .int (nI lm)]) (rest := [.int (iI ac)]) (cr := [(o, .inr (6, [.int (nI n), .ref o1, .ref o2, .ref o3, .ref o4, .int (nI dy), .ref o5, .ref o6, .int (nI ch), .int (nI lw), .int (nI tz), .ref o7, .int (nI at9), .int (nI va9), .int (nI ss), .ref o8, .ref o9, .int (bI im), .ref o10, .ref o11, .ref o12, .ref o13, .ref o14, .ref o15])), (o1, aI cs 4 (tx_nf kd)), (o2, aI cs 4 (tx_nf wo)), (o3, aI cs 4 (tx_nf ha)), (o4, aI cs 4 (tx_nf we)), (o6, aI cs 21 (tx_bf bo)), (o12, aI cs 1848 f1)]) (cw1 := []) ⟨hx, hb, hml, hown, hts⟩ (c_X6_on l D cs _ o o1 o2 o3 o4 o5 o6 o7 o8 o9 o10 o11 o12 o13 o14 o15 n dy ch lw tz at9 va9 ss im kd wo ha we bo f1 0 (-1) 0 u lm (by first | assumption | omega) (by first | assumption | omega) (by first | assumption | omega) (by first | assumption | omega) (by first | assumption | omega) (by first | assumption | omega) (by first | assumption | omega) (by first | assumption | omega) (by omega) (by omega) (by omega) (by omega) (by first | assumption | omega) (fun u2 h9 k2 h8 h7 => hT (0 + 1) (by omega) (by omega) u2 h9 k2 h8 h7)) (cwV 5 hts gX6_allowed_X6_on rfl rfl rfl (by decide +kernel) ⟨Nat.le_of_ble_eq_true rfl, Nat.le_of_ble_eq_true rfl⟩) hK hP hD hS hA (((hR hS).app hP).sub [0, 1, 2, 3, 4, 5, 6] rfl) (dt_of hN [0, 1, 2, 3, 4, 5, 6] (by decide) rfl) [] rfl 0 rfl rfl rfl hl.1 rfl (Nat.le_of_ble_eq_true rfl) dX6_allowed_147 ⟨Nat.le_of_ble_eq_true rfl, Nat.le_of_ble_eq_true rfl⟩ (fun _ => rfl) (fun _ => rfl) (fun r_1 u9 H locs hw_2 hP hD hS => ?_)
              have hP : va_P D vwCl [(o12, aI cs 1848 f1)] H := hP
              have hD : va_D A [(o12, aI cs 1848 f1)] := hD
              subst r_1
              have hon := tx_on_b (n := n) (dy := dy) (ch := ch) (kd := kd) (wo := wo) (ha := ha) (we := we) (bo := bo) (l := lm) hwo hha hwe hch hdy 0 (-1) 0 u
              refine va_mmax hx hb (hml.trans hl.1.symm) hown (hts (.methodLink RX6 140 Lib.Math.max.name) (by decide +kernel)) (hts (.static Lib.Math.max.name) (by decide +kernel)) (hts (.initialized "java/lang/Math") (by decide +kernel)) (hts (.code Lib.Math.max.name Lib.Math.max.code 2 (some .int)) (by decide +kernel)) (Nat.le_of_ble_eq_true rfl) (Nat.le_of_ble_eq_true rfl) (Nat.le_of_ble_eq_true rfl) (Nat.le_of_ble_eq_true rfl) dX6_allowed_150 ?_
              refine tp_i (max_iI (a := ac) (b := tx_on n dy ch kd wo ha we bo lm 0 (-1) 0 u) rfl rfl (by omega) (by omega) (by omega) (by omega)) ?_
              refine lv_istore_n (lv' := [(2, .int (iI (max ac (tx_on n dy ch kd wo ha we bo lm 0 (-1) 0 u)))), (0, .ref o), (1, .int (nI lm)), (3, .int (nI u))]) hx hb dX6_allowed_153 rfl hl (by decide) rfl (fun ls hl => ?_)
              refine lv_iinc (v := nI (u + 1)) (lv' := [(3, .int (nI (u + 1))), (2, .int (iI (max ac (tx_on n dy ch kd wo ha we bo lm 0 (-1) 0 u)))), (0, .ref o), (1, .int (nI lm))]) hx hb dX6_allowed_154 hl (k := 3) rfl (inc_n u 1) (by decide) rfl (fun ls hl => ?_)
              refine lv_goto (tgt := 132) hx hb dX6_allowed_157 (by decide) ?_
              exact ih132 (u + 1) (max ac (tx_on n dy ch kd wo ha we bo lm 0 (-1) 0 u)) (by first | assumption | omega) (by rw [tx_mx, ← hac]) (by first | assumption | omega) (by first | assumption | omega) (by omega) _ _ hP hD hS ls (lv_sub hl [2, 3, 1, 0] rfl)
        exact loop132 _ 0 (-999) (by first | assumption | omega) rfl (by first | assumption | omega) (by first | assumption | omega) (Nat.lt_succ_self _) _ _ hP hD hS ls (lv_sub hl [2, 3, 1, 0] rfl)
      · obtain ⟨d9, hd9⟩ : ∃ d9, q = d9 + 1 := ⟨q - 1, by omega⟩
        rw [show iI zz = nI d9 from by rw [nI_iI]; congr 1; omega] at hl
        have hl : lv_has ls 8 [(0, .ref o), (1, .int (nI lm)), (2, .int (nI d9))] := hl
        refine lv_iconst (v := 0) hx hb dX6_allowed_9 (by decide) ?_
        refine lv_istore_n (lv' := [(3, .int 0), (0, .ref o), (1, .int (nI lm)), (2, .int (nI d9))]) hx hb dX6_allowed_10 rfl hl (by decide) rfl (fun ls hl => ?_)
        have loop11 : ∀ (n9 : Nat) (t : Nat) (f2 : Nat → Int32) (ht : t ≤ n) (hT1 : ∀ t2, t2 < t → ∀ k, 1 ≤ k → k ≤ 20 → f2 ((4 * d9 + t2) * 22 + k) = iI (tx_V n dy ch kd wo ha we bo lm (dy - d9) t2 k)) (hT2 : ∀ d, q ≤ d → d ≤ dy → ∀ t, t < n → ∀ k, 1 ≤ k → k ≤ 20 → f2 ((4 * d + t) * 22 + k) = iI (tx_V n dy ch kd wo ha we bo lm (dy - d) t k)), n - t < n9 → ∀ (H : Heap) (locs : List Loc), va_P D vwCl [(o12, aI cs 1848 f2)] H → va_D A [(o12, aI cs 1848 f2)] → va_S A s.heap H locs → ∀ (ls : Array Slot), lv_has ls 8 [(0, .ref o), (1, .int (nI lm)), (2, .int (nI d9)), (3, .int (nI t))] → W p l e (headSpec wsX6_allowed ({ frames := 2, cells := 0, slots := 0, locals := 50 } : Room)).room s m ([.ref o, .int (nI lm)] : List Value).toArray below meth c H locs 0 0 (MQ below (va_Qi (fun (r : Int32) (u : Nat → Int32) => match u with | f3 => r = iI (tx_aw n dy ch kd wo ha we bo lm) ∧ ∀ d, 0 ≤ d → d ≤ dy → ∀ t, t < n → ∀ k, 1 ≤ k → k ≤ 20 → f3 ((4 * d + t) * 22 + k) = iI (tx_V n dy ch kd wo ha we bo lm (dy - d) t k)) (QB D (fun (u : Nat → Int32) => match u with | f3 => [(o12, aI cs 1848 f3)]) A) A) ([.ref o, .int (nI lm)] : List Value).toArray s 0 0 A) (F0 m 11 ls []) := by
          intro n9
          induction n9 with
          | zero => intros; omega
          | succ n9 ih11 =>
            intro t f2 ht hT1 hT2 hmu H locs hP hD hS ls hl
            refine lv_iload_n hx hb dX6_allowed_11 rfl (lv_at hl 3 rfl) ?_
            refine lv_aload_n hx hb dX6_allowed_12 rfl (lv_at hl 0 rfl) ?_
            refine va_get (D := D) (ci := 6) (v := .int (nI n)) (C := RX6) (T := TX6) (N := 24) hx hb hts in_X6 hown hK (hR hS) 0 rfl rfl 0 (by decide) hf_71 (fun _ h9 => h9) rfl dX6_allowed_13 ?_
            refine bn_ge (a := t) (b := n) (tgt := 120) hx hb rfl rfl (by omega) (by omega) dX6_allowed_16 (by decide) (fun c16 => ?_) (fun c16 => ?_)
            · rw [show nI d9 = iI (d9 : Int) from nI_iI _] at hl
              have hl : lv_has ls 8 [(0, .ref o), (1, .int (nI lm)), (2, .int (iI (d9 : Int))), (3, .int (nI t))] := hl
              refine lv_iinc (v := iI ((d9 : Int) + (-1))) (lv' := [(2, .int (iI ((d9 : Int) + (-1)))), (0, .ref o), (1, .int (nI lm)), (3, .int (nI t))]) hx hb dX6_allowed_120 hl (k := 2) rfl (add_iI (a := (d9 : Int)) (b := (-1)) rfl rfl) (by decide) rfl (fun ls hl => ?_)
              refine lv_goto (tgt := 5) hx hb dX6_allowed_123 (by decide) ?_
              exact ih5 d9 ((d9 : Int) + (-1)) f2 (by first | assumption | omega) (by omega) (fun d h1 h2 t9 h3 k9 h4 h5 => by by_cases e : d = d9; (rw [e]; exact hT1 t9 (by omega) k9 h4 h5); (exact hT2 d (by omega) h2 t9 h3 k9 h4 h5)) (by omega) _ _ hP hD hS ls (lv_sub hl [1, 2, 0] rfl)
            · refine lv_iconst (v := 1) hx hb dX6_allowed_19 (by decide) ?_
              refine lv_istore (lv' := [(4, .int 1), (0, .ref o), (1, .int (nI lm)), (2, .int (nI d9)), (3, .int (nI t))]) hx hb dX6_allowed_20 hl (by decide) rfl (fun ls hl => ?_)
              have loop22 : ∀ (n9 : Nat) (k : Nat) (f4 : Nat → Int32) (hk1 : 1 ≤ k) (hk2 : k ≤ 21) (hT1 : ∀ t2, t2 < t → ∀ k, 1 ≤ k → k ≤ 20 → f4 ((4 * d9 + t2) * 22 + k) = iI (tx_V n dy ch kd wo ha we bo lm (dy - d9) t2 k)) (hT2 : ∀ d, q ≤ d → d ≤ dy → ∀ t, t < n → ∀ k, 1 ≤ k → k ≤ 20 → f4 ((4 * d + t) * 22 + k) = iI (tx_V n dy ch kd wo ha we bo lm (dy - d) t k)) (hT3 : ∀ k2, 1 ≤ k2 → k2 < k → f4 ((4 * d9 + t) * 22 + k2) = iI (tx_V n dy ch kd wo ha we bo lm (dy - d9) t k2)), 21 - k < n9 → ∀ (H : Heap) (locs : List Loc), va_P D vwCl [(o12, aI cs 1848 f4)] H → va_D A [(o12, aI cs 1848 f4)] → va_S A s.heap H locs → ∀ (ls : Array Slot), lv_has ls 8 [(0, .ref o), (1, .int (nI lm)), (2, .int (nI d9)), (3, .int (nI t)), (4, .int (nI k))] → W p l e (headSpec wsX6_allowed ({ frames := 2, cells := 0, slots := 0, locals := 50 } : Room)).room s m ([.ref o, .int (nI lm)] : List Value).toArray below meth c H locs 0 0 (MQ below (va_Qi (fun (r : Int32) (u : Nat → Int32) => match u with | f3 => r = iI (tx_aw n dy ch kd wo ha we bo lm) ∧ ∀ d, 0 ≤ d → d ≤ dy → ∀ t, t < n → ∀ k, 1 ≤ k → k ≤ 20 → f3 ((4 * d + t) * 22 + k) = iI (tx_V n dy ch kd wo ha we bo lm (dy - d) t k)) (QB D (fun (u : Nat → Int32) => match u with | f3 => [(o12, aI cs 1848 f3)]) A) A) ([.ref o, .int (nI lm)] : List Value).toArray s 0 0 A) (F0 m 22 ls []) := by
                intro n9
                induction n9 with
                | zero => intros; omega
                | succ n9 ih22 =>
                  intro k f4 hk1 hk2 hT1 hT2 hT3 hmu H locs hP hD hS ls hl
                  refine lv_iload hx hb dX6_allowed_22 (lv_at hl 4 rfl) ?_
                  refine lv_bipush (v := 21) hx hb dX6_allowed_24 (by decide) ?_
                  refine bn_ge (a := k) (b := 21) (tgt := 114) hx hb rfl rfl (by omega) (by decide) dX6_allowed_26 (by decide) (fun c26 => ?_) (fun c26 => ?_)
                  · refine lv_iinc (v := nI (t + 1)) (lv' := [(3, .int (nI (t + 1))), (0, .ref o), (1, .int (nI lm)), (2, .int (nI d9)), (4, .int (nI k))]) hx hb dX6_allowed_114 hl (k := 3) rfl (inc_n t 1) (by decide) rfl (fun ls hl => ?_)
                    refine lv_goto (tgt := 11) hx hb dX6_allowed_117 (by decide) ?_
                    exact ih11 (t + 1) f4 (by first | assumption | omega) (fun t2 h1 k9 h4 h5 => by by_cases e : t2 = t; (rw [e]; exact hT3 k9 h4 (by omega)); (exact hT1 t2 (by omega) k9 h4 h5)) hT2 (by omega) _ _ hP hD hS ls (lv_sub hl [1, 2, 3, 0] rfl)
                  · refine lv_sipush (v := (-999)) hx hb dX6_allowed_29 (by decide) ?_
                    refine lv_istore (lv' := [(5, .int (-999)), (0, .ref o), (1, .int (nI lm)), (2, .int (nI d9)), (3, .int (nI t)), (4, .int (nI k))]) hx hb dX6_allowed_32 hl (by decide) rfl (fun ls hl => ?_)
                    refine lv_iload_n hx hb dX6_allowed_34 rfl (lv_at hl 3 rfl) ?_
                    refine lv_aload_n hx hb dX6_allowed_35 rfl (lv_at hl 1 rfl) ?_
                    refine va_get (D := D) (ci := 6) (v := .int (nI dy)) (C := RX6) (T := TX6) (N := 24) hx hb hts in_X6 hown hK (hR hS) 0 rfl rfl 5 (by decide) hf_78 (fun _ h9 => h9) rfl dX6_allowed_36 ?_
                    refine bn_ne (a := d9) (b := dy) (tgt := 48) hx hb rfl rfl (by omega) (by omega) dX6_allowed_39 (by decide) (fun c39 => ?_) (fun c39 => ?_)
                    · refine lv_iconst (v := 0) hx hb dX6_allowed_48 (by decide) ?_
                      refine lv_istore (lv' := [(6, .int 0), (5, .int (-999)), (0, .ref o), (1, .int (nI lm)), (2, .int (nI d9)), (3, .int (nI t)), (4, .int (nI k))]) hx hb dX6_allowed_49 hl (by decide) rfl (fun ls hl => ?_)
                      have loop51 : ∀ (n9 : Nat) (u : Nat) (ac : Int) (hu : u ≤ n) (hac : ac = tx_mx (fun v => tx_on n dy ch kd wo ha we bo lm d9 (t : Int) k v) u) (ha1 : -999 ≤ ac) (ha2 : ac ≤ 1000), n - u < n9 → ∀ (H : Heap) (locs : List Loc), va_P D vwCl [(o12, aI cs 1848 f4)] H → va_D A [(o12, aI cs 1848 f4)] → va_S A s.heap H locs → ∀ (ls : Array Slot), lv_has ls 8 [(0, .ref o), (1, .int (nI lm)), (2, .int (nI d9)), (3, .int (nI t)), (4, .int (nI k)), (5, .int (iI ac)), (6, .int (nI u))] → W p l e (headSpec wsX6_allowed ({ frames := 2, cells := 0, slots := 0, locals := 50 } : Room)).room s m ([.ref o, .int (nI lm)] : List Value).toArray below meth c H locs 0 0 (MQ below (va_Qi (fun (r : Int32) (u : Nat → Int32) => match u with | f3 => r = iI (tx_aw n dy ch kd wo ha we bo lm) ∧ ∀ d, 0 ≤ d → d ≤ dy → ∀ t, t < n → ∀ k, 1 ≤ k → k ≤ 20 → f3 ((4 * d + t) * 22 + k) = iI (tx_V n dy ch kd wo ha we bo lm (dy - d) t k)) (QB D (fun (u : Nat → Int32) => match u with | f3 => [(o12, aI cs 1848 f3)]) A) A) ([.ref o, .int (nI lm)] : List Value).toArray s 0 0 A) (F0 m 51 ls []) := by
                        intro n9
                        induction n9 with
                        | zero => intros; omega
                        | succ n9 ih51 =>
                          intro u ac hu hac ha1 ha2 hmu H locs hP hD hS ls hl
                          refine lv_iload hx hb dX6_allowed_51 (lv_at hl 6 rfl) ?_
                          refine lv_aload_n hx hb dX6_allowed_53 rfl (lv_at hl 0 rfl) ?_
                          refine va_get (D := D) (ci := 6) (v := .int (nI n)) (C := RX6) (T := TX6) (N := 24) hx hb hts in_X6 hown hK (hR hS) 0 rfl rfl 0 (by decide) hf_71 (fun _ h9 => h9) rfl dX6_allowed_54 ?_
                          refine bn_ge (a := u) (b := n) (tgt := 90) hx hb rfl rfl (by omega) (by omega) dX6_allowed_57 (by decide) (fun c57 => ?_) (fun c57 => ?_)
                          · refine lv_aload_n hx hb dX6_allowed_90 rfl (lv_at hl 0 rfl) ?_
                            refine va_get (D := D) (ci := 6) (v := .ref o12) (C := RX6) (T := TX6) (N := 24) hx hb hts in_X6 hown hK (hR hS) 0 rfl rfl 20 (by decide) hf_43 (fun _ h9 => h9) rfl dX6_allowed_91 ?_
                            refine lv_iconst (v := 4) hx hb dX6_allowed_94 (by decide) ?_
                            refine lv_iload_n hx hb dX6_allowed_95 rfl (lv_at hl 2 rfl) ?_
                            refine lv_imul hx hb dX6_allowed_96 ?_
                            refine tp_i (pk_mul 4 d9) ?_
                            refine lv_iload_n hx hb dX6_allowed_97 rfl (lv_at hl 3 rfl) ?_
                            refine lv_iadd hx hb dX6_allowed_98 ?_
                            refine tp_i (nI_add (4 * d9) t) ?_
                            refine lv_bipush (v := 22) hx hb dX6_allowed_99 (by decide) ?_
                            refine lv_imul hx hb dX6_allowed_101 ?_
                            refine tp_i (pk_mul ((4 * d9) + t) 22) ?_
                            refine lv_iload hx hb dX6_allowed_102 (lv_at hl 4 rfl) ?_
                            refine lv_iadd hx hb dX6_allowed_104 ?_
                            refine tp_i (nI_add (((4 * d9) + t) * 22) k) ?_
                            refine lv_iload hx hb dX6_allowed_105 (lv_at hl 5 rfl) ?_
                            refine is_n (f := f4) hx hb hK hP hD hS 0 0 rfl rfl (j := (((4 * d9) + t) * 22) + k) rfl (by omega) (by decide) dX6_allowed_107 (fun H locs hP hD hS => ?_)
                            have hP : va_P D vwCl [(o12, aI cs 1848 (upd f4 ((((4 * d9) + t) * 22) + k) (iI ac)))] H := hP
                            have hD : va_D A [(o12, aI cs 1848 (upd f4 ((((4 * d9) + t) * 22) + k) (iI ac)))] := hD
                            refine lv_iinc (v := nI (k + 1)) (lv' := [(4, .int (nI (k + 1))), (0, .ref o), (1, .int (nI lm)), (2, .int (nI d9)), (3, .int (nI t)), (5, .int (iI ac)), (6, .int (nI u))]) hx hb dX6_allowed_108 hl (k := 4) rfl (inc_n k 1) (by decide) rfl (fun ls hl => ?_)
                            refine lv_goto (tgt := 22) hx hb dX6_allowed_111 (by decide) ?_
                            exact ih22 (k + 1) (upd f4 ((((4 * d9) + t) * 22) + k) (iI ac)) (by first | assumption | omega) (by first | assumption | omega) (fun t2 h1 k9 h4 h5 => by rw [pk_un (by omega)]; exact hT1 t2 h1 k9 h4 h5) (fun d h1 h2 t9 h3 k9 h4 h5 => by rw [pk_un (by omega)]; exact hT2 d h1 h2 t9 h3 k9 h4 h5) (fun k2 h1 h2 => by by_cases e : k2 = k; (rw [e, pk_us]; exact (by rw [hac, show u = n by omega, ← tx_V_mx (by omega)])); (rw [pk_un (by omega)]; exact hT3 k2 h1 (by omega))) (by omega) _ _ hP hD hS ls (lv_sub hl [1, 2, 3, 4, 0] rfl)
                          · refine lv_aload_n hx hb dX6_allowed_60 rfl (lv_at hl 0 rfl) ?_
                            refine lv_iload_n hx hb dX6_allowed_61 rfl (lv_at hl 2 rfl) ?_
                            refine lv_iload_n hx hb dX6_allowed_62 rfl (lv_at hl 3 rfl) ?_
                            refine tp_i (show nI t = iI (t : Int) from nI_iI _) ?_
                            refine lv_iload hx hb dX6_allowed_63 (lv_at hl 4 rfl) ?_
                            refine lv_iload hx hb dX6_allowed_65 (lv_at hl 6 rfl) ?_
                            refine lv_iload_n hx hb dX6_allowed_67 rfl (lv_at hl 1 rfl) ?_
                            refine cV_i (As := [.int (nI d9), .int (iI (t : Int)), .int (nI k), .int (nI u), .int (nI lm)]) (rest := []) (cr := [(o, .inr (6, [.int (nI n), .ref o1, .ref o2, .ref o3, .ref o4, .int (nI dy), .ref o5, .ref o6, .int (nI ch), .int (nI lw), .int (nI tz), .ref o7, .int (nI at9), .int (nI va9), .int (nI ss), .ref o8, .ref o9, .int (bI im), .ref o10, .ref o11, .ref o12, .ref o13, .ref o14, .ref o15])), (o1, aI cs 4 (tx_nf kd)), (o2, aI cs 4 (tx_nf wo)), (o3, aI cs 4 (tx_nf ha)), (o4, aI cs 4 (tx_nf we)), (o6, aI cs 21 (tx_bf bo)), (o12, aI cs 1848 f4)]) (cw1 := []) ⟨hx, hb, hml, hown, hts⟩ (c_X6_on l D cs _ o o1 o2 o3 o4 o5 o6 o7 o8 o9 o10 o11 o12 o13 o14 o15 n dy ch lw tz at9 va9 ss im kd wo ha we bo f4 d9 (t : Int) k u lm (by first | assumption | omega) (by first | assumption | omega) (by first | assumption | omega) (by first | assumption | omega) (by first | assumption | omega) (by first | assumption | omega) (by first | assumption | omega) (by first | assumption | omega) (by omega) (by omega) (by omega) (by omega) (by first | assumption | omega) (fun u2 h9 k2 h8 h7 => hT2 (d9 + 1) (by omega) (by omega) u2 h9 k2 h8 h7)) (cwV 5 hts gX6_allowed_X6_on rfl rfl rfl (by decide +kernel) ⟨Nat.le_of_ble_eq_true rfl, Nat.le_of_ble_eq_true rfl⟩) hK hP hD hS hA (((hR hS).app hP).sub [0, 1, 2, 3, 4, 5, 6] rfl) (dt_of hN [0, 1, 2, 3, 4, 5, 6] (by decide) rfl) [] rfl 0 rfl rfl rfl hl.1 rfl (Nat.le_of_ble_eq_true rfl) dX6_allowed_68 ⟨Nat.le_of_ble_eq_true rfl, Nat.le_of_ble_eq_true rfl⟩ (fun _ => rfl) (fun _ => rfl) (fun r_3 u9 H locs hw_4 hP hD hS => ?_)
                            have hP : va_P D vwCl [(o12, aI cs 1848 f4)] H := hP
                            have hD : va_D A [(o12, aI cs 1848 f4)] := hD
                            subst r_3
                            have hon := tx_on_b (n := n) (dy := dy) (ch := ch) (kd := kd) (wo := wo) (ha := ha) (we := we) (bo := bo) (l := lm) hwo hha hwe hch hdy d9 (t : Int) k u
                            refine lv_istore (lv' := [(7, .int (iI (tx_on n dy ch kd wo ha we bo lm d9 (t : Int) k u))), (0, .ref o), (1, .int (nI lm)), (2, .int (nI d9)), (3, .int (nI t)), (4, .int (nI k)), (5, .int (iI ac)), (6, .int (nI u))]) hx hb dX6_allowed_71 hl (by decide) rfl (fun ls hl => ?_)
                            refine lv_iload hx hb dX6_allowed_73 (lv_at hl 0 rfl) ?_
                            refine lv_iload hx hb dX6_allowed_75 (lv_at hl 6 rfl) ?_
                            refine bi_le (a := tx_on n dy ch kd wo ha we bo lm d9 (t : Int) k u) (b := ac) (tgt := 84) hx hb rfl rfl (by omega) (by omega) (by omega) (by omega) dX6_allowed_77 (by decide) (fun c77 => ?_) (fun c77 => ?_)
                            · refine lv_iinc (v := nI (u + 1)) (lv' := [(6, .int (nI (u + 1))), (7, .int (iI (tx_on n dy ch kd wo ha we bo lm d9 (t : Int) k u))), (0, .ref o), (1, .int (nI lm)), (2, .int (nI d9)), (3, .int (nI t)), (4, .int (nI k)), (5, .int (iI ac))]) hx hb dX6_allowed_84 hl (k := 7) rfl (inc_n u 1) (by decide) rfl (fun ls hl => ?_)
                              refine lv_goto (tgt := 51) hx hb dX6_allowed_87 (by decide) ?_
                              exact ih51 (u + 1) ac (by first | assumption | omega) (by rw [tx_mx, ← hac]; omega) (by first | assumption | omega) (by first | assumption | omega) (by omega) _ _ hP hD hS ls (lv_sub hl [2, 3, 4, 5, 6, 7, 0] rfl)
                            · refine lv_iload hx hb dX6_allowed_80 (lv_at hl 0 rfl) ?_
                              refine lv_istore (lv' := [(5, .int (iI (tx_on n dy ch kd wo ha we bo lm d9 (t : Int) k u))), (7, .int (iI (tx_on n dy ch kd wo ha we bo lm d9 (t : Int) k u))), (0, .ref o), (1, .int (nI lm)), (2, .int (nI d9)), (3, .int (nI t)), (4, .int (nI k)), (6, .int (nI u))]) hx hb dX6_allowed_82 hl (by decide) rfl (fun ls hl => ?_)
                              refine lv_iinc (v := nI (u + 1)) (lv' := [(6, .int (nI (u + 1))), (5, .int (iI (tx_on n dy ch kd wo ha we bo lm d9 (t : Int) k u))), (7, .int (iI (tx_on n dy ch kd wo ha we bo lm d9 (t : Int) k u))), (0, .ref o), (1, .int (nI lm)), (2, .int (nI d9)), (3, .int (nI t)), (4, .int (nI k))]) hx hb dX6_allowed_84 hl (k := 7) rfl (inc_n u 1) (by decide) rfl (fun ls hl => ?_)
                              refine lv_goto (tgt := 51) hx hb dX6_allowed_87 (by decide) ?_
                              exact ih51 (u + 1) (tx_on n dy ch kd wo ha we bo lm d9 (t : Int) k u) (by first | assumption | omega) (by rw [tx_mx, ← hac]; omega) (by first | assumption | omega) (by first | assumption | omega) (by omega) _ _ hP hD hS ls (lv_sub hl [3, 4, 5, 6, 7, 1, 0] rfl)
                      exact loop51 _ 0 (-999) (by first | assumption | omega) rfl (by first | assumption | omega) (by first | assumption | omega) (Nat.lt_succ_self _) _ _ hP hD hS ls (lv_sub hl [2, 3, 4, 5, 6, 1, 0] rfl)
                    · refine lv_iconst (v := 0) hx hb dX6_allowed_42 (by decide) ?_
                      refine lv_istore (lv' := [(5, .int 0), (0, .ref o), (1, .int (nI lm)), (2, .int (nI d9)), (3, .int (nI t)), (4, .int (nI k))]) hx hb dX6_allowed_43 hl (by decide) rfl (fun ls hl => ?_)
                      refine lv_goto (tgt := 90) hx hb dX6_allowed_45 (by decide) ?_
                      refine lv_aload_n hx hb dX6_allowed_90 rfl (lv_at hl 1 rfl) ?_
                      refine va_get (D := D) (ci := 6) (v := .ref o12) (C := RX6) (T := TX6) (N := 24) hx hb hts in_X6 hown hK (hR hS) 0 rfl rfl 20 (by decide) hf_43 (fun _ h9 => h9) rfl dX6_allowed_91 ?_
                      refine lv_iconst (v := 4) hx hb dX6_allowed_94 (by decide) ?_
                      refine lv_iload_n hx hb dX6_allowed_95 rfl (lv_at hl 3 rfl) ?_
                      refine lv_imul hx hb dX6_allowed_96 ?_
                      refine tp_i (pk_mul 4 d9) ?_
                      refine lv_iload_n hx hb dX6_allowed_97 rfl (lv_at hl 4 rfl) ?_
                      refine lv_iadd hx hb dX6_allowed_98 ?_
                      refine tp_i (nI_add (4 * d9) t) ?_
                      refine lv_bipush (v := 22) hx hb dX6_allowed_99 (by decide) ?_
                      refine lv_imul hx hb dX6_allowed_101 ?_
                      refine tp_i (pk_mul ((4 * d9) + t) 22) ?_
                      refine lv_iload hx hb dX6_allowed_102 (lv_at hl 5 rfl) ?_
                      refine lv_iadd hx hb dX6_allowed_104 ?_
                      refine tp_i (nI_add (((4 * d9) + t) * 22) k) ?_
                      refine lv_iload hx hb dX6_allowed_105 (lv_at hl 0 rfl) ?_
                      refine is_n (f := f4) hx hb hK hP hD hS 0 0 rfl rfl (j := (((4 * d9) + t) * 22) + k) rfl (by omega) (by decide) dX6_allowed_107 (fun H locs hP hD hS => ?_)
                      have hP : va_P D vwCl [(o12, aI cs 1848 (upd f4 ((((4 * d9) + t) * 22) + k) 0))] H := hP
                      have hD : va_D A [(o12, aI cs 1848 (upd f4 ((((4 * d9) + t) * 22) + k) 0))] := hD
                      refine lv_iinc (v := nI (k + 1)) (lv' := [(4, .int (nI (k + 1))), (5, .int 0), (0, .ref o), (1, .int (nI lm)), (2, .int (nI d9)), (3, .int (nI t))]) hx hb dX6_allowed_108 hl (k := 5) rfl (inc_n k 1) (by decide) rfl (fun ls hl => ?_)
                      refine lv_goto (tgt := 22) hx hb dX6_allowed_111 (by decide) ?_
                      exact ih22 (k + 1) (upd f4 ((((4 * d9) + t) * 22) + k) 0) (by first | assumption | omega) (by first | assumption | omega) (fun t2 h1 k9 h4 h5 => by rw [pk_un (by omega)]; exact hT1 t2 h1 k9 h4 h5) (fun d h1 h2 t9 h3 k9 h4 h5 => by rw [pk_un (by omega)]; exact hT2 d h1 h2 t9 h3 k9 h4 h5) (fun k2 h1 h2 => by by_cases e : k2 = k; (rw [e, pk_us]; exact (by rw [show d9 = dy by omega, Nat.sub_self, tx_V]; rfl)); (rw [pk_un (by omega)]; exact hT3 k2 h1 (by omega))) (by omega) _ _ hP hD hS ls (lv_sub hl [2, 3, 4, 5, 0] rfl)
              exact loop22 _ 1 f2 (by first | assumption | omega) (by first | assumption | omega) hT1 hT2 (fun k2 h1 h2 => by exfalso; omega) (Nat.lt_succ_self _) _ _ hP hD hS ls (lv_sub hl [1, 2, 3, 4, 0] rfl)
        exact loop11 _ 0 f1 (by first | assumption | omega) (fun t2 h1 => absurd h1 (Nat.not_lt_zero t2)) hT (Nat.lt_succ_self _) _ _ hP hD hS ls (lv_sub hl [1, 2, 3, 0] rfl)
  exact loop5 _ (dy + 1) (dy : Int) mst (by first | assumption | omega) (by omega) (fun d h1 h2 => by exfalso; omega) (Nat.lt_succ_self _) _ _ hP hD hS ls (lv_sub hl [1, 2, 0] rfl)
set_option maxHeartbeats 4000000 in
set_option maxRecDepth 100000 in
theorem c_X6_bestOf (l : Launch) (D : va_G) (cs : Nat → ClassId) (sz : Nat) (o : Nat) (o1 : Nat) (o2 : Nat) (o3 : Nat) (o4 : Nat) (o5 : Nat) (o6 : Nat) (o7 : Nat) (o8 : Nat) (o9 : Nat) (o10 : Nat) (o11 : Nat) (o12 : Nat) (o13 : Nat) (o14 : Nat) (o15 : Nat) (n : Nat) (dy : Nat) (ch : Nat) (lw : Nat) (tz : Nat) (at9 : Nat) (va9 : Nat) (ss : Nat) (im : Bool) (kd : Nat → Nat) (wo : Nat → Nat) (ha : Nat → Nat) (we : Nat → Nat) (bo : Nat → Option Nat) (mst : Nat → Int32) (fst9 : Nat → Int32) (hn : n ≤ 4) (hdy : dy ≤ 20) (hd1 : 1 ≤ dy) (hn0 : 0 < n) (hbo : tx_okb bo) (hkd : ∀ e, kd e ≤ 5) (hwo : ∀ e, wo e ≤ 9) (hha : ∀ e, ha e ≤ 3) (hwe : ∀ e, we e ≤ 3) (hch : ch ≤ 9) : mI (S := (Nat → Int32) × (Nat → Int32)) l yX6_bestOf wsX6_bestOf ({ frames := 3, cells := 0, slots := 0, locals := 77 } : Room) D (tyc cs) sz [.ref o] [(o, .inr (6, [.int (nI n), .ref o1, .ref o2, .ref o3, .ref o4, .int (nI dy), .ref o5, .ref o6, .int (nI ch), .int (nI lw), .int (nI tz), .ref o7, .int (nI at9), .int (nI va9), .int (nI ss), .ref o8, .ref o9, .int (bI im), .ref o10, .ref o11, .ref o12, .ref o13, .ref o14, .ref o15])), (o1, aI cs 4 (tx_nf kd)), (o2, aI cs 4 (tx_nf wo)), (o3, aI cs 4 (tx_nf ha)), (o4, aI cs 4 (tx_nf we)), (o6, aI cs 21 (tx_bf bo))] [(o12, aI cs 1848 mst), (o13, aI cs 20 fst9)] (fun (r : Int32) (u : (Nat → Int32) × (Nat → Int32)) => match u with | (f3, f2) => r = nI (tx_bs (tx_aw n dy ch kd wo ha we bo) 20).1 ∧ (0 < (tx_bs (tx_aw n dy ch kd wo ha we bo) 20).1 → ∀ e, e < dy → f2 e = nI (tx_yd n dy ch kd wo ha we bo (tx_bs (tx_aw n dy ch kd wo ha we bo) 20).1 e))) (fun (u : (Nat → Int32) × (Nat → Int32)) => match u with | (f3, f2) => [(o12, aI cs 1848 f3), (o13, aI cs 20 f2)]) 0 0 := by
  unfold mI
  refine Met.ofW (cc := cX6_bestOf) (maxL := 8) (ret := (some .int)) (by decide) rfl ?_
  intro p e s m args below meth c s₁ B hml hv
  obtain ⟨rfl, hsz, hP, hK, hD0⟩ := hv
  have hx := B.exec
  have hb := B.bytes
  have hr := B.returns
  have hts := atoms_spec (ws := wsX6_bestOf) B.pre
  have hown : s.vm.findClass RX6 = some m.cls := findClass_of_methodNamed B.named
  have hlocks := B.notSynchronized
  subst hsz
  have hR := @en_R _ _ _ [(o, .inr (6, [.int (nI n), .ref o1, .ref o2, .ref o3, .ref o4, .int (nI dy), .ref o5, .ref o6, .int (nI ch), .int (nI lw), .int (nI tz), .ref o7, .int (nI at9), .int (nI va9), .int (nI ss), .ref o8, .ref o9, .int (bI im), .ref o10, .ref o11, .ref o12, .ref o13, .ref o14, .ref o15])), (o1, aI cs 4 (tx_nf kd)), (o2, aI cs 4 (tx_nf wo)), (o3, aI cs 4 (tx_nf ha)), (o4, aI cs 4 (tx_nf we)), (o6, aI cs 21 (tx_bf bo))] [(o12, aI cs 1848 mst), (o13, aI cs 20 fst9)] _ hP hD0
  have hN := adN_of hD0
  have hD := en_D (wr := [(o, .inr (6, [.int (nI n), .ref o1, .ref o2, .ref o3, .ref o4, .int (nI dy), .ref o5, .ref o6, .int (nI ch), .int (nI lw), .int (nI tz), .ref o7, .int (nI at9), .int (nI va9), .int (nI ss), .ref o8, .ref o9, .int (bI im), .ref o10, .ref o11, .ref o12, .ref o13, .ref o14, .ref o15])), (o1, aI cs 4 (tx_nf kd)), (o2, aI cs 4 (tx_nf wo)), (o3, aI cs 4 (tx_nf ha)), (o4, aI cs 4 (tx_nf we)), (o6, aI cs 21 (tx_bf bo))]) (ww := [(o12, aI cs 1848 mst), (o13, aI cs 20 fst9)]) (sz := s.heap.size) hD0
  have hP := en_P (wr := [(o, .inr (6, [.int (nI n), .ref o1, .ref o2, .ref o3, .ref o4, .int (nI dy), .ref o5, .ref o6, .int (nI ch), .int (nI lw), .int (nI tz), .ref o7, .int (nI at9), .int (nI va9), .int (nI ss), .ref o8, .ref o9, .int (bI im), .ref o10, .ref o11, .ref o12, .ref o13, .ref o14, .ref o15])), (o1, aI cs 4 (tx_nf kd)), (o2, aI cs 4 (tx_nf wo)), (o3, aI cs 4 (tx_nf ha)), (o4, aI cs 4 (tx_nf we)), (o6, aI cs 21 (tx_bf bo))]) (ww := [(o12, aI cs 1848 mst), (o13, aI cs 20 fst9)]) hP
  generalize hAe : va_A [(o12, aI cs 1848 mst), (o13, aI cs 20 fst9)] s.heap.size = A at hD hR ⊢
  have hA : ∀ q : Nat, s.heap.size ≤ q → A q := fun q h => by rw [← hAe]; exact Or.inr h
  have hS : va_S A s.heap s.heap [] := va_S.rf
  have hN : adN [o, o1, o2, o3, o4, o6, o12, o13] := hN
  have hf_43 := hts (.fieldLink RX6 43 "TaxedByLongestModel" "most" "[I") (by decide +kernel)
  have hf_46 := hts (.fieldLink RX6 46 "TaxedByLongestModel" "first" "[I") (by decide +kernel)
  have hf_78 := hts (.fieldLink RX6 78 "TaxedByLongestModel" "days" "I") (by decide +kernel)
  have in_X6 : ∀ w ∈ wsX60, w ∈ wsX6_bestOf := by decide +kernel
  have hl := lv_entry ([.ref o]) (n := 8) (Nat.le_of_ble_eq_true rfl)
  rw [lg_entry_eq]
  generalize (lg_sl ([.ref o]) ++ List.replicate (8 - (lg_sl ([.ref o])).length) Slot.unset).toArray = ls at hl ⊢
  have hl : lv_has ls 8 [(0, .ref o)] := hl
  refine lv_iconst (v := 0) hx hb dX6_bestOf_0 (by decide) ?_
  refine lv_istore_n (lv' := [(1, .int 0), (0, .ref o)]) hx hb dX6_bestOf_1 rfl hl (by decide) rfl (fun ls hl => ?_)
  refine lv_iconst (v := 0) hx hb dX6_bestOf_2 (by decide) ?_
  refine lv_istore_n (lv' := [(2, .int 0), (1, .int 0), (0, .ref o)]) hx hb dX6_bestOf_3 rfl hl (by decide) rfl (fun ls hl => ?_)
  refine lv_iconst (v := 1) hx hb dX6_bestOf_4 (by decide) ?_
  refine lv_istore_n (lv' := [(3, .int 1), (2, .int 0), (1, .int 0), (0, .ref o)]) hx hb dX6_bestOf_5 rfl hl (by decide) rfl (fun ls hl => ?_)
  have loop6 : ∀ (n9 : Nat) (i : Nat) (li : Nat) (b : Nat) (lv : Int) (f1 : Nat → Int32) (hi : i ≤ 20) (hli : li = i + 1) (hbq : b = (tx_bs (tx_aw n dy ch kd wo ha we bo) i).1) (hv : lv = (tx_bs (tx_aw n dy ch kd wo ha we bo) i).2) (hvb : -1000 ≤ lv ∧ lv ≤ 1000) (hb20 : b ≤ 20), 20 - i < n9 → ∀ (H : Heap) (locs : List Loc), va_P D vwCl [(o12, aI cs 1848 f1), (o13, aI cs 20 fst9)] H → va_D A [(o12, aI cs 1848 f1), (o13, aI cs 20 fst9)] → va_S A s.heap H locs → ∀ (ls : Array Slot), lv_has ls 8 [(0, .ref o), (1, .int (nI b)), (2, .int (iI lv)), (3, .int (nI li))] → W p l e (headSpec wsX6_bestOf ({ frames := 3, cells := 0, slots := 0, locals := 77 } : Room)).room s m ([.ref o] : List Value).toArray below meth c H locs 0 0 (MQ below (va_Qi (fun (r : Int32) (u : (Nat → Int32) × (Nat → Int32)) => match u with | (f3, f2) => r = nI (tx_bs (tx_aw n dy ch kd wo ha we bo) 20).1 ∧ (0 < (tx_bs (tx_aw n dy ch kd wo ha we bo) 20).1 → ∀ e, e < dy → f2 e = nI (tx_yd n dy ch kd wo ha we bo (tx_bs (tx_aw n dy ch kd wo ha we bo) 20).1 e))) (QB D (fun (u : (Nat → Int32) × (Nat → Int32)) => match u with | (f3, f2) => [(o12, aI cs 1848 f3), (o13, aI cs 20 f2)]) A) A) ([.ref o] : List Value).toArray s 0 0 A) (F0 m 6 ls []) := by
    intro n9
    induction n9 with
    | zero => intros; omega
    | succ n9 ih6 =>
      intro i li b lv f1 hi hli hbq hv hvb hb20 hmu H locs hP hD hS ls hl
      refine lv_iload_n hx hb dX6_bestOf_6 rfl (lv_at hl 3 rfl) ?_
      refine lv_bipush (v := 21) hx hb dX6_bestOf_7 (by decide) ?_
      refine bn_ge (a := li) (b := 21) (tgt := 59) hx hb rfl rfl (by omega) (by decide) dX6_bestOf_9 (by decide) (fun c9 => ?_) (fun c9 => ?_)
      · refine lv_iload_n hx hb dX6_bestOf_59 rfl (lv_at hl 1 rfl) ?_
        refine bz_ne (a := b) (tgt := 65) hx hb rfl (by omega) dX6_bestOf_60 (by decide) (fun c60 => ?_) (fun c60 => ?_)
        · refine lv_aload_n hx hb dX6_bestOf_65 rfl (lv_at hl 0 rfl) ?_
          refine lv_iload_n hx hb dX6_bestOf_66 rfl (lv_at hl 1 rfl) ?_
          refine cV_i (As := [.int (nI b)]) (rest := []) (cr := [(o, .inr (6, [.int (nI n), .ref o1, .ref o2, .ref o3, .ref o4, .int (nI dy), .ref o5, .ref o6, .int (nI ch), .int (nI lw), .int (nI tz), .ref o7, .int (nI at9), .int (nI va9), .int (nI ss), .ref o8, .ref o9, .int (bI im), .ref o10, .ref o11, .ref o12, .ref o13, .ref o14, .ref o15])), (o1, aI cs 4 (tx_nf kd)), (o2, aI cs 4 (tx_nf wo)), (o3, aI cs 4 (tx_nf ha)), (o4, aI cs 4 (tx_nf we)), (o6, aI cs 21 (tx_bf bo))]) (cw1 := [(o12, aI cs 1848 f1)]) ⟨hx, hb, hml, hown, hts⟩ (c_X6_allowed l D cs _ o o1 o2 o3 o4 o5 o6 o7 o8 o9 o10 o11 o12 o13 o14 o15 n dy ch lw tz at9 va9 ss im kd wo ha we bo f1 b (by first | assumption | omega) (by first | assumption | omega) (by first | assumption | omega) (by first | assumption | omega) (by first | assumption | omega) (by first | assumption | omega) (by first | assumption | omega) (by first | assumption | omega) (by first | assumption | omega) (by omega)) (cwV 1 hts gX6_bestOf_X6_allowed rfl rfl rfl (by decide +kernel) ⟨Nat.le_of_ble_eq_true rfl, Nat.le_of_ble_eq_true rfl⟩) hK hP hD hS hA (((hR hS).app hP).sub [0, 1, 2, 3, 4, 5, 6] rfl) (dt_of hN [0, 1, 2, 3, 4, 5, 6] (by decide) rfl) [0] rfl 0 rfl rfl rfl hl.1 rfl (Nat.le_of_ble_eq_true rfl) dX6_bestOf_67 ⟨Nat.le_of_ble_eq_true rfl, Nat.le_of_ble_eq_true rfl⟩ (fun _ => rfl) (fun _ => rfl) (fun r_1 u9 H locs hw_2 hP hD hS => ?_)
          obtain ⟨f3_3, rfl⟩ : ∃ z, z = u9 := ⟨_, rfl⟩
          have hP : va_P D vwCl [(o12, aI cs 1848 f3_3), (o13, aI cs 20 fst9)] H := hP
          have hD : va_D A [(o12, aI cs 1848 f3_3), (o13, aI cs 20 fst9)] := hD
          obtain ⟨hw_2_0, hw_2⟩ := hw_2
          subst r_1
          have hTb := hw_2
          refine lv_istore_n (lv' := [(3, .int (iI (tx_aw n dy ch kd wo ha we bo b))), (0, .ref o), (1, .int (nI b)), (2, .int (iI lv))]) hx hb dX6_bestOf_70 rfl hl (by decide) rfl (fun ls hl => ?_)
          have hCb := tx_aw_b (n := n) (dy := dy) (ch := ch) (kd := kd) (wo := wo) (ha := ha) (we := we) (bo := bo) (l := b) hwo hha hwe hch hdy
          have hbE : b = (tx_bs (tx_aw n dy ch kd wo ha we bo) 20).1 := by rw [hbq, show i = 20 by omega]
          refine lv_iconst (v := (-1)) hx hb dX6_bestOf_71 (by decide) ?_
          refine lv_istore (lv' := [(4, .int (-1)), (3, .int (iI (tx_aw n dy ch kd wo ha we bo b))), (0, .ref o), (1, .int (nI b)), (2, .int (iI lv))]) hx hb dX6_bestOf_72 hl (by decide) rfl (fun ls hl => ?_)
          refine lv_iconst (v := 0) hx hb dX6_bestOf_74 (by decide) ?_
          refine lv_istore (lv' := [(5, .int 0), (4, .int (-1)), (3, .int (iI (tx_aw n dy ch kd wo ha we bo b))), (0, .ref o), (1, .int (nI b)), (2, .int (iI lv))]) hx hb dX6_bestOf_75 hl (by decide) rfl (fun ls hl => ?_)
          refine lv_iconst (v := 0) hx hb dX6_bestOf_77 (by decide) ?_
          refine lv_istore (lv' := [(6, .int 0), (5, .int 0), (4, .int (-1)), (3, .int (iI (tx_aw n dy ch kd wo ha we bo b))), (0, .ref o), (1, .int (nI b)), (2, .int (iI lv))]) hx hb dX6_bestOf_78 hl (by decide) rfl (fun ls hl => ?_)
          have loop80 : ∀ (n9 : Nat) (d : Nat) (t : Int) (k : Nat) (lf : Int) (y9 : Nat → Int32) (hd9 : d ≤ dy) (hys : tx_ys n dy ch kd wo ha we bo b d = (t, k)) (hlf : d < dy → lf = tx_mx (fun v => tx_on n dy ch kd wo ha we bo b d t k v) n) (hlb : -1000 ≤ lf ∧ lf ≤ 1000) (hkd2 : k ≤ d) (htb : -1 ≤ t ∧ t < 4) (hyd : ∀ e, e < d → y9 e = nI (tx_yd n dy ch kd wo ha we bo b e)), dy - d < n9 → ∀ (H : Heap) (locs : List Loc), va_P D vwCl [(o12, aI cs 1848 f3_3), (o13, aI cs 20 y9)] H → va_D A [(o12, aI cs 1848 f3_3), (o13, aI cs 20 y9)] → va_S A s.heap H locs → ∀ (ls : Array Slot), lv_has ls 8 [(0, .ref o), (1, .int (nI b)), (3, .int (iI lf)), (4, .int (iI t)), (5, .int (nI k)), (6, .int (nI d))] → W p l e (headSpec wsX6_bestOf ({ frames := 3, cells := 0, slots := 0, locals := 77 } : Room)).room s m ([.ref o] : List Value).toArray below meth c H locs 0 0 (MQ below (va_Qi (fun (r : Int32) (u : (Nat → Int32) × (Nat → Int32)) => match u with | (f3, f2) => r = nI (tx_bs (tx_aw n dy ch kd wo ha we bo) 20).1 ∧ (0 < (tx_bs (tx_aw n dy ch kd wo ha we bo) 20).1 → ∀ e, e < dy → f2 e = nI (tx_yd n dy ch kd wo ha we bo (tx_bs (tx_aw n dy ch kd wo ha we bo) 20).1 e))) (QB D (fun (u : (Nat → Int32) × (Nat → Int32)) => match u with | (f3, f2) => [(o12, aI cs 1848 f3), (o13, aI cs 20 f2)]) A) A) ([.ref o] : List Value).toArray s 0 0 A) (F0 m 80 ls []) := by
            intro n9
            induction n9 with
            | zero => intros; omega
            | succ n9 ih80 =>
              intro d t k lf y9 hd9 hys hlf hlb hkd2 htb hyd hmu H locs hP hD hS ls hl
              refine lv_iload hx hb dX6_bestOf_80 (lv_at hl 5 rfl) ?_
              refine lv_aload_n hx hb dX6_bestOf_82 rfl (lv_at hl 0 rfl) ?_
              refine va_get (D := D) (ci := 6) (v := .int (nI dy)) (C := RX6) (T := TX6) (N := 24) hx hb hts in_X6 hown hK (hR hS) 0 rfl rfl 5 (by decide) hf_78 (fun _ h9 => h9) rfl dX6_bestOf_83 ?_
              refine bn_ge (a := d) (b := dy) (tgt := 172) hx hb rfl rfl (by omega) (by omega) dX6_bestOf_86 (by decide) (fun c86 => ?_) (fun c86 => ?_)
              · refine lv_iload_n hx hb dX6_bestOf_172 rfl (lv_at hl 1 rfl) ?_
                exact rt_i hx hb hr hlocks (f3_3, y9) (⟨by rw [hbE], fun z e h9 => by rw [← hbE]; exact hyd e (by omega)⟩) hP hD hS dX6_bestOf_173
              · refine lv_iconst (v := 0) hx hb dX6_bestOf_89 (by decide) ?_
                refine lv_istore (lv' := [(7, .int 0), (0, .ref o), (1, .int (nI b)), (3, .int (iI lf)), (4, .int (iI t)), (5, .int (nI k)), (6, .int (nI d))]) hx hb dX6_bestOf_90 hl (by decide) rfl (fun ls hl => ?_)
                have loop92 : ∀ (n9 : Nat) (u : Nat) (hun : u < n) (hq : ∀ v, v < u → ¬ tx_on n dy ch kd wo ha we bo b d t k v = tx_mx (fun v => tx_on n dy ch kd wo ha we bo b d t k v) n), n - u < n9 → ∀ (H : Heap) (locs : List Loc), va_P D vwCl [(o12, aI cs 1848 f3_3), (o13, aI cs 20 y9)] H → va_D A [(o12, aI cs 1848 f3_3), (o13, aI cs 20 y9)] → va_S A s.heap H locs → ∀ (ls : Array Slot), lv_has ls 8 [(0, .ref o), (1, .int (nI b)), (3, .int (iI lf)), (4, .int (iI t)), (5, .int (nI k)), (6, .int (nI d)), (7, .int (nI u))] → W p l e (headSpec wsX6_bestOf ({ frames := 3, cells := 0, slots := 0, locals := 77 } : Room)).room s m ([.ref o] : List Value).toArray below meth c H locs 0 0 (MQ below (va_Qi (fun (r : Int32) (u : (Nat → Int32) × (Nat → Int32)) => match u with | (f3, f2) => r = nI (tx_bs (tx_aw n dy ch kd wo ha we bo) 20).1 ∧ (0 < (tx_bs (tx_aw n dy ch kd wo ha we bo) 20).1 → ∀ e, e < dy → f2 e = nI (tx_yd n dy ch kd wo ha we bo (tx_bs (tx_aw n dy ch kd wo ha we bo) 20).1 e))) (QB D (fun (u : (Nat → Int32) × (Nat → Int32)) => match u with | (f3, f2) => [(o12, aI cs 1848 f3), (o13, aI cs 20 f2)]) A) A) ([.ref o] : List Value).toArray s 0 0 A) (F0 m 92 ls []) := by
                  intro n9
                  induction n9 with
                  | zero => intros; omega
                  | succ n9 ih92 =>
                    intro u hun hq hmu H locs hP hD hS ls hl
                    have hlf9 := hlf (by omega)
                    refine lv_aload_n hx hb dX6_bestOf_92 rfl (lv_at hl 0 rfl) ?_
                    refine lv_iload hx hb dX6_bestOf_93 (lv_at hl 5 rfl) ?_
                    refine lv_iload hx hb dX6_bestOf_95 (lv_at hl 3 rfl) ?_
                    refine lv_iload hx hb dX6_bestOf_97 (lv_at hl 4 rfl) ?_
                    refine lv_iload hx hb dX6_bestOf_99 (lv_at hl 6 rfl) ?_
                    refine lv_iload_n hx hb dX6_bestOf_101 rfl (lv_at hl 1 rfl) ?_
                    refine cV_i (As := [.int (nI d), .int (iI t), .int (nI k), .int (nI u), .int (nI b)]) (rest := []) (cr := [(o, .inr (6, [.int (nI n), .ref o1, .ref o2, .ref o3, .ref o4, .int (nI dy), .ref o5, .ref o6, .int (nI ch), .int (nI lw), .int (nI tz), .ref o7, .int (nI at9), .int (nI va9), .int (nI ss), .ref o8, .ref o9, .int (bI im), .ref o10, .ref o11, .ref o12, .ref o13, .ref o14, .ref o15])), (o1, aI cs 4 (tx_nf kd)), (o2, aI cs 4 (tx_nf wo)), (o3, aI cs 4 (tx_nf ha)), (o4, aI cs 4 (tx_nf we)), (o6, aI cs 21 (tx_bf bo)), (o12, aI cs 1848 f3_3)]) (cw1 := []) ⟨hx, hb, hml, hown, hts⟩ (c_X6_on l D cs _ o o1 o2 o3 o4 o5 o6 o7 o8 o9 o10 o11 o12 o13 o14 o15 n dy ch lw tz at9 va9 ss im kd wo ha we bo f3_3 d t k u b (by first | assumption | omega) (by first | assumption | omega) (by first | assumption | omega) (by first | assumption | omega) (by first | assumption | omega) (by first | assumption | omega) (by first | assumption | omega) (by first | assumption | omega) (by omega) htb (by omega) hun (by omega) (fun u2 h9 k2 h8 h7 => hTb (d + 1) (by omega) (by omega) u2 h9 k2 h8 h7)) (cwV 5 hts gX6_bestOf_X6_on rfl rfl rfl (by decide +kernel) ⟨Nat.le_of_ble_eq_true rfl, Nat.le_of_ble_eq_true rfl⟩) hK hP hD hS hA (((hR hS).app hP).sub [0, 1, 2, 3, 4, 5, 6] rfl) (dt_of hN [0, 1, 2, 3, 4, 5, 6] (by decide) rfl) [] rfl 0 rfl rfl rfl hl.1 rfl (Nat.le_of_ble_eq_true rfl) dX6_bestOf_102 ⟨Nat.le_of_ble_eq_true rfl, Nat.le_of_ble_eq_true rfl⟩ (fun _ => rfl) (fun _ => rfl) (fun r_4 u9 H locs hw_5 hP hD hS => ?_)
                    have hP : va_P D vwCl [(o12, aI cs 1848 f3_3), (o13, aI cs 20 y9)] H := hP
                    have hD : va_D A [(o12, aI cs 1848 f3_3), (o13, aI cs 20 y9)] := hD
                    subst r_4
                    have hon := tx_on_b (n := n) (dy := dy) (ch := ch) (kd := kd) (wo := wo) (ha := ha) (we := we) (bo := bo) (l := b) hwo hha hwe hch hdy d t k u
                    refine lv_iload_n hx hb dX6_bestOf_105 rfl (lv_at hl 2 rfl) ?_
                    refine bi_eq (a := tx_on n dy ch kd wo ha we bo b d t k u) (b := lf) (tgt := 115) hx hb rfl rfl (by omega) (by omega) (by omega) (by omega) dX6_bestOf_106 (by decide) (fun c106 => ?_) (fun c106 => ?_)
                    · have hyu : tx_yu n dy ch kd wo ha we bo b d t k = u := tx_yu_of hun hq (by rw [← hlf9]; exact c106)
                      refine lv_aload_n hx hb dX6_bestOf_115 rfl (lv_at hl 0 rfl) ?_
                      refine va_get (D := D) (ci := 6) (v := .ref o13) (C := RX6) (T := TX6) (N := 24) hx hb hts in_X6 hown hK (hR hS) 0 rfl rfl 21 (by decide) hf_46 (fun _ h9 => h9) rfl dX6_bestOf_116 ?_
                      refine lv_iload hx hb dX6_bestOf_119 (lv_at hl 5 rfl) ?_
                      refine lv_iload hx hb dX6_bestOf_121 (lv_at hl 6 rfl) ?_
                      refine is_n (f := y9) hx hb hK hP hD hS 1 0 rfl rfl (j := d) rfl (by omega) (by decide) dX6_bestOf_123 (fun H locs hP hD hS => ?_)
                      have hP : va_P D vwCl [(o12, aI cs 1848 f3_3), (o13, aI cs 20 (upd y9 d (nI u)))] H := hP
                      have hD : va_D A [(o12, aI cs 1848 f3_3), (o13, aI cs 20 (upd y9 d (nI u)))] := hD
                      refine lv_iload hx hb dX6_bestOf_124 (lv_at hl 6 rfl) ?_
                      refine lv_iload hx hb dX6_bestOf_126 (lv_at hl 3 rfl) ?_
                      refine bi_ne (a := (u : Int)) (b := t) (tgt := 138) hx hb (nI_iI _) rfl (by omega) (by omega) (by omega) (by omega) dX6_bestOf_128 (by decide) (fun c128 => ?_) (fun c128 => ?_)
                      · refine lv_iconst (v := 1) hx hb dX6_bestOf_138 (by decide) ?_
                        refine lv_istore (lv' := [(5, .int 1), (0, .ref o), (1, .int (nI b)), (3, .int (iI lf)), (4, .int (iI t)), (6, .int (nI d)), (7, .int (nI u))]) hx hb dX6_bestOf_139 hl (by decide) rfl (fun ls hl => ?_)
                        refine lv_aload_n hx hb dX6_bestOf_141 rfl (lv_at hl 1 rfl) ?_
                        refine va_get (D := D) (ci := 6) (v := .ref o12) (C := RX6) (T := TX6) (N := 24) hx hb hts in_X6 hown hK (hR hS) 0 rfl rfl 20 (by decide) hf_43 (fun _ h9 => h9) rfl dX6_bestOf_142 ?_
                        refine lv_iconst (v := 4) hx hb dX6_bestOf_145 (by decide) ?_
                        refine lv_iload hx hb dX6_bestOf_146 (lv_at hl 5 rfl) ?_
                        refine lv_iconst (v := 1) hx hb dX6_bestOf_148 (by decide) ?_
                        refine lv_iadd hx hb dX6_bestOf_149 ?_
                        refine tp_i (nI_add d 1) ?_
                        refine lv_imul hx hb dX6_bestOf_150 ?_
                        refine tp_i (pk_mul 4 (d + 1)) ?_
                        refine lv_iload hx hb dX6_bestOf_151 (lv_at hl 6 rfl) ?_
                        refine lv_iadd hx hb dX6_bestOf_153 ?_
                        refine tp_i (nI_add (4 * (d + 1)) u) ?_
                        refine lv_bipush (v := 22) hx hb dX6_bestOf_154 (by decide) ?_
                        refine lv_imul hx hb dX6_bestOf_156 ?_
                        refine tp_i (pk_mul ((4 * (d + 1)) + u) 22) ?_
                        refine lv_iload hx hb dX6_bestOf_157 (lv_at hl 0 rfl) ?_
                        refine lv_iadd hx hb dX6_bestOf_159 ?_
                        refine tp_i (nI_add (((4 * (d + 1)) + u) * 22) 1) ?_
                        refine ia_n (f := f3_3) hx hb hK hP 0 0 rfl rfl (j := (((4 * (d + 1)) + u) * 22) + 1) rfl (by omega) (by decide) dX6_bestOf_160 ?_
                        have hVb := tx_V_b (n := n) (dy := dy) (ch := ch) (kd := kd) (wo := wo) (ha := ha) (we := we) (bo := bo) (l := b) hwo hha hwe hch (dy - (d + 1)) (by omega) u (1)
                        unfold tx_bo9 at hVb
                        refine tp_i (show f3_3 ((((4 * (d + 1)) + u) * 22) + 1) = iI (tx_V n dy ch kd wo ha we bo b (dy - (d + 1)) u (1)) from hTb (d + 1) (by omega) (by omega) u hun (1) (by omega) (by omega)) ?_
                        refine lv_istore_n (lv' := [(3, .int (iI (tx_V n dy ch kd wo ha we bo b (dy - (d + 1)) u (1)))), (5, .int 1), (0, .ref o), (1, .int (nI b)), (4, .int (iI t)), (6, .int (nI d)), (7, .int (nI u))]) hx hb dX6_bestOf_161 rfl hl (by decide) rfl (fun ls hl => ?_)
                        refine lv_iload hx hb dX6_bestOf_162 (lv_at hl 6 rfl) ?_
                        refine tp_i (show nI u = iI (u : Int) from nI_iI _) ?_
                        refine lv_istore (lv' := [(4, .int (iI (u : Int))), (3, .int (iI (tx_V n dy ch kd wo ha we bo b (dy - (d + 1)) u (1)))), (5, .int 1), (0, .ref o), (1, .int (nI b)), (6, .int (nI d)), (7, .int (nI u))]) hx hb dX6_bestOf_164 hl (by decide) rfl (fun ls hl => ?_)
                        refine lv_iinc (v := nI (d + 1)) (lv' := [(6, .int (nI (d + 1))), (4, .int (iI (u : Int))), (3, .int (iI (tx_V n dy ch kd wo ha we bo b (dy - (d + 1)) u (1)))), (5, .int 1), (0, .ref o), (1, .int (nI b)), (7, .int (nI u))]) hx hb dX6_bestOf_166 hl (k := 5) rfl (inc_n d 1) (by decide) rfl (fun ls hl => ?_)
                        refine lv_goto (tgt := 80) hx hb dX6_bestOf_169 (by decide) ?_
                        exact ih80 (d + 1) (u : Int) 1 (tx_V n dy ch kd wo ha we bo b (dy - (d + 1)) u (1)) (upd y9 d (nI u)) (by first | assumption | omega) (by rw [tx_ys, hys]; dsimp only; rw [hyu, if_neg (fun z => c128 z.symm)]) (fun h9 => tx_V_mx h9) (by first | assumption | omega) (by first | assumption | omega) (by first | assumption | omega) (fun e h9 => by by_cases q : e = d; (rw [q]; exact pk_us.trans (by rw [tx_yd, hys]; dsimp only; rw [hyu])); (rw [pk_un q]; exact hyd e (by omega))) (by omega) _ _ hP hD hS ls (lv_sub hl [4, 5, 2, 1, 3, 0] rfl)
                      · refine lv_iload hx hb dX6_bestOf_131 (lv_at hl 4 rfl) ?_
                        refine lv_iconst (v := 1) hx hb dX6_bestOf_133 (by decide) ?_
                        refine lv_iadd hx hb dX6_bestOf_134 ?_
                        refine tp_i (nI_add k 1) ?_
                        refine lv_goto (tgt := 139) hx hb dX6_bestOf_135 (by decide) ?_
                        refine lv_istore (lv' := [(5, .int (nI (k + 1))), (0, .ref o), (1, .int (nI b)), (3, .int (iI lf)), (4, .int (iI t)), (6, .int (nI d)), (7, .int (nI u))]) hx hb dX6_bestOf_139 hl (by decide) rfl (fun ls hl => ?_)
                        refine lv_aload_n hx hb dX6_bestOf_141 rfl (lv_at hl 1 rfl) ?_
                        refine va_get (D := D) (ci := 6) (v := .ref o12) (C := RX6) (T := TX6) (N := 24) hx hb hts in_X6 hown hK (hR hS) 0 rfl rfl 20 (by decide) hf_43 (fun _ h9 => h9) rfl dX6_bestOf_142 ?_
                        refine lv_iconst (v := 4) hx hb dX6_bestOf_145 (by decide) ?_
                        refine lv_iload hx hb dX6_bestOf_146 (lv_at hl 5 rfl) ?_
                        refine lv_iconst (v := 1) hx hb dX6_bestOf_148 (by decide) ?_
                        refine lv_iadd hx hb dX6_bestOf_149 ?_
                        refine tp_i (nI_add d 1) ?_
                        refine lv_imul hx hb dX6_bestOf_150 ?_
                        refine tp_i (pk_mul 4 (d + 1)) ?_
                        refine lv_iload hx hb dX6_bestOf_151 (lv_at hl 6 rfl) ?_
                        refine lv_iadd hx hb dX6_bestOf_153 ?_
                        refine tp_i (nI_add (4 * (d + 1)) u) ?_
                        refine lv_bipush (v := 22) hx hb dX6_bestOf_154 (by decide) ?_
                        refine lv_imul hx hb dX6_bestOf_156 ?_
                        refine tp_i (pk_mul ((4 * (d + 1)) + u) 22) ?_
                        refine lv_iload hx hb dX6_bestOf_157 (lv_at hl 0 rfl) ?_
                        refine lv_iadd hx hb dX6_bestOf_159 ?_
                        refine tp_i (nI_add (((4 * (d + 1)) + u) * 22) (k + 1)) ?_
                        refine ia_n (f := f3_3) hx hb hK hP 0 0 rfl rfl (j := (((4 * (d + 1)) + u) * 22) + (k + 1)) rfl (by omega) (by decide) dX6_bestOf_160 ?_
                        have hVb := tx_V_b (n := n) (dy := dy) (ch := ch) (kd := kd) (wo := wo) (ha := ha) (we := we) (bo := bo) (l := b) hwo hha hwe hch (dy - (d + 1)) (by omega) u (k + 1)
                        unfold tx_bo9 at hVb
                        refine tp_i (show f3_3 ((((4 * (d + 1)) + u) * 22) + (k + 1)) = iI (tx_V n dy ch kd wo ha we bo b (dy - (d + 1)) u (k + 1)) from hTb (d + 1) (by omega) (by omega) u hun (k + 1) (by omega) (by omega)) ?_
                        refine lv_istore_n (lv' := [(3, .int (iI (tx_V n dy ch kd wo ha we bo b (dy - (d + 1)) u (k + 1)))), (5, .int (nI (k + 1))), (0, .ref o), (1, .int (nI b)), (4, .int (iI t)), (6, .int (nI d)), (7, .int (nI u))]) hx hb dX6_bestOf_161 rfl hl (by decide) rfl (fun ls hl => ?_)
                        refine lv_iload hx hb dX6_bestOf_162 (lv_at hl 6 rfl) ?_
                        refine tp_i (show nI u = iI (u : Int) from nI_iI _) ?_
                        refine lv_istore (lv' := [(4, .int (iI (u : Int))), (3, .int (iI (tx_V n dy ch kd wo ha we bo b (dy - (d + 1)) u (k + 1)))), (5, .int (nI (k + 1))), (0, .ref o), (1, .int (nI b)), (6, .int (nI d)), (7, .int (nI u))]) hx hb dX6_bestOf_164 hl (by decide) rfl (fun ls hl => ?_)
                        refine lv_iinc (v := nI (d + 1)) (lv' := [(6, .int (nI (d + 1))), (4, .int (iI (u : Int))), (3, .int (iI (tx_V n dy ch kd wo ha we bo b (dy - (d + 1)) u (k + 1)))), (5, .int (nI (k + 1))), (0, .ref o), (1, .int (nI b)), (7, .int (nI u))]) hx hb dX6_bestOf_166 hl (k := 5) rfl (inc_n d 1) (by decide) rfl (fun ls hl => ?_)
                        refine lv_goto (tgt := 80) hx hb dX6_bestOf_169 (by decide) ?_
                        exact ih80 (d + 1) (u : Int) (k + 1) (tx_V n dy ch kd wo ha we bo b (dy - (d + 1)) u (k + 1)) (upd y9 d (nI u)) (by first | assumption | omega) (by rw [tx_ys, hys]; dsimp only; rw [hyu, if_pos c128.symm]) (fun h9 => tx_V_mx h9) (by first | assumption | omega) (by first | assumption | omega) (by first | assumption | omega) (fun e h9 => by by_cases q : e = d; (rw [q]; exact pk_us.trans (by rw [tx_yd, hys]; dsimp only; rw [hyu])); (rw [pk_un q]; exact hyd e (by omega))) (by omega) _ _ hP hD hS ls (lv_sub hl [4, 5, 2, 1, 3, 0] rfl)
                    · have hne : ¬ tx_on n dy ch kd wo ha we bo b d t k u = tx_mx (fun v => tx_on n dy ch kd wo ha we bo b d t k v) n := by rw [← hlf9]; exact c106
                      refine lv_iinc (v := nI (u + 1)) (lv' := [(7, .int (nI (u + 1))), (0, .ref o), (1, .int (nI b)), (3, .int (iI lf)), (4, .int (iI t)), (5, .int (nI k)), (6, .int (nI d))]) hx hb dX6_bestOf_109 hl (k := 6) rfl (inc_n u 1) (by decide) rfl (fun ls hl => ?_)
                      refine lv_goto (tgt := 92) hx hb dX6_bestOf_112 (by decide) ?_
                      exact ih92 (u + 1) (by obtain ⟨v, h9, h8⟩ := tx_yu_lt (n := n) (dy := dy) (ch := ch) (kd := kd) (wo := wo) (ha := ha) (we := we) (bo := bo) (l := b) hwo hha hwe hch hdy hn0 d t k; by_cases q1 : v < u; (exact absurd h8 (hq v q1)); by_cases q2 : v = u; (exact absurd (q2 ▸ h8) hne); omega) (fun v h9 => by by_cases q1 : v = u; (rw [q1]; exact hne); (exact hq v (by omega))) (by omega) _ _ hP hD hS ls (lv_sub hl [1, 2, 3, 4, 5, 6, 0] rfl)
                exact loop92 _ 0 (by first | assumption | omega) (fun v h9 => absurd h9 (Nat.not_lt_zero v)) (Nat.lt_succ_self _) _ _ hP hD hS ls (lv_sub hl [1, 2, 3, 4, 5, 6, 0] rfl)
          exact loop80 _ 0 (-1) 0 (tx_aw n dy ch kd wo ha we bo b) fst9 (by first | assumption | omega) rfl (fun _ => tx_aw_on) (by first | assumption | omega) (by first | assumption | omega) (by first | assumption | omega) (fun e h9 => absurd h9 (Nat.not_lt_zero e)) (Nat.lt_succ_self _) _ _ hP hD hS ls (lv_sub hl [4, 5, 3, 2, 1, 0] rfl)
        · refine lv_iconst (v := 0) hx hb dX6_bestOf_63 (by decide) ?_
          have hb0 : (tx_bs (tx_aw n dy ch kd wo ha we bo) 20).1 = 0 := by rw [show 20 = i by omega, ← hbq]; omega
          exact rt_i hx hb hr hlocks (f1, fst9) (⟨by rw [hb0]; rfl, fun z => by rw [hb0] at z; exact absurd z (by decide)⟩) hP hD hS dX6_bestOf_64
      · have hsq : ((li * li : Nat) : Int) = (li : Int) * (li : Int) := Int.natCast_mul li li
        have hsl : li * li ≤ 20 * 20 := Nat.mul_le_mul (by omega) (by omega)
        have hCl := tx_aw_b (n := n) (dy := dy) (ch := ch) (kd := kd) (wo := wo) (ha := ha) (we := we) (bo := bo) (l := li) hwo hha hwe hch hdy
        refine lv_aload_n hx hb dX6_bestOf_12 rfl (lv_at hl 0 rfl) ?_
        refine lv_iload_n hx hb dX6_bestOf_13 rfl (lv_at hl 3 rfl) ?_
        refine cV_i (As := [.int (nI li)]) (rest := []) (cr := [(o, .inr (6, [.int (nI n), .ref o1, .ref o2, .ref o3, .ref o4, .int (nI dy), .ref o5, .ref o6, .int (nI ch), .int (nI lw), .int (nI tz), .ref o7, .int (nI at9), .int (nI va9), .int (nI ss), .ref o8, .ref o9, .int (bI im), .ref o10, .ref o11, .ref o12, .ref o13, .ref o14, .ref o15])), (o1, aI cs 4 (tx_nf kd)), (o2, aI cs 4 (tx_nf wo)), (o3, aI cs 4 (tx_nf ha)), (o4, aI cs 4 (tx_nf we)), (o6, aI cs 21 (tx_bf bo))]) (cw1 := [(o12, aI cs 1848 f1)]) ⟨hx, hb, hml, hown, hts⟩ (c_X6_allowed l D cs _ o o1 o2 o3 o4 o5 o6 o7 o8 o9 o10 o11 o12 o13 o14 o15 n dy ch lw tz at9 va9 ss im kd wo ha we bo f1 li (by first | assumption | omega) (by first | assumption | omega) (by first | assumption | omega) (by first | assumption | omega) (by first | assumption | omega) (by first | assumption | omega) (by first | assumption | omega) (by first | assumption | omega) (by first | assumption | omega) (by omega)) (cwV 1 hts gX6_bestOf_X6_allowed rfl rfl rfl (by decide +kernel) ⟨Nat.le_of_ble_eq_true rfl, Nat.le_of_ble_eq_true rfl⟩) hK hP hD hS hA (((hR hS).app hP).sub [0, 1, 2, 3, 4, 5, 6] rfl) (dt_of hN [0, 1, 2, 3, 4, 5, 6] (by decide) rfl) [0] rfl 0 rfl rfl rfl hl.1 rfl (Nat.le_of_ble_eq_true rfl) dX6_bestOf_14 ⟨Nat.le_of_ble_eq_true rfl, Nat.le_of_ble_eq_true rfl⟩ (fun _ => rfl) (fun _ => rfl) (fun r_6 u9 H locs hw_7 hP hD hS => ?_)
        obtain ⟨f3_8, rfl⟩ : ∃ z, z = u9 := ⟨_, rfl⟩
        have hP : va_P D vwCl [(o12, aI cs 1848 f3_8), (o13, aI cs 20 fst9)] H := hP
        have hD : va_D A [(o12, aI cs 1848 f3_8), (o13, aI cs 20 fst9)] := hD
        obtain ⟨hw_7_0, hw_7⟩ := hw_7
        subst r_6
        refine lv_istore (lv' := [(4, .int (iI (tx_aw n dy ch kd wo ha we bo li))), (0, .ref o), (1, .int (nI b)), (2, .int (iI lv)), (3, .int (nI li))]) hx hb dX6_bestOf_17 hl (by decide) rfl (fun ls hl => ?_)
        refine lv_iload hx hb dX6_bestOf_19 (lv_at hl 0 rfl) ?_
        refine lv_sipush (v := (-999)) hx hb dX6_bestOf_21 (by decide) ?_
        refine bi_eq (a := tx_aw n dy ch kd wo ha we bo li) (b := (-999)) (tgt := 53) hx hb rfl (by decide) (by omega) (by omega) (by omega) (by omega) dX6_bestOf_24 (by decide) (fun c24 => ?_) (fun c24 => ?_)
        · refine lv_iinc (v := nI (li + 1)) (lv' := [(3, .int (nI (li + 1))), (4, .int (iI (tx_aw n dy ch kd wo ha we bo li))), (0, .ref o), (1, .int (nI b)), (2, .int (iI lv))]) hx hb dX6_bestOf_53 hl (k := 4) rfl (inc_n li 1) (by decide) rfl (fun ls hl => ?_)
          refine lv_goto (tgt := 6) hx hb dX6_bestOf_56 (by decide) ?_
          exact ih6 (i + 1) (li + 1) b lv f3_8 (by first | assumption | omega) (by first | assumption | omega) (by rw [tx_bs_n1 (by rw [← hli]; exact c24)]; exact hbq) (by rw [tx_bs_n1 (by rw [← hli]; exact c24)]; exact hv) (by first | assumption | omega) (by first | assumption | omega) (by omega) _ _ hP hD hS ls (lv_sub hl [2, 3, 4, 0] rfl)
        · refine lv_iload_n hx hb dX6_bestOf_27 rfl (lv_at hl 2 rfl) ?_
          refine bz_le (a := b) (tgt := 44) hx hb rfl (by omega) dX6_bestOf_28 (by decide) (fun c28 => ?_) (fun c28 => ?_)
          · refine lv_iload_n hx hb dX6_bestOf_44 rfl (lv_at hl 4 rfl) ?_
            refine lv_istore_n (lv' := [(1, .int (nI li)), (4, .int (iI (tx_aw n dy ch kd wo ha we bo li))), (0, .ref o), (2, .int (iI lv)), (3, .int (nI li))]) hx hb dX6_bestOf_45 rfl hl (by decide) rfl (fun ls hl => ?_)
            refine lv_iload hx hb dX6_bestOf_46 (lv_at hl 1 rfl) ?_
            refine lv_iload_n hx hb dX6_bestOf_48 rfl (lv_at hl 4 rfl) ?_
            refine lv_iload_n hx hb dX6_bestOf_49 rfl (lv_at hl 4 rfl) ?_
            refine lv_imul hx hb dX6_bestOf_50 ?_
            refine tp_i (pk_mul li li) ?_
            refine lv_isub hx hb dX6_bestOf_51 ?_
            refine tp_i (sub_iI (a := tx_aw n dy ch kd wo ha we bo li) (b := ((li * li : Nat) : Int)) rfl (nI_iI _)) ?_
            refine lv_istore_n (lv' := [(2, .int (iI ((tx_aw n dy ch kd wo ha we bo li) - ((li * li : Nat) : Int)))), (1, .int (nI li)), (4, .int (iI (tx_aw n dy ch kd wo ha we bo li))), (0, .ref o), (3, .int (nI li))]) hx hb dX6_bestOf_52 rfl hl (by decide) rfl (fun ls hl => ?_)
            refine lv_iinc (v := nI (li + 1)) (lv' := [(3, .int (nI (li + 1))), (2, .int (iI ((tx_aw n dy ch kd wo ha we bo li) - ((li * li : Nat) : Int)))), (1, .int (nI li)), (4, .int (iI (tx_aw n dy ch kd wo ha we bo li))), (0, .ref o)]) hx hb dX6_bestOf_53 hl (k := 4) rfl (inc_n li 1) (by decide) rfl (fun ls hl => ?_)
            refine lv_goto (tgt := 6) hx hb dX6_bestOf_56 (by decide) ?_
            exact ih6 (i + 1) (li + 1) li ((tx_aw n dy ch kd wo ha we bo li) - ((li * li : Nat) : Int)) f3_8 (by first | assumption | omega) (by first | assumption | omega) (by rw [tx_bs, if_neg (fun z => by rcases z with z | ⟨z1, z2⟩; exact c24 (by rw [hli]; exact z); rw [← hbq] at z1; rw [← hv, ← hli, ← hsq] at z2; omega)]; exact hli) (by rw [tx_bs, if_neg (fun z => by rcases z with z | ⟨z1, z2⟩; exact c24 (by rw [hli]; exact z); rw [← hbq] at z1; rw [← hv, ← hli, ← hsq] at z2; omega), ← hli, ← hsq]) (by first | assumption | omega) (by first | assumption | omega) (by omega) _ _ hP hD hS ls (lv_sub hl [4, 2, 1, 0] rfl)
          · refine lv_iload hx hb dX6_bestOf_31 (lv_at hl 0 rfl) ?_
            refine lv_iload_n hx hb dX6_bestOf_33 rfl (lv_at hl 4 rfl) ?_
            refine lv_iload_n hx hb dX6_bestOf_34 rfl (lv_at hl 4 rfl) ?_
            refine lv_imul hx hb dX6_bestOf_35 ?_
            refine tp_i (pk_mul li li) ?_
            refine lv_isub hx hb dX6_bestOf_36 ?_
            refine tp_i (sub_iI (a := tx_aw n dy ch kd wo ha we bo li) (b := ((li * li : Nat) : Int)) rfl (nI_iI _)) ?_
            refine lv_iload_n hx hb dX6_bestOf_37 rfl (lv_at hl 3 rfl) ?_
            refine bi_gt (a := (tx_aw n dy ch kd wo ha we bo li) - ((li * li : Nat) : Int)) (b := lv) (tgt := 44) hx hb rfl rfl (by omega) (by omega) (by omega) (by omega) dX6_bestOf_38 (by decide) (fun c38 => ?_) (fun c38 => ?_)
            · refine lv_iload_n hx hb dX6_bestOf_44 rfl (lv_at hl 4 rfl) ?_
              refine lv_istore_n (lv' := [(1, .int (nI li)), (4, .int (iI (tx_aw n dy ch kd wo ha we bo li))), (0, .ref o), (2, .int (iI lv)), (3, .int (nI li))]) hx hb dX6_bestOf_45 rfl hl (by decide) rfl (fun ls hl => ?_)
              refine lv_iload hx hb dX6_bestOf_46 (lv_at hl 1 rfl) ?_
              refine lv_iload_n hx hb dX6_bestOf_48 rfl (lv_at hl 4 rfl) ?_
              refine lv_iload_n hx hb dX6_bestOf_49 rfl (lv_at hl 4 rfl) ?_
              refine lv_imul hx hb dX6_bestOf_50 ?_
              refine tp_i (pk_mul li li) ?_
              refine lv_isub hx hb dX6_bestOf_51 ?_
              refine tp_i (sub_iI (a := tx_aw n dy ch kd wo ha we bo li) (b := ((li * li : Nat) : Int)) rfl (nI_iI _)) ?_
              refine lv_istore_n (lv' := [(2, .int (iI ((tx_aw n dy ch kd wo ha we bo li) - ((li * li : Nat) : Int)))), (1, .int (nI li)), (4, .int (iI (tx_aw n dy ch kd wo ha we bo li))), (0, .ref o), (3, .int (nI li))]) hx hb dX6_bestOf_52 rfl hl (by decide) rfl (fun ls hl => ?_)
              refine lv_iinc (v := nI (li + 1)) (lv' := [(3, .int (nI (li + 1))), (2, .int (iI ((tx_aw n dy ch kd wo ha we bo li) - ((li * li : Nat) : Int)))), (1, .int (nI li)), (4, .int (iI (tx_aw n dy ch kd wo ha we bo li))), (0, .ref o)]) hx hb dX6_bestOf_53 hl (k := 4) rfl (inc_n li 1) (by decide) rfl (fun ls hl => ?_)
              refine lv_goto (tgt := 6) hx hb dX6_bestOf_56 (by decide) ?_
              exact ih6 (i + 1) (li + 1) li ((tx_aw n dy ch kd wo ha we bo li) - ((li * li : Nat) : Int)) f3_8 (by first | assumption | omega) (by first | assumption | omega) (by rw [tx_bs, if_neg (fun z => by rcases z with z | ⟨z1, z2⟩; exact c24 (by rw [hli]; exact z); rw [← hbq] at z1; rw [← hv, ← hli, ← hsq] at z2; omega)]; exact hli) (by rw [tx_bs, if_neg (fun z => by rcases z with z | ⟨z1, z2⟩; exact c24 (by rw [hli]; exact z); rw [← hbq] at z1; rw [← hv, ← hli, ← hsq] at z2; omega), ← hli, ← hsq]) (by first | assumption | omega) (by first | assumption | omega) (by omega) _ _ hP hD hS ls (lv_sub hl [4, 2, 1, 0] rfl)
            · refine lv_goto (tgt := 53) hx hb dX6_bestOf_41 (by decide) ?_
              refine lv_iinc (v := nI (li + 1)) (lv' := [(3, .int (nI (li + 1))), (4, .int (iI (tx_aw n dy ch kd wo ha we bo li))), (0, .ref o), (1, .int (nI b)), (2, .int (iI lv))]) hx hb dX6_bestOf_53 hl (k := 4) rfl (inc_n li 1) (by decide) rfl (fun ls hl => ?_)
              refine lv_goto (tgt := 6) hx hb dX6_bestOf_56 (by decide) ?_
              exact ih6 (i + 1) (li + 1) b lv f3_8 (by first | assumption | omega) (by first | assumption | omega) (by rw [tx_bs, if_pos (Or.inr ⟨by rw [← hbq]; omega, by rw [← hv, ← hli, ← hsq]; omega⟩)]; exact hbq) (by rw [tx_bs, if_pos (Or.inr ⟨by rw [← hbq]; omega, by rw [← hv, ← hli, ← hsq]; omega⟩)]; exact hv) (by first | assumption | omega) (by first | assumption | omega) (by omega) _ _ hP hD hS ls (lv_sub hl [2, 3, 4, 0] rfl)
  exact loop6 _ 0 1 0 0 mst (by first | assumption | omega) (by first | assumption | omega) rfl rfl (by first | assumption | omega) (by first | assumption | omega) (Nat.lt_succ_self _) _ _ hP hD hS ls (lv_sub hl [3, 2, 1, 0] rfl)
