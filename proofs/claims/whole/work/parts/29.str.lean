set_option maxHeartbeats 4000000 in
set_option maxRecDepth 100000 in
theorem c_J0_isLatin1_aae02 (l : Launch) (D : va_G) (cs : Nat → ClassId) (sz : Nat) (b0 : Nat) (sK : Nat) (sV : Nat) (hb0 : b0 ≤ sz) : mIX (S := Unit) l yJ0_isLatin1_aae02 wsJ0_isLatin1_aae02 ({ frames := 0, cells := 0, slots := 0, locals := 0 } : Room) D (tyc cs) sz [.ref sK] [] [] (fun (r : Int32) (u : Unit) => r = bI true) (fun _ => []) 0 0 (tx_X b0 sK sV) := by
  unfold mIX
  refine Met.ofW (cc := cJ0_isLatin1_aae02) (maxL := 1) (ret := (some .boolean)) (by decide) rfl ?_
  intro p e s m args below meth c s₁ B hml hv
  obtain ⟨rfl, hsz, hP, hK, hD0, hX⟩ := hv
  have hx := B.exec
  have hb := B.bytes
  have hr := B.returns
  have hts := atoms_spec (ws := wsJ0_isLatin1_aae02) B.pre
  have hown : s.vm.findClass RJ0 = some m.cls := findClass_of_methodNamed B.named
  have hlocks := B.notSynchronized
  subst hsz
  have hR := @en_R _ _ _ [] [] _ hP hD0
  have hN := adN_of hD0
  have hD := en_D (wr := []) (ww := []) (sz := s.heap.size) hD0
  have hP := en_P (wr := []) (ww := []) hP
  generalize hAe : va_A [] s.heap.size = A at hD hR ⊢
  have hA : ∀ q : Nat, s.heap.size ≤ q → A q := fun q h => by rw [← hAe]; exact Or.inr h
  have hS : va_S A s.heap s.heap [] := va_S.rf
  have hAX : ∀ q, A q → b0 ≤ q := by rw [← hAe]; exact tx_AX (fun _ h => absurd h List.not_mem_nil) hb0
  have hE := hX.1.narrow hAX
  have hZ := hX.2.1.narrow hAX
  have hN : adN [] := hN
  have hf_15 := hts (.fieldLink RJ0 15 "java/lang/String" "coder" "B") (by decide +kernel)
  have hf_38 := hts (.fieldLink RJ0 38 "java/lang/String" "COMPACT_STRINGS" "Z") (by decide +kernel)
  have hl := lv_entry ([.ref sK]) (n := 1) (Nat.le_of_ble_eq_true rfl)
  rw [lg_entry_eq]
  generalize (lg_sl ([.ref sK]) ++ List.replicate (1 - (lg_sl ([.ref sK])).length) Slot.unset).toArray = ls at hl ⊢
  have hl : lv_has ls 1 [(0, .ref sK)] := hl
  refine va_gets hx hb hZ hS hown hf_38 (fun _ h9 => h9) dJ0_isLatin1_aae02_0 ?_
  refine bz_eq (a := 1) (tgt := 17) hx hb rfl (by decide) dJ0_isLatin1_aae02_3 (by decide) (fun c3 => ?_) (fun c3 => ?_)
  · exact absurd c3 (by decide)
  · refine lv_aload_n hx hb dJ0_isLatin1_aae02_6 rfl (lv_at hl 0 rfl) ?_
    refine vk_getf hx hb (hE.1 0 (by decide)).2.1 hS hown hf_15 (fun _ h9 => h9) dJ0_isLatin1_aae02_7 ?_
    refine bz_ne (a := 0) (tgt := 17) hx hb rfl (by decide) dJ0_isLatin1_aae02_10 (by decide) (fun c10 => ?_) (fun c10 => ?_)
    · omega
    · refine lv_iconst (v := 1) hx hb dJ0_isLatin1_aae02_13 (by decide) ?_
      refine lv_goto (tgt := 18) hx hb dJ0_isLatin1_aae02_14 (by decide) ?_
      exact rt_z hx hb hr rfl hlocks () (rfl) hP hD hS dJ0_isLatin1_aae02_18
set_option maxHeartbeats 4000000 in
set_option maxRecDepth 100000 in
theorem c_J0_coder_7d493 (l : Launch) (D : va_G) (cs : Nat → ClassId) (sz : Nat) (b0 : Nat) (sK : Nat) (sV : Nat) (hb0 : b0 ≤ sz) : mIX (S := Unit) l yJ0_coder_7d493 wsJ0_coder_7d493 ({ frames := 0, cells := 0, slots := 0, locals := 0 } : Room) D (tyc cs) sz [.ref sK] [] [] (fun (r : Int32) (u : Unit) => r = nI 0) (fun _ => []) 0 0 (tx_X b0 sK sV) := by
  unfold mIX
  refine Met.ofW (cc := cJ0_coder_7d493) (maxL := 1) (ret := (some .byte)) (by decide) rfl ?_
  intro p e s m args below meth c s₁ B hml hv
  obtain ⟨rfl, hsz, hP, hK, hD0, hX⟩ := hv
  have hx := B.exec
  have hb := B.bytes
  have hr := B.returns
  have hts := atoms_spec (ws := wsJ0_coder_7d493) B.pre
  have hown : s.vm.findClass RJ0 = some m.cls := findClass_of_methodNamed B.named
  have hlocks := B.notSynchronized
  subst hsz
  have hR := @en_R _ _ _ [] [] _ hP hD0
  have hN := adN_of hD0
  have hD := en_D (wr := []) (ww := []) (sz := s.heap.size) hD0
  have hP := en_P (wr := []) (ww := []) hP
  generalize hAe : va_A [] s.heap.size = A at hD hR ⊢
  have hA : ∀ q : Nat, s.heap.size ≤ q → A q := fun q h => by rw [← hAe]; exact Or.inr h
  have hS : va_S A s.heap s.heap [] := va_S.rf
  have hAX : ∀ q, A q → b0 ≤ q := by rw [← hAe]; exact tx_AX (fun _ h => absurd h List.not_mem_nil) hb0
  have hE := hX.1.narrow hAX
  have hZ := hX.2.1.narrow hAX
  have hN : adN [] := hN
  have hf_15 := hts (.fieldLink RJ0 15 "java/lang/String" "coder" "B") (by decide +kernel)
  have hf_38 := hts (.fieldLink RJ0 38 "java/lang/String" "COMPACT_STRINGS" "Z") (by decide +kernel)
  have hl := lv_entry ([.ref sK]) (n := 1) (Nat.le_of_ble_eq_true rfl)
  rw [lg_entry_eq]
  generalize (lg_sl ([.ref sK]) ++ List.replicate (1 - (lg_sl ([.ref sK])).length) Slot.unset).toArray = ls at hl ⊢
  have hl : lv_has ls 1 [(0, .ref sK)] := hl
  refine va_gets hx hb hZ hS hown hf_38 (fun _ h9 => h9) dJ0_coder_7d493_0 ?_
  refine bz_eq (a := 1) (tgt := 13) hx hb rfl (by decide) dJ0_coder_7d493_3 (by decide) (fun c3 => ?_) (fun c3 => ?_)
  · omega
  · refine lv_aload_n hx hb dJ0_coder_7d493_6 rfl (lv_at hl 0 rfl) ?_
    refine vk_getf hx hb (hE.1 0 (by decide)).2.1 hS hown hf_15 (fun _ h9 => h9) dJ0_coder_7d493_7 ?_
    refine lv_goto (tgt := 14) hx hb dJ0_coder_7d493_10 (by decide) ?_
    exact rt_b hx hb hr rfl hlocks () (rfl) hP hD hS dJ0_coder_7d493_14
set_option maxHeartbeats 4000000 in
set_option maxRecDepth 100000 in
theorem c_J0_length_8abf5 (l : Launch) (D : va_G) (cs : Nat → ClassId) (sz : Nat) (b0 : Nat) (sK : Nat) (sV : Nat) (hb0 : b0 ≤ sz) : mIX (S := Unit) l yJ0_length_8abf5 wsJ0_length_8abf5 ({ frames := 1, cells := 0, slots := 0, locals := 20 } : Room) D (tyc cs) sz [.ref sK] [] [] (fun (r : Int32) (u : Unit) => r = nI 6) (fun _ => []) 0 0 (tx_X b0 sK sV) := by
  unfold mIX
  refine Met.ofW (cc := cJ0_length_8abf5) (maxL := 1) (ret := (some .int)) (by decide) rfl ?_
  intro p e s m args below meth c s₁ B hml hv
  obtain ⟨rfl, hsz, hP, hK, hD0, hX⟩ := hv
  have hx := B.exec
  have hb := B.bytes
  have hr := B.returns
  have hts := atoms_spec (ws := wsJ0_length_8abf5) B.pre
  have hown : s.vm.findClass RJ0 = some m.cls := findClass_of_methodNamed B.named
  have hlocks := B.notSynchronized
  subst hsz
  have hR := @en_R _ _ _ [] [] _ hP hD0
  have hN := adN_of hD0
  have hD := en_D (wr := []) (ww := []) (sz := s.heap.size) hD0
  have hP := en_P (wr := []) (ww := []) hP
  generalize hAe : va_A [] s.heap.size = A at hD hR ⊢
  have hA : ∀ q : Nat, s.heap.size ≤ q → A q := fun q h => by rw [← hAe]; exact Or.inr h
  have hS : va_S A s.heap s.heap [] := va_S.rf
  have hAX : ∀ q, A q → b0 ≤ q := by rw [← hAe]; exact tx_AX (fun _ h => absurd h List.not_mem_nil) hb0
  have hE := hX.1.narrow hAX
  have hZ := hX.2.1.narrow hAX
  have hN : adN [] := hN
  have hf_9 := hts (.fieldLink RJ0 9 "java/lang/String" "value" "[B") (by decide +kernel)
  have hl := lv_entry ([.ref sK]) (n := 1) (Nat.le_of_ble_eq_true rfl)
  rw [lg_entry_eq]
  generalize (lg_sl ([.ref sK]) ++ List.replicate (1 - (lg_sl ([.ref sK])).length) Slot.unset).toArray = ls at hl ⊢
  have hl : lv_has ls 1 [(0, .ref sK)] := hl
  refine lv_aload_n hx hb dJ0_length_8abf5_0 rfl (lv_at hl 0 rfl) ?_
  refine vk_getf hx hb (hE.1 0 (by decide)).2.2.1 hS hown hf_9 (fun _ h9 => h9) dJ0_length_8abf5_1 ?_
  refine va_tlen (v := nI 6) hx hb (hE.1 0 (by decide)).2.2.2 hS rfl dJ0_length_8abf5_4 ?_
  refine lv_aload_n hx hb dJ0_length_8abf5_5 rfl (lv_at hl 0 rfl) ?_
  refine cVX_i (As := []) (rest := [.int (nI 6)]) (cr := []) (cw1 := []) ⟨hx, hb, hml, hown, hts⟩ (c_J0_coder_7d493 l D cs _ b0 sK sV (Nat.le_trans hb0 hS.1)) (cwV 0 hts gJ0_length_8abf5_J0_coder_7d493 rfl rfl rfl (by decide +kernel) ⟨Nat.le_of_ble_eq_true rfl, Nat.le_of_ble_eq_true rfl⟩) hK hP hD hS hA (hP.sub [] rfl) (dt_of hN [] (by decide) rfl) [] rfl hX hAX (vk_recv hE (i := 0) (by decide) hS) rfl hl.1 rfl (Nat.le_of_ble_eq_true rfl) dJ0_length_8abf5_6 ⟨Nat.le_of_ble_eq_true rfl, Nat.le_of_ble_eq_true rfl⟩ (fun _ => rfl) (fun _ => rfl) (fun r_1 u9 H locs hw_2 hP hD hS => ?_)
  have hP : va_P D vwCl [] H := hP
  have hD : va_D A [] := hD
  subst r_1
  refine lv_ishr hx hb dJ0_length_8abf5_9 ?_
  refine tp_i (show (nI 6) >>> (nI 0) = nI 6 from by decide) ?_
  exact rt_i hx hb hr hlocks () (rfl) hP hD hS dJ0_length_8abf5_10
set_option maxHeartbeats 4000000 in
set_option maxRecDepth 100000 in
theorem c_J1_canEncode_9a6ad (l : Launch) (D : va_G) (cs : Nat → ClassId) (sz : Nat) (x : Nat) (hx9 : x < 256) : mI (S := Unit) l yJ1_canEncode_9a6ad wsJ1_canEncode_9a6ad ({ frames := 0, cells := 0, slots := 0, locals := 0 } : Room) D (tyc cs) sz [.int (nI x)] [] [] (fun (r : Int32) (u : Unit) => r = bI true) (fun _ => []) 0 0 := by
  unfold mI
  refine Met.ofW (cc := cJ1_canEncode_9a6ad) (maxL := 1) (ret := (some .boolean)) (by decide) rfl ?_
  intro p e s m args below meth c s₁ B hml hv
  obtain ⟨rfl, hsz, hP, hK, hD0⟩ := hv
  have hx := B.exec
  have hb := B.bytes
  have hr := B.returns
  have hts := atoms_spec (ws := wsJ1_canEncode_9a6ad) B.pre
  have hown : s.vm.findClass RJ1 = some m.cls := findClass_of_methodNamed B.named
  have hlocks := B.notSynchronized
  subst hsz
  have hR := @en_R _ _ _ [] [] _ hP hD0
  have hN := adN_of hD0
  have hD := en_D (wr := []) (ww := []) (sz := s.heap.size) hD0
  have hP := en_P (wr := []) (ww := []) hP
  generalize hAe : va_A [] s.heap.size = A at hD hR ⊢
  have hA : ∀ q : Nat, s.heap.size ≤ q → A q := fun q h => by rw [← hAe]; exact Or.inr h
  have hS : va_S A s.heap s.heap [] := va_S.rf
  have hN : adN [] := hN
  have hl := lv_entry ([.int (nI x)]) (n := 1) (Nat.le_of_ble_eq_true rfl)
  rw [lg_entry_eq]
  generalize (lg_sl ([.int (nI x)]) ++ List.replicate (1 - (lg_sl ([.int (nI x)])).length) Slot.unset).toArray = ls at hl ⊢
  have hl : lv_has ls 1 [(0, .int (nI x))] := hl
  refine lv_iload_n hx hb dJ1_canEncode_9a6ad_0 rfl (lv_at hl 0 rfl) ?_
  refine bz_lt (a := x) (tgt := 15) hx hb rfl (by omega) dJ1_canEncode_9a6ad_1 (by decide) ?_
  refine lv_iload_n hx hb dJ1_canEncode_9a6ad_4 rfl (lv_at hl 0 rfl) ?_
  refine lv_sipush (v := 255) hx hb dJ1_canEncode_9a6ad_5 (by decide) ?_
  refine bn_gt (a := x) (b := 255) (tgt := 15) hx hb rfl rfl (by omega) (by decide) dJ1_canEncode_9a6ad_8 (by decide) (fun c8 => ?_) (fun c8 => ?_)
  · omega
  · refine lv_iconst (v := 1) hx hb dJ1_canEncode_9a6ad_11 (by decide) ?_
    refine lv_goto (tgt := 16) hx hb dJ1_canEncode_9a6ad_12 (by decide) ?_
    exact rt_z hx hb hr rfl hlocks () (rfl) hP hD hS dJ1_canEncode_9a6ad_16
set_option maxHeartbeats 4000000 in
set_option maxRecDepth 100000 in
theorem c_J1_indexOfChar_4cfef (l : Launch) (D : va_G) (cs : Nat → ClassId) (sz : Nat) (b0 : Nat) (sK : Nat) (sV : Nat) (x : Nat) (hx9 : x < 256) (hb0 : b0 ≤ sz) : mIX (S := Unit) l yJ1_indexOfChar_4cfef wsJ1_indexOfChar_4cfef ({ frames := 0, cells := 0, slots := 0, locals := 0 } : Room) D (tyc cs) sz [.ref sV, .int (nI x), .int (nI 0), .int (nI 6)] [] [] (fun (r : Int32) (u : Unit) => r = iI (tx_ki x)) (fun _ => []) 0 0 (tx_X b0 sK sV) := by
  unfold mIX
  refine Met.ofW (cc := cJ1_indexOfChar_4cfef) (maxL := 6) (ret := (some .int)) (by decide) rfl ?_
  intro p e s m args below meth c s₁ B hml hv
  obtain ⟨rfl, hsz, hP, hK, hD0, hX⟩ := hv
  have hx := B.exec
  have hb := B.bytes
  have hr := B.returns
  have hts := atoms_spec (ws := wsJ1_indexOfChar_4cfef) B.pre
  have hown : s.vm.findClass RJ1 = some m.cls := findClass_of_methodNamed B.named
  have hlocks := B.notSynchronized
  subst hsz
  have hR := @en_R _ _ _ [] [] _ hP hD0
  have hN := adN_of hD0
  have hD := en_D (wr := []) (ww := []) (sz := s.heap.size) hD0
  have hP := en_P (wr := []) (ww := []) hP
  generalize hAe : va_A [] s.heap.size = A at hD hR ⊢
  have hA : ∀ q : Nat, s.heap.size ≤ q → A q := fun q h => by rw [← hAe]; exact Or.inr h
  have hS : va_S A s.heap s.heap [] := va_S.rf
  have hAX : ∀ q, A q → b0 ≤ q := by rw [← hAe]; exact tx_AX (fun _ h => absurd h List.not_mem_nil) hb0
  have hE := hX.1.narrow hAX
  have hZ := hX.2.1.narrow hAX
  have hN : adN [] := hN
  have hl := lv_entry ([.ref sV, .int (nI x), .int (nI 0), .int (nI 6)]) (n := 6) (Nat.le_of_ble_eq_true rfl)
  rw [lg_entry_eq]
  generalize (lg_sl ([.ref sV, .int (nI x), .int (nI 0), .int (nI 6)]) ++ List.replicate (6 - (lg_sl ([.ref sV, .int (nI x), .int (nI 0), .int (nI 6)])).length) Slot.unset).toArray = ls at hl ⊢
  have hl : lv_has ls 6 [(0, .ref sV), (1, .int (nI x)), (2, .int (nI 0)), (3, .int (nI 6))] := hl
  refine lv_iload_n hx hb dJ1_indexOfChar_4cfef_0 rfl (lv_at hl 1 rfl) ?_
  refine lv_i2b (v := (nI x).toInt8.toInt32) hx hb dJ1_indexOfChar_4cfef_1 rfl ?_
  refine lv_istore (lv' := [(4, .int ((nI x).toInt8.toInt32)), (0, .ref sV), (1, .int (nI x)), (2, .int (nI 0)), (3, .int (nI 6))]) hx hb dJ1_indexOfChar_4cfef_2 hl (by decide) rfl (fun ls hl => ?_)
  refine lv_iload_n hx hb dJ1_indexOfChar_4cfef_4 rfl (lv_at hl 3 rfl) ?_
  refine lv_istore (lv' := [(5, .int (nI 0)), (4, .int ((nI x).toInt8.toInt32)), (0, .ref sV), (1, .int (nI x)), (2, .int (nI 0)), (3, .int (nI 6))]) hx hb dJ1_indexOfChar_4cfef_5 hl (by decide) rfl (fun ls hl => ?_)
  have loop7 : ∀ (n9 : Nat) (i : Nat) (hi : i ≤ 6) (hq : ∀ k, k < i → x ≠ tx_by k), 6 - i < n9 → ∀ (H : Heap) (locs : List Loc), va_P D vwCl [] H → va_D A [] → va_S A s.heap H locs → ∀ (ls : Array Slot), lv_has ls 6 [(0, .ref sV), (3, .int (nI 6)), (4, .int ((nI x).toInt8.toInt32)), (5, .int (nI i))] → W p l e (headSpec wsJ1_indexOfChar_4cfef ({ frames := 0, cells := 0, slots := 0, locals := 0 } : Room)).room s m ([.ref sV, .int (nI x), .int (nI 0), .int (nI 6)] : List Value).toArray below meth c H locs 0 0 (MQ below (va_Qi (fun (r : Int32) (u : Unit) => r = iI (tx_ki x)) (QB D (fun _ => []) A) A) ([.ref sV, .int (nI x), .int (nI 0), .int (nI 6)] : List Value).toArray s 0 0 A) (F0 m 7 ls []) := by
    intro n9
    induction n9 with
    | zero => intros; omega
    | succ n9 ih7 =>
      intro i hi hq hmu H locs hP hD hS ls hl
      refine lv_iload hx hb dJ1_indexOfChar_4cfef_7 (lv_at hl 3 rfl) ?_
      refine lv_iload_n hx hb dJ1_indexOfChar_4cfef_9 rfl (lv_at hl 1 rfl) ?_
      refine bn_ge (a := i) (b := 6) (tgt := 31) hx hb rfl rfl (by omega) (by decide) dJ1_indexOfChar_4cfef_10 (by decide) (fun c10 => ?_) (fun c10 => ?_)
      · refine lv_iconst (v := (-1)) hx hb dJ1_indexOfChar_4cfef_31 (by decide) ?_
        exact rt_i hx hb hr hlocks () (by rw [tx_ki_n (fun k hk => hq k (by omega))]; decide) hP hD hS dJ1_indexOfChar_4cfef_32
      · refine lv_aload_n hx hb dJ1_indexOfChar_4cfef_13 rfl (lv_at hl 0 rfl) ?_
        refine lv_iload hx hb dJ1_indexOfChar_4cfef_14 (lv_at hl 3 rfl) ?_
        refine va_tb (v := .int (nI (tx_by i))) hx hb (hE.1 0 (by decide)).2.2.2 hS (vp_in_nI (show i < 6 by omega) (by decide)) (by rw [nI_clamp (by omega)]; exact tx_byv i (by omega)) dJ1_indexOfChar_4cfef_16 ?_
        refine lv_iload hx hb dJ1_indexOfChar_4cfef_17 (lv_at hl 2 rfl) ?_
        refine lv_icmp_ne (tgt := 25) hx hb dJ1_indexOfChar_4cfef_19 (by decide) (fun c19 => ?_) (fun c19 => ?_)
        · refine lv_iinc (v := nI (i + 1)) (lv' := [(5, .int (nI (i + 1))), (0, .ref sV), (3, .int (nI 6)), (4, .int ((nI x).toInt8.toInt32))]) hx hb dJ1_indexOfChar_4cfef_25 hl (k := 3) rfl (inc_n i 1) (by decide) rfl (fun ls hl => ?_)
          refine lv_goto (tgt := 7) hx hb dJ1_indexOfChar_4cfef_28 (by decide) ?_
          exact ih7 (i + 1) (by first | assumption | omega) (fun k hk => by by_cases e : k = i; (rw [e]; exact fun q => c19 ((tx_bye hx9 (by omega)).mpr q)); (exact hq k (by omega))) (by omega) _ _ hP hD hS ls (lv_sub hl [1, 2, 3, 0] rfl)
        · refine lv_iload hx hb dJ1_indexOfChar_4cfef_22 (lv_at hl 3 rfl) ?_
          exact rt_i hx hb hr hlocks () (by rw [(tx_bye hx9 (by omega)).mp c19, tx_ki_i i (by omega)]; exact nI_iI _) hP hD hS dJ1_indexOfChar_4cfef_24
  exact loop7 _ 0 (by first | assumption | omega) (fun k hk => absurd hk (Nat.not_lt_zero k)) (Nat.lt_succ_self _) _ _ hP hD hS ls (lv_sub hl [2, 5, 1, 0] rfl)
set_option maxHeartbeats 4000000 in
set_option maxRecDepth 100000 in
theorem c_J1_indexOf_4cfef (l : Launch) (D : va_G) (cs : Nat → ClassId) (sz : Nat) (b0 : Nat) (sK : Nat) (sV : Nat) (x : Nat) (hx9 : x < 256) (hb0 : b0 ≤ sz) : mIX (S := Unit) l yJ1_indexOf_4cfef wsJ1_indexOf_4cfef ({ frames := 1, cells := 0, slots := 0, locals := 25 } : Room) D (tyc cs) sz [.ref sV, .int (nI x), .int (nI 0), .int (nI 6)] [] [] (fun (r : Int32) (u : Unit) => r = iI (tx_ki x)) (fun _ => []) 0 0 (tx_X b0 sK sV) := by
  unfold mIX
  refine Met.ofW (cc := cJ1_indexOf_4cfef) (maxL := 4) (ret := (some .int)) (by decide) rfl ?_
  intro p e s m args below meth c s₁ B hml hv
  obtain ⟨rfl, hsz, hP, hK, hD0, hX⟩ := hv
  have hx := B.exec
  have hb := B.bytes
  have hr := B.returns
  have hts := atoms_spec (ws := wsJ1_indexOf_4cfef) B.pre
  have hown : s.vm.findClass RJ1 = some m.cls := findClass_of_methodNamed B.named
  have hlocks := B.notSynchronized
  subst hsz
  have hR := @en_R _ _ _ [] [] _ hP hD0
  have hN := adN_of hD0
  have hD := en_D (wr := []) (ww := []) (sz := s.heap.size) hD0
  have hP := en_P (wr := []) (ww := []) hP
  generalize hAe : va_A [] s.heap.size = A at hD hR ⊢
  have hA : ∀ q : Nat, s.heap.size ≤ q → A q := fun q h => by rw [← hAe]; exact Or.inr h
  have hS : va_S A s.heap s.heap [] := va_S.rf
  have hAX : ∀ q, A q → b0 ≤ q := by rw [← hAe]; exact tx_AX (fun _ h => absurd h List.not_mem_nil) hb0
  have hE := hX.1.narrow hAX
  have hZ := hX.2.1.narrow hAX
  have hN : adN [] := hN
  have hl := lv_entry ([.ref sV, .int (nI x), .int (nI 0), .int (nI 6)]) (n := 4) (Nat.le_of_ble_eq_true rfl)
  rw [lg_entry_eq]
  generalize (lg_sl ([.ref sV, .int (nI x), .int (nI 0), .int (nI 6)]) ++ List.replicate (4 - (lg_sl ([.ref sV, .int (nI x), .int (nI 0), .int (nI 6)])).length) Slot.unset).toArray = ls at hl ⊢
  have hl : lv_has ls 4 [(0, .ref sV), (1, .int (nI x)), (2, .int (nI 0)), (3, .int (nI 6))] := hl
  refine lv_iload_n hx hb dJ1_indexOf_4cfef_0 rfl (lv_at hl 1 rfl) ?_
  refine cS_i (As := [.int (nI x)]) (rest := []) (cr := []) (cw1 := []) ⟨hx, hb, hml, hown, hts⟩ (c_J1_canEncode_9a6ad l D cs _ x (by first | assumption | omega)) (va_cwS 1 hts gJ1_indexOf_4cfef_J1_canEncode_9a6ad rfl rfl rfl (by decide +kernel) ⟨Nat.le_of_ble_eq_true rfl, Nat.le_of_ble_eq_true rfl⟩) hK hP hD hS hA (hP.sub [] rfl) (dt_of hN [] (by decide) rfl) [] rfl rfl hl.1 rfl (Nat.le_of_ble_eq_true rfl) dJ1_indexOf_4cfef_1 ⟨Nat.le_of_ble_eq_true rfl, Nat.le_of_ble_eq_true rfl⟩ (fun _ => rfl) (fun _ => rfl) (fun r_1 u9 H locs hw_2 hP hD hS => ?_)
  have hP : va_P D vwCl [] H := hP
  have hD : va_D A [] := hD
  subst r_1
  refine bb_ne (b := true) (tgt := 9) hx hb rfl dJ1_indexOf_4cfef_4 (by decide) (fun c4 => ?_) (fun c4 => ?_)
  · refine lv_iload_n hx hb dJ1_indexOf_4cfef_9 rfl (lv_at hl 2 rfl) ?_
    refine lv_iconst (v := 0) hx hb dJ1_indexOf_4cfef_10 (by decide) ?_
    refine va_mmax hx hb (hml.trans hl.1.symm) hown (hts (.methodLink RJ1 92 Lib.Math.max.name) (by decide +kernel)) (hts (.static Lib.Math.max.name) (by decide +kernel)) (hts (.initialized "java/lang/Math") (by decide +kernel)) (hts (.code Lib.Math.max.name Lib.Math.max.code 2 (some .int)) (by decide +kernel)) (Nat.le_of_ble_eq_true rfl) (Nat.le_of_ble_eq_true rfl) (Nat.le_of_ble_eq_true rfl) (Nat.le_of_ble_eq_true rfl) dJ1_indexOf_4cfef_11 ?_
    refine tp_i (max_n (a := 0) (b := 0) rfl rfl (by decide) (by decide)) ?_
    refine tp_i (show nI (max 0 0) = nI 0 from by decide) ?_
    refine lv_istore_n (lv' := [(2, .int (nI 0)), (0, .ref sV), (1, .int (nI x)), (3, .int (nI 6))]) hx hb dJ1_indexOf_4cfef_14 rfl hl (by decide) rfl (fun ls hl => ?_)
    refine lv_iload_n hx hb dJ1_indexOf_4cfef_15 rfl (lv_at hl 3 rfl) ?_
    refine lv_aload_n hx hb dJ1_indexOf_4cfef_16 rfl (lv_at hl 1 rfl) ?_
    refine va_tlen (v := nI 6) hx hb (hE.1 0 (by decide)).2.2.2 hS rfl dJ1_indexOf_4cfef_17 ?_
    refine va_mmin hx hb (hml.trans hl.1.symm) hown (hts (.methodLink RJ1 38 Lib.Math.min.name) (by decide +kernel)) (hts (.static Lib.Math.min.name) (by decide +kernel)) (hts (.initialized "java/lang/Math") (by decide +kernel)) (hts (.code Lib.Math.min.name Lib.Math.min.code 2 (some .int)) (by decide +kernel)) (Nat.le_of_ble_eq_true rfl) (Nat.le_of_ble_eq_true rfl) (Nat.le_of_ble_eq_true rfl) (Nat.le_of_ble_eq_true rfl) dJ1_indexOf_4cfef_18 ?_
    refine tp_i (min_n (a := 6) (b := 6) rfl rfl (by decide) (by decide)) ?_
    refine tp_i (show nI (min 6 6) = nI 6 from by decide) ?_
    refine lv_istore_n (lv' := [(3, .int (nI 6)), (2, .int (nI 0)), (0, .ref sV), (1, .int (nI x))]) hx hb dJ1_indexOf_4cfef_21 rfl hl (by decide) rfl (fun ls hl => ?_)
    refine lv_iload_n hx hb dJ1_indexOf_4cfef_22 rfl (lv_at hl 1 rfl) ?_
    refine lv_iload_n hx hb dJ1_indexOf_4cfef_23 rfl (lv_at hl 0 rfl) ?_
    refine bn_lt (a := 0) (b := 6) (tgt := 29) hx hb rfl rfl (by decide) (by decide) dJ1_indexOf_4cfef_24 (by decide) (fun c24 => ?_) (fun c24 => ?_)
    · refine lv_aload_n hx hb dJ1_indexOf_4cfef_29 rfl (lv_at hl 2 rfl) ?_
      refine lv_iload_n hx hb dJ1_indexOf_4cfef_30 rfl (lv_at hl 3 rfl) ?_
      refine lv_iload_n hx hb dJ1_indexOf_4cfef_31 rfl (lv_at hl 1 rfl) ?_
      refine lv_iload_n hx hb dJ1_indexOf_4cfef_32 rfl (lv_at hl 0 rfl) ?_
      refine cSX_i (As := [.ref sV, .int (nI x), .int (nI 0), .int (nI 6)]) (rest := []) (cr := []) (cw1 := []) ⟨hx, hb, hml, hown, hts⟩ (c_J1_indexOfChar_4cfef l D cs _ b0 sK sV x (by first | assumption | omega) (Nat.le_trans hb0 hS.1)) (va_cwS 4 hts gJ1_indexOf_4cfef_J1_indexOfChar_4cfef rfl rfl rfl (by decide +kernel) ⟨Nat.le_of_ble_eq_true rfl, Nat.le_of_ble_eq_true rfl⟩) hK hP hD hS hA (hP.sub [] rfl) (dt_of hN [] (by decide) rfl) [] rfl hX hAX rfl hl.1 rfl (Nat.le_of_ble_eq_true rfl) dJ1_indexOf_4cfef_33 ⟨Nat.le_of_ble_eq_true rfl, Nat.le_of_ble_eq_true rfl⟩ (fun _ => rfl) (fun _ => rfl) (fun r_3 u9 H locs hw_4 hP hD hS => ?_)
      have hP : va_P D vwCl [] H := hP
      have hD : va_D A [] := hD
      subst r_3
      exact rt_i hx hb hr hlocks () (rfl) hP hD hS dJ1_indexOf_4cfef_36
    · omega
  · exact absurd c4 (by decide)
set_option maxHeartbeats 4000000 in
set_option maxRecDepth 100000 in
theorem c_J0_indexOf_7cf53 (l : Launch) (D : va_G) (cs : Nat → ClassId) (sz : Nat) (b0 : Nat) (sK : Nat) (sV : Nat) (x : Nat) (hx9 : x < 256) (hb0 : b0 ≤ sz) : mIX (S := Unit) l yJ0_indexOf_7cf53 wsJ0_indexOf_7cf53 ({ frames := 2, cells := 0, slots := 0, locals := 48 } : Room) D (tyc cs) sz [.ref sK, .int (nI x), .int (nI 0)] [] [] (fun (r : Int32) (u : Unit) => r = iI (tx_ki x)) (fun _ => []) 0 0 (tx_X b0 sK sV) := by
  unfold mIX
  refine Met.ofW (cc := cJ0_indexOf_7cf53) (maxL := 3) (ret := (some .int)) (by decide) rfl ?_
  intro p e s m args below meth c s₁ B hml hv
  obtain ⟨rfl, hsz, hP, hK, hD0, hX⟩ := hv
  have hx := B.exec
  have hb := B.bytes
  have hr := B.returns
  have hts := atoms_spec (ws := wsJ0_indexOf_7cf53) B.pre
  have hown : s.vm.findClass RJ0 = some m.cls := findClass_of_methodNamed B.named
  have hlocks := B.notSynchronized
  subst hsz
  have hR := @en_R _ _ _ [] [] _ hP hD0
  have hN := adN_of hD0
  have hD := en_D (wr := []) (ww := []) (sz := s.heap.size) hD0
  have hP := en_P (wr := []) (ww := []) hP
  generalize hAe : va_A [] s.heap.size = A at hD hR ⊢
  have hA : ∀ q : Nat, s.heap.size ≤ q → A q := fun q h => by rw [← hAe]; exact Or.inr h
  have hS : va_S A s.heap s.heap [] := va_S.rf
  have hAX : ∀ q, A q → b0 ≤ q := by rw [← hAe]; exact tx_AX (fun _ h => absurd h List.not_mem_nil) hb0
  have hE := hX.1.narrow hAX
  have hZ := hX.2.1.narrow hAX
  have hN : adN [] := hN
  have hf_9 := hts (.fieldLink RJ0 9 "java/lang/String" "value" "[B") (by decide +kernel)
  have hl := lv_entry ([.ref sK, .int (nI x), .int (nI 0)]) (n := 3) (Nat.le_of_ble_eq_true rfl)
  rw [lg_entry_eq]
  generalize (lg_sl ([.ref sK, .int (nI x), .int (nI 0)]) ++ List.replicate (3 - (lg_sl ([.ref sK, .int (nI x), .int (nI 0)])).length) Slot.unset).toArray = ls at hl ⊢
  have hl : lv_has ls 3 [(0, .ref sK), (1, .int (nI x)), (2, .int (nI 0))] := hl
  refine lv_aload_n hx hb dJ0_indexOf_7cf53_0 rfl (lv_at hl 0 rfl) ?_
  refine cVX_i (As := []) (rest := []) (cr := []) (cw1 := []) ⟨hx, hb, hml, hown, hts⟩ (c_J0_isLatin1_aae02 l D cs _ b0 sK sV (Nat.le_trans hb0 hS.1)) (cwV 0 hts gJ0_indexOf_7cf53_J0_isLatin1_aae02 rfl rfl rfl (by decide +kernel) ⟨Nat.le_of_ble_eq_true rfl, Nat.le_of_ble_eq_true rfl⟩) hK hP hD hS hA (hP.sub [] rfl) (dt_of hN [] (by decide) rfl) [] rfl hX hAX (vk_recv hE (i := 0) (by decide) hS) rfl hl.1 rfl (Nat.le_of_ble_eq_true rfl) dJ0_indexOf_7cf53_1 ⟨Nat.le_of_ble_eq_true rfl, Nat.le_of_ble_eq_true rfl⟩ (fun _ => rfl) (fun _ => rfl) (fun r_1 u9 H locs hw_2 hP hD hS => ?_)
  have hP : va_P D vwCl [] H := hP
  have hD : va_D A [] := hD
  subst r_1
  refine bb_eq (b := true) (tgt := 23) hx hb rfl dJ0_indexOf_7cf53_4 (by decide) (fun c4 => ?_) (fun c4 => ?_)
  · exact absurd c4 (by decide)
  · refine lv_aload_n hx hb dJ0_indexOf_7cf53_7 rfl (lv_at hl 0 rfl) ?_
    refine vk_getf hx hb (hE.1 0 (by decide)).2.2.1 hS hown hf_9 (fun _ h9 => h9) dJ0_indexOf_7cf53_8 ?_
    refine lv_iload_n hx hb dJ0_indexOf_7cf53_11 rfl (lv_at hl 1 rfl) ?_
    refine lv_iload_n hx hb dJ0_indexOf_7cf53_12 rfl (lv_at hl 2 rfl) ?_
    refine lv_aload_n hx hb dJ0_indexOf_7cf53_13 rfl (lv_at hl 0 rfl) ?_
    refine cVX_i (As := []) (rest := [.int (nI 0), .int (nI x), .ref sV]) (cr := []) (cw1 := []) ⟨hx, hb, hml, hown, hts⟩ (c_J0_length_8abf5 l D cs _ b0 sK sV (Nat.le_trans hb0 hS.1)) (cwV 0 hts gJ0_indexOf_7cf53_J0_length_8abf5 rfl rfl rfl (by decide +kernel) ⟨Nat.le_of_ble_eq_true rfl, Nat.le_of_ble_eq_true rfl⟩) hK hP hD hS hA (hP.sub [] rfl) (dt_of hN [] (by decide) rfl) [] rfl hX hAX (vk_recv hE (i := 0) (by decide) hS) rfl hl.1 rfl (Nat.le_of_ble_eq_true rfl) dJ0_indexOf_7cf53_14 ⟨Nat.le_of_ble_eq_true rfl, Nat.le_of_ble_eq_true rfl⟩ (fun _ => rfl) (fun _ => rfl) (fun r_3 u9 H locs hw_4 hP hD hS => ?_)
    have hP : va_P D vwCl [] H := hP
    have hD : va_D A [] := hD
    subst r_3
    refine cSX_i (As := [.ref sV, .int (nI x), .int (nI 0), .int (nI 6)]) (rest := []) (cr := []) (cw1 := []) ⟨hx, hb, hml, hown, hts⟩ (c_J1_indexOf_4cfef l D cs _ b0 sK sV x (by first | assumption | omega) (Nat.le_trans hb0 hS.1)) (va_cwS 4 hts gJ0_indexOf_7cf53_J1_indexOf_4cfef rfl rfl rfl (by decide +kernel) ⟨Nat.le_of_ble_eq_true rfl, Nat.le_of_ble_eq_true rfl⟩) hK hP hD hS hA (hP.sub [] rfl) (dt_of hN [] (by decide) rfl) [] rfl hX hAX rfl hl.1 rfl (Nat.le_of_ble_eq_true rfl) dJ0_indexOf_7cf53_17 ⟨Nat.le_of_ble_eq_true rfl, Nat.le_of_ble_eq_true rfl⟩ (fun _ => rfl) (fun _ => rfl) (fun r_5 u9 H locs hw_6 hP hD hS => ?_)
    have hP : va_P D vwCl [] H := hP
    have hD : va_D A [] := hD
    subst r_5
    refine lv_goto (tgt := 36) hx hb dJ0_indexOf_7cf53_20 (by decide) ?_
    exact rt_i hx hb hr hlocks () (rfl) hP hD hS dJ0_indexOf_7cf53_36
set_option maxHeartbeats 4000000 in
set_option maxRecDepth 100000 in
theorem c_J0_indexOf_0f7a4 (l : Launch) (D : va_G) (cs : Nat → ClassId) (sz : Nat) (b0 : Nat) (sK : Nat) (sV : Nat) (x : Nat) (hx9 : x < 256) (hb0 : b0 ≤ sz) : mIX (S := Unit) l yJ0_indexOf_0f7a4 wsJ0_indexOf_0f7a4 ({ frames := 3, cells := 0, slots := 0, locals := 70 } : Room) D (tyc cs) sz [.ref sK, .int (nI x)] [] [] (fun (r : Int32) (u : Unit) => r = iI (tx_ki x)) (fun _ => []) 0 0 (tx_X b0 sK sV) := by
  unfold mIX
  refine Met.ofW (cc := cJ0_indexOf_0f7a4) (maxL := 2) (ret := (some .int)) (by decide) rfl ?_
  intro p e s m args below meth c s₁ B hml hv
  obtain ⟨rfl, hsz, hP, hK, hD0, hX⟩ := hv
  have hx := B.exec
  have hb := B.bytes
  have hr := B.returns
  have hts := atoms_spec (ws := wsJ0_indexOf_0f7a4) B.pre
  have hown : s.vm.findClass RJ0 = some m.cls := findClass_of_methodNamed B.named
  have hlocks := B.notSynchronized
  subst hsz
  have hR := @en_R _ _ _ [] [] _ hP hD0
  have hN := adN_of hD0
  have hD := en_D (wr := []) (ww := []) (sz := s.heap.size) hD0
  have hP := en_P (wr := []) (ww := []) hP
  generalize hAe : va_A [] s.heap.size = A at hD hR ⊢
  have hA : ∀ q : Nat, s.heap.size ≤ q → A q := fun q h => by rw [← hAe]; exact Or.inr h
  have hS : va_S A s.heap s.heap [] := va_S.rf
  have hAX : ∀ q, A q → b0 ≤ q := by rw [← hAe]; exact tx_AX (fun _ h => absurd h List.not_mem_nil) hb0
  have hE := hX.1.narrow hAX
  have hZ := hX.2.1.narrow hAX
  have hN : adN [] := hN
  have hl := lv_entry ([.ref sK, .int (nI x)]) (n := 2) (Nat.le_of_ble_eq_true rfl)
  rw [lg_entry_eq]
  generalize (lg_sl ([.ref sK, .int (nI x)]) ++ List.replicate (2 - (lg_sl ([.ref sK, .int (nI x)])).length) Slot.unset).toArray = ls at hl ⊢
  have hl : lv_has ls 2 [(0, .ref sK), (1, .int (nI x))] := hl
  refine lv_aload_n hx hb dJ0_indexOf_0f7a4_0 rfl (lv_at hl 0 rfl) ?_
  refine lv_iload_n hx hb dJ0_indexOf_0f7a4_1 rfl (lv_at hl 1 rfl) ?_
  refine lv_iconst (v := 0) hx hb dJ0_indexOf_0f7a4_2 (by decide) ?_
  refine cVX_i (As := [.int (nI x), .int 0]) (rest := []) (cr := []) (cw1 := []) ⟨hx, hb, hml, hown, hts⟩ (c_J0_indexOf_7cf53 l D cs _ b0 sK sV x (by first | assumption | omega) (Nat.le_trans hb0 hS.1)) (cwV 2 hts gJ0_indexOf_0f7a4_J0_indexOf_7cf53 rfl rfl rfl (by decide +kernel) ⟨Nat.le_of_ble_eq_true rfl, Nat.le_of_ble_eq_true rfl⟩) hK hP hD hS hA (hP.sub [] rfl) (dt_of hN [] (by decide) rfl) [] rfl hX hAX (vk_recv hE (i := 0) (by decide) hS) rfl hl.1 rfl (Nat.le_of_ble_eq_true rfl) dJ0_indexOf_0f7a4_3 ⟨Nat.le_of_ble_eq_true rfl, Nat.le_of_ble_eq_true rfl⟩ (fun _ => rfl) (fun _ => rfl) (fun r_1 u9 H locs hw_2 hP hD hS => ?_)
  have hP : va_P D vwCl [] H := hP
  have hD : va_D A [] := hD
  subst r_1
  exact rt_i hx hb hr hlocks () (rfl) hP hD hS dJ0_indexOf_0f7a4_6
