/-! OWN ROWS: constructors -/
def tx_Y (U : State) : Prop := va_AOA .int U ∧ va_AOA .long U ∧ va_Nw (.methodLinkNest RX5 25 yX3_init "TaxedByLongest") U ∧ va_Nw (.methodLinkNest RX5 32 yX1_init "TaxedByLongest") U ∧ va_Nw (.methodLinkNest RX5 39 yX2_init "TaxedByLongest") U ∧ va_Nw (.methodLinkNest RX5 46 yX0_init "TaxedByLongest") U
theorem tx_Y_kept {s U : State} (h : tx_Y s) (hW : s.WarmedH U.vm) : tx_Y U :=
  ⟨over_moved hW.alike h.1, over_moved hW.alike h.2.1, va_Nw.warmM hW h.2.2.1, va_Nw.warmM hW h.2.2.2.1, va_Nw.warmM hW h.2.2.2.2.1, va_Nw.warmM hW h.2.2.2.2.2⟩
theorem tx_Y_blind (a : Array Value) (U : State) (g : JFrame) (mk : MethodId) (h : tx_Y U) : tx_Y (U.calling g mk a) :=
  ⟨over_moved (Vm.Alike.refl U.vm) h.1, over_moved (Vm.Alike.refl U.vm) h.2.1, va_Nw.same (u := U) (U := U.calling g mk a) rfl rfl h.2.2.1, va_Nw.same (u := U) (U := U.calling g mk a) rfl rfl h.2.2.2.1, va_Nw.same (u := U) (U := U.calling g mk a) rfl rfl h.2.2.2.2.1, va_Nw.same (u := U) (U := U.calling g mk a) rfl rfl h.2.2.2.2.2⟩
theorem PCY_blind {D : va_G} {tys : List (ClassId × FieldType)} {sz : Nat} {av : List Value} {wc : va_W} : FrameBlind (PCX D tys sz av wc tx_Y) := fun a U g mk q => by
  obtain ⟨q0, q1, qP, qK, qD, qX⟩ := q
  exact ⟨q0, q1, qP, va_K.moved (u := U) (U := U.calling g mk a) (Vm.Alike.refl U.vm) qK, qD, tx_Y_blind a U g mk qX⟩
section TCY
variable {p : Program} {l : Launch} {e : Env} {R : Room} {s : State} {m : MethodId} {args : Array Value} {below : List Frame} {meth : Method} {c : Code} {H : Heap} {locs : List Loc} {cells slots : Nat} {Q : State → Prop}
variable {cc : ByteArray} {pc : Nat} {ls : Array Slot} {rest : List Value} {D : va_G} {A : Nat → Prop} {tys : List (ClassId × FieldType)} {ws : va_W} {H0 : Heap}
theorem na_n (hexec : p.tables.exec = Jvm.exec) (hb : c.code = cc) {atype : ArrayType} (harr : (Cond.arrayClass (newarray.typeOf atype)).before args s = true) {ty : FieldType} (hty : newarray.typeOf atype = ty) (t0 : Nat) {cA0 : ClassId} (ht : tys[t0]? = some (cA0, ty)) (hK : va_K D vwCl tys s) (hP : va_P D vwCl ws H) (hD : va_D A ws) (hS : va_S A H0 H locs) (hA : ∀ q, H0.size ≤ q → A q)
    {n : Int32} {N' : Nat} {a0 : vp_A} (ha : ∀ cA : ClassId, vp_cell cA a0 = arrV cA N' (fun _ => defaultValue ty)) (hn : ¬ n < 0) (hN : n.toNatClampNeg = N') (hbytes : N' * componentBytes ty ≤ 536870912) (hcells : cells + 1 ≤ R.cells) (hslots : slots + N' ≤ R.slots) (hdg : decode cc pc = .ok (.newarray atype, 2))
    (kk : ∀ (q : Nat) (H1 : Heap), va_P D vwCl (ws ++ [(q, .inl (cA0, a0))]) H1 → va_D A (ws ++ [(q, .inl (cA0, a0))]) → va_S A H0 H1 locs →
      W p l e R s m args below meth c H1 locs (cells + 1) (slots + N') Q (F0 m (pc + 2) ls (.ref q :: rest))) : W p l e R s m args below meth c H locs cells slots Q (F0 m pc ls (.int n :: rest)) := by
  refine va_newa hexec hb harr hty hK hP hD hS hA ha hn hN hbytes hcells hslots hdg (fun q cA H1 hK2 hP2 hD2 hS2 => ?_)
  have e : cA = cA0 := by
    have h1 := (hK.2 t0 _ ht).2
    have h2 := (hK2.2 tys.length (cA, ty) (by rw [List.getElem?_append_right (Nat.le_refl _), Nat.sub_self]; rfl)).2
    subst hty
    cases atype <;> exact Option.some.inj (h2.symm.trans h1)
  subst e
  exact kk q H1 hP2 hD2 hS2
theorem mn_n (hexec : p.tables.exec = Jvm.exec) (hb : c.code = cc) {own : String} {index : Nat} {ty : FieldType} {cA0 cy : ClassId} (hown : s.vm.findClass own = some m.cls) (hclink : (Cond.classLink own index ("[" ++ (FieldType.array ty).toString)).before args s = true) (hover : va_AOA ty s) (harr : (Cond.arrayClass ty).before args s = true) (t0 t1 : Nat) (ht : tys[t0]? = some (cA0, .array ty)) (ht1 : s.vm.findClass (FieldType.array ty).toString = some cy)
    (hK : va_K D vwCl tys s) (hP : va_P D vwCl ws H) (hD : va_D A ws) (hS : va_S A H0 H locs) (hA : ∀ q, H0.size ≤ q → A q) {z : vp_A} (hb2 : 21 * componentBytes ty ≤ 536870912) (hdf : fits ty (defaultValue ty) = true) (hdd : (defaultValue ty).isDefault = true) (hcells : cells + (1 + 4) ≤ R.cells) (hslots : slots + (4 + 4 * 21) ≤ R.slots) (hz : ∀ c : ClassId, Jvm.Free.Multi.innerC c 21 (defaultValue ty) = vp_cell c z) (hdg : decode cc pc = .ok (.multianewarray index 2, 4))
    (kk : ∀ (q : Nat) (r : Nat → Nat) (H1 : Heap), va_P D vwCl (ws ++ [(q, .inl (cA0, 4, .inr (.inr (.inr (.inr (gO r)))))), (r 0, .inl (cy, z)), (r 1, .inl (cy, z)), (r 2, .inl (cy, z)), (r 3, .inl (cy, z))]) H1 → va_D A (ws ++ [(q, .inl (cA0, 4, .inr (.inr (.inr (.inr (gO r)))))), (r 0, .inl (cy, z)), (r 1, .inl (cy, z)), (r 2, .inl (cy, z)), (r 3, .inl (cy, z))]) → va_S A H0 H1 locs →
      W p l e R s m args below meth c H1 locs (cells + 5) (slots + 88) Q (F0 m (pc + 4) ls (.ref q :: rest))) : W p l e R s m args below meth c H locs cells slots Q (F0 m pc ls (.int 21 :: .int 4 :: rest)) := by
  refine va_mna (X := ws) (L := []) (f := fun _ => .inl (cy, z)) (N' := 4) (K' := 21) hexec hb hown hclink hover harr ht1 hK (by rw [show ws ++ va_pl [] (fun _ => .inl (cy, z)) = ws from List.append_nil ws]; exact hP) (by rw [show ws ++ va_pl [] (fun _ => .inl (cy, z)) = ws from List.append_nil ws]; exact hD) hS hA (by decide) (by decide) (by decide) (by decide) (by decide) hb2 (by decide) hdf hdd hcells hslots hz hdg (fun q r cA H1 _ _ hK2 hP2 hD2 hS2 => ?_)
  have e : cA = cA0 := by
    have h1 := (hK.2 t0 _ ht).2
    have h2 := (hK2.2 tys.length (cA, .array ty) (by rw [List.getElem?_append_right (Nat.le_refl _), Nat.sub_self]; rfl)).2
    exact Option.some.inj (h2.symm.trans h1)
  subst e
  have e2 : va_pl ([] ++ (List.range 4).map r) (vr_up (fun _ => .inl (cy, z)) ((List.range 4).map r) (.inl (cy, z))) = ([(r 0, .inl (cy, z)), (r 1, .inl (cy, z)), (r 2, .inl (cy, z)), (r 3, .inl (cy, z))] : va_W) := by
    have e3 : vr_up (fun _ => .inl (cy, z)) ((List.range 4).map r) (.inl (cy, z)) = (fun _ => (.inl (cy, z) : va_E)) := by
      funext a
      unfold vr_up
      split <;> rfl
    rw [e3]
    rfl
  rw [e2, List.append_assoc] at hP2 hD2
  exact kk q r H1 hP2 hD2 hS2
theorem cI_v {S : Type} {post : S → Prop} {w1 : S → va_W} {y : MethodName} {bytes : ByteArray} {maxL nL mc ms n index : Nat} {wy : List Cond} {rm : Room} {Ts : List Cond} {own : String} {b : Addr} {As st0 : List Value} {wr cw1 : va_W} (F : CallFix p m c cc nL s args Ts own) (hM : mVX l y wy rm D tys H.size (Value.ref b :: As) [] cw1 post w1 mc ms tx_Y) (cw : CallB R s args own index y bytes maxL none wy rm mc ms n ∧ y.name = "<init>" ∧ (Cond.instanceMethod y).before args s = true) (hK : va_K D vwCl tys s) (hP : va_P D vwCl ws H) (hD : va_D A ws) (hS : va_S A H0 H locs) (hA : ∀ q, H0.size ≤ q → A q) (hX : tx_Y s) (isW isR : List Nat) (hW : isW.map (fun i => ws[i]?) = cw1.map some) (hWn : va_nd isW = true) (hR : isR.map (fun i => ws[i]?) = wr.map some) (hRn : va_nd isR = true) (hdis : ∀ i ∈ isR, i ∉ isW) (hWf : isW.filterMap (fun i => ws[i]?) = cw1)
    (hn : As.length = n) (hsz : ls.size = nL) (hst : st0 = As.reverse ++ .ref b :: rest) (hcat : (rest.map fun v => v.category).sum ≤ 8) (hdg : decode cc pc = .ok (.invokespecial index, 3)) (hf : cells + mc ≤ R.cells ∧ slots + ms ≤ R.slots)
    (kk : ∀ (u : S) (H1 : Heap) (locs1 : List Loc), post u → va_P D vwCl (wr ++ w1 u) H1 → va_D A (wr ++ w1 u) → va_S A H0 H1 locs1 → W p l e R s m args below meth c H1 locs1 (cells + mc) (slots + ms) Q (F0 m (pc + 3) ls (rest))) : W p l e R s m args below meth c H locs cells slots Q (F0 m pc ls st0) := by
  have hFc := va_free (wc := cw1) hD hS hA isW hW
  have hPc : va_P D vwCl cw1 H := hP.sub isW hWf
  have hDc : va_D A cw1 := hD.sub isW hWn hW
  refine va_callv (va_runI (As := As) (rest := rest) F hM cw ⟨PCY_blind, fun U hU hW9 => ⟨rfl, by rw [hU], by rw [hU]; exact hPc, va_K.moved hW9.alike hK, hDc.weaken (fun _ _ _ _ => trivial), tx_Y_kept hX hW9⟩⟩ rfl hn hsz hst (lv_room hcat) hdg hf) hS (fun q _ h => hFc q h) hFc (fun u t H1 locs1 ht hvm hw hB hz1 hk1 hS1 => ?_)
  have hP1 : va_P D vwCl (w1 u) H1 := by rw [← ht]; exact hB.1
  obtain ⟨hP9, hD9⟩ := va_join (wr := wr) (w1 := w1 u) hP hD isW isR hW hR hRn hdis hk1 hFc hP1 hB.2
  exact kk u H1 locs1 hw hP9 hD9 hS1
theorem cIN_v {S : Type} {post : S → Prop} {w1 : S → va_W} {y : MethodName} {bytes : ByteArray} {maxL nL mc ms n index : Nat} {wy : List Cond} {rm : Room} {Ts : List Cond} {own host : String} {b : Addr} {As st0 : List Value} {wr cw1 : va_W} (F : CallFix p m c cc nL s args Ts own) (hM : mVX l y wy rm D tys H.size (Value.ref b :: As) [] cw1 post w1 mc ms tx_Y) (cw : va_CN R s args own index y host bytes maxL none wy rm mc ms n ∧ y.name = "<init>" ∧ (Cond.instanceMethod y).before args s = true) (hK : va_K D vwCl tys s) (hP : va_P D vwCl ws H) (hD : va_D A ws) (hS : va_S A H0 H locs) (hA : ∀ q, H0.size ≤ q → A q) (hX : tx_Y s) (isW isR : List Nat) (hW : isW.map (fun i => ws[i]?) = cw1.map some) (hWn : va_nd isW = true) (hR : isR.map (fun i => ws[i]?) = wr.map some) (hRn : va_nd isR = true) (hdis : ∀ i ∈ isR, i ∉ isW) (hWf : isW.filterMap (fun i => ws[i]?) = cw1)
    (hn : As.length = n) (hsz : ls.size = nL) (hst : st0 = As.reverse ++ .ref b :: rest) (hcat : (rest.map fun v => v.category).sum ≤ 8) (hdg : decode cc pc = .ok (.invokespecial index, 3)) (hf : cells + mc ≤ R.cells ∧ slots + ms ≤ R.slots)
    (kk : ∀ (u : S) (H1 : Heap) (locs1 : List Loc), post u → va_P D vwCl (wr ++ w1 u) H1 → va_D A (wr ++ w1 u) → va_S A H0 H1 locs1 → W p l e R s m args below meth c H1 locs1 (cells + mc) (slots + ms) Q (F0 m (pc + 3) ls (rest))) : W p l e R s m args below meth c H locs cells slots Q (F0 m pc ls st0) := by
  have hFc := va_free (wc := cw1) hD hS hA isW hW
  have hPc : va_P D vwCl cw1 H := hP.sub isW hWf
  have hDc : va_D A cw1 := hD.sub isW hWn hW
  refine va_callv (va_runIN (As := As) (rest := rest) F hM cw ⟨PCY_blind, fun U hU hW9 => ⟨rfl, by rw [hU], by rw [hU]; exact hPc, va_K.moved hW9.alike hK, hDc.weaken (fun _ _ _ _ => trivial), tx_Y_kept hX hW9⟩⟩ rfl hn hsz hst (lv_room hcat) hdg hf) hS (fun q _ h => hFc q h) hFc (fun u t H1 locs1 ht hvm hw hB hz1 hk1 hS1 => ?_)
  have hP1 : va_P D vwCl (w1 u) H1 := by rw [← ht]; exact hB.1
  obtain ⟨hP9, hD9⟩ := va_join (wr := wr) (w1 := w1 u) hP hD isW isR hW hR hRn hdis hk1 hFc hP1 hB.2
  exact kk u H1 locs1 hw hP9 hD9 hS1
end TCY
