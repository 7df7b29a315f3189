/-! OWN ROWS: contracts that also speak of the String constant -/
def tx_X (b0 sK sV : Nat) (U : State) : Prop := vk_S 1 [6] [[119, 114, 115, 105, 100, 102]] (fun _ => sK) (fun _ => sV) (fun q => b0 ≤ q) U U.heap ∧ va_Z "java/lang/String" "COMPACT_STRINGS" "Z" (.int 1) (fun q => b0 ≤ q) U U.heap ∧ vk_R "TaxedByLongest$Text" 119 "wrsidf" sK U ∧ vk_R "TaxedByLongestModel" 97 "wrsidf" sK U ∧ va_Nw (.methodLinkNest RX3 113 yX5_isLaw "TaxedByLongest") U
theorem tx_X_kept {b0 sK sV : Nat} {s U : State} {H : Heap} {A : Nat → Prop} {locs : List Loc} (h : tx_X b0 sK sV s) (hA : ∀ q, A q → b0 ≤ q) (hS : va_S A s.heap H locs) (hU : U.heap = H) (hW : s.WarmedH U.vm) : tx_X b0 sK sV U := by
  have hq : ∀ a : Nat, a < s.heap.size → ¬ b0 ≤ a → U.heap[a]? = s.heap[a]? := fun a h1 h2 => by rw [hU]; exact hS.2.1 a h1 (fun q => h2 (hA a q))
  exact ⟨(h.1.kept hq).moved hW.alike, (h.2.1.kept hq).moved hW.alike, h.2.2.1.warm hW, h.2.2.2.1.warm hW, va_Nw.warmM hW h.2.2.2.2⟩
theorem tx_X_blind {b0 sK sV : Nat} (a : Array Value) (U : State) (g : JFrame) (mk : MethodId) (h : tx_X b0 sK sV U) : tx_X b0 sK sV (U.calling g mk a) := ⟨vk_S.moved (u := U) (U := U.calling g mk a) (Vm.Alike.refl U.vm) h.1, va_Z.moved (u := U) (U := U.calling g mk a) (Vm.Alike.refl U.vm) h.2.1, vk_R.same (u := U) (U := U.calling g mk a) rfl h.2.2.1, vk_R.same (u := U) (U := U.calling g mk a) rfl h.2.2.2.1, va_Nw.same (u := U) (U := U.calling g mk a) rfl rfl h.2.2.2.2⟩
theorem tx_AX {ww : va_W} {sz b0 : Nat} (h : ∀ a ∈ ww.map (fun q => q.1), b0 ≤ a) (hs : b0 ≤ sz) : ∀ q, va_A ww sz q → b0 ≤ q := by
  rintro q (⟨k, e, hk⟩ | hk)
  · exact h q (List.mem_map.mpr ⟨(q, e), List.mem_of_getElem? hk, rfl⟩)
  · exact Nat.le_trans hs hk
def PCX (D : va_G) (tys : List (ClassId × FieldType)) (sz : Nat) (av : List Value) (wc : va_W) (X : State → Prop) : Array Value → State → Prop := va_Pc av (fun U => U.heap.size = sz ∧ va_P D vwCl wc U.heap ∧ va_K D vwCl tys U ∧ va_D (fun _ => True) wc ∧ X U)
theorem PCX_blind {D : va_G} {tys : List (ClassId × FieldType)} {sz : Nat} {av : List Value} {wc : va_W} {b0 sK sV : Nat} : FrameBlind (PCX D tys sz av wc (tx_X b0 sK sV)) := fun a U g mk q => by
  obtain ⟨q0, q1, qP, qK, qD, qX⟩ := q
  exact ⟨q0, q1, qP, va_K.moved (u := U) (U := U.calling g mk a) (Vm.Alike.refl U.vm) qK, qD, tx_X_blind a U g mk qX⟩
def mIX {S : Type} (l : Launch) (y : MethodName) (wy : List Cond) (rm : Room) (D : va_G) (tys : List (ClassId × FieldType)) (sz : Nat) (av : List Value) (wr ww : va_W) (post : Int32 → S → Prop) (w1 : S → va_W) (mc ms : Nat) (X : State → Prop) : Prop := Met l y wy rm (PCX D tys sz av (wr ++ ww) X) (va_Qi post (QB D w1 (va_A ww sz)) (va_A ww sz)) mc ms (va_A ww sz)
def mVX {S : Type} (l : Launch) (y : MethodName) (wy : List Cond) (rm : Room) (D : va_G) (tys : List (ClassId × FieldType)) (sz : Nat) (av : List Value) (wr ww : va_W) (post : S → Prop) (w1 : S → va_W) (mc ms : Nat) (X : State → Prop) : Prop := Met l y wy rm (PCX D tys sz av (wr ++ ww) X) (va_Qv post (QB D w1 (va_A ww sz)) (va_A ww sz)) mc ms (va_A ww sz)
section TCX
variable {p : Program} {l : Launch} {e : Env} {R : Room} {s : State} {m : MethodId} {args : Array Value} {below : List Frame} {meth : Method} {c : Code} {H : Heap} {locs : List Loc} {cells slots : Nat} {Q : State → Prop}
variable {cc : ByteArray} {pc : Nat} {ls : Array Slot} {rest : List Value} {D : va_G} {cl : List vw_C} {A : Nat → Prop} {a : Nat} {tys : List (ClassId × FieldType)} {ws : va_W} {H0 : Heap}
variable {cr cw1 cw2 : va_W} {y : MethodName} {bytes : ByteArray} {maxL nL mc ms n index : Nat} {ret : Option FieldType} {wy : List Cond} {rm : Room} {Ts : List Cond} {own C : String} {b : Addr} {As st0 : List Value} {b0 sK sV : Nat}
theorem cVX_i {S : Type} {post : Int32 → S → Prop} {w1 : S → va_W} (F : CallFix p m c cc nL s args Ts own) (hM : mIX l y wy rm D tys H.size (Value.ref b :: As) cr cw1 post w1 mc ms (tx_X b0 sK sV)) (cw : CallW R s args own C index y bytes maxL ret wy rm mc ms n) (hK : va_K D vwCl tys s) (hP : va_P D vwCl ws H) (hD : va_D A ws) (hS : va_S A s.heap H locs) (hA : ∀ q, s.heap.size ≤ q → A q) (hPc : va_P D vwCl (cr ++ cw1) H) (hDc : va_D (fun _ => True) (cr ++ cw1)) (isW : List Nat) (hW : isW.map (fun i => ws[i]?) = cw1.map some) (hX : tx_X b0 sK sV s) (hAX : ∀ q, A q → b0 ≤ q) (hrec : ∃ cell : Cell, H[b]? = some cell ∧ cell.vm.isStatics = false ∧ s.vm.findClass C = some cell.cls)
    (hn : As.length = n) (hsz : ls.size = nL) (hst : st0 = As.reverse ++ .ref b :: rest) (hcat : (rest.map fun v => v.category).sum ≤ 8) (hdg : decode cc pc = .ok (.invokevirtual index, 3)) (hf : cells + mc ≤ R.cells ∧ slots + ms ≤ R.slots) (hlen : ∀ u, isW.length = (w1 u).length) (hadr : ∀ u, (upW ws isW (w1 u)).map (fun q => q.1) = ws.map (fun q => q.1))
    (kk : ∀ (r : Int32) (u : S) (H1 : Heap) (locs1 : List Loc), post r u → va_P D vwCl (upW ws isW (w1 u)) H1 → va_D A (upW ws isW (w1 u)) → va_S A s.heap H1 locs1 → W p l e R s m args below meth c H1 locs1 (cells + mc) (slots + ms) Q (F0 m (pc + 3) ls (.int r :: rest))) : W p l e R s m args below meth c H locs cells slots Q (F0 m pc ls st0) := by
  have hFc := va_free (wc := cw1) hD hS hA isW hW
  refine va_calli (va_runV (As := As) (rest := rest) F hM cw ⟨PCX_blind, hrec, fun U hU hW9 => ⟨rfl, by rw [hU], by rw [hU]; exact hPc, va_K.moved hW9.alike hK, hDc, tx_X_kept hX hAX hS hU hW9⟩⟩ rfl hn hsz hst (lv_room hcat) hdg hf) hS (fun q _ h => hFc q h) hFc (fun r u t H1 locs1 ht hvm hw hB hz1 hk1 hS1 => ?_)
  have hP1 : va_P D vwCl (w1 u) H1 := by rw [← ht]; exact hB.1
  exact kk r u H1 locs1 hw (w_upd hP hD isW hW hk1 hP1 (hlen u)) (d_adr hD (hadr u)) hS1
theorem cSX_i {S : Type} {post : Int32 → S → Prop} {w1 : S → va_W} (F : CallFix p m c cc nL s args Ts own) (hM : mIX l y wy rm D tys H.size As cr cw1 post w1 mc ms (tx_X b0 sK sV)) (cw : CallB R s args own index y bytes maxL ret wy rm mc ms n ∧ (Cond.static y).before args s = true) (hK : va_K D vwCl tys s) (hP : va_P D vwCl ws H) (hD : va_D A ws) (hS : va_S A s.heap H locs) (hA : ∀ q, s.heap.size ≤ q → A q) (hPc : va_P D vwCl (cr ++ cw1) H) (hDc : va_D (fun _ => True) (cr ++ cw1)) (isW : List Nat) (hW : isW.map (fun i => ws[i]?) = cw1.map some) (hX : tx_X b0 sK sV s) (hAX : ∀ q, A q → b0 ≤ q)
    (hn : As.length = n) (hsz : ls.size = nL) (hst : st0 = As.reverse ++ rest) (hcat : (rest.map fun v => v.category).sum ≤ 8) (hdg : decode cc pc = .ok (.invokestatic index, 3)) (hf : cells + mc ≤ R.cells ∧ slots + ms ≤ R.slots) (hlen : ∀ u, isW.length = (w1 u).length) (hadr : ∀ u, (upW ws isW (w1 u)).map (fun q => q.1) = ws.map (fun q => q.1))
    (kk : ∀ (r : Int32) (u : S) (H1 : Heap) (locs1 : List Loc), post r u → va_P D vwCl (upW ws isW (w1 u)) H1 → va_D A (upW ws isW (w1 u)) → va_S A s.heap H1 locs1 → W p l e R s m args below meth c H1 locs1 (cells + mc) (slots + ms) Q (F0 m (pc + 3) ls (.int r :: rest))) : W p l e R s m args below meth c H locs cells slots Q (F0 m pc ls st0) := by
  have hFc := va_free (wc := cw1) hD hS hA isW hW
  refine va_calli (va_runS (As := As) (rest := rest) F hM cw ⟨PCX_blind, fun U hU hW9 => ⟨rfl, by rw [hU], by rw [hU]; exact hPc, va_K.moved hW9.alike hK, hDc, tx_X_kept hX hAX hS hU hW9⟩⟩ rfl hn hsz hst (lv_room hcat) hdg hf) hS (fun q _ h => hFc q h) hFc (fun r u t H1 locs1 ht hvm hw hB hz1 hk1 hS1 => ?_)
  have hP1 : va_P D vwCl (w1 u) H1 := by rw [← ht]; exact hB.1
  exact kk r u H1 locs1 hw (w_upd hP hD isW hW hk1 hP1 (hlen u)) (d_adr hD (hadr u)) hS1
theorem cVX_v {S : Type} {post : S → Prop} {w1 : S → va_W} (F : CallFix p m c cc nL s args Ts own) (hM : mVX l y wy rm D tys H.size (Value.ref b :: As) cr cw1 post w1 mc ms (tx_X b0 sK sV)) (cw : CallW R s args own C index y bytes maxL ret wy rm mc ms n) (hK : va_K D vwCl tys s) (hP : va_P D vwCl ws H) (hD : va_D A ws) (hS : va_S A s.heap H locs) (hA : ∀ q, s.heap.size ≤ q → A q) (hPc : va_P D vwCl (cr ++ cw1) H) (hDc : va_D (fun _ => True) (cr ++ cw1)) (isW : List Nat) (hW : isW.map (fun i => ws[i]?) = cw1.map some) (hX : tx_X b0 sK sV s) (hAX : ∀ q, A q → b0 ≤ q) (hrec : ∃ cell : Cell, H[b]? = some cell ∧ cell.vm.isStatics = false ∧ s.vm.findClass C = some cell.cls)
    (hn : As.length = n) (hsz : ls.size = nL) (hst : st0 = As.reverse ++ .ref b :: rest) (hcat : (rest.map fun v => v.category).sum ≤ 8) (hdg : decode cc pc = .ok (.invokevirtual index, 3)) (hf : cells + mc ≤ R.cells ∧ slots + ms ≤ R.slots) (hlen : ∀ u, isW.length = (w1 u).length) (hadr : ∀ u, (upW ws isW (w1 u)).map (fun q => q.1) = ws.map (fun q => q.1))
    (kk : ∀ (u : S) (H1 : Heap) (locs1 : List Loc), post u → va_P D vwCl (upW ws isW (w1 u)) H1 → va_D A (upW ws isW (w1 u)) → va_S A s.heap H1 locs1 → W p l e R s m args below meth c H1 locs1 (cells + mc) (slots + ms) Q (F0 m (pc + 3) ls (rest))) : W p l e R s m args below meth c H locs cells slots Q (F0 m pc ls st0) := by
  have hFc := va_free (wc := cw1) hD hS hA isW hW
  refine va_callv (va_runV (As := As) (rest := rest) F hM cw ⟨PCX_blind, hrec, fun U hU hW9 => ⟨rfl, by rw [hU], by rw [hU]; exact hPc, va_K.moved hW9.alike hK, hDc, tx_X_kept hX hAX hS hU hW9⟩⟩ rfl hn hsz hst (lv_room hcat) hdg hf) hS (fun q _ h => hFc q h) hFc (fun u t H1 locs1 ht hvm hw hB hz1 hk1 hS1 => ?_)
  have hP1 : va_P D vwCl (w1 u) H1 := by rw [← ht]; exact hB.1
  exact kk u H1 locs1 hw (w_upd hP hD isW hW hk1 hP1 (hlen u)) (d_adr hD (hadr u)) hS1
theorem cSX_v {S : Type} {post : S → Prop} {w1 : S → va_W} (F : CallFix p m c cc nL s args Ts own) (hM : mVX l y wy rm D tys H.size As cr cw1 post w1 mc ms (tx_X b0 sK sV)) (cw : CallB R s args own index y bytes maxL ret wy rm mc ms n ∧ (Cond.static y).before args s = true) (hK : va_K D vwCl tys s) (hP : va_P D vwCl ws H) (hD : va_D A ws) (hS : va_S A s.heap H locs) (hA : ∀ q, s.heap.size ≤ q → A q) (hPc : va_P D vwCl (cr ++ cw1) H) (hDc : va_D (fun _ => True) (cr ++ cw1)) (isW : List Nat) (hW : isW.map (fun i => ws[i]?) = cw1.map some) (hX : tx_X b0 sK sV s) (hAX : ∀ q, A q → b0 ≤ q)
    (hn : As.length = n) (hsz : ls.size = nL) (hst : st0 = As.reverse ++ rest) (hcat : (rest.map fun v => v.category).sum ≤ 8) (hdg : decode cc pc = .ok (.invokestatic index, 3)) (hf : cells + mc ≤ R.cells ∧ slots + ms ≤ R.slots) (hlen : ∀ u, isW.length = (w1 u).length) (hadr : ∀ u, (upW ws isW (w1 u)).map (fun q => q.1) = ws.map (fun q => q.1))
    (kk : ∀ (u : S) (H1 : Heap) (locs1 : List Loc), post u → va_P D vwCl (upW ws isW (w1 u)) H1 → va_D A (upW ws isW (w1 u)) → va_S A s.heap H1 locs1 → W p l e R s m args below meth c H1 locs1 (cells + mc) (slots + ms) Q (F0 m (pc + 3) ls (rest))) : W p l e R s m args below meth c H locs cells slots Q (F0 m pc ls st0) := by
  have hFc := va_free (wc := cw1) hD hS hA isW hW
  refine va_callv (va_runS (As := As) (rest := rest) F hM cw ⟨PCX_blind, fun U hU hW9 => ⟨rfl, by rw [hU], by rw [hU]; exact hPc, va_K.moved hW9.alike hK, hDc, tx_X_kept hX hAX hS hU hW9⟩⟩ rfl hn hsz hst (lv_room hcat) hdg hf) hS (fun q _ h => hFc q h) hFc (fun u t H1 locs1 ht hvm hw hB hz1 hk1 hS1 => ?_)
  have hP1 : va_P D vwCl (w1 u) H1 := by rw [← ht]; exact hB.1
  exact kk u H1 locs1 hw (w_upd hP hD isW hW hk1 hP1 (hlen u)) (d_adr hD (hadr u)) hS1
theorem rt_b {S : Type} {post : Int32 → S → Prop} {w1 : S → va_W} {v : Int32} {ty : FieldType} (hexec : p.tables.exec = Jvm.exec) (hb : c.code = cc) (hr : meth.sig.returnType = some ty) (hn : narrow ty (.int v) = .int v) (hlocks : meth.locks = false) (u : S) (hpost : post v u) (hP : va_P D vwCl (w1 u) H) (hD : va_D A (w1 u)) (hS : va_S A s.heap H locs) (hdg : decode cc pc = .ok (.ireturn, 1)) : W p l e R s m args below meth c H locs cells slots (MQ below (va_Qi post (QB D w1 A) A) args s cells slots A) (F0 m pc ls [.int v]) :=
  W.zret hexec hb hr hn (fun t ht hW => ⟨⟨v, u, rfl, hpost, by rw [QB, ht]; exact ⟨hP, hD⟩⟩, hS.F ht⟩) hS.2.2 hdg hlocks
end TCX
def tx_by (i : Nat) : Nat := [119, 114, 115, 105, 100, 102].getD i 0
/-- the place of a letter among "wrsidf" -/
def tx_ki (x : Nat) : Int := if x = 119 then 0 else if x = 114 then 1 else if x = 115 then 2 else if x = 105 then 3 else if x = 100 then 4 else if x = 102 then 5 else -1
theorem tx_byv : ∀ i, i < 6 → Value.int ((([[119, 114, 115, 105, 100, 102]] : List (List Int32)).getD 0 []).getD i 0) = .int (nI (tx_by i)) := by
  intro i hi
  rcases (show i = 0 ∨ i = 1 ∨ i = 2 ∨ i = 3 ∨ i = 4 ∨ i = 5 by omega) with rfl | rfl | rfl | rfl | rfl | rfl <;> rfl
theorem tx_byeA : ∀ x : Nat, x < 256 → ∀ i, i < 6 → decide (nI (tx_by i) = (nI x).toInt8.toInt32) = decide (x = tx_by i) := by decide +kernel
theorem tx_bye {x i : Nat} (hx : x < 256) (hi : i < 6) : nI (tx_by i) = (nI x).toInt8.toInt32 ↔ x = tx_by i := by
  have h := tx_byeA x hx i hi
  exact decide_eq_decide.mp h
theorem tx_ki_n {x : Nat} (h : ∀ k, k < 6 → x ≠ tx_by k) : tx_ki x = -1 := by
  have h0 : x ≠ 119 := h 0 (by decide)
  have h1 : x ≠ 114 := h 1 (by decide)
  have h2 : x ≠ 115 := h 2 (by decide)
  have h3 : x ≠ 105 := h 3 (by decide)
  have h4 : x ≠ 100 := h 4 (by decide)
  have h5 : x ≠ 102 := h 5 (by decide)
  unfold tx_ki
  rw [if_neg h0, if_neg h1, if_neg h2, if_neg h3, if_neg h4, if_neg h5]
theorem tx_ki_i : ∀ i, i < 6 → tx_ki (tx_by i) = (i : Int) := by
  intro i hi
  rcases (show i = 0 ∨ i = 1 ∨ i = 2 ∨ i = 3 ∨ i = 4 ∨ i = 5 by omega) with rfl | rfl | rfl | rfl | rfl | rfl <;> rfl
theorem tx_ki_b (x : Nat) : -1 ≤ tx_ki x ∧ tx_ki x ≤ 5 := by
  unfold tx_ki
  (repeat' split) <;> omega
