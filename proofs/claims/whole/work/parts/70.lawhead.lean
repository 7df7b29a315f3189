set_option maxHeartbeats 16000000 in
set_option maxRecDepth 100000 in
/-- THE LAW'S LOOP: at its head, with i ints read, class and reference agree -/
theorem law_head {p : Program} {l : Launch} {e : Env} {s : State} {m : MethodId} {below : List Frame} {meth : Method} {c : Code} {b L : Nat} {xs : Nat → Int32} {D : va_G} {cs : Nat → ClassId} {A : Nat → Prop} {ad ra rb rc rs rt : Nat → Nat} {b0 sK sV : Nat} (hL : L ≤ 2560) (C0 : lw_At p s m meth c b L xs) (hK : va_K D vwCl (tyc cs) s) (hA : ∀ q, s.heap.size ≤ q → A q) (hAb : ∀ q, A q → s.heap.size ≤ q) (hb0 : b0 = s.heap.size) (hX : tx_X b0 sK sV s) : ∀ (n9 i : Nat), L < i + n9 → i ≤ L → tx_At p l e s m below meth c b D cs A ad ra rb rc rs rt i 18 (100 + 2 * i) (7000 + 44 * i) := by
  obtain ⟨hx, hb, hr, hml, hown0, hts0, hXs, hbl, hlocks, hgv⟩ := id C0
  have hb : c.code = cL_law := hb
  have hbA : ¬ A b := fun h => Nat.not_le.mpr hbl (hAb b h)
  intro n9
  induction n9 with
  | zero => intro i h hi; exact absurd h (by omega)
  | succ n9 ih =>
    intro i h hi
    have hE : i + 5 ≤ L → tx_At p l e s m below meth c b D cs A ad ra rb rc rs rt i 888 (100 + 2 * i + 2) (7000 + 44 * i + 44) := by
      intro hi5
      intro T T2 TT im tl tz sn ss rf at9 hz nu dd er cg x5 ld bl bm M1 M2 M3 yf cd cn9 kn z9 Ms Mt at6 va6 img ahd mst fst9 now9 nxt9 hInv H locs hP hD hS ls hl
      refine lv_iinc (v := nI (i + 5)) (lv' := [(3, .int (nI (i + 5))), (0, .ref b), (1, .ref (ad 0)), (2, .ref (ad 39))]) hx hb dL_law_888 hl (k := 3) rfl (inc_n i 5) (by decide) rfl (fun ls hl => ?_)
      refine lv_goto (tgt := 18) hx hb dL_law_891 (by decide) ?_
      refine W.widen (k := 100 + 2 * (i + 5)) (n := 7000 + 44 * (i + 5)) (by omega) (by omega) ?_
      exact ih (i + 5) (by omega) hi5 T T2 TT im tl tz sn ss rf at9 hz nu dd er cg x5 ld bl bm M1 M2 M3 yf cd cn9 kn z9 Ms Mt at6 va6 img ahd mst fst9 now9 nxt9 hInv H locs hP hD hS ls (lv_sub hl [1, 2, 3, 0] rfl)
    intro T T2 TT im tl tz sn ss rf at9 hz nu dd er cg x5 ld bl bm M1 M2 M3 yf cd cn9 kn z9 Ms Mt at6 va6 img ahd mst fst9 now9 nxt9 hInv H locs hP hD hS ls hl
    refine lv_iload_n hx hb dL_law_18 rfl (lv_at hl 3 rfl) ?_
    refine lv_aload_n hx hb dL_law_19 rfl (lv_at hl 0 rfl) ?_
    refine va_slen hx hb hXs hbl hbA hS dL_law_20 ?_
    refine lv_iconst (v := 5) hx hb dL_law_21 (by decide) ?_
    refine lv_isub hx hb dL_law_22 ?_
    refine tp_i (sub_iI (a := (L : Int)) (b := 5) (nI_iI L) (by decide)) ?_
    refine bi_gt (a := (i : Int)) (b := (L : Int) - 5) (tgt := 894) hx hb (nI_iI i) rfl (by omega) (by omega) (by omega) (by omega) dL_law_23 (by decide) (fun c9 => ?_) (fun c9 => ?_)
    · refine lv_iconst (v := 1) hx hb dL_law_894 (by decide) ?_
      refine va_forget (fun q hq => hAb _ (hS.2.2 q hq)) ?_
      refine W.widen (k := 600000) (n := 7302250) (by omega) (by omega) ?_
      exact lw_ret hx hb hr hlocks dL_law_895
    · have hi5 : i + 5 ≤ L := by omega
      have hE := hE hi5
      refine lv_aload_n hx hb dL_law_26 rfl (lv_at hl 0 rfl) ?_
      refine lv_iload_n hx hb dL_law_27 rfl (lv_at hl 3 rfl) ?_
      refine va_sld hx hb hXs hbl hbA hS (vp_in_nI (show i < L by omega) (by omega)) dL_law_28 ?_
      refine lv_bipush (v := 31) hx hb dL_law_29 (by decide) ?_
      refine lv_iand hx hb dL_law_31 ?_
      refine tp_i (pk_and _ (m := 31) 5 (by decide)) ?_
      have hk9 := Nat.mod_lt (xs (nI i).toNatClampNeg).toBitVec.toNat (show 2 ^ 5 > 0 by decide)
      generalize (xs (nI i).toNatClampNeg).toBitVec.toNat % 2 ^ 5 = k9 at hk9 ⊢
      by_cases s0 : k9 = 0
      · refine tp_i (y := 0) (by rw [s0]; rfl) ?_
        refine lv_tableIn (tgt := 172) hx hb dL_law_32 (by decide) (by decide) rfl (by decide) ?_
        exact law_c0 hL C0 hK hA hAb hb0 hX hi5 (by omega) (by omega) hE T T2 TT im tl tz sn ss rf at9 hz nu dd er cg x5 ld bl bm M1 M2 M3 yf cd cn9 kn z9 Ms Mt at6 va6 img ahd mst fst9 now9 nxt9 hInv H locs hP hD hS ls hl
      by_cases s1 : k9 = 1
      · refine tp_i (y := 1) (by rw [s1]; rfl) ?_
        refine lv_tableIn (tgt := 195) hx hb dL_law_32 (by decide) (by decide) rfl (by decide) ?_
        exact law_c1 hL C0 hK hA hAb hb0 hX hi5 (by omega) (by omega) hE T T2 TT im tl tz sn ss rf at9 hz nu dd er cg x5 ld bl bm M1 M2 M3 yf cd cn9 kn z9 Ms Mt at6 va6 img ahd mst fst9 now9 nxt9 hInv H locs hP hD hS ls hl
      by_cases s2 : k9 = 2
      · refine tp_i (y := 2) (by rw [s2]; rfl) ?_
        refine lv_tableIn (tgt := 208) hx hb dL_law_32 (by decide) (by decide) rfl (by decide) ?_
        exact law_c2 hL C0 hK hA hAb hb0 hX hi5 (by omega) (by omega) hE T T2 TT im tl tz sn ss rf at9 hz nu dd er cg x5 ld bl bm M1 M2 M3 yf cd cn9 kn z9 Ms Mt at6 va6 img ahd mst fst9 now9 nxt9 hInv H locs hP hD hS ls hl
      by_cases s3 : k9 = 3
      · refine tp_i (y := 3) (by rw [s3]; rfl) ?_
        refine lv_tableIn (tgt := 241) hx hb dL_law_32 (by decide) (by decide) rfl (by decide) ?_
        exact law_c3 hL C0 hK hA hAb hb0 hX hi5 (by omega) (by omega) hE T T2 TT im tl tz sn ss rf at9 hz nu dd er cg x5 ld bl bm M1 M2 M3 yf cd cn9 kn z9 Ms Mt at6 va6 img ahd mst fst9 now9 nxt9 hInv H locs hP hD hS ls hl
      by_cases s4 : k9 = 4
      · refine tp_i (y := 4) (by rw [s4]; rfl) ?_
        refine lv_tableIn (tgt := 274) hx hb dL_law_32 (by decide) (by decide) rfl (by decide) ?_
        exact law_c4 hL C0 hK hA hAb hb0 hX hi5 (by omega) (by omega) hE T T2 TT im tl tz sn ss rf at9 hz nu dd er cg x5 ld bl bm M1 M2 M3 yf cd cn9 kn z9 Ms Mt at6 va6 img ahd mst fst9 now9 nxt9 hInv H locs hP hD hS ls hl
      by_cases s5 : k9 = 5
      · refine tp_i (y := 5) (by rw [s5]; rfl) ?_
        refine lv_tableIn (tgt := 307) hx hb dL_law_32 (by decide) (by decide) rfl (by decide) ?_
        exact law_c5 hL C0 hK hA hAb hb0 hX hi5 (by omega) (by omega) hE T T2 TT im tl tz sn ss rf at9 hz nu dd er cg x5 ld bl bm M1 M2 M3 yf cd cn9 kn z9 Ms Mt at6 va6 img ahd mst fst9 now9 nxt9 hInv H locs hP hD hS ls hl
      by_cases s6 : k9 = 6
      · refine tp_i (y := 6) (by rw [s6]; rfl) ?_
        refine lv_tableIn (tgt := 330) hx hb dL_law_32 (by decide) (by decide) rfl (by decide) ?_
        exact law_c6 hL C0 hK hA hAb hb0 hX hi5 (by omega) (by omega) hE T T2 TT im tl tz sn ss rf at9 hz nu dd er cg x5 ld bl bm M1 M2 M3 yf cd cn9 kn z9 Ms Mt at6 va6 img ahd mst fst9 now9 nxt9 hInv H locs hP hD hS ls hl
      by_cases s7 : k9 = 7
      · refine tp_i (y := 7) (by rw [s7]; rfl) ?_
        refine lv_tableIn (tgt := 353) hx hb dL_law_32 (by decide) (by decide) rfl (by decide) ?_
        exact law_c7 hL C0 hK hA hAb hb0 hX hi5 (by omega) (by omega) hE T T2 TT im tl tz sn ss rf at9 hz nu dd er cg x5 ld bl bm M1 M2 M3 yf cd cn9 kn z9 Ms Mt at6 va6 img ahd mst fst9 now9 nxt9 hInv H locs hP hD hS ls hl
      by_cases s8 : k9 = 8
      · refine tp_i (y := 8) (by rw [s8]; rfl) ?_
        refine lv_tableIn (tgt := 376) hx hb dL_law_32 (by decide) (by decide) rfl (by decide) ?_
        exact law_c8 hL C0 hK hA hAb hb0 hX hi5 (by omega) (by omega) hE T T2 TT im tl tz sn ss rf at9 hz nu dd er cg x5 ld bl bm M1 M2 M3 yf cd cn9 kn z9 Ms Mt at6 va6 img ahd mst fst9 now9 nxt9 hInv H locs hP hD hS ls hl
      by_cases s9 : k9 = 9
      · refine tp_i (y := 9) (by rw [s9]; rfl) ?_
        refine lv_tableIn (tgt := 389) hx hb dL_law_32 (by decide) (by decide) rfl (by decide) ?_
        exact law_c9 hL C0 hK hA hAb hb0 hX hi5 (by omega) (by omega) hE T T2 TT im tl tz sn ss rf at9 hz nu dd er cg x5 ld bl bm M1 M2 M3 yf cd cn9 kn z9 Ms Mt at6 va6 img ahd mst fst9 now9 nxt9 hInv H locs hP hD hS ls hl
      by_cases s10 : k9 = 10
      · refine tp_i (y := 10) (by rw [s10]; rfl) ?_
        refine lv_tableIn (tgt := 402) hx hb dL_law_32 (by decide) (by decide) rfl (by decide) ?_
        exact law_c10 hL C0 hK hA hAb hb0 hX hi5 (by omega) (by omega) hE T T2 TT im tl tz sn ss rf at9 hz nu dd er cg x5 ld bl bm M1 M2 M3 yf cd cn9 kn z9 Ms Mt at6 va6 img ahd mst fst9 now9 nxt9 hInv H locs hP hD hS ls hl
      by_cases s11 : k9 = 11
      · refine tp_i (y := 11) (by rw [s11]; rfl) ?_
        refine lv_tableIn (tgt := 435) hx hb dL_law_32 (by decide) (by decide) rfl (by decide) ?_
        exact law_c11 hL C0 hK hA hAb hb0 hX hi5 (by omega) (by omega) hE T T2 TT im tl tz sn ss rf at9 hz nu dd er cg x5 ld bl bm M1 M2 M3 yf cd cn9 kn z9 Ms Mt at6 va6 img ahd mst fst9 now9 nxt9 hInv H locs hP hD hS ls hl
      by_cases s12 : k9 = 12
      · refine tp_i (y := 12) (by rw [s12]; rfl) ?_
        refine lv_tableIn (tgt := 458) hx hb dL_law_32 (by decide) (by decide) rfl (by decide) ?_
        exact law_c12 hL C0 hK hA hAb hb0 hX hi5 (by omega) (by omega) hE T T2 TT im tl tz sn ss rf at9 hz nu dd er cg x5 ld bl bm M1 M2 M3 yf cd cn9 kn z9 Ms Mt at6 va6 img ahd mst fst9 now9 nxt9 hInv H locs hP hD hS ls hl
      by_cases s13 : k9 = 13
      · refine tp_i (y := 13) (by rw [s13]; rfl) ?_
        refine lv_tableIn (tgt := 471) hx hb dL_law_32 (by decide) (by decide) rfl (by decide) ?_
        exact law_c13 hL C0 hK hA hAb hb0 hX hi5 (by omega) (by omega) hE T T2 TT im tl tz sn ss rf at9 hz nu dd er cg x5 ld bl bm M1 M2 M3 yf cd cn9 kn z9 Ms Mt at6 va6 img ahd mst fst9 now9 nxt9 hInv H locs hP hD hS ls hl
      by_cases s14 : k9 = 14
      · refine tp_i (y := 14) (by rw [s14]; rfl) ?_
        refine lv_tableIn (tgt := 484) hx hb dL_law_32 (by decide) (by decide) rfl (by decide) ?_
        exact law_c14 hL C0 hK hA hAb hb0 hX hi5 (by omega) (by omega) hE T T2 TT im tl tz sn ss rf at9 hz nu dd er cg x5 ld bl bm M1 M2 M3 yf cd cn9 kn z9 Ms Mt at6 va6 img ahd mst fst9 now9 nxt9 hInv H locs hP hD hS ls hl
      by_cases s15 : k9 = 15
      · refine tp_i (y := 15) (by rw [s15]; rfl) ?_
        refine lv_tableIn (tgt := 497) hx hb dL_law_32 (by decide) (by decide) rfl (by decide) ?_
        exact law_c15 hL C0 hK hA hAb hb0 hX hi5 (by omega) (by omega) hE T T2 TT im tl tz sn ss rf at9 hz nu dd er cg x5 ld bl bm M1 M2 M3 yf cd cn9 kn z9 Ms Mt at6 va6 img ahd mst fst9 now9 nxt9 hInv H locs hP hD hS ls hl
      by_cases s16 : k9 = 16
      · refine tp_i (y := 16) (by rw [s16]; rfl) ?_
        refine lv_tableIn (tgt := 520) hx hb dL_law_32 (by decide) (by decide) rfl (by decide) ?_
        exact law_c16 hL C0 hK hA hAb hb0 hX hi5 (by omega) (by omega) hE T T2 TT im tl tz sn ss rf at9 hz nu dd er cg x5 ld bl bm M1 M2 M3 yf cd cn9 kn z9 Ms Mt at6 va6 img ahd mst fst9 now9 nxt9 hInv H locs hP hD hS ls hl
      by_cases s17 : k9 = 17
      · refine tp_i (y := 17) (by rw [s17]; rfl) ?_
        refine lv_tableIn (tgt := 543) hx hb dL_law_32 (by decide) (by decide) rfl (by decide) ?_
        exact law_c17 hL C0 hK hA hAb hb0 hX hi5 (by omega) (by omega) hE T T2 TT im tl tz sn ss rf at9 hz nu dd er cg x5 ld bl bm M1 M2 M3 yf cd cn9 kn z9 Ms Mt at6 va6 img ahd mst fst9 now9 nxt9 hInv H locs hP hD hS ls hl
      by_cases s18 : k9 = 18
      · refine tp_i (y := 18) (by rw [s18]; rfl) ?_
        refine lv_tableIn (tgt := 566) hx hb dL_law_32 (by decide) (by decide) rfl (by decide) ?_
        exact law_c18 hL C0 hK hA hAb hb0 hX hi5 (by omega) (by omega) hE T T2 TT im tl tz sn ss rf at9 hz nu dd er cg x5 ld bl bm M1 M2 M3 yf cd cn9 kn z9 Ms Mt at6 va6 img ahd mst fst9 now9 nxt9 hInv H locs hP hD hS ls hl
      by_cases s19 : k9 = 19
      · refine tp_i (y := 19) (by rw [s19]; rfl) ?_
        refine lv_tableIn (tgt := 579) hx hb dL_law_32 (by decide) (by decide) rfl (by decide) ?_
        exact law_c19 hL C0 hK hA hAb hb0 hX hi5 (by omega) (by omega) hE T T2 TT im tl tz sn ss rf at9 hz nu dd er cg x5 ld bl bm M1 M2 M3 yf cd cn9 kn z9 Ms Mt at6 va6 img ahd mst fst9 now9 nxt9 hInv H locs hP hD hS ls hl
      by_cases s20 : k9 = 20
      · refine tp_i (y := 20) (by rw [s20]; rfl) ?_
        refine lv_tableIn (tgt := 602) hx hb dL_law_32 (by decide) (by decide) rfl (by decide) ?_
        exact law_c20 hL C0 hK hA hAb hb0 hX hi5 (by omega) (by omega) hE T T2 TT im tl tz sn ss rf at9 hz nu dd er cg x5 ld bl bm M1 M2 M3 yf cd cn9 kn z9 Ms Mt at6 va6 img ahd mst fst9 now9 nxt9 hInv H locs hP hD hS ls hl
      by_cases s21 : k9 = 21
      · refine tp_i (y := 21) (by rw [s21]; rfl) ?_
        refine lv_tableIn (tgt := 625) hx hb dL_law_32 (by decide) (by decide) rfl (by decide) ?_
        exact law_c21 hL C0 hK hA hAb hb0 hX hi5 (by omega) (by omega) hE T T2 TT im tl tz sn ss rf at9 hz nu dd er cg x5 ld bl bm M1 M2 M3 yf cd cn9 kn z9 Ms Mt at6 va6 img ahd mst fst9 now9 nxt9 hInv H locs hP hD hS ls hl
      by_cases s22 : k9 = 22
      · refine tp_i (y := 22) (by rw [s22]; rfl) ?_
        refine lv_tableIn (tgt := 648) hx hb dL_law_32 (by decide) (by decide) rfl (by decide) ?_
        exact law_c22 hL C0 hK hA hAb hb0 hX hi5 (by omega) (by omega) hE T T2 TT im tl tz sn ss rf at9 hz nu dd er cg x5 ld bl bm M1 M2 M3 yf cd cn9 kn z9 Ms Mt at6 va6 img ahd mst fst9 now9 nxt9 hInv H locs hP hD hS ls hl
      by_cases s23 : k9 = 23
      · refine tp_i (y := 23) (by rw [s23]; rfl) ?_
        refine lv_tableIn (tgt := 692) hx hb dL_law_32 (by decide) (by decide) rfl (by decide) ?_
        exact law_c23 hL C0 hK hA hAb hb0 hX hi5 (by omega) (by omega) hE T T2 TT im tl tz sn ss rf at9 hz nu dd er cg x5 ld bl bm M1 M2 M3 yf cd cn9 kn z9 Ms Mt at6 va6 img ahd mst fst9 now9 nxt9 hInv H locs hP hD hS ls hl
      by_cases s24 : k9 = 24
      · refine tp_i (y := 24) (by rw [s24]; rfl) ?_
        refine lv_tableIn (tgt := 715) hx hb dL_law_32 (by decide) (by decide) rfl (by decide) ?_
        exact law_c24 hL C0 hK hA hAb hb0 hX hi5 (by omega) (by omega) hE T T2 TT im tl tz sn ss rf at9 hz nu dd er cg x5 ld bl bm M1 M2 M3 yf cd cn9 kn z9 Ms Mt at6 va6 img ahd mst fst9 now9 nxt9 hInv H locs hP hD hS ls hl
      by_cases s25 : k9 = 25
      · refine tp_i (y := 25) (by rw [s25]; rfl) ?_
        refine lv_tableIn (tgt := 739) hx hb dL_law_32 (by decide) (by decide) rfl (by decide) ?_
        exact law_c25 hL C0 hK hA hAb hb0 hX hi5 (by omega) (by omega) hE T T2 TT im tl tz sn ss rf at9 hz nu dd er cg x5 ld bl bm M1 M2 M3 yf cd cn9 kn z9 Ms Mt at6 va6 img ahd mst fst9 now9 nxt9 hInv H locs hP hD hS ls hl
      by_cases s26 : k9 = 26
      · refine tp_i (y := 26) (by rw [s26]; rfl) ?_
        refine lv_tableIn (tgt := 793) hx hb dL_law_32 (by decide) (by decide) rfl (by decide) ?_
        exact law_c26 hL C0 hK hA hAb hb0 hX hi5 (by omega) (by omega) hE T T2 TT im tl tz sn ss rf at9 hz nu dd er cg x5 ld bl bm M1 M2 M3 yf cd cn9 kn z9 Ms Mt at6 va6 img ahd mst fst9 now9 nxt9 hInv H locs hP hD hS ls hl
      by_cases s27 : k9 = 27
      · refine tp_i (y := 27) (by rw [s27]; rfl) ?_
        refine lv_tableIn (tgt := 806) hx hb dL_law_32 (by decide) (by decide) rfl (by decide) ?_
        exact law_c27 hL C0 hK hA hAb hb0 hX hi5 (by omega) (by omega) hE T T2 TT im tl tz sn ss rf at9 hz nu dd er cg x5 ld bl bm M1 M2 M3 yf cd cn9 kn z9 Ms Mt at6 va6 img ahd mst fst9 now9 nxt9 hInv H locs hP hD hS ls hl
      by_cases s28 : k9 = 28
      · refine tp_i (y := 28) (by rw [s28]; rfl) ?_
        refine lv_tableIn (tgt := 839) hx hb dL_law_32 (by decide) (by decide) rfl (by decide) ?_
        exact law_c28 hL C0 hK hA hAb hb0 hX hi5 (by omega) (by omega) hE T T2 TT im tl tz sn ss rf at9 hz nu dd er cg x5 ld bl bm M1 M2 M3 yf cd cn9 kn z9 Ms Mt at6 va6 img ahd mst fst9 now9 nxt9 hInv H locs hP hD hS ls hl
      by_cases s29 : k9 = 29
      · refine tp_i (y := 29) (by rw [s29]; rfl) ?_
        refine lv_tableIn (tgt := 852) hx hb dL_law_32 (by decide) (by decide) rfl (by decide) ?_
        exact law_c29 hL C0 hK hA hAb hb0 hX hi5 (by omega) (by omega) hE T T2 TT im tl tz sn ss rf at9 hz nu dd er cg x5 ld bl bm M1 M2 M3 yf cd cn9 kn z9 Ms Mt at6 va6 img ahd mst fst9 now9 nxt9 hInv H locs hP hD hS ls hl
      by_cases s30 : k9 = 30
      · refine tp_i (y := 30) (by rw [s30]; rfl) ?_
        refine lv_tableIn (tgt := 865) hx hb dL_law_32 (by decide) (by decide) rfl (by decide) ?_
        exact law_c30 hL C0 hK hA hAb hb0 hX hi5 (by omega) (by omega) hE T T2 TT im tl tz sn ss rf at9 hz nu dd er cg x5 ld bl bm M1 M2 M3 yf cd cn9 kn z9 Ms Mt at6 va6 img ahd mst fst9 now9 nxt9 hInv H locs hP hD hS ls hl
      refine lv_tableOut (tgt := 888) hx hb dL_law_32 (by rw [nI_toInt (by omega)]; omega) (by decide) ?_
      refine W.widen (k := 100 + 2 * i + 2) (n := 7000 + 44 * i + 44) (by omega) (by omega) ?_
      exact hE T T2 TT im tl tz sn ss rf at9 hz nu dd er cg x5 ld bl bm M1 M2 M3 yf cd cn9 kn z9 Ms Mt at6 va6 img ahd mst fst9 now9 nxt9 hInv H locs hP hD hS ls hl
