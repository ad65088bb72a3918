set_option maxHeartbeats 4000000 in
set_option maxRecDepth 100000 in
/-- the loop over the calls -/
theorem law_loop {p : Program} {e : Env} {s : State} {m : MethodId} {below : List Frame} {meth : Method} {c : Code} (l : Launch) {dC : Nat → ClassId} {dI : Nat → Nat → Nat} {cs : Nat → ClassId} {b N : Nat} {xs : Nat → Int32} {L : List Nat} {A : Nat → Nat} {xo om : Nat} {K : Nat → Nat} {F : Nat → va_E} {H : Heap} {locs : List Loc} {ls : Array Slot} {adK adV : Nat → Nat} {tf : Option Nat} (C0 : lw_At p s m meth c b N xs) (hK : va_K (dC, dI) vwCl [(cs 0, .int), (cs 1, .byte), (cs 2, .long), (cs 3, .object RX5), (cs 4, .object RX4), (cs 5, .array .int), (cs 6, .char), (cs 7, .boolean)] s) (hD : ∀ G, va_D (fun q => q ∈ L) (va_pl L G)) (hLA : ∀ q, q ∈ L → s.heap.size ≤ q) (hZ : s_Z L adK adV tf s) (hNN : N ≤ 3072) (hcz : cs 24 = 0) (hV : lw_V cs L A xo om K 0 F) (hB0 : y_fi F xo 1 = y_fi F om 1) (hP : va_P (dC, dI) vwCl (va_pl L F) H) (hS : va_S (fun q : Nat => s.heap.size ≤ q) s.heap H locs) (hl : lv_has ls 4 [(3, .int 0), (2, .ref om), (1, .ref xo), (0, .ref b)]) : W p l e room_1 s m #[Value.ref b] below meth c H locs 892 240949 (lw_Z below #[Value.ref b] s) (F0 m 18 ls []) := by
  obtain ⟨hx, hb, hr, hml, hown0, hts0, hX, hbl, hlocks, hgv⟩ := id C0
  have hown : s.vm.findClass RL = some m.cls := hown0
  have hts : ∀ w ∈ T0, w.before #[Value.ref b] s = true := fun w h => hts0 w (ax_law w h).1
  have hN : ax_N s := ax_Nlaw hts0
  have hbA : ¬ (fun q : Nat => s.heap.size ≤ q) b := Nat.not_le.mpr hbl
  refine th_loop (fun n g H locs => ∃ (K : Nat → Nat) (D : Nat) (F : Nat → va_E) (ls : Array Slot) (i : Int32) (n9 : Nat), g = F0 m 18 ls [] ∧ lv_has ls 4 [(3, .int i), (2, .ref om), (1, .ref xo), (0, .ref b)] ∧ lw_V cs L A xo om K D F ∧ y_fi F xo 1 = y_fi F om 1 ∧ D ≤ 62000 * n9 ∧ i.toInt = 6 * (n9 : Int) ∧ 6 * n9 ≤ N ∧ va_P (dC, dI) vwCl (va_pl L F) H ∧ va_S (fun q : Nat => s.heap.size ≤ q) s.heap H locs ∧ n = N - 6 * n9) _ ⟨K, 0, F, ls, 0, 0, rfl, hl, hV, hB0, Nat.le_refl _, by decide, Nat.zero_le _, hP, hS, rfl⟩ (fun n ih g H locs hq => ?_)
  obtain ⟨K, D, F, ls, i, n9, rfl, hl, hV, hB0, hDn, hi9, hn9, hP, hS, rfl⟩ := hq
  refine lv_iload_n hx hb dL_law_18 rfl (lv_at hl 0 rfl) ?_
  refine lv_aload_n hx hb dL_law_19 rfl (lv_at hl 3 rfl) ?_
  refine va_slen hx hb hX hbl hbA hS dL_law_20 ?_
  refine lv_bipush (v := 6) hx hb dL_law_21 (by decide) ?_
  refine lv_isub hx hb dL_law_23 ?_
  have e6 : (Int32.ofNat N - 6).toInt = (N : Int) - 6 := th_sub (Int32.toInt_ofNat_of_lt (by omega)) (by decide) (by omega)
  refine lv_icmp_gt (tgt := 1105) hx hb dL_law_24 (by decide) (fun c6 => ?_) (fun c6 => ?_)
  · refine lv_iconst (v := 1) hx hb dL_law_1105 (by decide) ?_
    refine va_forget (fun q hq => hS.2.2 q hq) ?_
    refine W.widen (k := 600000) (n := 7302250) (Nat.le_of_ble_eq_true rfl) (Nat.le_of_ble_eq_true rfl) ?_
    exact lw_ret hx hb hr hlocks dL_law_1106
  · have c6 := mt Int32.lt_iff_toInt_lt.mpr c6
    rw [e6] at c6
    have hi : 0 ≤ i.toInt ∧ i.toInt + 6 ≤ N := ⟨by omega, by omega⟩
    have hn : n9 < 512 := by omega
    have KK : ∀ (K : Nat → Nat) (D : Nat) (F : Nat → va_E) (H : Heap) (locs : List Loc), lw_V cs L A xo om K D F → y_fi F xo 1 = y_fi F om 1 → D ≤ 62000 * (n9 + 1) → va_P (dC, dI) vwCl (va_pl L F) H → va_S (fun q : Nat => s.heap.size ≤ q) s.heap H locs → W p l e room_1 s m #[Value.ref b] below meth c H locs 892 240949 (lw_Z below #[Value.ref b] s) (F0 m 1099 ls []) := by
      intro K D F H locs hV hB0 hDn hP hS
      refine lv_iinc (v := i + 6) (lv' := [(3, .int (i + 6)), (2, .ref om), (1, .ref xo), (0, .ref b)]) hx hb dL_law_1099 hl (k := 0) rfl rfl (by decide) rfl (fun ls hl => ?_)
      refine lv_goto (tgt := 18) hx hb dL_law_1102 (by decide) ?_
      exact ih _ _ _ _ (by omega) ⟨K, D, F, ls, i + 6, n9 + 1, rfl, hl, hV, hB0, hDn, by rw [th_add rfl (show (6 : Int32).toInt = 6 by decide) (by omega)]; omega, by omega, hP, hS, rfl⟩
    refine lv_aload_n hx hb dL_law_27 rfl (lv_at hl 3 rfl) ?_
    refine lv_iload_n hx hb dL_law_28 rfl (lv_at hl 0 rfl) ?_
    refine va_sld hx hb hX hbl hbA hS (th_in ⟨by omega, by omega⟩) dL_law_29 ?_
    refine lv_topi (fun v0 ev0 => ?_)
    refine lv_bipush (v := 31) hx hb dL_law_30 (by decide) ?_
    refine lv_iand hx hb dL_law_32 ?_
    obtain ⟨j, hj, ej⟩ := pk_andE v0 (m := 31) 5 (by decide)
    refine ax_eqi ej ?_
    have hj32 : j = 0 ∨ j = 1 ∨ j = 2 ∨ j = 3 ∨ j = 4 ∨ j = 5 ∨ j = 6 ∨ j = 7 ∨ j = 8 ∨ j = 9 ∨ j = 10 ∨ j = 11 ∨ j = 12 ∨ j = 13 ∨ j = 14 ∨ j = 15 ∨ j = 16 ∨ j = 17 ∨ j = 18 ∨ j = 19 ∨ j = 20 ∨ j = 21 ∨ j = 22 ∨ j = 23 ∨ j = 24 ∨ j = 25 ∨ j = 26 ∨ j = 27 ∨ j = 28 ∨ j = 29 ∨ j = 30 ∨ j = 31 := by omega
    rcases hj32 with rfl | rfl | rfl | rfl | rfl | rfl | rfl | rfl | rfl | rfl | rfl | rfl | rfl | rfl | rfl | rfl | rfl | rfl | rfl | rfl | rfl | rfl | rfl | rfl | rfl | rfl | rfl | rfl | rfl | rfl | rfl | rfl
    · refine lv_tableIn (off := 131) (tgt := 164) hx hb dL_law_33 (by decide) (by decide) (by decide) (by decide) ?_
      exact law_c0 l C0 hK hD hLA hZ hNN hi hn hcz hV hB0 hDn hP hS hl KK
    · refine lv_tableIn (off := 194) (tgt := 227) hx hb dL_law_33 (by decide) (by decide) (by decide) (by decide) ?_
      exact law_c1 l C0 hK hD hLA hZ hNN hi hn hcz hV hB0 hDn hP hS hl KK
    · refine lv_tableIn (off := 217) (tgt := 250) hx hb dL_law_33 (by decide) (by decide) (by decide) (by decide) ?_
      exact law_c2 l C0 hK hD hLA hZ hNN hi hn hcz hV hB0 hDn hP hS hl KK
    · refine lv_tableIn (off := 230) (tgt := 263) hx hb dL_law_33 (by decide) (by decide) (by decide) (by decide) ?_
      exact law_c3 l C0 hK hD hLA hZ hNN hi hn hcz hV hB0 hDn hP hS hl KK
    · refine lv_tableIn (off := 253) (tgt := 286) hx hb dL_law_33 (by decide) (by decide) (by decide) (by decide) ?_
      exact law_c4 l C0 hK hD hLA hZ hNN hi hn hcz hV hB0 hDn hP hS hl KK
    · refine lv_tableIn (off := 276) (tgt := 309) hx hb dL_law_33 (by decide) (by decide) (by decide) (by decide) ?_
      exact law_c5 l C0 hK hD hLA hZ hNN hi hn hcz hV hB0 hDn hP hS hl KK
    · refine lv_tableIn (off := 309) (tgt := 342) hx hb dL_law_33 (by decide) (by decide) (by decide) (by decide) ?_
      exact law_c6 l C0 hK hD hLA hZ hNN hi hn hcz hV hB0 hDn hP hS hl KK
    · refine lv_tableIn (off := 352) (tgt := 385) hx hb dL_law_33 (by decide) (by decide) (by decide) (by decide) ?_
      exact law_c7 l C0 hK hD hLA hZ hNN hi hn hcz hV hB0 hDn hP hS hl KK
    · refine lv_tableIn (off := 385) (tgt := 418) hx hb dL_law_33 (by decide) (by decide) (by decide) (by decide) ?_
      exact law_c8 l C0 hK hD hLA hZ hNN hi hn hcz hV hB0 hDn hP hS hl KK
    · refine lv_tableIn (off := 428) (tgt := 461) hx hb dL_law_33 (by decide) (by decide) (by decide) (by decide) ?_
      exact law_c9 l C0 hK hD hLA hZ hNN hi hn hcz hV hB0 hDn hP hS hl KK
    · refine lv_tableIn (off := 477) (tgt := 510) hx hb dL_law_33 (by decide) (by decide) (by decide) (by decide) ?_
      exact law_c10 l C0 hK hD hLA hZ hNN hi hn hcz hV hB0 hDn hP hS hl KK
    · refine lv_tableIn (off := 526) (tgt := 559) hx hb dL_law_33 (by decide) (by decide) (by decide) (by decide) ?_
      exact law_c11 l C0 hK hD hLA hZ hNN hi hn hcz hV hB0 hDn hP hS hl KK
    · refine lv_tableIn (off := 559) (tgt := 592) hx hb dL_law_33 (by decide) (by decide) (by decide) (by decide) ?_
      exact law_c12 l C0 hK hD hLA hZ hNN hi hn hcz hV hB0 hDn hP hS hl KK
    · refine lv_tableIn (off := 582) (tgt := 615) hx hb dL_law_33 (by decide) (by decide) (by decide) (by decide) ?_
      exact law_c13 l C0 hK hD hLA hZ hNN hi hn hcz hV hB0 hDn hP hS hl KK
    · refine lv_tableIn (off := 605) (tgt := 638) hx hb dL_law_33 (by decide) (by decide) (by decide) (by decide) ?_
      exact law_c14 l C0 hK hD hLA hZ hNN hi hn hcz hV hB0 hDn hP hS hl KK
    · refine lv_tableIn (off := 658) (tgt := 691) hx hb dL_law_33 (by decide) (by decide) (by decide) (by decide) ?_
      exact law_c15 l C0 hK hD hLA hZ hNN hi hn hcz hV hB0 hDn hP hS hl KK
    · refine lv_tableIn (off := 701) (tgt := 734) hx hb dL_law_33 (by decide) (by decide) (by decide) (by decide) ?_
      exact law_c16 l C0 hK hD hLA hZ hNN hi hn hcz hV hB0 hDn hP hS hl KK
    · refine lv_tableIn (off := 724) (tgt := 757) hx hb dL_law_33 (by decide) (by decide) (by decide) (by decide) ?_
      exact law_c17 l C0 hK hD hLA hZ hNN hi hn hcz hV hB0 hDn hP hS hl KK
    · refine lv_tableIn (off := 767) (tgt := 800) hx hb dL_law_33 (by decide) (by decide) (by decide) (by decide) ?_
      exact law_c18 l C0 hK hD hLA hZ hNN hi hn hcz hV hB0 hDn hP hS hl KK
    · refine lv_tableIn (off := 780) (tgt := 813) hx hb dL_law_33 (by decide) (by decide) (by decide) (by decide) ?_
      exact law_c19 l C0 hK hD hLA hZ hNN hi hn hcz hV hB0 hDn hP hS hl KK
    · refine lv_tableIn (off := 823) (tgt := 856) hx hb dL_law_33 (by decide) (by decide) (by decide) (by decide) ?_
      exact law_c20 l C0 hK hD hLA hZ hNN hi hn hcz hV hB0 hDn hP hS hl KK
    · refine lv_tableIn (off := 846) (tgt := 879) hx hb dL_law_33 (by decide) (by decide) (by decide) (by decide) ?_
      exact law_c21 l C0 hK hD hLA hZ hNN hi hn hcz hV hB0 hDn hP hS hl KK
    · refine lv_tableIn (off := 869) (tgt := 902) hx hb dL_law_33 (by decide) (by decide) (by decide) (by decide) ?_
      exact law_c22 l C0 hK hD hLA hZ hNN hi hn hcz hV hB0 hDn hP hS hl KK
    · refine lv_tableIn (off := 928) (tgt := 961) hx hb dL_law_33 (by decide) (by decide) (by decide) (by decide) ?_
      exact law_c23 l C0 hK hD hLA hZ hNN hi hn hcz hV hB0 hDn hP hS hl KK
    · refine lv_tableIn (off := 971) (tgt := 1004) hx hb dL_law_33 (by decide) (by decide) (by decide) (by decide) ?_
      exact law_c24 l C0 hK hD hLA hZ hNN hi hn hcz hV hB0 hDn hP hS hl KK
    · refine lv_tableIn (off := 984) (tgt := 1017) hx hb dL_law_33 (by decide) (by decide) (by decide) (by decide) ?_
      exact law_c25 l C0 hK hD hLA hZ hNN hi hn hcz hV hB0 hDn hP hS hl KK
    · refine lv_tableIn (off := 1007) (tgt := 1040) hx hb dL_law_33 (by decide) (by decide) (by decide) (by decide) ?_
      exact law_c26 l C0 hK hD hLA hZ hNN hi hn hcz hV hB0 hDn hP hS hl KK
    · refine lv_tableIn (off := 1020) (tgt := 1053) hx hb dL_law_33 (by decide) (by decide) (by decide) (by decide) ?_
      exact law_c27 l C0 hK hD hLA hZ hNN hi hn hcz hV hB0 hDn hP hS hl KK
    · refine lv_tableIn (off := 1043) (tgt := 1076) hx hb dL_law_33 (by decide) (by decide) (by decide) (by decide) ?_
      exact law_c28 l C0 hK hD hLA hZ hNN hi hn hcz hV hB0 hDn hP hS hl KK
    · refine lv_tableOut (tgt := 1099) hx hb dL_law_33 (by decide) (by decide) ?_
      exact KK K D F H locs hV hB0 (by omega) hP hS
    · refine lv_tableOut (tgt := 1099) hx hb dL_law_33 (by decide) (by decide) ?_
      exact KK K D F H locs hV hB0 (by omega) hP hS
    · refine lv_tableOut (tgt := 1099) hx hb dL_law_33 (by decide) (by decide) ?_
      exact KK K D F H locs hV hB0 (by omega) hP hS
