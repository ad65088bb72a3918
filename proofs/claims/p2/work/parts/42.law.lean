set_option maxHeartbeats 4000000 in
set_option maxRecDepth 100000 in
/-- raced -/
theorem law_c10 {p : Program} {e : Env} {s : State} {m : MethodId} {below : List Frame} {meth : Method} {c : Code} (l : Launch) {dC : Nat → ClassId} {dI : Nat → Nat → Nat} {cs : Nat → ClassId} {b N : Nat} {xs : Nat → Int32} {L : List Nat} {A : Nat → Nat} {xo om : Nat} {K : Nat → Nat} {D : Nat} {F : Nat → va_E} {n9 : Nat} {i : Int32} {H : Heap} {locs : List Loc} {ls : Array Slot} {adK adV : Nat → Nat} {tf : Option Nat} (C0 : lw_At p s m meth c b N xs) (hK : va_K (dC, dI) vwCl [(cs 0, .int), (cs 1, .byte), (cs 2, .long), (cs 3, .object RX5), (cs 4, .object RX4), (cs 5, .array .int), (cs 6, .char), (cs 7, .boolean)] s) (hD : ∀ G, va_D (fun q => q ∈ L) (va_pl L G)) (hLA : ∀ q, q ∈ L → s.heap.size ≤ q) (hZ : s_Z L adK adV tf s) (hNN : N ≤ 3072) (hi : 0 ≤ i.toInt ∧ i.toInt + 6 ≤ N) (hn : n9 < 512) (hcz : cs 24 = 0) (hV : lw_V cs L A xo om K D F) (hB0 : y_fi F xo 1 = y_fi F om 1) (hDn : D ≤ 62000 * n9) (hP : va_P (dC, dI) vwCl (va_pl L F) H) (hS : va_S (fun q : Nat => s.heap.size ≤ q) s.heap H locs) (hl : lv_has ls 4 [(3, .int i), (2, .ref om), (1, .ref xo), (0, .ref b)]) (KK : ∀ (K : Nat → Nat) (D : Nat) (F : Nat → va_E) (H : Heap) (locs : List Loc), lw_V cs L A xo om K D F → y_fi F xo 1 = y_fi F om 1 → D ≤ 62000 * (n9 + 1) → va_P (dC, dI) vwCl (va_pl L F) H → va_S (fun q : Nat => s.heap.size ≤ q) s.heap H locs → W p l e room_1 s m #[Value.ref b] below meth c H locs 892 240949 (lw_Z below #[Value.ref b] s) (F0 m 1099 ls [])) : W p l e room_1 s m #[Value.ref b] below meth c H locs 892 240949 (lw_Z below #[Value.ref b] s) (F0 m 510 ls []) := by
  obtain ⟨hx, hb, hr, hml, hown0, hts0, hX, hbl, hlocks, hgv⟩ := id C0
  have hown : s.vm.findClass RL = some m.cls := hown0
  have hts : ∀ w ∈ T0, w.before #[Value.ref b] s = true := fun w h => hts0 w (ax_law w h).1
  have hN : ax_N s := ax_Nlaw hts0
  have hbA : ¬ (fun q : Nat => s.heap.size ≤ q) b := Nat.not_le.mpr hbl
  refine lv_aload_n hx hb dL_law_510 rfl (lv_at hl 2 rfl) ?_
  refine lv_aload_n hx hb dL_law_511 rfl (lv_at hl 3 rfl) ?_
  refine lv_iload_n hx hb dL_law_512 rfl (lv_at hl 0 rfl) ?_
  refine lv_iconst (v := 1) hx hb dL_law_513 (by decide) ?_
  refine lv_iadd hx hb dL_law_514 ?_
  refine va_sld hx hb hX hbl hbA hS (lw_in hi hNN (by decide)) dL_law_515 ?_
  refine lv_topi (fun v1 ev1 => ?_)
  suffices kk : ∀ w : Int32, (0 ≤ w.toInt ∧ w.toInt ≤ 1) → W p l e room_1 s m #[Value.ref b] below meth c H locs 892 240949 (lw_Z below #[Value.ref b] s) (F0 m 524 ls (.int w :: [.ref xo])) by
    refine lv_if_eq (tgt := 523) hx hb dL_law_516 (by decide) (fun _ => ?_) (fun _ => ?_)
    · refine lv_iconst (v := 0) hx hb dL_law_523 (by decide) ?_
      exact kk 0 (by decide)
    · refine lv_iconst (v := 1) hx hb dL_law_519 (by decide) ?_
      refine lv_goto (tgt := 524) hx hb dL_law_520 (by decide) ?_
      exact kk 1 (by decide)
  intro w2 hw2
  refine lv_aload_n hx hb dL_law_524 rfl (lv_at hl 3 rfl) ?_
  refine lv_iload_n hx hb dL_law_525 rfl (lv_at hl 0 rfl) ?_
  refine lv_iconst (v := 2) hx hb dL_law_526 (by decide) ?_
  refine lv_iadd hx hb dL_law_527 ?_
  refine va_sld hx hb hX hbl hbA hS (lw_in hi hNN (by decide)) dL_law_528 ?_
  refine lv_topi (fun v3 ev3 => ?_)
  obtain ⟨hLK0, hk7, hk9, hI, hPG, hRI, hRJ, hUQ, hyA, hyI, hyT⟩ := id hV
  have hLK : ∀ a {k : Nat}, K a = k → k ≠ 0 → a ∈ L := fun a k e q => hLK0 a (by rw [e]; exact q)
  obtain ⟨fs6, o6⟩ := lw_o6 hI hk7
  have hIc := lw_cI hUQ.1 (lw_nn hk7 hI) hI
  have hKc : va_K (dC, dI) vwCl [(lw_c1 cs (y_fi F xo 1).toInt.toNat 0, .int), (lw_c1 cs (y_fi F xo 1).toInt.toNat 1, .byte), (lw_c1 cs (y_fi F xo 1).toInt.toNat 2, .long), (lw_c1 cs (y_fi F xo 1).toInt.toNat 3, .object RX5), (lw_c1 cs (y_fi F xo 1).toInt.toNat 4, .object RX4), (lw_c1 cs (y_fi F xo 1).toInt.toNat 5, .array .int), (lw_c1 cs (y_fi F xo 1).toInt.toNat 6, .char), (lw_c1 cs (y_fi F xo 1).toInt.toNat 7, .boolean)] s := hK
  refine va_calli (va_runV (As := [.int w2, .int v3]) (rest := []) ⟨hx, hb, hml, hown, hts⟩ (s_X6_raced l dC dI H.size (cs := lw_c1 cs (y_fi F xo 1).toInt.toNat) hLK D F xo w2 v3 hk7 hw2 hIc) (cwV 2 hts (ax_gV T_512 T_364 T_365 T_193 T_57) rfl rfl rfl (by decide +kernel) ⟨Nat.le_of_ble_eq_true rfl, Nat.le_of_ble_eq_true rfl⟩) ⟨fun a U g mk q => ⟨q.1, s_pc (U := U) rfl rfl q.2⟩, s_recv hK hP (hLK _ hk7 (by decide)) (ci := 6) rfl o6, fun U hU hW => ⟨rfl, s_pw hU hW hP hKc hD hN⟩⟩ rfl rfl hl.1 rfl (lv_room (Nat.le_of_ble_eq_true rfl)) dL_law_529 ⟨Nat.le_of_ble_eq_true rfl, Nat.le_of_ble_eq_true rfl⟩) hS (fun q _ h => hLA q h) (fun q h => hLA q h) (fun r4 F5 t H1 locs ht hvm hw hB hz1 hk1 hS => ?_)
  obtain ⟨hP, hK1⟩ := hB
  rw [ht] at hP
  generalize H1 = H at hP hS ⊢
  obtain ⟨hb_r4, hc_r4, hI, hfr1⟩ := hw
  have hx1 : y_fi F5 xo 1 = y_fi F xo 1 := Int32.toInt_inj.mp ((lw_cE hk7 hI).trans (lw_nn hk7 (lw_cB hcz hIc)).symm)
  have hI := lw_cB hcz hI
  have hV := lw_x hV hI hfr1 (by decide)
  have ho1 : y_fi F5 om 1 = y_fi F om 1 := lw_fi (hfr1 om (by rw [hk9]; decide)) 1
  refine W.widen (k := 892) (n := 240949) (Nat.le_of_ble_eq_true rfl) (Nat.le_of_ble_eq_true rfl) ?_
  refine lv_pop hx hb dL_law_532 rfl ?_
  refine lv_aload_n hx hb dL_law_533 rfl (lv_at hl 1 rfl) ?_
  refine lv_aload_n hx hb dL_law_534 rfl (lv_at hl 3 rfl) ?_
  refine lv_iload_n hx hb dL_law_535 rfl (lv_at hl 0 rfl) ?_
  refine lv_iconst (v := 1) hx hb dL_law_536 (by decide) ?_
  refine lv_iadd hx hb dL_law_537 ?_
  refine va_sld hx hb hX hbl hbA hS (lw_in hi hNN (by decide)) dL_law_538 ?_
  refine lv_topi (fun v6 ev6 => ?_)
  suffices kk : ∀ w : Int32, (0 ≤ w.toInt ∧ w.toInt ≤ 1) → W p l e room_1 s m #[Value.ref b] below meth c H locs 892 240949 (lw_Z below #[Value.ref b] s) (F0 m 547 ls (.int w :: [.ref om])) by
    refine lv_if_eq (tgt := 546) hx hb dL_law_539 (by decide) (fun _ => ?_) (fun _ => ?_)
    · refine lv_iconst (v := 0) hx hb dL_law_546 (by decide) ?_
      exact kk 0 (by decide)
    · refine lv_iconst (v := 1) hx hb dL_law_542 (by decide) ?_
      refine lv_goto (tgt := 547) hx hb dL_law_543 (by decide) ?_
      exact kk 1 (by decide)
  intro w7 hw7
  refine lv_aload_n hx hb dL_law_547 rfl (lv_at hl 3 rfl) ?_
  refine lv_iload_n hx hb dL_law_548 rfl (lv_at hl 0 rfl) ?_
  refine lv_iconst (v := 2) hx hb dL_law_549 (by decide) ?_
  refine lv_iadd hx hb dL_law_550 ?_
  refine va_sld hx hb hX hbl hbA hS (lw_in hi hNN (by decide)) dL_law_551 ?_
  refine lv_topi (fun v8 ev8 => ?_)
  obtain ⟨hLK0, hk7, hk9, hI, hPG, hRI, hRJ, hUQ, hyA, hyI, hyT⟩ := id hV
  have hLK : ∀ a {k : Nat}, K a = k → k ≠ 0 → a ∈ L := fun a k e q => hLK0 a (by rw [e]; exact q)
  obtain ⟨z7, q7, o7, -⟩ := hyI.1 om hk9
  refine va_calli (va_runV (As := [.int w7, .int v8]) (rest := []) ⟨hx, hb, hml, hown, hts⟩ (y_X7_raced l dC dI H.size hLK A hyA F5 om w7 v8 hk9 hw7 hyI hyT) (cwV 2 hts (ax_gV T_513 T_366 T_367 T_265 T_58) rfl rfl rfl (by decide +kernel) ⟨Nat.le_of_ble_eq_true rfl, Nat.le_of_ble_eq_true rfl⟩) ⟨fun a U g mk q => ⟨q.1, s_pc (U := U) rfl rfl q.2⟩, s_recv hK hP (hLK _ hk9 (by decide)) (ci := 7) rfl o7, fun U hU hW => ⟨rfl, s_pw hU hW hP hK hD hN⟩⟩ rfl rfl hl.1 rfl (lv_room (Nat.le_of_ble_eq_true rfl)) dL_law_552 ⟨Nat.le_of_ble_eq_true rfl, Nat.le_of_ble_eq_true rfl⟩) hS (fun q _ h => hLA q h) (fun q h => hLA q h) (fun r9 F10 t H1 locs ht hvm hw hB hz1 hk1 hS => ?_)
  obtain ⟨hP, hK1⟩ := hB
  rw [ht] at hP
  generalize H1 = H at hP hS ⊢
  obtain ⟨hb_r9, hc_r9, hyI, hfr1, hf1, hp_r9⟩ := hw
  have hV := lw_y hV hyI hfr1 (by decide) hp_r9
  have hx2 : y_fi F10 xo 1 = y_fi F5 xo 1 := lw_fi (hfr1 xo (by rw [hk7]; decide)) 1
  have ho2 : y_fi F10 om 1 = y_fi F5 om 1 := hf1 1 (by decide)
  refine W.widen (k := 892) (n := 240949) (Nat.le_of_ble_eq_true rfl) (Nat.le_of_ble_eq_true rfl) ?_
  refine lv_pop hx hb dL_law_555 rfl ?_
  have hB9 : y_fi F10 xo 1 = y_fi F10 om 1 := hx2.trans (hx1.trans (hB0.trans (ho1.symm.trans ho2.symm)))
  refine lv_goto (tgt := 1099) hx hb dL_law_556 (by decide) ?_
  exact KK _ _ _ _ _ hV hB9 (by omega) hP hS
set_option maxHeartbeats 4000000 in
set_option maxRecDepth 100000 in
/-- kept -/
theorem law_c11 {p : Program} {e : Env} {s : State} {m : MethodId} {below : List Frame} {meth : Method} {c : Code} (l : Launch) {dC : Nat → ClassId} {dI : Nat → Nat → Nat} {cs : Nat → ClassId} {b N : Nat} {xs : Nat → Int32} {L : List Nat} {A : Nat → Nat} {xo om : Nat} {K : Nat → Nat} {D : Nat} {F : Nat → va_E} {n9 : Nat} {i : Int32} {H : Heap} {locs : List Loc} {ls : Array Slot} {adK adV : Nat → Nat} {tf : Option Nat} (C0 : lw_At p s m meth c b N xs) (hK : va_K (dC, dI) vwCl [(cs 0, .int), (cs 1, .byte), (cs 2, .long), (cs 3, .object RX5), (cs 4, .object RX4), (cs 5, .array .int), (cs 6, .char), (cs 7, .boolean)] s) (hD : ∀ G, va_D (fun q => q ∈ L) (va_pl L G)) (hLA : ∀ q, q ∈ L → s.heap.size ≤ q) (hZ : s_Z L adK adV tf s) (hNN : N ≤ 3072) (hi : 0 ≤ i.toInt ∧ i.toInt + 6 ≤ N) (hn : n9 < 512) (hcz : cs 24 = 0) (hV : lw_V cs L A xo om K D F) (hB0 : y_fi F xo 1 = y_fi F om 1) (hDn : D ≤ 62000 * n9) (hP : va_P (dC, dI) vwCl (va_pl L F) H) (hS : va_S (fun q : Nat => s.heap.size ≤ q) s.heap H locs) (hl : lv_has ls 4 [(3, .int i), (2, .ref om), (1, .ref xo), (0, .ref b)]) (KK : ∀ (K : Nat → Nat) (D : Nat) (F : Nat → va_E) (H : Heap) (locs : List Loc), lw_V cs L A xo om K D F → y_fi F xo 1 = y_fi F om 1 → D ≤ 62000 * (n9 + 1) → va_P (dC, dI) vwCl (va_pl L F) H → va_S (fun q : Nat => s.heap.size ≤ q) s.heap H locs → W p l e room_1 s m #[Value.ref b] below meth c H locs 892 240949 (lw_Z below #[Value.ref b] s) (F0 m 1099 ls [])) : W p l e room_1 s m #[Value.ref b] below meth c H locs 892 240949 (lw_Z below #[Value.ref b] s) (F0 m 559 ls []) := by
  obtain ⟨hx, hb, hr, hml, hown0, hts0, hX, hbl, hlocks, hgv⟩ := id C0
  have hown : s.vm.findClass RL = some m.cls := hown0
  have hts : ∀ w ∈ T0, w.before #[Value.ref b] s = true := fun w h => hts0 w (ax_law w h).1
  have hN : ax_N s := ax_Nlaw hts0
  have hbA : ¬ (fun q : Nat => s.heap.size ≤ q) b := Nat.not_le.mpr hbl
  refine lv_aload_n hx hb dL_law_559 rfl (lv_at hl 2 rfl) ?_
  refine lv_aload_n hx hb dL_law_560 rfl (lv_at hl 3 rfl) ?_
  refine lv_iload_n hx hb dL_law_561 rfl (lv_at hl 0 rfl) ?_
  refine lv_iconst (v := 1) hx hb dL_law_562 (by decide) ?_
  refine lv_iadd hx hb dL_law_563 ?_
  refine va_sld hx hb hX hbl hbA hS (lw_in hi hNN (by decide)) dL_law_564 ?_
  refine lv_topi (fun v1 ev1 => ?_)
  refine lv_aload_n hx hb dL_law_565 rfl (lv_at hl 3 rfl) ?_
  refine lv_iload_n hx hb dL_law_566 rfl (lv_at hl 0 rfl) ?_
  refine lv_iconst (v := 2) hx hb dL_law_567 (by decide) ?_
  refine lv_iadd hx hb dL_law_568 ?_
  refine va_sld hx hb hX hbl hbA hS (lw_in hi hNN (by decide)) dL_law_569 ?_
  refine lv_topi (fun v2 ev2 => ?_)
  obtain ⟨hLK0, hk7, hk9, hI, hPG, hRI, hRJ, hUQ, hyA, hyI, hyT⟩ := id hV
  have hLK : ∀ a {k : Nat}, K a = k → k ≠ 0 → a ∈ L := fun a k e q => hLK0 a (by rw [e]; exact q)
  obtain ⟨fs6, o6⟩ := lw_o6 hI hk7
  have hIc := lw_cI hUQ.1 (lw_nn hk7 hI) hI
  have hKc : va_K (dC, dI) vwCl [(lw_c1 cs (y_fi F xo 1).toInt.toNat 0, .int), (lw_c1 cs (y_fi F xo 1).toInt.toNat 1, .byte), (lw_c1 cs (y_fi F xo 1).toInt.toNat 2, .long), (lw_c1 cs (y_fi F xo 1).toInt.toNat 3, .object RX5), (lw_c1 cs (y_fi F xo 1).toInt.toNat 4, .object RX4), (lw_c1 cs (y_fi F xo 1).toInt.toNat 5, .array .int), (lw_c1 cs (y_fi F xo 1).toInt.toNat 6, .char), (lw_c1 cs (y_fi F xo 1).toInt.toNat 7, .boolean)] s := hK
  refine va_calli (va_runV (As := [.int v1, .int v2]) (rest := []) ⟨hx, hb, hml, hown, hts⟩ (s_X6_kept l dC dI H.size (cs := lw_c1 cs (y_fi F xo 1).toInt.toNat) hLK D F xo v1 v2 hk7 hIc) (cwV 2 hts (ax_gV T_514 T_368 T_369 T_193 T_59) rfl rfl rfl (by decide +kernel) ⟨Nat.le_of_ble_eq_true rfl, Nat.le_of_ble_eq_true rfl⟩) ⟨fun a U g mk q => ⟨q.1, s_pc (U := U) rfl rfl q.2⟩, s_recv hK hP (hLK _ hk7 (by decide)) (ci := 6) rfl o6, fun U hU hW => ⟨rfl, s_pw hU hW hP hKc hD hN⟩⟩ rfl rfl hl.1 rfl (lv_room (Nat.le_of_ble_eq_true rfl)) dL_law_570 ⟨Nat.le_of_ble_eq_true rfl, Nat.le_of_ble_eq_true rfl⟩) hS (fun q _ h => hLA q h) (fun q h => hLA q h) (fun r3 F4 t H1 locs ht hvm hw hB hz1 hk1 hS => ?_)
  obtain ⟨hP, hK1⟩ := hB
  rw [ht] at hP
  generalize H1 = H at hP hS ⊢
  obtain ⟨hb_r3, hc_r3, hI, hfr1⟩ := hw
  have hx1 : y_fi F4 xo 1 = y_fi F xo 1 := Int32.toInt_inj.mp ((lw_cE hk7 hI).trans (lw_nn hk7 (lw_cB hcz hIc)).symm)
  have hI := lw_cB hcz hI
  have hV := lw_x hV hI hfr1 (by decide)
  have ho1 : y_fi F4 om 1 = y_fi F om 1 := lw_fi (hfr1 om (by rw [hk9]; decide)) 1
  refine W.widen (k := 892) (n := 240949) (Nat.le_of_ble_eq_true rfl) (Nat.le_of_ble_eq_true rfl) ?_
  refine lv_pop hx hb dL_law_573 rfl ?_
  refine lv_aload_n hx hb dL_law_574 rfl (lv_at hl 1 rfl) ?_
  refine lv_aload_n hx hb dL_law_575 rfl (lv_at hl 3 rfl) ?_
  refine lv_iload_n hx hb dL_law_576 rfl (lv_at hl 0 rfl) ?_
  refine lv_iconst (v := 1) hx hb dL_law_577 (by decide) ?_
  refine lv_iadd hx hb dL_law_578 ?_
  refine va_sld hx hb hX hbl hbA hS (lw_in hi hNN (by decide)) dL_law_579 ?_
  refine lv_topi (fun v5 ev5 => ?_)
  refine lv_aload_n hx hb dL_law_580 rfl (lv_at hl 3 rfl) ?_
  refine lv_iload_n hx hb dL_law_581 rfl (lv_at hl 0 rfl) ?_
  refine lv_iconst (v := 2) hx hb dL_law_582 (by decide) ?_
  refine lv_iadd hx hb dL_law_583 ?_
  refine va_sld hx hb hX hbl hbA hS (lw_in hi hNN (by decide)) dL_law_584 ?_
  refine lv_topi (fun v6 ev6 => ?_)
  obtain ⟨hLK0, hk7, hk9, hI, hPG, hRI, hRJ, hUQ, hyA, hyI, hyT⟩ := id hV
  have hLK : ∀ a {k : Nat}, K a = k → k ≠ 0 → a ∈ L := fun a k e q => hLK0 a (by rw [e]; exact q)
  obtain ⟨z7, q7, o7, -⟩ := hyI.1 om hk9
  refine va_calli (va_runV (As := [.int v5, .int v6]) (rest := []) ⟨hx, hb, hml, hown, hts⟩ (y_X7_kept l dC dI H.size hLK A hyA F4 om v5 v6 hk9 hyI hyT) (cwV 2 hts (ax_gV T_515 T_370 T_371 T_265 T_60) rfl rfl rfl (by decide +kernel) ⟨Nat.le_of_ble_eq_true rfl, Nat.le_of_ble_eq_true rfl⟩) ⟨fun a U g mk q => ⟨q.1, s_pc (U := U) rfl rfl q.2⟩, s_recv hK hP (hLK _ hk9 (by decide)) (ci := 7) rfl o7, fun U hU hW => ⟨rfl, s_pw hU hW hP hK hD hN⟩⟩ rfl rfl hl.1 rfl (lv_room (Nat.le_of_ble_eq_true rfl)) dL_law_585 ⟨Nat.le_of_ble_eq_true rfl, Nat.le_of_ble_eq_true rfl⟩) hS (fun q _ h => hLA q h) (fun q h => hLA q h) (fun r7 F8 t H1 locs ht hvm hw hB hz1 hk1 hS => ?_)
  obtain ⟨hP, hK1⟩ := hB
  rw [ht] at hP
  generalize H1 = H at hP hS ⊢
  obtain ⟨hb_r7, hc_r7, hyI, hfr1, hf1, hp_r7⟩ := hw
  have hV := lw_y hV hyI hfr1 (by decide) hp_r7
  have hx2 : y_fi F8 xo 1 = y_fi F4 xo 1 := lw_fi (hfr1 xo (by rw [hk7]; decide)) 1
  have ho2 : y_fi F8 om 1 = y_fi F4 om 1 := hf1 1 (by decide)
  refine W.widen (k := 892) (n := 240949) (Nat.le_of_ble_eq_true rfl) (Nat.le_of_ble_eq_true rfl) ?_
  refine lv_pop hx hb dL_law_588 rfl ?_
  have hB9 : y_fi F8 xo 1 = y_fi F8 om 1 := hx2.trans (hx1.trans (hB0.trans (ho1.symm.trans ho2.symm)))
  refine lv_goto (tgt := 1099) hx hb dL_law_589 (by decide) ?_
  exact KK _ _ _ _ _ hV hB9 (by omega) hP hS
set_option maxHeartbeats 4000000 in
set_option maxRecDepth 100000 in
/-- next -/
theorem law_c12 {p : Program} {e : Env} {s : State} {m : MethodId} {below : List Frame} {meth : Method} {c : Code} (l : Launch) {dC : Nat → ClassId} {dI : Nat → Nat → Nat} {cs : Nat → ClassId} {b N : Nat} {xs : Nat → Int32} {L : List Nat} {A : Nat → Nat} {xo om : Nat} {K : Nat → Nat} {D : Nat} {F : Nat → va_E} {n9 : Nat} {i : Int32} {H : Heap} {locs : List Loc} {ls : Array Slot} {adK adV : Nat → Nat} {tf : Option Nat} (C0 : lw_At p s m meth c b N xs) (hK : va_K (dC, dI) vwCl [(cs 0, .int), (cs 1, .byte), (cs 2, .long), (cs 3, .object RX5), (cs 4, .object RX4), (cs 5, .array .int), (cs 6, .char), (cs 7, .boolean)] s) (hD : ∀ G, va_D (fun q => q ∈ L) (va_pl L G)) (hLA : ∀ q, q ∈ L → s.heap.size ≤ q) (hZ : s_Z L adK adV tf s) (hNN : N ≤ 3072) (hi : 0 ≤ i.toInt ∧ i.toInt + 6 ≤ N) (hn : n9 < 512) (hcz : cs 24 = 0) (hV : lw_V cs L A xo om K D F) (hB0 : y_fi F xo 1 = y_fi F om 1) (hDn : D ≤ 62000 * n9) (hP : va_P (dC, dI) vwCl (va_pl L F) H) (hS : va_S (fun q : Nat => s.heap.size ≤ q) s.heap H locs) (hl : lv_has ls 4 [(3, .int i), (2, .ref om), (1, .ref xo), (0, .ref b)]) (KK : ∀ (K : Nat → Nat) (D : Nat) (F : Nat → va_E) (H : Heap) (locs : List Loc), lw_V cs L A xo om K D F → y_fi F xo 1 = y_fi F om 1 → D ≤ 62000 * (n9 + 1) → va_P (dC, dI) vwCl (va_pl L F) H → va_S (fun q : Nat => s.heap.size ≤ q) s.heap H locs → W p l e room_1 s m #[Value.ref b] below meth c H locs 892 240949 (lw_Z below #[Value.ref b] s) (F0 m 1099 ls [])) : W p l e room_1 s m #[Value.ref b] below meth c H locs 892 240949 (lw_Z below #[Value.ref b] s) (F0 m 592 ls []) := by
  obtain ⟨hx, hb, hr, hml, hown0, hts0, hX, hbl, hlocks, hgv⟩ := id C0
  have hown : s.vm.findClass RL = some m.cls := hown0
  have hts : ∀ w ∈ T0, w.before #[Value.ref b] s = true := fun w h => hts0 w (ax_law w h).1
  have hN : ax_N s := ax_Nlaw hts0
  have hbA : ¬ (fun q : Nat => s.heap.size ≤ q) b := Nat.not_le.mpr hbl
  refine lv_aload_n hx hb dL_law_592 rfl (lv_at hl 2 rfl) ?_
  refine lv_aload_n hx hb dL_law_593 rfl (lv_at hl 3 rfl) ?_
  refine lv_iload_n hx hb dL_law_594 rfl (lv_at hl 0 rfl) ?_
  refine lv_iconst (v := 1) hx hb dL_law_595 (by decide) ?_
  refine lv_iadd hx hb dL_law_596 ?_
  refine va_sld hx hb hX hbl hbA hS (lw_in hi hNN (by decide)) dL_law_597 ?_
  refine lv_topi (fun v1 ev1 => ?_)
  obtain ⟨hLK0, hk7, hk9, hI, hPG, hRI, hRJ, hUQ, hyA, hyI, hyT⟩ := id hV
  have hLK : ∀ a {k : Nat}, K a = k → k ≠ 0 → a ∈ L := fun a k e q => hLK0 a (by rw [e]; exact q)
  obtain ⟨fs6, o6⟩ := lw_o6 hI hk7
  have hIc := lw_cI hUQ.1 (lw_nn hk7 hI) hI
  have hKc : va_K (dC, dI) vwCl [(lw_c1 cs (y_fi F xo 1).toInt.toNat 0, .int), (lw_c1 cs (y_fi F xo 1).toInt.toNat 1, .byte), (lw_c1 cs (y_fi F xo 1).toInt.toNat 2, .long), (lw_c1 cs (y_fi F xo 1).toInt.toNat 3, .object RX5), (lw_c1 cs (y_fi F xo 1).toInt.toNat 4, .object RX4), (lw_c1 cs (y_fi F xo 1).toInt.toNat 5, .array .int), (lw_c1 cs (y_fi F xo 1).toInt.toNat 6, .char), (lw_c1 cs (y_fi F xo 1).toInt.toNat 7, .boolean)] s := hK
  have hPGc : s_PG K (lw_c1 cs (y_fi F xo 1).toInt.toNat) F := hPG
  refine va_calli (va_runV (As := [.int v1]) (rest := []) ⟨hx, hb, hml, hown, hts⟩ (s_X6_next l dC dI H.size (cs := lw_c1 cs (y_fi F xo 1).toInt.toNat) hLK D F xo v1 hk7 hIc hPGc) (cwV 1 hts (ax_gV T_516 T_372 T_373 T_193 T_61) rfl rfl rfl (by decide +kernel) ⟨Nat.le_of_ble_eq_true rfl, Nat.le_of_ble_eq_true rfl⟩) ⟨fun a U g mk q => ⟨q.1, s_pc (U := U) rfl rfl q.2⟩, s_recv hK hP (hLK _ hk7 (by decide)) (ci := 6) rfl o6, fun U hU hW => ⟨rfl, s_pw hU hW hP hKc hD hN⟩⟩ rfl rfl hl.1 rfl (lv_room (Nat.le_of_ble_eq_true rfl)) dL_law_598 ⟨Nat.le_of_ble_eq_true rfl, Nat.le_of_ble_eq_true rfl⟩) hS (fun q _ h => hLA q h) (fun q h => hLA q h) (fun r2 F3 t H1 locs ht hvm hw hB hz1 hk1 hS => ?_)
  obtain ⟨hP, hK1⟩ := hB
  rw [ht] at hP
  generalize H1 = H at hP hS ⊢
  obtain ⟨hb_r2, hc_r2, hI, hfr1⟩ := hw
  have hx1 : y_fi F3 xo 1 = y_fi F xo 1 := Int32.toInt_inj.mp ((lw_cE hk7 hI).trans (lw_nn hk7 (lw_cB hcz hIc)).symm)
  have hI := lw_cB hcz hI
  have hV := lw_x hV hI hfr1 (by decide)
  have ho1 : y_fi F3 om 1 = y_fi F om 1 := lw_fi (hfr1 om (by rw [hk9]; decide)) 1
  refine W.widen (k := 892) (n := 240949) (Nat.le_of_ble_eq_true rfl) (Nat.le_of_ble_eq_true rfl) ?_
  refine lv_pop hx hb dL_law_601 rfl ?_
  refine lv_aload_n hx hb dL_law_602 rfl (lv_at hl 1 rfl) ?_
  refine lv_aload_n hx hb dL_law_603 rfl (lv_at hl 3 rfl) ?_
  refine lv_iload_n hx hb dL_law_604 rfl (lv_at hl 0 rfl) ?_
  refine lv_iconst (v := 1) hx hb dL_law_605 (by decide) ?_
  refine lv_iadd hx hb dL_law_606 ?_
  refine va_sld hx hb hX hbl hbA hS (lw_in hi hNN (by decide)) dL_law_607 ?_
  refine lv_topi (fun v4 ev4 => ?_)
  obtain ⟨hLK0, hk7, hk9, hI, hPG, hRI, hRJ, hUQ, hyA, hyI, hyT⟩ := id hV
  have hLK : ∀ a {k : Nat}, K a = k → k ≠ 0 → a ∈ L := fun a k e q => hLK0 a (by rw [e]; exact q)
  obtain ⟨z7, q7, o7, -⟩ := hyI.1 om hk9
  refine va_calli (va_runV (As := [.int v4]) (rest := []) ⟨hx, hb, hml, hown, hts⟩ (y_X7_next l dC dI H.size hLK A hyA F3 om v4 hk9 hyI hyT) (cwV 1 hts (ax_gV T_517 T_374 T_375 T_265 T_62) rfl rfl rfl (by decide +kernel) ⟨Nat.le_of_ble_eq_true rfl, Nat.le_of_ble_eq_true rfl⟩) ⟨fun a U g mk q => ⟨q.1, s_pc (U := U) rfl rfl q.2⟩, s_recv hK hP (hLK _ hk9 (by decide)) (ci := 7) rfl o7, fun U hU hW => ⟨rfl, s_pw hU hW hP hK hD hN⟩⟩ rfl rfl hl.1 rfl (lv_room (Nat.le_of_ble_eq_true rfl)) dL_law_608 ⟨Nat.le_of_ble_eq_true rfl, Nat.le_of_ble_eq_true rfl⟩) hS (fun q _ h => hLA q h) (fun q h => hLA q h) (fun r5 F6 t H1 locs ht hvm hw hB hz1 hk1 hS => ?_)
  obtain ⟨hP, hK1⟩ := hB
  rw [ht] at hP
  generalize H1 = H at hP hS ⊢
  obtain ⟨hb_r5, hc_r5, hyI, hfr1, hf1, hp_r5⟩ := hw
  have hV := lw_y hV hyI hfr1 (by decide) hp_r5
  have hx2 : y_fi F6 xo 1 = y_fi F3 xo 1 := lw_fi (hfr1 xo (by rw [hk7]; decide)) 1
  have ho2 : y_fi F6 om 1 = y_fi F3 om 1 := hf1 1 (by decide)
  refine W.widen (k := 892) (n := 240949) (Nat.le_of_ble_eq_true rfl) (Nat.le_of_ble_eq_true rfl) ?_
  refine lv_pop hx hb dL_law_611 rfl ?_
  have hB9 : y_fi F6 xo 1 = y_fi F6 om 1 := hx2.trans (hx1.trans (hB0.trans (ho1.symm.trans ho2.symm)))
  refine lv_goto (tgt := 1099) hx hb dL_law_612 (by decide) ?_
  exact KK _ _ _ _ _ hV hB9 (by omega) hP hS
set_option maxHeartbeats 4000000 in
set_option maxRecDepth 100000 in
/-- goes -/
theorem law_c13 {p : Program} {e : Env} {s : State} {m : MethodId} {below : List Frame} {meth : Method} {c : Code} (l : Launch) {dC : Nat → ClassId} {dI : Nat → Nat → Nat} {cs : Nat → ClassId} {b N : Nat} {xs : Nat → Int32} {L : List Nat} {A : Nat → Nat} {xo om : Nat} {K : Nat → Nat} {D : Nat} {F : Nat → va_E} {n9 : Nat} {i : Int32} {H : Heap} {locs : List Loc} {ls : Array Slot} {adK adV : Nat → Nat} {tf : Option Nat} (C0 : lw_At p s m meth c b N xs) (hK : va_K (dC, dI) vwCl [(cs 0, .int), (cs 1, .byte), (cs 2, .long), (cs 3, .object RX5), (cs 4, .object RX4), (cs 5, .array .int), (cs 6, .char), (cs 7, .boolean)] s) (hD : ∀ G, va_D (fun q => q ∈ L) (va_pl L G)) (hLA : ∀ q, q ∈ L → s.heap.size ≤ q) (hZ : s_Z L adK adV tf s) (hNN : N ≤ 3072) (hi : 0 ≤ i.toInt ∧ i.toInt + 6 ≤ N) (hn : n9 < 512) (hcz : cs 24 = 0) (hV : lw_V cs L A xo om K D F) (hB0 : y_fi F xo 1 = y_fi F om 1) (hDn : D ≤ 62000 * n9) (hP : va_P (dC, dI) vwCl (va_pl L F) H) (hS : va_S (fun q : Nat => s.heap.size ≤ q) s.heap H locs) (hl : lv_has ls 4 [(3, .int i), (2, .ref om), (1, .ref xo), (0, .ref b)]) (KK : ∀ (K : Nat → Nat) (D : Nat) (F : Nat → va_E) (H : Heap) (locs : List Loc), lw_V cs L A xo om K D F → y_fi F xo 1 = y_fi F om 1 → D ≤ 62000 * (n9 + 1) → va_P (dC, dI) vwCl (va_pl L F) H → va_S (fun q : Nat => s.heap.size ≤ q) s.heap H locs → W p l e room_1 s m #[Value.ref b] below meth c H locs 892 240949 (lw_Z below #[Value.ref b] s) (F0 m 1099 ls [])) : W p l e room_1 s m #[Value.ref b] below meth c H locs 892 240949 (lw_Z below #[Value.ref b] s) (F0 m 615 ls []) := by
  obtain ⟨hx, hb, hr, hml, hown0, hts0, hX, hbl, hlocks, hgv⟩ := id C0
  have hown : s.vm.findClass RL = some m.cls := hown0
  have hts : ∀ w ∈ T0, w.before #[Value.ref b] s = true := fun w h => hts0 w (ax_law w h).1
  have hN : ax_N s := ax_Nlaw hts0
  have hbA : ¬ (fun q : Nat => s.heap.size ≤ q) b := Nat.not_le.mpr hbl
  refine lv_aload_n hx hb dL_law_615 rfl (lv_at hl 2 rfl) ?_
  refine lv_aload_n hx hb dL_law_616 rfl (lv_at hl 3 rfl) ?_
  refine lv_iload_n hx hb dL_law_617 rfl (lv_at hl 0 rfl) ?_
  refine lv_iconst (v := 1) hx hb dL_law_618 (by decide) ?_
  refine lv_iadd hx hb dL_law_619 ?_
  refine va_sld hx hb hX hbl hbA hS (lw_in hi hNN (by decide)) dL_law_620 ?_
  refine lv_topi (fun v1 ev1 => ?_)
  obtain ⟨hLK0, hk7, hk9, hI, hPG, hRI, hRJ, hUQ, hyA, hyI, hyT⟩ := id hV
  have hLK : ∀ a {k : Nat}, K a = k → k ≠ 0 → a ∈ L := fun a k e q => hLK0 a (by rw [e]; exact q)
  obtain ⟨fs6, o6⟩ := lw_o6 hI hk7
  have hIc := lw_cI hUQ.1 (lw_nn hk7 hI) hI
  have hKc : va_K (dC, dI) vwCl [(lw_c1 cs (y_fi F xo 1).toInt.toNat 0, .int), (lw_c1 cs (y_fi F xo 1).toInt.toNat 1, .byte), (lw_c1 cs (y_fi F xo 1).toInt.toNat 2, .long), (lw_c1 cs (y_fi F xo 1).toInt.toNat 3, .object RX5), (lw_c1 cs (y_fi F xo 1).toInt.toNat 4, .object RX4), (lw_c1 cs (y_fi F xo 1).toInt.toNat 5, .array .int), (lw_c1 cs (y_fi F xo 1).toInt.toNat 6, .char), (lw_c1 cs (y_fi F xo 1).toInt.toNat 7, .boolean)] s := hK
  have hPGc : s_PG K (lw_c1 cs (y_fi F xo 1).toInt.toNat) F := hPG
  refine va_calli (va_runV (As := [.int v1]) (rest := []) ⟨hx, hb, hml, hown, hts⟩ (s_X6_goes l dC dI H.size (cs := lw_c1 cs (y_fi F xo 1).toInt.toNat) hLK D (D + 2007) (Nat.le_refl _) (by omega) F xo v1 hk7 hIc hPGc) (cwV 1 hts (ax_gV T_518 T_376 T_377 T_193 T_63) rfl rfl rfl (by decide +kernel) ⟨Nat.le_of_ble_eq_true rfl, Nat.le_of_ble_eq_true rfl⟩) ⟨fun a U g mk q => ⟨q.1, s_pc (U := U) rfl rfl q.2⟩, s_recv hK hP (hLK _ hk7 (by decide)) (ci := 6) rfl o6, fun U hU hW => ⟨rfl, s_pw hU hW hP hKc hD hN⟩⟩ rfl rfl hl.1 rfl (lv_room (Nat.le_of_ble_eq_true rfl)) dL_law_621 ⟨Nat.le_of_ble_eq_true rfl, Nat.le_of_ble_eq_true rfl⟩) hS (fun q _ h => hLA q h) (fun q h => hLA q h) (fun r2 F3 t H1 locs ht hvm hw hB hz1 hk1 hS => ?_)
  obtain ⟨hP, hK1⟩ := hB
  rw [ht] at hP
  generalize H1 = H at hP hS ⊢
  obtain ⟨hb_r2, hc_r2, hI, hfr1⟩ := hw
  have hx1 : y_fi F3 xo 1 = y_fi F xo 1 := Int32.toInt_inj.mp ((lw_cE hk7 hI).trans (lw_nn hk7 (lw_cB hcz hIc)).symm)
  have hI := lw_cB hcz hI
  have hV := lw_x hV hI hfr1 (by decide)
  have ho1 : y_fi F3 om 1 = y_fi F om 1 := lw_fi (hfr1 om (by rw [hk9]; decide)) 1
  refine W.widen (k := 892) (n := 240949) (Nat.le_of_ble_eq_true rfl) (Nat.le_of_ble_eq_true rfl) ?_
  refine lv_pop hx hb dL_law_624 rfl ?_
  refine lv_aload_n hx hb dL_law_625 rfl (lv_at hl 1 rfl) ?_
  refine lv_aload_n hx hb dL_law_626 rfl (lv_at hl 3 rfl) ?_
  refine lv_iload_n hx hb dL_law_627 rfl (lv_at hl 0 rfl) ?_
  refine lv_iconst (v := 1) hx hb dL_law_628 (by decide) ?_
  refine lv_iadd hx hb dL_law_629 ?_
  refine va_sld hx hb hX hbl hbA hS (lw_in hi hNN (by decide)) dL_law_630 ?_
  refine lv_topi (fun v4 ev4 => ?_)
  obtain ⟨hLK0, hk7, hk9, hI, hPG, hRI, hRJ, hUQ, hyA, hyI, hyT⟩ := id hV
  have hLK : ∀ a {k : Nat}, K a = k → k ≠ 0 → a ∈ L := fun a k e q => hLK0 a (by rw [e]; exact q)
  obtain ⟨z7, q7, o7, -⟩ := hyI.1 om hk9
  refine va_calli (va_runV (As := [.int v4]) (rest := []) ⟨hx, hb, hml, hown, hts⟩ (y_X7_goes l dC dI H.size hLK A hyA F3 om v4 hk9 hyI hyT) (cwV 1 hts (ax_gV T_519 T_378 T_379 T_265 T_64) rfl rfl rfl (by decide +kernel) ⟨Nat.le_of_ble_eq_true rfl, Nat.le_of_ble_eq_true rfl⟩) ⟨fun a U g mk q => ⟨q.1, s_pc (U := U) rfl rfl q.2⟩, s_recv hK hP (hLK _ hk9 (by decide)) (ci := 7) rfl o7, fun U hU hW => ⟨rfl, s_pw hU hW hP hK hD hN⟩⟩ rfl rfl hl.1 rfl (lv_room (Nat.le_of_ble_eq_true rfl)) dL_law_631 ⟨Nat.le_of_ble_eq_true rfl, Nat.le_of_ble_eq_true rfl⟩) hS (fun q _ h => hLA q h) (fun q h => hLA q h) (fun r5 F6 t H1 locs ht hvm hw hB hz1 hk1 hS => ?_)
  obtain ⟨hP, hK1⟩ := hB
  rw [ht] at hP
  generalize H1 = H at hP hS ⊢
  obtain ⟨hb_r5, hc_r5, hyI, hfr1, hf1, hp_r5⟩ := hw
  have hV := lw_y hV hyI hfr1 (by decide) hp_r5
  have hx2 : y_fi F6 xo 1 = y_fi F3 xo 1 := lw_fi (hfr1 xo (by rw [hk7]; decide)) 1
  have ho2 : y_fi F6 om 1 = y_fi F3 om 1 := hf1 1 (by decide)
  refine W.widen (k := 892) (n := 240949) (Nat.le_of_ble_eq_true rfl) (Nat.le_of_ble_eq_true rfl) ?_
  refine lv_pop hx hb dL_law_634 rfl ?_
  have hB9 : y_fi F6 xo 1 = y_fi F6 om 1 := hx2.trans (hx1.trans (hB0.trans (ho1.symm.trans ho2.symm)))
  refine lv_goto (tgt := 1099) hx hb dL_law_635 (by decide) ?_
  exact KK _ _ _ _ _ hV hB9 (by omega) hP hS
set_option maxHeartbeats 4000000 in
set_option maxRecDepth 100000 in
/-- later -/
theorem law_c14 {p : Program} {e : Env} {s : State} {m : MethodId} {below : List Frame} {meth : Method} {c : Code} (l : Launch) {dC : Nat → ClassId} {dI : Nat → Nat → Nat} {cs : Nat → ClassId} {b N : Nat} {xs : Nat → Int32} {L : List Nat} {A : Nat → Nat} {xo om : Nat} {K : Nat → Nat} {D : Nat} {F : Nat → va_E} {n9 : Nat} {i : Int32} {H : Heap} {locs : List Loc} {ls : Array Slot} {adK adV : Nat → Nat} {tf : Option Nat} (C0 : lw_At p s m meth c b N xs) (hK : va_K (dC, dI) vwCl [(cs 0, .int), (cs 1, .byte), (cs 2, .long), (cs 3, .object RX5), (cs 4, .object RX4), (cs 5, .array .int), (cs 6, .char), (cs 7, .boolean)] s) (hD : ∀ G, va_D (fun q => q ∈ L) (va_pl L G)) (hLA : ∀ q, q ∈ L → s.heap.size ≤ q) (hZ : s_Z L adK adV tf s) (hNN : N ≤ 3072) (hi : 0 ≤ i.toInt ∧ i.toInt + 6 ≤ N) (hn : n9 < 512) (hcz : cs 24 = 0) (hV : lw_V cs L A xo om K D F) (hB0 : y_fi F xo 1 = y_fi F om 1) (hDn : D ≤ 62000 * n9) (hP : va_P (dC, dI) vwCl (va_pl L F) H) (hS : va_S (fun q : Nat => s.heap.size ≤ q) s.heap H locs) (hl : lv_has ls 4 [(3, .int i), (2, .ref om), (1, .ref xo), (0, .ref b)]) (KK : ∀ (K : Nat → Nat) (D : Nat) (F : Nat → va_E) (H : Heap) (locs : List Loc), lw_V cs L A xo om K D F → y_fi F xo 1 = y_fi F om 1 → D ≤ 62000 * (n9 + 1) → va_P (dC, dI) vwCl (va_pl L F) H → va_S (fun q : Nat => s.heap.size ≤ q) s.heap H locs → W p l e room_1 s m #[Value.ref b] below meth c H locs 892 240949 (lw_Z below #[Value.ref b] s) (F0 m 1099 ls [])) : W p l e room_1 s m #[Value.ref b] below meth c H locs 892 240949 (lw_Z below #[Value.ref b] s) (F0 m 638 ls []) := by
  obtain ⟨hx, hb, hr, hml, hown0, hts0, hX, hbl, hlocks, hgv⟩ := id C0
  have hown : s.vm.findClass RL = some m.cls := hown0
  have hts : ∀ w ∈ T0, w.before #[Value.ref b] s = true := fun w h => hts0 w (ax_law w h).1
  have hN : ax_N s := ax_Nlaw hts0
  have hbA : ¬ (fun q : Nat => s.heap.size ≤ q) b := Nat.not_le.mpr hbl
  refine lv_aload_n hx hb dL_law_638 rfl (lv_at hl 2 rfl) ?_
  refine lv_aload_n hx hb dL_law_639 rfl (lv_at hl 3 rfl) ?_
  refine lv_iload_n hx hb dL_law_640 rfl (lv_at hl 0 rfl) ?_
  refine lv_iconst (v := 1) hx hb dL_law_641 (by decide) ?_
  refine lv_iadd hx hb dL_law_642 ?_
  refine va_sld hx hb hX hbl hbA hS (lw_in hi hNN (by decide)) dL_law_643 ?_
  refine lv_topi (fun v1 ev1 => ?_)
  refine lv_aload_n hx hb dL_law_644 rfl (lv_at hl 3 rfl) ?_
  refine lv_iload_n hx hb dL_law_645 rfl (lv_at hl 0 rfl) ?_
  refine lv_iconst (v := 2) hx hb dL_law_646 (by decide) ?_
  refine lv_iadd hx hb dL_law_647 ?_
  refine va_sld hx hb hX hbl hbA hS (lw_in hi hNN (by decide)) dL_law_648 ?_
  refine lv_topi (fun v2 ev2 => ?_)
  refine lv_aload_n hx hb dL_law_649 rfl (lv_at hl 3 rfl) ?_
  refine lv_iload_n hx hb dL_law_650 rfl (lv_at hl 0 rfl) ?_
  refine lv_iconst (v := 3) hx hb dL_law_651 (by decide) ?_
  refine lv_iadd hx hb dL_law_652 ?_
  refine va_sld hx hb hX hbl hbA hS (lw_in hi hNN (by decide)) dL_law_653 ?_
  refine lv_topi (fun v3 ev3 => ?_)
  refine lv_aload_n hx hb dL_law_654 rfl (lv_at hl 3 rfl) ?_
  refine lv_iload_n hx hb dL_law_655 rfl (lv_at hl 0 rfl) ?_
  refine lv_iconst (v := 4) hx hb dL_law_656 (by decide) ?_
  refine lv_iadd hx hb dL_law_657 ?_
  refine va_sld hx hb hX hbl hbA hS (lw_in hi hNN (by decide)) dL_law_658 ?_
  refine lv_topi (fun v4 ev4 => ?_)
  obtain ⟨hLK0, hk7, hk9, hI, hPG, hRI, hRJ, hUQ, hyA, hyI, hyT⟩ := id hV
  have hLK : ∀ a {k : Nat}, K a = k → k ≠ 0 → a ∈ L := fun a k e q => hLK0 a (by rw [e]; exact q)
  obtain ⟨fs6, o6⟩ := lw_o6 hI hk7
  have hIc := lw_cI hUQ.1 (lw_nn hk7 hI) hI
  have hKc : va_K (dC, dI) vwCl [(lw_c1 cs (y_fi F xo 1).toInt.toNat 0, .int), (lw_c1 cs (y_fi F xo 1).toInt.toNat 1, .byte), (lw_c1 cs (y_fi F xo 1).toInt.toNat 2, .long), (lw_c1 cs (y_fi F xo 1).toInt.toNat 3, .object RX5), (lw_c1 cs (y_fi F xo 1).toInt.toNat 4, .object RX4), (lw_c1 cs (y_fi F xo 1).toInt.toNat 5, .array .int), (lw_c1 cs (y_fi F xo 1).toInt.toNat 6, .char), (lw_c1 cs (y_fi F xo 1).toInt.toNat 7, .boolean)] s := hK
  have hPGc : s_PG K (lw_c1 cs (y_fi F xo 1).toInt.toNat) F := hPG
  refine va_calli (va_runV (As := [.int v1, .int v2, .int v3, .int v4]) (rest := []) ⟨hx, hb, hml, hown, hts⟩ (s_X6_later l dC dI H.size (cs := lw_c1 cs (y_fi F xo 1).toInt.toNat) hLK D (D + 401) (Nat.le_refl _) (by omega) F xo v1 v2 v3 v4 hk7 hIc hPGc) (cwV 4 hts (ax_gV T_520 T_380 T_381 T_193 T_65) rfl rfl rfl (by decide +kernel) ⟨Nat.le_of_ble_eq_true rfl, Nat.le_of_ble_eq_true rfl⟩) ⟨fun a U g mk q => ⟨q.1, s_pc (U := U) rfl rfl q.2⟩, s_recv hK hP (hLK _ hk7 (by decide)) (ci := 6) rfl o6, fun U hU hW => ⟨rfl, s_pw hU hW hP hKc hD hN⟩⟩ rfl rfl hl.1 rfl (lv_room (Nat.le_of_ble_eq_true rfl)) dL_law_659 ⟨Nat.le_of_ble_eq_true rfl, Nat.le_of_ble_eq_true rfl⟩) hS (fun q _ h => hLA q h) (fun q h => hLA q h) (fun r5 F6 t H1 locs ht hvm hw hB hz1 hk1 hS => ?_)
  obtain ⟨hP, hK1⟩ := hB
  rw [ht] at hP
  generalize H1 = H at hP hS ⊢
  obtain ⟨hb_r5, hc_r5, hI, hfr1⟩ := hw
  have hx1 : y_fi F6 xo 1 = y_fi F xo 1 := Int32.toInt_inj.mp ((lw_cE hk7 hI).trans (lw_nn hk7 (lw_cB hcz hIc)).symm)
  have hI := lw_cB hcz hI
  have hV := lw_x hV hI hfr1 (by decide)
  have ho1 : y_fi F6 om 1 = y_fi F om 1 := lw_fi (hfr1 om (by rw [hk9]; decide)) 1
  refine W.widen (k := 892) (n := 240949) (Nat.le_of_ble_eq_true rfl) (Nat.le_of_ble_eq_true rfl) ?_
  refine lv_pop hx hb dL_law_662 rfl ?_
  refine lv_aload_n hx hb dL_law_663 rfl (lv_at hl 1 rfl) ?_
  refine lv_aload_n hx hb dL_law_664 rfl (lv_at hl 3 rfl) ?_
  refine lv_iload_n hx hb dL_law_665 rfl (lv_at hl 0 rfl) ?_
  refine lv_iconst (v := 1) hx hb dL_law_666 (by decide) ?_
  refine lv_iadd hx hb dL_law_667 ?_
  refine va_sld hx hb hX hbl hbA hS (lw_in hi hNN (by decide)) dL_law_668 ?_
  refine lv_topi (fun v7 ev7 => ?_)
  refine lv_aload_n hx hb dL_law_669 rfl (lv_at hl 3 rfl) ?_
  refine lv_iload_n hx hb dL_law_670 rfl (lv_at hl 0 rfl) ?_
  refine lv_iconst (v := 2) hx hb dL_law_671 (by decide) ?_
  refine lv_iadd hx hb dL_law_672 ?_
  refine va_sld hx hb hX hbl hbA hS (lw_in hi hNN (by decide)) dL_law_673 ?_
  refine lv_topi (fun v8 ev8 => ?_)
  refine lv_aload_n hx hb dL_law_674 rfl (lv_at hl 3 rfl) ?_
  refine lv_iload_n hx hb dL_law_675 rfl (lv_at hl 0 rfl) ?_
  refine lv_iconst (v := 3) hx hb dL_law_676 (by decide) ?_
  refine lv_iadd hx hb dL_law_677 ?_
  refine va_sld hx hb hX hbl hbA hS (lw_in hi hNN (by decide)) dL_law_678 ?_
  refine lv_topi (fun v9 ev9 => ?_)
  refine lv_aload_n hx hb dL_law_679 rfl (lv_at hl 3 rfl) ?_
  refine lv_iload_n hx hb dL_law_680 rfl (lv_at hl 0 rfl) ?_
  refine lv_iconst (v := 4) hx hb dL_law_681 (by decide) ?_
  refine lv_iadd hx hb dL_law_682 ?_
  refine va_sld hx hb hX hbl hbA hS (lw_in hi hNN (by decide)) dL_law_683 ?_
  refine lv_topi (fun v10 ev10 => ?_)
  obtain ⟨hLK0, hk7, hk9, hI, hPG, hRI, hRJ, hUQ, hyA, hyI, hyT⟩ := id hV
  have hLK : ∀ a {k : Nat}, K a = k → k ≠ 0 → a ∈ L := fun a k e q => hLK0 a (by rw [e]; exact q)
  obtain ⟨z7, q7, o7, -⟩ := hyI.1 om hk9
  refine va_calli (va_runV (As := [.int v7, .int v8, .int v9, .int v10]) (rest := []) ⟨hx, hb, hml, hown, hts⟩ (y_X7_later l dC dI H.size hLK A hyA F6 om v7 v8 v9 v10 hk9 hyI hyT) (cwV 4 hts (ax_gV T_521 T_382 T_383 T_265 T_66) rfl rfl rfl (by decide +kernel) ⟨Nat.le_of_ble_eq_true rfl, Nat.le_of_ble_eq_true rfl⟩) ⟨fun a U g mk q => ⟨q.1, s_pc (U := U) rfl rfl q.2⟩, s_recv hK hP (hLK _ hk9 (by decide)) (ci := 7) rfl o7, fun U hU hW => ⟨rfl, s_pw hU hW hP hK hD hN⟩⟩ rfl rfl hl.1 rfl (lv_room (Nat.le_of_ble_eq_true rfl)) dL_law_684 ⟨Nat.le_of_ble_eq_true rfl, Nat.le_of_ble_eq_true rfl⟩) hS (fun q _ h => hLA q h) (fun q h => hLA q h) (fun r11 F12 t H1 locs ht hvm hw hB hz1 hk1 hS => ?_)
  obtain ⟨hP, hK1⟩ := hB
  rw [ht] at hP
  generalize H1 = H at hP hS ⊢
  obtain ⟨hb_r11, hc_r11, hyI, hfr1, hf1, hp_r11⟩ := hw
  have hV := lw_y hV hyI hfr1 (by decide) hp_r11
  have hx2 : y_fi F12 xo 1 = y_fi F6 xo 1 := lw_fi (hfr1 xo (by rw [hk7]; decide)) 1
  have ho2 : y_fi F12 om 1 = y_fi F6 om 1 := hf1 1 (by decide)
  refine W.widen (k := 892) (n := 240949) (Nat.le_of_ble_eq_true rfl) (Nat.le_of_ble_eq_true rfl) ?_
  refine lv_pop hx hb dL_law_687 rfl ?_
  have hB9 : y_fi F12 xo 1 = y_fi F12 om 1 := hx2.trans (hx1.trans (hB0.trans (ho1.symm.trans ho2.symm)))
  refine lv_goto (tgt := 1099) hx hb dL_law_688 (by decide) ?_
  exact KK _ _ _ _ _ hV hB9 (by omega) hP hS
set_option maxHeartbeats 4000000 in
set_option maxRecDepth 100000 in
/-- by -/
theorem law_c15 {p : Program} {e : Env} {s : State} {m : MethodId} {below : List Frame} {meth : Method} {c : Code} (l : Launch) {dC : Nat → ClassId} {dI : Nat → Nat → Nat} {cs : Nat → ClassId} {b N : Nat} {xs : Nat → Int32} {L : List Nat} {A : Nat → Nat} {xo om : Nat} {K : Nat → Nat} {D : Nat} {F : Nat → va_E} {n9 : Nat} {i : Int32} {H : Heap} {locs : List Loc} {ls : Array Slot} {adK adV : Nat → Nat} {tf : Option Nat} (C0 : lw_At p s m meth c b N xs) (hK : va_K (dC, dI) vwCl [(cs 0, .int), (cs 1, .byte), (cs 2, .long), (cs 3, .object RX5), (cs 4, .object RX4), (cs 5, .array .int), (cs 6, .char), (cs 7, .boolean)] s) (hD : ∀ G, va_D (fun q => q ∈ L) (va_pl L G)) (hLA : ∀ q, q ∈ L → s.heap.size ≤ q) (hZ : s_Z L adK adV tf s) (hNN : N ≤ 3072) (hi : 0 ≤ i.toInt ∧ i.toInt + 6 ≤ N) (hn : n9 < 512) (hcz : cs 24 = 0) (hV : lw_V cs L A xo om K D F) (hB0 : y_fi F xo 1 = y_fi F om 1) (hDn : D ≤ 62000 * n9) (hP : va_P (dC, dI) vwCl (va_pl L F) H) (hS : va_S (fun q : Nat => s.heap.size ≤ q) s.heap H locs) (hl : lv_has ls 4 [(3, .int i), (2, .ref om), (1, .ref xo), (0, .ref b)]) (KK : ∀ (K : Nat → Nat) (D : Nat) (F : Nat → va_E) (H : Heap) (locs : List Loc), lw_V cs L A xo om K D F → y_fi F xo 1 = y_fi F om 1 → D ≤ 62000 * (n9 + 1) → va_P (dC, dI) vwCl (va_pl L F) H → va_S (fun q : Nat => s.heap.size ≤ q) s.heap H locs → W p l e room_1 s m #[Value.ref b] below meth c H locs 892 240949 (lw_Z below #[Value.ref b] s) (F0 m 1099 ls [])) : W p l e room_1 s m #[Value.ref b] below meth c H locs 892 240949 (lw_Z below #[Value.ref b] s) (F0 m 691 ls []) := by
  obtain ⟨hx, hb, hr, hml, hown0, hts0, hX, hbl, hlocks, hgv⟩ := id C0
  have hown : s.vm.findClass RL = some m.cls := hown0
  have hts : ∀ w ∈ T0, w.before #[Value.ref b] s = true := fun w h => hts0 w (ax_law w h).1
  have hN : ax_N s := ax_Nlaw hts0
  have hbA : ¬ (fun q : Nat => s.heap.size ≤ q) b := Nat.not_le.mpr hbl
  refine lv_aload_n hx hb dL_law_691 rfl (lv_at hl 2 rfl) ?_
  refine lv_aload_n hx hb dL_law_692 rfl (lv_at hl 3 rfl) ?_
  refine lv_iload_n hx hb dL_law_693 rfl (lv_at hl 0 rfl) ?_
  refine lv_iconst (v := 1) hx hb dL_law_694 (by decide) ?_
  refine lv_iadd hx hb dL_law_695 ?_
  refine va_sld hx hb hX hbl hbA hS (lw_in hi hNN (by decide)) dL_law_696 ?_
  refine lv_topi (fun v1 ev1 => ?_)
  refine lv_aload_n hx hb dL_law_697 rfl (lv_at hl 3 rfl) ?_
  refine lv_iload_n hx hb dL_law_698 rfl (lv_at hl 0 rfl) ?_
  refine lv_iconst (v := 2) hx hb dL_law_699 (by decide) ?_
  refine lv_iadd hx hb dL_law_700 ?_
  refine va_sld hx hb hX hbl hbA hS (lw_in hi hNN (by decide)) dL_law_701 ?_
  refine lv_topi (fun v2 ev2 => ?_)
  refine lv_aload_n hx hb dL_law_702 rfl (lv_at hl 3 rfl) ?_
  refine lv_iload_n hx hb dL_law_703 rfl (lv_at hl 0 rfl) ?_
  refine lv_iconst (v := 3) hx hb dL_law_704 (by decide) ?_
  refine lv_iadd hx hb dL_law_705 ?_
  refine va_sld hx hb hX hbl hbA hS (lw_in hi hNN (by decide)) dL_law_706 ?_
  refine lv_topi (fun v3 ev3 => ?_)
  obtain ⟨hLK0, hk7, hk9, hI, hPG, hRI, hRJ, hUQ, hyA, hyI, hyT⟩ := id hV
  have hLK : ∀ a {k : Nat}, K a = k → k ≠ 0 → a ∈ L := fun a k e q => hLK0 a (by rw [e]; exact q)
  obtain ⟨fs6, o6⟩ := lw_o6 hI hk7
  have hIc := lw_cI hUQ.1 (lw_nn hk7 hI) hI
  have hKc : va_K (dC, dI) vwCl [(lw_c1 cs (y_fi F xo 1).toInt.toNat 0, .int), (lw_c1 cs (y_fi F xo 1).toInt.toNat 1, .byte), (lw_c1 cs (y_fi F xo 1).toInt.toNat 2, .long), (lw_c1 cs (y_fi F xo 1).toInt.toNat 3, .object RX5), (lw_c1 cs (y_fi F xo 1).toInt.toNat 4, .object RX4), (lw_c1 cs (y_fi F xo 1).toInt.toNat 5, .array .int), (lw_c1 cs (y_fi F xo 1).toInt.toNat 6, .char), (lw_c1 cs (y_fi F xo 1).toInt.toNat 7, .boolean)] s := hK
  have hPGc : s_PG K (lw_c1 cs (y_fi F xo 1).toInt.toNat) F := hPG
  refine va_calli (va_runV (As := [.int v1, .int v2, .int v3]) (rest := []) ⟨hx, hb, hml, hown, hts⟩ (s_X6_by l dC dI H.size (cs := lw_c1 cs (y_fi F xo 1).toInt.toNat) hLK D (D + 2007) (Nat.le_refl _) (by omega) F xo v1 v2 v3 hk7 hIc hPGc) (cwV 3 hts (ax_gV T_522 T_384 T_385 T_193 T_67) rfl rfl rfl (by decide +kernel) ⟨Nat.le_of_ble_eq_true rfl, Nat.le_of_ble_eq_true rfl⟩) ⟨fun a U g mk q => ⟨q.1, s_pc (U := U) rfl rfl q.2⟩, s_recv hK hP (hLK _ hk7 (by decide)) (ci := 6) rfl o6, fun U hU hW => ⟨rfl, s_pw hU hW hP hKc hD hN⟩⟩ rfl rfl hl.1 rfl (lv_room (Nat.le_of_ble_eq_true rfl)) dL_law_707 ⟨Nat.le_of_ble_eq_true rfl, Nat.le_of_ble_eq_true rfl⟩) hS (fun q _ h => hLA q h) (fun q h => hLA q h) (fun r4 F5 t H1 locs ht hvm hw hB hz1 hk1 hS => ?_)
  obtain ⟨hP, hK1⟩ := hB
  rw [ht] at hP
  generalize H1 = H at hP hS ⊢
  obtain ⟨hb_r4, hc_r4, hI, hfr1⟩ := hw
  have hx1 : y_fi F5 xo 1 = y_fi F xo 1 := Int32.toInt_inj.mp ((lw_cE hk7 hI).trans (lw_nn hk7 (lw_cB hcz hIc)).symm)
  have hI := lw_cB hcz hI
  have hV := lw_x hV hI hfr1 (by decide)
  have ho1 : y_fi F5 om 1 = y_fi F om 1 := lw_fi (hfr1 om (by rw [hk9]; decide)) 1
  refine W.widen (k := 892) (n := 240949) (Nat.le_of_ble_eq_true rfl) (Nat.le_of_ble_eq_true rfl) ?_
  refine lv_pop hx hb dL_law_710 rfl ?_
  refine lv_aload_n hx hb dL_law_711 rfl (lv_at hl 1 rfl) ?_
  refine lv_aload_n hx hb dL_law_712 rfl (lv_at hl 3 rfl) ?_
  refine lv_iload_n hx hb dL_law_713 rfl (lv_at hl 0 rfl) ?_
  refine lv_iconst (v := 1) hx hb dL_law_714 (by decide) ?_
  refine lv_iadd hx hb dL_law_715 ?_
  refine va_sld hx hb hX hbl hbA hS (lw_in hi hNN (by decide)) dL_law_716 ?_
  refine lv_topi (fun v6 ev6 => ?_)
  refine lv_aload_n hx hb dL_law_717 rfl (lv_at hl 3 rfl) ?_
  refine lv_iload_n hx hb dL_law_718 rfl (lv_at hl 0 rfl) ?_
  refine lv_iconst (v := 2) hx hb dL_law_719 (by decide) ?_
  refine lv_iadd hx hb dL_law_720 ?_
  refine va_sld hx hb hX hbl hbA hS (lw_in hi hNN (by decide)) dL_law_721 ?_
  refine lv_topi (fun v7 ev7 => ?_)
  refine lv_aload_n hx hb dL_law_722 rfl (lv_at hl 3 rfl) ?_
  refine lv_iload_n hx hb dL_law_723 rfl (lv_at hl 0 rfl) ?_
  refine lv_iconst (v := 3) hx hb dL_law_724 (by decide) ?_
  refine lv_iadd hx hb dL_law_725 ?_
  refine va_sld hx hb hX hbl hbA hS (lw_in hi hNN (by decide)) dL_law_726 ?_
  refine lv_topi (fun v8 ev8 => ?_)
  obtain ⟨hLK0, hk7, hk9, hI, hPG, hRI, hRJ, hUQ, hyA, hyI, hyT⟩ := id hV
  have hLK : ∀ a {k : Nat}, K a = k → k ≠ 0 → a ∈ L := fun a k e q => hLK0 a (by rw [e]; exact q)
  obtain ⟨z7, q7, o7, -⟩ := hyI.1 om hk9
  refine va_calli (va_runV (As := [.int v6, .int v7, .int v8]) (rest := []) ⟨hx, hb, hml, hown, hts⟩ (y_X7_by l dC dI H.size hLK A hyA F5 om v6 v7 v8 hk9 hyI hyT) (cwV 3 hts (ax_gV T_523 T_386 T_387 T_265 T_68) rfl rfl rfl (by decide +kernel) ⟨Nat.le_of_ble_eq_true rfl, Nat.le_of_ble_eq_true rfl⟩) ⟨fun a U g mk q => ⟨q.1, s_pc (U := U) rfl rfl q.2⟩, s_recv hK hP (hLK _ hk9 (by decide)) (ci := 7) rfl o7, fun U hU hW => ⟨rfl, s_pw hU hW hP hK hD hN⟩⟩ rfl rfl hl.1 rfl (lv_room (Nat.le_of_ble_eq_true rfl)) dL_law_727 ⟨Nat.le_of_ble_eq_true rfl, Nat.le_of_ble_eq_true rfl⟩) hS (fun q _ h => hLA q h) (fun q h => hLA q h) (fun r9 F10 t H1 locs ht hvm hw hB hz1 hk1 hS => ?_)
  obtain ⟨hP, hK1⟩ := hB
  rw [ht] at hP
  generalize H1 = H at hP hS ⊢
  obtain ⟨hb_r9, hc_r9, hyI, hfr1, hf1, hp_r9⟩ := hw
  have hV := lw_y hV hyI hfr1 (by decide) hp_r9
  have hx2 : y_fi F10 xo 1 = y_fi F5 xo 1 := lw_fi (hfr1 xo (by rw [hk7]; decide)) 1
  have ho2 : y_fi F10 om 1 = y_fi F5 om 1 := hf1 1 (by decide)
  refine W.widen (k := 892) (n := 240949) (Nat.le_of_ble_eq_true rfl) (Nat.le_of_ble_eq_true rfl) ?_
  refine lv_pop hx hb dL_law_730 rfl ?_
  have hB9 : y_fi F10 xo 1 = y_fi F10 om 1 := hx2.trans (hx1.trans (hB0.trans (ho1.symm.trans ho2.symm)))
  refine lv_goto (tgt := 1099) hx hb dL_law_731 (by decide) ?_
  exact KK _ _ _ _ _ hV hB9 (by omega) hP hS
set_option maxHeartbeats 4000000 in
set_option maxRecDepth 100000 in
/-- skew -/
theorem law_c16 {p : Program} {e : Env} {s : State} {m : MethodId} {below : List Frame} {meth : Method} {c : Code} (l : Launch) {dC : Nat → ClassId} {dI : Nat → Nat → Nat} {cs : Nat → ClassId} {b N : Nat} {xs : Nat → Int32} {L : List Nat} {A : Nat → Nat} {xo om : Nat} {K : Nat → Nat} {D : Nat} {F : Nat → va_E} {n9 : Nat} {i : Int32} {H : Heap} {locs : List Loc} {ls : Array Slot} {adK adV : Nat → Nat} {tf : Option Nat} (C0 : lw_At p s m meth c b N xs) (hK : va_K (dC, dI) vwCl [(cs 0, .int), (cs 1, .byte), (cs 2, .long), (cs 3, .object RX5), (cs 4, .object RX4), (cs 5, .array .int), (cs 6, .char), (cs 7, .boolean)] s) (hD : ∀ G, va_D (fun q => q ∈ L) (va_pl L G)) (hLA : ∀ q, q ∈ L → s.heap.size ≤ q) (hZ : s_Z L adK adV tf s) (hNN : N ≤ 3072) (hi : 0 ≤ i.toInt ∧ i.toInt + 6 ≤ N) (hn : n9 < 512) (hcz : cs 24 = 0) (hV : lw_V cs L A xo om K D F) (hB0 : y_fi F xo 1 = y_fi F om 1) (hDn : D ≤ 62000 * n9) (hP : va_P (dC, dI) vwCl (va_pl L F) H) (hS : va_S (fun q : Nat => s.heap.size ≤ q) s.heap H locs) (hl : lv_has ls 4 [(3, .int i), (2, .ref om), (1, .ref xo), (0, .ref b)]) (KK : ∀ (K : Nat → Nat) (D : Nat) (F : Nat → va_E) (H : Heap) (locs : List Loc), lw_V cs L A xo om K D F → y_fi F xo 1 = y_fi F om 1 → D ≤ 62000 * (n9 + 1) → va_P (dC, dI) vwCl (va_pl L F) H → va_S (fun q : Nat => s.heap.size ≤ q) s.heap H locs → W p l e room_1 s m #[Value.ref b] below meth c H locs 892 240949 (lw_Z below #[Value.ref b] s) (F0 m 1099 ls [])) : W p l e room_1 s m #[Value.ref b] below meth c H locs 892 240949 (lw_Z below #[Value.ref b] s) (F0 m 734 ls []) := by
  obtain ⟨hx, hb, hr, hml, hown0, hts0, hX, hbl, hlocks, hgv⟩ := id C0
  have hown : s.vm.findClass RL = some m.cls := hown0
  have hts : ∀ w ∈ T0, w.before #[Value.ref b] s = true := fun w h => hts0 w (ax_law w h).1
  have hN : ax_N s := ax_Nlaw hts0
  have hbA : ¬ (fun q : Nat => s.heap.size ≤ q) b := Nat.not_le.mpr hbl
  refine lv_aload_n hx hb dL_law_734 rfl (lv_at hl 2 rfl) ?_
  refine lv_aload_n hx hb dL_law_735 rfl (lv_at hl 3 rfl) ?_
  refine lv_iload_n hx hb dL_law_736 rfl (lv_at hl 0 rfl) ?_
  refine lv_iconst (v := 1) hx hb dL_law_737 (by decide) ?_
  refine lv_iadd hx hb dL_law_738 ?_
  refine va_sld hx hb hX hbl hbA hS (lw_in hi hNN (by decide)) dL_law_739 ?_
  refine lv_topi (fun v1 ev1 => ?_)
  obtain ⟨hLK0, hk7, hk9, hI, hPG, hRI, hRJ, hUQ, hyA, hyI, hyT⟩ := id hV
  have hLK : ∀ a {k : Nat}, K a = k → k ≠ 0 → a ∈ L := fun a k e q => hLK0 a (by rw [e]; exact q)
  obtain ⟨fs6, o6⟩ := lw_o6 hI hk7
  have hIc := lw_cI hUQ.1 (lw_nn hk7 hI) hI
  have hKc : va_K (dC, dI) vwCl [(lw_c1 cs (y_fi F xo 1).toInt.toNat 0, .int), (lw_c1 cs (y_fi F xo 1).toInt.toNat 1, .byte), (lw_c1 cs (y_fi F xo 1).toInt.toNat 2, .long), (lw_c1 cs (y_fi F xo 1).toInt.toNat 3, .object RX5), (lw_c1 cs (y_fi F xo 1).toInt.toNat 4, .object RX4), (lw_c1 cs (y_fi F xo 1).toInt.toNat 5, .array .int), (lw_c1 cs (y_fi F xo 1).toInt.toNat 6, .char), (lw_c1 cs (y_fi F xo 1).toInt.toNat 7, .boolean)] s := hK
  have hPGc : s_PG K (lw_c1 cs (y_fi F xo 1).toInt.toNat) F := hPG
  refine va_calli (va_runV (As := [.int v1]) (rest := []) ⟨hx, hb, hml, hown, hts⟩ (s_X6_skew l dC dI H.size (cs := lw_c1 cs (y_fi F xo 1).toInt.toNat) hLK D (D + 20070) (Nat.le_refl _) (by omega) F xo v1 hk7 hIc hPGc) (cwV 1 hts (ax_gV T_524 T_388 T_389 T_193 T_69) rfl rfl rfl (by decide +kernel) ⟨Nat.le_of_ble_eq_true rfl, Nat.le_of_ble_eq_true rfl⟩) ⟨fun a U g mk q => ⟨q.1, s_pc (U := U) rfl rfl q.2⟩, s_recv hK hP (hLK _ hk7 (by decide)) (ci := 6) rfl o6, fun U hU hW => ⟨rfl, s_pw hU hW hP hKc hD hN⟩⟩ rfl rfl hl.1 rfl (lv_room (Nat.le_of_ble_eq_true rfl)) dL_law_740 ⟨Nat.le_of_ble_eq_true rfl, Nat.le_of_ble_eq_true rfl⟩) hS (fun q _ h => hLA q h) (fun q h => hLA q h) (fun r2 F3 t H1 locs ht hvm hw hB hz1 hk1 hS => ?_)
  obtain ⟨hP, hK1⟩ := hB
  rw [ht] at hP
  generalize H1 = H at hP hS ⊢
  obtain ⟨hb_r2, hc_r2, hI, hfr1⟩ := hw
  have hx1 : y_fi F3 xo 1 = y_fi F xo 1 := Int32.toInt_inj.mp ((lw_cE hk7 hI).trans (lw_nn hk7 (lw_cB hcz hIc)).symm)
  have hI := lw_cB hcz hI
  have hV := lw_x hV hI hfr1 (by decide)
  have ho1 : y_fi F3 om 1 = y_fi F om 1 := lw_fi (hfr1 om (by rw [hk9]; decide)) 1
  refine W.widen (k := 892) (n := 240949) (Nat.le_of_ble_eq_true rfl) (Nat.le_of_ble_eq_true rfl) ?_
  refine lv_pop hx hb dL_law_743 rfl ?_
  refine lv_aload_n hx hb dL_law_744 rfl (lv_at hl 1 rfl) ?_
  refine lv_aload_n hx hb dL_law_745 rfl (lv_at hl 3 rfl) ?_
  refine lv_iload_n hx hb dL_law_746 rfl (lv_at hl 0 rfl) ?_
  refine lv_iconst (v := 1) hx hb dL_law_747 (by decide) ?_
  refine lv_iadd hx hb dL_law_748 ?_
  refine va_sld hx hb hX hbl hbA hS (lw_in hi hNN (by decide)) dL_law_749 ?_
  refine lv_topi (fun v4 ev4 => ?_)
  obtain ⟨hLK0, hk7, hk9, hI, hPG, hRI, hRJ, hUQ, hyA, hyI, hyT⟩ := id hV
  have hLK : ∀ a {k : Nat}, K a = k → k ≠ 0 → a ∈ L := fun a k e q => hLK0 a (by rw [e]; exact q)
  obtain ⟨z7, q7, o7, -⟩ := hyI.1 om hk9
  refine va_calli (va_runV (As := [.int v4]) (rest := []) ⟨hx, hb, hml, hown, hts⟩ (y_X7_skew l dC dI H.size hLK A hyA F3 om v4 hk9 hyI hyT) (cwV 1 hts (ax_gV T_525 T_390 T_391 T_265 T_70) rfl rfl rfl (by decide +kernel) ⟨Nat.le_of_ble_eq_true rfl, Nat.le_of_ble_eq_true rfl⟩) ⟨fun a U g mk q => ⟨q.1, s_pc (U := U) rfl rfl q.2⟩, s_recv hK hP (hLK _ hk9 (by decide)) (ci := 7) rfl o7, fun U hU hW => ⟨rfl, s_pw hU hW hP hK hD hN⟩⟩ rfl rfl hl.1 rfl (lv_room (Nat.le_of_ble_eq_true rfl)) dL_law_750 ⟨Nat.le_of_ble_eq_true rfl, Nat.le_of_ble_eq_true rfl⟩) hS (fun q _ h => hLA q h) (fun q h => hLA q h) (fun r5 F6 t H1 locs ht hvm hw hB hz1 hk1 hS => ?_)
  obtain ⟨hP, hK1⟩ := hB
  rw [ht] at hP
  generalize H1 = H at hP hS ⊢
  obtain ⟨hb_r5, hc_r5, hyI, hfr1, hf1, hp_r5⟩ := hw
  have hV := lw_y hV hyI hfr1 (by decide) hp_r5
  have hx2 : y_fi F6 xo 1 = y_fi F3 xo 1 := lw_fi (hfr1 xo (by rw [hk7]; decide)) 1
  have ho2 : y_fi F6 om 1 = y_fi F3 om 1 := hf1 1 (by decide)
  refine W.widen (k := 892) (n := 240949) (Nat.le_of_ble_eq_true rfl) (Nat.le_of_ble_eq_true rfl) ?_
  refine lv_pop hx hb dL_law_753 rfl ?_
  have hB9 : y_fi F6 xo 1 = y_fi F6 om 1 := hx2.trans (hx1.trans (hB0.trans (ho1.symm.trans ho2.symm)))
  refine lv_goto (tgt := 1099) hx hb dL_law_754 (by decide) ?_
  exact KK _ _ _ _ _ hV hB9 (by omega) hP hS
set_option maxHeartbeats 4000000 in
set_option maxRecDepth 100000 in
/-- alone -/
theorem law_c17 {p : Program} {e : Env} {s : State} {m : MethodId} {below : List Frame} {meth : Method} {c : Code} (l : Launch) {dC : Nat → ClassId} {dI : Nat → Nat → Nat} {cs : Nat → ClassId} {b N : Nat} {xs : Nat → Int32} {L : List Nat} {A : Nat → Nat} {xo om : Nat} {K : Nat → Nat} {D : Nat} {F : Nat → va_E} {n9 : Nat} {i : Int32} {H : Heap} {locs : List Loc} {ls : Array Slot} {adK adV : Nat → Nat} {tf : Option Nat} (C0 : lw_At p s m meth c b N xs) (hK : va_K (dC, dI) vwCl [(cs 0, .int), (cs 1, .byte), (cs 2, .long), (cs 3, .object RX5), (cs 4, .object RX4), (cs 5, .array .int), (cs 6, .char), (cs 7, .boolean)] s) (hD : ∀ G, va_D (fun q => q ∈ L) (va_pl L G)) (hLA : ∀ q, q ∈ L → s.heap.size ≤ q) (hZ : s_Z L adK adV tf s) (hNN : N ≤ 3072) (hi : 0 ≤ i.toInt ∧ i.toInt + 6 ≤ N) (hn : n9 < 512) (hcz : cs 24 = 0) (hV : lw_V cs L A xo om K D F) (hB0 : y_fi F xo 1 = y_fi F om 1) (hDn : D ≤ 62000 * n9) (hP : va_P (dC, dI) vwCl (va_pl L F) H) (hS : va_S (fun q : Nat => s.heap.size ≤ q) s.heap H locs) (hl : lv_has ls 4 [(3, .int i), (2, .ref om), (1, .ref xo), (0, .ref b)]) (KK : ∀ (K : Nat → Nat) (D : Nat) (F : Nat → va_E) (H : Heap) (locs : List Loc), lw_V cs L A xo om K D F → y_fi F xo 1 = y_fi F om 1 → D ≤ 62000 * (n9 + 1) → va_P (dC, dI) vwCl (va_pl L F) H → va_S (fun q : Nat => s.heap.size ≤ q) s.heap H locs → W p l e room_1 s m #[Value.ref b] below meth c H locs 892 240949 (lw_Z below #[Value.ref b] s) (F0 m 1099 ls [])) : W p l e room_1 s m #[Value.ref b] below meth c H locs 892 240949 (lw_Z below #[Value.ref b] s) (F0 m 757 ls []) := by
  obtain ⟨hx, hb, hr, hml, hown0, hts0, hX, hbl, hlocks, hgv⟩ := id C0
  have hown : s.vm.findClass RL = some m.cls := hown0
  have hts : ∀ w ∈ T0, w.before #[Value.ref b] s = true := fun w h => hts0 w (ax_law w h).1
  have hN : ax_N s := ax_Nlaw hts0
  have hbA : ¬ (fun q : Nat => s.heap.size ≤ q) b := Nat.not_le.mpr hbl
  refine lv_aload_n hx hb dL_law_757 rfl (lv_at hl 2 rfl) ?_
  refine lv_aload_n hx hb dL_law_758 rfl (lv_at hl 3 rfl) ?_
  refine lv_iload_n hx hb dL_law_759 rfl (lv_at hl 0 rfl) ?_
  refine lv_iconst (v := 1) hx hb dL_law_760 (by decide) ?_
  refine lv_iadd hx hb dL_law_761 ?_
  refine va_sld hx hb hX hbl hbA hS (lw_in hi hNN (by decide)) dL_law_762 ?_
  refine lv_topi (fun v1 ev1 => ?_)
  refine lv_aload_n hx hb dL_law_763 rfl (lv_at hl 3 rfl) ?_
  refine lv_iload_n hx hb dL_law_764 rfl (lv_at hl 0 rfl) ?_
  refine lv_iconst (v := 2) hx hb dL_law_765 (by decide) ?_
  refine lv_iadd hx hb dL_law_766 ?_
  refine va_sld hx hb hX hbl hbA hS (lw_in hi hNN (by decide)) dL_law_767 ?_
  refine lv_topi (fun v2 ev2 => ?_)
  refine lv_aload_n hx hb dL_law_768 rfl (lv_at hl 3 rfl) ?_
  refine lv_iload_n hx hb dL_law_769 rfl (lv_at hl 0 rfl) ?_
  refine lv_iconst (v := 3) hx hb dL_law_770 (by decide) ?_
  refine lv_iadd hx hb dL_law_771 ?_
  refine va_sld hx hb hX hbl hbA hS (lw_in hi hNN (by decide)) dL_law_772 ?_
  refine lv_topi (fun v3 ev3 => ?_)
  obtain ⟨hLK0, hk7, hk9, hI, hPG, hRI, hRJ, hUQ, hyA, hyI, hyT⟩ := id hV
  have hLK : ∀ a {k : Nat}, K a = k → k ≠ 0 → a ∈ L := fun a k e q => hLK0 a (by rw [e]; exact q)
  obtain ⟨fs6, o6⟩ := lw_o6 hI hk7
  have hIc := lw_cI hUQ.1 (lw_nn hk7 hI) hI
  have hKc : va_K (dC, dI) vwCl [(lw_c1 cs (y_fi F xo 1).toInt.toNat 0, .int), (lw_c1 cs (y_fi F xo 1).toInt.toNat 1, .byte), (lw_c1 cs (y_fi F xo 1).toInt.toNat 2, .long), (lw_c1 cs (y_fi F xo 1).toInt.toNat 3, .object RX5), (lw_c1 cs (y_fi F xo 1).toInt.toNat 4, .object RX4), (lw_c1 cs (y_fi F xo 1).toInt.toNat 5, .array .int), (lw_c1 cs (y_fi F xo 1).toInt.toNat 6, .char), (lw_c1 cs (y_fi F xo 1).toInt.toNat 7, .boolean)] s := hK
  have hPGc : s_PG K (lw_c1 cs (y_fi F xo 1).toInt.toNat) F := hPG
  refine va_calli (va_runV (As := [.int v1, .int v2, .int v3]) (rest := []) ⟨hx, hb, hml, hown, hts⟩ (s_X6_alone l dC dI H.size (cs := lw_c1 cs (y_fi F xo 1).toInt.toNat) hLK D (D + 401) (Nat.le_refl _) (by omega) F xo v1 v2 v3 hk7 hIc hPGc) (cwV 3 hts (ax_gV T_526 T_392 T_393 T_193 T_71) rfl rfl rfl (by decide +kernel) ⟨Nat.le_of_ble_eq_true rfl, Nat.le_of_ble_eq_true rfl⟩) ⟨fun a U g mk q => ⟨q.1, s_pc (U := U) rfl rfl q.2⟩, s_recv hK hP (hLK _ hk7 (by decide)) (ci := 6) rfl o6, fun U hU hW => ⟨rfl, s_pw hU hW hP hKc hD hN⟩⟩ rfl rfl hl.1 rfl (lv_room (Nat.le_of_ble_eq_true rfl)) dL_law_773 ⟨Nat.le_of_ble_eq_true rfl, Nat.le_of_ble_eq_true rfl⟩) hS (fun q _ h => hLA q h) (fun q h => hLA q h) (fun r4 F5 t H1 locs ht hvm hw hB hz1 hk1 hS => ?_)
  obtain ⟨hP, hK1⟩ := hB
  rw [ht] at hP
  generalize H1 = H at hP hS ⊢
  obtain ⟨hb_r4, hc_r4, hI, hfr1⟩ := hw
  have hx1 : y_fi F5 xo 1 = y_fi F xo 1 := Int32.toInt_inj.mp ((lw_cE hk7 hI).trans (lw_nn hk7 (lw_cB hcz hIc)).symm)
  have hI := lw_cB hcz hI
  have hV := lw_x hV hI hfr1 (by decide)
  have ho1 : y_fi F5 om 1 = y_fi F om 1 := lw_fi (hfr1 om (by rw [hk9]; decide)) 1
  refine W.widen (k := 892) (n := 240949) (Nat.le_of_ble_eq_true rfl) (Nat.le_of_ble_eq_true rfl) ?_
  refine lv_pop hx hb dL_law_776 rfl ?_
  refine lv_aload_n hx hb dL_law_777 rfl (lv_at hl 1 rfl) ?_
  refine lv_aload_n hx hb dL_law_778 rfl (lv_at hl 3 rfl) ?_
  refine lv_iload_n hx hb dL_law_779 rfl (lv_at hl 0 rfl) ?_
  refine lv_iconst (v := 1) hx hb dL_law_780 (by decide) ?_
  refine lv_iadd hx hb dL_law_781 ?_
  refine va_sld hx hb hX hbl hbA hS (lw_in hi hNN (by decide)) dL_law_782 ?_
  refine lv_topi (fun v6 ev6 => ?_)
  refine lv_aload_n hx hb dL_law_783 rfl (lv_at hl 3 rfl) ?_
  refine lv_iload_n hx hb dL_law_784 rfl (lv_at hl 0 rfl) ?_
  refine lv_iconst (v := 2) hx hb dL_law_785 (by decide) ?_
  refine lv_iadd hx hb dL_law_786 ?_
  refine va_sld hx hb hX hbl hbA hS (lw_in hi hNN (by decide)) dL_law_787 ?_
  refine lv_topi (fun v7 ev7 => ?_)
  refine lv_aload_n hx hb dL_law_788 rfl (lv_at hl 3 rfl) ?_
  refine lv_iload_n hx hb dL_law_789 rfl (lv_at hl 0 rfl) ?_
  refine lv_iconst (v := 3) hx hb dL_law_790 (by decide) ?_
  refine lv_iadd hx hb dL_law_791 ?_
  refine va_sld hx hb hX hbl hbA hS (lw_in hi hNN (by decide)) dL_law_792 ?_
  refine lv_topi (fun v8 ev8 => ?_)
  obtain ⟨hLK0, hk7, hk9, hI, hPG, hRI, hRJ, hUQ, hyA, hyI, hyT⟩ := id hV
  have hLK : ∀ a {k : Nat}, K a = k → k ≠ 0 → a ∈ L := fun a k e q => hLK0 a (by rw [e]; exact q)
  obtain ⟨z7, q7, o7, -⟩ := hyI.1 om hk9
  refine va_calli (va_runV (As := [.int v6, .int v7, .int v8]) (rest := []) ⟨hx, hb, hml, hown, hts⟩ (y_X7_alone l dC dI H.size hLK A hyA F5 om v6 v7 v8 hk9 hyI hyT) (cwV 3 hts (ax_gV T_527 T_394 T_395 T_265 T_72) rfl rfl rfl (by decide +kernel) ⟨Nat.le_of_ble_eq_true rfl, Nat.le_of_ble_eq_true rfl⟩) ⟨fun a U g mk q => ⟨q.1, s_pc (U := U) rfl rfl q.2⟩, s_recv hK hP (hLK _ hk9 (by decide)) (ci := 7) rfl o7, fun U hU hW => ⟨rfl, s_pw hU hW hP hK hD hN⟩⟩ rfl rfl hl.1 rfl (lv_room (Nat.le_of_ble_eq_true rfl)) dL_law_793 ⟨Nat.le_of_ble_eq_true rfl, Nat.le_of_ble_eq_true rfl⟩) hS (fun q _ h => hLA q h) (fun q h => hLA q h) (fun r9 F10 t H1 locs ht hvm hw hB hz1 hk1 hS => ?_)
  obtain ⟨hP, hK1⟩ := hB
  rw [ht] at hP
  generalize H1 = H at hP hS ⊢
  obtain ⟨hb_r9, hc_r9, hyI, hfr1, hf1, hp_r9⟩ := hw
  have hV := lw_y hV hyI hfr1 (by decide) hp_r9
  have hx2 : y_fi F10 xo 1 = y_fi F5 xo 1 := lw_fi (hfr1 xo (by rw [hk7]; decide)) 1
  have ho2 : y_fi F10 om 1 = y_fi F5 om 1 := hf1 1 (by decide)
  refine W.widen (k := 892) (n := 240949) (Nat.le_of_ble_eq_true rfl) (Nat.le_of_ble_eq_true rfl) ?_
  refine lv_pop hx hb dL_law_796 rfl ?_
  have hB9 : y_fi F10 xo 1 = y_fi F10 om 1 := hx2.trans (hx1.trans (hB0.trans (ho1.symm.trans ho2.symm)))
  refine lv_goto (tgt := 1099) hx hb dL_law_797 (by decide) ?_
  exact KK _ _ _ _ _ hV hB9 (by omega) hP hS
set_option maxHeartbeats 4000000 in
set_option maxRecDepth 100000 in
/-- agrees -/
theorem law_c18 {p : Program} {e : Env} {s : State} {m : MethodId} {below : List Frame} {meth : Method} {c : Code} (l : Launch) {dC : Nat → ClassId} {dI : Nat → Nat → Nat} {cs : Nat → ClassId} {b N : Nat} {xs : Nat → Int32} {L : List Nat} {A : Nat → Nat} {xo om : Nat} {K : Nat → Nat} {D : Nat} {F : Nat → va_E} {n9 : Nat} {i : Int32} {H : Heap} {locs : List Loc} {ls : Array Slot} {adK adV : Nat → Nat} {tf : Option Nat} (C0 : lw_At p s m meth c b N xs) (hK : va_K (dC, dI) vwCl [(cs 0, .int), (cs 1, .byte), (cs 2, .long), (cs 3, .object RX5), (cs 4, .object RX4), (cs 5, .array .int), (cs 6, .char), (cs 7, .boolean)] s) (hD : ∀ G, va_D (fun q => q ∈ L) (va_pl L G)) (hLA : ∀ q, q ∈ L → s.heap.size ≤ q) (hZ : s_Z L adK adV tf s) (hNN : N ≤ 3072) (hi : 0 ≤ i.toInt ∧ i.toInt + 6 ≤ N) (hn : n9 < 512) (hcz : cs 24 = 0) (hV : lw_V cs L A xo om K D F) (hB0 : y_fi F xo 1 = y_fi F om 1) (hDn : D ≤ 62000 * n9) (hP : va_P (dC, dI) vwCl (va_pl L F) H) (hS : va_S (fun q : Nat => s.heap.size ≤ q) s.heap H locs) (hl : lv_has ls 4 [(3, .int i), (2, .ref om), (1, .ref xo), (0, .ref b)]) (KK : ∀ (K : Nat → Nat) (D : Nat) (F : Nat → va_E) (H : Heap) (locs : List Loc), lw_V cs L A xo om K D F → y_fi F xo 1 = y_fi F om 1 → D ≤ 62000 * (n9 + 1) → va_P (dC, dI) vwCl (va_pl L F) H → va_S (fun q : Nat => s.heap.size ≤ q) s.heap H locs → W p l e room_1 s m #[Value.ref b] below meth c H locs 892 240949 (lw_Z below #[Value.ref b] s) (F0 m 1099 ls [])) : W p l e room_1 s m #[Value.ref b] below meth c H locs 892 240949 (lw_Z below #[Value.ref b] s) (F0 m 800 ls []) := by
  obtain ⟨hx, hb, hr, hml, hown0, hts0, hX, hbl, hlocks, hgv⟩ := id C0
  have hown : s.vm.findClass RL = some m.cls := hown0
  have hts : ∀ w ∈ T0, w.before #[Value.ref b] s = true := fun w h => hts0 w (ax_law w h).1
  have hN : ax_N s := ax_Nlaw hts0
  have hbA : ¬ (fun q : Nat => s.heap.size ≤ q) b := Nat.not_le.mpr hbl
  refine lv_aload_n hx hb dL_law_800 rfl (lv_at hl 2 rfl) ?_
  obtain ⟨hLK0, hk7, hk9, hI, hPG, hRI, hRJ, hUQ, hyA, hyI, hyT⟩ := id hV
  have hLK : ∀ a {k : Nat}, K a = k → k ≠ 0 → a ∈ L := fun a k e q => hLK0 a (by rw [e]; exact q)
  obtain ⟨fs6, o6⟩ := lw_o6 hI hk7
  have hIc := lw_cI hUQ.1 (lw_nn hk7 hI) hI
  have hKc : va_K (dC, dI) vwCl [(lw_c1 cs (y_fi F xo 1).toInt.toNat 0, .int), (lw_c1 cs (y_fi F xo 1).toInt.toNat 1, .byte), (lw_c1 cs (y_fi F xo 1).toInt.toNat 2, .long), (lw_c1 cs (y_fi F xo 1).toInt.toNat 3, .object RX5), (lw_c1 cs (y_fi F xo 1).toInt.toNat 4, .object RX4), (lw_c1 cs (y_fi F xo 1).toInt.toNat 5, .array .int), (lw_c1 cs (y_fi F xo 1).toInt.toNat 6, .char), (lw_c1 cs (y_fi F xo 1).toInt.toNat 7, .boolean)] s := hK
  have hPGc : s_PG K (lw_c1 cs (y_fi F xo 1).toInt.toNat) F := hPG
  refine va_calli (va_runV (As := []) (rest := []) ⟨hx, hb, hml, hown, hts⟩ (s_X6_agrees l dC dI H.size (cs := lw_c1 cs (y_fi F xo 1).toInt.toNat) hLK D (D + 18045) (Nat.le_refl _) (by omega) F xo  hk7 hIc hPGc) (cwV 0 hts (ax_gV T_528 T_396 T_397 T_193 T_73) rfl rfl rfl (by decide +kernel) ⟨Nat.le_of_ble_eq_true rfl, Nat.le_of_ble_eq_true rfl⟩) ⟨fun a U g mk q => ⟨q.1, s_pc (U := U) rfl rfl q.2⟩, s_recv hK hP (hLK _ hk7 (by decide)) (ci := 6) rfl o6, fun U hU hW => ⟨rfl, s_pw hU hW hP hKc hD hN⟩⟩ rfl rfl hl.1 rfl (lv_room (Nat.le_of_ble_eq_true rfl)) dL_law_801 ⟨Nat.le_of_ble_eq_true rfl, Nat.le_of_ble_eq_true rfl⟩) hS (fun q _ h => hLA q h) (fun q h => hLA q h) (fun r1 F2 t H1 locs ht hvm hw hB hz1 hk1 hS => ?_)
  obtain ⟨hP, hK1⟩ := hB
  rw [ht] at hP
  generalize H1 = H at hP hS ⊢
  obtain ⟨hb_r1, hc_r1, hI, hfr1⟩ := hw
  have hx1 : y_fi F2 xo 1 = y_fi F xo 1 := Int32.toInt_inj.mp ((lw_cE hk7 hI).trans (lw_nn hk7 (lw_cB hcz hIc)).symm)
  have hI := lw_cB hcz hI
  have hV := lw_x hV hI hfr1 (by decide)
  have ho1 : y_fi F2 om 1 = y_fi F om 1 := lw_fi (hfr1 om (by rw [hk9]; decide)) 1
  refine W.widen (k := 892) (n := 240949) (Nat.le_of_ble_eq_true rfl) (Nat.le_of_ble_eq_true rfl) ?_
  refine lv_pop hx hb dL_law_804 rfl ?_
  refine lv_aload_n hx hb dL_law_805 rfl (lv_at hl 1 rfl) ?_
  obtain ⟨hLK0, hk7, hk9, hI, hPG, hRI, hRJ, hUQ, hyA, hyI, hyT⟩ := id hV
  have hLK : ∀ a {k : Nat}, K a = k → k ≠ 0 → a ∈ L := fun a k e q => hLK0 a (by rw [e]; exact q)
  obtain ⟨z7, q7, o7, -⟩ := hyI.1 om hk9
  refine va_calli (va_runV (As := []) (rest := []) ⟨hx, hb, hml, hown, hts⟩ (y_X7_agrees l dC dI H.size hLK A hyA F2 om  hk9 hyI hyT) (cwV 0 hts (ax_gV T_529 T_398 T_399 T_265 T_74) rfl rfl rfl (by decide +kernel) ⟨Nat.le_of_ble_eq_true rfl, Nat.le_of_ble_eq_true rfl⟩) ⟨fun a U g mk q => ⟨q.1, s_pc (U := U) rfl rfl q.2⟩, s_recv hK hP (hLK _ hk9 (by decide)) (ci := 7) rfl o7, fun U hU hW => ⟨rfl, s_pw hU hW hP hK hD hN⟩⟩ rfl rfl hl.1 rfl (lv_room (Nat.le_of_ble_eq_true rfl)) dL_law_806 ⟨Nat.le_of_ble_eq_true rfl, Nat.le_of_ble_eq_true rfl⟩) hS (fun q _ h => hLA q h) (fun q h => hLA q h) (fun r3 F4 t H1 locs ht hvm hw hB hz1 hk1 hS => ?_)
  obtain ⟨hP, hK1⟩ := hB
  rw [ht] at hP
  generalize H1 = H at hP hS ⊢
  obtain ⟨hb_r3, hc_r3, hyI, hfr1, hf1, hp_r3⟩ := hw
  have hV := lw_y hV hyI hfr1 (by decide) hp_r3
  have hx2 : y_fi F4 xo 1 = y_fi F2 xo 1 := lw_fi (hfr1 xo (by rw [hk7]; decide)) 1
  have ho2 : y_fi F4 om 1 = y_fi F2 om 1 := hf1 1 (by decide)
  refine W.widen (k := 892) (n := 240949) (Nat.le_of_ble_eq_true rfl) (Nat.le_of_ble_eq_true rfl) ?_
  refine lv_pop hx hb dL_law_809 rfl ?_
  have hB9 : y_fi F4 xo 1 = y_fi F4 om 1 := hx2.trans (hx1.trans (hB0.trans (ho1.symm.trans ho2.symm)))
  refine lv_goto (tgt := 1099) hx hb dL_law_810 (by decide) ?_
  exact KK _ _ _ _ _ hV hB9 (by omega) hP hS
set_option maxHeartbeats 4000000 in
set_option maxRecDepth 100000 in
/-- likely -/
theorem law_c19 {p : Program} {e : Env} {s : State} {m : MethodId} {below : List Frame} {meth : Method} {c : Code} (l : Launch) {dC : Nat → ClassId} {dI : Nat → Nat → Nat} {cs : Nat → ClassId} {b N : Nat} {xs : Nat → Int32} {L : List Nat} {A : Nat → Nat} {xo om : Nat} {K : Nat → Nat} {D : Nat} {F : Nat → va_E} {n9 : Nat} {i : Int32} {H : Heap} {locs : List Loc} {ls : Array Slot} {adK adV : Nat → Nat} {tf : Option Nat} (C0 : lw_At p s m meth c b N xs) (hK : va_K (dC, dI) vwCl [(cs 0, .int), (cs 1, .byte), (cs 2, .long), (cs 3, .object RX5), (cs 4, .object RX4), (cs 5, .array .int), (cs 6, .char), (cs 7, .boolean)] s) (hD : ∀ G, va_D (fun q => q ∈ L) (va_pl L G)) (hLA : ∀ q, q ∈ L → s.heap.size ≤ q) (hZ : s_Z L adK adV tf s) (hNN : N ≤ 3072) (hi : 0 ≤ i.toInt ∧ i.toInt + 6 ≤ N) (hn : n9 < 512) (hcz : cs 24 = 0) (hV : lw_V cs L A xo om K D F) (hB0 : y_fi F xo 1 = y_fi F om 1) (hDn : D ≤ 62000 * n9) (hP : va_P (dC, dI) vwCl (va_pl L F) H) (hS : va_S (fun q : Nat => s.heap.size ≤ q) s.heap H locs) (hl : lv_has ls 4 [(3, .int i), (2, .ref om), (1, .ref xo), (0, .ref b)]) (KK : ∀ (K : Nat → Nat) (D : Nat) (F : Nat → va_E) (H : Heap) (locs : List Loc), lw_V cs L A xo om K D F → y_fi F xo 1 = y_fi F om 1 → D ≤ 62000 * (n9 + 1) → va_P (dC, dI) vwCl (va_pl L F) H → va_S (fun q : Nat => s.heap.size ≤ q) s.heap H locs → W p l e room_1 s m #[Value.ref b] below meth c H locs 892 240949 (lw_Z below #[Value.ref b] s) (F0 m 1099 ls [])) : W p l e room_1 s m #[Value.ref b] below meth c H locs 892 240949 (lw_Z below #[Value.ref b] s) (F0 m 813 ls []) := by
  obtain ⟨hx, hb, hr, hml, hown0, hts0, hX, hbl, hlocks, hgv⟩ := id C0
  have hown : s.vm.findClass RL = some m.cls := hown0
  have hts : ∀ w ∈ T0, w.before #[Value.ref b] s = true := fun w h => hts0 w (ax_law w h).1
  have hN : ax_N s := ax_Nlaw hts0
  have hbA : ¬ (fun q : Nat => s.heap.size ≤ q) b := Nat.not_le.mpr hbl
  refine lv_aload_n hx hb dL_law_813 rfl (lv_at hl 2 rfl) ?_
  refine lv_aload_n hx hb dL_law_814 rfl (lv_at hl 3 rfl) ?_
  refine lv_iload_n hx hb dL_law_815 rfl (lv_at hl 0 rfl) ?_
  refine lv_iconst (v := 1) hx hb dL_law_816 (by decide) ?_
  refine lv_iadd hx hb dL_law_817 ?_
  refine va_sld hx hb hX hbl hbA hS (lw_in hi hNN (by decide)) dL_law_818 ?_
  refine lv_topi (fun v1 ev1 => ?_)
  refine lv_aload_n hx hb dL_law_819 rfl (lv_at hl 3 rfl) ?_
  refine lv_iload_n hx hb dL_law_820 rfl (lv_at hl 0 rfl) ?_
  refine lv_iconst (v := 2) hx hb dL_law_821 (by decide) ?_
  refine lv_iadd hx hb dL_law_822 ?_
  refine va_sld hx hb hX hbl hbA hS (lw_in hi hNN (by decide)) dL_law_823 ?_
  refine lv_topi (fun v2 ev2 => ?_)
  refine lv_aload_n hx hb dL_law_824 rfl (lv_at hl 3 rfl) ?_
  refine lv_iload_n hx hb dL_law_825 rfl (lv_at hl 0 rfl) ?_
  refine lv_iconst (v := 3) hx hb dL_law_826 (by decide) ?_
  refine lv_iadd hx hb dL_law_827 ?_
  refine va_sld hx hb hX hbl hbA hS (lw_in hi hNN (by decide)) dL_law_828 ?_
  refine lv_topi (fun v3 ev3 => ?_)
  obtain ⟨hLK0, hk7, hk9, hI, hPG, hRI, hRJ, hUQ, hyA, hyI, hyT⟩ := id hV
  have hLK : ∀ a {k : Nat}, K a = k → k ≠ 0 → a ∈ L := fun a k e q => hLK0 a (by rw [e]; exact q)
  obtain ⟨fs6, o6⟩ := lw_o6 hI hk7
  have hIc := lw_cI hUQ.1 (lw_nn hk7 hI) hI
  have hKc : va_K (dC, dI) vwCl [(lw_c1 cs (y_fi F xo 1).toInt.toNat 0, .int), (lw_c1 cs (y_fi F xo 1).toInt.toNat 1, .byte), (lw_c1 cs (y_fi F xo 1).toInt.toNat 2, .long), (lw_c1 cs (y_fi F xo 1).toInt.toNat 3, .object RX5), (lw_c1 cs (y_fi F xo 1).toInt.toNat 4, .object RX4), (lw_c1 cs (y_fi F xo 1).toInt.toNat 5, .array .int), (lw_c1 cs (y_fi F xo 1).toInt.toNat 6, .char), (lw_c1 cs (y_fi F xo 1).toInt.toNat 7, .boolean)] s := hK
  have hPGc : s_PG K (lw_c1 cs (y_fi F xo 1).toInt.toNat) F := hPG
  refine va_calli (va_runV (As := [.int v1, .int v2, .int v3]) (rest := []) ⟨hx, hb, hml, hown, hts⟩ (s_X6_likely l dC dI H.size (cs := lw_c1 cs (y_fi F xo 1).toInt.toNat) hLK D (D + 6817) (Nat.le_refl _) (by omega) F xo v1 v2 v3 hk7 hIc hPGc) (cwV 3 hts (ax_gV T_530 T_400 T_401 T_193 T_75) rfl rfl rfl (by decide +kernel) ⟨Nat.le_of_ble_eq_true rfl, Nat.le_of_ble_eq_true rfl⟩) ⟨fun a U g mk q => ⟨q.1, s_pc (U := U) rfl rfl q.2⟩, s_recv hK hP (hLK _ hk7 (by decide)) (ci := 6) rfl o6, fun U hU hW => ⟨rfl, s_pw hU hW hP hKc hD hN⟩⟩ rfl rfl hl.1 rfl (lv_room (Nat.le_of_ble_eq_true rfl)) dL_law_829 ⟨Nat.le_of_ble_eq_true rfl, Nat.le_of_ble_eq_true rfl⟩) hS (fun q _ h => hLA q h) (fun q h => hLA q h) (fun r4 F5 t H1 locs ht hvm hw hB hz1 hk1 hS => ?_)
  obtain ⟨hP, hK1⟩ := hB
  rw [ht] at hP
  generalize H1 = H at hP hS ⊢
  obtain ⟨hb_r4, hc_r4, hI, hfr1⟩ := hw
  have hx1 : y_fi F5 xo 1 = y_fi F xo 1 := Int32.toInt_inj.mp ((lw_cE hk7 hI).trans (lw_nn hk7 (lw_cB hcz hIc)).symm)
  have hI := lw_cB hcz hI
  have hV := lw_x hV hI hfr1 (by decide)
  have ho1 : y_fi F5 om 1 = y_fi F om 1 := lw_fi (hfr1 om (by rw [hk9]; decide)) 1
  refine W.widen (k := 892) (n := 240949) (Nat.le_of_ble_eq_true rfl) (Nat.le_of_ble_eq_true rfl) ?_
  refine lv_pop hx hb dL_law_832 rfl ?_
  refine lv_aload_n hx hb dL_law_833 rfl (lv_at hl 1 rfl) ?_
  refine lv_aload_n hx hb dL_law_834 rfl (lv_at hl 3 rfl) ?_
  refine lv_iload_n hx hb dL_law_835 rfl (lv_at hl 0 rfl) ?_
  refine lv_iconst (v := 1) hx hb dL_law_836 (by decide) ?_
  refine lv_iadd hx hb dL_law_837 ?_
  refine va_sld hx hb hX hbl hbA hS (lw_in hi hNN (by decide)) dL_law_838 ?_
  refine lv_topi (fun v6 ev6 => ?_)
  refine lv_aload_n hx hb dL_law_839 rfl (lv_at hl 3 rfl) ?_
  refine lv_iload_n hx hb dL_law_840 rfl (lv_at hl 0 rfl) ?_
  refine lv_iconst (v := 2) hx hb dL_law_841 (by decide) ?_
  refine lv_iadd hx hb dL_law_842 ?_
  refine va_sld hx hb hX hbl hbA hS (lw_in hi hNN (by decide)) dL_law_843 ?_
  refine lv_topi (fun v7 ev7 => ?_)
  refine lv_aload_n hx hb dL_law_844 rfl (lv_at hl 3 rfl) ?_
  refine lv_iload_n hx hb dL_law_845 rfl (lv_at hl 0 rfl) ?_
  refine lv_iconst (v := 3) hx hb dL_law_846 (by decide) ?_
  refine lv_iadd hx hb dL_law_847 ?_
  refine va_sld hx hb hX hbl hbA hS (lw_in hi hNN (by decide)) dL_law_848 ?_
  refine lv_topi (fun v8 ev8 => ?_)
  obtain ⟨hLK0, hk7, hk9, hI, hPG, hRI, hRJ, hUQ, hyA, hyI, hyT⟩ := id hV
  have hLK : ∀ a {k : Nat}, K a = k → k ≠ 0 → a ∈ L := fun a k e q => hLK0 a (by rw [e]; exact q)
  obtain ⟨z7, q7, o7, -⟩ := hyI.1 om hk9
  refine va_calli (va_runV (As := [.int v6, .int v7, .int v8]) (rest := []) ⟨hx, hb, hml, hown, hts⟩ (y_X7_likely l dC dI H.size hLK A hyA F5 om v6 v7 v8 hk9 hyI hyT) (cwV 3 hts (ax_gV T_531 T_402 T_403 T_265 T_76) rfl rfl rfl (by decide +kernel) ⟨Nat.le_of_ble_eq_true rfl, Nat.le_of_ble_eq_true rfl⟩) ⟨fun a U g mk q => ⟨q.1, s_pc (U := U) rfl rfl q.2⟩, s_recv hK hP (hLK _ hk9 (by decide)) (ci := 7) rfl o7, fun U hU hW => ⟨rfl, s_pw hU hW hP hK hD hN⟩⟩ rfl rfl hl.1 rfl (lv_room (Nat.le_of_ble_eq_true rfl)) dL_law_849 ⟨Nat.le_of_ble_eq_true rfl, Nat.le_of_ble_eq_true rfl⟩) hS (fun q _ h => hLA q h) (fun q h => hLA q h) (fun r9 F10 t H1 locs ht hvm hw hB hz1 hk1 hS => ?_)
  obtain ⟨hP, hK1⟩ := hB
  rw [ht] at hP
  generalize H1 = H at hP hS ⊢
  obtain ⟨hb_r9, hc_r9, hyI, hfr1, hf1, hp_r9⟩ := hw
  have hV := lw_y hV hyI hfr1 (by decide) hp_r9
  have hx2 : y_fi F10 xo 1 = y_fi F5 xo 1 := lw_fi (hfr1 xo (by rw [hk7]; decide)) 1
  have ho2 : y_fi F10 om 1 = y_fi F5 om 1 := hf1 1 (by decide)
  refine W.widen (k := 892) (n := 240949) (Nat.le_of_ble_eq_true rfl) (Nat.le_of_ble_eq_true rfl) ?_
  refine lv_pop hx hb dL_law_852 rfl ?_
  have hB9 : y_fi F10 xo 1 = y_fi F10 om 1 := hx2.trans (hx1.trans (hB0.trans (ho1.symm.trans ho2.symm)))
  refine lv_goto (tgt := 1099) hx hb dL_law_853 (by decide) ?_
  exact KK _ _ _ _ _ hV hB9 (by omega) hP hS
