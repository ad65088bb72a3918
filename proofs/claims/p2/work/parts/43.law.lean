set_option maxHeartbeats 4000000 in
set_option maxRecDepth 100000 in
/-- tells -/
theorem law_c20 {p : Program} {e : Env} {s : State} {m : MethodId} {below : List Frame} {meth : Method} {c : Code} (l : Launch) {dC : Nat → ClassId} {dI : Nat → Nat → Nat} {cs : Nat → ClassId} {b N : Nat} {xs : Nat → Int32} {L : List Nat} {A : Nat → Nat} {xo om : Nat} {K : Nat → Nat} {D : Nat} {F : Nat → va_E} {n9 : Nat} {i : Int32} {H : Heap} {locs : List Loc} {ls : Array Slot} {adK adV : Nat → Nat} {tf : Option Nat} (C0 : lw_At p s m meth c b N xs) (hK : va_K (dC, dI) vwCl [(cs 0, .int), (cs 1, .byte), (cs 2, .long), (cs 3, .object RX5), (cs 4, .object RX4), (cs 5, .array .int), (cs 6, .char), (cs 7, .boolean)] s) (hD : ∀ G, va_D (fun q => q ∈ L) (va_pl L G)) (hLA : ∀ q, q ∈ L → s.heap.size ≤ q) (hZ : s_Z L adK adV tf s) (hNN : N ≤ 3072) (hi : 0 ≤ i.toInt ∧ i.toInt + 6 ≤ N) (hn : n9 < 512) (hcz : cs 24 = 0) (hV : lw_V cs L A xo om K D F) (hB0 : y_fi F xo 1 = y_fi F om 1) (hDn : D ≤ 62000 * n9) (hP : va_P (dC, dI) vwCl (va_pl L F) H) (hS : va_S (fun q : Nat => s.heap.size ≤ q) s.heap H locs) (hl : lv_has ls 4 [(3, .int i), (2, .ref om), (1, .ref xo), (0, .ref b)]) (KK : ∀ (K : Nat → Nat) (D : Nat) (F : Nat → va_E) (H : Heap) (locs : List Loc), lw_V cs L A xo om K D F → y_fi F xo 1 = y_fi F om 1 → D ≤ 62000 * (n9 + 1) → va_P (dC, dI) vwCl (va_pl L F) H → va_S (fun q : Nat => s.heap.size ≤ q) s.heap H locs → W p l e room_1 s m #[Value.ref b] below meth c H locs 892 240949 (lw_Z below #[Value.ref b] s) (F0 m 1099 ls [])) : W p l e room_1 s m #[Value.ref b] below meth c H locs 892 240949 (lw_Z below #[Value.ref b] s) (F0 m 856 ls []) := by
  obtain ⟨hx, hb, hr, hml, hown0, hts0, hX, hbl, hlocks, hgv⟩ := id C0
  have hown : s.vm.findClass RL = some m.cls := hown0
  have hts : ∀ w ∈ T0, w.before #[Value.ref b] s = true := fun w h => hts0 w (ax_law w h).1
  have hN : ax_N s := ax_Nlaw hts0
  have hbA : ¬ (fun q : Nat => s.heap.size ≤ q) b := Nat.not_le.mpr hbl
  refine lv_aload_n hx hb dL_law_856 rfl (lv_at hl 2 rfl) ?_
  refine lv_aload_n hx hb dL_law_857 rfl (lv_at hl 3 rfl) ?_
  refine lv_iload_n hx hb dL_law_858 rfl (lv_at hl 0 rfl) ?_
  refine lv_iconst (v := 1) hx hb dL_law_859 (by decide) ?_
  refine lv_iadd hx hb dL_law_860 ?_
  refine va_sld hx hb hX hbl hbA hS (lw_in hi hNN (by decide)) dL_law_861 ?_
  refine lv_topi (fun v1 ev1 => ?_)
  obtain ⟨hLK0, hk7, hk9, hI, hPG, hRI, hRJ, hUQ, hyA, hyI, hyT⟩ := id hV
  have hLK : ∀ a {k : Nat}, K a = k → k ≠ 0 → a ∈ L := fun a k e q => hLK0 a (by rw [e]; exact q)
  obtain ⟨fs6, o6⟩ := lw_o6 hI hk7
  have hIc := lw_cI hUQ.1 (lw_nn hk7 hI) hI
  have hKc : va_K (dC, dI) vwCl [(lw_c1 cs (y_fi F xo 1).toInt.toNat 0, .int), (lw_c1 cs (y_fi F xo 1).toInt.toNat 1, .byte), (lw_c1 cs (y_fi F xo 1).toInt.toNat 2, .long), (lw_c1 cs (y_fi F xo 1).toInt.toNat 3, .object RX5), (lw_c1 cs (y_fi F xo 1).toInt.toNat 4, .object RX4), (lw_c1 cs (y_fi F xo 1).toInt.toNat 5, .array .int), (lw_c1 cs (y_fi F xo 1).toInt.toNat 6, .char), (lw_c1 cs (y_fi F xo 1).toInt.toNat 7, .boolean)] s := hK
  have hPGc : s_PG K (lw_c1 cs (y_fi F xo 1).toInt.toNat) F := hPG
  refine va_calli (va_runV (As := [.int v1]) (rest := []) ⟨hx, hb, hml, hown, hts⟩ (s_X6_tells l dC dI H.size (cs := lw_c1 cs (y_fi F xo 1).toInt.toNat) hLK D (D + 61353) (Nat.le_refl _) (by omega) F xo v1 hk7 hIc hPGc) (cwV 1 hts (ax_gV T_532 T_404 T_405 T_193 T_77) rfl rfl rfl (by decide +kernel) ⟨Nat.le_of_ble_eq_true rfl, Nat.le_of_ble_eq_true rfl⟩) ⟨fun a U g mk q => ⟨q.1, s_pc (U := U) rfl rfl q.2⟩, s_recv hK hP (hLK _ hk7 (by decide)) (ci := 6) rfl o6, fun U hU hW => ⟨rfl, s_pw hU hW hP hKc hD hN⟩⟩ rfl rfl hl.1 rfl (lv_room (Nat.le_of_ble_eq_true rfl)) dL_law_862 ⟨Nat.le_of_ble_eq_true rfl, Nat.le_of_ble_eq_true rfl⟩) hS (fun q _ h => hLA q h) (fun q h => hLA q h) (fun r2 F3 t H1 locs ht hvm hw hB hz1 hk1 hS => ?_)
  obtain ⟨hP, hK1⟩ := hB
  rw [ht] at hP
  generalize H1 = H at hP hS ⊢
  obtain ⟨hb_r2, hc_r2, hI, hfr1⟩ := hw
  have hx1 : y_fi F3 xo 1 = y_fi F xo 1 := Int32.toInt_inj.mp ((lw_cE hk7 hI).trans (lw_nn hk7 (lw_cB hcz hIc)).symm)
  have hI := lw_cB hcz hI
  have hV := lw_x hV hI hfr1 (by decide)
  have ho1 : y_fi F3 om 1 = y_fi F om 1 := lw_fi (hfr1 om (by rw [hk9]; decide)) 1
  refine W.widen (k := 892) (n := 240949) (Nat.le_of_ble_eq_true rfl) (Nat.le_of_ble_eq_true rfl) ?_
  refine lv_pop hx hb dL_law_865 rfl ?_
  refine lv_aload_n hx hb dL_law_866 rfl (lv_at hl 1 rfl) ?_
  refine lv_aload_n hx hb dL_law_867 rfl (lv_at hl 3 rfl) ?_
  refine lv_iload_n hx hb dL_law_868 rfl (lv_at hl 0 rfl) ?_
  refine lv_iconst (v := 1) hx hb dL_law_869 (by decide) ?_
  refine lv_iadd hx hb dL_law_870 ?_
  refine va_sld hx hb hX hbl hbA hS (lw_in hi hNN (by decide)) dL_law_871 ?_
  refine lv_topi (fun v4 ev4 => ?_)
  obtain ⟨hLK0, hk7, hk9, hI, hPG, hRI, hRJ, hUQ, hyA, hyI, hyT⟩ := id hV
  have hLK : ∀ a {k : Nat}, K a = k → k ≠ 0 → a ∈ L := fun a k e q => hLK0 a (by rw [e]; exact q)
  obtain ⟨z7, q7, o7, -⟩ := hyI.1 om hk9
  refine va_calli (va_runV (As := [.int v4]) (rest := []) ⟨hx, hb, hml, hown, hts⟩ (y_X7_tells l dC dI H.size hLK A hyA F3 om v4 hk9 hyI hyT) (cwV 1 hts (ax_gV T_533 T_406 T_407 T_265 T_78) rfl rfl rfl (by decide +kernel) ⟨Nat.le_of_ble_eq_true rfl, Nat.le_of_ble_eq_true rfl⟩) ⟨fun a U g mk q => ⟨q.1, s_pc (U := U) rfl rfl q.2⟩, s_recv hK hP (hLK _ hk9 (by decide)) (ci := 7) rfl o7, fun U hU hW => ⟨rfl, s_pw hU hW hP hK hD hN⟩⟩ rfl rfl hl.1 rfl (lv_room (Nat.le_of_ble_eq_true rfl)) dL_law_872 ⟨Nat.le_of_ble_eq_true rfl, Nat.le_of_ble_eq_true rfl⟩) hS (fun q _ h => hLA q h) (fun q h => hLA q h) (fun r5 F6 t H1 locs ht hvm hw hB hz1 hk1 hS => ?_)
  obtain ⟨hP, hK1⟩ := hB
  rw [ht] at hP
  generalize H1 = H at hP hS ⊢
  obtain ⟨hb_r5, hc_r5, hyI, hfr1, hf1, hp_r5⟩ := hw
  have hV := lw_y hV hyI hfr1 (by decide) hp_r5
  have hx2 : y_fi F6 xo 1 = y_fi F3 xo 1 := lw_fi (hfr1 xo (by rw [hk7]; decide)) 1
  have ho2 : y_fi F6 om 1 = y_fi F3 om 1 := hf1 1 (by decide)
  refine W.widen (k := 892) (n := 240949) (Nat.le_of_ble_eq_true rfl) (Nat.le_of_ble_eq_true rfl) ?_
  refine lv_pop hx hb dL_law_875 rfl ?_
  have hB9 : y_fi F6 xo 1 = y_fi F6 om 1 := hx2.trans (hx1.trans (hB0.trans (ho1.symm.trans ho2.symm)))
  refine lv_goto (tgt := 1099) hx hb dL_law_876 (by decide) ?_
  exact KK _ _ _ _ _ hV hB9 (by omega) hP hS
set_option maxHeartbeats 4000000 in
set_option maxRecDepth 100000 in
/-- cycles -/
theorem law_c21 {p : Program} {e : Env} {s : State} {m : MethodId} {below : List Frame} {meth : Method} {c : Code} (l : Launch) {dC : Nat → ClassId} {dI : Nat → Nat → Nat} {cs : Nat → ClassId} {b N : Nat} {xs : Nat → Int32} {L : List Nat} {A : Nat → Nat} {xo om : Nat} {K : Nat → Nat} {D : Nat} {F : Nat → va_E} {n9 : Nat} {i : Int32} {H : Heap} {locs : List Loc} {ls : Array Slot} {adK adV : Nat → Nat} {tf : Option Nat} (C0 : lw_At p s m meth c b N xs) (hK : va_K (dC, dI) vwCl [(cs 0, .int), (cs 1, .byte), (cs 2, .long), (cs 3, .object RX5), (cs 4, .object RX4), (cs 5, .array .int), (cs 6, .char), (cs 7, .boolean)] s) (hD : ∀ G, va_D (fun q => q ∈ L) (va_pl L G)) (hLA : ∀ q, q ∈ L → s.heap.size ≤ q) (hZ : s_Z L adK adV tf s) (hNN : N ≤ 3072) (hi : 0 ≤ i.toInt ∧ i.toInt + 6 ≤ N) (hn : n9 < 512) (hcz : cs 24 = 0) (hV : lw_V cs L A xo om K D F) (hB0 : y_fi F xo 1 = y_fi F om 1) (hDn : D ≤ 62000 * n9) (hP : va_P (dC, dI) vwCl (va_pl L F) H) (hS : va_S (fun q : Nat => s.heap.size ≤ q) s.heap H locs) (hl : lv_has ls 4 [(3, .int i), (2, .ref om), (1, .ref xo), (0, .ref b)]) (KK : ∀ (K : Nat → Nat) (D : Nat) (F : Nat → va_E) (H : Heap) (locs : List Loc), lw_V cs L A xo om K D F → y_fi F xo 1 = y_fi F om 1 → D ≤ 62000 * (n9 + 1) → va_P (dC, dI) vwCl (va_pl L F) H → va_S (fun q : Nat => s.heap.size ≤ q) s.heap H locs → W p l e room_1 s m #[Value.ref b] below meth c H locs 892 240949 (lw_Z below #[Value.ref b] s) (F0 m 1099 ls [])) : W p l e room_1 s m #[Value.ref b] below meth c H locs 892 240949 (lw_Z below #[Value.ref b] s) (F0 m 879 ls []) := by
  obtain ⟨hx, hb, hr, hml, hown0, hts0, hX, hbl, hlocks, hgv⟩ := id C0
  have hown : s.vm.findClass RL = some m.cls := hown0
  have hts : ∀ w ∈ T0, w.before #[Value.ref b] s = true := fun w h => hts0 w (ax_law w h).1
  have hN : ax_N s := ax_Nlaw hts0
  have hbA : ¬ (fun q : Nat => s.heap.size ≤ q) b := Nat.not_le.mpr hbl
  refine lv_aload_n hx hb dL_law_879 rfl (lv_at hl 2 rfl) ?_
  refine lv_aload_n hx hb dL_law_880 rfl (lv_at hl 3 rfl) ?_
  refine lv_iload_n hx hb dL_law_881 rfl (lv_at hl 0 rfl) ?_
  refine lv_iconst (v := 1) hx hb dL_law_882 (by decide) ?_
  refine lv_iadd hx hb dL_law_883 ?_
  refine va_sld hx hb hX hbl hbA hS (lw_in hi hNN (by decide)) dL_law_884 ?_
  refine lv_topi (fun v1 ev1 => ?_)
  obtain ⟨hLK0, hk7, hk9, hI, hPG, hRI, hRJ, hUQ, hyA, hyI, hyT⟩ := id hV
  have hLK : ∀ a {k : Nat}, K a = k → k ≠ 0 → a ∈ L := fun a k e q => hLK0 a (by rw [e]; exact q)
  obtain ⟨fs6, o6⟩ := lw_o6 hI hk7
  have hIc := lw_cI hUQ.1 (lw_nn hk7 hI) hI
  have hKc : va_K (dC, dI) vwCl [(lw_c1 cs (y_fi F xo 1).toInt.toNat 0, .int), (lw_c1 cs (y_fi F xo 1).toInt.toNat 1, .byte), (lw_c1 cs (y_fi F xo 1).toInt.toNat 2, .long), (lw_c1 cs (y_fi F xo 1).toInt.toNat 3, .object RX5), (lw_c1 cs (y_fi F xo 1).toInt.toNat 4, .object RX4), (lw_c1 cs (y_fi F xo 1).toInt.toNat 5, .array .int), (lw_c1 cs (y_fi F xo 1).toInt.toNat 6, .char), (lw_c1 cs (y_fi F xo 1).toInt.toNat 7, .boolean)] s := hK
  have hPGc : s_PG K (lw_c1 cs (y_fi F xo 1).toInt.toNat) F := hPG
  refine va_calli (va_runV (As := [.int v1]) (rest := []) ⟨hx, hb, hml, hown, hts⟩ (s_X6_cycles l dC dI H.size (cs := lw_c1 cs (y_fi F xo 1).toInt.toNat) hLK D (D + 401) (Nat.le_refl _) (by omega) F xo v1 hk7 hIc hPGc) (cwV 1 hts (ax_gV T_534 T_408 T_409 T_193 T_79) rfl rfl rfl (by decide +kernel) ⟨Nat.le_of_ble_eq_true rfl, Nat.le_of_ble_eq_true rfl⟩) ⟨fun a U g mk q => ⟨q.1, s_pc (U := U) rfl rfl q.2⟩, s_recv hK hP (hLK _ hk7 (by decide)) (ci := 6) rfl o6, fun U hU hW => ⟨rfl, s_pw hU hW hP hKc hD hN⟩⟩ rfl rfl hl.1 rfl (lv_room (Nat.le_of_ble_eq_true rfl)) dL_law_885 ⟨Nat.le_of_ble_eq_true rfl, Nat.le_of_ble_eq_true rfl⟩) hS (fun q _ h => hLA q h) (fun q h => hLA q h) (fun r2 F3 t H1 locs ht hvm hw hB hz1 hk1 hS => ?_)
  obtain ⟨hP, hK1⟩ := hB
  rw [ht] at hP
  generalize H1 = H at hP hS ⊢
  obtain ⟨hb_r2, hc_r2, hI, hfr1⟩ := hw
  have hx1 : y_fi F3 xo 1 = y_fi F xo 1 := Int32.toInt_inj.mp ((lw_cE hk7 hI).trans (lw_nn hk7 (lw_cB hcz hIc)).symm)
  have hI := lw_cB hcz hI
  have hV := lw_x hV hI hfr1 (by decide)
  have ho1 : y_fi F3 om 1 = y_fi F om 1 := lw_fi (hfr1 om (by rw [hk9]; decide)) 1
  refine W.widen (k := 892) (n := 240949) (Nat.le_of_ble_eq_true rfl) (Nat.le_of_ble_eq_true rfl) ?_
  refine lv_pop hx hb dL_law_888 rfl ?_
  refine lv_aload_n hx hb dL_law_889 rfl (lv_at hl 1 rfl) ?_
  refine lv_aload_n hx hb dL_law_890 rfl (lv_at hl 3 rfl) ?_
  refine lv_iload_n hx hb dL_law_891 rfl (lv_at hl 0 rfl) ?_
  refine lv_iconst (v := 1) hx hb dL_law_892 (by decide) ?_
  refine lv_iadd hx hb dL_law_893 ?_
  refine va_sld hx hb hX hbl hbA hS (lw_in hi hNN (by decide)) dL_law_894 ?_
  refine lv_topi (fun v4 ev4 => ?_)
  obtain ⟨hLK0, hk7, hk9, hI, hPG, hRI, hRJ, hUQ, hyA, hyI, hyT⟩ := id hV
  have hLK : ∀ a {k : Nat}, K a = k → k ≠ 0 → a ∈ L := fun a k e q => hLK0 a (by rw [e]; exact q)
  obtain ⟨z7, q7, o7, -⟩ := hyI.1 om hk9
  refine va_calli (va_runV (As := [.int v4]) (rest := []) ⟨hx, hb, hml, hown, hts⟩ (y_X7_cycles l dC dI H.size hLK A hyA F3 om v4 hk9 hyI hyT) (cwV 1 hts (ax_gV T_535 T_410 T_411 T_265 T_80) rfl rfl rfl (by decide +kernel) ⟨Nat.le_of_ble_eq_true rfl, Nat.le_of_ble_eq_true rfl⟩) ⟨fun a U g mk q => ⟨q.1, s_pc (U := U) rfl rfl q.2⟩, s_recv hK hP (hLK _ hk9 (by decide)) (ci := 7) rfl o7, fun U hU hW => ⟨rfl, s_pw hU hW hP hK hD hN⟩⟩ rfl rfl hl.1 rfl (lv_room (Nat.le_of_ble_eq_true rfl)) dL_law_895 ⟨Nat.le_of_ble_eq_true rfl, Nat.le_of_ble_eq_true rfl⟩) hS (fun q _ h => hLA q h) (fun q h => hLA q h) (fun r5 F6 t H1 locs ht hvm hw hB hz1 hk1 hS => ?_)
  obtain ⟨hP, hK1⟩ := hB
  rw [ht] at hP
  generalize H1 = H at hP hS ⊢
  obtain ⟨hb_r5, hc_r5, hyI, hfr1, hf1, hp_r5⟩ := hw
  have hV := lw_y hV hyI hfr1 (by decide) hp_r5
  have hx2 : y_fi F6 xo 1 = y_fi F3 xo 1 := lw_fi (hfr1 xo (by rw [hk7]; decide)) 1
  have ho2 : y_fi F6 om 1 = y_fi F3 om 1 := hf1 1 (by decide)
  refine W.widen (k := 892) (n := 240949) (Nat.le_of_ble_eq_true rfl) (Nat.le_of_ble_eq_true rfl) ?_
  refine lv_pop hx hb dL_law_898 rfl ?_
  have hB9 : y_fi F6 xo 1 = y_fi F6 om 1 := hx2.trans (hx1.trans (hB0.trans (ho1.symm.trans ho2.symm)))
  refine lv_goto (tgt := 1099) hx hb dL_law_899 (by decide) ?_
  exact KK _ _ _ _ _ hV hB9 (by omega) hP hS
set_option maxHeartbeats 4000000 in
set_option maxRecDepth 100000 in
/-- poke -/
theorem law_c22 {p : Program} {e : Env} {s : State} {m : MethodId} {below : List Frame} {meth : Method} {c : Code} (l : Launch) {dC : Nat → ClassId} {dI : Nat → Nat → Nat} {cs : Nat → ClassId} {b N : Nat} {xs : Nat → Int32} {L : List Nat} {A : Nat → Nat} {xo om : Nat} {K : Nat → Nat} {D : Nat} {F : Nat → va_E} {n9 : Nat} {i : Int32} {H : Heap} {locs : List Loc} {ls : Array Slot} {adK adV : Nat → Nat} {tf : Option Nat} (C0 : lw_At p s m meth c b N xs) (hK : va_K (dC, dI) vwCl [(cs 0, .int), (cs 1, .byte), (cs 2, .long), (cs 3, .object RX5), (cs 4, .object RX4), (cs 5, .array .int), (cs 6, .char), (cs 7, .boolean)] s) (hD : ∀ G, va_D (fun q => q ∈ L) (va_pl L G)) (hLA : ∀ q, q ∈ L → s.heap.size ≤ q) (hZ : s_Z L adK adV tf s) (hNN : N ≤ 3072) (hi : 0 ≤ i.toInt ∧ i.toInt + 6 ≤ N) (hn : n9 < 512) (hcz : cs 24 = 0) (hV : lw_V cs L A xo om K D F) (hB0 : y_fi F xo 1 = y_fi F om 1) (hDn : D ≤ 62000 * n9) (hP : va_P (dC, dI) vwCl (va_pl L F) H) (hS : va_S (fun q : Nat => s.heap.size ≤ q) s.heap H locs) (hl : lv_has ls 4 [(3, .int i), (2, .ref om), (1, .ref xo), (0, .ref b)]) (KK : ∀ (K : Nat → Nat) (D : Nat) (F : Nat → va_E) (H : Heap) (locs : List Loc), lw_V cs L A xo om K D F → y_fi F xo 1 = y_fi F om 1 → D ≤ 62000 * (n9 + 1) → va_P (dC, dI) vwCl (va_pl L F) H → va_S (fun q : Nat => s.heap.size ≤ q) s.heap H locs → W p l e room_1 s m #[Value.ref b] below meth c H locs 892 240949 (lw_Z below #[Value.ref b] s) (F0 m 1099 ls [])) : W p l e room_1 s m #[Value.ref b] below meth c H locs 892 240949 (lw_Z below #[Value.ref b] s) (F0 m 902 ls []) := by
  obtain ⟨hx, hb, hr, hml, hown0, hts0, hX, hbl, hlocks, hgv⟩ := id C0
  have hown : s.vm.findClass RL = some m.cls := hown0
  have hts : ∀ w ∈ T0, w.before #[Value.ref b] s = true := fun w h => hts0 w (ax_law w h).1
  have hN : ax_N s := ax_Nlaw hts0
  have hbA : ¬ (fun q : Nat => s.heap.size ≤ q) b := Nat.not_le.mpr hbl
  refine lv_aload_n hx hb dL_law_902 rfl (lv_at hl 2 rfl) ?_
  refine lv_aload_n hx hb dL_law_903 rfl (lv_at hl 3 rfl) ?_
  refine lv_iload_n hx hb dL_law_904 rfl (lv_at hl 0 rfl) ?_
  refine lv_iconst (v := 1) hx hb dL_law_905 (by decide) ?_
  refine lv_iadd hx hb dL_law_906 ?_
  refine va_sld hx hb hX hbl hbA hS (lw_in hi hNN (by decide)) dL_law_907 ?_
  refine lv_topi (fun v1 ev1 => ?_)
  suffices kk : ∀ w : Int32, (0 ≤ w.toInt ∧ w.toInt ≤ 1) → W p l e room_1 s m #[Value.ref b] below meth c H locs 892 240949 (lw_Z below #[Value.ref b] s) (F0 m 916 ls (.int w :: [.ref xo])) by
    refine lv_if_eq (tgt := 915) hx hb dL_law_908 (by decide) (fun _ => ?_) (fun _ => ?_)
    · refine lv_iconst (v := 0) hx hb dL_law_915 (by decide) ?_
      exact kk 0 (by decide)
    · refine lv_iconst (v := 1) hx hb dL_law_911 (by decide) ?_
      refine lv_goto (tgt := 916) hx hb dL_law_912 (by decide) ?_
      exact kk 1 (by decide)
  intro w2 hw2
  refine lv_aload_n hx hb dL_law_916 rfl (lv_at hl 3 rfl) ?_
  refine lv_iload_n hx hb dL_law_917 rfl (lv_at hl 0 rfl) ?_
  refine lv_iconst (v := 2) hx hb dL_law_918 (by decide) ?_
  refine lv_iadd hx hb dL_law_919 ?_
  refine va_sld hx hb hX hbl hbA hS (lw_in hi hNN (by decide)) dL_law_920 ?_
  refine lv_topi (fun v3 ev3 => ?_)
  refine lv_aload_n hx hb dL_law_921 rfl (lv_at hl 3 rfl) ?_
  refine lv_iload_n hx hb dL_law_922 rfl (lv_at hl 0 rfl) ?_
  refine lv_iconst (v := 3) hx hb dL_law_923 (by decide) ?_
  refine lv_iadd hx hb dL_law_924 ?_
  refine va_sld hx hb hX hbl hbA hS (lw_in hi hNN (by decide)) dL_law_925 ?_
  refine lv_topi (fun v4 ev4 => ?_)
  obtain ⟨hLK0, hk7, hk9, hI, hPG, hRI, hRJ, hUQ, hyA, hyI, hyT⟩ := id hV
  have hLK : ∀ a {k : Nat}, K a = k → k ≠ 0 → a ∈ L := fun a k e q => hLK0 a (by rw [e]; exact q)
  obtain ⟨fs6, o6⟩ := lw_o6 hI hk7
  have hIc := lw_cI hUQ.1 (lw_nn hk7 hI) hI
  have hKc : va_K (dC, dI) vwCl [(lw_c1 cs (y_fi F xo 1).toInt.toNat 0, .int), (lw_c1 cs (y_fi F xo 1).toInt.toNat 1, .byte), (lw_c1 cs (y_fi F xo 1).toInt.toNat 2, .long), (lw_c1 cs (y_fi F xo 1).toInt.toNat 3, .object RX5), (lw_c1 cs (y_fi F xo 1).toInt.toNat 4, .object RX4), (lw_c1 cs (y_fi F xo 1).toInt.toNat 5, .array .int), (lw_c1 cs (y_fi F xo 1).toInt.toNat 6, .char), (lw_c1 cs (y_fi F xo 1).toInt.toNat 7, .boolean)] s := hK
  refine va_calli (va_runV (As := [.int w2, .int v3, .int v4]) (rest := []) ⟨hx, hb, hml, hown, hts⟩ (s_X6_poke l dC dI H.size (cs := lw_c1 cs (y_fi F xo 1).toInt.toNat) hLK D F xo w2 v3 v4 hk7 hw2 hIc) (cwV 3 hts (ax_gV T_536 T_412 T_413 T_193 T_81) rfl rfl rfl (by decide +kernel) ⟨Nat.le_of_ble_eq_true rfl, Nat.le_of_ble_eq_true rfl⟩) ⟨fun a U g mk q => ⟨q.1, s_pc (U := U) rfl rfl q.2⟩, s_recv hK hP (hLK _ hk7 (by decide)) (ci := 6) rfl o6, fun U hU hW => ⟨rfl, s_pw hU hW hP hKc hD hN⟩⟩ rfl rfl hl.1 rfl (lv_room (Nat.le_of_ble_eq_true rfl)) dL_law_926 ⟨Nat.le_of_ble_eq_true rfl, Nat.le_of_ble_eq_true rfl⟩) hS (fun q _ h => hLA q h) (fun q h => hLA q h) (fun r5 F6 t H1 locs ht hvm hw hB hz1 hk1 hS => ?_)
  obtain ⟨hP, hK1⟩ := hB
  rw [ht] at hP
  generalize H1 = H at hP hS ⊢
  obtain ⟨hb_r5, hc_r5, hI, hfr1⟩ := hw
  have hx1 : y_fi F6 xo 1 = y_fi F xo 1 := Int32.toInt_inj.mp ((lw_cE hk7 hI).trans (lw_nn hk7 (lw_cB hcz hIc)).symm)
  have hI := lw_cB hcz hI
  have hV := lw_x hV hI hfr1 (by decide)
  have ho1 : y_fi F6 om 1 = y_fi F om 1 := lw_fi (hfr1 om (by rw [hk9]; decide)) 1
  refine W.widen (k := 892) (n := 240949) (Nat.le_of_ble_eq_true rfl) (Nat.le_of_ble_eq_true rfl) ?_
  refine lv_pop hx hb dL_law_929 rfl ?_
  refine lv_aload_n hx hb dL_law_930 rfl (lv_at hl 1 rfl) ?_
  refine lv_aload_n hx hb dL_law_931 rfl (lv_at hl 3 rfl) ?_
  refine lv_iload_n hx hb dL_law_932 rfl (lv_at hl 0 rfl) ?_
  refine lv_iconst (v := 1) hx hb dL_law_933 (by decide) ?_
  refine lv_iadd hx hb dL_law_934 ?_
  refine va_sld hx hb hX hbl hbA hS (lw_in hi hNN (by decide)) dL_law_935 ?_
  refine lv_topi (fun v7 ev7 => ?_)
  suffices kk : ∀ w : Int32, (0 ≤ w.toInt ∧ w.toInt ≤ 1) → W p l e room_1 s m #[Value.ref b] below meth c H locs 892 240949 (lw_Z below #[Value.ref b] s) (F0 m 944 ls (.int w :: [.ref om])) by
    refine lv_if_eq (tgt := 943) hx hb dL_law_936 (by decide) (fun _ => ?_) (fun _ => ?_)
    · refine lv_iconst (v := 0) hx hb dL_law_943 (by decide) ?_
      exact kk 0 (by decide)
    · refine lv_iconst (v := 1) hx hb dL_law_939 (by decide) ?_
      refine lv_goto (tgt := 944) hx hb dL_law_940 (by decide) ?_
      exact kk 1 (by decide)
  intro w8 hw8
  refine lv_aload_n hx hb dL_law_944 rfl (lv_at hl 3 rfl) ?_
  refine lv_iload_n hx hb dL_law_945 rfl (lv_at hl 0 rfl) ?_
  refine lv_iconst (v := 2) hx hb dL_law_946 (by decide) ?_
  refine lv_iadd hx hb dL_law_947 ?_
  refine va_sld hx hb hX hbl hbA hS (lw_in hi hNN (by decide)) dL_law_948 ?_
  refine lv_topi (fun v9 ev9 => ?_)
  refine lv_aload_n hx hb dL_law_949 rfl (lv_at hl 3 rfl) ?_
  refine lv_iload_n hx hb dL_law_950 rfl (lv_at hl 0 rfl) ?_
  refine lv_iconst (v := 3) hx hb dL_law_951 (by decide) ?_
  refine lv_iadd hx hb dL_law_952 ?_
  refine va_sld hx hb hX hbl hbA hS (lw_in hi hNN (by decide)) dL_law_953 ?_
  refine lv_topi (fun v10 ev10 => ?_)
  obtain ⟨hLK0, hk7, hk9, hI, hPG, hRI, hRJ, hUQ, hyA, hyI, hyT⟩ := id hV
  have hLK : ∀ a {k : Nat}, K a = k → k ≠ 0 → a ∈ L := fun a k e q => hLK0 a (by rw [e]; exact q)
  obtain ⟨z7, q7, o7, -⟩ := hyI.1 om hk9
  refine va_calli (va_runV (As := [.int w8, .int v9, .int v10]) (rest := []) ⟨hx, hb, hml, hown, hts⟩ (y_X7_poke l dC dI H.size hLK A hyA F6 om w8 v9 v10 hk9 hw8 hyI hyT) (cwV 3 hts (ax_gV T_537 T_414 T_415 T_265 T_82) rfl rfl rfl (by decide +kernel) ⟨Nat.le_of_ble_eq_true rfl, Nat.le_of_ble_eq_true rfl⟩) ⟨fun a U g mk q => ⟨q.1, s_pc (U := U) rfl rfl q.2⟩, s_recv hK hP (hLK _ hk9 (by decide)) (ci := 7) rfl o7, fun U hU hW => ⟨rfl, s_pw hU hW hP hK hD hN⟩⟩ rfl rfl hl.1 rfl (lv_room (Nat.le_of_ble_eq_true rfl)) dL_law_954 ⟨Nat.le_of_ble_eq_true rfl, Nat.le_of_ble_eq_true rfl⟩) hS (fun q _ h => hLA q h) (fun q h => hLA q h) (fun r11 F12 t H1 locs ht hvm hw hB hz1 hk1 hS => ?_)
  obtain ⟨hP, hK1⟩ := hB
  rw [ht] at hP
  generalize H1 = H at hP hS ⊢
  obtain ⟨hb_r11, hc_r11, hyI, hfr1, hf1, hp_r11⟩ := hw
  have hV := lw_y hV hyI hfr1 (by decide) hp_r11
  have hx2 : y_fi F12 xo 1 = y_fi F6 xo 1 := lw_fi (hfr1 xo (by rw [hk7]; decide)) 1
  have ho2 : y_fi F12 om 1 = y_fi F6 om 1 := hf1 1 (by decide)
  refine W.widen (k := 892) (n := 240949) (Nat.le_of_ble_eq_true rfl) (Nat.le_of_ble_eq_true rfl) ?_
  refine lv_pop hx hb dL_law_957 rfl ?_
  have hB9 : y_fi F12 xo 1 = y_fi F12 om 1 := hx2.trans (hx1.trans (hB0.trans (ho1.symm.trans ho2.symm)))
  refine lv_goto (tgt := 1099) hx hb dL_law_958 (by decide) ?_
  exact KK _ _ _ _ _ hV hB9 (by omega) hP hS
set_option maxHeartbeats 4000000 in
set_option maxRecDepth 100000 in
/-- set -/
theorem law_c23 {p : Program} {e : Env} {s : State} {m : MethodId} {below : List Frame} {meth : Method} {c : Code} (l : Launch) {dC : Nat → ClassId} {dI : Nat → Nat → Nat} {cs : Nat → ClassId} {b N : Nat} {xs : Nat → Int32} {L : List Nat} {A : Nat → Nat} {xo om : Nat} {K : Nat → Nat} {D : Nat} {F : Nat → va_E} {n9 : Nat} {i : Int32} {H : Heap} {locs : List Loc} {ls : Array Slot} {adK adV : Nat → Nat} {tf : Option Nat} (C0 : lw_At p s m meth c b N xs) (hK : va_K (dC, dI) vwCl [(cs 0, .int), (cs 1, .byte), (cs 2, .long), (cs 3, .object RX5), (cs 4, .object RX4), (cs 5, .array .int), (cs 6, .char), (cs 7, .boolean)] s) (hD : ∀ G, va_D (fun q => q ∈ L) (va_pl L G)) (hLA : ∀ q, q ∈ L → s.heap.size ≤ q) (hZ : s_Z L adK adV tf s) (hNN : N ≤ 3072) (hi : 0 ≤ i.toInt ∧ i.toInt + 6 ≤ N) (hn : n9 < 512) (hcz : cs 24 = 0) (hV : lw_V cs L A xo om K D F) (hB0 : y_fi F xo 1 = y_fi F om 1) (hDn : D ≤ 62000 * n9) (hP : va_P (dC, dI) vwCl (va_pl L F) H) (hS : va_S (fun q : Nat => s.heap.size ≤ q) s.heap H locs) (hl : lv_has ls 4 [(3, .int i), (2, .ref om), (1, .ref xo), (0, .ref b)]) (KK : ∀ (K : Nat → Nat) (D : Nat) (F : Nat → va_E) (H : Heap) (locs : List Loc), lw_V cs L A xo om K D F → y_fi F xo 1 = y_fi F om 1 → D ≤ 62000 * (n9 + 1) → va_P (dC, dI) vwCl (va_pl L F) H → va_S (fun q : Nat => s.heap.size ≤ q) s.heap H locs → W p l e room_1 s m #[Value.ref b] below meth c H locs 892 240949 (lw_Z below #[Value.ref b] s) (F0 m 1099 ls [])) : W p l e room_1 s m #[Value.ref b] below meth c H locs 892 240949 (lw_Z below #[Value.ref b] s) (F0 m 961 ls []) := by
  obtain ⟨hx, hb, hr, hml, hown0, hts0, hX, hbl, hlocks, hgv⟩ := id C0
  have hown : s.vm.findClass RL = some m.cls := hown0
  have hts : ∀ w ∈ T0, w.before #[Value.ref b] s = true := fun w h => hts0 w (ax_law w h).1
  have hN : ax_N s := ax_Nlaw hts0
  have hbA : ¬ (fun q : Nat => s.heap.size ≤ q) b := Nat.not_le.mpr hbl
  refine lv_aload_n hx hb dL_law_961 rfl (lv_at hl 2 rfl) ?_
  refine lv_aload_n hx hb dL_law_962 rfl (lv_at hl 3 rfl) ?_
  refine lv_iload_n hx hb dL_law_963 rfl (lv_at hl 0 rfl) ?_
  refine lv_iconst (v := 1) hx hb dL_law_964 (by decide) ?_
  refine lv_iadd hx hb dL_law_965 ?_
  refine va_sld hx hb hX hbl hbA hS (lw_in hi hNN (by decide)) dL_law_966 ?_
  refine lv_topi (fun v1 ev1 => ?_)
  refine lv_aload_n hx hb dL_law_967 rfl (lv_at hl 3 rfl) ?_
  refine lv_iload_n hx hb dL_law_968 rfl (lv_at hl 0 rfl) ?_
  refine lv_iconst (v := 2) hx hb dL_law_969 (by decide) ?_
  refine lv_iadd hx hb dL_law_970 ?_
  refine va_sld hx hb hX hbl hbA hS (lw_in hi hNN (by decide)) dL_law_971 ?_
  refine lv_topi (fun v2 ev2 => ?_)
  refine lv_aload_n hx hb dL_law_972 rfl (lv_at hl 3 rfl) ?_
  refine lv_iload_n hx hb dL_law_973 rfl (lv_at hl 0 rfl) ?_
  refine lv_iconst (v := 3) hx hb dL_law_974 (by decide) ?_
  refine lv_iadd hx hb dL_law_975 ?_
  refine va_sld hx hb hX hbl hbA hS (lw_in hi hNN (by decide)) dL_law_976 ?_
  refine lv_topi (fun v3 ev3 => ?_)
  obtain ⟨hLK0, hk7, hk9, hI, hPG, hRI, hRJ, hUQ, hyA, hyI, hyT⟩ := id hV
  have hLK : ∀ a {k : Nat}, K a = k → k ≠ 0 → a ∈ L := fun a k e q => hLK0 a (by rw [e]; exact q)
  obtain ⟨fs6, o6⟩ := lw_o6 hI hk7
  have hIc := lw_cI hUQ.1 (lw_nn hk7 hI) hI
  have hKc : va_K (dC, dI) vwCl [(lw_c1 cs (y_fi F xo 1).toInt.toNat 0, .int), (lw_c1 cs (y_fi F xo 1).toInt.toNat 1, .byte), (lw_c1 cs (y_fi F xo 1).toInt.toNat 2, .long), (lw_c1 cs (y_fi F xo 1).toInt.toNat 3, .object RX5), (lw_c1 cs (y_fi F xo 1).toInt.toNat 4, .object RX4), (lw_c1 cs (y_fi F xo 1).toInt.toNat 5, .array .int), (lw_c1 cs (y_fi F xo 1).toInt.toNat 6, .char), (lw_c1 cs (y_fi F xo 1).toInt.toNat 7, .boolean)] s := hK
  refine va_calli (va_runV (As := [.int v1, .int v2, .int v3]) (rest := []) ⟨hx, hb, hml, hown, hts⟩ (s_X6_set l dC dI H.size (cs := lw_c1 cs (y_fi F xo 1).toInt.toNat) hLK D F xo v1 v2 v3 hk7 hIc) (cwV 3 hts (ax_gV T_538 T_416 T_417 T_193 T_83) rfl rfl rfl (by decide +kernel) ⟨Nat.le_of_ble_eq_true rfl, Nat.le_of_ble_eq_true rfl⟩) ⟨fun a U g mk q => ⟨q.1, s_pc (U := U) rfl rfl q.2⟩, s_recv hK hP (hLK _ hk7 (by decide)) (ci := 6) rfl o6, fun U hU hW => ⟨rfl, s_pw hU hW hP hKc hD hN⟩⟩ rfl rfl hl.1 rfl (lv_room (Nat.le_of_ble_eq_true rfl)) dL_law_977 ⟨Nat.le_of_ble_eq_true rfl, Nat.le_of_ble_eq_true rfl⟩) hS (fun q _ h => hLA q h) (fun q h => hLA q h) (fun r4 F5 t H1 locs ht hvm hw hB hz1 hk1 hS => ?_)
  obtain ⟨hP, hK1⟩ := hB
  rw [ht] at hP
  generalize H1 = H at hP hS ⊢
  obtain ⟨hb_r4, hc_r4, hI, hfr1⟩ := hw
  have hx1 : y_fi F5 xo 1 = y_fi F xo 1 := Int32.toInt_inj.mp ((lw_cE hk7 hI).trans (lw_nn hk7 (lw_cB hcz hIc)).symm)
  have hI := lw_cB hcz hI
  have hV := lw_x hV hI hfr1 (by decide)
  have ho1 : y_fi F5 om 1 = y_fi F om 1 := lw_fi (hfr1 om (by rw [hk9]; decide)) 1
  refine W.widen (k := 892) (n := 240949) (Nat.le_of_ble_eq_true rfl) (Nat.le_of_ble_eq_true rfl) ?_
  refine lv_pop hx hb dL_law_980 rfl ?_
  refine lv_aload_n hx hb dL_law_981 rfl (lv_at hl 1 rfl) ?_
  refine lv_aload_n hx hb dL_law_982 rfl (lv_at hl 3 rfl) ?_
  refine lv_iload_n hx hb dL_law_983 rfl (lv_at hl 0 rfl) ?_
  refine lv_iconst (v := 1) hx hb dL_law_984 (by decide) ?_
  refine lv_iadd hx hb dL_law_985 ?_
  refine va_sld hx hb hX hbl hbA hS (lw_in hi hNN (by decide)) dL_law_986 ?_
  refine lv_topi (fun v6 ev6 => ?_)
  refine lv_aload_n hx hb dL_law_987 rfl (lv_at hl 3 rfl) ?_
  refine lv_iload_n hx hb dL_law_988 rfl (lv_at hl 0 rfl) ?_
  refine lv_iconst (v := 2) hx hb dL_law_989 (by decide) ?_
  refine lv_iadd hx hb dL_law_990 ?_
  refine va_sld hx hb hX hbl hbA hS (lw_in hi hNN (by decide)) dL_law_991 ?_
  refine lv_topi (fun v7 ev7 => ?_)
  refine lv_aload_n hx hb dL_law_992 rfl (lv_at hl 3 rfl) ?_
  refine lv_iload_n hx hb dL_law_993 rfl (lv_at hl 0 rfl) ?_
  refine lv_iconst (v := 3) hx hb dL_law_994 (by decide) ?_
  refine lv_iadd hx hb dL_law_995 ?_
  refine va_sld hx hb hX hbl hbA hS (lw_in hi hNN (by decide)) dL_law_996 ?_
  refine lv_topi (fun v8 ev8 => ?_)
  obtain ⟨hLK0, hk7, hk9, hI, hPG, hRI, hRJ, hUQ, hyA, hyI, hyT⟩ := id hV
  have hLK : ∀ a {k : Nat}, K a = k → k ≠ 0 → a ∈ L := fun a k e q => hLK0 a (by rw [e]; exact q)
  obtain ⟨z7, q7, o7, -⟩ := hyI.1 om hk9
  refine va_calli (va_runV (As := [.int v6, .int v7, .int v8]) (rest := []) ⟨hx, hb, hml, hown, hts⟩ (y_X7_set l dC dI H.size hLK A hyA F5 om v6 v7 v8 hk9 hyI hyT) (cwV 3 hts (ax_gV T_539 T_418 T_419 T_265 T_84) rfl rfl rfl (by decide +kernel) ⟨Nat.le_of_ble_eq_true rfl, Nat.le_of_ble_eq_true rfl⟩) ⟨fun a U g mk q => ⟨q.1, s_pc (U := U) rfl rfl q.2⟩, s_recv hK hP (hLK _ hk9 (by decide)) (ci := 7) rfl o7, fun U hU hW => ⟨rfl, s_pw hU hW hP hK hD hN⟩⟩ rfl rfl hl.1 rfl (lv_room (Nat.le_of_ble_eq_true rfl)) dL_law_997 ⟨Nat.le_of_ble_eq_true rfl, Nat.le_of_ble_eq_true rfl⟩) hS (fun q _ h => hLA q h) (fun q h => hLA q h) (fun r9 F10 t H1 locs ht hvm hw hB hz1 hk1 hS => ?_)
  obtain ⟨hP, hK1⟩ := hB
  rw [ht] at hP
  generalize H1 = H at hP hS ⊢
  obtain ⟨hb_r9, hc_r9, hyI, hfr1, hf1, hp_r9⟩ := hw
  have hV := lw_y hV hyI hfr1 (by decide) hp_r9
  have hx2 : y_fi F10 xo 1 = y_fi F5 xo 1 := lw_fi (hfr1 xo (by rw [hk7]; decide)) 1
  have ho2 : y_fi F10 om 1 = y_fi F5 om 1 := hf1 1 (by decide)
  refine W.widen (k := 892) (n := 240949) (Nat.le_of_ble_eq_true rfl) (Nat.le_of_ble_eq_true rfl) ?_
  refine lv_pop hx hb dL_law_1000 rfl ?_
  have hB9 : y_fi F10 xo 1 = y_fi F10 om 1 := hx2.trans (hx1.trans (hB0.trans (ho1.symm.trans ho2.symm)))
  refine lv_goto (tgt := 1099) hx hb dL_law_1001 (by decide) ?_
  exact KK _ _ _ _ _ hV hB9 (by omega) hP hS
set_option maxHeartbeats 4000000 in
set_option maxRecDepth 100000 in
/-- begin -/
theorem law_c24 {p : Program} {e : Env} {s : State} {m : MethodId} {below : List Frame} {meth : Method} {c : Code} (l : Launch) {dC : Nat → ClassId} {dI : Nat → Nat → Nat} {cs : Nat → ClassId} {b N : Nat} {xs : Nat → Int32} {L : List Nat} {A : Nat → Nat} {xo om : Nat} {K : Nat → Nat} {D : Nat} {F : Nat → va_E} {n9 : Nat} {i : Int32} {H : Heap} {locs : List Loc} {ls : Array Slot} {adK adV : Nat → Nat} {tf : Option Nat} (C0 : lw_At p s m meth c b N xs) (hK : va_K (dC, dI) vwCl [(cs 0, .int), (cs 1, .byte), (cs 2, .long), (cs 3, .object RX5), (cs 4, .object RX4), (cs 5, .array .int), (cs 6, .char), (cs 7, .boolean)] s) (hD : ∀ G, va_D (fun q => q ∈ L) (va_pl L G)) (hLA : ∀ q, q ∈ L → s.heap.size ≤ q) (hZ : s_Z L adK adV tf s) (hNN : N ≤ 3072) (hi : 0 ≤ i.toInt ∧ i.toInt + 6 ≤ N) (hn : n9 < 512) (hcz : cs 24 = 0) (hV : lw_V cs L A xo om K D F) (hB0 : y_fi F xo 1 = y_fi F om 1) (hDn : D ≤ 62000 * n9) (hP : va_P (dC, dI) vwCl (va_pl L F) H) (hS : va_S (fun q : Nat => s.heap.size ≤ q) s.heap H locs) (hl : lv_has ls 4 [(3, .int i), (2, .ref om), (1, .ref xo), (0, .ref b)]) (KK : ∀ (K : Nat → Nat) (D : Nat) (F : Nat → va_E) (H : Heap) (locs : List Loc), lw_V cs L A xo om K D F → y_fi F xo 1 = y_fi F om 1 → D ≤ 62000 * (n9 + 1) → va_P (dC, dI) vwCl (va_pl L F) H → va_S (fun q : Nat => s.heap.size ≤ q) s.heap H locs → W p l e room_1 s m #[Value.ref b] below meth c H locs 892 240949 (lw_Z below #[Value.ref b] s) (F0 m 1099 ls [])) : W p l e room_1 s m #[Value.ref b] below meth c H locs 892 240949 (lw_Z below #[Value.ref b] s) (F0 m 1004 ls []) := by
  obtain ⟨hx, hb, hr, hml, hown0, hts0, hX, hbl, hlocks, hgv⟩ := id C0
  have hown : s.vm.findClass RL = some m.cls := hown0
  have hts : ∀ w ∈ T0, w.before #[Value.ref b] s = true := fun w h => hts0 w (ax_law w h).1
  have hN : ax_N s := ax_Nlaw hts0
  have hbA : ¬ (fun q : Nat => s.heap.size ≤ q) b := Nat.not_le.mpr hbl
  refine lv_aload_n hx hb dL_law_1004 rfl (lv_at hl 2 rfl) ?_
  obtain ⟨hLK0, hk7, hk9, hI, hPG, hRI, hRJ, hUQ, hyA, hyI, hyT⟩ := id hV
  have hLK : ∀ a {k : Nat}, K a = k → k ≠ 0 → a ∈ L := fun a k e q => hLK0 a (by rw [e]; exact q)
  obtain ⟨fs6, o6⟩ := lw_o6 hI hk7
  have hIc := lw_cI hUQ.1 (lw_nn hk7 hI) hI
  have hKc : va_K (dC, dI) vwCl [(lw_c1 cs (y_fi F xo 1).toInt.toNat 0, .int), (lw_c1 cs (y_fi F xo 1).toInt.toNat 1, .byte), (lw_c1 cs (y_fi F xo 1).toInt.toNat 2, .long), (lw_c1 cs (y_fi F xo 1).toInt.toNat 3, .object RX5), (lw_c1 cs (y_fi F xo 1).toInt.toNat 4, .object RX4), (lw_c1 cs (y_fi F xo 1).toInt.toNat 5, .array .int), (lw_c1 cs (y_fi F xo 1).toInt.toNat 6, .char), (lw_c1 cs (y_fi F xo 1).toInt.toNat 7, .boolean)] s := hK
  refine va_calli (va_runV (As := []) (rest := []) ⟨hx, hb, hml, hown, hts⟩ (s_X6_begin l dC dI H.size (cs := lw_c1 cs (y_fi F xo 1).toInt.toNat) hLK D F xo  hk7 hIc) (cwV 0 hts (ax_gV T_540 T_420 T_421 T_193 T_85) rfl rfl rfl (by decide +kernel) ⟨Nat.le_of_ble_eq_true rfl, Nat.le_of_ble_eq_true rfl⟩) ⟨fun a U g mk q => ⟨q.1, s_pc (U := U) rfl rfl q.2⟩, s_recv hK hP (hLK _ hk7 (by decide)) (ci := 6) rfl o6, fun U hU hW => ⟨rfl, s_pw hU hW hP hKc hD hN⟩⟩ rfl rfl hl.1 rfl (lv_room (Nat.le_of_ble_eq_true rfl)) dL_law_1005 ⟨Nat.le_of_ble_eq_true rfl, Nat.le_of_ble_eq_true rfl⟩) hS (fun q _ h => hLA q h) (fun q h => hLA q h) (fun r1 F2 t H1 locs ht hvm hw hB hz1 hk1 hS => ?_)
  obtain ⟨hP, hK1⟩ := hB
  rw [ht] at hP
  generalize H1 = H at hP hS ⊢
  obtain ⟨hb_r1, hc_r1, hI, hfr1⟩ := hw
  have hx1 : y_fi F2 xo 1 = y_fi F xo 1 := Int32.toInt_inj.mp ((lw_cE hk7 hI).trans (lw_nn hk7 (lw_cB hcz hIc)).symm)
  have hI := lw_cB hcz hI
  have hV := lw_x hV hI hfr1 (by decide)
  have ho1 : y_fi F2 om 1 = y_fi F om 1 := lw_fi (hfr1 om (by rw [hk9]; decide)) 1
  refine W.widen (k := 892) (n := 240949) (Nat.le_of_ble_eq_true rfl) (Nat.le_of_ble_eq_true rfl) ?_
  refine lv_pop hx hb dL_law_1008 rfl ?_
  refine lv_aload_n hx hb dL_law_1009 rfl (lv_at hl 1 rfl) ?_
  obtain ⟨hLK0, hk7, hk9, hI, hPG, hRI, hRJ, hUQ, hyA, hyI, hyT⟩ := id hV
  have hLK : ∀ a {k : Nat}, K a = k → k ≠ 0 → a ∈ L := fun a k e q => hLK0 a (by rw [e]; exact q)
  obtain ⟨z7, q7, o7, -⟩ := hyI.1 om hk9
  refine va_calli (va_runV (As := []) (rest := []) ⟨hx, hb, hml, hown, hts⟩ (y_X7_begin l dC dI H.size hLK A hyA F2 om  hk9 hyI hyT) (cwV 0 hts (ax_gV T_541 T_422 T_423 T_265 T_86) rfl rfl rfl (by decide +kernel) ⟨Nat.le_of_ble_eq_true rfl, Nat.le_of_ble_eq_true rfl⟩) ⟨fun a U g mk q => ⟨q.1, s_pc (U := U) rfl rfl q.2⟩, s_recv hK hP (hLK _ hk9 (by decide)) (ci := 7) rfl o7, fun U hU hW => ⟨rfl, s_pw hU hW hP hK hD hN⟩⟩ rfl rfl hl.1 rfl (lv_room (Nat.le_of_ble_eq_true rfl)) dL_law_1010 ⟨Nat.le_of_ble_eq_true rfl, Nat.le_of_ble_eq_true rfl⟩) hS (fun q _ h => hLA q h) (fun q h => hLA q h) (fun r3 F4 t H1 locs ht hvm hw hB hz1 hk1 hS => ?_)
  obtain ⟨hP, hK1⟩ := hB
  rw [ht] at hP
  generalize H1 = H at hP hS ⊢
  obtain ⟨hb_r3, hc_r3, hyI, hfr1, hf1, hp_r3⟩ := hw
  have hV := lw_y hV hyI hfr1 (by decide) hp_r3
  have hx2 : y_fi F4 xo 1 = y_fi F2 xo 1 := lw_fi (hfr1 xo (by rw [hk7]; decide)) 1
  have ho2 : y_fi F4 om 1 = y_fi F2 om 1 := hf1 1 (by decide)
  refine W.widen (k := 892) (n := 240949) (Nat.le_of_ble_eq_true rfl) (Nat.le_of_ble_eq_true rfl) ?_
  refine lv_pop hx hb dL_law_1013 rfl ?_
  have hB9 : y_fi F4 xo 1 = y_fi F4 om 1 := hx2.trans (hx1.trans (hB0.trans (ho1.symm.trans ho2.symm)))
  refine lv_goto (tgt := 1099) hx hb dL_law_1014 (by decide) ?_
  exact KK _ _ _ _ _ hV hB9 (by omega) hP hS
set_option maxHeartbeats 4000000 in
set_option maxRecDepth 100000 in
/-- chance -/
theorem law_c25 {p : Program} {e : Env} {s : State} {m : MethodId} {below : List Frame} {meth : Method} {c : Code} (l : Launch) {dC : Nat → ClassId} {dI : Nat → Nat → Nat} {cs : Nat → ClassId} {b N : Nat} {xs : Nat → Int32} {L : List Nat} {A : Nat → Nat} {xo om : Nat} {K : Nat → Nat} {D : Nat} {F : Nat → va_E} {n9 : Nat} {i : Int32} {H : Heap} {locs : List Loc} {ls : Array Slot} {adK adV : Nat → Nat} {tf : Option Nat} (C0 : lw_At p s m meth c b N xs) (hK : va_K (dC, dI) vwCl [(cs 0, .int), (cs 1, .byte), (cs 2, .long), (cs 3, .object RX5), (cs 4, .object RX4), (cs 5, .array .int), (cs 6, .char), (cs 7, .boolean)] s) (hD : ∀ G, va_D (fun q => q ∈ L) (va_pl L G)) (hLA : ∀ q, q ∈ L → s.heap.size ≤ q) (hZ : s_Z L adK adV tf s) (hNN : N ≤ 3072) (hi : 0 ≤ i.toInt ∧ i.toInt + 6 ≤ N) (hn : n9 < 512) (hcz : cs 24 = 0) (hV : lw_V cs L A xo om K D F) (hB0 : y_fi F xo 1 = y_fi F om 1) (hDn : D ≤ 62000 * n9) (hP : va_P (dC, dI) vwCl (va_pl L F) H) (hS : va_S (fun q : Nat => s.heap.size ≤ q) s.heap H locs) (hl : lv_has ls 4 [(3, .int i), (2, .ref om), (1, .ref xo), (0, .ref b)]) (KK : ∀ (K : Nat → Nat) (D : Nat) (F : Nat → va_E) (H : Heap) (locs : List Loc), lw_V cs L A xo om K D F → y_fi F xo 1 = y_fi F om 1 → D ≤ 62000 * (n9 + 1) → va_P (dC, dI) vwCl (va_pl L F) H → va_S (fun q : Nat => s.heap.size ≤ q) s.heap H locs → W p l e room_1 s m #[Value.ref b] below meth c H locs 892 240949 (lw_Z below #[Value.ref b] s) (F0 m 1099 ls [])) : W p l e room_1 s m #[Value.ref b] below meth c H locs 892 240949 (lw_Z below #[Value.ref b] s) (F0 m 1017 ls []) := by
  obtain ⟨hx, hb, hr, hml, hown0, hts0, hX, hbl, hlocks, hgv⟩ := id C0
  have hown : s.vm.findClass RL = some m.cls := hown0
  have hts : ∀ w ∈ T0, w.before #[Value.ref b] s = true := fun w h => hts0 w (ax_law w h).1
  have hN : ax_N s := ax_Nlaw hts0
  have hbA : ¬ (fun q : Nat => s.heap.size ≤ q) b := Nat.not_le.mpr hbl
  refine lv_aload_n hx hb dL_law_1017 rfl (lv_at hl 2 rfl) ?_
  refine lv_aload_n hx hb dL_law_1018 rfl (lv_at hl 3 rfl) ?_
  refine lv_iload_n hx hb dL_law_1019 rfl (lv_at hl 0 rfl) ?_
  refine lv_iconst (v := 1) hx hb dL_law_1020 (by decide) ?_
  refine lv_iadd hx hb dL_law_1021 ?_
  refine va_sld hx hb hX hbl hbA hS (lw_in hi hNN (by decide)) dL_law_1022 ?_
  refine lv_topi (fun v1 ev1 => ?_)
  obtain ⟨hLK0, hk7, hk9, hI, hPG, hRI, hRJ, hUQ, hyA, hyI, hyT⟩ := id hV
  have hLK : ∀ a {k : Nat}, K a = k → k ≠ 0 → a ∈ L := fun a k e q => hLK0 a (by rw [e]; exact q)
  obtain ⟨fs6, o6⟩ := lw_o6 hI hk7
  have hIc := lw_cI hUQ.1 (lw_nn hk7 hI) hI
  have hKc : va_K (dC, dI) vwCl [(lw_c1 cs (y_fi F xo 1).toInt.toNat 0, .int), (lw_c1 cs (y_fi F xo 1).toInt.toNat 1, .byte), (lw_c1 cs (y_fi F xo 1).toInt.toNat 2, .long), (lw_c1 cs (y_fi F xo 1).toInt.toNat 3, .object RX5), (lw_c1 cs (y_fi F xo 1).toInt.toNat 4, .object RX4), (lw_c1 cs (y_fi F xo 1).toInt.toNat 5, .array .int), (lw_c1 cs (y_fi F xo 1).toInt.toNat 6, .char), (lw_c1 cs (y_fi F xo 1).toInt.toNat 7, .boolean)] s := hK
  have hPGc : s_PG K (lw_c1 cs (y_fi F xo 1).toInt.toNat) F := hPG
  refine va_calli (va_runV (As := [.int v1]) (rest := []) ⟨hx, hb, hml, hown, hts⟩ (s_X6_chance l dC dI H.size (cs := lw_c1 cs (y_fi F xo 1).toInt.toNat) hLK D (D + 8421) (Nat.le_refl _) (by omega) F xo v1 hk7 hIc hPGc) (cwV 1 hts (ax_gV T_542 T_424 T_425 T_193 T_87) rfl rfl rfl (by decide +kernel) ⟨Nat.le_of_ble_eq_true rfl, Nat.le_of_ble_eq_true rfl⟩) ⟨fun a U g mk q => ⟨q.1, s_pc (U := U) rfl rfl q.2⟩, s_recv hK hP (hLK _ hk7 (by decide)) (ci := 6) rfl o6, fun U hU hW => ⟨rfl, s_pw hU hW hP hKc hD hN⟩⟩ rfl rfl hl.1 rfl (lv_room (Nat.le_of_ble_eq_true rfl)) dL_law_1023 ⟨Nat.le_of_ble_eq_true rfl, Nat.le_of_ble_eq_true rfl⟩) hS (fun q _ h => hLA q h) (fun q h => hLA q h) (fun r2 F3 t H1 locs ht hvm hw hB hz1 hk1 hS => ?_)
  obtain ⟨hP, hK1⟩ := hB
  rw [ht] at hP
  generalize H1 = H at hP hS ⊢
  obtain ⟨hb_r2, hc_r2, hI, hfr1⟩ := hw
  have hx1 : y_fi F3 xo 1 = y_fi F xo 1 := Int32.toInt_inj.mp ((lw_cE hk7 hI).trans (lw_nn hk7 (lw_cB hcz hIc)).symm)
  have hI := lw_cB hcz hI
  have hV := lw_x hV hI hfr1 (by decide)
  have ho1 : y_fi F3 om 1 = y_fi F om 1 := lw_fi (hfr1 om (by rw [hk9]; decide)) 1
  refine W.widen (k := 892) (n := 240949) (Nat.le_of_ble_eq_true rfl) (Nat.le_of_ble_eq_true rfl) ?_
  refine lv_pop hx hb dL_law_1026 rfl ?_
  refine lv_aload_n hx hb dL_law_1027 rfl (lv_at hl 1 rfl) ?_
  refine lv_aload_n hx hb dL_law_1028 rfl (lv_at hl 3 rfl) ?_
  refine lv_iload_n hx hb dL_law_1029 rfl (lv_at hl 0 rfl) ?_
  refine lv_iconst (v := 1) hx hb dL_law_1030 (by decide) ?_
  refine lv_iadd hx hb dL_law_1031 ?_
  refine va_sld hx hb hX hbl hbA hS (lw_in hi hNN (by decide)) dL_law_1032 ?_
  refine lv_topi (fun v4 ev4 => ?_)
  obtain ⟨hLK0, hk7, hk9, hI, hPG, hRI, hRJ, hUQ, hyA, hyI, hyT⟩ := id hV
  have hLK : ∀ a {k : Nat}, K a = k → k ≠ 0 → a ∈ L := fun a k e q => hLK0 a (by rw [e]; exact q)
  obtain ⟨z7, q7, o7, -⟩ := hyI.1 om hk9
  refine va_calli (va_runV (As := [.int v4]) (rest := []) ⟨hx, hb, hml, hown, hts⟩ (y_X7_chance l dC dI H.size hLK A hyA F3 om v4 hk9 hyI hyT) (cwV 1 hts (ax_gV T_543 T_426 T_427 T_265 T_88) rfl rfl rfl (by decide +kernel) ⟨Nat.le_of_ble_eq_true rfl, Nat.le_of_ble_eq_true rfl⟩) ⟨fun a U g mk q => ⟨q.1, s_pc (U := U) rfl rfl q.2⟩, s_recv hK hP (hLK _ hk9 (by decide)) (ci := 7) rfl o7, fun U hU hW => ⟨rfl, s_pw hU hW hP hK hD hN⟩⟩ rfl rfl hl.1 rfl (lv_room (Nat.le_of_ble_eq_true rfl)) dL_law_1033 ⟨Nat.le_of_ble_eq_true rfl, Nat.le_of_ble_eq_true rfl⟩) hS (fun q _ h => hLA q h) (fun q h => hLA q h) (fun r5 F6 t H1 locs ht hvm hw hB hz1 hk1 hS => ?_)
  obtain ⟨hP, hK1⟩ := hB
  rw [ht] at hP
  generalize H1 = H at hP hS ⊢
  obtain ⟨hb_r5, hc_r5, hyI, hfr1, hf1, hp_r5⟩ := hw
  have hV := lw_y hV hyI hfr1 (by decide) hp_r5
  have hx2 : y_fi F6 xo 1 = y_fi F3 xo 1 := lw_fi (hfr1 xo (by rw [hk7]; decide)) 1
  have ho2 : y_fi F6 om 1 = y_fi F3 om 1 := hf1 1 (by decide)
  refine W.widen (k := 892) (n := 240949) (Nat.le_of_ble_eq_true rfl) (Nat.le_of_ble_eq_true rfl) ?_
  refine lv_pop hx hb dL_law_1036 rfl ?_
  have hB9 : y_fi F6 xo 1 = y_fi F6 om 1 := hx2.trans (hx1.trans (hB0.trans (ho1.symm.trans ho2.symm)))
  refine lv_goto (tgt := 1099) hx hb dL_law_1037 (by decide) ?_
  exact KK _ _ _ _ _ hV hB9 (by omega) hP hS
set_option maxHeartbeats 4000000 in
set_option maxRecDepth 100000 in
/-- undo -/
theorem law_c26 {p : Program} {e : Env} {s : State} {m : MethodId} {below : List Frame} {meth : Method} {c : Code} (l : Launch) {dC : Nat → ClassId} {dI : Nat → Nat → Nat} {cs : Nat → ClassId} {b N : Nat} {xs : Nat → Int32} {L : List Nat} {A : Nat → Nat} {xo om : Nat} {K : Nat → Nat} {D : Nat} {F : Nat → va_E} {n9 : Nat} {i : Int32} {H : Heap} {locs : List Loc} {ls : Array Slot} {adK adV : Nat → Nat} {tf : Option Nat} (C0 : lw_At p s m meth c b N xs) (hK : va_K (dC, dI) vwCl [(cs 0, .int), (cs 1, .byte), (cs 2, .long), (cs 3, .object RX5), (cs 4, .object RX4), (cs 5, .array .int), (cs 6, .char), (cs 7, .boolean)] s) (hD : ∀ G, va_D (fun q => q ∈ L) (va_pl L G)) (hLA : ∀ q, q ∈ L → s.heap.size ≤ q) (hZ : s_Z L adK adV tf s) (hNN : N ≤ 3072) (hi : 0 ≤ i.toInt ∧ i.toInt + 6 ≤ N) (hn : n9 < 512) (hcz : cs 24 = 0) (hV : lw_V cs L A xo om K D F) (hB0 : y_fi F xo 1 = y_fi F om 1) (hDn : D ≤ 62000 * n9) (hP : va_P (dC, dI) vwCl (va_pl L F) H) (hS : va_S (fun q : Nat => s.heap.size ≤ q) s.heap H locs) (hl : lv_has ls 4 [(3, .int i), (2, .ref om), (1, .ref xo), (0, .ref b)]) (KK : ∀ (K : Nat → Nat) (D : Nat) (F : Nat → va_E) (H : Heap) (locs : List Loc), lw_V cs L A xo om K D F → y_fi F xo 1 = y_fi F om 1 → D ≤ 62000 * (n9 + 1) → va_P (dC, dI) vwCl (va_pl L F) H → va_S (fun q : Nat => s.heap.size ≤ q) s.heap H locs → W p l e room_1 s m #[Value.ref b] below meth c H locs 892 240949 (lw_Z below #[Value.ref b] s) (F0 m 1099 ls [])) : W p l e room_1 s m #[Value.ref b] below meth c H locs 892 240949 (lw_Z below #[Value.ref b] s) (F0 m 1040 ls []) := by
  obtain ⟨hx, hb, hr, hml, hown0, hts0, hX, hbl, hlocks, hgv⟩ := id C0
  have hown : s.vm.findClass RL = some m.cls := hown0
  have hts : ∀ w ∈ T0, w.before #[Value.ref b] s = true := fun w h => hts0 w (ax_law w h).1
  have hN : ax_N s := ax_Nlaw hts0
  have hbA : ¬ (fun q : Nat => s.heap.size ≤ q) b := Nat.not_le.mpr hbl
  refine lv_aload_n hx hb dL_law_1040 rfl (lv_at hl 2 rfl) ?_
  obtain ⟨hLK0, hk7, hk9, hI, hPG, hRI, hRJ, hUQ, hyA, hyI, hyT⟩ := id hV
  have hLK : ∀ a {k : Nat}, K a = k → k ≠ 0 → a ∈ L := fun a k e q => hLK0 a (by rw [e]; exact q)
  obtain ⟨fs6, o6⟩ := lw_o6 hI hk7
  have hIc := lw_cI hUQ.1 (lw_nn hk7 hI) hI
  have hKc : va_K (dC, dI) vwCl [(lw_c1 cs (y_fi F xo 1).toInt.toNat 0, .int), (lw_c1 cs (y_fi F xo 1).toInt.toNat 1, .byte), (lw_c1 cs (y_fi F xo 1).toInt.toNat 2, .long), (lw_c1 cs (y_fi F xo 1).toInt.toNat 3, .object RX5), (lw_c1 cs (y_fi F xo 1).toInt.toNat 4, .object RX4), (lw_c1 cs (y_fi F xo 1).toInt.toNat 5, .array .int), (lw_c1 cs (y_fi F xo 1).toInt.toNat 6, .char), (lw_c1 cs (y_fi F xo 1).toInt.toNat 7, .boolean)] s := hK
  refine va_calli (va_runV (As := []) (rest := []) ⟨hx, hb, hml, hown, hts⟩ (s_X6_undo l dC dI H.size (cs := lw_c1 cs (y_fi F xo 1).toInt.toNat) hLK D F xo  hk7 hIc) (cwV 0 hts (ax_gV T_544 T_428 T_429 T_193 T_89) rfl rfl rfl (by decide +kernel) ⟨Nat.le_of_ble_eq_true rfl, Nat.le_of_ble_eq_true rfl⟩) ⟨fun a U g mk q => ⟨q.1, s_pc (U := U) rfl rfl q.2⟩, s_recv hK hP (hLK _ hk7 (by decide)) (ci := 6) rfl o6, fun U hU hW => ⟨rfl, s_pw hU hW hP hKc hD hN⟩⟩ rfl rfl hl.1 rfl (lv_room (Nat.le_of_ble_eq_true rfl)) dL_law_1041 ⟨Nat.le_of_ble_eq_true rfl, Nat.le_of_ble_eq_true rfl⟩) hS (fun q _ h => hLA q h) (fun q h => hLA q h) (fun r1 F2 t H1 locs ht hvm hw hB hz1 hk1 hS => ?_)
  obtain ⟨hP, hK1⟩ := hB
  rw [ht] at hP
  generalize H1 = H at hP hS ⊢
  obtain ⟨hb_r1, hc_r1, hI, hfr1⟩ := hw
  have hx1 : y_fi F2 xo 1 = y_fi F xo 1 := Int32.toInt_inj.mp ((lw_cE hk7 hI).trans (lw_nn hk7 (lw_cB hcz hIc)).symm)
  have hI := lw_cB hcz hI
  have hV := lw_x hV hI hfr1 (by decide)
  have ho1 : y_fi F2 om 1 = y_fi F om 1 := lw_fi (hfr1 om (by rw [hk9]; decide)) 1
  refine W.widen (k := 892) (n := 240949) (Nat.le_of_ble_eq_true rfl) (Nat.le_of_ble_eq_true rfl) ?_
  refine lv_pop hx hb dL_law_1044 rfl ?_
  refine lv_aload_n hx hb dL_law_1045 rfl (lv_at hl 1 rfl) ?_
  obtain ⟨hLK0, hk7, hk9, hI, hPG, hRI, hRJ, hUQ, hyA, hyI, hyT⟩ := id hV
  have hLK : ∀ a {k : Nat}, K a = k → k ≠ 0 → a ∈ L := fun a k e q => hLK0 a (by rw [e]; exact q)
  obtain ⟨z7, q7, o7, -⟩ := hyI.1 om hk9
  refine va_calli (va_runV (As := []) (rest := []) ⟨hx, hb, hml, hown, hts⟩ (y_X7_undo l dC dI H.size hLK A hyA F2 om  hk9 hyI hyT) (cwV 0 hts (ax_gV T_545 T_430 T_431 T_265 T_90) rfl rfl rfl (by decide +kernel) ⟨Nat.le_of_ble_eq_true rfl, Nat.le_of_ble_eq_true rfl⟩) ⟨fun a U g mk q => ⟨q.1, s_pc (U := U) rfl rfl q.2⟩, s_recv hK hP (hLK _ hk9 (by decide)) (ci := 7) rfl o7, fun U hU hW => ⟨rfl, s_pw hU hW hP hK hD hN⟩⟩ rfl rfl hl.1 rfl (lv_room (Nat.le_of_ble_eq_true rfl)) dL_law_1046 ⟨Nat.le_of_ble_eq_true rfl, Nat.le_of_ble_eq_true rfl⟩) hS (fun q _ h => hLA q h) (fun q h => hLA q h) (fun r3 F4 t H1 locs ht hvm hw hB hz1 hk1 hS => ?_)
  obtain ⟨hP, hK1⟩ := hB
  rw [ht] at hP
  generalize H1 = H at hP hS ⊢
  obtain ⟨hb_r3, hc_r3, hyI, hfr1, hf1, hp_r3⟩ := hw
  have hV := lw_y hV hyI hfr1 (by decide) hp_r3
  have hx2 : y_fi F4 xo 1 = y_fi F2 xo 1 := lw_fi (hfr1 xo (by rw [hk7]; decide)) 1
  have ho2 : y_fi F4 om 1 = y_fi F2 om 1 := hf1 1 (by decide)
  refine W.widen (k := 892) (n := 240949) (Nat.le_of_ble_eq_true rfl) (Nat.le_of_ble_eq_true rfl) ?_
  refine lv_pop hx hb dL_law_1049 rfl ?_
  have hB9 : y_fi F4 xo 1 = y_fi F4 om 1 := hx2.trans (hx1.trans (hB0.trans (ho1.symm.trans ho2.symm)))
  refine lv_goto (tgt := 1099) hx hb dL_law_1050 (by decide) ?_
  exact KK _ _ _ _ _ hV hB9 (by omega) hP hS
set_option maxHeartbeats 4000000 in
set_option maxRecDepth 100000 in
/-- seed -/
theorem law_c27 {p : Program} {e : Env} {s : State} {m : MethodId} {below : List Frame} {meth : Method} {c : Code} (l : Launch) {dC : Nat → ClassId} {dI : Nat → Nat → Nat} {cs : Nat → ClassId} {b N : Nat} {xs : Nat → Int32} {L : List Nat} {A : Nat → Nat} {xo om : Nat} {K : Nat → Nat} {D : Nat} {F : Nat → va_E} {n9 : Nat} {i : Int32} {H : Heap} {locs : List Loc} {ls : Array Slot} {adK adV : Nat → Nat} {tf : Option Nat} (C0 : lw_At p s m meth c b N xs) (hK : va_K (dC, dI) vwCl [(cs 0, .int), (cs 1, .byte), (cs 2, .long), (cs 3, .object RX5), (cs 4, .object RX4), (cs 5, .array .int), (cs 6, .char), (cs 7, .boolean)] s) (hD : ∀ G, va_D (fun q => q ∈ L) (va_pl L G)) (hLA : ∀ q, q ∈ L → s.heap.size ≤ q) (hZ : s_Z L adK adV tf s) (hNN : N ≤ 3072) (hi : 0 ≤ i.toInt ∧ i.toInt + 6 ≤ N) (hn : n9 < 512) (hcz : cs 24 = 0) (hV : lw_V cs L A xo om K D F) (hB0 : y_fi F xo 1 = y_fi F om 1) (hDn : D ≤ 62000 * n9) (hP : va_P (dC, dI) vwCl (va_pl L F) H) (hS : va_S (fun q : Nat => s.heap.size ≤ q) s.heap H locs) (hl : lv_has ls 4 [(3, .int i), (2, .ref om), (1, .ref xo), (0, .ref b)]) (KK : ∀ (K : Nat → Nat) (D : Nat) (F : Nat → va_E) (H : Heap) (locs : List Loc), lw_V cs L A xo om K D F → y_fi F xo 1 = y_fi F om 1 → D ≤ 62000 * (n9 + 1) → va_P (dC, dI) vwCl (va_pl L F) H → va_S (fun q : Nat => s.heap.size ≤ q) s.heap H locs → W p l e room_1 s m #[Value.ref b] below meth c H locs 892 240949 (lw_Z below #[Value.ref b] s) (F0 m 1099 ls [])) : W p l e room_1 s m #[Value.ref b] below meth c H locs 892 240949 (lw_Z below #[Value.ref b] s) (F0 m 1053 ls []) := by
  obtain ⟨hx, hb, hr, hml, hown0, hts0, hX, hbl, hlocks, hgv⟩ := id C0
  have hown : s.vm.findClass RL = some m.cls := hown0
  have hts : ∀ w ∈ T0, w.before #[Value.ref b] s = true := fun w h => hts0 w (ax_law w h).1
  have hN : ax_N s := ax_Nlaw hts0
  have hbA : ¬ (fun q : Nat => s.heap.size ≤ q) b := Nat.not_le.mpr hbl
  refine lv_aload_n hx hb dL_law_1053 rfl (lv_at hl 2 rfl) ?_
  refine lv_aload_n hx hb dL_law_1054 rfl (lv_at hl 3 rfl) ?_
  refine lv_iload_n hx hb dL_law_1055 rfl (lv_at hl 0 rfl) ?_
  refine lv_iconst (v := 1) hx hb dL_law_1056 (by decide) ?_
  refine lv_iadd hx hb dL_law_1057 ?_
  refine va_sld hx hb hX hbl hbA hS (lw_in hi hNN (by decide)) dL_law_1058 ?_
  refine lv_topi (fun v1 ev1 => ?_)
  obtain ⟨hLK0, hk7, hk9, hI, hPG, hRI, hRJ, hUQ, hyA, hyI, hyT⟩ := id hV
  have hLK : ∀ a {k : Nat}, K a = k → k ≠ 0 → a ∈ L := fun a k e q => hLK0 a (by rw [e]; exact q)
  obtain ⟨fs6, o6⟩ := lw_o6 hI hk7
  have hIc := lw_cI hUQ.1 (lw_nn hk7 hI) hI
  have hKc : va_K (dC, dI) vwCl [(lw_c1 cs (y_fi F xo 1).toInt.toNat 0, .int), (lw_c1 cs (y_fi F xo 1).toInt.toNat 1, .byte), (lw_c1 cs (y_fi F xo 1).toInt.toNat 2, .long), (lw_c1 cs (y_fi F xo 1).toInt.toNat 3, .object RX5), (lw_c1 cs (y_fi F xo 1).toInt.toNat 4, .object RX4), (lw_c1 cs (y_fi F xo 1).toInt.toNat 5, .array .int), (lw_c1 cs (y_fi F xo 1).toInt.toNat 6, .char), (lw_c1 cs (y_fi F xo 1).toInt.toNat 7, .boolean)] s := hK
  refine va_calli (va_runV (As := [.int v1]) (rest := []) ⟨hx, hb, hml, hown, hts⟩ (s_X6_seed l dC dI H.size (cs := lw_c1 cs (y_fi F xo 1).toInt.toNat) hLK D F xo v1 hk7 hIc) (cwV 1 hts (ax_gV T_546 T_432 T_433 T_193 T_91) rfl rfl rfl (by decide +kernel) ⟨Nat.le_of_ble_eq_true rfl, Nat.le_of_ble_eq_true rfl⟩) ⟨fun a U g mk q => ⟨q.1, s_pc (U := U) rfl rfl q.2⟩, s_recv hK hP (hLK _ hk7 (by decide)) (ci := 6) rfl o6, fun U hU hW => ⟨rfl, s_pw hU hW hP hKc hD hN⟩⟩ rfl rfl hl.1 rfl (lv_room (Nat.le_of_ble_eq_true rfl)) dL_law_1059 ⟨Nat.le_of_ble_eq_true rfl, Nat.le_of_ble_eq_true rfl⟩) hS (fun q _ h => hLA q h) (fun q h => hLA q h) (fun r2 F3 t H1 locs ht hvm hw hB hz1 hk1 hS => ?_)
  obtain ⟨hP, hK1⟩ := hB
  rw [ht] at hP
  generalize H1 = H at hP hS ⊢
  obtain ⟨hb_r2, hc_r2, hI, hfr1⟩ := hw
  have hx1 : y_fi F3 xo 1 = y_fi F xo 1 := Int32.toInt_inj.mp ((lw_cE hk7 hI).trans (lw_nn hk7 (lw_cB hcz hIc)).symm)
  have hI := lw_cB hcz hI
  have hV := lw_x hV hI hfr1 (by decide)
  have ho1 : y_fi F3 om 1 = y_fi F om 1 := lw_fi (hfr1 om (by rw [hk9]; decide)) 1
  refine W.widen (k := 892) (n := 240949) (Nat.le_of_ble_eq_true rfl) (Nat.le_of_ble_eq_true rfl) ?_
  refine lv_pop hx hb dL_law_1062 rfl ?_
  refine lv_aload_n hx hb dL_law_1063 rfl (lv_at hl 1 rfl) ?_
  refine lv_aload_n hx hb dL_law_1064 rfl (lv_at hl 3 rfl) ?_
  refine lv_iload_n hx hb dL_law_1065 rfl (lv_at hl 0 rfl) ?_
  refine lv_iconst (v := 1) hx hb dL_law_1066 (by decide) ?_
  refine lv_iadd hx hb dL_law_1067 ?_
  refine va_sld hx hb hX hbl hbA hS (lw_in hi hNN (by decide)) dL_law_1068 ?_
  refine lv_topi (fun v4 ev4 => ?_)
  obtain ⟨hLK0, hk7, hk9, hI, hPG, hRI, hRJ, hUQ, hyA, hyI, hyT⟩ := id hV
  have hLK : ∀ a {k : Nat}, K a = k → k ≠ 0 → a ∈ L := fun a k e q => hLK0 a (by rw [e]; exact q)
  obtain ⟨z7, q7, o7, -⟩ := hyI.1 om hk9
  refine va_calli (va_runV (As := [.int v4]) (rest := []) ⟨hx, hb, hml, hown, hts⟩ (y_X7_seed l dC dI H.size hLK A hyA F3 om v4 hk9 hyI) (cwV 1 hts (ax_gV T_547 T_434 T_435 T_265 T_92) rfl rfl rfl (by decide +kernel) ⟨Nat.le_of_ble_eq_true rfl, Nat.le_of_ble_eq_true rfl⟩) ⟨fun a U g mk q => ⟨q.1, s_pc (U := U) rfl rfl q.2⟩, s_recv hK hP (hLK _ hk9 (by decide)) (ci := 7) rfl o7, fun U hU hW => ⟨rfl, s_pw hU hW hP hK hD hN⟩⟩ rfl rfl hl.1 rfl (lv_room (Nat.le_of_ble_eq_true rfl)) dL_law_1069 ⟨Nat.le_of_ble_eq_true rfl, Nat.le_of_ble_eq_true rfl⟩) hS (fun q _ h => hLA q h) (fun q h => hLA q h) (fun r5 F6 t H1 locs ht hvm hw hB hz1 hk1 hS => ?_)
  obtain ⟨hP, hK1⟩ := hB
  rw [ht] at hP
  generalize H1 = H at hP hS ⊢
  obtain ⟨hb_r5, hc_r5, hyI, hfr1, hf1, hp_r5⟩ := hw
  have hV := lw_y hV hyI hfr1 (by decide) (lw_T hV hfr1 (by decide) (by decide) (by decide) (hf1 15 (by decide)) (hf1 31 (by decide)) (hf1 32 (by decide)))
  have hx2 : y_fi F6 xo 1 = y_fi F3 xo 1 := lw_fi (hfr1 xo (by rw [hk7]; decide)) 1
  have ho2 : y_fi F6 om 1 = y_fi F3 om 1 := hf1 1 (by decide)
  refine W.widen (k := 892) (n := 240949) (Nat.le_of_ble_eq_true rfl) (Nat.le_of_ble_eq_true rfl) ?_
  refine lv_pop hx hb dL_law_1072 rfl ?_
  have hB9 : y_fi F6 xo 1 = y_fi F6 om 1 := hx2.trans (hx1.trans (hB0.trans (ho1.symm.trans ho2.symm)))
  refine lv_goto (tgt := 1099) hx hb dL_law_1073 (by decide) ?_
  exact KK _ _ _ _ _ hV hB9 (by omega) hP hS
set_option maxHeartbeats 4000000 in
set_option maxRecDepth 100000 in
/-- status -/
theorem law_c28 {p : Program} {e : Env} {s : State} {m : MethodId} {below : List Frame} {meth : Method} {c : Code} (l : Launch) {dC : Nat → ClassId} {dI : Nat → Nat → Nat} {cs : Nat → ClassId} {b N : Nat} {xs : Nat → Int32} {L : List Nat} {A : Nat → Nat} {xo om : Nat} {K : Nat → Nat} {D : Nat} {F : Nat → va_E} {n9 : Nat} {i : Int32} {H : Heap} {locs : List Loc} {ls : Array Slot} {adK adV : Nat → Nat} {tf : Option Nat} (C0 : lw_At p s m meth c b N xs) (hK : va_K (dC, dI) vwCl [(cs 0, .int), (cs 1, .byte), (cs 2, .long), (cs 3, .object RX5), (cs 4, .object RX4), (cs 5, .array .int), (cs 6, .char), (cs 7, .boolean)] s) (hD : ∀ G, va_D (fun q => q ∈ L) (va_pl L G)) (hLA : ∀ q, q ∈ L → s.heap.size ≤ q) (hZ : s_Z L adK adV tf s) (hNN : N ≤ 3072) (hi : 0 ≤ i.toInt ∧ i.toInt + 6 ≤ N) (hn : n9 < 512) (hcz : cs 24 = 0) (hV : lw_V cs L A xo om K D F) (hB0 : y_fi F xo 1 = y_fi F om 1) (hDn : D ≤ 62000 * n9) (hP : va_P (dC, dI) vwCl (va_pl L F) H) (hS : va_S (fun q : Nat => s.heap.size ≤ q) s.heap H locs) (hl : lv_has ls 4 [(3, .int i), (2, .ref om), (1, .ref xo), (0, .ref b)]) (KK : ∀ (K : Nat → Nat) (D : Nat) (F : Nat → va_E) (H : Heap) (locs : List Loc), lw_V cs L A xo om K D F → y_fi F xo 1 = y_fi F om 1 → D ≤ 62000 * (n9 + 1) → va_P (dC, dI) vwCl (va_pl L F) H → va_S (fun q : Nat => s.heap.size ≤ q) s.heap H locs → W p l e room_1 s m #[Value.ref b] below meth c H locs 892 240949 (lw_Z below #[Value.ref b] s) (F0 m 1099 ls [])) : W p l e room_1 s m #[Value.ref b] below meth c H locs 892 240949 (lw_Z below #[Value.ref b] s) (F0 m 1076 ls []) := by
  obtain ⟨hx, hb, hr, hml, hown0, hts0, hX, hbl, hlocks, hgv⟩ := id C0
  have hown : s.vm.findClass RL = some m.cls := hown0
  have hts : ∀ w ∈ T0, w.before #[Value.ref b] s = true := fun w h => hts0 w (ax_law w h).1
  have hN : ax_N s := ax_Nlaw hts0
  have hbA : ¬ (fun q : Nat => s.heap.size ≤ q) b := Nat.not_le.mpr hbl
  refine lv_aload_n hx hb dL_law_1076 rfl (lv_at hl 2 rfl) ?_
  refine lv_aload_n hx hb dL_law_1077 rfl (lv_at hl 3 rfl) ?_
  refine lv_iload_n hx hb dL_law_1078 rfl (lv_at hl 0 rfl) ?_
  refine lv_iconst (v := 1) hx hb dL_law_1079 (by decide) ?_
  refine lv_iadd hx hb dL_law_1080 ?_
  refine va_sld hx hb hX hbl hbA hS (lw_in hi hNN (by decide)) dL_law_1081 ?_
  refine lv_topi (fun v1 ev1 => ?_)
  obtain ⟨hLK0, hk7, hk9, hI, hPG, hRI, hRJ, hUQ, hyA, hyI, hyT⟩ := id hV
  have hLK : ∀ a {k : Nat}, K a = k → k ≠ 0 → a ∈ L := fun a k e q => hLK0 a (by rw [e]; exact q)
  obtain ⟨fs6, o6⟩ := lw_o6 hI hk7
  have hIc := lw_cI hUQ.1 (lw_nn hk7 hI) hI
  have hKc : va_K (dC, dI) vwCl [(lw_c1 cs (y_fi F xo 1).toInt.toNat 0, .int), (lw_c1 cs (y_fi F xo 1).toInt.toNat 1, .byte), (lw_c1 cs (y_fi F xo 1).toInt.toNat 2, .long), (lw_c1 cs (y_fi F xo 1).toInt.toNat 3, .object RX5), (lw_c1 cs (y_fi F xo 1).toInt.toNat 4, .object RX4), (lw_c1 cs (y_fi F xo 1).toInt.toNat 5, .array .int), (lw_c1 cs (y_fi F xo 1).toInt.toNat 6, .char), (lw_c1 cs (y_fi F xo 1).toInt.toNat 7, .boolean)] s := hK
  refine va_calli (va_runV (As := [.int v1]) (rest := []) ⟨hx, hb, hml, hown, hts⟩ (s_X6_status l dC dI H.size (cs := lw_c1 cs (y_fi F xo 1).toInt.toNat) hLK D F xo v1 hk7 hIc) (cwV 1 hts (ax_gV T_548 T_436 T_437 T_193 T_93) rfl rfl rfl (by decide +kernel) ⟨Nat.le_of_ble_eq_true rfl, Nat.le_of_ble_eq_true rfl⟩) ⟨fun a U g mk q => ⟨q.1, s_pc (U := U) rfl rfl q.2⟩, s_recv hK hP (hLK _ hk7 (by decide)) (ci := 6) rfl o6, fun U hU hW => ⟨rfl, s_pw hU hW hP hKc hD hN⟩⟩ rfl rfl hl.1 rfl (lv_room (Nat.le_of_ble_eq_true rfl)) dL_law_1082 ⟨Nat.le_of_ble_eq_true rfl, Nat.le_of_ble_eq_true rfl⟩) hS (fun q _ h => hLA q h) (fun q h => hLA q h) (fun r2 F3 t H1 locs ht hvm hw hB hz1 hk1 hS => ?_)
  obtain ⟨hP, hK1⟩ := hB
  rw [ht] at hP
  generalize H1 = H at hP hS ⊢
  obtain ⟨hb_r2, hc_r2, hI, hfr1⟩ := hw
  have hx1 : y_fi F3 xo 1 = y_fi F xo 1 := Int32.toInt_inj.mp ((lw_cE hk7 hI).trans (lw_nn hk7 (lw_cB hcz hIc)).symm)
  have hI := lw_cB hcz hI
  have hV := lw_x hV hI hfr1 (by decide)
  have ho1 : y_fi F3 om 1 = y_fi F om 1 := lw_fi (hfr1 om (by rw [hk9]; decide)) 1
  refine W.widen (k := 892) (n := 240949) (Nat.le_of_ble_eq_true rfl) (Nat.le_of_ble_eq_true rfl) ?_
  refine lv_pop hx hb dL_law_1085 rfl ?_
  refine lv_aload_n hx hb dL_law_1086 rfl (lv_at hl 1 rfl) ?_
  refine lv_aload_n hx hb dL_law_1087 rfl (lv_at hl 3 rfl) ?_
  refine lv_iload_n hx hb dL_law_1088 rfl (lv_at hl 0 rfl) ?_
  refine lv_iconst (v := 1) hx hb dL_law_1089 (by decide) ?_
  refine lv_iadd hx hb dL_law_1090 ?_
  refine va_sld hx hb hX hbl hbA hS (lw_in hi hNN (by decide)) dL_law_1091 ?_
  refine lv_topi (fun v4 ev4 => ?_)
  obtain ⟨hLK0, hk7, hk9, hI, hPG, hRI, hRJ, hUQ, hyA, hyI, hyT⟩ := id hV
  have hLK : ∀ a {k : Nat}, K a = k → k ≠ 0 → a ∈ L := fun a k e q => hLK0 a (by rw [e]; exact q)
  obtain ⟨z7, q7, o7, -⟩ := hyI.1 om hk9
  refine va_calli (va_runV (As := [.int v4]) (rest := []) ⟨hx, hb, hml, hown, hts⟩ (y_X7_status l dC dI H.size hLK A hyA F3 om v4 hk9 hyI) (cwV 1 hts (ax_gV T_549 T_438 T_439 T_265 T_94) rfl rfl rfl (by decide +kernel) ⟨Nat.le_of_ble_eq_true rfl, Nat.le_of_ble_eq_true rfl⟩) ⟨fun a U g mk q => ⟨q.1, s_pc (U := U) rfl rfl q.2⟩, s_recv hK hP (hLK _ hk9 (by decide)) (ci := 7) rfl o7, fun U hU hW => ⟨rfl, s_pw hU hW hP hK hD hN⟩⟩ rfl rfl hl.1 rfl (lv_room (Nat.le_of_ble_eq_true rfl)) dL_law_1092 ⟨Nat.le_of_ble_eq_true rfl, Nat.le_of_ble_eq_true rfl⟩) hS (fun q _ h => hLA q h) (fun q h => hLA q h) (fun r5 F6 t H1 locs ht hvm hw hB hz1 hk1 hS => ?_)
  obtain ⟨hP, hK1⟩ := hB
  rw [ht] at hP
  generalize H1 = H at hP hS ⊢
  obtain ⟨hb_r5, hc_r5, hyI, hfr1, hf1, hp_r5⟩ := hw
  have hV := lw_y hV hyI hfr1 (by decide) (lw_T hV hfr1 (by decide) (by decide) (by decide) (hf1 15 (by decide)) (hf1 31 (by decide)) (hf1 32 (by decide)))
  have hx2 : y_fi F6 xo 1 = y_fi F3 xo 1 := lw_fi (hfr1 xo (by rw [hk7]; decide)) 1
  have ho2 : y_fi F6 om 1 = y_fi F3 om 1 := hf1 1 (by decide)
  refine W.widen (k := 892) (n := 240949) (Nat.le_of_ble_eq_true rfl) (Nat.le_of_ble_eq_true rfl) ?_
  refine lv_pop hx hb dL_law_1095 rfl ?_
  have hB9 : y_fi F6 xo 1 = y_fi F6 om 1 := hx2.trans (hx1.trans (hB0.trans (ho1.symm.trans ho2.symm)))
  refine lv_goto (tgt := 1099) hx hb dL_law_1096 (by decide) ?_
  exact KK _ _ _ _ _ hV hB9 (by omega) hP hS
