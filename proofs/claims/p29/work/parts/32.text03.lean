set_option maxHeartbeats 4000000 in
set_option maxRecDepth 100000 in
theorem y_X7_passes (l : Launch) (dC : Nat → ClassId) (dI : Nat → Nat → Nat) (sz : Nat) {L : List Nat} {K : Nat → Nat} {cs : Nat → ClassId} (hLK : ∀ a {k : Nat}, K a = k → k ≠ 0 → a ∈ L) (A : Nat → Nat) (hA : y_A K A) (F : Nat → va_E) (a0 : Nat) (ha0 : K a0 = 9) (hI : y_I K cs A F) : Met l yX7_passes (Cond.code yX7_passes cX7_passes 1 none :: T0) ({ frames := 1, cells := 0, slots := 0, locals := 20 }) (va_Pc [.ref a0] (s_W dC dI sz L F [(cs 0, .int), (cs 1, .byte), (cs 2, .long), (cs 3, .object RX5), (cs 4, .object RX4), (cs 5, .array .int), (cs 6, .char), (cs 7, .boolean)])) (va_Qv (fun (G : Nat → va_E) => True ∧ True ∧ y_I K cs A G ∧ (∀ b, K b ∉ [9] → G b = F b) ∧ (∀ k, k ∈ ([1, 3, 5, 6, 7, 8, 11, 15, 16, 19, 25, 26, 27, 31, 32] : List Nat) → y_fi G a0 k = y_fi F a0 k) ∧ True) (fun (G : Nat → va_E) (t : State) => va_P (dC, dI) vwCl (va_pl L G) t.heap ∧ va_K (dC, dI) vwCl [(cs 0, .int), (cs 1, .byte), (cs 2, .long), (cs 3, .object RX5), (cs 4, .object RX4), (cs 5, .array .int), (cs 6, .char), (cs 7, .boolean)] t) (fun q => q ∈ L)) 0 0 (fun q => q ∈ L) := by
  refine Met.ofW (cc := cX7_passes) (maxL := 1) (ret := none) (by decide) rfl ?_
  intro p e s m args below meth c s₁ B hml hv
  obtain ⟨rfl, hsz, hP, hK, hD, hN⟩ := hv
  have hx := B.exec
  have hb := B.bytes
  have hr := B.returns
  have hts : ∀ w ∈ T0, w.before _ s = true := fun w h => atoms_spec (ws := Cond.code yX7_passes cX7_passes 1 none :: T0) B.pre w (List.mem_cons_of_mem _ h)
  have hown : s.vm.findClass RX7 = some m.cls := findClass_of_methodNamed B.named
  have hlocks := B.notSynchronized
  have hS : va_S (fun q => q ∈ L) s.heap s.heap [] := va_S.rf
  have hfr : ∀ b, K b ∉ [9] → F b = F b := fun _ _ => rfl
  have hl := lv_entry ([.ref a0]) (n := 1) (Nat.le_of_ble_eq_true rfl)
  rw [lg_entry_eq]
  generalize (lg_sl ([.ref a0]) ++ List.replicate (1 - (lg_sl ([.ref a0])).length) Slot.unset).toArray = ls at hl ⊢
  have hl : lv_has ls 1 [(0, .ref a0)] := hl
  refine s_gen hP hS (fun H locs hP hS => ?_)
  obtain ⟨z0, q0, oY0, bz0⟩ := y_opY hI ha0
  have hz0 : ∀ k, k ∈ ([1, 3, 5, 6, 7, 8, 11, 15, 16, 19, 25, 26, 27, 31, 32] : List Nat) → z0 k = z0 k := fun _ _ => rfl
  refine th_join (fun g H locs => ∃ (G : Nat → va_E) (ls : Array Slot), g = F0 m 39 ls [] ∧ lv_has ls 1 [(0, .ref a0)] ∧ va_P (dC, dI) vwCl (va_pl L G) H ∧ va_S (fun q => q ∈ L) s.heap H locs ∧ y_I K cs A G ∧ (∀ b, K b ∉ [9] → G b = F b) ∧ (∀ k, k ∈ ([1, 3, 5, 6, 7, 8, 11, 15, 16, 19, 25, 26, 27, 31, 32] : List Nat) → y_fi G a0 k = z0 k)) (fun K39 => ?_) ?_
  · refine th_loop (fun n g H locs => ∃ (G : Nat → va_E) (ls : Array Slot), g = F0 m 0 ls [] ∧ lv_has ls 1 [(0, .ref a0)] ∧ va_P (dC, dI) vwCl (va_pl L G) H ∧ va_S (fun q => q ∈ L) s.heap H locs ∧ y_I K cs A G ∧ (∀ b, K b ∉ [9] → G b = F b) ∧ (∀ k, k ∈ ([1, 3, 5, 6, 7, 8, 11, 15, 16, 19, 25, 26, 27, 31, 32] : List Nat) → y_fi G a0 k = z0 k) ∧ n = (1601 - (y_fi G a0 2).toInt).toNat) _ ⟨F, _, rfl, lv_sub hl [0] rfl, hP, hS, hI, hfr, (fun k hk => (y_fiZ oY0 (s_sub (by decide) hk)).trans (hz0 k hk)), rfl⟩ (fun n ih0 g H locs hq => ?_)
    obtain ⟨F1, ls, rfl, hl, hP, hS, hI, hfr, hz0, hn⟩ := hq
    obtain ⟨z2, q3, oY4, bz5⟩ := y_opY hI ha0
    have hz0 : ∀ k, k ∈ ([1, 3, 5, 6, 7, 8, 11, 15, 16, 19, 25, 26, 27, 31, 32] : List Nat) → z2 k = z0 k := fun k hk => (y_fiZ oY4 (s_sub (by decide) hk)).symm.trans (hz0 k hk)
    obtain ⟨v6, ev6⟩ : ∃ y : Int32, y = z2 2 := ⟨_, rfl⟩
    have qv6 : 0 ≤ v6.toInt ∧ v6.toInt ≤ 1600 := by rw [ev6]; exact y_bY2 bz5
    have hn : n = (1601 - v6.toInt).toNat := by have q9 := hn; rw [y_fiZ oY4 (k := 2) (by decide), ← ev6] at q9; exact q9
    have hn_6 := hn
    have h7 : (z2 2).toInt = v6.toInt := by rw [ev6]
    refine lv_aload_n hx hb dX7_passes_0 rfl (lv_at hl 0 rfl) ?_
    refine th_get (D := (dC, dI)) (ci := 7) (v := .int (z2 2)) (C := RX7) (T := TX7) (N := 34) hx hb hts inX7 hown hK hP (hLK _ ha0 (by decide)) oY4 rfl 2 (by decide) (hts _ T_272) (fun _ h9 => h9) rfl dX7_passes_1 ?_
    refine ax_eqi (y := v6) ev6.symm ?_
    refine lv_aload_n hx hb dX7_passes_4 rfl (lv_at hl 0 rfl) ?_
    refine th_get (D := (dC, dI)) (ci := 7) (v := .int (z2 3)) (C := RX7) (T := TX7) (N := 34) hx hb hts inX7 hown hK hP (hLK _ ha0 (by decide)) oY4 rfl 3 (by decide) (hts _ T_273) (fun _ h9 => h9) rfl dX7_passes_5 ?_
    refine lv_topi (fun v8 ev8 => ?_)
    have qv8 : 0 ≤ v8.toInt ∧ v8.toInt ≤ 1600 := by rw [ev8]; exact y_bY3 bz5
    refine lv_icmp_ge (tgt := 39) hx hb dX7_passes_8 (by decide) (fun c9 => ?_) (fun c9 => ?_)
    · have c9 := Int32.le_iff_toInt_le.mp c9
      exact K39 _ _ _ ⟨F1, _, rfl, lv_sub hl [0] rfl, hP, hS, hI, hfr, (fun k hk => (y_fiZ oY4 (s_sub (by decide) hk)).trans (hz0 k hk))⟩
    · have c9 := mt Int32.le_iff_toInt_le.mpr c9
      refine lv_aload_n hx hb dX7_passes_11 rfl (lv_at hl 0 rfl) ?_
      refine th_get (D := (dC, dI)) (ci := 7) (v := .ref (A 0)) (C := RX7) (T := TX7) (N := 34) hx hb hts inX7 hown hK hP (hLK _ ha0 (by decide)) oY4 rfl 0 (by decide) (hts _ T_240) (fun _ h9 => h9) rfl dX7_passes_12 ?_
      refine lv_aload_n hx hb dX7_passes_15 rfl (lv_at hl 0 rfl) ?_
      refine th_get (D := (dC, dI)) (ci := 7) (v := .int (z2 2)) (C := RX7) (T := TX7) (N := 34) hx hb hts inX7 hown hK hP (hLK _ ha0 (by decide)) oY4 rfl 2 (by decide) (hts _ T_272) (fun _ h9 => h9) rfl dX7_passes_16 ?_
      refine ax_eqi (y := v6) ev6.symm ?_
      obtain ⟨f10, o11, b12⟩ := y_op0 hI
      refine th_iald hx hb hK hP (hLK _ (y_k0 hA) (by decide)) 0 o11 rfl (th_in ⟨by omega, by omega⟩) dX7_passes_19 ?_
      refine lv_topi (fun v13 ev13 => ?_)
      refine va_calli (va_runS (As := [.int v13]) (rest := []) ⟨hx, hb, hml, hown, hts⟩ (y_X7_isLetter l dC dI H.size F1 v13) (cwS 1 hts (ax_gS T_278 T_279 T_265 T_23) rfl rfl rfl (by decide +kernel) ⟨Nat.le_of_ble_eq_true rfl, Nat.le_of_ble_eq_true rfl⟩) ⟨fun a U g mk q => ⟨q.1, s_pc rfl rfl q.2⟩, fun U hU hW => ⟨rfl, s_pw hU hW hP hK hD hN⟩⟩ rfl rfl hl.1 rfl (lv_room (Nat.le_of_ble_eq_true rfl)) dX7_passes_20 ⟨Nat.zero_le _, Nat.zero_le _⟩) hS (fun q _ h => h) (fun q h => h) (fun r15 F16 t H1 locs ht hvm hw hB hz1 hk1 hS => ?_)
      obtain ⟨hP, hK1⟩ := hB
      rw [ht] at hP
      generalize H1 = H at hP hS ⊢
      obtain ⟨h17, h19, hG9, h18⟩ := hw
      rw [hG9] at hP
      refine lv_if_eq (tgt := 39) hx hb dX7_passes_23 (by decide) (fun c20 => ?_) (fun c20 => ?_)
      · have c20 := (ax_eq (n := 0) (by decide)).mp c20
        exact K39 _ _ _ ⟨F1, _, rfl, lv_sub hl [0] rfl, hP, hS, hI, hfr, (fun k hk => (y_fiZ oY4 (s_sub (by decide) hk)).trans (hz0 k hk))⟩
      · have c20 := mt (ax_eq (n := 0) (by decide)).mpr c20
        have h21 := h19 (fun q => c20 (by rw [q]; decide))
        refine lv_aload_n hx hb dX7_passes_26 rfl (lv_at hl 0 rfl) ?_
        refine lv_dup hx hb dX7_passes_27 rfl ?_
        refine th_get (D := (dC, dI)) (ci := 7) (v := .int (z2 2)) (C := RX7) (T := TX7) (N := 34) hx hb hts inX7 hown hK hP (hLK _ ha0 (by decide)) oY4 rfl 2 (by decide) (hts _ T_272) (fun _ h9 => h9) rfl dX7_passes_28 ?_
        refine ax_eqi (y := v6) ev6.symm ?_
        refine lv_iconst (v := 1) hx hb dX7_passes_31 (by decide) ?_
        refine lv_iadd hx hb dX7_passes_32 ?_
        refine lv_topi (fun v22 ev22 => ?_)
        have qv22 : v22.toInt = v6.toInt + 1 := by rw [ev22]; exact th_add rfl (by decide) ⟨by omega, by omega⟩
        refine th_put (D := (dC, dI)) (ci := 7) (v := .int v22) (ty := .int) (C := RX7) (T := TX7) (N := 34) hx hb hts inX7 tyX7 tyX7_ok nmX7 hown hK hP hD hS (hLK _ ha0 (by decide)) oY4 rfl 2 (by decide) (hts _ T_272) (fun _ h9 => h9) rfl (by decide +kernel) rfl rfl (Nat.le_of_ble_eq_true rfl) dX7_passes_33 (fun H locs hP hS => ?_)
        rw [y_fs2] at hP
        obtain ⟨z23, hz24⟩ : ∃ g : Nat → Int32, g = upd z2 2 v22 := ⟨_, rfl⟩
        rw [← hz24] at hP
        have bz25 : y_bY z23 := by rw [hz24]; exact y_bp2 bz5 ⟨by omega, by omega⟩
        have hP : va_P (dC, dI) vwCl (va_pl L (va_up F1 a0 (.inr (7, y_fl A z23 q3)))) H := hP
        obtain ⟨F26, hF27⟩ : ∃ G : Nat → va_E, G = va_up F1 a0 (.inr (7, y_fl A z23 q3)) := ⟨_, rfl⟩
        rw [← hF27] at hP
        have hI : y_I K cs A F26 := by rw [hF27]; exact y_clY hA hI ha0 bz25
        have hfr : ∀ b, K b ∉ [9] → F26 b = F b := by rw [hF27]; exact s_fr hfr ha0 (by decide)
        have o28 : F26 (A 0) = .inl (cs 0, 1600, .inl f10) := by rw [hF27]; exact th_ne (th_kd (y_k0 hA) ha0 (by decide)) o11
        have oY29 : F26 a0 = .inr (7, y_fl A z23 q3) := by rw [hF27]; exact th_up
        have hz0 : ∀ k, k ∈ ([1, 3, 5, 6, 7, 8, 11, 15, 16, 19, 25, 26, 27, 31, 32] : List Nat) → z23 k = z0 k := fun k hk => by rw [hz24]; exact (y_un (fun q => absurd hk (by rw [q]; decide))).trans (hz0 k hk)
        have ev8 : v8 = z23 3 := by rw [hz24]; exact ev8.trans (y_un (by decide)).symm
        obtain ⟨v30, ev30⟩ : ∃ y : Int32, y = z23 2 := ⟨_, rfl⟩
        have qv30 : v30.toInt = v22.toInt := by rw [ev30, hz24, y_ue]
        refine lv_goto (tgt := 0) hx hb dX7_passes_36 (by decide) ?_
        have h31 : (y_fi F26 a0 2).toInt = v30.toInt := by rw [y_fiZ oY29 (k := 2) (by decide), ← ev30]
        exact ih0 _ _ _ _ (by omega) ⟨F26, _, rfl, lv_sub hl [0] rfl, hP, hS, hI, hfr, (fun k hk => (y_fiZ oY29 (s_sub (by decide) hk)).trans (hz0 k hk)), rfl⟩
  · intro g H locs hq
    obtain ⟨F32, ls, rfl, hl, hP, hS, hI, hfr, hz0⟩ := hq
    obtain ⟨z33, q34, oY35, bz36⟩ := y_opY hI ha0
    have hz0 : ∀ k, k ∈ ([1, 3, 5, 6, 7, 8, 11, 15, 16, 19, 25, 26, 27, 31, 32] : List Nat) → z33 k = z0 k := fun k hk => (y_fiZ oY35 (s_sub (by decide) hk)).symm.trans (hz0 k hk)
    refine lv_aload_n hx hb dX7_passes_39 rfl (lv_at hl 0 rfl) ?_
    refine lv_aload_n hx hb dX7_passes_40 rfl (lv_at hl 0 rfl) ?_
    refine th_get (D := (dC, dI)) (ci := 7) (v := .int (z33 2)) (C := RX7) (T := TX7) (N := 34) hx hb hts inX7 hown hK hP (hLK _ ha0 (by decide)) oY35 rfl 2 (by decide) (hts _ T_272) (fun _ h9 => h9) rfl dX7_passes_41 ?_
    refine lv_topi (fun v37 ev37 => ?_)
    have qv37 : 0 ≤ v37.toInt ∧ v37.toInt ≤ 1600 := by rw [ev37]; exact y_bY2 bz36
    refine th_put (D := (dC, dI)) (ci := 7) (v := .int v37) (ty := .int) (C := RX7) (T := TX7) (N := 34) hx hb hts inX7 tyX7 tyX7_ok nmX7 hown hK hP hD hS (hLK _ ha0 (by decide)) oY35 rfl 4 (by decide) (hts _ T_296) (fun _ h9 => h9) rfl (by decide +kernel) rfl rfl (Nat.le_of_ble_eq_true rfl) dX7_passes_44 (fun H locs hP hS => ?_)
    rw [y_fs4] at hP
    obtain ⟨z38, hz39⟩ : ∃ g : Nat → Int32, g = upd z33 4 v37 := ⟨_, rfl⟩
    rw [← hz39] at hP
    have bz40 : y_bY z38 := by rw [hz39]; exact y_bp4 bz36
    have hP : va_P (dC, dI) vwCl (va_pl L (va_up F32 a0 (.inr (7, y_fl A z38 q34)))) H := hP
    obtain ⟨F41, hF42⟩ : ∃ G : Nat → va_E, G = va_up F32 a0 (.inr (7, y_fl A z38 q34)) := ⟨_, rfl⟩
    rw [← hF42] at hP
    have hI : y_I K cs A F41 := by rw [hF42]; exact y_clY hA hI ha0 bz40
    have hfr : ∀ b, K b ∉ [9] → F41 b = F b := by rw [hF42]; exact s_fr hfr ha0 (by decide)
    have oY43 : F41 a0 = .inr (7, y_fl A z38 q34) := by rw [hF42]; exact th_up
    have hz0 : ∀ k, k ∈ ([1, 3, 5, 6, 7, 8, 11, 15, 16, 19, 25, 26, 27, 31, 32] : List Nat) → z38 k = z0 k := fun k hk => by rw [hz39]; exact (y_un (fun q => absurd hk (by rw [q]; decide))).trans (hz0 k hk)
    have ev37 : v37 = z38 2 := by rw [hz39]; exact ev37.trans (y_un (by decide)).symm
    obtain ⟨v44, ev44⟩ : ∃ y : Int32, y = z38 4 := ⟨_, rfl⟩
    have qv44 : v44.toInt = v37.toInt := by rw [ev44, hz39, y_ue]
    exact W.vret hx hb hr (fun t ht hW => ⟨⟨F41, rfl, ⟨trivial, trivial, hI, hfr, fun k hk => (y_fiZ oY43 (s_sub (by decide) hk)).trans ((hz0 k hk).trans (y_fiZ oY0 (s_sub (by decide) hk)).symm), trivial⟩, by rw [ht]; exact hP, va_K.moved hW.alike hK⟩, hS.F ht⟩) hS.2.2 dX7_passes_47

set_option maxHeartbeats 4000000 in
set_option maxRecDepth 100000 in
theorem y_X7_takes (l : Launch) (dC : Nat → ClassId) (dI : Nat → Nat → Nat) (sz : Nat) {L : List Nat} {K : Nat → Nat} {cs : Nat → ClassId} (hLK : ∀ a {k : Nat}, K a = k → k ≠ 0 → a ∈ L) (A : Nat → Nat) (hA : y_A K A) (F : Nat → va_E) (a0 : Nat) (x1 : Int32) (ha0 : K a0 = 9) (hI : y_I K cs A F) : Met l yX7_takes (Cond.code yX7_takes cX7_takes 2 (some .boolean) :: T0) ({ frames := 3, cells := 0, slots := 0, locals := 64 }) (va_Pc [.ref a0, .int x1] (s_W dC dI sz L F [(cs 0, .int), (cs 1, .byte), (cs 2, .long), (cs 3, .object RX5), (cs 4, .object RX4), (cs 5, .array .int), (cs 6, .char), (cs 7, .boolean)])) (va_Qi (fun (r : Int32) (G : Nat → va_E) => (0 ≤ r.toInt ∧ r.toInt ≤ 1) ∧ True ∧ y_I K cs A G ∧ (∀ b, K b ∉ [9] → G b = F b) ∧ (∀ k, k ∈ ([1, 3, 5, 6, 7, 8, 11, 15, 16, 19, 25, 26, 27, 31, 32] : List Nat) → y_fi G a0 k = y_fi F a0 k) ∧ True) (fun (G : Nat → va_E) (t : State) => va_P (dC, dI) vwCl (va_pl L G) t.heap ∧ va_K (dC, dI) vwCl [(cs 0, .int), (cs 1, .byte), (cs 2, .long), (cs 3, .object RX5), (cs 4, .object RX4), (cs 5, .array .int), (cs 6, .char), (cs 7, .boolean)] t) (fun q => q ∈ L)) 0 0 (fun q => q ∈ L) := by
  refine Met.ofW (cc := cX7_takes) (maxL := 2) (ret := (some .boolean)) (by decide) rfl ?_
  intro p e s m args below meth c s₁ B hml hv
  obtain ⟨rfl, hsz, hP, hK, hD, hN⟩ := hv
  have hx := B.exec
  have hb := B.bytes
  have hr := B.returns
  have hts : ∀ w ∈ T0, w.before _ s = true := fun w h => atoms_spec (ws := Cond.code yX7_takes cX7_takes 2 (some .boolean) :: T0) B.pre w (List.mem_cons_of_mem _ h)
  have hown : s.vm.findClass RX7 = some m.cls := findClass_of_methodNamed B.named
  have hlocks := B.notSynchronized
  have hS : va_S (fun q => q ∈ L) s.heap s.heap [] := va_S.rf
  have hfr : ∀ b, K b ∉ [9] → F b = F b := fun _ _ => rfl
  have hl := lv_entry ([.ref a0, .int x1]) (n := 2) (Nat.le_of_ble_eq_true rfl)
  rw [lg_entry_eq]
  generalize (lg_sl ([.ref a0, .int x1]) ++ List.replicate (2 - (lg_sl ([.ref a0, .int x1])).length) Slot.unset).toArray = ls at hl ⊢
  have hl : lv_has ls 2 [(0, .ref a0), (1, .int x1)] := hl
  refine s_gen hP hS (fun H locs hP hS => ?_)
  obtain ⟨z0, q0, oY0, bz0⟩ := y_opY hI ha0
  have hz0 : ∀ k, k ∈ ([1, 3, 5, 6, 7, 8, 11, 15, 16, 19, 25, 26, 27, 31, 32] : List Nat) → z0 k = z0 k := fun _ _ => rfl
  refine lv_aload_n hx hb dX7_takes_0 rfl (lv_at hl 0 rfl) ?_
  refine va_calli (va_runV (As := []) (rest := []) ⟨hx, hb, hml, hown, hts⟩ (y_X7_ownHere l dC dI H.size hLK A hA F a0 ha0 hI) (cwV 0 hts (ax_gV T_283 T_284 T_285 T_265 T_25) rfl rfl rfl (by decide +kernel) ⟨Nat.le_of_ble_eq_true rfl, Nat.le_of_ble_eq_true rfl⟩) ⟨fun a U g mk q => ⟨q.1, s_pc rfl rfl q.2⟩, s_recv hK hP (hLK _ ha0 (by decide)) (ci := 7) rfl oY0, fun U hU hW => ⟨rfl, s_pw hU hW hP hK hD hN⟩⟩ rfl rfl hl.1 rfl (lv_room (Nat.le_of_ble_eq_true rfl)) dX7_takes_1 ⟨Nat.zero_le _, Nat.zero_le _⟩) hS (fun q _ h => h) (fun q h => h) (fun r2 F3 t H1 locs ht hvm hw hB hz1 hk1 hS => ?_)
  obtain ⟨hP, hK1⟩ := hB
  rw [ht] at hP
  generalize H1 = H at hP hS ⊢
  obtain ⟨h4, h6, hI, hfr1, hzf, h5⟩ := hw
  obtain ⟨z7, q8, oY9, bz10⟩ := y_opY hI ha0
  have hzf : ∀ k, k ∈ ([1, 3, 4, 5, 6, 7, 8, 11, 15, 16, 19, 25, 26, 27, 31, 32] : List Nat) → z7 k = z0 k := fun k hk => by have q9 := hzf k hk; rw [y_fiZ oY9 (s_sub (by decide) hk), y_fiZ oY0 (s_sub (by decide) hk)] at q9; exact q9
  have hz0 : ∀ k, k ∈ ([1, 3, 5, 6, 7, 8, 11, 15, 16, 19, 25, 26, 27, 31, 32] : List Nat) → z7 k = z0 k := fun k hk => (hzf k (s_sub (by decide) hk)).trans (hz0 k hk)
  have hfr : ∀ b, K b ∉ [9] → F3 b = F b := fun b hb9 => (hfr1 b (fun q => hb9 (s_sub (by decide) q))).trans (hfr b hb9)
  refine lv_iload_n hx hb dX7_takes_4 rfl (lv_at hl 1 rfl) ?_
  refine lv_icmp_eq (tgt := 10) hx hb dX7_takes_5 (by decide) (fun c11 => ?_) (fun c11 => ?_)
  · have c11 := Int32.toInt_inj.symm.mp c11
    refine lv_aload_n hx hb dX7_takes_10 rfl (lv_at hl 0 rfl) ?_
    refine va_callv (va_runV (As := []) (rest := []) ⟨hx, hb, hml, hown, hts⟩ (y_X7_passes l dC dI H.size hLK A hA F3 a0 ha0 hI) (cwV 0 hts (ax_gV T_1257 T_1259 T_1260 T_265 T_1258) rfl rfl rfl (by decide +kernel) ⟨Nat.le_of_ble_eq_true rfl, Nat.le_of_ble_eq_true rfl⟩) ⟨fun a U g mk q => ⟨q.1, s_pc rfl rfl q.2⟩, s_recv hK hP (hLK _ ha0 (by decide)) (ci := 7) rfl oY9, fun U hU hW => ⟨rfl, s_pw hU hW hP hK hD hN⟩⟩ rfl rfl hl.1 rfl (lv_room (Nat.le_of_ble_eq_true rfl)) dX7_takes_11 ⟨Nat.zero_le _, Nat.zero_le _⟩) hS (fun q _ h => h) (fun q h => h) (fun F13 t H1 locs ht hvm hw hB hz1 hk1 hS => ?_)
    obtain ⟨hP, hK1⟩ := hB
    rw [ht] at hP
    generalize H1 = H at hP hS ⊢
    obtain ⟨h14, h16, hI, hfr1, hzf, h15⟩ := hw
    obtain ⟨z17, q18, oY19, bz20⟩ := y_opY hI ha0
    have hzf : ∀ k, k ∈ ([1, 3, 5, 6, 7, 8, 11, 15, 16, 19, 25, 26, 27, 31, 32] : List Nat) → z17 k = z7 k := fun k hk => by have q9 := hzf k hk; rw [y_fiZ oY19 (s_sub (by decide) hk), y_fiZ oY9 (s_sub (by decide) hk)] at q9; exact q9
    have hz0 : ∀ k, k ∈ ([1, 3, 5, 6, 7, 8, 11, 15, 16, 19, 25, 26, 27, 31, 32] : List Nat) → z17 k = z0 k := fun k hk => (hzf k (s_sub (by decide) hk)).trans (hz0 k hk)
    have hfr : ∀ b, K b ∉ [9] → F13 b = F b := fun b hb9 => (hfr1 b (fun q => hb9 (s_sub (by decide) q))).trans (hfr b hb9)
    refine lv_iconst (v := 1) hx hb dX7_takes_14 (by decide) ?_
    have h21 : (1 : Int32).toInt = 1 := by decide
    exact W.zret (v := 1) (ty := .boolean) hx hb hr (by decide) (fun t ht hW => ⟨⟨1, F13, rfl, ⟨(by decide), trivial, hI, hfr, fun k hk => (y_fiZ oY19 (s_sub (by decide) hk)).trans ((hz0 k hk).trans (y_fiZ oY0 (s_sub (by decide) hk)).symm), trivial⟩, by rw [ht]; exact hP, va_K.moved hW.alike hK⟩, hS.F ht⟩) hS.2.2 dX7_takes_15
  · have c11 := mt Int32.toInt_inj.symm.mpr c11
    refine lv_iconst (v := 0) hx hb dX7_takes_8 (by decide) ?_
    have h22 : (0 : Int32).toInt = 0 := by decide
    exact W.zret (v := 0) (ty := .boolean) hx hb hr (by decide) (fun t ht hW => ⟨⟨0, F3, rfl, ⟨(by decide), trivial, hI, hfr, fun k hk => (y_fiZ oY9 (s_sub (by decide) hk)).trans ((hz0 k hk).trans (y_fiZ oY0 (s_sub (by decide) hk)).symm), trivial⟩, by rw [ht]; exact hP, va_K.moved hW.alike hK⟩, hS.F ht⟩) hS.2.2 dX7_takes_9

set_option maxHeartbeats 4000000 in
set_option maxRecDepth 100000 in
theorem y_X7_asks (l : Launch) (dC : Nat → ClassId) (dI : Nat → Nat → Nat) (sz : Nat) {L : List Nat} {K : Nat → Nat} {cs : Nat → ClassId} (hLK : ∀ a {k : Nat}, K a = k → k ≠ 0 → a ∈ L) (A : Nat → Nat) (hA : y_A K A) (F : Nat → va_E) (a0 : Nat) (x1 : Int32) (ha0 : K a0 = 9) (hI : y_I K cs A F) : Met l yX7_asks (Cond.code yX7_asks cX7_asks 2 none :: T0) ({ frames := 4, cells := 0, slots := 0, locals := 85 }) (va_Pc [.ref a0, .int x1] (s_W dC dI sz L F [(cs 0, .int), (cs 1, .byte), (cs 2, .long), (cs 3, .object RX5), (cs 4, .object RX4), (cs 5, .array .int), (cs 6, .char), (cs 7, .boolean)])) (va_Qv (fun (G : Nat → va_E) => True ∧ True ∧ y_I K cs A G ∧ (∀ b, K b ∉ [9] → G b = F b) ∧ (∀ k, k ∈ ([1, 3, 7, 8, 11, 15, 16, 19, 25, 26, 27, 31, 32] : List Nat) → y_fi G a0 k = y_fi F a0 k) ∧ ((y_fi F a0 5).toInt = 0 ∨ ¬ (y_fi G a0 5).toInt = 0)) (fun (G : Nat → va_E) (t : State) => va_P (dC, dI) vwCl (va_pl L G) t.heap ∧ va_K (dC, dI) vwCl [(cs 0, .int), (cs 1, .byte), (cs 2, .long), (cs 3, .object RX5), (cs 4, .object RX4), (cs 5, .array .int), (cs 6, .char), (cs 7, .boolean)] t) (fun q => q ∈ L)) 0 0 (fun q => q ∈ L) := by
  refine Met.ofW (cc := cX7_asks) (maxL := 2) (ret := none) (by decide) rfl ?_
  intro p e s m args below meth c s₁ B hml hv
  obtain ⟨rfl, hsz, hP, hK, hD, hN⟩ := hv
  have hx := B.exec
  have hb := B.bytes
  have hr := B.returns
  have hts : ∀ w ∈ T0, w.before _ s = true := fun w h => atoms_spec (ws := Cond.code yX7_asks cX7_asks 2 none :: T0) B.pre w (List.mem_cons_of_mem _ h)
  have hown : s.vm.findClass RX7 = some m.cls := findClass_of_methodNamed B.named
  have hlocks := B.notSynchronized
  have hS : va_S (fun q => q ∈ L) s.heap s.heap [] := va_S.rf
  have hfr : ∀ b, K b ∉ [9] → F b = F b := fun _ _ => rfl
  have hl := lv_entry ([.ref a0, .int x1]) (n := 2) (Nat.le_of_ble_eq_true rfl)
  rw [lg_entry_eq]
  generalize (lg_sl ([.ref a0, .int x1]) ++ List.replicate (2 - (lg_sl ([.ref a0, .int x1])).length) Slot.unset).toArray = ls at hl ⊢
  have hl : lv_has ls 2 [(0, .ref a0), (1, .int x1)] := hl
  refine s_gen hP hS (fun H locs hP hS => ?_)
  obtain ⟨z0, q0, oY0, bz0⟩ := y_opY hI ha0
  have hz0 : ∀ k, k ∈ ([1, 3, 7, 8, 11, 15, 16, 19, 25, 26, 27, 31, 32] : List Nat) → z0 k = z0 k := fun _ _ => rfl
  obtain ⟨v1, ev1⟩ : ∃ y : Int32, y = z0 5 := ⟨_, rfl⟩
  have eF_5 := ev1
  have e0_v1 := ev1
  refine lv_aload_n hx hb dX7_asks_0 rfl (lv_at hl 0 rfl) ?_
  refine th_get (D := (dC, dI)) (ci := 7) (v := .int (z0 5)) (C := RX7) (T := TX7) (N := 34) hx hb hts inX7 hown hK hP (hLK _ ha0 (by decide)) oY0 rfl 5 (by decide) (hts _ T_274) (fun _ h9 => h9) rfl dX7_asks_1 ?_
  refine ax_eqi (y := v1) ev1.symm ?_
  refine lv_if_ne (tgt := 24) hx hb dX7_asks_4 (by decide) (fun c2 => ?_) (fun c2 => ?_)
  · have c2 := mt (ax_eq (n := 0) (by decide)).mpr c2
    exact W.vret hx hb hr (fun t ht hW => ⟨⟨F, rfl, ⟨trivial, trivial, hI, hfr, fun k hk => (y_fiZ oY0 (s_sub (by decide) hk)).trans ((hz0 k hk).trans (y_fiZ oY0 (s_sub (by decide) hk)).symm), (by rw [y_fiZ oY0 (k := 5) (by decide), ← eF_5]; omega)⟩, by rw [ht]; exact hP, va_K.moved hW.alike hK⟩, hS.F ht⟩) hS.2.2 dX7_asks_24
  · have c2 := (ax_eq (n := 0) (by decide)).mp c2
    refine lv_aload_n hx hb dX7_asks_7 rfl (lv_at hl 0 rfl) ?_
    refine lv_iload_n hx hb dX7_asks_8 rfl (lv_at hl 1 rfl) ?_
    refine va_calli (va_runV (As := [.int x1]) (rest := []) ⟨hx, hb, hml, hown, hts⟩ (y_X7_takes l dC dI H.size hLK A hA F a0 x1 ha0 hI) (cwV 1 hts (ax_gV T_287 T_288 T_289 T_265 T_26) rfl rfl rfl (by decide +kernel) ⟨Nat.le_of_ble_eq_true rfl, Nat.le_of_ble_eq_true rfl⟩) ⟨fun a U g mk q => ⟨q.1, s_pc rfl rfl q.2⟩, s_recv hK hP (hLK _ ha0 (by decide)) (ci := 7) rfl oY0, fun U hU hW => ⟨rfl, s_pw hU hW hP hK hD hN⟩⟩ rfl rfl hl.1 rfl (lv_room (Nat.le_of_ble_eq_true rfl)) dX7_asks_9 ⟨Nat.zero_le _, Nat.zero_le _⟩) hS (fun q _ h => h) (fun q h => h) (fun r4 F5 t H1 locs ht hvm hw hB hz1 hk1 hS => ?_)
    obtain ⟨hP, hK1⟩ := hB
    rw [ht] at hP
    generalize H1 = H at hP hS ⊢
    obtain ⟨h6, h8, hI, hfr1, hzf, h7⟩ := hw
    obtain ⟨z9, q10, oY11, bz12⟩ := y_opY hI ha0
    have hzf : ∀ k, k ∈ ([1, 3, 5, 6, 7, 8, 11, 15, 16, 19, 25, 26, 27, 31, 32] : List Nat) → z9 k = z0 k := fun k hk => by have q9 := hzf k hk; rw [y_fiZ oY11 (s_sub (by decide) hk), y_fiZ oY0 (s_sub (by decide) hk)] at q9; exact q9
    have hz0 : ∀ k, k ∈ ([1, 3, 7, 8, 11, 15, 16, 19, 25, 26, 27, 31, 32] : List Nat) → z9 k = z0 k := fun k hk => (hzf k (s_sub (by decide) hk)).trans (hz0 k hk)
    have ev1 : v1 = z9 5 := ev1.trans (hzf 5 (by decide)).symm
    have hfr : ∀ b, K b ∉ [9] → F5 b = F b := fun b hb9 => (hfr1 b (fun q => hb9 (s_sub (by decide) q))).trans (hfr b hb9)
    refine lv_if_ne (tgt := 24) hx hb dX7_asks_12 (by decide) (fun c13 => ?_) (fun c13 => ?_)
    · have c13 := mt (ax_eq (n := 0) (by decide)).mpr c13
      exact W.vret hx hb hr (fun t ht hW => ⟨⟨F5, rfl, ⟨trivial, trivial, hI, hfr, fun k hk => (y_fiZ oY11 (s_sub (by decide) hk)).trans ((hz0 k hk).trans (y_fiZ oY0 (s_sub (by decide) hk)).symm), (by rw [y_fiZ oY0 (k := 5) (by decide), ← eF_5, y_fiZ oY11 (k := 5) (by decide), ← ev1]; omega)⟩, by rw [ht]; exact hP, va_K.moved hW.alike hK⟩, hS.F ht⟩) hS.2.2 dX7_asks_24
    · have c13 := (ax_eq (n := 0) (by decide)).mp c13
      refine lv_aload_n hx hb dX7_asks_15 rfl (lv_at hl 0 rfl) ?_
      refine lv_iconst (v := 1) hx hb dX7_asks_16 (by decide) ?_
      refine lv_aload_n hx hb dX7_asks_17 rfl (lv_at hl 0 rfl) ?_
      refine th_get (D := (dC, dI)) (ci := 7) (v := .int (z9 2)) (C := RX7) (T := TX7) (N := 34) hx hb hts inX7 hown hK hP (hLK _ ha0 (by decide)) oY11 rfl 2 (by decide) (hts _ T_272) (fun _ h9 => h9) rfl dX7_asks_18 ?_
      refine lv_topi (fun v14 ev14 => ?_)
      have qv14 : 0 ≤ v14.toInt ∧ v14.toInt ≤ 1600 := by rw [ev14]; exact y_bY2 bz12
      refine va_callv (va_runV (As := [.int 1, .int v14]) (rest := []) ⟨hx, hb, hml, hown, hts⟩ (y_X7_fail l dC dI H.size hLK A hA F5 a0 1 v14 ha0 (by decide) hI) (cwV 2 hts (ax_gV T_290 T_291 T_292 T_265 T_27) rfl rfl rfl (by decide +kernel) ⟨Nat.le_of_ble_eq_true rfl, Nat.le_of_ble_eq_true rfl⟩) ⟨fun a U g mk q => ⟨q.1, s_pc rfl rfl q.2⟩, s_recv hK hP (hLK _ ha0 (by decide)) (ci := 7) rfl oY11, fun U hU hW => ⟨rfl, s_pw hU hW hP hK hD hN⟩⟩ rfl rfl hl.1 rfl (lv_room (Nat.le_of_ble_eq_true rfl)) dX7_asks_21 ⟨Nat.zero_le _, Nat.zero_le _⟩) hS (fun q _ h => h) (fun q h => h) (fun F16 t H1 locs ht hvm hw hB hz1 hk1 hS => ?_)
      obtain ⟨hP, hK1⟩ := hB
      rw [ht] at hP
      generalize H1 = H at hP hS ⊢
      obtain ⟨h17, h19, hI, hfr1, hzf, h18⟩ := hw
      obtain ⟨z20, q21, oY22, bz23⟩ := y_opY hI ha0
      have hzf : ∀ k, k ∈ ([1, 2, 3, 4, 7, 8, 11, 15, 16, 19, 25, 26, 27, 31, 32] : List Nat) → z20 k = z9 k := fun k hk => by have q9 := hzf k hk; rw [y_fiZ oY22 (s_sub (by decide) hk), y_fiZ oY11 (s_sub (by decide) hk)] at q9; exact q9
      have hz0 : ∀ k, k ∈ ([1, 3, 7, 8, 11, 15, 16, 19, 25, 26, 27, 31, 32] : List Nat) → z20 k = z0 k := fun k hk => (hzf k (s_sub (by decide) hk)).trans (hz0 k hk)
      have ev14 : v14 = z20 2 := ev14.trans (hzf 2 (by decide)).symm
      have hfr : ∀ b, K b ∉ [9] → F16 b = F b := fun b hb9 => (hfr1 b (fun q => hb9 (s_sub (by decide) q))).trans (hfr b hb9)
      obtain ⟨v24, ev24⟩ : ∃ y : Int32, y = z20 5 := ⟨_, rfl⟩
      have h18 : (¬ v24.toInt = 0) := by have q9 := h18; rw [y_fiZ oY22 (k := 5) (by decide), ← ev24] at q9; exact q9
      exact W.vret hx hb hr (fun t ht hW => ⟨⟨F16, rfl, ⟨trivial, trivial, hI, hfr, fun k hk => (y_fiZ oY22 (s_sub (by decide) hk)).trans ((hz0 k hk).trans (y_fiZ oY0 (s_sub (by decide) hk)).symm), (by rw [y_fiZ oY0 (k := 5) (by decide), ← eF_5, y_fiZ oY22 (k := 5) (by decide), ← ev24]; omega)⟩, by rw [ht]; exact hP, va_K.moved hW.alike hK⟩, hS.F ht⟩) hS.2.2 dX7_asks_24

set_option maxHeartbeats 4000000 in
set_option maxRecDepth 100000 in
theorem y_X7_name (l : Launch) (dC : Nat → ClassId) (dI : Nat → Nat → Nat) (sz : Nat) {L : List Nat} {K : Nat → Nat} {cs : Nat → ClassId} (hLK : ∀ a {k : Nat}, K a = k → k ≠ 0 → a ∈ L) (A : Nat → Nat) (hA : y_A K A) (F : Nat → va_E) (a0 : Nat) (ha0 : K a0 = 9) (hI : y_I K cs A F) : Met l yX7_name (Cond.code yX7_name cX7_name 2 (some .int) :: T0) ({ frames := 3, cells := 0, slots := 0, locals := 64 }) (va_Pc [.ref a0] (s_W dC dI sz L F [(cs 0, .int), (cs 1, .byte), (cs 2, .long), (cs 3, .object RX5), (cs 4, .object RX4), (cs 5, .array .int), (cs 6, .char), (cs 7, .boolean)])) (va_Qi (fun (r : Int32) (G : Nat → va_E) => True ∧ True ∧ y_I K cs A G ∧ (∀ b, K b ∉ [9] → G b = F b) ∧ (∀ k, k ∈ ([1, 3, 7, 8, 15, 16, 19, 25, 26, 27, 31, 32] : List Nat) → y_fi G a0 k = y_fi F a0 k) ∧ ((y_fi F a0 5).toInt = 0 ∨ ¬ (y_fi G a0 5).toInt = 0)) (fun (G : Nat → va_E) (t : State) => va_P (dC, dI) vwCl (va_pl L G) t.heap ∧ va_K (dC, dI) vwCl [(cs 0, .int), (cs 1, .byte), (cs 2, .long), (cs 3, .object RX5), (cs 4, .object RX4), (cs 5, .array .int), (cs 6, .char), (cs 7, .boolean)] t) (fun q => q ∈ L)) 0 0 (fun q => q ∈ L) := by
  refine Met.ofW (cc := cX7_name) (maxL := 2) (ret := (some .int)) (by decide) rfl ?_
  intro p e s m args below meth c s₁ B hml hv
  obtain ⟨rfl, hsz, hP, hK, hD, hN⟩ := hv
  have hx := B.exec
  have hb := B.bytes
  have hr := B.returns
  have hts : ∀ w ∈ T0, w.before _ s = true := fun w h => atoms_spec (ws := Cond.code yX7_name cX7_name 2 (some .int) :: T0) B.pre w (List.mem_cons_of_mem _ h)
  have hown : s.vm.findClass RX7 = some m.cls := findClass_of_methodNamed B.named
  have hlocks := B.notSynchronized
  have hS : va_S (fun q => q ∈ L) s.heap s.heap [] := va_S.rf
  have hfr : ∀ b, K b ∉ [9] → F b = F b := fun _ _ => rfl
  have hl := lv_entry ([.ref a0]) (n := 2) (Nat.le_of_ble_eq_true rfl)
  rw [lg_entry_eq]
  generalize (lg_sl ([.ref a0]) ++ List.replicate (2 - (lg_sl ([.ref a0])).length) Slot.unset).toArray = ls at hl ⊢
  have hl : lv_has ls 2 [(0, .ref a0)] := hl
  refine s_gen hP hS (fun H locs hP hS => ?_)
  obtain ⟨z0, q0, oY0, bz0⟩ := y_opY hI ha0
  have hz0 : ∀ k, k ∈ ([1, 3, 7, 8, 15, 16, 19, 25, 26, 27, 31, 32] : List Nat) → z0 k = z0 k := fun _ _ => rfl
  obtain ⟨v1, ev1⟩ : ∃ y : Int32, y = z0 5 := ⟨_, rfl⟩
  have eF_5 := ev1
  have e0_v1 := ev1
  refine th_join (fun g H locs => ∃ (G : Nat → va_E) (ls : Array Slot) (w2 : Int32), g = F0 m 129 ls [] ∧ lv_has ls 2 [(0, .ref a0), (1, .int w2)] ∧ va_P (dC, dI) vwCl (va_pl L G) H ∧ va_S (fun q => q ∈ L) s.heap H locs ∧ y_I K cs A G ∧ (∀ b, K b ∉ [9] → G b = F b) ∧ (∀ k, k ∈ ([1, 3, 7, 8, 15, 16, 19, 25, 26, 27, 31, 32] : List Nat) → y_fi G a0 k = z0 k) ∧ True ∧ (v1.toInt = 0)) (fun K129 => ?_) ?_
  refine th_join (fun g H locs => ∃ (G : Nat → va_E) (ls : Array Slot), g = F0 m 24 ls [] ∧ lv_has ls 2 [(0, .ref a0)] ∧ va_P (dC, dI) vwCl (va_pl L G) H ∧ va_S (fun q => q ∈ L) s.heap H locs ∧ y_I K cs A G ∧ (∀ b, K b ∉ [9] → G b = F b) ∧ (∀ k, k ∈ ([1, 3, 7, 8, 15, 16, 19, 25, 26, 27, 31, 32] : List Nat) → y_fi G a0 k = z0 k) ∧ (v1.toInt = 0)) (fun K24 => ?_) ?_
  · refine lv_aload_n hx hb dX7_name_0 rfl (lv_at hl 0 rfl) ?_
    refine th_get (D := (dC, dI)) (ci := 7) (v := .int (z0 5)) (C := RX7) (T := TX7) (N := 34) hx hb hts inX7 hown hK hP (hLK _ ha0 (by decide)) oY0 rfl 5 (by decide) (hts _ T_274) (fun _ h9 => h9) rfl dX7_name_1 ?_
    refine ax_eqi (y := v1) ev1.symm ?_
    refine lv_if_eq (tgt := 9) hx hb dX7_name_4 (by decide) (fun c3 => ?_) (fun c3 => ?_)
    · have c3 := (ax_eq (n := 0) (by decide)).mp c3
      refine lv_aload_n hx hb dX7_name_9 rfl (lv_at hl 0 rfl) ?_
      refine va_calli (va_runV (As := []) (rest := []) ⟨hx, hb, hml, hown, hts⟩ (y_X7_isWordHere l dC dI H.size hLK A hA F a0 ha0 hI) (cwV 0 hts (ax_gV T_280 T_281 T_282 T_265 T_24) rfl rfl rfl (by decide +kernel) ⟨Nat.le_of_ble_eq_true rfl, Nat.le_of_ble_eq_true rfl⟩) ⟨fun a U g mk q => ⟨q.1, s_pc rfl rfl q.2⟩, s_recv hK hP (hLK _ ha0 (by decide)) (ci := 7) rfl oY0, fun U hU hW => ⟨rfl, s_pw hU hW hP hK hD hN⟩⟩ rfl rfl hl.1 rfl (lv_room (Nat.le_of_ble_eq_true rfl)) dX7_name_10 ⟨Nat.zero_le _, Nat.zero_le _⟩) hS (fun q _ h => h) (fun q h => h) (fun r5 F6 t H1 locs ht hvm hw hB hz1 hk1 hS => ?_)
      obtain ⟨hP, hK1⟩ := hB
      rw [ht] at hP
      generalize H1 = H at hP hS ⊢
      obtain ⟨h7, h9, hI, hfr1, hzf, h8⟩ := hw
      obtain ⟨z10, q11, oY12, bz13⟩ := y_opY hI ha0
      have hzf : ∀ k, k ∈ ([1, 3, 4, 5, 6, 7, 8, 11, 15, 16, 19, 25, 26, 27, 31, 32] : List Nat) → z10 k = z0 k := fun k hk => by have q9 := hzf k hk; rw [y_fiZ oY12 (s_sub (by decide) hk), y_fiZ oY0 (s_sub (by decide) hk)] at q9; exact q9
      have hz0 : ∀ k, k ∈ ([1, 3, 7, 8, 15, 16, 19, 25, 26, 27, 31, 32] : List Nat) → z10 k = z0 k := fun k hk => (hzf k (s_sub (by decide) hk)).trans (hz0 k hk)
      have ev1 : v1 = z10 5 := ev1.trans (hzf 5 (by decide)).symm
      have hfr : ∀ b, K b ∉ [9] → F6 b = F b := fun b hb9 => (hfr1 b (fun q => hb9 (s_sub (by decide) q))).trans (hfr b hb9)
      obtain ⟨v14, ev14⟩ : ∃ y : Int32, y = z10 2 := ⟨_, rfl⟩
      have qv14 : 0 ≤ v14.toInt ∧ v14.toInt ≤ 1600 := by rw [ev14]; exact y_bY2 bz13
      obtain ⟨v15, ev15⟩ : ∃ y : Int32, y = z10 3 := ⟨_, rfl⟩
      have qv15 : 0 ≤ v15.toInt ∧ v15.toInt ≤ 1600 := by rw [ev15]; exact y_bY3 bz13
      have h8 : (r5.toInt = 0 ∨ v14.toInt < v15.toInt) := by have q9 := h8; rw [y_fiZ oY12 (k := 2) (by decide), ← ev14, y_fiZ oY12 (k := 3) (by decide), ← ev15] at q9; exact q9
      refine lv_if_eq (tgt := 24) hx hb dX7_name_13 (by decide) (fun c16 => ?_) (fun c16 => ?_)
      · have c16 := (ax_eq (n := 0) (by decide)).mp c16
        exact K24 _ _ _ ⟨F6, _, rfl, lv_sub hl [0] rfl, hP, hS, hI, hfr, (fun k hk => (y_fiZ oY12 (s_sub (by decide) hk)).trans (hz0 k hk)), (by omega)⟩
      · have c16 := mt (ax_eq (n := 0) (by decide)).mpr c16
        refine lv_aload_n hx hb dX7_name_16 rfl (lv_at hl 0 rfl) ?_
        refine va_calli (va_runV (As := []) (rest := []) ⟨hx, hb, hml, hown, hts⟩ (y_X7_ownHere l dC dI H.size hLK A hA F6 a0 ha0 hI) (cwV 0 hts (ax_gV T_283 T_284 T_285 T_265 T_25) rfl rfl rfl (by decide +kernel) ⟨Nat.le_of_ble_eq_true rfl, Nat.le_of_ble_eq_true rfl⟩) ⟨fun a U g mk q => ⟨q.1, s_pc rfl rfl q.2⟩, s_recv hK hP (hLK _ ha0 (by decide)) (ci := 7) rfl oY12, fun U hU hW => ⟨rfl, s_pw hU hW hP hK hD hN⟩⟩ rfl rfl hl.1 rfl (lv_room (Nat.le_of_ble_eq_true rfl)) dX7_name_17 ⟨Nat.zero_le _, Nat.zero_le _⟩) hS (fun q _ h => h) (fun q h => h) (fun r18 F19 t H1 locs ht hvm hw hB hz1 hk1 hS => ?_)
        obtain ⟨hP, hK1⟩ := hB
        rw [ht] at hP
        generalize H1 = H at hP hS ⊢
        obtain ⟨h20, h22, hI, hfr1, hzf, h21⟩ := hw
        obtain ⟨z23, q24, oY25, bz26⟩ := y_opY hI ha0
        have hzf : ∀ k, k ∈ ([1, 3, 4, 5, 6, 7, 8, 11, 15, 16, 19, 25, 26, 27, 31, 32] : List Nat) → z23 k = z10 k := fun k hk => by have q9 := hzf k hk; rw [y_fiZ oY25 (s_sub (by decide) hk), y_fiZ oY12 (s_sub (by decide) hk)] at q9; exact q9
        have hz0 : ∀ k, k ∈ ([1, 3, 7, 8, 15, 16, 19, 25, 26, 27, 31, 32] : List Nat) → z23 k = z0 k := fun k hk => (hzf k (s_sub (by decide) hk)).trans (hz0 k hk)
        have ev1 : v1 = z23 5 := ev1.trans (hzf 5 (by decide)).symm
        have ev15 : v15 = z23 3 := ev15.trans (hzf 3 (by decide)).symm
        have hfr : ∀ b, K b ∉ [9] → F19 b = F b := fun b hb9 => (hfr1 b (fun q => hb9 (s_sub (by decide) q))).trans (hfr b hb9)
        refine lv_iconst (v := (-1)) hx hb dX7_name_20 (by decide) ?_
        refine lv_icmp_eq (tgt := 35) hx hb dX7_name_21 (by decide) (fun c27 => ?_) (fun c27 => ?_)
        · have c27 := (ax_eq (n := (-1)) (by decide)).mp c27
          refine lv_aload_n hx hb dX7_name_35 rfl (lv_at hl 0 rfl) ?_
          refine lv_aload_n hx hb dX7_name_36 rfl (lv_at hl 0 rfl) ?_
          refine th_get (D := (dC, dI)) (ci := 7) (v := .int (z23 2)) (C := RX7) (T := TX7) (N := 34) hx hb hts inX7 hown hK hP (hLK _ ha0 (by decide)) oY25 rfl 2 (by decide) (hts _ T_272) (fun _ h9 => h9) rfl dX7_name_37 ?_
          refine lv_topi (fun v28 ev28 => ?_)
          have qv28 : 0 ≤ v28.toInt ∧ v28.toInt ≤ 1600 := by rw [ev28]; exact y_bY2 bz26
          refine th_put (D := (dC, dI)) (ci := 7) (v := .int v28) (ty := .int) (C := RX7) (T := TX7) (N := 34) hx hb hts inX7 tyX7 tyX7_ok nmX7 hown hK hP hD hS (hLK _ ha0 (by decide)) oY25 rfl 11 (by decide) (hts _ T_1114) (fun _ h9 => h9) rfl (by decide +kernel) rfl rfl (Nat.le_of_ble_eq_true rfl) dX7_name_40 (fun H locs hP hS => ?_)
          rw [y_fs11] at hP
          obtain ⟨z29, hz30⟩ : ∃ g : Nat → Int32, g = upd z23 11 v28 := ⟨_, rfl⟩
          rw [← hz30] at hP
          have bz31 : y_bY z29 := by rw [hz30]; exact y_bp11 bz26
          have hP : va_P (dC, dI) vwCl (va_pl L (va_up F19 a0 (.inr (7, y_fl A z29 q24)))) H := hP
          obtain ⟨F32, hF33⟩ : ∃ G : Nat → va_E, G = va_up F19 a0 (.inr (7, y_fl A z29 q24)) := ⟨_, rfl⟩
          rw [← hF33] at hP
          have hI : y_I K cs A F32 := by rw [hF33]; exact y_clY hA hI ha0 bz31
          have hfr : ∀ b, K b ∉ [9] → F32 b = F b := by rw [hF33]; exact s_fr hfr ha0 (by decide)
          have oY34 : F32 a0 = .inr (7, y_fl A z29 q24) := by rw [hF33]; exact th_up
          have hz0 : ∀ k, k ∈ ([1, 3, 7, 8, 15, 16, 19, 25, 26, 27, 31, 32] : List Nat) → z29 k = z0 k := fun k hk => by rw [hz30]; exact (y_un (fun q => absurd hk (by rw [q]; decide))).trans (hz0 k hk)
          have ev1 : v1 = z29 5 := by rw [hz30]; exact ev1.trans (y_un (by decide)).symm
          have ev15 : v15 = z29 3 := by rw [hz30]; exact ev15.trans (y_un (by decide)).symm
          have ev28 : v28 = z29 2 := by rw [hz30]; exact ev28.trans (y_un (by decide)).symm
          obtain ⟨v35, ev35⟩ : ∃ y : Int32, y = z29 11 := ⟨_, rfl⟩
          have qv35 : v35.toInt = v28.toInt := by rw [ev35, hz30, y_ue]
          refine lv_iconst (v := 0) hx hb dX7_name_43 (by decide) ?_
          refine lv_istore_n (lv' := [(1, .int 0), (0, .ref a0)]) hx hb dX7_name_44 rfl hl (by decide) rfl (fun ls hl => ?_)
          have h37 : (0 : Int32).toInt = 0 := by decide
          refine th_loop (fun n g H locs => ∃ (G : Nat → va_E) (ls : Array Slot) (w36 : Int32), g = F0 m 45 ls [] ∧ lv_has ls 2 [(0, .ref a0), (1, .int w36)] ∧ va_P (dC, dI) vwCl (va_pl L G) H ∧ va_S (fun q => q ∈ L) s.heap H locs ∧ y_I K cs A G ∧ (∀ b, K b ∉ [9] → G b = F b) ∧ (∀ k, k ∈ ([1, 3, 7, 8, 15, 16, 19, 25, 26, 27, 31, 32] : List Nat) → y_fi G a0 k = z0 k) ∧ True ∧ (v1.toInt = 0) ∧ n = (1601 - (y_fi G a0 2).toInt).toNat) _ ⟨F32, _, 0, rfl, lv_sub hl [1, 0] rfl, hP, hS, hI, hfr, (fun k hk => (y_fiZ oY34 (s_sub (by decide) hk)).trans (hz0 k hk)), trivial, (by omega), rfl⟩ (fun n ih45 g H locs hq => ?_)
          obtain ⟨F40, ls, w36, rfl, hl, hP, hS, hI, hfr, hz0, h38, h39, hn⟩ := hq
          obtain ⟨z41, q42, oY43, bz44⟩ := y_opY hI ha0
          have hz0 : ∀ k, k ∈ ([1, 3, 7, 8, 15, 16, 19, 25, 26, 27, 31, 32] : List Nat) → z41 k = z0 k := fun k hk => (y_fiZ oY43 (s_sub (by decide) hk)).symm.trans (hz0 k hk)
          obtain ⟨v45, ev45⟩ : ∃ y : Int32, y = z41 2 := ⟨_, rfl⟩
          have qv45 : 0 ≤ v45.toInt ∧ v45.toInt ≤ 1600 := by rw [ev45]; exact y_bY2 bz44
          have hn : n = (1601 - v45.toInt).toNat := by have q9 := hn; rw [y_fiZ oY43 (k := 2) (by decide), ← ev45] at q9; exact q9
          have hn_45 := hn
          have h46 : (z41 2).toInt = v45.toInt := by rw [ev45]
          refine lv_aload_n hx hb dX7_name_45 rfl (lv_at hl 0 rfl) ?_
          refine th_get (D := (dC, dI)) (ci := 7) (v := .int (z41 2)) (C := RX7) (T := TX7) (N := 34) hx hb hts inX7 hown hK hP (hLK _ ha0 (by decide)) oY43 rfl 2 (by decide) (hts _ T_272) (fun _ h9 => h9) rfl dX7_name_46 ?_
          refine ax_eqi (y := v45) ev45.symm ?_
          refine lv_aload_n hx hb dX7_name_49 rfl (lv_at hl 0 rfl) ?_
          refine th_get (D := (dC, dI)) (ci := 7) (v := .int (z41 3)) (C := RX7) (T := TX7) (N := 34) hx hb hts inX7 hown hK hP (hLK _ ha0 (by decide)) oY43 rfl 3 (by decide) (hts _ T_273) (fun _ h9 => h9) rfl dX7_name_50 ?_
          refine lv_topi (fun v47 ev47 => ?_)
          have qv47 : 0 ≤ v47.toInt ∧ v47.toInt ≤ 1600 := by rw [ev47]; exact y_bY3 bz44
          refine lv_icmp_ge (tgt := 129) hx hb dX7_name_53 (by decide) (fun c48 => ?_) (fun c48 => ?_)
          · have c48 := Int32.le_iff_toInt_le.mp c48
            exact K129 _ _ _ ⟨F40, _, w36, rfl, lv_sub hl [0, 1] rfl, hP, hS, hI, hfr, (fun k hk => (y_fiZ oY43 (s_sub (by decide) hk)).trans (hz0 k hk)), trivial, (by omega)⟩
          · have c48 := mt Int32.le_iff_toInt_le.mpr c48
            refine lv_aload_n hx hb dX7_name_56 rfl (lv_at hl 0 rfl) ?_
            refine th_get (D := (dC, dI)) (ci := 7) (v := .ref (A 0)) (C := RX7) (T := TX7) (N := 34) hx hb hts inX7 hown hK hP (hLK _ ha0 (by decide)) oY43 rfl 0 (by decide) (hts _ T_240) (fun _ h9 => h9) rfl dX7_name_57 ?_
            refine lv_aload_n hx hb dX7_name_60 rfl (lv_at hl 0 rfl) ?_
            refine th_get (D := (dC, dI)) (ci := 7) (v := .int (z41 2)) (C := RX7) (T := TX7) (N := 34) hx hb hts inX7 hown hK hP (hLK _ ha0 (by decide)) oY43 rfl 2 (by decide) (hts _ T_272) (fun _ h9 => h9) rfl dX7_name_61 ?_
            refine ax_eqi (y := v45) ev45.symm ?_
            obtain ⟨f49, o50, b51⟩ := y_op0 hI
            refine th_iald hx hb hK hP (hLK _ (y_k0 hA) (by decide)) 0 o50 rfl (th_in ⟨by omega, by omega⟩) dX7_name_64 ?_
            refine lv_topi (fun v52 ev52 => ?_)
            refine va_calli (va_runS (As := [.int v52]) (rest := []) ⟨hx, hb, hml, hown, hts⟩ (y_X7_isLetter l dC dI H.size F40 v52) (cwS 1 hts (ax_gS T_278 T_279 T_265 T_23) rfl rfl rfl (by decide +kernel) ⟨Nat.le_of_ble_eq_true rfl, Nat.le_of_ble_eq_true rfl⟩) ⟨fun a U g mk q => ⟨q.1, s_pc rfl rfl q.2⟩, fun U hU hW => ⟨rfl, s_pw hU hW hP hK hD hN⟩⟩ rfl rfl hl.1 rfl (lv_room (Nat.le_of_ble_eq_true rfl)) dX7_name_65 ⟨Nat.zero_le _, Nat.zero_le _⟩) hS (fun q _ h => h) (fun q h => h) (fun r54 F55 t H1 locs ht hvm hw hB hz1 hk1 hS => ?_)
            obtain ⟨hP, hK1⟩ := hB
            rw [ht] at hP
            generalize H1 = H at hP hS ⊢
            obtain ⟨h56, h58, hG9, h57⟩ := hw
            rw [hG9] at hP
            refine lv_if_eq (tgt := 129) hx hb dX7_name_68 (by decide) (fun c59 => ?_) (fun c59 => ?_)
            · have c59 := (ax_eq (n := 0) (by decide)).mp c59
              exact K129 _ _ _ ⟨F40, _, w36, rfl, lv_sub hl [0, 1] rfl, hP, hS, hI, hfr, (fun k hk => (y_fiZ oY43 (s_sub (by decide) hk)).trans (hz0 k hk)), trivial, (by omega)⟩
            · have c59 := mt (ax_eq (n := 0) (by decide)).mpr c59
              have h60 := h58 (fun q => c59 (by rw [q]; decide))
              refine lv_aload_n hx hb dX7_name_71 rfl (lv_at hl 0 rfl) ?_
              refine th_get (D := (dC, dI)) (ci := 7) (v := .int (z41 2)) (C := RX7) (T := TX7) (N := 34) hx hb hts inX7 hown hK hP (hLK _ ha0 (by decide)) oY43 rfl 2 (by decide) (hts _ T_272) (fun _ h9 => h9) rfl dX7_name_72 ?_
              refine ax_eqi (y := v45) ev45.symm ?_
              refine lv_aload_n hx hb dX7_name_75 rfl (lv_at hl 0 rfl) ?_
              refine th_get (D := (dC, dI)) (ci := 7) (v := .int (z41 11)) (C := RX7) (T := TX7) (N := 34) hx hb hts inX7 hown hK hP (hLK _ ha0 (by decide)) oY43 rfl 11 (by decide) (hts _ T_1114) (fun _ h9 => h9) rfl dX7_name_76 ?_
              refine lv_topi (fun v61 ev61 => ?_)
              refine lv_isub hx hb dX7_name_79 ?_
              refine lv_topi (fun v62 ev62 => ?_)
              refine lv_bipush (v := 6) hx hb dX7_name_80 (by decide) ?_
              refine lv_icmp_ne (tgt := 96) hx hb dX7_name_82 (by decide) (fun c63 => ?_) (fun c63 => ?_)
              · have c63 := mt (ax_eq (n := 6) (by decide)).mpr c63
                refine lv_bipush (v := 27) hx hb dX7_name_96 (by decide) ?_
                refine lv_iload_n hx hb dX7_name_98 rfl (lv_at hl 1 rfl) ?_
                refine lv_imul hx hb dX7_name_99 ?_
                refine lv_topi (fun v64 ev64 => ?_)
                refine lv_aload_n hx hb dX7_name_100 rfl (lv_at hl 0 rfl) ?_
                refine th_get (D := (dC, dI)) (ci := 7) (v := .ref (A 0)) (C := RX7) (T := TX7) (N := 34) hx hb hts inX7 hown hK hP (hLK _ ha0 (by decide)) oY43 rfl 0 (by decide) (hts _ T_240) (fun _ h9 => h9) rfl dX7_name_101 ?_
                refine lv_aload_n hx hb dX7_name_104 rfl (lv_at hl 0 rfl) ?_
                refine th_get (D := (dC, dI)) (ci := 7) (v := .int (z41 2)) (C := RX7) (T := TX7) (N := 34) hx hb hts inX7 hown hK hP (hLK _ ha0 (by decide)) oY43 rfl 2 (by decide) (hts _ T_272) (fun _ h9 => h9) rfl dX7_name_105 ?_
                refine ax_eqi (y := v45) ev45.symm ?_
                refine th_iald hx hb hK hP (hLK _ (y_k0 hA) (by decide)) 0 o50 rfl (th_in ⟨by omega, by omega⟩) dX7_name_108 ?_
                refine lv_topi (fun v65 ev65 => ?_)
                refine lv_iadd hx hb dX7_name_109 ?_
                refine lv_topi (fun v66 ev66 => ?_)
                refine lv_bipush (v := 97) hx hb dX7_name_110 (by decide) ?_
                refine lv_isub hx hb dX7_name_112 ?_
                refine lv_topi (fun v67 ev67 => ?_)
                refine lv_iconst (v := 1) hx hb dX7_name_113 (by decide) ?_
                refine lv_iadd hx hb dX7_name_114 ?_
                refine lv_topi (fun v68 ev68 => ?_)
                refine lv_istore_n (lv' := [(1, .int v68), (0, .ref a0)]) hx hb dX7_name_115 rfl hl (by decide) rfl (fun ls hl => ?_)
                refine lv_aload_n hx hb dX7_name_116 rfl (lv_at hl 1 rfl) ?_
                refine lv_dup hx hb dX7_name_117 rfl ?_
                refine th_get (D := (dC, dI)) (ci := 7) (v := .int (z41 2)) (C := RX7) (T := TX7) (N := 34) hx hb hts inX7 hown hK hP (hLK _ ha0 (by decide)) oY43 rfl 2 (by decide) (hts _ T_272) (fun _ h9 => h9) rfl dX7_name_118 ?_
                refine ax_eqi (y := v45) ev45.symm ?_
                refine lv_iconst (v := 1) hx hb dX7_name_121 (by decide) ?_
                refine lv_iadd hx hb dX7_name_122 ?_
                refine lv_topi (fun v69 ev69 => ?_)
                have qv69 : v69.toInt = v45.toInt + 1 := by rw [ev69]; exact th_add rfl (by decide) ⟨by omega, by omega⟩
                refine th_put (D := (dC, dI)) (ci := 7) (v := .int v69) (ty := .int) (C := RX7) (T := TX7) (N := 34) hx hb hts inX7 tyX7 tyX7_ok nmX7 hown hK hP hD hS (hLK _ ha0 (by decide)) oY43 rfl 2 (by decide) (hts _ T_272) (fun _ h9 => h9) rfl (by decide +kernel) rfl rfl (Nat.le_of_ble_eq_true rfl) dX7_name_123 (fun H locs hP hS => ?_)
                rw [y_fs2] at hP
                obtain ⟨z70, hz71⟩ : ∃ g : Nat → Int32, g = upd z41 2 v69 := ⟨_, rfl⟩
                rw [← hz71] at hP
                have bz72 : y_bY z70 := by rw [hz71]; exact y_bp2 bz44 ⟨by omega, by omega⟩
                have hP : va_P (dC, dI) vwCl (va_pl L (va_up F40 a0 (.inr (7, y_fl A z70 q42)))) H := hP
                obtain ⟨F73, hF74⟩ : ∃ G : Nat → va_E, G = va_up F40 a0 (.inr (7, y_fl A z70 q42)) := ⟨_, rfl⟩
                rw [← hF74] at hP
                have hI : y_I K cs A F73 := by rw [hF74]; exact y_clY hA hI ha0 bz72
                have hfr : ∀ b, K b ∉ [9] → F73 b = F b := by rw [hF74]; exact s_fr hfr ha0 (by decide)
                have o75 : F73 (A 0) = .inl (cs 0, 1600, .inl f49) := by rw [hF74]; exact th_ne (th_kd (y_k0 hA) ha0 (by decide)) o50
                have oY76 : F73 a0 = .inr (7, y_fl A z70 q42) := by rw [hF74]; exact th_up
                have hz0 : ∀ k, k ∈ ([1, 3, 7, 8, 15, 16, 19, 25, 26, 27, 31, 32] : List Nat) → z70 k = z0 k := fun k hk => by rw [hz71]; exact (y_un (fun q => absurd hk (by rw [q]; decide))).trans (hz0 k hk)
                have ev47 : v47 = z70 3 := by rw [hz71]; exact ev47.trans (y_un (by decide)).symm
                have ev61 : v61 = z70 11 := by rw [hz71]; exact ev61.trans (y_un (by decide)).symm
                obtain ⟨v77, ev77⟩ : ∃ y : Int32, y = z70 2 := ⟨_, rfl⟩
                have qv77 : v77.toInt = v69.toInt := by rw [ev77, hz71, y_ue]
                refine lv_goto (tgt := 45) hx hb dX7_name_126 (by decide) ?_
                have h78 : (y_fi F73 a0 2).toInt = v77.toInt := by rw [y_fiZ oY76 (k := 2) (by decide), ← ev77]
                exact ih45 _ _ _ _ (by omega) ⟨F73, _, v68, rfl, lv_sub hl [1, 0] rfl, hP, hS, hI, hfr, (fun k hk => (y_fiZ oY76 (s_sub (by decide) hk)).trans (hz0 k hk)), trivial, (by omega), rfl⟩
              · have c63 := (ax_eq (n := 6) (by decide)).mp c63
                refine lv_aload_n hx hb dX7_name_85 rfl (lv_at hl 0 rfl) ?_
                refine lv_iconst (v := 1) hx hb dX7_name_86 (by decide) ?_
                refine lv_aload_n hx hb dX7_name_87 rfl (lv_at hl 0 rfl) ?_
                refine th_get (D := (dC, dI)) (ci := 7) (v := .int (z41 2)) (C := RX7) (T := TX7) (N := 34) hx hb hts inX7 hown hK hP (hLK _ ha0 (by decide)) oY43 rfl 2 (by decide) (hts _ T_272) (fun _ h9 => h9) rfl dX7_name_88 ?_
                refine ax_eqi (y := v45) ev45.symm ?_
                refine va_callv (va_runV (As := [.int 1, .int v45]) (rest := []) ⟨hx, hb, hml, hown, hts⟩ (y_X7_fail l dC dI H.size hLK A hA F40 a0 1 v45 ha0 (by decide) hI) (cwV 2 hts (ax_gV T_290 T_291 T_292 T_265 T_27) rfl rfl rfl (by decide +kernel) ⟨Nat.le_of_ble_eq_true rfl, Nat.le_of_ble_eq_true rfl⟩) ⟨fun a U g mk q => ⟨q.1, s_pc rfl rfl q.2⟩, s_recv hK hP (hLK _ ha0 (by decide)) (ci := 7) rfl oY43, fun U hU hW => ⟨rfl, s_pw hU hW hP hK hD hN⟩⟩ rfl rfl hl.1 rfl (lv_room (Nat.le_of_ble_eq_true rfl)) dX7_name_91 ⟨Nat.zero_le _, Nat.zero_le _⟩) hS (fun q _ h => h) (fun q h => h) (fun F80 t H1 locs ht hvm hw hB hz1 hk1 hS => ?_)
                obtain ⟨hP, hK1⟩ := hB
                rw [ht] at hP
                generalize H1 = H at hP hS ⊢
                obtain ⟨h81, h83, hI, hfr1, hzf, h82⟩ := hw
                have o84 : F80 (A 0) = .inl (cs 0, 1600, .inl f49) := (hfr1 _ (by rw [(y_k0 hA)]; decide)).trans o50
                obtain ⟨z85, q86, oY87, bz88⟩ := y_opY hI ha0
                have hzf : ∀ k, k ∈ ([1, 2, 3, 4, 7, 8, 11, 15, 16, 19, 25, 26, 27, 31, 32] : List Nat) → z85 k = z41 k := fun k hk => by have q9 := hzf k hk; rw [y_fiZ oY87 (s_sub (by decide) hk), y_fiZ oY43 (s_sub (by decide) hk)] at q9; exact q9
                have hz0 : ∀ k, k ∈ ([1, 3, 7, 8, 15, 16, 19, 25, 26, 27, 31, 32] : List Nat) → z85 k = z0 k := fun k hk => (hzf k (s_sub (by decide) hk)).trans (hz0 k hk)
                have ev45 : v45 = z85 2 := ev45.trans (hzf 2 (by decide)).symm
                have ev47 : v47 = z85 3 := ev47.trans (hzf 3 (by decide)).symm
                have ev61 : v61 = z85 11 := ev61.trans (hzf 11 (by decide)).symm
                have hfr : ∀ b, K b ∉ [9] → F80 b = F b := fun b hb9 => (hfr1 b (fun q => hb9 (s_sub (by decide) q))).trans (hfr b hb9)
                obtain ⟨v89, ev89⟩ : ∃ y : Int32, y = z85 5 := ⟨_, rfl⟩
                have h82 : (¬ v89.toInt = 0) := by have q9 := h82; rw [y_fiZ oY87 (k := 5) (by decide), ← ev89] at q9; exact q9
                refine lv_iconst (v := 0) hx hb dX7_name_94 (by decide) ?_
                have h90 : (0 : Int32).toInt = 0 := by decide
                exact W.iret (v := 0) hx hb hr (fun t ht hW => ⟨⟨0, F80, rfl, ⟨trivial, trivial, hI, hfr, fun k hk => (y_fiZ oY87 (s_sub (by decide) hk)).trans ((hz0 k hk).trans (y_fiZ oY0 (s_sub (by decide) hk)).symm), (by rw [y_fiZ oY0 (k := 5) (by decide), ← eF_5, y_fiZ oY87 (k := 5) (by decide), ← ev89]; omega)⟩, by rw [ht]; exact hP, va_K.moved hW.alike hK⟩, hS.F ht⟩) hS.2.2 dX7_name_95
        · have c27 := mt (ax_eq (n := (-1)) (by decide)).mpr c27
          exact K24 _ _ _ ⟨F19, _, rfl, lv_sub hl [0] rfl, hP, hS, hI, hfr, (fun k hk => (y_fiZ oY25 (s_sub (by decide) hk)).trans (hz0 k hk)), (by omega)⟩
    · have c3 := mt (ax_eq (n := 0) (by decide)).mpr c3
      refine lv_iconst (v := 0) hx hb dX7_name_7 (by decide) ?_
      have h91 : (0 : Int32).toInt = 0 := by decide
      exact W.iret (v := 0) hx hb hr (fun t ht hW => ⟨⟨0, F, rfl, ⟨trivial, trivial, hI, hfr, fun k hk => (y_fiZ oY0 (s_sub (by decide) hk)).trans ((hz0 k hk).trans (y_fiZ oY0 (s_sub (by decide) hk)).symm), (by rw [y_fiZ oY0 (k := 5) (by decide), ← eF_5]; omega)⟩, by rw [ht]; exact hP, va_K.moved hW.alike hK⟩, hS.F ht⟩) hS.2.2 dX7_name_8
  · intro g H locs hq
    obtain ⟨F93, ls, rfl, hl, hP, hS, hI, hfr, hz0, h92⟩ := hq
    obtain ⟨z94, q95, oY96, bz97⟩ := y_opY hI ha0
    have hz0 : ∀ k, k ∈ ([1, 3, 7, 8, 15, 16, 19, 25, 26, 27, 31, 32] : List Nat) → z94 k = z0 k := fun k hk => (y_fiZ oY96 (s_sub (by decide) hk)).symm.trans (hz0 k hk)
    refine lv_aload_n hx hb dX7_name_24 rfl (lv_at hl 0 rfl) ?_
    refine lv_iconst (v := 1) hx hb dX7_name_25 (by decide) ?_
    refine lv_aload_n hx hb dX7_name_26 rfl (lv_at hl 0 rfl) ?_
    refine th_get (D := (dC, dI)) (ci := 7) (v := .int (z94 2)) (C := RX7) (T := TX7) (N := 34) hx hb hts inX7 hown hK hP (hLK _ ha0 (by decide)) oY96 rfl 2 (by decide) (hts _ T_272) (fun _ h9 => h9) rfl dX7_name_27 ?_
    refine lv_topi (fun v98 ev98 => ?_)
    have qv98 : 0 ≤ v98.toInt ∧ v98.toInt ≤ 1600 := by rw [ev98]; exact y_bY2 bz97
    refine va_callv (va_runV (As := [.int 1, .int v98]) (rest := []) ⟨hx, hb, hml, hown, hts⟩ (y_X7_fail l dC dI H.size hLK A hA F93 a0 1 v98 ha0 (by decide) hI) (cwV 2 hts (ax_gV T_290 T_291 T_292 T_265 T_27) rfl rfl rfl (by decide +kernel) ⟨Nat.le_of_ble_eq_true rfl, Nat.le_of_ble_eq_true rfl⟩) ⟨fun a U g mk q => ⟨q.1, s_pc rfl rfl q.2⟩, s_recv hK hP (hLK _ ha0 (by decide)) (ci := 7) rfl oY96, fun U hU hW => ⟨rfl, s_pw hU hW hP hK hD hN⟩⟩ rfl rfl hl.1 rfl (lv_room (Nat.le_of_ble_eq_true rfl)) dX7_name_30 ⟨Nat.zero_le _, Nat.zero_le _⟩) hS (fun q _ h => h) (fun q h => h) (fun F100 t H1 locs ht hvm hw hB hz1 hk1 hS => ?_)
    obtain ⟨hP, hK1⟩ := hB
    rw [ht] at hP
    generalize H1 = H at hP hS ⊢
    obtain ⟨h101, h103, hI, hfr1, hzf, h102⟩ := hw
    obtain ⟨z104, q105, oY106, bz107⟩ := y_opY hI ha0
    have hzf : ∀ k, k ∈ ([1, 2, 3, 4, 7, 8, 11, 15, 16, 19, 25, 26, 27, 31, 32] : List Nat) → z104 k = z94 k := fun k hk => by have q9 := hzf k hk; rw [y_fiZ oY106 (s_sub (by decide) hk), y_fiZ oY96 (s_sub (by decide) hk)] at q9; exact q9
    have hz0 : ∀ k, k ∈ ([1, 3, 7, 8, 15, 16, 19, 25, 26, 27, 31, 32] : List Nat) → z104 k = z0 k := fun k hk => (hzf k (s_sub (by decide) hk)).trans (hz0 k hk)
    have ev98 : v98 = z104 2 := ev98.trans (hzf 2 (by decide)).symm
    have hfr : ∀ b, K b ∉ [9] → F100 b = F b := fun b hb9 => (hfr1 b (fun q => hb9 (s_sub (by decide) q))).trans (hfr b hb9)
    obtain ⟨v108, ev108⟩ : ∃ y : Int32, y = z104 5 := ⟨_, rfl⟩
    have h102 : (¬ v108.toInt = 0) := by have q9 := h102; rw [y_fiZ oY106 (k := 5) (by decide), ← ev108] at q9; exact q9
    refine lv_iconst (v := 0) hx hb dX7_name_33 (by decide) ?_
    have h109 : (0 : Int32).toInt = 0 := by decide
    exact W.iret (v := 0) hx hb hr (fun t ht hW => ⟨⟨0, F100, rfl, ⟨trivial, trivial, hI, hfr, fun k hk => (y_fiZ oY106 (s_sub (by decide) hk)).trans ((hz0 k hk).trans (y_fiZ oY0 (s_sub (by decide) hk)).symm), (by rw [y_fiZ oY0 (k := 5) (by decide), ← eF_5, y_fiZ oY106 (k := 5) (by decide), ← ev108]; omega)⟩, by rw [ht]; exact hP, va_K.moved hW.alike hK⟩, hS.F ht⟩) hS.2.2 dX7_name_34
  · intro g H locs hq
    obtain ⟨F112, ls, w2, rfl, hl, hP, hS, hI, hfr, hz0, h110, h111⟩ := hq
    obtain ⟨z113, q114, oY115, bz116⟩ := y_opY hI ha0
    have hz0 : ∀ k, k ∈ ([1, 3, 7, 8, 15, 16, 19, 25, 26, 27, 31, 32] : List Nat) → z113 k = z0 k := fun k hk => (y_fiZ oY115 (s_sub (by decide) hk)).symm.trans (hz0 k hk)
    refine lv_aload_n hx hb dX7_name_129 rfl (lv_at hl 0 rfl) ?_
    refine lv_aload_n hx hb dX7_name_130 rfl (lv_at hl 0 rfl) ?_
    refine th_get (D := (dC, dI)) (ci := 7) (v := .int (z113 2)) (C := RX7) (T := TX7) (N := 34) hx hb hts inX7 hown hK hP (hLK _ ha0 (by decide)) oY115 rfl 2 (by decide) (hts _ T_272) (fun _ h9 => h9) rfl dX7_name_131 ?_
    refine lv_topi (fun v117 ev117 => ?_)
    have qv117 : 0 ≤ v117.toInt ∧ v117.toInt ≤ 1600 := by rw [ev117]; exact y_bY2 bz116
    refine th_put (D := (dC, dI)) (ci := 7) (v := .int v117) (ty := .int) (C := RX7) (T := TX7) (N := 34) hx hb hts inX7 tyX7 tyX7_ok nmX7 hown hK hP hD hS (hLK _ ha0 (by decide)) oY115 rfl 4 (by decide) (hts _ T_296) (fun _ h9 => h9) rfl (by decide +kernel) rfl rfl (Nat.le_of_ble_eq_true rfl) dX7_name_134 (fun H locs hP hS => ?_)
    rw [y_fs4] at hP
    obtain ⟨z118, hz119⟩ : ∃ g : Nat → Int32, g = upd z113 4 v117 := ⟨_, rfl⟩
    rw [← hz119] at hP
    have bz120 : y_bY z118 := by rw [hz119]; exact y_bp4 bz116
    have hP : va_P (dC, dI) vwCl (va_pl L (va_up F112 a0 (.inr (7, y_fl A z118 q114)))) H := hP
    obtain ⟨F121, hF122⟩ : ∃ G : Nat → va_E, G = va_up F112 a0 (.inr (7, y_fl A z118 q114)) := ⟨_, rfl⟩
    rw [← hF122] at hP
    have hI : y_I K cs A F121 := by rw [hF122]; exact y_clY hA hI ha0 bz120
    have hfr : ∀ b, K b ∉ [9] → F121 b = F b := by rw [hF122]; exact s_fr hfr ha0 (by decide)
    have oY123 : F121 a0 = .inr (7, y_fl A z118 q114) := by rw [hF122]; exact th_up
    have hz0 : ∀ k, k ∈ ([1, 3, 7, 8, 15, 16, 19, 25, 26, 27, 31, 32] : List Nat) → z118 k = z0 k := fun k hk => by rw [hz119]; exact (y_un (fun q => absurd hk (by rw [q]; decide))).trans (hz0 k hk)
    have ev117 : v117 = z118 2 := by rw [hz119]; exact ev117.trans (y_un (by decide)).symm
    obtain ⟨v124, ev124⟩ : ∃ y : Int32, y = z118 4 := ⟨_, rfl⟩
    have qv124 : v124.toInt = v117.toInt := by rw [ev124, hz119, y_ue]
    refine lv_iload_n hx hb dX7_name_137 rfl (lv_at hl 1 rfl) ?_
    obtain ⟨v125, ev125⟩ : ∃ y : Int32, y = z118 5 := ⟨_, rfl⟩
    exact W.iret (v := w2) hx hb hr (fun t ht hW => ⟨⟨w2, F121, rfl, ⟨trivial, trivial, hI, hfr, fun k hk => (y_fiZ oY123 (s_sub (by decide) hk)).trans ((hz0 k hk).trans (y_fiZ oY0 (s_sub (by decide) hk)).symm), (by rw [y_fiZ oY0 (k := 5) (by decide), ← eF_5, y_fiZ oY123 (k := 5) (by decide), ← ev125]; omega)⟩, by rw [ht]; exact hP, va_K.moved hW.alike hK⟩, hS.F ht⟩) hS.2.2 dX7_name_138
