set_option maxHeartbeats 4000000 in
set_option maxRecDepth 100000 in
theorem y_X7_passes (l : Launch) (dC : Nat → ClassId) (dI : Nat → Nat → Nat) (sz : Nat) {L : List Nat} {K : Nat → Nat} {cs : Nat → ClassId} (hLK : ∀ a {k : Nat}, K a = k → k ≠ 0 → a ∈ L) (A : Nat → Nat) (hA : y_A K A) (F : Nat → va_E) (a0 : Nat) (ha0 : K a0 = 9) (hI : y_I K cs A F) : Met l yX7_passes (Cond.code yX7_passes cX7_passes 1 none :: T0) ({ frames := 1, cells := 0, slots := 0, locals := 20 }) (va_Pc [.ref a0] (s_W dC dI sz L F [(cs 0, .int), (cs 1, .byte), (cs 2, .long), (cs 3, .object RX5), (cs 4, .object RX4), (cs 5, .array .int), (cs 6, .char), (cs 7, .boolean)])) (va_Qv (fun (G : Nat → va_E) => True ∧ True ∧ y_I K cs A G ∧ (∀ b, K b ∉ [9] → G b = F b) ∧ (∀ k, k ∈ ([1, 3, 5, 6, 7, 8, 11, 15, 16, 19, 25, 26, 27, 31, 32] : List Nat) → y_fi G a0 k = y_fi F a0 k) ∧ True) (fun (G : Nat → va_E) (t : State) => va_P (dC, dI) vwCl (va_pl L G) t.heap ∧ va_K (dC, dI) vwCl [(cs 0, .int), (cs 1, .byte), (cs 2, .long), (cs 3, .object RX5), (cs 4, .object RX4), (cs 5, .array .int), (cs 6, .char), (cs 7, .boolean)] t) (fun q => q ∈ L)) 0 0 (fun q => q ∈ L) := by
  refine Met.ofW (cc := cX7_passes) (maxL := 1) (ret := none) (by decide) rfl ?_
  intro p e s m args below meth c s₁ B hml hv
  obtain ⟨rfl, hsz, hP, hK, hD, hN⟩ := hv
  have hx := B.exec
  have hb := B.bytes
  have hr := B.returns
  have hts : ∀ w ∈ T0, w.before _ s = true := fun w h => atoms_spec (ws := Cond.code yX7_passes cX7_passes 1 none :: T0) B.pre w (List.mem_cons_of_mem _ h)
  have hown : s.vm.findClass RX7 = some m.cls := findClass_of_methodNamed B.named
  have hlocks := B.notSynchronized
  have hS : va_S (fun q => q ∈ L) s.heap s.heap [] := va_S.rf
  have hfr : ∀ b, K b ∉ [9] → F b = F b := fun _ _ => rfl
  have hl := lv_entry ([.ref a0]) (n := 1) (Nat.le_of_ble_eq_true rfl)
  rw [lg_entry_eq]
  generalize (lg_sl ([.ref a0]) ++ List.replicate (1 - (lg_sl ([.ref a0])).length) Slot.unset).toArray = ls at hl ⊢
  have hl : lv_has ls 1 [(0, .ref a0)] := hl
  refine s_gen hP hS (fun H locs hP hS => ?_)
  obtain ⟨z0, q0, oY0, bz0, bq0⟩ := y_opY hI ha0
  have hz0 : ∀ k, k ∈ ([1, 3, 5, 6, 7, 8, 11, 15, 16, 19, 25, 26, 27, 31, 32] : List Nat) → z0 k = z0 k := fun _ _ => rfl
  refine th_join (fun g H locs => ∃ (G : Nat → va_E) (ls : Array Slot), g = F0 m 39 ls [] ∧ lv_has ls 1 [(0, .ref a0)] ∧ va_P (dC, dI) vwCl (va_pl L G) H ∧ va_S (fun q => q ∈ L) s.heap H locs ∧ y_I K cs A G ∧ (∀ b, K b ∉ [9] → G b = F b) ∧ (∀ k, k ∈ ([1, 3, 5, 6, 7, 8, 11, 15, 16, 19, 25, 26, 27, 31, 32] : List Nat) → y_fi G a0 k = z0 k)) (fun K39 => ?_) ?_
  · refine th_loop (fun n g H locs => ∃ (G : Nat → va_E) (ls : Array Slot), g = F0 m 0 ls [] ∧ lv_has ls 1 [(0, .ref a0)] ∧ va_P (dC, dI) vwCl (va_pl L G) H ∧ va_S (fun q => q ∈ L) s.heap H locs ∧ y_I K cs A G ∧ (∀ b, K b ∉ [9] → G b = F b) ∧ (∀ k, k ∈ ([1, 3, 5, 6, 7, 8, 11, 15, 16, 19, 25, 26, 27, 31, 32] : List Nat) → y_fi G a0 k = z0 k) ∧ n = (1601 - (y_fi G a0 2).toInt).toNat) _ ⟨F, _, rfl, lv_sub hl [0] rfl, hP, hS, hI, hfr, (fun k hk => (y_fiZ oY0 (s_sub (by decide) hk)).trans (hz0 k hk)), rfl⟩ (fun n ih0 g H locs hq => ?_)
    obtain ⟨F1, ls, rfl, hl, hP, hS, hI, hfr, hz0, hn⟩ := hq
    obtain ⟨z2, q3, oY4, bz5, bq6⟩ := y_opY hI ha0
    have hz0 : ∀ k, k ∈ ([1, 3, 5, 6, 7, 8, 11, 15, 16, 19, 25, 26, 27, 31, 32] : List Nat) → z2 k = z0 k := fun k hk => (y_fiZ oY4 (s_sub (by decide) hk)).symm.trans (hz0 k hk)
    obtain ⟨v7, ev7⟩ : ∃ y : Int32, y = z2 2 := ⟨_, rfl⟩
    have qv7 : 0 ≤ v7.toInt ∧ v7.toInt ≤ 1600 := by rw [ev7]; exact y_bY2 bz5
    replace hn : n = (1601 - v7.toInt).toNat := by have q9 := hn; rw [y_fiZ oY4 (k := 2) (by decide), ← ev7] at q9; exact q9
    have hn_7 := hn
    have h8 : (z2 2).toInt = v7.toInt := by rw [ev7]
    refine lv_aload_n hx hb dX7_passes_0 rfl (lv_at hl 0 rfl) ?_
    refine th_get (D := (dC, dI)) (ci := 7) (v := .int (z2 2)) (C := RX7) (T := TX7) (N := 34) hx hb hts inX7 hown hK hP (hLK _ ha0 (by decide)) oY4 rfl 2 (by decide) (hts _ T_272) (fun _ h9 => h9) rfl dX7_passes_1 ?_
    refine ax_eqi (y := v7) ev7.symm ?_
    refine lv_aload_n hx hb dX7_passes_4 rfl (lv_at hl 0 rfl) ?_
    refine th_get (D := (dC, dI)) (ci := 7) (v := .int (z2 3)) (C := RX7) (T := TX7) (N := 34) hx hb hts inX7 hown hK hP (hLK _ ha0 (by decide)) oY4 rfl 3 (by decide) (hts _ T_273) (fun _ h9 => h9) rfl dX7_passes_5 ?_
    refine lv_topi (fun v9 ev9 => ?_)
    have qv9 : 0 ≤ v9.toInt ∧ v9.toInt ≤ 1600 := by rw [ev9]; exact y_bY3 bz5
    refine lv_icmp_ge (tgt := 39) hx hb dX7_passes_8 (by decide) (fun c10 => ?_) (fun c10 => ?_)
    · have c10 := Int32.le_iff_toInt_le.mp c10
      exact K39 _ _ _ ⟨F1, _, rfl, lv_sub hl [0] rfl, hP, hS, hI, hfr, (fun k hk => (y_fiZ oY4 (s_sub (by decide) hk)).trans (hz0 k hk))⟩
    · have c10 := mt Int32.le_iff_toInt_le.mpr c10
      refine lv_aload_n hx hb dX7_passes_11 rfl (lv_at hl 0 rfl) ?_
      refine th_get (D := (dC, dI)) (ci := 7) (v := .ref (A 0)) (C := RX7) (T := TX7) (N := 34) hx hb hts inX7 hown hK hP (hLK _ ha0 (by decide)) oY4 rfl 0 (by decide) (hts _ T_240) (fun _ h9 => h9) rfl dX7_passes_12 ?_
      refine lv_aload_n hx hb dX7_passes_15 rfl (lv_at hl 0 rfl) ?_
      refine th_get (D := (dC, dI)) (ci := 7) (v := .int (z2 2)) (C := RX7) (T := TX7) (N := 34) hx hb hts inX7 hown hK hP (hLK _ ha0 (by decide)) oY4 rfl 2 (by decide) (hts _ T_272) (fun _ h9 => h9) rfl dX7_passes_16 ?_
      refine ax_eqi (y := v7) ev7.symm ?_
      obtain ⟨f11, o12, b13⟩ := y_op0 hI
      refine th_iald hx hb hK hP (hLK _ (y_k0 hA) (by decide)) 0 o12 rfl (th_in ⟨by omega, by omega⟩) dX7_passes_19 ?_
      refine lv_topi (fun v14 ev14 => ?_)
      refine va_calli (va_runS (As := [.int v14]) (rest := []) ⟨hx, hb, hml, hown, hts⟩ (y_X7_isLetter l dC dI H.size F1 v14) (cwS 1 hts (ax_gS T_278 T_279 T_265 T_23) rfl rfl rfl (by decide +kernel) ⟨Nat.le_of_ble_eq_true rfl, Nat.le_of_ble_eq_true rfl⟩) ⟨fun a U g mk q => ⟨q.1, s_pc (U := U) rfl rfl q.2⟩, fun U hU hW => ⟨rfl, s_pw hU hW hP hK hD hN⟩⟩ rfl rfl hl.1 rfl (lv_room (Nat.le_of_ble_eq_true rfl)) dX7_passes_20 ⟨Nat.zero_le _, Nat.zero_le _⟩) hS (fun q _ h => h) (fun q h => h) (fun r16 F17 t H1 locs ht hvm hw hB hz1 hk1 hS => ?_)
      obtain ⟨hP, hK1⟩ := hB
      rw [ht] at hP
      generalize H1 = H at hP hS ⊢
      clear hz1 hk1 hvm hK1
      obtain ⟨h18, h20, hG9, h19⟩ := hw
      rw [hG9] at hP
      refine lv_if_eq (tgt := 39) hx hb dX7_passes_23 (by decide) (fun c21 => ?_) (fun c21 => ?_)
      · have c21 := (ax_eq (n := 0) (by decide)).mp c21
        exact K39 _ _ _ ⟨F1, _, rfl, lv_sub hl [0] rfl, hP, hS, hI, hfr, (fun k hk => (y_fiZ oY4 (s_sub (by decide) hk)).trans (hz0 k hk))⟩
      · have c21 := mt (ax_eq (n := 0) (by decide)).mpr c21
        have h22 := h20 (fun q => c21 (by rw [q]; decide))
        refine lv_aload_n hx hb dX7_passes_26 rfl (lv_at hl 0 rfl) ?_
        refine lv_dup hx hb dX7_passes_27 rfl ?_
        refine th_get (D := (dC, dI)) (ci := 7) (v := .int (z2 2)) (C := RX7) (T := TX7) (N := 34) hx hb hts inX7 hown hK hP (hLK _ ha0 (by decide)) oY4 rfl 2 (by decide) (hts _ T_272) (fun _ h9 => h9) rfl dX7_passes_28 ?_
        refine ax_eqi (y := v7) ev7.symm ?_
        refine lv_iconst (v := 1) hx hb dX7_passes_31 (by decide) ?_
        refine lv_iadd hx hb dX7_passes_32 ?_
        refine lv_topi (fun v23 ev23 => ?_)
        have qv23 : v23.toInt = v7.toInt + 1 := by rw [ev23]; exact th_add rfl (by decide) ⟨by omega, by omega⟩
        refine th_put (D := (dC, dI)) (ci := 7) (v := .int v23) (ty := .int) (C := RX7) (T := TX7) (N := 34) hx hb hts inX7 tyX7 tyX7_ok nmX7 hown hK hP hD hS (hLK _ ha0 (by decide)) oY4 rfl 2 (by decide) (hts _ T_272) (fun _ h9 => h9) rfl (by decide +kernel) rfl rfl (Nat.le_of_ble_eq_true rfl) dX7_passes_33 (fun H locs hP hS => ?_)
        rw [y_fs2] at hP
        obtain ⟨z24, hz25⟩ : ∃ g : Nat → Int32, g = upd z2 2 v23 := ⟨_, rfl⟩
        rw [← hz25] at hP
        have bz26 : y_bY z24 := by rw [hz25]; exact y_bp2 bz5 ⟨by omega, by omega⟩
        have hP : va_P (dC, dI) vwCl (va_pl L (va_up F1 a0 (.inr (7, y_fl A z24 q3)))) H := hP
        obtain ⟨F27, hF28⟩ : ∃ G : Nat → va_E, G = va_up F1 a0 (.inr (7, y_fl A z24 q3)) := ⟨_, rfl⟩
        rw [← hF28] at hP
        have hI : y_I K cs A F27 := by rw [hF28]; exact y_clY hA hI ha0 bz26 bq6
        have hfr : ∀ b, K b ∉ [9] → F27 b = F b := by rw [hF28]; exact s_fr hfr ha0 (by decide)
        have o29 : F27 (A 0) = .inl (cs 0, 1600, .inl f11) := by rw [hF28]; exact th_ne (th_kd (y_k0 hA) ha0 (by decide)) o12
        have oY30 : F27 a0 = .inr (7, y_fl A z24 q3) := by rw [hF28]; exact th_up
        have hz0 : ∀ k, k ∈ ([1, 3, 5, 6, 7, 8, 11, 15, 16, 19, 25, 26, 27, 31, 32] : List Nat) → z24 k = z0 k := fun k hk => by rw [hz25]; exact (y_un (fun q => absurd hk (by rw [q]; decide))).trans (hz0 k hk)
        have ev9 : v9 = z24 3 := by rw [hz25]; exact ev9.trans (y_un (by decide)).symm
        obtain ⟨v31, ev31⟩ : ∃ y : Int32, y = z24 2 := ⟨_, rfl⟩
        have qv31 : v31.toInt = v23.toInt := by rw [ev31, hz25, y_ue]
        refine lv_goto (tgt := 0) hx hb dX7_passes_36 (by decide) ?_
        have h32 : (y_fi F27 a0 2).toInt = v31.toInt := by rw [y_fiZ oY30 (k := 2) (by decide), ← ev31]
        exact ih0 _ _ _ _ (by omega) ⟨F27, _, rfl, lv_sub hl [0] rfl, hP, hS, hI, hfr, (fun k hk => (y_fiZ oY30 (s_sub (by decide) hk)).trans (hz0 k hk)), rfl⟩
  · intro g H locs hq
    obtain ⟨F33, ls, rfl, hl, hP, hS, hI, hfr, hz0⟩ := hq
    obtain ⟨z34, q35, oY36, bz37, bq38⟩ := y_opY hI ha0
    have hz0 : ∀ k, k ∈ ([1, 3, 5, 6, 7, 8, 11, 15, 16, 19, 25, 26, 27, 31, 32] : List Nat) → z34 k = z0 k := fun k hk => (y_fiZ oY36 (s_sub (by decide) hk)).symm.trans (hz0 k hk)
    refine lv_aload_n hx hb dX7_passes_39 rfl (lv_at hl 0 rfl) ?_
    refine lv_aload_n hx hb dX7_passes_40 rfl (lv_at hl 0 rfl) ?_
    refine th_get (D := (dC, dI)) (ci := 7) (v := .int (z34 2)) (C := RX7) (T := TX7) (N := 34) hx hb hts inX7 hown hK hP (hLK _ ha0 (by decide)) oY36 rfl 2 (by decide) (hts _ T_272) (fun _ h9 => h9) rfl dX7_passes_41 ?_
    refine lv_topi (fun v39 ev39 => ?_)
    have qv39 : 0 ≤ v39.toInt ∧ v39.toInt ≤ 1600 := by rw [ev39]; exact y_bY2 bz37
    refine th_put (D := (dC, dI)) (ci := 7) (v := .int v39) (ty := .int) (C := RX7) (T := TX7) (N := 34) hx hb hts inX7 tyX7 tyX7_ok nmX7 hown hK hP hD hS (hLK _ ha0 (by decide)) oY36 rfl 4 (by decide) (hts _ T_296) (fun _ h9 => h9) rfl (by decide +kernel) rfl rfl (Nat.le_of_ble_eq_true rfl) dX7_passes_44 (fun H locs hP hS => ?_)
    rw [y_fs4] at hP
    obtain ⟨z40, hz41⟩ : ∃ g : Nat → Int32, g = upd z34 4 v39 := ⟨_, rfl⟩
    rw [← hz41] at hP
    have bz42 : y_bY z40 := by rw [hz41]; exact y_bp4 bz37
    have hP : va_P (dC, dI) vwCl (va_pl L (va_up F33 a0 (.inr (7, y_fl A z40 q35)))) H := hP
    obtain ⟨F43, hF44⟩ : ∃ G : Nat → va_E, G = va_up F33 a0 (.inr (7, y_fl A z40 q35)) := ⟨_, rfl⟩
    rw [← hF44] at hP
    have hI : y_I K cs A F43 := by rw [hF44]; exact y_clY hA hI ha0 bz42 bq38
    have hfr : ∀ b, K b ∉ [9] → F43 b = F b := by rw [hF44]; exact s_fr hfr ha0 (by decide)
    have oY45 : F43 a0 = .inr (7, y_fl A z40 q35) := by rw [hF44]; exact th_up
    have hz0 : ∀ k, k ∈ ([1, 3, 5, 6, 7, 8, 11, 15, 16, 19, 25, 26, 27, 31, 32] : List Nat) → z40 k = z0 k := fun k hk => by rw [hz41]; exact (y_un (fun q => absurd hk (by rw [q]; decide))).trans (hz0 k hk)
    have ev39 : v39 = z40 2 := by rw [hz41]; exact ev39.trans (y_un (by decide)).symm
    obtain ⟨v46, ev46⟩ : ∃ y : Int32, y = z40 4 := ⟨_, rfl⟩
    have qv46 : v46.toInt = v39.toInt := by rw [ev46, hz41, y_ue]
    exact W.vret hx hb hr (fun t ht hW => ⟨⟨F43, rfl, ⟨trivial, trivial, hI, hfr, fun k hk => (y_fiZ oY45 (s_sub (by decide) hk)).trans ((hz0 k hk).trans (y_fiZ oY0 (s_sub (by decide) hk)).symm), trivial⟩, by rw [ht]; exact hP, va_K.moved hW.alike hK⟩, hS.F ht⟩) hS.2.2 dX7_passes_47

set_option maxHeartbeats 4000000 in
set_option maxRecDepth 100000 in
theorem y_X7_takes (l : Launch) (dC : Nat → ClassId) (dI : Nat → Nat → Nat) (sz : Nat) {L : List Nat} {K : Nat → Nat} {cs : Nat → ClassId} (hLK : ∀ a {k : Nat}, K a = k → k ≠ 0 → a ∈ L) (A : Nat → Nat) (hA : y_A K A) (F : Nat → va_E) (a0 : Nat) (x1 : Int32) (ha0 : K a0 = 9) (hI : y_I K cs A F) : Met l yX7_takes (Cond.code yX7_takes cX7_takes 2 (some .boolean) :: T0) ({ frames := 3, cells := 0, slots := 0, locals := 64 }) (va_Pc [.ref a0, .int x1] (s_W dC dI sz L F [(cs 0, .int), (cs 1, .byte), (cs 2, .long), (cs 3, .object RX5), (cs 4, .object RX4), (cs 5, .array .int), (cs 6, .char), (cs 7, .boolean)])) (va_Qi (fun (r : Int32) (G : Nat → va_E) => (0 ≤ r.toInt ∧ r.toInt ≤ 1) ∧ True ∧ y_I K cs A G ∧ (∀ b, K b ∉ [9] → G b = F b) ∧ (∀ k, k ∈ ([1, 3, 5, 6, 7, 8, 11, 15, 16, 19, 25, 26, 27, 31, 32] : List Nat) → y_fi G a0 k = y_fi F a0 k) ∧ True) (fun (G : Nat → va_E) (t : State) => va_P (dC, dI) vwCl (va_pl L G) t.heap ∧ va_K (dC, dI) vwCl [(cs 0, .int), (cs 1, .byte), (cs 2, .long), (cs 3, .object RX5), (cs 4, .object RX4), (cs 5, .array .int), (cs 6, .char), (cs 7, .boolean)] t) (fun q => q ∈ L)) 0 0 (fun q => q ∈ L) := by
  refine Met.ofW (cc := cX7_takes) (maxL := 2) (ret := (some .boolean)) (by decide) rfl ?_
  intro p e s m args below meth c s₁ B hml hv
  obtain ⟨rfl, hsz, hP, hK, hD, hN⟩ := hv
  have hx := B.exec
  have hb := B.bytes
  have hr := B.returns
  have hts : ∀ w ∈ T0, w.before _ s = true := fun w h => atoms_spec (ws := Cond.code yX7_takes cX7_takes 2 (some .boolean) :: T0) B.pre w (List.mem_cons_of_mem _ h)
  have hown : s.vm.findClass RX7 = some m.cls := findClass_of_methodNamed B.named
  have hlocks := B.notSynchronized
  have hS : va_S (fun q => q ∈ L) s.heap s.heap [] := va_S.rf
  have hfr : ∀ b, K b ∉ [9] → F b = F b := fun _ _ => rfl
  have hl := lv_entry ([.ref a0, .int x1]) (n := 2) (Nat.le_of_ble_eq_true rfl)
  rw [lg_entry_eq]
  generalize (lg_sl ([.ref a0, .int x1]) ++ List.replicate (2 - (lg_sl ([.ref a0, .int x1])).length) Slot.unset).toArray = ls at hl ⊢
  have hl : lv_has ls 2 [(0, .ref a0), (1, .int x1)] := hl
  refine s_gen hP hS (fun H locs hP hS => ?_)
  obtain ⟨z0, q0, oY0, bz0, bq0⟩ := y_opY hI ha0
  have hz0 : ∀ k, k ∈ ([1, 3, 5, 6, 7, 8, 11, 15, 16, 19, 25, 26, 27, 31, 32] : List Nat) → z0 k = z0 k := fun _ _ => rfl
  refine lv_aload_n hx hb dX7_takes_0 rfl (lv_at hl 0 rfl) ?_
  refine va_calli (va_runV (As := []) (rest := []) ⟨hx, hb, hml, hown, hts⟩ (y_X7_ownHere l dC dI H.size hLK A hA F a0 ha0 hI) (cwV 0 hts (ax_gV T_283 T_284 T_285 T_265 T_25) rfl rfl rfl (by decide +kernel) ⟨Nat.le_of_ble_eq_true rfl, Nat.le_of_ble_eq_true rfl⟩) ⟨fun a U g mk q => ⟨q.1, s_pc (U := U) rfl rfl q.2⟩, s_recv hK hP (hLK _ ha0 (by decide)) (ci := 7) rfl oY0, fun U hU hW => ⟨rfl, s_pw hU hW hP hK hD hN⟩⟩ rfl rfl hl.1 rfl (lv_room (Nat.le_of_ble_eq_true rfl)) dX7_takes_1 ⟨Nat.zero_le _, Nat.zero_le _⟩) hS (fun q _ h => h) (fun q h => h) (fun r2 F3 t H1 locs ht hvm hw hB hz1 hk1 hS => ?_)
  obtain ⟨hP, hK1⟩ := hB
  rw [ht] at hP
  generalize H1 = H at hP hS ⊢
  clear hz1 hk1 hvm hK1
  obtain ⟨h4, h6, hI, hfr1, hzf, h5⟩ := hw
  obtain ⟨z7, q8, oY9, bz10, bq11⟩ := y_opY hI ha0
  have hzf : ∀ k, k ∈ ([1, 3, 4, 5, 6, 7, 8, 11, 15, 16, 19, 25, 26, 27, 31, 32] : List Nat) → z7 k = z0 k := fun k hk => by have q9 := hzf k hk; rw [y_fiZ oY9 (s_sub (by decide) hk), y_fiZ oY0 (s_sub (by decide) hk)] at q9; exact q9
  have hz0 : ∀ k, k ∈ ([1, 3, 5, 6, 7, 8, 11, 15, 16, 19, 25, 26, 27, 31, 32] : List Nat) → z7 k = z0 k := fun k hk => (hzf k (s_sub (by decide) hk)).trans (hz0 k hk)
  have hfr : ∀ b, K b ∉ [9] → F3 b = F b := fun b hb9 => (hfr1 b (fun q => hb9 (s_sub (by decide) q))).trans (hfr b hb9)
  refine lv_iload_n hx hb dX7_takes_4 rfl (lv_at hl 1 rfl) ?_
  refine lv_icmp_eq (tgt := 10) hx hb dX7_takes_5 (by decide) (fun c12 => ?_) (fun c12 => ?_)
  · have c12 := Int32.toInt_inj.symm.mp c12
    refine lv_aload_n hx hb dX7_takes_10 rfl (lv_at hl 0 rfl) ?_
    refine va_callv (va_runV (As := []) (rest := []) ⟨hx, hb, hml, hown, hts⟩ (y_X7_passes l dC dI H.size hLK A hA F3 a0 ha0 hI) (cwV 0 hts (ax_gV T_1257 T_1259 T_1260 T_265 T_1258) rfl rfl rfl (by decide +kernel) ⟨Nat.le_of_ble_eq_true rfl, Nat.le_of_ble_eq_true rfl⟩) ⟨fun a U g mk q => ⟨q.1, s_pc (U := U) rfl rfl q.2⟩, s_recv hK hP (hLK _ ha0 (by decide)) (ci := 7) rfl oY9, fun U hU hW => ⟨rfl, s_pw hU hW hP hK hD hN⟩⟩ rfl rfl hl.1 rfl (lv_room (Nat.le_of_ble_eq_true rfl)) dX7_takes_11 ⟨Nat.zero_le _, Nat.zero_le _⟩) hS (fun q _ h => h) (fun q h => h) (fun F14 t H1 locs ht hvm hw hB hz1 hk1 hS => ?_)
    obtain ⟨hP, hK1⟩ := hB
    rw [ht] at hP
    generalize H1 = H at hP hS ⊢
    clear hz1 hk1 hvm hK1
    obtain ⟨h15, h17, hI, hfr1, hzf, h16⟩ := hw
    obtain ⟨z18, q19, oY20, bz21, bq22⟩ := y_opY hI ha0
    have hzf : ∀ k, k ∈ ([1, 3, 5, 6, 7, 8, 11, 15, 16, 19, 25, 26, 27, 31, 32] : List Nat) → z18 k = z7 k := fun k hk => by have q9 := hzf k hk; rw [y_fiZ oY20 (s_sub (by decide) hk), y_fiZ oY9 (s_sub (by decide) hk)] at q9; exact q9
    have hz0 : ∀ k, k ∈ ([1, 3, 5, 6, 7, 8, 11, 15, 16, 19, 25, 26, 27, 31, 32] : List Nat) → z18 k = z0 k := fun k hk => (hzf k (s_sub (by decide) hk)).trans (hz0 k hk)
    have hfr : ∀ b, K b ∉ [9] → F14 b = F b := fun b hb9 => (hfr1 b (fun q => hb9 (s_sub (by decide) q))).trans (hfr b hb9)
    refine lv_iconst (v := 1) hx hb dX7_takes_14 (by decide) ?_
    have h23 : (1 : Int32).toInt = 1 := by decide
    exact W.zret (v := 1) (ty := .boolean) hx hb hr (by decide) (fun t ht hW => ⟨⟨1, F14, rfl, ⟨(by decide), trivial, hI, hfr, fun k hk => (y_fiZ oY20 (s_sub (by decide) hk)).trans ((hz0 k hk).trans (y_fiZ oY0 (s_sub (by decide) hk)).symm), trivial⟩, by rw [ht]; exact hP, va_K.moved hW.alike hK⟩, hS.F ht⟩) hS.2.2 dX7_takes_15
  · have c12 := mt Int32.toInt_inj.symm.mpr c12
    refine lv_iconst (v := 0) hx hb dX7_takes_8 (by decide) ?_
    have h24 : (0 : Int32).toInt = 0 := by decide
    exact W.zret (v := 0) (ty := .boolean) hx hb hr (by decide) (fun t ht hW => ⟨⟨0, F3, rfl, ⟨(by decide), trivial, hI, hfr, fun k hk => (y_fiZ oY9 (s_sub (by decide) hk)).trans ((hz0 k hk).trans (y_fiZ oY0 (s_sub (by decide) hk)).symm), trivial⟩, by rw [ht]; exact hP, va_K.moved hW.alike hK⟩, hS.F ht⟩) hS.2.2 dX7_takes_9

set_option maxHeartbeats 4000000 in
set_option maxRecDepth 100000 in
theorem y_X7_asks (l : Launch) (dC : Nat → ClassId) (dI : Nat → Nat → Nat) (sz : Nat) {L : List Nat} {K : Nat → Nat} {cs : Nat → ClassId} (hLK : ∀ a {k : Nat}, K a = k → k ≠ 0 → a ∈ L) (A : Nat → Nat) (hA : y_A K A) (F : Nat → va_E) (a0 : Nat) (x1 : Int32) (ha0 : K a0 = 9) (hI : y_I K cs A F) : Met l yX7_asks (Cond.code yX7_asks cX7_asks 2 none :: T0) ({ frames := 4, cells := 0, slots := 0, locals := 85 }) (va_Pc [.ref a0, .int x1] (s_W dC dI sz L F [(cs 0, .int), (cs 1, .byte), (cs 2, .long), (cs 3, .object RX5), (cs 4, .object RX4), (cs 5, .array .int), (cs 6, .char), (cs 7, .boolean)])) (va_Qv (fun (G : Nat → va_E) => True ∧ True ∧ y_I K cs A G ∧ (∀ b, K b ∉ [9] → G b = F b) ∧ (∀ k, k ∈ ([1, 3, 7, 8, 11, 15, 16, 19, 25, 26, 27, 31, 32] : List Nat) → y_fi G a0 k = y_fi F a0 k) ∧ ((y_fi F a0 5).toInt = 0 ∨ ¬ (y_fi G a0 5).toInt = 0)) (fun (G : Nat → va_E) (t : State) => va_P (dC, dI) vwCl (va_pl L G) t.heap ∧ va_K (dC, dI) vwCl [(cs 0, .int), (cs 1, .byte), (cs 2, .long), (cs 3, .object RX5), (cs 4, .object RX4), (cs 5, .array .int), (cs 6, .char), (cs 7, .boolean)] t) (fun q => q ∈ L)) 0 0 (fun q => q ∈ L) := by
  refine Met.ofW (cc := cX7_asks) (maxL := 2) (ret := none) (by decide) rfl ?_
  intro p e s m args below meth c s₁ B hml hv
  obtain ⟨rfl, hsz, hP, hK, hD, hN⟩ := hv
  have hx := B.exec
  have hb := B.bytes
  have hr := B.returns
  have hts : ∀ w ∈ T0, w.before _ s = true := fun w h => atoms_spec (ws := Cond.code yX7_asks cX7_asks 2 none :: T0) B.pre w (List.mem_cons_of_mem _ h)
  have hown : s.vm.findClass RX7 = some m.cls := findClass_of_methodNamed B.named
  have hlocks := B.notSynchronized
  have hS : va_S (fun q => q ∈ L) s.heap s.heap [] := va_S.rf
  have hfr : ∀ b, K b ∉ [9] → F b = F b := fun _ _ => rfl
  have hl := lv_entry ([.ref a0, .int x1]) (n := 2) (Nat.le_of_ble_eq_true rfl)
  rw [lg_entry_eq]
  generalize (lg_sl ([.ref a0, .int x1]) ++ List.replicate (2 - (lg_sl ([.ref a0, .int x1])).length) Slot.unset).toArray = ls at hl ⊢
  have hl : lv_has ls 2 [(0, .ref a0), (1, .int x1)] := hl
  refine s_gen hP hS (fun H locs hP hS => ?_)
  obtain ⟨z0, q0, oY0, bz0, bq0⟩ := y_opY hI ha0
  have hz0 : ∀ k, k ∈ ([1, 3, 7, 8, 11, 15, 16, 19, 25, 26, 27, 31, 32] : List Nat) → z0 k = z0 k := fun _ _ => rfl
  obtain ⟨v1, ev1⟩ : ∃ y : Int32, y = z0 5 := ⟨_, rfl⟩
  have eF_5 := ev1
  have e0_v1 := ev1
  refine lv_aload_n hx hb dX7_asks_0 rfl (lv_at hl 0 rfl) ?_
  refine th_get (D := (dC, dI)) (ci := 7) (v := .int (z0 5)) (C := RX7) (T := TX7) (N := 34) hx hb hts inX7 hown hK hP (hLK _ ha0 (by decide)) oY0 rfl 5 (by decide) (hts _ T_274) (fun _ h9 => h9) rfl dX7_asks_1 ?_
  refine ax_eqi (y := v1) ev1.symm ?_
  refine lv_if_ne (tgt := 24) hx hb dX7_asks_4 (by decide) (fun c2 => ?_) (fun c2 => ?_)
  · have c2 := mt (ax_eq (n := 0) (by decide)).mpr c2
    exact W.vret hx hb hr (fun t ht hW => ⟨⟨F, rfl, ⟨trivial, trivial, hI, hfr, fun k hk => (y_fiZ oY0 (s_sub (by decide) hk)).trans ((hz0 k hk).trans (y_fiZ oY0 (s_sub (by decide) hk)).symm), (by first | (rw [y_fiZ oY0 (k := 5) (by decide), ← eF_5]; omega) | rw [y_fiZ oY0 (k := 5) (by decide), ← eF_5])⟩, by rw [ht]; exact hP, va_K.moved hW.alike hK⟩, hS.F ht⟩) hS.2.2 dX7_asks_24
  · have c2 := (ax_eq (n := 0) (by decide)).mp c2
    refine lv_aload_n hx hb dX7_asks_7 rfl (lv_at hl 0 rfl) ?_
    refine lv_iload_n hx hb dX7_asks_8 rfl (lv_at hl 1 rfl) ?_
    refine va_calli (va_runV (As := [.int x1]) (rest := []) ⟨hx, hb, hml, hown, hts⟩ (y_X7_takes l dC dI H.size hLK A hA F a0 x1 ha0 hI) (cwV 1 hts (ax_gV T_287 T_288 T_289 T_265 T_26) rfl rfl rfl (by decide +kernel) ⟨Nat.le_of_ble_eq_true rfl, Nat.le_of_ble_eq_true rfl⟩) ⟨fun a U g mk q => ⟨q.1, s_pc (U := U) rfl rfl q.2⟩, s_recv hK hP (hLK _ ha0 (by decide)) (ci := 7) rfl oY0, fun U hU hW => ⟨rfl, s_pw hU hW hP hK hD hN⟩⟩ rfl rfl hl.1 rfl (lv_room (Nat.le_of_ble_eq_true rfl)) dX7_asks_9 ⟨Nat.zero_le _, Nat.zero_le _⟩) hS (fun q _ h => h) (fun q h => h) (fun r4 F5 t H1 locs ht hvm hw hB hz1 hk1 hS => ?_)
    obtain ⟨hP, hK1⟩ := hB
    rw [ht] at hP
    generalize H1 = H at hP hS ⊢
    clear hz1 hk1 hvm hK1
    obtain ⟨h6, h8, hI, hfr1, hzf, h7⟩ := hw
    obtain ⟨z9, q10, oY11, bz12, bq13⟩ := y_opY hI ha0
    have hzf : ∀ k, k ∈ ([1, 3, 5, 6, 7, 8, 11, 15, 16, 19, 25, 26, 27, 31, 32] : List Nat) → z9 k = z0 k := fun k hk => by have q9 := hzf k hk; rw [y_fiZ oY11 (s_sub (by decide) hk), y_fiZ oY0 (s_sub (by decide) hk)] at q9; exact q9
    have hz0 : ∀ k, k ∈ ([1, 3, 7, 8, 11, 15, 16, 19, 25, 26, 27, 31, 32] : List Nat) → z9 k = z0 k := fun k hk => (hzf k (s_sub (by decide) hk)).trans (hz0 k hk)
    have ev1 : v1 = z9 5 := ev1.trans (hzf 5 (by decide)).symm
    have hfr : ∀ b, K b ∉ [9] → F5 b = F b := fun b hb9 => (hfr1 b (fun q => hb9 (s_sub (by decide) q))).trans (hfr b hb9)
    refine lv_if_ne (tgt := 24) hx hb dX7_asks_12 (by decide) (fun c14 => ?_) (fun c14 => ?_)
    · have c14 := mt (ax_eq (n := 0) (by decide)).mpr c14
      exact W.vret hx hb hr (fun t ht hW => ⟨⟨F5, rfl, ⟨trivial, trivial, hI, hfr, fun k hk => (y_fiZ oY11 (s_sub (by decide) hk)).trans ((hz0 k hk).trans (y_fiZ oY0 (s_sub (by decide) hk)).symm), (by first | (rw [y_fiZ oY0 (k := 5) (by decide), ← eF_5, y_fiZ oY11 (k := 5) (by decide), ← ev1]; omega) | rw [y_fiZ oY0 (k := 5) (by decide), ← eF_5, y_fiZ oY11 (k := 5) (by decide), ← ev1])⟩, by rw [ht]; exact hP, va_K.moved hW.alike hK⟩, hS.F ht⟩) hS.2.2 dX7_asks_24
    · have c14 := (ax_eq (n := 0) (by decide)).mp c14
      refine lv_aload_n hx hb dX7_asks_15 rfl (lv_at hl 0 rfl) ?_
      refine lv_iconst (v := 1) hx hb dX7_asks_16 (by decide) ?_
      refine lv_aload_n hx hb dX7_asks_17 rfl (lv_at hl 0 rfl) ?_
      refine th_get (D := (dC, dI)) (ci := 7) (v := .int (z9 2)) (C := RX7) (T := TX7) (N := 34) hx hb hts inX7 hown hK hP (hLK _ ha0 (by decide)) oY11 rfl 2 (by decide) (hts _ T_272) (fun _ h9 => h9) rfl dX7_asks_18 ?_
      refine lv_topi (fun v15 ev15 => ?_)
      have qv15 : 0 ≤ v15.toInt ∧ v15.toInt ≤ 1600 := by rw [ev15]; exact y_bY2 bz12
      refine va_callv (va_runV (As := [.int 1, .int v15]) (rest := []) ⟨hx, hb, hml, hown, hts⟩ (y_X7_fail l dC dI H.size hLK A hA F5 a0 1 v15 ha0 (by decide) hI) (cwV 2 hts (ax_gV T_290 T_291 T_292 T_265 T_27) rfl rfl rfl (by decide +kernel) ⟨Nat.le_of_ble_eq_true rfl, Nat.le_of_ble_eq_true rfl⟩) ⟨fun a U g mk q => ⟨q.1, s_pc (U := U) rfl rfl q.2⟩, s_recv hK hP (hLK _ ha0 (by decide)) (ci := 7) rfl oY11, fun U hU hW => ⟨rfl, s_pw hU hW hP hK hD hN⟩⟩ rfl rfl hl.1 rfl (lv_room (Nat.le_of_ble_eq_true rfl)) dX7_asks_21 ⟨Nat.zero_le _, Nat.zero_le _⟩) hS (fun q _ h => h) (fun q h => h) (fun F17 t H1 locs ht hvm hw hB hz1 hk1 hS => ?_)
      obtain ⟨hP, hK1⟩ := hB
      rw [ht] at hP
      generalize H1 = H at hP hS ⊢
      clear hz1 hk1 hvm hK1
      obtain ⟨h18, h20, hI, hfr1, hzf, h19⟩ := hw
      obtain ⟨z21, q22, oY23, bz24, bq25⟩ := y_opY hI ha0
      have hzf : ∀ k, k ∈ ([1, 2, 3, 4, 7, 8, 11, 15, 16, 19, 25, 26, 27, 31, 32] : List Nat) → z21 k = z9 k := fun k hk => by have q9 := hzf k hk; rw [y_fiZ oY23 (s_sub (by decide) hk), y_fiZ oY11 (s_sub (by decide) hk)] at q9; exact q9
      have hz0 : ∀ k, k ∈ ([1, 3, 7, 8, 11, 15, 16, 19, 25, 26, 27, 31, 32] : List Nat) → z21 k = z0 k := fun k hk => (hzf k (s_sub (by decide) hk)).trans (hz0 k hk)
      have ev15 : v15 = z21 2 := ev15.trans (hzf 2 (by decide)).symm
      have hfr : ∀ b, K b ∉ [9] → F17 b = F b := fun b hb9 => (hfr1 b (fun q => hb9 (s_sub (by decide) q))).trans (hfr b hb9)
      obtain ⟨v26, ev26⟩ : ∃ y : Int32, y = z21 5 := ⟨_, rfl⟩
      replace h19 : (¬ v26.toInt = 0) := by have q9 := h19; rw [y_fiZ oY23 (k := 5) (by decide), ← ev26] at q9; exact q9
      exact W.vret hx hb hr (fun t ht hW => ⟨⟨F17, rfl, ⟨trivial, trivial, hI, hfr, fun k hk => (y_fiZ oY23 (s_sub (by decide) hk)).trans ((hz0 k hk).trans (y_fiZ oY0 (s_sub (by decide) hk)).symm), (by first | (rw [y_fiZ oY0 (k := 5) (by decide), ← eF_5, y_fiZ oY23 (k := 5) (by decide), ← ev26]; omega) | rw [y_fiZ oY0 (k := 5) (by decide), ← eF_5, y_fiZ oY23 (k := 5) (by decide), ← ev26])⟩, by rw [ht]; exact hP, va_K.moved hW.alike hK⟩, hS.F ht⟩) hS.2.2 dX7_asks_24

set_option maxHeartbeats 4000000 in
set_option maxRecDepth 100000 in
theorem y_X7_name (l : Launch) (dC : Nat → ClassId) (dI : Nat → Nat → Nat) (sz : Nat) {L : List Nat} {K : Nat → Nat} {cs : Nat → ClassId} (hLK : ∀ a {k : Nat}, K a = k → k ≠ 0 → a ∈ L) (A : Nat → Nat) (hA : y_A K A) (F : Nat → va_E) (a0 : Nat) (ha0 : K a0 = 9) (hI : y_I K cs A F) : Met l yX7_name (Cond.code yX7_name cX7_name 2 (some .int) :: T0) ({ frames := 3, cells := 0, slots := 0, locals := 64 }) (va_Pc [.ref a0] (s_W dC dI sz L F [(cs 0, .int), (cs 1, .byte), (cs 2, .long), (cs 3, .object RX5), (cs 4, .object RX4), (cs 5, .array .int), (cs 6, .char), (cs 7, .boolean)])) (va_Qi (fun (r : Int32) (G : Nat → va_E) => True ∧ True ∧ y_I K cs A G ∧ (∀ b, K b ∉ [9] → G b = F b) ∧ (∀ k, k ∈ ([1, 3, 7, 8, 15, 16, 19, 25, 26, 27, 31, 32] : List Nat) → y_fi G a0 k = y_fi F a0 k) ∧ ((y_fi F a0 5).toInt = 0 ∨ ¬ (y_fi G a0 5).toInt = 0)) (fun (G : Nat → va_E) (t : State) => va_P (dC, dI) vwCl (va_pl L G) t.heap ∧ va_K (dC, dI) vwCl [(cs 0, .int), (cs 1, .byte), (cs 2, .long), (cs 3, .object RX5), (cs 4, .object RX4), (cs 5, .array .int), (cs 6, .char), (cs 7, .boolean)] t) (fun q => q ∈ L)) 0 0 (fun q => q ∈ L) := by
  refine Met.ofW (cc := cX7_name) (maxL := 2) (ret := (some .int)) (by decide) rfl ?_
  intro p e s m args below meth c s₁ B hml hv
  obtain ⟨rfl, hsz, hP, hK, hD, hN⟩ := hv
  have hx := B.exec
  have hb := B.bytes
  have hr := B.returns
  have hts : ∀ w ∈ T0, w.before _ s = true := fun w h => atoms_spec (ws := Cond.code yX7_name cX7_name 2 (some .int) :: T0) B.pre w (List.mem_cons_of_mem _ h)
  have hown : s.vm.findClass RX7 = some m.cls := findClass_of_methodNamed B.named
  have hlocks := B.notSynchronized
  have hS : va_S (fun q => q ∈ L) s.heap s.heap [] := va_S.rf
  have hfr : ∀ b, K b ∉ [9] → F b = F b := fun _ _ => rfl
  have hl := lv_entry ([.ref a0]) (n := 2) (Nat.le_of_ble_eq_true rfl)
  rw [lg_entry_eq]
  generalize (lg_sl ([.ref a0]) ++ List.replicate (2 - (lg_sl ([.ref a0])).length) Slot.unset).toArray = ls at hl ⊢
  have hl : lv_has ls 2 [(0, .ref a0)] := hl
  refine s_gen hP hS (fun H locs hP hS => ?_)
  obtain ⟨z0, q0, oY0, bz0, bq0⟩ := y_opY hI ha0
  have hz0 : ∀ k, k ∈ ([1, 3, 7, 8, 15, 16, 19, 25, 26, 27, 31, 32] : List Nat) → z0 k = z0 k := fun _ _ => rfl
  obtain ⟨v1, ev1⟩ : ∃ y : Int32, y = z0 5 := ⟨_, rfl⟩
  have eF_5 := ev1
  have e0_v1 := ev1
  refine th_join (fun g H locs => ∃ (G : Nat → va_E) (ls : Array Slot) (w2 : Int32), g = F0 m 129 ls [] ∧ lv_has ls 2 [(0, .ref a0), (1, .int w2)] ∧ va_P (dC, dI) vwCl (va_pl L G) H ∧ va_S (fun q => q ∈ L) s.heap H locs ∧ y_I K cs A G ∧ (∀ b, K b ∉ [9] → G b = F b) ∧ (∀ k, k ∈ ([1, 3, 7, 8, 15, 16, 19, 25, 26, 27, 31, 32] : List Nat) → y_fi G a0 k = z0 k) ∧ True ∧ (v1.toInt = 0)) (fun K129 => ?_) ?_
  refine th_join (fun g H locs => ∃ (G : Nat → va_E) (ls : Array Slot), g = F0 m 24 ls [] ∧ lv_has ls 2 [(0, .ref a0)] ∧ va_P (dC, dI) vwCl (va_pl L G) H ∧ va_S (fun q => q ∈ L) s.heap H locs ∧ y_I K cs A G ∧ (∀ b, K b ∉ [9] → G b = F b) ∧ (∀ k, k ∈ ([1, 3, 7, 8, 15, 16, 19, 25, 26, 27, 31, 32] : List Nat) → y_fi G a0 k = z0 k) ∧ (v1.toInt = 0)) (fun K24 => ?_) ?_
  · refine lv_aload_n hx hb dX7_name_0 rfl (lv_at hl 0 rfl) ?_
    refine th_get (D := (dC, dI)) (ci := 7) (v := .int (z0 5)) (C := RX7) (T := TX7) (N := 34) hx hb hts inX7 hown hK hP (hLK _ ha0 (by decide)) oY0 rfl 5 (by decide) (hts _ T_274) (fun _ h9 => h9) rfl dX7_name_1 ?_
    refine ax_eqi (y := v1) ev1.symm ?_
    refine lv_if_eq (tgt := 9) hx hb dX7_name_4 (by decide) (fun c3 => ?_) (fun c3 => ?_)
    · have c3 := (ax_eq (n := 0) (by decide)).mp c3
      refine lv_aload_n hx hb dX7_name_9 rfl (lv_at hl 0 rfl) ?_
      refine va_calli (va_runV (As := []) (rest := []) ⟨hx, hb, hml, hown, hts⟩ (y_X7_isWordHere l dC dI H.size hLK A hA F a0 ha0 hI) (cwV 0 hts (ax_gV T_280 T_281 T_282 T_265 T_24) rfl rfl rfl (by decide +kernel) ⟨Nat.le_of_ble_eq_true rfl, Nat.le_of_ble_eq_true rfl⟩) ⟨fun a U g mk q => ⟨q.1, s_pc (U := U) rfl rfl q.2⟩, s_recv hK hP (hLK _ ha0 (by decide)) (ci := 7) rfl oY0, fun U hU hW => ⟨rfl, s_pw hU hW hP hK hD hN⟩⟩ rfl rfl hl.1 rfl (lv_room (Nat.le_of_ble_eq_true rfl)) dX7_name_10 ⟨Nat.zero_le _, Nat.zero_le _⟩) hS (fun q _ h => h) (fun q h => h) (fun r5 F6 t H1 locs ht hvm hw hB hz1 hk1 hS => ?_)
      obtain ⟨hP, hK1⟩ := hB
      rw [ht] at hP
      generalize H1 = H at hP hS ⊢
      clear hz1 hk1 hvm hK1
      obtain ⟨h7, h9, hI, hfr1, hzf, h8⟩ := hw
      obtain ⟨z10, q11, oY12, bz13, bq14⟩ := y_opY hI ha0
      have hzf : ∀ k, k ∈ ([1, 3, 4, 5, 6, 7, 8, 11, 15, 16, 19, 25, 26, 27, 31, 32] : List Nat) → z10 k = z0 k := fun k hk => by have q9 := hzf k hk; rw [y_fiZ oY12 (s_sub (by decide) hk), y_fiZ oY0 (s_sub (by decide) hk)] at q9; exact q9
      have hz0 : ∀ k, k ∈ ([1, 3, 7, 8, 15, 16, 19, 25, 26, 27, 31, 32] : List Nat) → z10 k = z0 k := fun k hk => (hzf k (s_sub (by decide) hk)).trans (hz0 k hk)
      have ev1 : v1 = z10 5 := ev1.trans (hzf 5 (by decide)).symm
      have hfr : ∀ b, K b ∉ [9] → F6 b = F b := fun b hb9 => (hfr1 b (fun q => hb9 (s_sub (by decide) q))).trans (hfr b hb9)
      obtain ⟨v15, ev15⟩ : ∃ y : Int32, y = z10 2 := ⟨_, rfl⟩
      have qv15 : 0 ≤ v15.toInt ∧ v15.toInt ≤ 1600 := by rw [ev15]; exact y_bY2 bz13
      obtain ⟨v16, ev16⟩ : ∃ y : Int32, y = z10 3 := ⟨_, rfl⟩
      have qv16 : 0 ≤ v16.toInt ∧ v16.toInt ≤ 1600 := by rw [ev16]; exact y_bY3 bz13
      replace h8 : (r5.toInt = 0 ∨ v15.toInt < v16.toInt) := by have q9 := h8; rw [y_fiZ oY12 (k := 2) (by decide), ← ev15, y_fiZ oY12 (k := 3) (by decide), ← ev16] at q9; exact q9
      refine lv_if_eq (tgt := 24) hx hb dX7_name_13 (by decide) (fun c17 => ?_) (fun c17 => ?_)
      · have c17 := (ax_eq (n := 0) (by decide)).mp c17
        exact K24 _ _ _ ⟨F6, _, rfl, lv_sub hl [0] rfl, hP, hS, hI, hfr, (fun k hk => (y_fiZ oY12 (s_sub (by decide) hk)).trans (hz0 k hk)), (by omega)⟩
      · have c17 := mt (ax_eq (n := 0) (by decide)).mpr c17
        refine lv_aload_n hx hb dX7_name_16 rfl (lv_at hl 0 rfl) ?_
        refine va_calli (va_runV (As := []) (rest := []) ⟨hx, hb, hml, hown, hts⟩ (y_X7_ownHere l dC dI H.size hLK A hA F6 a0 ha0 hI) (cwV 0 hts (ax_gV T_283 T_284 T_285 T_265 T_25) rfl rfl rfl (by decide +kernel) ⟨Nat.le_of_ble_eq_true rfl, Nat.le_of_ble_eq_true rfl⟩) ⟨fun a U g mk q => ⟨q.1, s_pc (U := U) rfl rfl q.2⟩, s_recv hK hP (hLK _ ha0 (by decide)) (ci := 7) rfl oY12, fun U hU hW => ⟨rfl, s_pw hU hW hP hK hD hN⟩⟩ rfl rfl hl.1 rfl (lv_room (Nat.le_of_ble_eq_true rfl)) dX7_name_17 ⟨Nat.zero_le _, Nat.zero_le _⟩) hS (fun q _ h => h) (fun q h => h) (fun r19 F20 t H1 locs ht hvm hw hB hz1 hk1 hS => ?_)
        obtain ⟨hP, hK1⟩ := hB
        rw [ht] at hP
        generalize H1 = H at hP hS ⊢
        clear hz1 hk1 hvm hK1
        obtain ⟨h21, h23, hI, hfr1, hzf, h22⟩ := hw
        obtain ⟨z24, q25, oY26, bz27, bq28⟩ := y_opY hI ha0
        have hzf : ∀ k, k ∈ ([1, 3, 4, 5, 6, 7, 8, 11, 15, 16, 19, 25, 26, 27, 31, 32] : List Nat) → z24 k = z10 k := fun k hk => by have q9 := hzf k hk; rw [y_fiZ oY26 (s_sub (by decide) hk), y_fiZ oY12 (s_sub (by decide) hk)] at q9; exact q9
        have hz0 : ∀ k, k ∈ ([1, 3, 7, 8, 15, 16, 19, 25, 26, 27, 31, 32] : List Nat) → z24 k = z0 k := fun k hk => (hzf k (s_sub (by decide) hk)).trans (hz0 k hk)
        have ev1 : v1 = z24 5 := ev1.trans (hzf 5 (by decide)).symm
        have ev16 : v16 = z24 3 := ev16.trans (hzf 3 (by decide)).symm
        have hfr : ∀ b, K b ∉ [9] → F20 b = F b := fun b hb9 => (hfr1 b (fun q => hb9 (s_sub (by decide) q))).trans (hfr b hb9)
        refine lv_iconst (v := (-1)) hx hb dX7_name_20 (by decide) ?_
        refine lv_icmp_eq (tgt := 35) hx hb dX7_name_21 (by decide) (fun c29 => ?_) (fun c29 => ?_)
        · have c29 := (ax_eq (n := (-1)) (by decide)).mp c29
          refine lv_aload_n hx hb dX7_name_35 rfl (lv_at hl 0 rfl) ?_
          refine lv_aload_n hx hb dX7_name_36 rfl (lv_at hl 0 rfl) ?_
          refine th_get (D := (dC, dI)) (ci := 7) (v := .int (z24 2)) (C := RX7) (T := TX7) (N := 34) hx hb hts inX7 hown hK hP (hLK _ ha0 (by decide)) oY26 rfl 2 (by decide) (hts _ T_272) (fun _ h9 => h9) rfl dX7_name_37 ?_
          refine lv_topi (fun v30 ev30 => ?_)
          have qv30 : 0 ≤ v30.toInt ∧ v30.toInt ≤ 1600 := by rw [ev30]; exact y_bY2 bz27
          refine th_put (D := (dC, dI)) (ci := 7) (v := .int v30) (ty := .int) (C := RX7) (T := TX7) (N := 34) hx hb hts inX7 tyX7 tyX7_ok nmX7 hown hK hP hD hS (hLK _ ha0 (by decide)) oY26 rfl 11 (by decide) (hts _ T_1114) (fun _ h9 => h9) rfl (by decide +kernel) rfl rfl (Nat.le_of_ble_eq_true rfl) dX7_name_40 (fun H locs hP hS => ?_)
          rw [y_fs11] at hP
          obtain ⟨z31, hz32⟩ : ∃ g : Nat → Int32, g = upd z24 11 v30 := ⟨_, rfl⟩
          rw [← hz32] at hP
          have bz33 : y_bY z31 := by rw [hz32]; exact y_bp11 bz27
          have hP : va_P (dC, dI) vwCl (va_pl L (va_up F20 a0 (.inr (7, y_fl A z31 q25)))) H := hP
          obtain ⟨F34, hF35⟩ : ∃ G : Nat → va_E, G = va_up F20 a0 (.inr (7, y_fl A z31 q25)) := ⟨_, rfl⟩
          rw [← hF35] at hP
          have hI : y_I K cs A F34 := by rw [hF35]; exact y_clY hA hI ha0 bz33 bq28
          have hfr : ∀ b, K b ∉ [9] → F34 b = F b := by rw [hF35]; exact s_fr hfr ha0 (by decide)
          have oY36 : F34 a0 = .inr (7, y_fl A z31 q25) := by rw [hF35]; exact th_up
          have hz0 : ∀ k, k ∈ ([1, 3, 7, 8, 15, 16, 19, 25, 26, 27, 31, 32] : List Nat) → z31 k = z0 k := fun k hk => by rw [hz32]; exact (y_un (fun q => absurd hk (by rw [q]; decide))).trans (hz0 k hk)
          have ev1 : v1 = z31 5 := by rw [hz32]; exact ev1.trans (y_un (by decide)).symm
          have ev16 : v16 = z31 3 := by rw [hz32]; exact ev16.trans (y_un (by decide)).symm
          have ev30 : v30 = z31 2 := by rw [hz32]; exact ev30.trans (y_un (by decide)).symm
          obtain ⟨v37, ev37⟩ : ∃ y : Int32, y = z31 11 := ⟨_, rfl⟩
          have qv37 : v37.toInt = v30.toInt := by rw [ev37, hz32, y_ue]
          refine lv_iconst (v := 0) hx hb dX7_name_43 (by decide) ?_
          refine lv_istore_n (lv' := [(1, .int 0), (0, .ref a0)]) hx hb dX7_name_44 rfl hl (by decide) rfl (fun ls hl => ?_)
          have h39 : (0 : Int32).toInt = 0 := by decide
          refine th_loop (fun n g H locs => ∃ (G : Nat → va_E) (ls : Array Slot) (w38 : Int32), g = F0 m 45 ls [] ∧ lv_has ls 2 [(0, .ref a0), (1, .int w38)] ∧ va_P (dC, dI) vwCl (va_pl L G) H ∧ va_S (fun q => q ∈ L) s.heap H locs ∧ y_I K cs A G ∧ (∀ b, K b ∉ [9] → G b = F b) ∧ (∀ k, k ∈ ([1, 3, 7, 8, 15, 16, 19, 25, 26, 27, 31, 32] : List Nat) → y_fi G a0 k = z0 k) ∧ True ∧ (v1.toInt = 0) ∧ n = (1601 - (y_fi G a0 2).toInt).toNat) _ ⟨F34, _, 0, rfl, lv_sub hl [1, 0] rfl, hP, hS, hI, hfr, (fun k hk => (y_fiZ oY36 (s_sub (by decide) hk)).trans (hz0 k hk)), trivial, (by omega), rfl⟩ (fun n ih45 g H locs hq => ?_)
          obtain ⟨F42, ls, w38, rfl, hl, hP, hS, hI, hfr, hz0, h40, h41, hn⟩ := hq
          obtain ⟨z43, q44, oY45, bz46, bq47⟩ := y_opY hI ha0
          have hz0 : ∀ k, k ∈ ([1, 3, 7, 8, 15, 16, 19, 25, 26, 27, 31, 32] : List Nat) → z43 k = z0 k := fun k hk => (y_fiZ oY45 (s_sub (by decide) hk)).symm.trans (hz0 k hk)
          obtain ⟨v48, ev48⟩ : ∃ y : Int32, y = z43 2 := ⟨_, rfl⟩
          have qv48 : 0 ≤ v48.toInt ∧ v48.toInt ≤ 1600 := by rw [ev48]; exact y_bY2 bz46
          replace hn : n = (1601 - v48.toInt).toNat := by have q9 := hn; rw [y_fiZ oY45 (k := 2) (by decide), ← ev48] at q9; exact q9
          have hn_48 := hn
          have h49 : (z43 2).toInt = v48.toInt := by rw [ev48]
          refine lv_aload_n hx hb dX7_name_45 rfl (lv_at hl 0 rfl) ?_
          refine th_get (D := (dC, dI)) (ci := 7) (v := .int (z43 2)) (C := RX7) (T := TX7) (N := 34) hx hb hts inX7 hown hK hP (hLK _ ha0 (by decide)) oY45 rfl 2 (by decide) (hts _ T_272) (fun _ h9 => h9) rfl dX7_name_46 ?_
          refine ax_eqi (y := v48) ev48.symm ?_
          refine lv_aload_n hx hb dX7_name_49 rfl (lv_at hl 0 rfl) ?_
          refine th_get (D := (dC, dI)) (ci := 7) (v := .int (z43 3)) (C := RX7) (T := TX7) (N := 34) hx hb hts inX7 hown hK hP (hLK _ ha0 (by decide)) oY45 rfl 3 (by decide) (hts _ T_273) (fun _ h9 => h9) rfl dX7_name_50 ?_
          refine lv_topi (fun v50 ev50 => ?_)
          have qv50 : 0 ≤ v50.toInt ∧ v50.toInt ≤ 1600 := by rw [ev50]; exact y_bY3 bz46
          refine lv_icmp_ge (tgt := 129) hx hb dX7_name_53 (by decide) (fun c51 => ?_) (fun c51 => ?_)
          · have c51 := Int32.le_iff_toInt_le.mp c51
            exact K129 _ _ _ ⟨F42, _, w38, rfl, lv_sub hl [0, 1] rfl, hP, hS, hI, hfr, (fun k hk => (y_fiZ oY45 (s_sub (by decide) hk)).trans (hz0 k hk)), trivial, (by omega)⟩
          · have c51 := mt Int32.le_iff_toInt_le.mpr c51
            refine lv_aload_n hx hb dX7_name_56 rfl (lv_at hl 0 rfl) ?_
            refine th_get (D := (dC, dI)) (ci := 7) (v := .ref (A 0)) (C := RX7) (T := TX7) (N := 34) hx hb hts inX7 hown hK hP (hLK _ ha0 (by decide)) oY45 rfl 0 (by decide) (hts _ T_240) (fun _ h9 => h9) rfl dX7_name_57 ?_
            refine lv_aload_n hx hb dX7_name_60 rfl (lv_at hl 0 rfl) ?_
            refine th_get (D := (dC, dI)) (ci := 7) (v := .int (z43 2)) (C := RX7) (T := TX7) (N := 34) hx hb hts inX7 hown hK hP (hLK _ ha0 (by decide)) oY45 rfl 2 (by decide) (hts _ T_272) (fun _ h9 => h9) rfl dX7_name_61 ?_
            refine ax_eqi (y := v48) ev48.symm ?_
            obtain ⟨f52, o53, b54⟩ := y_op0 hI
            refine th_iald hx hb hK hP (hLK _ (y_k0 hA) (by decide)) 0 o53 rfl (th_in ⟨by omega, by omega⟩) dX7_name_64 ?_
            refine lv_topi (fun v55 ev55 => ?_)
            refine va_calli (va_runS (As := [.int v55]) (rest := []) ⟨hx, hb, hml, hown, hts⟩ (y_X7_isLetter l dC dI H.size F42 v55) (cwS 1 hts (ax_gS T_278 T_279 T_265 T_23) rfl rfl rfl (by decide +kernel) ⟨Nat.le_of_ble_eq_true rfl, Nat.le_of_ble_eq_true rfl⟩) ⟨fun a U g mk q => ⟨q.1, s_pc (U := U) rfl rfl q.2⟩, fun U hU hW => ⟨rfl, s_pw hU hW hP hK hD hN⟩⟩ rfl rfl hl.1 rfl (lv_room (Nat.le_of_ble_eq_true rfl)) dX7_name_65 ⟨Nat.zero_le _, Nat.zero_le _⟩) hS (fun q _ h => h) (fun q h => h) (fun r57 F58 t H1 locs ht hvm hw hB hz1 hk1 hS => ?_)
            obtain ⟨hP, hK1⟩ := hB
            rw [ht] at hP
            generalize H1 = H at hP hS ⊢
            clear hz1 hk1 hvm hK1
            obtain ⟨h59, h61, hG9, h60⟩ := hw
            rw [hG9] at hP
            refine lv_if_eq (tgt := 129) hx hb dX7_name_68 (by decide) (fun c62 => ?_) (fun c62 => ?_)
            · have c62 := (ax_eq (n := 0) (by decide)).mp c62
              exact K129 _ _ _ ⟨F42, _, w38, rfl, lv_sub hl [0, 1] rfl, hP, hS, hI, hfr, (fun k hk => (y_fiZ oY45 (s_sub (by decide) hk)).trans (hz0 k hk)), trivial, (by omega)⟩
            · have c62 := mt (ax_eq (n := 0) (by decide)).mpr c62
              have h63 := h61 (fun q => c62 (by rw [q]; decide))
              refine lv_aload_n hx hb dX7_name_71 rfl (lv_at hl 0 rfl) ?_
              refine th_get (D := (dC, dI)) (ci := 7) (v := .int (z43 2)) (C := RX7) (T := TX7) (N := 34) hx hb hts inX7 hown hK hP (hLK _ ha0 (by decide)) oY45 rfl 2 (by decide) (hts _ T_272) (fun _ h9 => h9) rfl dX7_name_72 ?_
              refine ax_eqi (y := v48) ev48.symm ?_
              refine lv_aload_n hx hb dX7_name_75 rfl (lv_at hl 0 rfl) ?_
              refine th_get (D := (dC, dI)) (ci := 7) (v := .int (z43 11)) (C := RX7) (T := TX7) (N := 34) hx hb hts inX7 hown hK hP (hLK _ ha0 (by decide)) oY45 rfl 11 (by decide) (hts _ T_1114) (fun _ h9 => h9) rfl dX7_name_76 ?_
              refine lv_topi (fun v64 ev64 => ?_)
              refine lv_isub hx hb dX7_name_79 ?_
              refine lv_topi (fun v65 ev65 => ?_)
              refine lv_bipush (v := 6) hx hb dX7_name_80 (by decide) ?_
              refine lv_icmp_ne (tgt := 96) hx hb dX7_name_82 (by decide) (fun c66 => ?_) (fun c66 => ?_)
              · have c66 := mt (ax_eq (n := 6) (by decide)).mpr c66
                refine lv_bipush (v := 27) hx hb dX7_name_96 (by decide) ?_
                refine lv_iload_n hx hb dX7_name_98 rfl (lv_at hl 1 rfl) ?_
                refine lv_imul hx hb dX7_name_99 ?_
                refine lv_topi (fun v67 ev67 => ?_)
                refine lv_aload_n hx hb dX7_name_100 rfl (lv_at hl 0 rfl) ?_
                refine th_get (D := (dC, dI)) (ci := 7) (v := .ref (A 0)) (C := RX7) (T := TX7) (N := 34) hx hb hts inX7 hown hK hP (hLK _ ha0 (by decide)) oY45 rfl 0 (by decide) (hts _ T_240) (fun _ h9 => h9) rfl dX7_name_101 ?_
                refine lv_aload_n hx hb dX7_name_104 rfl (lv_at hl 0 rfl) ?_
                refine th_get (D := (dC, dI)) (ci := 7) (v := .int (z43 2)) (C := RX7) (T := TX7) (N := 34) hx hb hts inX7 hown hK hP (hLK _ ha0 (by decide)) oY45 rfl 2 (by decide) (hts _ T_272) (fun _ h9 => h9) rfl dX7_name_105 ?_
                refine ax_eqi (y := v48) ev48.symm ?_
                refine th_iald hx hb hK hP (hLK _ (y_k0 hA) (by decide)) 0 o53 rfl (th_in ⟨by omega, by omega⟩) dX7_name_108 ?_
                refine lv_topi (fun v68 ev68 => ?_)
                refine lv_iadd hx hb dX7_name_109 ?_
                refine lv_topi (fun v69 ev69 => ?_)
                refine lv_bipush (v := 97) hx hb dX7_name_110 (by decide) ?_
                refine lv_isub hx hb dX7_name_112 ?_
                refine lv_topi (fun v70 ev70 => ?_)
                refine lv_iconst (v := 1) hx hb dX7_name_113 (by decide) ?_
                refine lv_iadd hx hb dX7_name_114 ?_
                refine lv_topi (fun v71 ev71 => ?_)
                refine lv_istore_n (lv' := [(1, .int v71), (0, .ref a0)]) hx hb dX7_name_115 rfl hl (by decide) rfl (fun ls hl => ?_)
                refine lv_aload_n hx hb dX7_name_116 rfl (lv_at hl 1 rfl) ?_
                refine lv_dup hx hb dX7_name_117 rfl ?_
                refine th_get (D := (dC, dI)) (ci := 7) (v := .int (z43 2)) (C := RX7) (T := TX7) (N := 34) hx hb hts inX7 hown hK hP (hLK _ ha0 (by decide)) oY45 rfl 2 (by decide) (hts _ T_272) (fun _ h9 => h9) rfl dX7_name_118 ?_
                refine ax_eqi (y := v48) ev48.symm ?_
                refine lv_iconst (v := 1) hx hb dX7_name_121 (by decide) ?_
                refine lv_iadd hx hb dX7_name_122 ?_
                refine lv_topi (fun v72 ev72 => ?_)
                have qv72 : v72.toInt = v48.toInt + 1 := by rw [ev72]; exact th_add rfl (by decide) ⟨by omega, by omega⟩
                refine th_put (D := (dC, dI)) (ci := 7) (v := .int v72) (ty := .int) (C := RX7) (T := TX7) (N := 34) hx hb hts inX7 tyX7 tyX7_ok nmX7 hown hK hP hD hS (hLK _ ha0 (by decide)) oY45 rfl 2 (by decide) (hts _ T_272) (fun _ h9 => h9) rfl (by decide +kernel) rfl rfl (Nat.le_of_ble_eq_true rfl) dX7_name_123 (fun H locs hP hS => ?_)
                rw [y_fs2] at hP
                obtain ⟨z73, hz74⟩ : ∃ g : Nat → Int32, g = upd z43 2 v72 := ⟨_, rfl⟩
                rw [← hz74] at hP
                have bz75 : y_bY z73 := by rw [hz74]; exact y_bp2 bz46 ⟨by omega, by omega⟩
                have hP : va_P (dC, dI) vwCl (va_pl L (va_up F42 a0 (.inr (7, y_fl A z73 q44)))) H := hP
                obtain ⟨F76, hF77⟩ : ∃ G : Nat → va_E, G = va_up F42 a0 (.inr (7, y_fl A z73 q44)) := ⟨_, rfl⟩
                rw [← hF77] at hP
                have hI : y_I K cs A F76 := by rw [hF77]; exact y_clY hA hI ha0 bz75 bq47
                have hfr : ∀ b, K b ∉ [9] → F76 b = F b := by rw [hF77]; exact s_fr hfr ha0 (by decide)
                have o78 : F76 (A 0) = .inl (cs 0, 1600, .inl f52) := by rw [hF77]; exact th_ne (th_kd (y_k0 hA) ha0 (by decide)) o53
                have oY79 : F76 a0 = .inr (7, y_fl A z73 q44) := by rw [hF77]; exact th_up
                have hz0 : ∀ k, k ∈ ([1, 3, 7, 8, 15, 16, 19, 25, 26, 27, 31, 32] : List Nat) → z73 k = z0 k := fun k hk => by rw [hz74]; exact (y_un (fun q => absurd hk (by rw [q]; decide))).trans (hz0 k hk)
                have ev50 : v50 = z73 3 := by rw [hz74]; exact ev50.trans (y_un (by decide)).symm
                have ev64 : v64 = z73 11 := by rw [hz74]; exact ev64.trans (y_un (by decide)).symm
                obtain ⟨v80, ev80⟩ : ∃ y : Int32, y = z73 2 := ⟨_, rfl⟩
                have qv80 : v80.toInt = v72.toInt := by rw [ev80, hz74, y_ue]
                refine lv_goto (tgt := 45) hx hb dX7_name_126 (by decide) ?_
                have h81 : (y_fi F76 a0 2).toInt = v80.toInt := by rw [y_fiZ oY79 (k := 2) (by decide), ← ev80]
                exact ih45 _ _ _ _ (by omega) ⟨F76, _, v71, rfl, lv_sub hl [1, 0] rfl, hP, hS, hI, hfr, (fun k hk => (y_fiZ oY79 (s_sub (by decide) hk)).trans (hz0 k hk)), trivial, (by omega), rfl⟩
              · have c66 := (ax_eq (n := 6) (by decide)).mp c66
                refine lv_aload_n hx hb dX7_name_85 rfl (lv_at hl 0 rfl) ?_
                refine lv_iconst (v := 1) hx hb dX7_name_86 (by decide) ?_
                refine lv_aload_n hx hb dX7_name_87 rfl (lv_at hl 0 rfl) ?_
                refine th_get (D := (dC, dI)) (ci := 7) (v := .int (z43 2)) (C := RX7) (T := TX7) (N := 34) hx hb hts inX7 hown hK hP (hLK _ ha0 (by decide)) oY45 rfl 2 (by decide) (hts _ T_272) (fun _ h9 => h9) rfl dX7_name_88 ?_
                refine ax_eqi (y := v48) ev48.symm ?_
                refine va_callv (va_runV (As := [.int 1, .int v48]) (rest := []) ⟨hx, hb, hml, hown, hts⟩ (y_X7_fail l dC dI H.size hLK A hA F42 a0 1 v48 ha0 (by decide) hI) (cwV 2 hts (ax_gV T_290 T_291 T_292 T_265 T_27) rfl rfl rfl (by decide +kernel) ⟨Nat.le_of_ble_eq_true rfl, Nat.le_of_ble_eq_true rfl⟩) ⟨fun a U g mk q => ⟨q.1, s_pc (U := U) rfl rfl q.2⟩, s_recv hK hP (hLK _ ha0 (by decide)) (ci := 7) rfl oY45, fun U hU hW => ⟨rfl, s_pw hU hW hP hK hD hN⟩⟩ rfl rfl hl.1 rfl (lv_room (Nat.le_of_ble_eq_true rfl)) dX7_name_91 ⟨Nat.zero_le _, Nat.zero_le _⟩) hS (fun q _ h => h) (fun q h => h) (fun F83 t H1 locs ht hvm hw hB hz1 hk1 hS => ?_)
                obtain ⟨hP, hK1⟩ := hB
                rw [ht] at hP
                generalize H1 = H at hP hS ⊢
                clear hz1 hk1 hvm hK1
                obtain ⟨h84, h86, hI, hfr1, hzf, h85⟩ := hw
                have o87 : F83 (A 0) = .inl (cs 0, 1600, .inl f52) := (hfr1 _ (by rw [(y_k0 hA)]; decide)).trans o53
                obtain ⟨z88, q89, oY90, bz91, bq92⟩ := y_opY hI ha0
                have hzf : ∀ k, k ∈ ([1, 2, 3, 4, 7, 8, 11, 15, 16, 19, 25, 26, 27, 31, 32] : List Nat) → z88 k = z43 k := fun k hk => by have q9 := hzf k hk; rw [y_fiZ oY90 (s_sub (by decide) hk), y_fiZ oY45 (s_sub (by decide) hk)] at q9; exact q9
                have hz0 : ∀ k, k ∈ ([1, 3, 7, 8, 15, 16, 19, 25, 26, 27, 31, 32] : List Nat) → z88 k = z0 k := fun k hk => (hzf k (s_sub (by decide) hk)).trans (hz0 k hk)
                have ev48 : v48 = z88 2 := ev48.trans (hzf 2 (by decide)).symm
                have ev50 : v50 = z88 3 := ev50.trans (hzf 3 (by decide)).symm
                have ev64 : v64 = z88 11 := ev64.trans (hzf 11 (by decide)).symm
                have hfr : ∀ b, K b ∉ [9] → F83 b = F b := fun b hb9 => (hfr1 b (fun q => hb9 (s_sub (by decide) q))).trans (hfr b hb9)
                obtain ⟨v93, ev93⟩ : ∃ y : Int32, y = z88 5 := ⟨_, rfl⟩
                replace h85 : (¬ v93.toInt = 0) := by have q9 := h85; rw [y_fiZ oY90 (k := 5) (by decide), ← ev93] at q9; exact q9
                refine lv_iconst (v := 0) hx hb dX7_name_94 (by decide) ?_
                have h94 : (0 : Int32).toInt = 0 := by decide
                exact W.iret (v := 0) hx hb hr (fun t ht hW => ⟨⟨0, F83, rfl, ⟨trivial, trivial, hI, hfr, fun k hk => (y_fiZ oY90 (s_sub (by decide) hk)).trans ((hz0 k hk).trans (y_fiZ oY0 (s_sub (by decide) hk)).symm), (by first | (rw [y_fiZ oY0 (k := 5) (by decide), ← eF_5, y_fiZ oY90 (k := 5) (by decide), ← ev93]; omega) | rw [y_fiZ oY0 (k := 5) (by decide), ← eF_5, y_fiZ oY90 (k := 5) (by decide), ← ev93])⟩, by rw [ht]; exact hP, va_K.moved hW.alike hK⟩, hS.F ht⟩) hS.2.2 dX7_name_95
        · have c29 := mt (ax_eq (n := (-1)) (by decide)).mpr c29
          exact K24 _ _ _ ⟨F20, _, rfl, lv_sub hl [0] rfl, hP, hS, hI, hfr, (fun k hk => (y_fiZ oY26 (s_sub (by decide) hk)).trans (hz0 k hk)), (by omega)⟩
    · have c3 := mt (ax_eq (n := 0) (by decide)).mpr c3
      refine lv_iconst (v := 0) hx hb dX7_name_7 (by decide) ?_
      have h95 : (0 : Int32).toInt = 0 := by decide
      exact W.iret (v := 0) hx hb hr (fun t ht hW => ⟨⟨0, F, rfl, ⟨trivial, trivial, hI, hfr, fun k hk => (y_fiZ oY0 (s_sub (by decide) hk)).trans ((hz0 k hk).trans (y_fiZ oY0 (s_sub (by decide) hk)).symm), (by first | (rw [y_fiZ oY0 (k := 5) (by decide), ← eF_5]; omega) | rw [y_fiZ oY0 (k := 5) (by decide), ← eF_5])⟩, by rw [ht]; exact hP, va_K.moved hW.alike hK⟩, hS.F ht⟩) hS.2.2 dX7_name_8
  · intro g H locs hq
    obtain ⟨F97, ls, rfl, hl, hP, hS, hI, hfr, hz0, h96⟩ := hq
    obtain ⟨z98, q99, oY100, bz101, bq102⟩ := y_opY hI ha0
    have hz0 : ∀ k, k ∈ ([1, 3, 7, 8, 15, 16, 19, 25, 26, 27, 31, 32] : List Nat) → z98 k = z0 k := fun k hk => (y_fiZ oY100 (s_sub (by decide) hk)).symm.trans (hz0 k hk)
    refine lv_aload_n hx hb dX7_name_24 rfl (lv_at hl 0 rfl) ?_
    refine lv_iconst (v := 1) hx hb dX7_name_25 (by decide) ?_
    refine lv_aload_n hx hb dX7_name_26 rfl (lv_at hl 0 rfl) ?_
    refine th_get (D := (dC, dI)) (ci := 7) (v := .int (z98 2)) (C := RX7) (T := TX7) (N := 34) hx hb hts inX7 hown hK hP (hLK _ ha0 (by decide)) oY100 rfl 2 (by decide) (hts _ T_272) (fun _ h9 => h9) rfl dX7_name_27 ?_
    refine lv_topi (fun v103 ev103 => ?_)
    have qv103 : 0 ≤ v103.toInt ∧ v103.toInt ≤ 1600 := by rw [ev103]; exact y_bY2 bz101
    refine va_callv (va_runV (As := [.int 1, .int v103]) (rest := []) ⟨hx, hb, hml, hown, hts⟩ (y_X7_fail l dC dI H.size hLK A hA F97 a0 1 v103 ha0 (by decide) hI) (cwV 2 hts (ax_gV T_290 T_291 T_292 T_265 T_27) rfl rfl rfl (by decide +kernel) ⟨Nat.le_of_ble_eq_true rfl, Nat.le_of_ble_eq_true rfl⟩) ⟨fun a U g mk q => ⟨q.1, s_pc (U := U) rfl rfl q.2⟩, s_recv hK hP (hLK _ ha0 (by decide)) (ci := 7) rfl oY100, fun U hU hW => ⟨rfl, s_pw hU hW hP hK hD hN⟩⟩ rfl rfl hl.1 rfl (lv_room (Nat.le_of_ble_eq_true rfl)) dX7_name_30 ⟨Nat.zero_le _, Nat.zero_le _⟩) hS (fun q _ h => h) (fun q h => h) (fun F105 t H1 locs ht hvm hw hB hz1 hk1 hS => ?_)
    obtain ⟨hP, hK1⟩ := hB
    rw [ht] at hP
    generalize H1 = H at hP hS ⊢
    clear hz1 hk1 hvm hK1
    obtain ⟨h106, h108, hI, hfr1, hzf, h107⟩ := hw
    obtain ⟨z109, q110, oY111, bz112, bq113⟩ := y_opY hI ha0
    have hzf : ∀ k, k ∈ ([1, 2, 3, 4, 7, 8, 11, 15, 16, 19, 25, 26, 27, 31, 32] : List Nat) → z109 k = z98 k := fun k hk => by have q9 := hzf k hk; rw [y_fiZ oY111 (s_sub (by decide) hk), y_fiZ oY100 (s_sub (by decide) hk)] at q9; exact q9
    have hz0 : ∀ k, k ∈ ([1, 3, 7, 8, 15, 16, 19, 25, 26, 27, 31, 32] : List Nat) → z109 k = z0 k := fun k hk => (hzf k (s_sub (by decide) hk)).trans (hz0 k hk)
    have ev103 : v103 = z109 2 := ev103.trans (hzf 2 (by decide)).symm
    have hfr : ∀ b, K b ∉ [9] → F105 b = F b := fun b hb9 => (hfr1 b (fun q => hb9 (s_sub (by decide) q))).trans (hfr b hb9)
    obtain ⟨v114, ev114⟩ : ∃ y : Int32, y = z109 5 := ⟨_, rfl⟩
    replace h107 : (¬ v114.toInt = 0) := by have q9 := h107; rw [y_fiZ oY111 (k := 5) (by decide), ← ev114] at q9; exact q9
    refine lv_iconst (v := 0) hx hb dX7_name_33 (by decide) ?_
    have h115 : (0 : Int32).toInt = 0 := by decide
    exact W.iret (v := 0) hx hb hr (fun t ht hW => ⟨⟨0, F105, rfl, ⟨trivial, trivial, hI, hfr, fun k hk => (y_fiZ oY111 (s_sub (by decide) hk)).trans ((hz0 k hk).trans (y_fiZ oY0 (s_sub (by decide) hk)).symm), (by first | (rw [y_fiZ oY0 (k := 5) (by decide), ← eF_5, y_fiZ oY111 (k := 5) (by decide), ← ev114]; omega) | rw [y_fiZ oY0 (k := 5) (by decide), ← eF_5, y_fiZ oY111 (k := 5) (by decide), ← ev114])⟩, by rw [ht]; exact hP, va_K.moved hW.alike hK⟩, hS.F ht⟩) hS.2.2 dX7_name_34
  · intro g H locs hq
    obtain ⟨F118, ls, w2, rfl, hl, hP, hS, hI, hfr, hz0, h116, h117⟩ := hq
    obtain ⟨z119, q120, oY121, bz122, bq123⟩ := y_opY hI ha0
    have hz0 : ∀ k, k ∈ ([1, 3, 7, 8, 15, 16, 19, 25, 26, 27, 31, 32] : List Nat) → z119 k = z0 k := fun k hk => (y_fiZ oY121 (s_sub (by decide) hk)).symm.trans (hz0 k hk)
    refine lv_aload_n hx hb dX7_name_129 rfl (lv_at hl 0 rfl) ?_
    refine lv_aload_n hx hb dX7_name_130 rfl (lv_at hl 0 rfl) ?_
    refine th_get (D := (dC, dI)) (ci := 7) (v := .int (z119 2)) (C := RX7) (T := TX7) (N := 34) hx hb hts inX7 hown hK hP (hLK _ ha0 (by decide)) oY121 rfl 2 (by decide) (hts _ T_272) (fun _ h9 => h9) rfl dX7_name_131 ?_
    refine lv_topi (fun v124 ev124 => ?_)
    have qv124 : 0 ≤ v124.toInt ∧ v124.toInt ≤ 1600 := by rw [ev124]; exact y_bY2 bz122
    refine th_put (D := (dC, dI)) (ci := 7) (v := .int v124) (ty := .int) (C := RX7) (T := TX7) (N := 34) hx hb hts inX7 tyX7 tyX7_ok nmX7 hown hK hP hD hS (hLK _ ha0 (by decide)) oY121 rfl 4 (by decide) (hts _ T_296) (fun _ h9 => h9) rfl (by decide +kernel) rfl rfl (Nat.le_of_ble_eq_true rfl) dX7_name_134 (fun H locs hP hS => ?_)
    rw [y_fs4] at hP
    obtain ⟨z125, hz126⟩ : ∃ g : Nat → Int32, g = upd z119 4 v124 := ⟨_, rfl⟩
    rw [← hz126] at hP
    have bz127 : y_bY z125 := by rw [hz126]; exact y_bp4 bz122
    have hP : va_P (dC, dI) vwCl (va_pl L (va_up F118 a0 (.inr (7, y_fl A z125 q120)))) H := hP
    obtain ⟨F128, hF129⟩ : ∃ G : Nat → va_E, G = va_up F118 a0 (.inr (7, y_fl A z125 q120)) := ⟨_, rfl⟩
    rw [← hF129] at hP
    have hI : y_I K cs A F128 := by rw [hF129]; exact y_clY hA hI ha0 bz127 bq123
    have hfr : ∀ b, K b ∉ [9] → F128 b = F b := by rw [hF129]; exact s_fr hfr ha0 (by decide)
    have oY130 : F128 a0 = .inr (7, y_fl A z125 q120) := by rw [hF129]; exact th_up
    have hz0 : ∀ k, k ∈ ([1, 3, 7, 8, 15, 16, 19, 25, 26, 27, 31, 32] : List Nat) → z125 k = z0 k := fun k hk => by rw [hz126]; exact (y_un (fun q => absurd hk (by rw [q]; decide))).trans (hz0 k hk)
    have ev124 : v124 = z125 2 := by rw [hz126]; exact ev124.trans (y_un (by decide)).symm
    obtain ⟨v131, ev131⟩ : ∃ y : Int32, y = z125 4 := ⟨_, rfl⟩
    have qv131 : v131.toInt = v124.toInt := by rw [ev131, hz126, y_ue]
    refine lv_iload_n hx hb dX7_name_137 rfl (lv_at hl 1 rfl) ?_
    obtain ⟨v132, ev132⟩ : ∃ y : Int32, y = z125 5 := ⟨_, rfl⟩
    exact W.iret (v := w2) hx hb hr (fun t ht hW => ⟨⟨w2, F128, rfl, ⟨trivial, trivial, hI, hfr, fun k hk => (y_fiZ oY130 (s_sub (by decide) hk)).trans ((hz0 k hk).trans (y_fiZ oY0 (s_sub (by decide) hk)).symm), (by first | (rw [y_fiZ oY0 (k := 5) (by decide), ← eF_5, y_fiZ oY130 (k := 5) (by decide), ← ev132]; omega) | rw [y_fiZ oY0 (k := 5) (by decide), ← eF_5, y_fiZ oY130 (k := 5) (by decide), ← ev132])⟩, by rw [ht]; exact hP, va_K.moved hW.alike hK⟩, hS.F ht⟩) hS.2.2 dX7_name_138
