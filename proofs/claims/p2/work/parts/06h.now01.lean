set_option maxHeartbeats 4000000 in
set_option maxRecDepth 100000 in
theorem y_X7_endsTop (l : Launch) (dC : Nat → ClassId) (dI : Nat → Nat → Nat) (sz : Nat) {L : List Nat} {K : Nat → Nat} {cs : Nat → ClassId} (hLK : ∀ a {k : Nat}, K a = k → k ≠ 0 → a ∈ L) (A : Nat → Nat) (hA : y_A K A) (F : Nat → va_E) (a0 : Nat) (x1 : Int32) (ha0 : K a0 = 9) (hx1 : 0 ≤ x1.toInt ∧ x1.toInt ≤ 3) (hI : y_I K cs A F) (hpn : (0 ≤ (y_c (y_at F (A 20)) (109 + 6 * x1.toInt)).toInt ∧ (y_c (y_at F (A 20)) (109 + 6 * x1.toInt)).toInt ≤ 15)) : Met l yX7_endsTop (Cond.code yX7_endsTop cX7_endsTop 3 none :: T0) ({ frames := 3, cells := 0, slots := 0, locals := 66 }) (va_Pc [.ref a0, .int x1] (s_W dC dI sz L F [(cs 0, .int), (cs 1, .byte), (cs 2, .long), (cs 3, .object RX5), (cs 4, .object RX4), (cs 5, .array .int), (cs 6, .char), (cs 7, .boolean)])) (va_Qv (fun (G : Nat → va_E) => True ∧ True ∧ y_I K cs A G ∧ (∀ b, K b ∉ [70] → G b = F b) ∧ (∀ k, k ∈ ([1, 2, 3, 4, 5, 6, 7, 8, 11, 15, 16, 19, 25, 26, 27, 31, 32] : List Nat) → y_fi G a0 k = y_fi F a0 k) ∧ (y_ET (y_c (y_at F (A 13)) 387).toInt (y_at F (A 20)) x1.toInt (y_at G (A 20)))) (fun (G : Nat → va_E) (t : State) => va_P (dC, dI) vwCl (va_pl L G) t.heap ∧ va_K (dC, dI) vwCl [(cs 0, .int), (cs 1, .byte), (cs 2, .long), (cs 3, .object RX5), (cs 4, .object RX4), (cs 5, .array .int), (cs 6, .char), (cs 7, .boolean)] t) (fun q => q ∈ L)) 0 0 (fun q => q ∈ L) := by
  refine Met.ofW (cc := cX7_endsTop) (maxL := 3) (ret := none) (by decide) rfl ?_
  intro p e s m args below meth c s₁ B hml hv
  obtain ⟨rfl, hsz, hP, hK, hD, hN⟩ := hv
  have hx := B.exec
  have hb := B.bytes
  have hr := B.returns
  have hts : ∀ w ∈ T0, w.before _ s = true := fun w h => atoms_spec (ws := Cond.code yX7_endsTop cX7_endsTop 3 none :: T0) B.pre w (List.mem_cons_of_mem _ h)
  have hown : s.vm.findClass RX7 = some m.cls := findClass_of_methodNamed B.named
  have hlocks := B.notSynchronized
  have hS : va_S (fun q => q ∈ L) s.heap s.heap [] := va_S.rf
  have hfr : ∀ b, K b ∉ [70] → F b = F b := fun _ _ => rfl
  have hl := lv_entry ([.ref a0, .int x1]) (n := 3) (Nat.le_of_ble_eq_true rfl)
  rw [lg_entry_eq]
  generalize (lg_sl ([.ref a0, .int x1]) ++ List.replicate (3 - (lg_sl ([.ref a0, .int x1])).length) Slot.unset).toArray = ls at hl ⊢
  have hl : lv_has ls 3 [(0, .ref a0), (1, .int x1)] := hl
  refine s_gen hP hS (fun H locs hP hS => ?_)
  obtain ⟨z0, q0, oY0, bz0, bq0⟩ := y_opY hI ha0
  have hz0 : ∀ k, k ∈ ([1, 2, 3, 4, 5, 6, 7, 8, 11, 15, 16, 19, 25, 26, 27, 31, 32] : List Nat) → z0 k = z0 k := fun _ _ => rfl
  obtain ⟨f1, o2, b3⟩ := y_op13 hI
  obtain ⟨f4, o5, b6⟩ := y_op20 hI
  replace hpn : (0 ≤ (y_c f4 (109 + 6 * x1.toInt)).toInt ∧ (y_c f4 (109 + 6 * x1.toInt)).toInt ≤ 15) := by have q9 := hpn; rw [y_atE o5] at q9; exact q9
  refine lv_aload_n hx hb dX7_endsTop_0 rfl (lv_at hl 0 rfl) ?_
  refine lv_iload_n hx hb dX7_endsTop_1 rfl (lv_at hl 1 rfl) ?_
  have rg7 : 0 ≤ x1.toInt ∧ x1.toInt ≤ 3 := ⟨by omega, by omega⟩
  refine va_calli (va_runV (As := [.int x1]) (rest := []) ⟨hx, hb, hml, hown, hts⟩ (y_X7_top l dC dI H.size hLK A hA F a0 x1 ha0 rg7 hI) (cwV 1 hts (ax_gV T_1074 T_1076 T_1077 T_265 T_1075) rfl rfl rfl (by decide +kernel) ⟨Nat.le_of_ble_eq_true rfl, Nat.le_of_ble_eq_true rfl⟩) ⟨fun a U g mk q => ⟨q.1, s_pc (U := U) rfl rfl q.2⟩, s_recv hK hP (hLK _ ha0 (by decide)) (ci := 7) rfl oY0, fun U hU hW => ⟨rfl, s_pw hU hW hP hK hD hN⟩⟩ rfl rfl hl.1 rfl (lv_room (Nat.le_of_ble_eq_true rfl)) dX7_endsTop_2 ⟨Nat.zero_le _, Nat.zero_le _⟩) hS (fun q _ h => h) (fun q h => h) (fun r9 F10 t H1 locs ht hvm hw hB hz1 hk1 hS => ?_)
  obtain ⟨hP, hK1⟩ := hB
  rw [ht] at hP
  generalize H1 = H at hP hS ⊢
  clear hz1 hk1 hvm hK1
  obtain ⟨h11, h13, hI, hfr1, hzf, h12⟩ := hw
  have o14 : F10 (A 13) = .inl (cs 0, 400, .inl f1) := (hfr1 _ (by rw [(y_k13 hA)]; decide)).trans o2
  have o15 : F10 (A 20) = .inl (cs 0, 918, .inl f4) := (hfr1 _ (by rw [(y_k20 hA)]; decide)).trans o5
  have oY16 : F10 a0 = .inr (7, y_fl A z0 q0) := (hfr1 _ (by rw [ha0]; decide)).trans oY0
  have hfr : ∀ b, K b ∉ [70] → F10 b = F b := fun b hb9 => (hfr1 b (fun q => hb9 (s_sub (by decide) q))).trans (hfr b hb9)
  replace h12 : (r9 = y_c f4 (109 + 6 * x1.toInt) - 1) := by have q9 := h12; rw [y_atE o5] at q9; exact q9
  have h17 := congrArg Int32.toInt h12
  have h18 : -1 ≤ r9.toInt ∧ r9.toInt ≤ 14 := by have q9 : r9.toInt = (y_c f4 (109 + 6 * x1.toInt)).toInt - 1 := (by rw [h12]; exact th_sub rfl (by decide) ⟨by omega, by omega⟩); exact ⟨by omega, by omega⟩
  have h19 : r9.toInt = (y_c f4 (109 + 6 * x1.toInt)).toInt - 1 := by rw [h12]; exact th_sub rfl (by decide) ⟨by omega, by omega⟩
  refine lv_istore_n (lv' := [(2, .int r9), (0, .ref a0), (1, .int x1)]) hx hb dX7_endsTop_5 rfl hl (by decide) rfl (fun ls hl => ?_)
  refine lv_iload_n hx hb dX7_endsTop_6 rfl (lv_at hl 0 rfl) ?_
  refine lv_if_lt (tgt := 44) hx hb dX7_endsTop_7 (by decide) (fun c20 => ?_) (fun c20 => ?_)
  · have c20 := (ax_lt (n := 0) (by decide)).mp c20
    exact W.vret hx hb hr (fun t ht hW => ⟨⟨F10, rfl, ⟨trivial, trivial, hI, hfr, fun k hk => (y_fiZ oY16 (s_sub (by decide) hk)).trans ((hz0 k hk).trans (y_fiZ oY0 (s_sub (by decide) hk)).symm), (by rw [y_atE o2, y_atE o5, y_atE o15]; exact (Or.inl ⟨by omega, rfl⟩))⟩, by rw [ht]; exact hP, va_K.moved hW.alike hK⟩, hS.F ht⟩) hS.2.2 dX7_endsTop_44
  · have c20 := mt (ax_lt (n := 0) (by decide)).mpr c20
    refine lv_aload_n hx hb dX7_endsTop_10 rfl (lv_at hl 1 rfl) ?_
    refine th_get (D := (dC, dI)) (ci := 7) (v := .ref (A 20)) (C := RX7) (T := TX7) (N := 34) hx hb hts inX7 hown hK hP (hLK _ ha0 (by decide)) oY16 rfl 20 (by decide) (hts _ T_251) (fun _ h9 => h9) rfl dX7_endsTop_11 ?_
    refine lv_iload_n hx hb dX7_endsTop_14 rfl (lv_at hl 2 rfl) ?_
    refine lv_iload_n hx hb dX7_endsTop_15 rfl (lv_at hl 0 rfl) ?_
    refine lv_iconst (v := 0) hx hb dX7_endsTop_16 (by decide) ?_
    have rg21 : 0 ≤ r9.toInt ∧ r9.toInt ≤ 15 := ⟨by omega, by omega⟩
    refine va_calli (va_runS (As := [.int x1, .int r9, .int 0]) (rest := [.ref (A 20)]) ⟨hx, hb, hml, hown, hts⟩ (y_X7_partAt l dC dI H.size F10 x1 r9 0 rg7 rg21 (by decide)) (cwS 3 hts (ax_gS T_1078 T_1080 T_265 T_1079) rfl rfl rfl (by decide +kernel) ⟨Nat.le_of_ble_eq_true rfl, Nat.le_of_ble_eq_true rfl⟩) ⟨fun a U g mk q => ⟨q.1, s_pc (U := U) rfl rfl q.2⟩, fun U hU hW => ⟨rfl, s_pw hU hW hP hK hD hN⟩⟩ rfl rfl hl.1 rfl (lv_room (Nat.le_of_ble_eq_true rfl)) dX7_endsTop_17 ⟨Nat.zero_le _, Nat.zero_le _⟩) hS (fun q _ h => h) (fun q h => h) (fun r23 F24 t H1 locs ht hvm hw hB hz1 hk1 hS => ?_)
    obtain ⟨hP, hK1⟩ := hB
    rw [ht] at hP
    generalize H1 = H at hP hS ⊢
    clear hz1 hk1 hvm hK1
    obtain ⟨h25, h27, hG9, h26⟩ := hw
    rw [hG9] at hP
    replace h26 : (r23.toInt = 288 + 48 * x1.toInt + 3 * r9.toInt + 0) := by have q9 := h26; exact q9
    refine th_iald hx hb hK hP (hLK _ (y_k20 hA) (by decide)) 0 o15 rfl (th_in ⟨by omega, by omega⟩) dX7_endsTop_20 ?_
    refine lv_topi (fun v28 ev28 => ?_)
    have Ev28 : v28 = y_c f4 (285 + 48 * x1.toInt + 3 * (y_c f4 (109 + 6 * x1.toInt)).toInt) := ev28.trans (y_ci (by omega))
    have tEv28 := congrArg Int32.toInt Ev28
    refine lv_aload_n hx hb dX7_endsTop_21 rfl (lv_at hl 1 rfl) ?_
    refine va_calli (va_runV (As := []) (rest := [.int v28]) ⟨hx, hb, hml, hown, hts⟩ (y_X7_lines l dC dI H.size hLK A hA F10 a0 ha0 hI) (cwV 0 hts (ax_gV T_1030 T_1032 T_1033 T_265 T_1031) rfl rfl rfl (by decide +kernel) ⟨Nat.le_of_ble_eq_true rfl, Nat.le_of_ble_eq_true rfl⟩) ⟨fun a U g mk q => ⟨q.1, s_pc (U := U) rfl rfl q.2⟩, s_recv hK hP (hLK _ ha0 (by decide)) (ci := 7) rfl oY16, fun U hU hW => ⟨rfl, s_pw hU hW hP hK hD hN⟩⟩ rfl rfl hl.1 rfl (lv_room (Nat.le_of_ble_eq_true rfl)) dX7_endsTop_22 ⟨Nat.zero_le _, Nat.zero_le _⟩) hS (fun q _ h => h) (fun q h => h) (fun r30 F31 t H1 locs ht hvm hw hB hz1 hk1 hS => ?_)
    obtain ⟨hP, hK1⟩ := hB
    rw [ht] at hP
    generalize H1 = H at hP hS ⊢
    clear hz1 hk1 hvm hK1
    obtain ⟨h32, h34, hI, hfr1, hzf, h33⟩ := hw
    have o35 : F31 (A 13) = .inl (cs 0, 400, .inl f1) := (hfr1 _ (by rw [(y_k13 hA)]; decide)).trans o14
    have o36 : F31 (A 20) = .inl (cs 0, 918, .inl f4) := (hfr1 _ (by rw [(y_k20 hA)]; decide)).trans o15
    have oY37 : F31 a0 = .inr (7, y_fl A z0 q0) := (hfr1 _ (by rw [ha0]; decide)).trans oY16
    have hfr : ∀ b, K b ∉ [70] → F31 b = F b := fun b hb9 => (hfr1 b (fun q => hb9 (s_sub (by decide) q))).trans (hfr b hb9)
    replace h33 : (r30 = y_c f1 387) := by have q9 := h33; rw [y_atE o14] at q9; exact q9
    have h38 := congrArg Int32.toInt h33
    refine lv_icmp_ne (tgt := 44) hx hb dX7_endsTop_25 (by decide) (fun c39 => ?_) (fun c39 => ?_)
    · have c39 := mt Int32.toInt_inj.symm.mpr c39
      exact W.vret hx hb hr (fun t ht hW => ⟨⟨F31, rfl, ⟨trivial, trivial, hI, hfr, fun k hk => (y_fiZ oY37 (s_sub (by decide) hk)).trans ((hz0 k hk).trans (y_fiZ oY0 (s_sub (by decide) hk)).symm), (by rw [y_atE o2, y_atE o5, y_atE o36]; exact (Or.inr (Or.inl ⟨by omega, by omega, rfl⟩)))⟩, by rw [ht]; exact hP, va_K.moved hW.alike hK⟩, hS.F ht⟩) hS.2.2 dX7_endsTop_44
    · have c39 := Int32.toInt_inj.symm.mp c39
      refine lv_aload_n hx hb dX7_endsTop_28 rfl (lv_at hl 1 rfl) ?_
      refine lv_iload_n hx hb dX7_endsTop_29 rfl (lv_at hl 2 rfl) ?_
      refine lv_aload_n hx hb dX7_endsTop_30 rfl (lv_at hl 1 rfl) ?_
      refine th_get (D := (dC, dI)) (ci := 7) (v := .ref (A 20)) (C := RX7) (T := TX7) (N := 34) hx hb hts inX7 hown hK hP (hLK _ ha0 (by decide)) oY37 rfl 20 (by decide) (hts _ T_251) (fun _ h9 => h9) rfl dX7_endsTop_31 ?_
      refine lv_iload_n hx hb dX7_endsTop_34 rfl (lv_at hl 2 rfl) ?_
      refine lv_iload_n hx hb dX7_endsTop_35 rfl (lv_at hl 0 rfl) ?_
      refine lv_iconst (v := 2) hx hb dX7_endsTop_36 (by decide) ?_
      refine va_calli (va_runS (As := [.int x1, .int r9, .int 2]) (rest := [.ref (A 20), .int x1, .ref a0]) ⟨hx, hb, hml, hown, hts⟩ (y_X7_partAt l dC dI H.size F31 x1 r9 2 rg7 rg21 (by decide)) (cwS 3 hts (ax_gS T_1078 T_1080 T_265 T_1079) rfl rfl rfl (by decide +kernel) ⟨Nat.le_of_ble_eq_true rfl, Nat.le_of_ble_eq_true rfl⟩) ⟨fun a U g mk q => ⟨q.1, s_pc (U := U) rfl rfl q.2⟩, fun U hU hW => ⟨rfl, s_pw hU hW hP hK hD hN⟩⟩ rfl rfl hl.1 rfl (lv_room (Nat.le_of_ble_eq_true rfl)) dX7_endsTop_37 ⟨Nat.zero_le _, Nat.zero_le _⟩) hS (fun q _ h => h) (fun q h => h) (fun r41 F42 t H1 locs ht hvm hw hB hz1 hk1 hS => ?_)
      obtain ⟨hP, hK1⟩ := hB
      rw [ht] at hP
      generalize H1 = H at hP hS ⊢
      clear hz1 hk1 hvm hK1
      obtain ⟨h43, h45, hG9, h44⟩ := hw
      rw [hG9] at hP
      replace h44 : (r41.toInt = 288 + 48 * x1.toInt + 3 * r9.toInt + 2) := by have q9 := h44; exact q9
      refine th_iald hx hb hK hP (hLK _ (y_k20 hA) (by decide)) 0 o36 rfl (th_in ⟨by omega, by omega⟩) dX7_endsTop_40 ?_
      refine lv_topi (fun v46 ev46 => ?_)
      have Ev46 : v46 = y_c f4 (287 + 48 * x1.toInt + 3 * (y_c f4 (109 + 6 * x1.toInt)).toInt) := ev46.trans (y_ci (by omega))
      have tEv46 := congrArg Int32.toInt Ev46
      refine va_callv (va_runV (As := [.int x1, .int v46]) (rest := []) ⟨hx, hb, hml, hown, hts⟩ (y_X7_dies l dC dI H.size hLK A hA F31 a0 x1 v46 ha0 rg7 hI (by rw [y_atE o36]; exact hpn)) (cwV 2 hts (ax_gV T_1106 T_1108 T_1109 T_265 T_1107) rfl rfl rfl (by decide +kernel) ⟨Nat.le_of_ble_eq_true rfl, Nat.le_of_ble_eq_true rfl⟩) ⟨fun a U g mk q => ⟨q.1, s_pc (U := U) rfl rfl q.2⟩, s_recv hK hP (hLK _ ha0 (by decide)) (ci := 7) rfl oY37, fun U hU hW => ⟨rfl, s_pw hU hW hP hK hD hN⟩⟩ rfl rfl hl.1 rfl (lv_room (Nat.le_of_ble_eq_true rfl)) dX7_endsTop_41 ⟨Nat.zero_le _, Nat.zero_le _⟩) hS (fun q _ h => h) (fun q h => h) (fun F48 t H1 locs ht hvm hw hB hz1 hk1 hS => ?_)
      obtain ⟨hP, hK1⟩ := hB
      rw [ht] at hP
      generalize H1 = H at hP hS ⊢
      clear hz1 hk1 hvm hK1
      obtain ⟨h49, h51, hI, hfr1, hzf, h50⟩ := hw
      have o52 : F48 (A 13) = .inl (cs 0, 400, .inl f1) := (hfr1 _ (by rw [(y_k13 hA)]; decide)).trans o35
      have oY53 : F48 a0 = .inr (7, y_fl A z0 q0) := (hfr1 _ (by rw [ha0]; decide)).trans oY37
      have hfr : ∀ b, K b ∉ [70] → F48 b = F b := fun b hb9 => (hfr1 b (fun q => hb9 (s_sub (by decide) q))).trans (hfr b hb9)
      obtain ⟨f54, o55, b56⟩ := y_op20 hI
      replace h50 : (∀ j : Int, 0 ≤ j → y_c f54 j = y_die f4 x1.toInt (y_c f4 (109 + 6 * x1.toInt)).toInt v46 j) := by have q9 := h50; rw [y_atE o55, y_atE o36] at q9; exact q9
      exact W.vret hx hb hr (fun t ht hW => ⟨⟨F48, rfl, ⟨trivial, trivial, hI, hfr, fun k hk => (y_fiZ oY53 (s_sub (by decide) hk)).trans ((hz0 k hk).trans (y_fiZ oY0 (s_sub (by decide) hk)).symm), (by rw [y_atE o2, y_atE o5, y_atE o55]; exact (Or.inr (Or.inr ⟨by omega, fun j hj => by rw [← Ev46]; exact h50 j hj⟩)))⟩, by rw [ht]; exact hP, va_K.moved hW.alike hK⟩, hS.F ht⟩) hS.2.2 dX7_endsTop_44

set_option maxHeartbeats 4000000 in
set_option maxRecDepth 100000 in
theorem y_X7_clears (l : Launch) (dC : Nat → ClassId) (dI : Nat → Nat → Nat) (sz : Nat) {L : List Nat} {K : Nat → Nat} {cs : Nat → ClassId} (hLK : ∀ a {k : Nat}, K a = k → k ≠ 0 → a ∈ L) (A : Nat → Nat) (hA : y_A K A) (F : Nat → va_E) (a0 : Nat) (x1 : Int32) (ha0 : K a0 = 9) (hx1 : 0 ≤ x1.toInt ∧ x1.toInt ≤ 3) (hI : y_I K cs A F) (hW0 : y_W0 (y_at F (A 20)) x1.toInt) (hWs : y_Ws (y_c (y_at F (A 13)) 387).toInt (y_at F (A 20)) x1.toInt) : Met l yX7_clears (Cond.code yX7_clears cX7_clears 3 none :: T0) ({ frames := 4, cells := 0, slots := 0, locals := 88 }) (va_Pc [.ref a0, .int x1] (s_W dC dI sz L F [(cs 0, .int), (cs 1, .byte), (cs 2, .long), (cs 3, .object RX5), (cs 4, .object RX4), (cs 5, .array .int), (cs 6, .char), (cs 7, .boolean)])) (va_Qv (fun (G : Nat → va_E) => True ∧ True ∧ y_I K cs A G ∧ (∀ b, K b ∉ [70] → G b = F b) ∧ (∀ k, k ∈ ([1, 2, 3, 4, 5, 6, 7, 8, 11, 15, 16, 19, 25, 26, 27, 31, 32] : List Nat) → y_fi G a0 k = y_fi F a0 k) ∧ (y_W0 (y_at G (A 20)) x1.toInt ∧ y_Ws (y_c (y_at F (A 13)) 387).toInt (y_at G (A 20)) x1.toInt ∧ y_Wt (y_c (y_at F (A 13)) 387).toInt (y_at G (A 20)) x1.toInt ∧ y_fw x1.toInt (y_at F (A 20)) (y_at G (A 20)))) (fun (G : Nat → va_E) (t : State) => va_P (dC, dI) vwCl (va_pl L G) t.heap ∧ va_K (dC, dI) vwCl [(cs 0, .int), (cs 1, .byte), (cs 2, .long), (cs 3, .object RX5), (cs 4, .object RX4), (cs 5, .array .int), (cs 6, .char), (cs 7, .boolean)] t) (fun q => q ∈ L)) 0 0 (fun q => q ∈ L) := by
  refine Met.ofW (cc := cX7_clears) (maxL := 3) (ret := none) (by decide) rfl ?_
  intro p e s m args below meth c s₁ B hml hv
  obtain ⟨rfl, hsz, hP, hK, hD, hN⟩ := hv
  have hx := B.exec
  have hb := B.bytes
  have hr := B.returns
  have hts : ∀ w ∈ T0, w.before _ s = true := fun w h => atoms_spec (ws := Cond.code yX7_clears cX7_clears 3 none :: T0) B.pre w (List.mem_cons_of_mem _ h)
  have hown : s.vm.findClass RX7 = some m.cls := findClass_of_methodNamed B.named
  have hlocks := B.notSynchronized
  have hS : va_S (fun q => q ∈ L) s.heap s.heap [] := va_S.rf
  have hfr : ∀ b, K b ∉ [70] → F b = F b := fun _ _ => rfl
  have hl := lv_entry ([.ref a0, .int x1]) (n := 3) (Nat.le_of_ble_eq_true rfl)
  rw [lg_entry_eq]
  generalize (lg_sl ([.ref a0, .int x1]) ++ List.replicate (3 - (lg_sl ([.ref a0, .int x1])).length) Slot.unset).toArray = ls at hl ⊢
  have hl : lv_has ls 3 [(0, .ref a0), (1, .int x1)] := hl
  refine s_gen hP hS (fun H locs hP hS => ?_)
  obtain ⟨z0, q0, oY0, bz0, bq0⟩ := y_opY hI ha0
  have hz0 : ∀ k, k ∈ ([1, 2, 3, 4, 5, 6, 7, 8, 11, 15, 16, 19, 25, 26, 27, 31, 32] : List Nat) → z0 k = z0 k := fun _ _ => rfl
  obtain ⟨f1, o2, b3⟩ := y_op13 hI
  obtain ⟨f4, o5, b6⟩ := y_op20 hI
  replace hW0 : y_W0 f4 x1.toInt := by have q9 := hW0; rw [y_atE o5] at q9; exact q9
  replace hWs : y_Ws (y_c f1 387).toInt f4 x1.toInt := by have q9 := hWs; rw [y_atE o2, y_atE o5] at q9; exact q9
  have hn7 := hW0.2.2.2
  refine lv_aload_n hx hb dX7_clears_0 rfl (lv_at hl 0 rfl) ?_
  refine lv_iload_n hx hb dX7_clears_1 rfl (lv_at hl 1 rfl) ?_
  have rg8 : 0 ≤ x1.toInt ∧ x1.toInt ≤ 3 := ⟨by omega, by omega⟩
  refine va_callv (va_runV (As := [.int x1]) (rest := []) ⟨hx, hb, hml, hown, hts⟩ (y_X7_endsTop l dC dI H.size hLK A hA F a0 x1 ha0 rg8 hI (by rw [y_atE o5]; exact hW0.2.2.2)) (cwV 1 hts (ax_gV T_1089 T_1091 T_1092 T_265 T_1090) rfl rfl rfl (by decide +kernel) ⟨Nat.le_of_ble_eq_true rfl, Nat.le_of_ble_eq_true rfl⟩) ⟨fun a U g mk q => ⟨q.1, s_pc (U := U) rfl rfl q.2⟩, s_recv hK hP (hLK _ ha0 (by decide)) (ci := 7) rfl oY0, fun U hU hW => ⟨rfl, s_pw hU hW hP hK hD hN⟩⟩ rfl rfl hl.1 rfl (lv_room (Nat.le_of_ble_eq_true rfl)) dX7_clears_2 ⟨Nat.zero_le _, Nat.zero_le _⟩) hS (fun q _ h => h) (fun q h => h) (fun F10 t H1 locs ht hvm hw hB hz1 hk1 hS => ?_)
  obtain ⟨hP, hK1⟩ := hB
  rw [ht] at hP
  generalize H1 = H at hP hS ⊢
  clear hz1 hk1 hvm hK1
  obtain ⟨h11, h13, hI, hfr1, hzf, h12⟩ := hw
  have o14 : F10 (A 13) = .inl (cs 0, 400, .inl f1) := (hfr1 _ (by rw [(y_k13 hA)]; decide)).trans o2
  have oY15 : F10 a0 = .inr (7, y_fl A z0 q0) := (hfr1 _ (by rw [ha0]; decide)).trans oY0
  have hfr : ∀ b, K b ∉ [70] → F10 b = F b := fun b hb9 => (hfr1 b (fun q => hb9 (s_sub (by decide) q))).trans (hfr b hb9)
  obtain ⟨f16, o17, b18⟩ := y_op20 hI
  replace h12 : (y_ET (y_c f1 387).toInt f4 x1.toInt f16) := by have q9 := h12; rw [y_atE o2, y_atE o5, y_atE o17] at q9; exact q9
  obtain ⟨k19a, k19b, k19c, k19d, k19e⟩ := y_ends ⟨by omega, by omega⟩ h12 hW0 hWs
  have hn20 := k19a.2.2.2
  refine lv_aload_n hx hb dX7_clears_5 rfl (lv_at hl 0 rfl) ?_
  refine lv_iload_n hx hb dX7_clears_6 rfl (lv_at hl 1 rfl) ?_
  refine va_calli (va_runV (As := [.int x1]) (rest := []) ⟨hx, hb, hml, hown, hts⟩ (y_X7_top l dC dI H.size hLK A hA F10 a0 x1 ha0 rg8 hI) (cwV 1 hts (ax_gV T_1074 T_1076 T_1077 T_265 T_1075) rfl rfl rfl (by decide +kernel) ⟨Nat.le_of_ble_eq_true rfl, Nat.le_of_ble_eq_true rfl⟩) ⟨fun a U g mk q => ⟨q.1, s_pc (U := U) rfl rfl q.2⟩, s_recv hK hP (hLK _ ha0 (by decide)) (ci := 7) rfl oY15, fun U hU hW => ⟨rfl, s_pw hU hW hP hK hD hN⟩⟩ rfl rfl hl.1 rfl (lv_room (Nat.le_of_ble_eq_true rfl)) dX7_clears_7 ⟨Nat.zero_le _, Nat.zero_le _⟩) hS (fun q _ h => h) (fun q h => h) (fun r22 F23 t H1 locs ht hvm hw hB hz1 hk1 hS => ?_)
  obtain ⟨hP, hK1⟩ := hB
  rw [ht] at hP
  generalize H1 = H at hP hS ⊢
  clear hz1 hk1 hvm hK1
  obtain ⟨h24, h26, hI, hfr1, hzf, h25⟩ := hw
  have o27 : F23 (A 13) = .inl (cs 0, 400, .inl f1) := (hfr1 _ (by rw [(y_k13 hA)]; decide)).trans o14
  have o28 : F23 (A 20) = .inl (cs 0, 918, .inl f16) := (hfr1 _ (by rw [(y_k20 hA)]; decide)).trans o17
  have oY29 : F23 a0 = .inr (7, y_fl A z0 q0) := (hfr1 _ (by rw [ha0]; decide)).trans oY15
  have hfr : ∀ b, K b ∉ [70] → F23 b = F b := fun b hb9 => (hfr1 b (fun q => hb9 (s_sub (by decide) q))).trans (hfr b hb9)
  replace h25 : (r22 = y_c f16 (109 + 6 * x1.toInt) - 1) := by have q9 := h25; rw [y_atE o17] at q9; exact q9
  have h30 := congrArg Int32.toInt h25
  have h31 : -1 ≤ r22.toInt ∧ r22.toInt ≤ 14 := by have q9 : r22.toInt = (y_c f16 (109 + 6 * x1.toInt)).toInt - 1 := (by rw [h25]; exact th_sub rfl (by decide) ⟨by omega, by omega⟩); exact ⟨by omega, by omega⟩
  have h32 : r22.toInt = (y_c f16 (109 + 6 * x1.toInt)).toInt - 1 := by rw [h25]; exact th_sub rfl (by decide) ⟨by omega, by omega⟩
  refine lv_istore_n (lv' := [(2, .int r22), (0, .ref a0), (1, .int x1)]) hx hb dX7_clears_10 rfl hl (by decide) rfl (fun ls hl => ?_)
  refine th_loop (fun n g H locs => ∃ (G : Nat → va_E) (ls : Array Slot) (w33 : Int32), g = F0 m 11 ls [] ∧ lv_has ls 3 [(0, .ref a0), (1, .int x1), (2, .int w33)] ∧ va_P (dC, dI) vwCl (va_pl L G) H ∧ va_S (fun q => q ∈ L) s.heap H locs ∧ y_I K cs A G ∧ (∀ b, K b ∉ [70] → G b = F b) ∧ (∀ k, k ∈ ([1, 2, 3, 4, 5, 6, 7, 8, 11, 15, 16, 19, 25, 26, 27, 31, 32] : List Nat) → y_fi G a0 k = z0 k) ∧ (-1 ≤ w33.toInt ∧ w33.toInt ≤ 14) ∧ (0 ≤ x1.toInt ∧ x1.toInt ≤ 3) ∧ y_W0 (y_at G (A 20)) x1.toInt ∧ y_Ws (y_c f1 387).toInt (y_at G (A 20)) x1.toInt ∧ y_fw x1.toInt f4 (y_at G (A 20)) ∧ y_TP (y_c f1 387).toInt (y_at G (A 20)) x1.toInt ∧ (w33.toInt = (y_c (y_at G (A 20)) (109 + 6 * x1.toInt)).toInt - 1) ∧ n = (w33.toInt - (-2)).toNat) _ ⟨F23, _, r22, rfl, lv_sub hl [1, 2, 0] rfl, hP, hS, hI, hfr, (fun k hk => (y_fiZ oY29 (s_sub (by decide) hk)).trans (hz0 k hk)), ⟨by omega, by omega⟩, ⟨by omega, by omega⟩, (by rw [y_atE o28]; exact k19a), (by rw [y_atE o28]; exact k19b), (by rw [y_atE o28]; exact (y_fw_t (y_fw_r _ _) k19c)), (by rw [y_atE o28]; exact k19e), (by first | (rw [y_atE o28]; omega) | rw [y_atE o28]), rfl⟩ (fun n ih11 g H locs hq => ?_)
  obtain ⟨F41, ls, w33, rfl, hl, hP, hS, hI, hfr, hz0, h34, h35, h36, h37, h38, h39, h40, hn⟩ := hq
  have o42 : F41 (A 13) = .inl (cs 0, 400, .inl f1) := (hfr _ (by rw [(y_k13 hA)]; decide)).trans o2
  have oY43 : F41 a0 = .inr (7, y_fl A z0 q0) := (hfr _ (by rw [ha0]; decide)).trans oY0
  have hz0 : ∀ k, k ∈ ([1, 2, 3, 4, 5, 6, 7, 8, 11, 15, 16, 19, 25, 26, 27, 31, 32] : List Nat) → z0 k = z0 k := fun _ _ => rfl
  obtain ⟨f44, o45, b46⟩ := y_op20 hI
  replace h36 : y_W0 f44 x1.toInt := by have q9 := h36; rw [y_atE o45] at q9; exact q9
  replace h37 : y_Ws (y_c f1 387).toInt f44 x1.toInt := by have q9 := h37; rw [y_atE o45] at q9; exact q9
  replace h38 : y_fw x1.toInt f4 f44 := by have q9 := h38; rw [y_atE o45] at q9; exact q9
  replace h39 : y_TP (y_c f1 387).toInt f44 x1.toInt := by have q9 := h39; rw [y_atE o45] at q9; exact q9
  replace h40 : (w33.toInt = (y_c f44 (109 + 6 * x1.toInt)).toInt - 1) := by have q9 := h40; rw [y_atE o45] at q9; exact q9
  have hn47 := h36.2.2.2
  have hn_47 := hn
  refine lv_iload_n hx hb dX7_clears_11 rfl (lv_at hl 2 rfl) ?_
  refine lv_if_lt (tgt := 83) hx hb dX7_clears_12 (by decide) (fun c48 => ?_) (fun c48 => ?_)
  · have c48 := (ax_lt (n := 0) (by decide)).mp c48
    exact W.vret hx hb hr (fun t ht hW => ⟨⟨F41, rfl, ⟨trivial, trivial, hI, hfr, fun k hk => (y_fiZ oY43 (s_sub (by decide) hk)).trans ((hz0 k hk).trans (y_fiZ oY0 (s_sub (by decide) hk)).symm), (by rw [y_atE o45, y_atE o2, y_atE o5]; exact ⟨h36, h37, y_tops h36 h37 h39 (Or.inl (by omega)), h38⟩)⟩, by rw [ht]; exact hP, va_K.moved hW.alike hK⟩, hS.F ht⟩) hS.2.2 dX7_clears_83
  · have c48 := mt (ax_lt (n := 0) (by decide)).mpr c48
    refine lv_aload_n hx hb dX7_clears_15 rfl (lv_at hl 0 rfl) ?_
    refine th_get (D := (dC, dI)) (ci := 7) (v := .ref (A 20)) (C := RX7) (T := TX7) (N := 34) hx hb hts inX7 hown hK hP (hLK _ ha0 (by decide)) oY43 rfl 20 (by decide) (hts _ T_251) (fun _ h9 => h9) rfl dX7_clears_16 ?_
    refine lv_iload_n hx hb dX7_clears_19 rfl (lv_at hl 1 rfl) ?_
    refine lv_iload_n hx hb dX7_clears_20 rfl (lv_at hl 2 rfl) ?_
    refine lv_iconst (v := 2) hx hb dX7_clears_21 (by decide) ?_
    have rg49 : 0 ≤ w33.toInt ∧ w33.toInt ≤ 15 := ⟨by omega, by omega⟩
    refine va_calli (va_runS (As := [.int x1, .int w33, .int 2]) (rest := [.ref (A 20)]) ⟨hx, hb, hml, hown, hts⟩ (y_X7_partAt l dC dI H.size F41 x1 w33 2 rg8 rg49 (by decide)) (cwS 3 hts (ax_gS T_1078 T_1080 T_265 T_1079) rfl rfl rfl (by decide +kernel) ⟨Nat.le_of_ble_eq_true rfl, Nat.le_of_ble_eq_true rfl⟩) ⟨fun a U g mk q => ⟨q.1, s_pc (U := U) rfl rfl q.2⟩, fun U hU hW => ⟨rfl, s_pw hU hW hP hK hD hN⟩⟩ rfl rfl hl.1 rfl (lv_room (Nat.le_of_ble_eq_true rfl)) dX7_clears_22 ⟨Nat.zero_le _, Nat.zero_le _⟩) hS (fun q _ h => h) (fun q h => h) (fun r51 F52 t H1 locs ht hvm hw hB hz1 hk1 hS => ?_)
    obtain ⟨hP, hK1⟩ := hB
    rw [ht] at hP
    generalize H1 = H at hP hS ⊢
    clear hz1 hk1 hvm hK1
    obtain ⟨h53, h55, hG9, h54⟩ := hw
    rw [hG9] at hP
    replace h54 : (r51.toInt = 288 + 48 * x1.toInt + 3 * w33.toInt + 2) := by have q9 := h54; exact q9
    refine th_iald hx hb hK hP (hLK _ (y_k20 hA) (by decide)) 0 o45 rfl (th_in ⟨by omega, by omega⟩) dX7_clears_25 ?_
    refine lv_topi (fun v56 ev56 => ?_)
    have Ev56 : v56 = y_c f44 (287 + 48 * x1.toInt + 3 * (y_c f44 (109 + 6 * x1.toInt)).toInt) := ev56.trans (y_ci (by omega))
    have tEv56 := congrArg Int32.toInt Ev56
    refine lv_if_eq (tgt := 58) hx hb dX7_clears_26 (by decide) (fun c57 => ?_) (fun c57 => ?_)
    · have c57 := (ax_eq (n := 0) (by decide)).mp c57
      have hz9 : y_c f44 (287 + 48 * x1.toInt + 3 * (y_c f44 (109 + 6 * x1.toInt)).toInt) = 0 := by rw [← Ev56]; exact y_z32 c57
      refine lv_aload_n hx hb dX7_clears_58 rfl (lv_at hl 0 rfl) ?_
      refine th_get (D := (dC, dI)) (ci := 7) (v := .ref (A 20)) (C := RX7) (T := TX7) (N := 34) hx hb hts inX7 hown hK hP (hLK _ ha0 (by decide)) oY43 rfl 20 (by decide) (hts _ T_251) (fun _ h9 => h9) rfl dX7_clears_59 ?_
      refine lv_iload_n hx hb dX7_clears_62 rfl (lv_at hl 1 rfl) ?_
      refine lv_iconst (v := 5) hx hb dX7_clears_63 (by decide) ?_
      refine va_calli (va_runS (As := [.int x1, .int 5]) (rest := [.ref (A 20)]) ⟨hx, hb, hml, hown, hts⟩ (y_X7_warpAt l dC dI H.size F41 x1 5 rg8 (by decide)) (cwS 2 hts (ax_gS T_1021 T_1023 T_265 T_1022) rfl rfl rfl (by decide +kernel) ⟨Nat.le_of_ble_eq_true rfl, Nat.le_of_ble_eq_true rfl⟩) ⟨fun a U g mk q => ⟨q.1, s_pc (U := U) rfl rfl q.2⟩, fun U hU hW => ⟨rfl, s_pw hU hW hP hK hD hN⟩⟩ rfl rfl hl.1 rfl (lv_room (Nat.le_of_ble_eq_true rfl)) dX7_clears_64 ⟨Nat.zero_le _, Nat.zero_le _⟩) hS (fun q _ h => h) (fun q h => h) (fun r59 F60 t H1 locs ht hvm hw hB hz1 hk1 hS => ?_)
      obtain ⟨hP, hK1⟩ := hB
      rw [ht] at hP
      generalize H1 = H at hP hS ⊢
      clear hz1 hk1 hvm hK1
      obtain ⟨h61, h63, hG9, h62⟩ := hw
      rw [hG9] at hP
      replace h62 : (r59.toInt = 104 + 6 * x1.toInt + 5) := by have q9 := h62; exact q9
      refine lv_dup2_11 hx hb dX7_clears_67 rfl rfl ?_
      refine th_iald hx hb hK hP (hLK _ (y_k20 hA) (by decide)) 0 o45 rfl (th_in ⟨by omega, by omega⟩) dX7_clears_68 ?_
      refine lv_topi (fun v64 ev64 => ?_)
      have Ev64 : v64 = y_c f44 (109 + 6 * x1.toInt) := ev64.trans (y_ci (by omega))
      have tEv64 := congrArg Int32.toInt Ev64
      have h65 : 1 ≤ v64.toInt ∧ v64.toInt ≤ 15 := ⟨by omega, by omega⟩
      refine lv_iconst (v := 1) hx hb dX7_clears_69 (by decide) ?_
      refine lv_isub hx hb dX7_clears_70 ?_
      refine lv_topi (fun v66 ev66 => ?_)
      have qv66 : v66.toInt = v64.toInt - 1 := by rw [ev66]; exact th_sub rfl (by decide) ⟨by omega, by omega⟩
      refine th_iast hx hb hK hP hD hS (hLK _ (y_k20 hA) (by decide)) 0 o45 rfl (th_in ⟨by omega, by omega⟩) dX7_clears_71 (fun H locs hP hS => ?_)
      obtain ⟨f67, u68⟩ : ∃ g : Nat → Int32, g = upd f44 (r59 : Int32).toNatClampNeg v66 := ⟨_, rfl⟩
      rw [← u68] at hP
      have b69 : y_bd 20 f67 := trivial
      have hP : va_P (dC, dI) vwCl (va_pl L (va_up F41 (A 20) (.inl (cs 0, 918, .inl f67)))) H := hP
      obtain ⟨F70, hF71⟩ : ∃ G : Nat → va_E, G = va_up F41 (A 20) (.inl (cs 0, 918, .inl f67)) := ⟨_, rfl⟩
      rw [← hF71] at hP
      have hI : y_I K cs A F70 := by rw [hF71]; exact y_clA (i := 20) hA hI (by decide) b69
      have hfr : ∀ b, K b ∉ [70] → F70 b = F b := by rw [hF71]; exact s_fr hfr (y_k20 hA) (by decide)
      have o72 : F70 (A 13) = .inl (cs 0, 400, .inl f1) := by rw [hF71]; exact th_ne (th_kd (y_k13 hA) (y_k20 hA) (by decide)) o42
      have oY73 : F70 a0 = .inr (7, y_fl A z0 q0) := by rw [hF71]; exact th_ne (th_kd ha0 (y_k20 hA) (by decide)) oY43
      have o74 : F70 (A 20) = .inl (cs 0, 918, .inl f67) := by rw [hF71]; exact th_up
      have u75 : ∀ j : Int, 0 ≤ j → y_c f67 j = if j = r59.toInt then v66 else y_c f44 j := by rw [u68]; exact y_cu rfl (by omega)
      obtain ⟨k76a, k76b⟩ := y_Ws_pop ⟨by omega, by omega⟩ u75 (by omega) (by omega) h36 (by omega) (Or.inl hz9) h37
      have k76d : (y_c f67 (109 + 6 * x1.toInt)).toInt = (y_c f44 (109 + 6 * x1.toInt)).toInt - 1 := by rw [u75 _ (by omega), if_pos (by omega)]; omega
      have hn77 := k76a.2.2.2
      refine lv_aload_n hx hb dX7_clears_72 rfl (lv_at hl 0 rfl) ?_
      refine lv_iload_n hx hb dX7_clears_73 rfl (lv_at hl 1 rfl) ?_
      refine va_callv (va_runV (As := [.int x1]) (rest := []) ⟨hx, hb, hml, hown, hts⟩ (y_X7_endsTop l dC dI H.size hLK A hA F70 a0 x1 ha0 rg8 hI (by rw [y_atE o74]; exact k76a.2.2.2)) (cwV 1 hts (ax_gV T_1089 T_1091 T_1092 T_265 T_1090) rfl rfl rfl (by decide +kernel) ⟨Nat.le_of_ble_eq_true rfl, Nat.le_of_ble_eq_true rfl⟩) ⟨fun a U g mk q => ⟨q.1, s_pc (U := U) rfl rfl q.2⟩, s_recv hK hP (hLK _ ha0 (by decide)) (ci := 7) rfl oY73, fun U hU hW => ⟨rfl, s_pw hU hW hP hK hD hN⟩⟩ rfl rfl hl.1 rfl (lv_room (Nat.le_of_ble_eq_true rfl)) dX7_clears_74 ⟨Nat.zero_le _, Nat.zero_le _⟩) hS (fun q _ h => h) (fun q h => h) (fun F79 t H1 locs ht hvm hw hB hz1 hk1 hS => ?_)
      obtain ⟨hP, hK1⟩ := hB
      rw [ht] at hP
      generalize H1 = H at hP hS ⊢
      clear hz1 hk1 hvm hK1
      obtain ⟨h80, h82, hI, hfr1, hzf, h81⟩ := hw
      have o83 : F79 (A 13) = .inl (cs 0, 400, .inl f1) := (hfr1 _ (by rw [(y_k13 hA)]; decide)).trans o72
      have oY84 : F79 a0 = .inr (7, y_fl A z0 q0) := (hfr1 _ (by rw [ha0]; decide)).trans oY73
      have hfr : ∀ b, K b ∉ [70] → F79 b = F b := fun b hb9 => (hfr1 b (fun q => hb9 (s_sub (by decide) q))).trans (hfr b hb9)
      obtain ⟨f85, o86, b87⟩ := y_op20 hI
      replace h81 : (y_ET (y_c f1 387).toInt f67 x1.toInt f85) := by have q9 := h81; rw [y_atE o72, y_atE o74, y_atE o86] at q9; exact q9
      obtain ⟨k88a, k88b, k88c, k88d, k88e⟩ := y_ends ⟨by omega, by omega⟩ h81 k76a k76b
      have hn89 := k88a.2.2.2
      obtain ⟨v90, ev90⟩ : ∃ y : Int32, w33 + (-1) = y := ⟨_, rfl⟩
      have qv90 : v90.toInt = w33.toInt + (-1) := by rw [← ev90]; exact th_add rfl (by decide) ⟨by omega, by omega⟩
      refine lv_iinc (v := v90) (lv' := [(2, .int v90), (0, .ref a0), (1, .int x1)]) hx hb dX7_clears_77 hl (k := 2) rfl ev90 (by decide) rfl (fun ls hl => ?_)
      refine lv_goto (tgt := 11) hx hb dX7_clears_80 (by decide) ?_
      exact ih11 _ _ _ _ (by omega) ⟨F79, _, v90, rfl, lv_sub hl [1, 2, 0] rfl, hP, hS, hI, hfr, (fun k hk => (y_fiZ oY84 (s_sub (by decide) hk)).trans (hz0 k hk)), ⟨by omega, by omega⟩, ⟨by omega, by omega⟩, (by rw [y_atE o86]; exact k88a), (by rw [y_atE o86]; exact k88b), (by rw [y_atE o86]; exact (y_fw_t (y_fw_t h38 (y_fw_u u75 (by omega))) k88c)), (by rw [y_atE o86]; exact k88e), (by first | (rw [y_atE o86]; omega) | rw [y_atE o86]), rfl⟩
    · have c57 := mt (ax_eq (n := 0) (by decide)).mpr c57
      have hz9 : ¬ y_c f44 (287 + 48 * x1.toInt + 3 * (y_c f44 (109 + 6 * x1.toInt)).toInt) = 0 := by rw [← Ev56]; exact y_nz32 c57
      refine lv_iload_n hx hb dX7_clears_29 rfl (lv_at hl 2 rfl) ?_
      refine lv_if_le (tgt := 83) hx hb dX7_clears_30 (by decide) (fun c91 => ?_) (fun c91 => ?_)
      · have c91 := (ax_le (n := 0) (by decide)).mp c91
        exact W.vret hx hb hr (fun t ht hW => ⟨⟨F41, rfl, ⟨trivial, trivial, hI, hfr, fun k hk => (y_fiZ oY43 (s_sub (by decide) hk)).trans ((hz0 k hk).trans (y_fiZ oY0 (s_sub (by decide) hk)).symm), (by rw [y_atE o45, y_atE o2, y_atE o5]; exact ⟨h36, h37, y_tops h36 h37 h39 (Or.inr hz9), h38⟩)⟩, by rw [ht]; exact hP, va_K.moved hW.alike hK⟩, hS.F ht⟩) hS.2.2 dX7_clears_83
      · have c91 := mt (ax_le (n := 0) (by decide)).mpr c91
        refine lv_aload_n hx hb dX7_clears_33 rfl (lv_at hl 0 rfl) ?_
        refine th_get (D := (dC, dI)) (ci := 7) (v := .ref (A 20)) (C := RX7) (T := TX7) (N := 34) hx hb hts inX7 hown hK hP (hLK _ ha0 (by decide)) oY43 rfl 20 (by decide) (hts _ T_251) (fun _ h9 => h9) rfl dX7_clears_34 ?_
        refine lv_iload_n hx hb dX7_clears_37 rfl (lv_at hl 1 rfl) ?_
        refine lv_iload_n hx hb dX7_clears_38 rfl (lv_at hl 2 rfl) ?_
        refine lv_iconst (v := 0) hx hb dX7_clears_39 (by decide) ?_
        refine va_calli (va_runS (As := [.int x1, .int w33, .int 0]) (rest := [.ref (A 20)]) ⟨hx, hb, hml, hown, hts⟩ (y_X7_partAt l dC dI H.size F41 x1 w33 0 rg8 rg49 (by decide)) (cwS 3 hts (ax_gS T_1078 T_1080 T_265 T_1079) rfl rfl rfl (by decide +kernel) ⟨Nat.le_of_ble_eq_true rfl, Nat.le_of_ble_eq_true rfl⟩) ⟨fun a U g mk q => ⟨q.1, s_pc (U := U) rfl rfl q.2⟩, fun U hU hW => ⟨rfl, s_pw hU hW hP hK hD hN⟩⟩ rfl rfl hl.1 rfl (lv_room (Nat.le_of_ble_eq_true rfl)) dX7_clears_40 ⟨Nat.zero_le _, Nat.zero_le _⟩) hS (fun q _ h => h) (fun q h => h) (fun r93 F94 t H1 locs ht hvm hw hB hz1 hk1 hS => ?_)
        obtain ⟨hP, hK1⟩ := hB
        rw [ht] at hP
        generalize H1 = H at hP hS ⊢
        clear hz1 hk1 hvm hK1
        obtain ⟨h95, h97, hG9, h96⟩ := hw
        rw [hG9] at hP
        replace h96 : (r93.toInt = 288 + 48 * x1.toInt + 3 * w33.toInt + 0) := by have q9 := h96; exact q9
        refine th_iald hx hb hK hP (hLK _ (y_k20 hA) (by decide)) 0 o45 rfl (th_in ⟨by omega, by omega⟩) dX7_clears_43 ?_
        refine lv_topi (fun v98 ev98 => ?_)
        have Ev98 : v98 = y_c f44 (285 + 48 * x1.toInt + 3 * (y_c f44 (109 + 6 * x1.toInt)).toInt) := ev98.trans (y_ci (by omega))
        have tEv98 := congrArg Int32.toInt Ev98
        refine lv_aload_n hx hb dX7_clears_44 rfl (lv_at hl 0 rfl) ?_
        refine th_get (D := (dC, dI)) (ci := 7) (v := .ref (A 20)) (C := RX7) (T := TX7) (N := 34) hx hb hts inX7 hown hK hP (hLK _ ha0 (by decide)) oY43 rfl 20 (by decide) (hts _ T_251) (fun _ h9 => h9) rfl dX7_clears_45 ?_
        refine lv_iload_n hx hb dX7_clears_48 rfl (lv_at hl 1 rfl) ?_
        refine lv_iload_n hx hb dX7_clears_49 rfl (lv_at hl 2 rfl) ?_
        refine lv_iconst (v := 1) hx hb dX7_clears_50 (by decide) ?_
        refine va_calli (va_runS (As := [.int x1, .int w33, .int 1]) (rest := [.ref (A 20), .int v98]) ⟨hx, hb, hml, hown, hts⟩ (y_X7_partAt l dC dI H.size F41 x1 w33 1 rg8 rg49 (by decide)) (cwS 3 hts (ax_gS T_1078 T_1080 T_265 T_1079) rfl rfl rfl (by decide +kernel) ⟨Nat.le_of_ble_eq_true rfl, Nat.le_of_ble_eq_true rfl⟩) ⟨fun a U g mk q => ⟨q.1, s_pc (U := U) rfl rfl q.2⟩, fun U hU hW => ⟨rfl, s_pw hU hW hP hK hD hN⟩⟩ rfl rfl hl.1 rfl (lv_room (Nat.le_of_ble_eq_true rfl)) dX7_clears_51 ⟨Nat.zero_le _, Nat.zero_le _⟩) hS (fun q _ h => h) (fun q h => h) (fun r100 F101 t H1 locs ht hvm hw hB hz1 hk1 hS => ?_)
        obtain ⟨hP, hK1⟩ := hB
        rw [ht] at hP
        generalize H1 = H at hP hS ⊢
        clear hz1 hk1 hvm hK1
        obtain ⟨h102, h104, hG9, h103⟩ := hw
        rw [hG9] at hP
        replace h103 : (r100.toInt = 288 + 48 * x1.toInt + 3 * w33.toInt + 1) := by have q9 := h103; exact q9
        refine th_iald hx hb hK hP (hLK _ (y_k20 hA) (by decide)) 0 o45 rfl (th_in ⟨by omega, by omega⟩) dX7_clears_54 ?_
        refine lv_topi (fun v105 ev105 => ?_)
        have Ev105 : v105 = y_c f44 (286 + 48 * x1.toInt + 3 * (y_c f44 (109 + 6 * x1.toInt)).toInt) := ev105.trans (y_ci (by omega))
        have tEv105 := congrArg Int32.toInt Ev105
        refine lv_icmp_ne (tgt := 83) hx hb dX7_clears_55 (by decide) (fun c106 => ?_) (fun c106 => ?_)
        · have c106 := mt Int32.toInt_inj.symm.mpr c106
          exact W.vret hx hb hr (fun t ht hW => ⟨⟨F41, rfl, ⟨trivial, trivial, hI, hfr, fun k hk => (y_fiZ oY43 (s_sub (by decide) hk)).trans ((hz0 k hk).trans (y_fiZ oY0 (s_sub (by decide) hk)).symm), (by rw [y_atE o45, y_atE o2, y_atE o5]; exact ⟨h36, h37, y_tops h36 h37 h39 (Or.inr hz9), h38⟩)⟩, by rw [ht]; exact hP, va_K.moved hW.alike hK⟩, hS.F ht⟩) hS.2.2 dX7_clears_83
        · have c106 := Int32.toInt_inj.symm.mp c106
          refine lv_aload_n hx hb dX7_clears_58 rfl (lv_at hl 0 rfl) ?_
          refine th_get (D := (dC, dI)) (ci := 7) (v := .ref (A 20)) (C := RX7) (T := TX7) (N := 34) hx hb hts inX7 hown hK hP (hLK _ ha0 (by decide)) oY43 rfl 20 (by decide) (hts _ T_251) (fun _ h9 => h9) rfl dX7_clears_59 ?_
          refine lv_iload_n hx hb dX7_clears_62 rfl (lv_at hl 1 rfl) ?_
          refine lv_iconst (v := 5) hx hb dX7_clears_63 (by decide) ?_
          refine va_calli (va_runS (As := [.int x1, .int 5]) (rest := [.ref (A 20)]) ⟨hx, hb, hml, hown, hts⟩ (y_X7_warpAt l dC dI H.size F41 x1 5 rg8 (by decide)) (cwS 2 hts (ax_gS T_1021 T_1023 T_265 T_1022) rfl rfl rfl (by decide +kernel) ⟨Nat.le_of_ble_eq_true rfl, Nat.le_of_ble_eq_true rfl⟩) ⟨fun a U g mk q => ⟨q.1, s_pc (U := U) rfl rfl q.2⟩, fun U hU hW => ⟨rfl, s_pw hU hW hP hK hD hN⟩⟩ rfl rfl hl.1 rfl (lv_room (Nat.le_of_ble_eq_true rfl)) dX7_clears_64 ⟨Nat.zero_le _, Nat.zero_le _⟩) hS (fun q _ h => h) (fun q h => h) (fun r108 F109 t H1 locs ht hvm hw hB hz1 hk1 hS => ?_)
          obtain ⟨hP, hK1⟩ := hB
          rw [ht] at hP
          generalize H1 = H at hP hS ⊢
          clear hz1 hk1 hvm hK1
          obtain ⟨h110, h112, hG9, h111⟩ := hw
          rw [hG9] at hP
          replace h111 : (r108.toInt = 104 + 6 * x1.toInt + 5) := by have q9 := h111; exact q9
          refine lv_dup2_11 hx hb dX7_clears_67 rfl rfl ?_
          refine th_iald hx hb hK hP (hLK _ (y_k20 hA) (by decide)) 0 o45 rfl (th_in ⟨by omega, by omega⟩) dX7_clears_68 ?_
          refine lv_topi (fun v113 ev113 => ?_)
          have Ev113 : v113 = y_c f44 (109 + 6 * x1.toInt) := ev113.trans (y_ci (by omega))
          have tEv113 := congrArg Int32.toInt Ev113
          have h114 : 1 ≤ v113.toInt ∧ v113.toInt ≤ 15 := ⟨by omega, by omega⟩
          refine lv_iconst (v := 1) hx hb dX7_clears_69 (by decide) ?_
          refine lv_isub hx hb dX7_clears_70 ?_
          refine lv_topi (fun v115 ev115 => ?_)
          have qv115 : v115.toInt = v113.toInt - 1 := by rw [ev115]; exact th_sub rfl (by decide) ⟨by omega, by omega⟩
          refine th_iast hx hb hK hP hD hS (hLK _ (y_k20 hA) (by decide)) 0 o45 rfl (th_in ⟨by omega, by omega⟩) dX7_clears_71 (fun H locs hP hS => ?_)
          obtain ⟨f116, u117⟩ : ∃ g : Nat → Int32, g = upd f44 (r108 : Int32).toNatClampNeg v115 := ⟨_, rfl⟩
          rw [← u117] at hP
          have b118 : y_bd 20 f116 := trivial
          have hP : va_P (dC, dI) vwCl (va_pl L (va_up F41 (A 20) (.inl (cs 0, 918, .inl f116)))) H := hP
          obtain ⟨F119, hF120⟩ : ∃ G : Nat → va_E, G = va_up F41 (A 20) (.inl (cs 0, 918, .inl f116)) := ⟨_, rfl⟩
          rw [← hF120] at hP
          have hI : y_I K cs A F119 := by rw [hF120]; exact y_clA (i := 20) hA hI (by decide) b118
          have hfr : ∀ b, K b ∉ [70] → F119 b = F b := by rw [hF120]; exact s_fr hfr (y_k20 hA) (by decide)
          have o121 : F119 (A 13) = .inl (cs 0, 400, .inl f1) := by rw [hF120]; exact th_ne (th_kd (y_k13 hA) (y_k20 hA) (by decide)) o42
          have oY122 : F119 a0 = .inr (7, y_fl A z0 q0) := by rw [hF120]; exact th_ne (th_kd ha0 (y_k20 hA) (by decide)) oY43
          have o123 : F119 (A 20) = .inl (cs 0, 918, .inl f116) := by rw [hF120]; exact th_up
          have u124 : ∀ j : Int, 0 ≤ j → y_c f116 j = if j = r108.toInt then v115 else y_c f44 j := by rw [u117]; exact y_cu rfl (by omega)
          obtain ⟨k125a, k125b⟩ := y_Ws_pop ⟨by omega, by omega⟩ u124 (by omega) (by omega) h36 (by omega) (Or.inr (by omega)) h37
          have k125d : (y_c f116 (109 + 6 * x1.toInt)).toInt = (y_c f44 (109 + 6 * x1.toInt)).toInt - 1 := by rw [u124 _ (by omega), if_pos (by omega)]; omega
          have hn126 := k125a.2.2.2
          refine lv_aload_n hx hb dX7_clears_72 rfl (lv_at hl 0 rfl) ?_
          refine lv_iload_n hx hb dX7_clears_73 rfl (lv_at hl 1 rfl) ?_
          refine va_callv (va_runV (As := [.int x1]) (rest := []) ⟨hx, hb, hml, hown, hts⟩ (y_X7_endsTop l dC dI H.size hLK A hA F119 a0 x1 ha0 rg8 hI (by rw [y_atE o123]; exact k125a.2.2.2)) (cwV 1 hts (ax_gV T_1089 T_1091 T_1092 T_265 T_1090) rfl rfl rfl (by decide +kernel) ⟨Nat.le_of_ble_eq_true rfl, Nat.le_of_ble_eq_true rfl⟩) ⟨fun a U g mk q => ⟨q.1, s_pc (U := U) rfl rfl q.2⟩, s_recv hK hP (hLK _ ha0 (by decide)) (ci := 7) rfl oY122, fun U hU hW => ⟨rfl, s_pw hU hW hP hK hD hN⟩⟩ rfl rfl hl.1 rfl (lv_room (Nat.le_of_ble_eq_true rfl)) dX7_clears_74 ⟨Nat.zero_le _, Nat.zero_le _⟩) hS (fun q _ h => h) (fun q h => h) (fun F128 t H1 locs ht hvm hw hB hz1 hk1 hS => ?_)
          obtain ⟨hP, hK1⟩ := hB
          rw [ht] at hP
          generalize H1 = H at hP hS ⊢
          clear hz1 hk1 hvm hK1
          obtain ⟨h129, h131, hI, hfr1, hzf, h130⟩ := hw
          have o132 : F128 (A 13) = .inl (cs 0, 400, .inl f1) := (hfr1 _ (by rw [(y_k13 hA)]; decide)).trans o121
          have oY133 : F128 a0 = .inr (7, y_fl A z0 q0) := (hfr1 _ (by rw [ha0]; decide)).trans oY122
          have hfr : ∀ b, K b ∉ [70] → F128 b = F b := fun b hb9 => (hfr1 b (fun q => hb9 (s_sub (by decide) q))).trans (hfr b hb9)
          obtain ⟨f134, o135, b136⟩ := y_op20 hI
          replace h130 : (y_ET (y_c f1 387).toInt f116 x1.toInt f134) := by have q9 := h130; rw [y_atE o121, y_atE o123, y_atE o135] at q9; exact q9
          obtain ⟨k137a, k137b, k137c, k137d, k137e⟩ := y_ends ⟨by omega, by omega⟩ h130 k125a k125b
          have hn138 := k137a.2.2.2
          obtain ⟨v139, ev139⟩ : ∃ y : Int32, w33 + (-1) = y := ⟨_, rfl⟩
          have qv139 : v139.toInt = w33.toInt + (-1) := by rw [← ev139]; exact th_add rfl (by decide) ⟨by omega, by omega⟩
          refine lv_iinc (v := v139) (lv' := [(2, .int v139), (0, .ref a0), (1, .int x1)]) hx hb dX7_clears_77 hl (k := 2) rfl ev139 (by decide) rfl (fun ls hl => ?_)
          refine lv_goto (tgt := 11) hx hb dX7_clears_80 (by decide) ?_
          exact ih11 _ _ _ _ (by omega) ⟨F128, _, v139, rfl, lv_sub hl [1, 2, 0] rfl, hP, hS, hI, hfr, (fun k hk => (y_fiZ oY133 (s_sub (by decide) hk)).trans (hz0 k hk)), ⟨by omega, by omega⟩, ⟨by omega, by omega⟩, (by rw [y_atE o135]; exact k137a), (by rw [y_atE o135]; exact k137b), (by rw [y_atE o135]; exact (y_fw_t (y_fw_t h38 (y_fw_u u124 (by omega))) k137c)), (by rw [y_atE o135]; exact k137e), (by first | (rw [y_atE o135]; omega) | rw [y_atE o135]), rfl⟩
