set_option maxHeartbeats 4000000 in
set_option maxRecDepth 100000 in
theorem yt_X7_endsTop (l : Launch) (dC : Nat → ClassId) (dI : Nat → Nat → Nat) (sz : Nat) {L : List Nat} {K : Nat → Nat} {cs : Nat → ClassId} (hLK : ∀ a {k : Nat}, K a = k → k ≠ 0 → a ∈ L) (A : Nat → Nat) (hA : y_A K A) (F : Nat → va_E) (a0 : Nat) (x1 : Int32) (ha0 : K a0 = 9) (hx1 : 0 ≤ x1.toInt ∧ x1.toInt ≤ 3) (hI : y_I K cs A F) (hpn : (0 ≤ (y_c (y_at F (A 20)) (109 + 6 * x1.toInt)).toInt ∧ (y_c (y_at F (A 20)) (109 + 6 * x1.toInt)).toInt ≤ 15)) : Met l yX7_endsTop (Cond.code yX7_endsTop cX7_endsTop 3 none :: T0) ({ frames := 3, cells := 0, slots := 0, locals := 66 }) (va_Pc [.ref a0, .int x1] (s_W dC dI sz L F [(cs 0, .int), (cs 1, .byte), (cs 2, .long), (cs 3, .object RX5), (cs 4, .object RX4), (cs 5, .array .int), (cs 6, .char), (cs 7, .boolean)])) (va_Qv (fun (G : Nat → va_E) => True ∧ True ∧ y_I K cs A G ∧ (∀ b, K b ∉ [70] → G b = F b) ∧ (∀ k, k ∈ ([1, 2, 3, 4, 5, 6, 7, 8, 11, 15, 16, 19, 25, 26, 27, 31, 32] : List Nat) → y_fi G a0 k = y_fi F a0 k) ∧ (y_ET (y_c (y_at F (A 13)) 387).toInt (y_at F (A 20)) x1.toInt (y_at G (A 20)))) (fun (G : Nat → va_E) (t : State) => va_P (dC, dI) vwCl (va_pl L G) t.heap ∧ va_K (dC, dI) vwCl [(cs 0, .int), (cs 1, .byte), (cs 2, .long), (cs 3, .object RX5), (cs 4, .object RX4), (cs 5, .array .int), (cs 6, .char), (cs 7, .boolean)] t) (fun q => q ∈ L)) 0 0 (fun q => q ∈ L) := by
  refine Met.ofW (cc := cX7_endsTop) (maxL := 3) (ret := none) (by decide) rfl ?_
  intro p e s m args below meth c s₁ B hml hv
  obtain ⟨rfl, hsz, hP, hK, hD, hN⟩ := hv
  have hx := B.exec
  have hb := B.bytes
  have hr := B.returns
  have hts : ∀ w ∈ T0, w.before _ s = true := fun w h => atoms_spec (ws := Cond.code yX7_endsTop cX7_endsTop 3 none :: T0) B.pre w (List.mem_cons_of_mem _ h)
  have hown : s.vm.findClass RX7 = some m.cls := findClass_of_methodNamed B.named
  have hlocks := B.notSynchronized
  have hS : va_S (fun q => q ∈ L) s.heap s.heap [] := va_S.rf
  have hfr : ∀ b, K b ∉ [70] → F b = F b := fun _ _ => rfl
  have hl := lv_entry ([.ref a0, .int x1]) (n := 3) (Nat.le_of_ble_eq_true rfl)
  rw [lg_entry_eq]
  generalize (lg_sl ([.ref a0, .int x1]) ++ List.replicate (3 - (lg_sl ([.ref a0, .int x1])).length) Slot.unset).toArray = ls at hl ⊢
  have hl : lv_has ls 3 [(0, .ref a0), (1, .int x1)] := hl
  refine s_gen hP hS (fun H locs hP hS => ?_)
  obtain ⟨z0, q0, oY0, bz0, bq0⟩ := y_opY hI ha0
  have hz0 : ∀ k, k ∈ ([1, 2, 3, 4, 5, 6, 7, 8, 11, 15, 16, 19, 25, 26, 27, 31, 32] : List Nat) → z0 k = z0 k := fun _ _ => rfl
  obtain ⟨f1, o2, b3⟩ := y_op13 hI
  obtain ⟨f4, o5, b6⟩ := y_op20 hI
  have hpn : (0 ≤ (y_c f4 (109 + 6 * x1.toInt)).toInt ∧ (y_c f4 (109 + 6 * x1.toInt)).toInt ≤ 15) := by have q9 := hpn; rw [y_atE o5] at q9; exact q9
  refine lv_aload_n hx hb dX7_endsTop_0 rfl (lv_at hl 0 rfl) ?_
  refine lv_iload_n hx hb dX7_endsTop_1 rfl (lv_at hl 1 rfl) ?_
  refine va_calli (va_runV (As := [.int x1]) (rest := []) ⟨hx, hb, hml, hown, hts⟩ (y_X7_top l dC dI H.size hLK A hA F a0 x1 ha0 (⟨by omega, by omega⟩) hI) (cwV 1 hts (ax_gV T_1074 T_1076 T_1077 T_265 T_1075) rfl rfl rfl (by decide +kernel) ⟨Nat.le_of_ble_eq_true rfl, Nat.le_of_ble_eq_true rfl⟩) ⟨fun a U g mk q => ⟨q.1, s_pc rfl rfl q.2⟩, s_recv hK hP (hLK _ ha0 (by decide)) (ci := 7) rfl oY0, fun U hU hW => ⟨rfl, s_pw hU hW hP hK hD hN⟩⟩ rfl rfl hl.1 rfl (lv_room (Nat.le_of_ble_eq_true rfl)) dX7_endsTop_2 ⟨Nat.zero_le _, Nat.zero_le _⟩) hS (fun q _ h => h) (fun q h => h) (fun r8 F9 t H1 locs ht hvm hw hB hz1 hk1 hS => ?_)
  obtain ⟨hP, hK1⟩ := hB
  rw [ht] at hP
  generalize H1 = H at hP hS ⊢
  obtain ⟨h10, h12, hI, hfr1, hzf, h11⟩ := hw
  have o13 : F9 (A 13) = .inl (cs 0, 400, .inl f1) := (hfr1 _ (by rw [(y_k13 hA)]; decide)).trans o2
  have o14 : F9 (A 20) = .inl (cs 0, 918, .inl f4) := (hfr1 _ (by rw [(y_k20 hA)]; decide)).trans o5
  have oY15 : F9 a0 = .inr (7, y_fl A z0 q0) := (hfr1 _ (by rw [ha0]; decide)).trans oY0
  have hfr : ∀ b, K b ∉ [70] → F9 b = F b := fun b hb9 => (hfr1 b (fun q => hb9 (s_sub (by decide) q))).trans (hfr b hb9)
  have h11 : (r8 = y_c f4 (109 + 6 * x1.toInt) - 1) := by have q9 := h11; rw [y_atE o5] at q9; exact q9
  have h16 := congrArg Int32.toInt h11
  have h17 : -1 ≤ r8.toInt ∧ r8.toInt ≤ 14 := by have q9 : r8.toInt = (y_c f4 (109 + 6 * x1.toInt)).toInt - 1 := (by rw [h11]; exact th_sub rfl (by decide) ⟨by omega, by omega⟩); exact ⟨by omega, by omega⟩
  have h18 : r8.toInt = (y_c f4 (109 + 6 * x1.toInt)).toInt - 1 := by rw [h11]; exact th_sub rfl (by decide) ⟨by omega, by omega⟩
  refine lv_istore_n (lv' := [(2, .int r8), (0, .ref a0), (1, .int x1)]) hx hb dX7_endsTop_5 rfl hl (by decide) rfl (fun ls hl => ?_)
  refine lv_iload_n hx hb dX7_endsTop_6 rfl (lv_at hl 0 rfl) ?_
  refine lv_if_lt (tgt := 44) hx hb dX7_endsTop_7 (by decide) (fun c19 => ?_) (fun c19 => ?_)
  · have c19 := (ax_lt (n := 0) (by decide)).mp c19
    exact W.vret hx hb hr (fun t ht hW => ⟨⟨F9, rfl, ⟨trivial, trivial, hI, hfr, fun k hk => (y_fiZ oY15 (s_sub (by decide) hk)).trans ((hz0 k hk).trans (y_fiZ oY0 (s_sub (by decide) hk)).symm), (by rw [y_atE o2, y_atE o5, y_atE o14]; exact (Or.inl ⟨by omega, rfl⟩))⟩, by rw [ht]; exact hP, va_K.moved hW.alike hK⟩, hS.F ht⟩) hS.2.2 dX7_endsTop_44
  · have c19 := mt (ax_lt (n := 0) (by decide)).mpr c19
    refine lv_aload_n hx hb dX7_endsTop_10 rfl (lv_at hl 1 rfl) ?_
    refine th_get (D := (dC, dI)) (ci := 7) (v := .ref (A 20)) (C := RX7) (T := TX7) (N := 34) hx hb hts inX7 hown hK hP (hLK _ ha0 (by decide)) oY15 rfl 20 (by decide) (hts _ T_251) (fun _ h9 => h9) rfl dX7_endsTop_11 ?_
    refine lv_iload_n hx hb dX7_endsTop_14 rfl (lv_at hl 2 rfl) ?_
    refine lv_iload_n hx hb dX7_endsTop_15 rfl (lv_at hl 0 rfl) ?_
    refine lv_iconst (v := 0) hx hb dX7_endsTop_16 (by decide) ?_
    refine va_calli (va_runS (As := [.int x1, .int r8, .int 0]) (rest := [.ref (A 20)]) ⟨hx, hb, hml, hown, hts⟩ (y_X7_partAt l dC dI H.size F9 x1 r8 0 (⟨by omega, by omega⟩) (⟨by omega, by omega⟩) (by decide)) (cwS 3 hts (ax_gS T_1078 T_1080 T_265 T_1079) rfl rfl rfl (by decide +kernel) ⟨Nat.le_of_ble_eq_true rfl, Nat.le_of_ble_eq_true rfl⟩) ⟨fun a U g mk q => ⟨q.1, s_pc rfl rfl q.2⟩, fun U hU hW => ⟨rfl, s_pw hU hW hP hK hD hN⟩⟩ rfl rfl hl.1 rfl (lv_room (Nat.le_of_ble_eq_true rfl)) dX7_endsTop_17 ⟨Nat.zero_le _, Nat.zero_le _⟩) hS (fun q _ h => h) (fun q h => h) (fun r21 F22 t H1 locs ht hvm hw hB hz1 hk1 hS => ?_)
    obtain ⟨hP, hK1⟩ := hB
    rw [ht] at hP
    generalize H1 = H at hP hS ⊢
    obtain ⟨h23, h25, hG9, h24⟩ := hw
    rw [hG9] at hP
    have h24 : (r21.toInt = 288 + 48 * x1.toInt + 3 * r8.toInt + 0) := by have q9 := h24; exact q9
    refine th_iald hx hb hK hP (hLK _ (y_k20 hA) (by decide)) 0 o14 rfl (th_in ⟨by omega, by omega⟩) dX7_endsTop_20 ?_
    refine lv_topi (fun v26 ev26 => ?_)
    have Ev26 : v26 = y_c f4 (285 + 48 * x1.toInt + 3 * (y_c f4 (109 + 6 * x1.toInt)).toInt) := ev26.trans (y_ci (by omega))
    have tEv26 := congrArg Int32.toInt Ev26
    refine lv_aload_n hx hb dX7_endsTop_21 rfl (lv_at hl 1 rfl) ?_
    refine va_calli (va_runV (As := []) (rest := [.int v26]) ⟨hx, hb, hml, hown, hts⟩ (y_X7_lines l dC dI H.size hLK A hA F9 a0 ha0 hI) (cwV 0 hts (ax_gV T_1030 T_1032 T_1033 T_265 T_1031) rfl rfl rfl (by decide +kernel) ⟨Nat.le_of_ble_eq_true rfl, Nat.le_of_ble_eq_true rfl⟩) ⟨fun a U g mk q => ⟨q.1, s_pc rfl rfl q.2⟩, s_recv hK hP (hLK _ ha0 (by decide)) (ci := 7) rfl oY15, fun U hU hW => ⟨rfl, s_pw hU hW hP hK hD hN⟩⟩ rfl rfl hl.1 rfl (lv_room (Nat.le_of_ble_eq_true rfl)) dX7_endsTop_22 ⟨Nat.zero_le _, Nat.zero_le _⟩) hS (fun q _ h => h) (fun q h => h) (fun r28 F29 t H1 locs ht hvm hw hB hz1 hk1 hS => ?_)
    obtain ⟨hP, hK1⟩ := hB
    rw [ht] at hP
    generalize H1 = H at hP hS ⊢
    obtain ⟨h30, h32, hI, hfr1, hzf, h31⟩ := hw
    have o33 : F29 (A 13) = .inl (cs 0, 400, .inl f1) := (hfr1 _ (by rw [(y_k13 hA)]; decide)).trans o13
    have o34 : F29 (A 20) = .inl (cs 0, 918, .inl f4) := (hfr1 _ (by rw [(y_k20 hA)]; decide)).trans o14
    have oY35 : F29 a0 = .inr (7, y_fl A z0 q0) := (hfr1 _ (by rw [ha0]; decide)).trans oY15
    have hfr : ∀ b, K b ∉ [70] → F29 b = F b := fun b hb9 => (hfr1 b (fun q => hb9 (s_sub (by decide) q))).trans (hfr b hb9)
    have h31 : (r28 = y_c f1 387) := by have q9 := h31; rw [y_atE o13] at q9; exact q9
    have h36 := congrArg Int32.toInt h31
    refine lv_icmp_ne (tgt := 44) hx hb dX7_endsTop_25 (by decide) (fun c37 => ?_) (fun c37 => ?_)
    · have c37 := mt Int32.toInt_inj.symm.mpr c37
      exact W.vret hx hb hr (fun t ht hW => ⟨⟨F29, rfl, ⟨trivial, trivial, hI, hfr, fun k hk => (y_fiZ oY35 (s_sub (by decide) hk)).trans ((hz0 k hk).trans (y_fiZ oY0 (s_sub (by decide) hk)).symm), (by rw [y_atE o2, y_atE o5, y_atE o34]; exact (Or.inr (Or.inl ⟨by omega, by omega, rfl⟩)))⟩, by rw [ht]; exact hP, va_K.moved hW.alike hK⟩, hS.F ht⟩) hS.2.2 dX7_endsTop_44
    · have c37 := Int32.toInt_inj.symm.mp c37
      refine lv_aload_n hx hb dX7_endsTop_28 rfl (lv_at hl 1 rfl) ?_
      refine lv_iload_n hx hb dX7_endsTop_29 rfl (lv_at hl 2 rfl) ?_
      refine lv_aload_n hx hb dX7_endsTop_30 rfl (lv_at hl 1 rfl) ?_
      refine th_get (D := (dC, dI)) (ci := 7) (v := .ref (A 20)) (C := RX7) (T := TX7) (N := 34) hx hb hts inX7 hown hK hP (hLK _ ha0 (by decide)) oY35 rfl 20 (by decide) (hts _ T_251) (fun _ h9 => h9) rfl dX7_endsTop_31 ?_
      refine lv_iload_n hx hb dX7_endsTop_34 rfl (lv_at hl 2 rfl) ?_
      refine lv_iload_n hx hb dX7_endsTop_35 rfl (lv_at hl 0 rfl) ?_
      refine lv_iconst (v := 2) hx hb dX7_endsTop_36 (by decide) ?_
      refine va_calli (va_runS (As := [.int x1, .int r8, .int 2]) (rest := [.ref (A 20), .int x1, .ref a0]) ⟨hx, hb, hml, hown, hts⟩ (y_X7_partAt l dC dI H.size F29 x1 r8 2 (⟨by omega, by omega⟩) (⟨by omega, by omega⟩) (by decide)) (cwS 3 hts (ax_gS T_1078 T_1080 T_265 T_1079) rfl rfl rfl (by decide +kernel) ⟨Nat.le_of_ble_eq_true rfl, Nat.le_of_ble_eq_true rfl⟩) ⟨fun a U g mk q => ⟨q.1, s_pc rfl rfl q.2⟩, fun U hU hW => ⟨rfl, s_pw hU hW hP hK hD hN⟩⟩ rfl rfl hl.1 rfl (lv_room (Nat.le_of_ble_eq_true rfl)) dX7_endsTop_37 ⟨Nat.zero_le _, Nat.zero_le _⟩) hS (fun q _ h => h) (fun q h => h) (fun r39 F40 t H1 locs ht hvm hw hB hz1 hk1 hS => ?_)
      obtain ⟨hP, hK1⟩ := hB
      rw [ht] at hP
      generalize H1 = H at hP hS ⊢
      obtain ⟨h41, h43, hG9, h42⟩ := hw
      rw [hG9] at hP
      have h42 : (r39.toInt = 288 + 48 * x1.toInt + 3 * r8.toInt + 2) := by have q9 := h42; exact q9
      refine th_iald hx hb hK hP (hLK _ (y_k20 hA) (by decide)) 0 o34 rfl (th_in ⟨by omega, by omega⟩) dX7_endsTop_40 ?_
      refine lv_topi (fun v44 ev44 => ?_)
      have Ev44 : v44 = y_c f4 (287 + 48 * x1.toInt + 3 * (y_c f4 (109 + 6 * x1.toInt)).toInt) := ev44.trans (y_ci (by omega))
      have tEv44 := congrArg Int32.toInt Ev44
      refine va_callv (va_runV (As := [.int x1, .int v44]) (rest := []) ⟨hx, hb, hml, hown, hts⟩ (y_X7_dies l dC dI H.size hLK A hA F29 a0 x1 v44 ha0 (⟨by omega, by omega⟩) hI (by rw [y_atE o34]; exact hpn)) (cwV 2 hts (ax_gV T_1106 T_1108 T_1109 T_265 T_1107) rfl rfl rfl (by decide +kernel) ⟨Nat.le_of_ble_eq_true rfl, Nat.le_of_ble_eq_true rfl⟩) ⟨fun a U g mk q => ⟨q.1, s_pc rfl rfl q.2⟩, s_recv hK hP (hLK _ ha0 (by decide)) (ci := 7) rfl oY35, fun U hU hW => ⟨rfl, s_pw hU hW hP hK hD hN⟩⟩ rfl rfl hl.1 rfl (lv_room (Nat.le_of_ble_eq_true rfl)) dX7_endsTop_41 ⟨Nat.zero_le _, Nat.zero_le _⟩) hS (fun q _ h => h) (fun q h => h) (fun F46 t H1 locs ht hvm hw hB hz1 hk1 hS => ?_)
      obtain ⟨hP, hK1⟩ := hB
      rw [ht] at hP
      generalize H1 = H at hP hS ⊢
      obtain ⟨h47, h49, hI, hfr1, hzf, h48⟩ := hw
      have o50 : F46 (A 13) = .inl (cs 0, 400, .inl f1) := (hfr1 _ (by rw [(y_k13 hA)]; decide)).trans o33
      have oY51 : F46 a0 = .inr (7, y_fl A z0 q0) := (hfr1 _ (by rw [ha0]; decide)).trans oY35
      have hfr : ∀ b, K b ∉ [70] → F46 b = F b := fun b hb9 => (hfr1 b (fun q => hb9 (s_sub (by decide) q))).trans (hfr b hb9)
      obtain ⟨f52, o53, b54⟩ := y_op20 hI
      have h48 : (∀ j : Int, 0 ≤ j → y_c f52 j = y_die f4 x1.toInt (y_c f4 (109 + 6 * x1.toInt)).toInt v44 j) := by have q9 := h48; rw [y_atE o53, y_atE o34] at q9; exact q9
      exact W.vret hx hb hr (fun t ht hW => ⟨⟨F46, rfl, ⟨trivial, trivial, hI, hfr, fun k hk => (y_fiZ oY51 (s_sub (by decide) hk)).trans ((hz0 k hk).trans (y_fiZ oY0 (s_sub (by decide) hk)).symm), (by rw [y_atE o2, y_atE o5, y_atE o53]; exact (Or.inr (Or.inr ⟨by omega, fun j hj => by rw [← Ev44]; exact h48 j hj⟩)))⟩, by rw [ht]; exact hP, va_K.moved hW.alike hK⟩, hS.F ht⟩) hS.2.2 dX7_endsTop_44

set_option maxHeartbeats 4000000 in
set_option maxRecDepth 100000 in
theorem yt_X7_clears (l : Launch) (dC : Nat → ClassId) (dI : Nat → Nat → Nat) (sz : Nat) {L : List Nat} {K : Nat → Nat} {cs : Nat → ClassId} (hLK : ∀ a {k : Nat}, K a = k → k ≠ 0 → a ∈ L) (A : Nat → Nat) (hA : y_A K A) (F : Nat → va_E) (a0 : Nat) (x1 : Int32) (ha0 : K a0 = 9) (hx1 : 0 ≤ x1.toInt ∧ x1.toInt ≤ 3) (hI : y_I K cs A F) (hW0 : y_W0 (y_at F (A 20)) x1.toInt) (hWs : y_Ws (y_c (y_at F (A 13)) 387).toInt (y_at F (A 20)) x1.toInt) : Met l yX7_clears (Cond.code yX7_clears cX7_clears 3 none :: T0) ({ frames := 4, cells := 0, slots := 0, locals := 88 }) (va_Pc [.ref a0, .int x1] (s_W dC dI sz L F [(cs 0, .int), (cs 1, .byte), (cs 2, .long), (cs 3, .object RX5), (cs 4, .object RX4), (cs 5, .array .int), (cs 6, .char), (cs 7, .boolean)])) (va_Qv (fun (G : Nat → va_E) => True ∧ True ∧ y_I K cs A G ∧ (∀ b, K b ∉ [70] → G b = F b) ∧ (∀ k, k ∈ ([1, 2, 3, 4, 5, 6, 7, 8, 11, 15, 16, 19, 25, 26, 27, 31, 32] : List Nat) → y_fi G a0 k = y_fi F a0 k) ∧ (y_W0 (y_at G (A 20)) x1.toInt ∧ y_Ws (y_c (y_at F (A 13)) 387).toInt (y_at G (A 20)) x1.toInt ∧ y_Wt (y_c (y_at F (A 13)) 387).toInt (y_at G (A 20)) x1.toInt ∧ y_fw x1.toInt (y_at F (A 20)) (y_at G (A 20)))) (fun (G : Nat → va_E) (t : State) => va_P (dC, dI) vwCl (va_pl L G) t.heap ∧ va_K (dC, dI) vwCl [(cs 0, .int), (cs 1, .byte), (cs 2, .long), (cs 3, .object RX5), (cs 4, .object RX4), (cs 5, .array .int), (cs 6, .char), (cs 7, .boolean)] t) (fun q => q ∈ L)) 0 0 (fun q => q ∈ L) := by
  refine Met.ofW (cc := cX7_clears) (maxL := 3) (ret := none) (by decide) rfl ?_
  intro p e s m args below meth c s₁ B hml hv
  obtain ⟨rfl, hsz, hP, hK, hD, hN⟩ := hv
  have hx := B.exec
  have hb := B.bytes
  have hr := B.returns
  have hts : ∀ w ∈ T0, w.before _ s = true := fun w h => atoms_spec (ws := Cond.code yX7_clears cX7_clears 3 none :: T0) B.pre w (List.mem_cons_of_mem _ h)
  have hown : s.vm.findClass RX7 = some m.cls := findClass_of_methodNamed B.named
  have hlocks := B.notSynchronized
  have hS : va_S (fun q => q ∈ L) s.heap s.heap [] := va_S.rf
  have hfr : ∀ b, K b ∉ [70] → F b = F b := fun _ _ => rfl
  have hl := lv_entry ([.ref a0, .int x1]) (n := 3) (Nat.le_of_ble_eq_true rfl)
  rw [lg_entry_eq]
  generalize (lg_sl ([.ref a0, .int x1]) ++ List.replicate (3 - (lg_sl ([.ref a0, .int x1])).length) Slot.unset).toArray = ls at hl ⊢
  have hl : lv_has ls 3 [(0, .ref a0), (1, .int x1)] := hl
  refine s_gen hP hS (fun H locs hP hS => ?_)
  obtain ⟨z0, q0, oY0, bz0, bq0⟩ := y_opY hI ha0
  have hz0 : ∀ k, k ∈ ([1, 2, 3, 4, 5, 6, 7, 8, 11, 15, 16, 19, 25, 26, 27, 31, 32] : List Nat) → z0 k = z0 k := fun _ _ => rfl
  obtain ⟨f1, o2, b3⟩ := y_op13 hI
  obtain ⟨f4, o5, b6⟩ := y_op20 hI
  have hW0 : y_W0 f4 x1.toInt := by have q9 := hW0; rw [y_atE o5] at q9; exact q9
  have hWs : y_Ws (y_c f1 387).toInt f4 x1.toInt := by have q9 := hWs; rw [y_atE o2, y_atE o5] at q9; exact q9
  have hn7 := hW0.2.2.2
  refine lv_aload_n hx hb dX7_clears_0 rfl (lv_at hl 0 rfl) ?_
  refine lv_iload_n hx hb dX7_clears_1 rfl (lv_at hl 1 rfl) ?_
  refine va_callv (va_runV (As := [.int x1]) (rest := []) ⟨hx, hb, hml, hown, hts⟩ (y_X7_endsTop l dC dI H.size hLK A hA F a0 x1 ha0 (⟨by omega, by omega⟩) hI (by rw [y_atE o5]; exact hW0.2.2.2)) (cwV 1 hts (ax_gV T_1089 T_1091 T_1092 T_265 T_1090) rfl rfl rfl (by decide +kernel) ⟨Nat.le_of_ble_eq_true rfl, Nat.le_of_ble_eq_true rfl⟩) ⟨fun a U g mk q => ⟨q.1, s_pc rfl rfl q.2⟩, s_recv hK hP (hLK _ ha0 (by decide)) (ci := 7) rfl oY0, fun U hU hW => ⟨rfl, s_pw hU hW hP hK hD hN⟩⟩ rfl rfl hl.1 rfl (lv_room (Nat.le_of_ble_eq_true rfl)) dX7_clears_2 ⟨Nat.zero_le _, Nat.zero_le _⟩) hS (fun q _ h => h) (fun q h => h) (fun F9 t H1 locs ht hvm hw hB hz1 hk1 hS => ?_)
  obtain ⟨hP, hK1⟩ := hB
  rw [ht] at hP
  generalize H1 = H at hP hS ⊢
  obtain ⟨h10, h12, hI, hfr1, hzf, h11⟩ := hw
  have o13 : F9 (A 13) = .inl (cs 0, 400, .inl f1) := (hfr1 _ (by rw [(y_k13 hA)]; decide)).trans o2
  have oY14 : F9 a0 = .inr (7, y_fl A z0 q0) := (hfr1 _ (by rw [ha0]; decide)).trans oY0
  have hfr : ∀ b, K b ∉ [70] → F9 b = F b := fun b hb9 => (hfr1 b (fun q => hb9 (s_sub (by decide) q))).trans (hfr b hb9)
  obtain ⟨f15, o16, b17⟩ := y_op20 hI
  have h11 : (y_ET (y_c f1 387).toInt f4 x1.toInt f15) := by have q9 := h11; rw [y_atE o2, y_atE o5, y_atE o16] at q9; exact q9
  obtain ⟨k18a, k18b, k18c, k18d, k18e⟩ := y_ends ⟨by omega, by omega⟩ h11 hW0 hWs
  have hn19 := k18a.2.2.2
  refine lv_aload_n hx hb dX7_clears_5 rfl (lv_at hl 0 rfl) ?_
  refine lv_iload_n hx hb dX7_clears_6 rfl (lv_at hl 1 rfl) ?_
  refine va_calli (va_runV (As := [.int x1]) (rest := []) ⟨hx, hb, hml, hown, hts⟩ (y_X7_top l dC dI H.size hLK A hA F9 a0 x1 ha0 (⟨by omega, by omega⟩) hI) (cwV 1 hts (ax_gV T_1074 T_1076 T_1077 T_265 T_1075) rfl rfl rfl (by decide +kernel) ⟨Nat.le_of_ble_eq_true rfl, Nat.le_of_ble_eq_true rfl⟩) ⟨fun a U g mk q => ⟨q.1, s_pc rfl rfl q.2⟩, s_recv hK hP (hLK _ ha0 (by decide)) (ci := 7) rfl oY14, fun U hU hW => ⟨rfl, s_pw hU hW hP hK hD hN⟩⟩ rfl rfl hl.1 rfl (lv_room (Nat.le_of_ble_eq_true rfl)) dX7_clears_7 ⟨Nat.zero_le _, Nat.zero_le _⟩) hS (fun q _ h => h) (fun q h => h) (fun r21 F22 t H1 locs ht hvm hw hB hz1 hk1 hS => ?_)
  obtain ⟨hP, hK1⟩ := hB
  rw [ht] at hP
  generalize H1 = H at hP hS ⊢
  obtain ⟨h23, h25, hI, hfr1, hzf, h24⟩ := hw
  have o26 : F22 (A 13) = .inl (cs 0, 400, .inl f1) := (hfr1 _ (by rw [(y_k13 hA)]; decide)).trans o13
  have o27 : F22 (A 20) = .inl (cs 0, 918, .inl f15) := (hfr1 _ (by rw [(y_k20 hA)]; decide)).trans o16
  have oY28 : F22 a0 = .inr (7, y_fl A z0 q0) := (hfr1 _ (by rw [ha0]; decide)).trans oY14
  have hfr : ∀ b, K b ∉ [70] → F22 b = F b := fun b hb9 => (hfr1 b (fun q => hb9 (s_sub (by decide) q))).trans (hfr b hb9)
  have h24 : (r21 = y_c f15 (109 + 6 * x1.toInt) - 1) := by have q9 := h24; rw [y_atE o16] at q9; exact q9
  have h29 := congrArg Int32.toInt h24
  have h30 : -1 ≤ r21.toInt ∧ r21.toInt ≤ 14 := by have q9 : r21.toInt = (y_c f15 (109 + 6 * x1.toInt)).toInt - 1 := (by rw [h24]; exact th_sub rfl (by decide) ⟨by omega, by omega⟩); exact ⟨by omega, by omega⟩
  have h31 : r21.toInt = (y_c f15 (109 + 6 * x1.toInt)).toInt - 1 := by rw [h24]; exact th_sub rfl (by decide) ⟨by omega, by omega⟩
  refine lv_istore_n (lv' := [(2, .int r21), (0, .ref a0), (1, .int x1)]) hx hb dX7_clears_10 rfl hl (by decide) rfl (fun ls hl => ?_)
  refine th_loop (fun n g H locs => ∃ (G : Nat → va_E) (ls : Array Slot) (w32 : Int32), g = F0 m 11 ls [] ∧ lv_has ls 3 [(0, .ref a0), (1, .int x1), (2, .int w32)] ∧ va_P (dC, dI) vwCl (va_pl L G) H ∧ va_S (fun q => q ∈ L) s.heap H locs ∧ y_I K cs A G ∧ (∀ b, K b ∉ [70] → G b = F b) ∧ (∀ k, k ∈ ([1, 2, 3, 4, 5, 6, 7, 8, 11, 15, 16, 19, 25, 26, 27, 31, 32] : List Nat) → y_fi G a0 k = z0 k) ∧ (-1 ≤ w32.toInt ∧ w32.toInt ≤ 14) ∧ (0 ≤ x1.toInt ∧ x1.toInt ≤ 3) ∧ y_W0 (y_at G (A 20)) x1.toInt ∧ y_Ws (y_c f1 387).toInt (y_at G (A 20)) x1.toInt ∧ y_fw x1.toInt f4 (y_at G (A 20)) ∧ y_TP (y_c f1 387).toInt (y_at G (A 20)) x1.toInt ∧ (w32.toInt = (y_c (y_at G (A 20)) (109 + 6 * x1.toInt)).toInt - 1) ∧ n = (w32.toInt - (-2)).toNat) _ ⟨F22, _, r21, rfl, lv_sub hl [1, 2, 0] rfl, hP, hS, hI, hfr, (fun k hk => (y_fiZ oY28 (s_sub (by decide) hk)).trans (hz0 k hk)), ⟨by omega, by omega⟩, ⟨by omega, by omega⟩, (by rw [y_atE o27]; exact k18a), (by rw [y_atE o27]; exact k18b), (by rw [y_atE o27]; exact (y_fw_t (y_fw_r _ _) k18c)), (by rw [y_atE o27]; exact k18e), (by first | (rw [y_atE o27]; omega) | rw [y_atE o27]), rfl⟩ (fun n ih11 g H locs hq => ?_)
  obtain ⟨F40, ls, w32, rfl, hl, hP, hS, hI, hfr, hz0, h33, h34, h35, h36, h37, h38, h39, hn⟩ := hq
  have o41 : F40 (A 13) = .inl (cs 0, 400, .inl f1) := (hfr _ (by rw [(y_k13 hA)]; decide)).trans o2
  have oY42 : F40 a0 = .inr (7, y_fl A z0 q0) := (hfr _ (by rw [ha0]; decide)).trans oY0
  have hz0 : ∀ k, k ∈ ([1, 2, 3, 4, 5, 6, 7, 8, 11, 15, 16, 19, 25, 26, 27, 31, 32] : List Nat) → z0 k = z0 k := fun _ _ => rfl
  obtain ⟨f43, o44, b45⟩ := y_op20 hI
  have h35 : y_W0 f43 x1.toInt := by have q9 := h35; rw [y_atE o44] at q9; exact q9
  have h36 : y_Ws (y_c f1 387).toInt f43 x1.toInt := by have q9 := h36; rw [y_atE o44] at q9; exact q9
  have h37 : y_fw x1.toInt f4 f43 := by have q9 := h37; rw [y_atE o44] at q9; exact q9
  have h38 : y_TP (y_c f1 387).toInt f43 x1.toInt := by have q9 := h38; rw [y_atE o44] at q9; exact q9
  have h39 : (w32.toInt = (y_c f43 (109 + 6 * x1.toInt)).toInt - 1) := by have q9 := h39; rw [y_atE o44] at q9; exact q9
  have hn46 := h35.2.2.2
  have hn_46 := hn
  refine lv_iload_n hx hb dX7_clears_11 rfl (lv_at hl 2 rfl) ?_
  refine lv_if_lt (tgt := 83) hx hb dX7_clears_12 (by decide) (fun c47 => ?_) (fun c47 => ?_)
  · have c47 := (ax_lt (n := 0) (by decide)).mp c47
    exact W.vret hx hb hr (fun t ht hW => ⟨⟨F40, rfl, ⟨trivial, trivial, hI, hfr, fun k hk => (y_fiZ oY42 (s_sub (by decide) hk)).trans ((hz0 k hk).trans (y_fiZ oY0 (s_sub (by decide) hk)).symm), (by rw [y_atE o44, y_atE o2, y_atE o5]; exact ⟨h35, h36, y_tops h35 h36 h38 (Or.inl (by omega)), h37⟩)⟩, by rw [ht]; exact hP, va_K.moved hW.alike hK⟩, hS.F ht⟩) hS.2.2 dX7_clears_83
  · have c47 := mt (ax_lt (n := 0) (by decide)).mpr c47
    refine lv_aload_n hx hb dX7_clears_15 rfl (lv_at hl 0 rfl) ?_
    refine th_get (D := (dC, dI)) (ci := 7) (v := .ref (A 20)) (C := RX7) (T := TX7) (N := 34) hx hb hts inX7 hown hK hP (hLK _ ha0 (by decide)) oY42 rfl 20 (by decide) (hts _ T_251) (fun _ h9 => h9) rfl dX7_clears_16 ?_
    refine lv_iload_n hx hb dX7_clears_19 rfl (lv_at hl 1 rfl) ?_
    refine lv_iload_n hx hb dX7_clears_20 rfl (lv_at hl 2 rfl) ?_
    refine lv_iconst (v := 2) hx hb dX7_clears_21 (by decide) ?_
    refine va_calli (va_runS (As := [.int x1, .int w32, .int 2]) (rest := [.ref (A 20)]) ⟨hx, hb, hml, hown, hts⟩ (y_X7_partAt l dC dI H.size F40 x1 w32 2 (⟨by omega, by omega⟩) (⟨by omega, by omega⟩) (by decide)) (cwS 3 hts (ax_gS T_1078 T_1080 T_265 T_1079) rfl rfl rfl (by decide +kernel) ⟨Nat.le_of_ble_eq_true rfl, Nat.le_of_ble_eq_true rfl⟩) ⟨fun a U g mk q => ⟨q.1, s_pc rfl rfl q.2⟩, fun U hU hW => ⟨rfl, s_pw hU hW hP hK hD hN⟩⟩ rfl rfl hl.1 rfl (lv_room (Nat.le_of_ble_eq_true rfl)) dX7_clears_22 ⟨Nat.zero_le _, Nat.zero_le _⟩) hS (fun q _ h => h) (fun q h => h) (fun r49 F50 t H1 locs ht hvm hw hB hz1 hk1 hS => ?_)
    obtain ⟨hP, hK1⟩ := hB
    rw [ht] at hP
    generalize H1 = H at hP hS ⊢
    obtain ⟨h51, h53, hG9, h52⟩ := hw
    rw [hG9] at hP
    have h52 : (r49.toInt = 288 + 48 * x1.toInt + 3 * w32.toInt + 2) := by have q9 := h52; exact q9
    refine th_iald hx hb hK hP (hLK _ (y_k20 hA) (by decide)) 0 o44 rfl (th_in ⟨by omega, by omega⟩) dX7_clears_25 ?_
    refine lv_topi (fun v54 ev54 => ?_)
    have Ev54 : v54 = y_c f43 (287 + 48 * x1.toInt + 3 * (y_c f43 (109 + 6 * x1.toInt)).toInt) := ev54.trans (y_ci (by omega))
    have tEv54 := congrArg Int32.toInt Ev54
    refine lv_if_eq (tgt := 58) hx hb dX7_clears_26 (by decide) (fun c55 => ?_) (fun c55 => ?_)
    · have c55 := (ax_eq (n := 0) (by decide)).mp c55
      have hz9 : y_c f43 (287 + 48 * x1.toInt + 3 * (y_c f43 (109 + 6 * x1.toInt)).toInt) = 0 := by rw [← Ev54]; exact y_z32 c55
      refine lv_aload_n hx hb dX7_clears_58 rfl (lv_at hl 0 rfl) ?_
      refine th_get (D := (dC, dI)) (ci := 7) (v := .ref (A 20)) (C := RX7) (T := TX7) (N := 34) hx hb hts inX7 hown hK hP (hLK _ ha0 (by decide)) oY42 rfl 20 (by decide) (hts _ T_251) (fun _ h9 => h9) rfl dX7_clears_59 ?_
      refine lv_iload_n hx hb dX7_clears_62 rfl (lv_at hl 1 rfl) ?_
      refine lv_iconst (v := 5) hx hb dX7_clears_63 (by decide) ?_
      refine va_calli (va_runS (As := [.int x1, .int 5]) (rest := [.ref (A 20)]) ⟨hx, hb, hml, hown, hts⟩ (y_X7_warpAt l dC dI H.size F40 x1 5 (⟨by omega, by omega⟩) (by decide)) (cwS 2 hts (ax_gS T_1021 T_1023 T_265 T_1022) rfl rfl rfl (by decide +kernel) ⟨Nat.le_of_ble_eq_true rfl, Nat.le_of_ble_eq_true rfl⟩) ⟨fun a U g mk q => ⟨q.1, s_pc rfl rfl q.2⟩, fun U hU hW => ⟨rfl, s_pw hU hW hP hK hD hN⟩⟩ rfl rfl hl.1 rfl (lv_room (Nat.le_of_ble_eq_true rfl)) dX7_clears_64 ⟨Nat.zero_le _, Nat.zero_le _⟩) hS (fun q _ h => h) (fun q h => h) (fun r57 F58 t H1 locs ht hvm hw hB hz1 hk1 hS => ?_)
      obtain ⟨hP, hK1⟩ := hB
      rw [ht] at hP
      generalize H1 = H at hP hS ⊢
      obtain ⟨h59, h61, hG9, h60⟩ := hw
      rw [hG9] at hP
      have h60 : (r57.toInt = 104 + 6 * x1.toInt + 5) := by have q9 := h60; exact q9
      refine lv_dup2_11 hx hb dX7_clears_67 rfl rfl ?_
      refine th_iald hx hb hK hP (hLK _ (y_k20 hA) (by decide)) 0 o44 rfl (th_in ⟨by omega, by omega⟩) dX7_clears_68 ?_
      refine lv_topi (fun v62 ev62 => ?_)
      have Ev62 : v62 = y_c f43 (109 + 6 * x1.toInt) := ev62.trans (y_ci (by omega))
      have tEv62 := congrArg Int32.toInt Ev62
      have h63 : 1 ≤ v62.toInt ∧ v62.toInt ≤ 15 := ⟨by omega, by omega⟩
      refine lv_iconst (v := 1) hx hb dX7_clears_69 (by decide) ?_
      refine lv_isub hx hb dX7_clears_70 ?_
      refine lv_topi (fun v64 ev64 => ?_)
      have qv64 : v64.toInt = v62.toInt - 1 := by rw [ev64]; exact th_sub rfl (by decide) ⟨by omega, by omega⟩
      refine th_iast hx hb hK hP hD hS (hLK _ (y_k20 hA) (by decide)) 0 o44 rfl (th_in ⟨by omega, by omega⟩) dX7_clears_71 (fun H locs hP hS => ?_)
      obtain ⟨f65, u66⟩ : ∃ g : Nat → Int32, g = upd f43 (r57 : Int32).toNatClampNeg v64 := ⟨_, rfl⟩
      rw [← u66] at hP
      have b67 : y_bd 20 f65 := trivial
      have hP : va_P (dC, dI) vwCl (va_pl L (va_up F40 (A 20) (.inl (cs 0, 918, .inl f65)))) H := hP
      obtain ⟨F68, hF69⟩ : ∃ G : Nat → va_E, G = va_up F40 (A 20) (.inl (cs 0, 918, .inl f65)) := ⟨_, rfl⟩
      rw [← hF69] at hP
      have hI : y_I K cs A F68 := by rw [hF69]; exact y_clA (i := 20) hA hI (by decide) b67
      have hfr : ∀ b, K b ∉ [70] → F68 b = F b := by rw [hF69]; exact s_fr hfr (y_k20 hA) (by decide)
      have o70 : F68 (A 13) = .inl (cs 0, 400, .inl f1) := by rw [hF69]; exact th_ne (th_kd (y_k13 hA) (y_k20 hA) (by decide)) o41
      have oY71 : F68 a0 = .inr (7, y_fl A z0 q0) := by rw [hF69]; exact th_ne (th_kd ha0 (y_k20 hA) (by decide)) oY42
      have o72 : F68 (A 20) = .inl (cs 0, 918, .inl f65) := by rw [hF69]; exact th_up
      have u73 : ∀ j : Int, 0 ≤ j → y_c f65 j = if j = r57.toInt then v64 else y_c f43 j := by rw [u66]; exact y_cu rfl (by omega)
      obtain ⟨k74a, k74b⟩ := y_Ws_pop ⟨by omega, by omega⟩ u73 (by omega) (by omega) h35 (by omega) (Or.inl hz9) h36
      have k74d : (y_c f65 (109 + 6 * x1.toInt)).toInt = (y_c f43 (109 + 6 * x1.toInt)).toInt - 1 := by rw [u73 _ (by omega), if_pos (by omega)]; omega
      have hn75 := k74a.2.2.2
      refine lv_aload_n hx hb dX7_clears_72 rfl (lv_at hl 0 rfl) ?_
      refine lv_iload_n hx hb dX7_clears_73 rfl (lv_at hl 1 rfl) ?_
      refine va_callv (va_runV (As := [.int x1]) (rest := []) ⟨hx, hb, hml, hown, hts⟩ (y_X7_endsTop l dC dI H.size hLK A hA F68 a0 x1 ha0 (⟨by omega, by omega⟩) hI (by rw [y_atE o72]; exact k74a.2.2.2)) (cwV 1 hts (ax_gV T_1089 T_1091 T_1092 T_265 T_1090) rfl rfl rfl (by decide +kernel) ⟨Nat.le_of_ble_eq_true rfl, Nat.le_of_ble_eq_true rfl⟩) ⟨fun a U g mk q => ⟨q.1, s_pc rfl rfl q.2⟩, s_recv hK hP (hLK _ ha0 (by decide)) (ci := 7) rfl oY71, fun U hU hW => ⟨rfl, s_pw hU hW hP hK hD hN⟩⟩ rfl rfl hl.1 rfl (lv_room (Nat.le_of_ble_eq_true rfl)) dX7_clears_74 ⟨Nat.zero_le _, Nat.zero_le _⟩) hS (fun q _ h => h) (fun q h => h) (fun F77 t H1 locs ht hvm hw hB hz1 hk1 hS => ?_)
      obtain ⟨hP, hK1⟩ := hB
      rw [ht] at hP
      generalize H1 = H at hP hS ⊢
      obtain ⟨h78, h80, hI, hfr1, hzf, h79⟩ := hw
      have o81 : F77 (A 13) = .inl (cs 0, 400, .inl f1) := (hfr1 _ (by rw [(y_k13 hA)]; decide)).trans o70
      have oY82 : F77 a0 = .inr (7, y_fl A z0 q0) := (hfr1 _ (by rw [ha0]; decide)).trans oY71
      have hfr : ∀ b, K b ∉ [70] → F77 b = F b := fun b hb9 => (hfr1 b (fun q => hb9 (s_sub (by decide) q))).trans (hfr b hb9)
      obtain ⟨f83, o84, b85⟩ := y_op20 hI
      have h79 : (y_ET (y_c f1 387).toInt f65 x1.toInt f83) := by have q9 := h79; rw [y_atE o70, y_atE o72, y_atE o84] at q9; exact q9
      obtain ⟨k86a, k86b, k86c, k86d, k86e⟩ := y_ends ⟨by omega, by omega⟩ h79 k74a k74b
      have hn87 := k86a.2.2.2
      obtain ⟨v88, ev88⟩ : ∃ y : Int32, w32 + (-1) = y := ⟨_, rfl⟩
      have qv88 : v88.toInt = w32.toInt + (-1) := by rw [← ev88]; exact th_add rfl (by decide) ⟨by omega, by omega⟩
      refine lv_iinc (v := v88) (lv' := [(2, .int v88), (0, .ref a0), (1, .int x1)]) hx hb dX7_clears_77 hl (k := 2) rfl ev88 (by decide) rfl (fun ls hl => ?_)
      refine lv_goto (tgt := 11) hx hb dX7_clears_80 (by decide) ?_
      exact ih11 _ _ _ _ (by omega) ⟨F77, _, v88, rfl, lv_sub hl [1, 2, 0] rfl, hP, hS, hI, hfr, (fun k hk => (y_fiZ oY82 (s_sub (by decide) hk)).trans (hz0 k hk)), ⟨by omega, by omega⟩, ⟨by omega, by omega⟩, (by rw [y_atE o84]; exact k86a), (by rw [y_atE o84]; exact k86b), (by rw [y_atE o84]; exact (y_fw_t (y_fw_t h37 (y_fw_u u73 (by omega))) k86c)), (by rw [y_atE o84]; exact k86e), (by first | (rw [y_atE o84]; omega) | rw [y_atE o84]), rfl⟩
    · have c55 := mt (ax_eq (n := 0) (by decide)).mpr c55
      have hz9 : ¬ y_c f43 (287 + 48 * x1.toInt + 3 * (y_c f43 (109 + 6 * x1.toInt)).toInt) = 0 := by rw [← Ev54]; exact y_nz32 c55
      refine lv_iload_n hx hb dX7_clears_29 rfl (lv_at hl 2 rfl) ?_
      refine lv_if_le (tgt := 83) hx hb dX7_clears_30 (by decide) (fun c89 => ?_) (fun c89 => ?_)
      · have c89 := (ax_le (n := 0) (by decide)).mp c89
        exact W.vret hx hb hr (fun t ht hW => ⟨⟨F40, rfl, ⟨trivial, trivial, hI, hfr, fun k hk => (y_fiZ oY42 (s_sub (by decide) hk)).trans ((hz0 k hk).trans (y_fiZ oY0 (s_sub (by decide) hk)).symm), (by rw [y_atE o44, y_atE o2, y_atE o5]; exact ⟨h35, h36, y_tops h35 h36 h38 (Or.inr hz9), h37⟩)⟩, by rw [ht]; exact hP, va_K.moved hW.alike hK⟩, hS.F ht⟩) hS.2.2 dX7_clears_83
      · have c89 := mt (ax_le (n := 0) (by decide)).mpr c89
        refine lv_aload_n hx hb dX7_clears_33 rfl (lv_at hl 0 rfl) ?_
        refine th_get (D := (dC, dI)) (ci := 7) (v := .ref (A 20)) (C := RX7) (T := TX7) (N := 34) hx hb hts inX7 hown hK hP (hLK _ ha0 (by decide)) oY42 rfl 20 (by decide) (hts _ T_251) (fun _ h9 => h9) rfl dX7_clears_34 ?_
        refine lv_iload_n hx hb dX7_clears_37 rfl (lv_at hl 1 rfl) ?_
        refine lv_iload_n hx hb dX7_clears_38 rfl (lv_at hl 2 rfl) ?_
        refine lv_iconst (v := 0) hx hb dX7_clears_39 (by decide) ?_
        refine va_calli (va_runS (As := [.int x1, .int w32, .int 0]) (rest := [.ref (A 20)]) ⟨hx, hb, hml, hown, hts⟩ (y_X7_partAt l dC dI H.size F40 x1 w32 0 (⟨by omega, by omega⟩) (⟨by omega, by omega⟩) (by decide)) (cwS 3 hts (ax_gS T_1078 T_1080 T_265 T_1079) rfl rfl rfl (by decide +kernel) ⟨Nat.le_of_ble_eq_true rfl, Nat.le_of_ble_eq_true rfl⟩) ⟨fun a U g mk q => ⟨q.1, s_pc rfl rfl q.2⟩, fun U hU hW => ⟨rfl, s_pw hU hW hP hK hD hN⟩⟩ rfl rfl hl.1 rfl (lv_room (Nat.le_of_ble_eq_true rfl)) dX7_clears_40 ⟨Nat.zero_le _, Nat.zero_le _⟩) hS (fun q _ h => h) (fun q h => h) (fun r91 F92 t H1 locs ht hvm hw hB hz1 hk1 hS => ?_)
        obtain ⟨hP, hK1⟩ := hB
        rw [ht] at hP
        generalize H1 = H at hP hS ⊢
        obtain ⟨h93, h95, hG9, h94⟩ := hw
        rw [hG9] at hP
        have h94 : (r91.toInt = 288 + 48 * x1.toInt + 3 * w32.toInt + 0) := by have q9 := h94; exact q9
        refine th_iald hx hb hK hP (hLK _ (y_k20 hA) (by decide)) 0 o44 rfl (th_in ⟨by omega, by omega⟩) dX7_clears_43 ?_
        refine lv_topi (fun v96 ev96 => ?_)
        have Ev96 : v96 = y_c f43 (285 + 48 * x1.toInt + 3 * (y_c f43 (109 + 6 * x1.toInt)).toInt) := ev96.trans (y_ci (by omega))
        have tEv96 := congrArg Int32.toInt Ev96
        refine lv_aload_n hx hb dX7_clears_44 rfl (lv_at hl 0 rfl) ?_
        refine th_get (D := (dC, dI)) (ci := 7) (v := .ref (A 20)) (C := RX7) (T := TX7) (N := 34) hx hb hts inX7 hown hK hP (hLK _ ha0 (by decide)) oY42 rfl 20 (by decide) (hts _ T_251) (fun _ h9 => h9) rfl dX7_clears_45 ?_
        refine lv_iload_n hx hb dX7_clears_48 rfl (lv_at hl 1 rfl) ?_
        refine lv_iload_n hx hb dX7_clears_49 rfl (lv_at hl 2 rfl) ?_
        refine lv_iconst (v := 1) hx hb dX7_clears_50 (by decide) ?_
        refine va_calli (va_runS (As := [.int x1, .int w32, .int 1]) (rest := [.ref (A 20), .int v96]) ⟨hx, hb, hml, hown, hts⟩ (y_X7_partAt l dC dI H.size F40 x1 w32 1 (⟨by omega, by omega⟩) (⟨by omega, by omega⟩) (by decide)) (cwS 3 hts (ax_gS T_1078 T_1080 T_265 T_1079) rfl rfl rfl (by decide +kernel) ⟨Nat.le_of_ble_eq_true rfl, Nat.le_of_ble_eq_true rfl⟩) ⟨fun a U g mk q => ⟨q.1, s_pc rfl rfl q.2⟩, fun U hU hW => ⟨rfl, s_pw hU hW hP hK hD hN⟩⟩ rfl rfl hl.1 rfl (lv_room (Nat.le_of_ble_eq_true rfl)) dX7_clears_51 ⟨Nat.zero_le _, Nat.zero_le _⟩) hS (fun q _ h => h) (fun q h => h) (fun r98 F99 t H1 locs ht hvm hw hB hz1 hk1 hS => ?_)
        obtain ⟨hP, hK1⟩ := hB
        rw [ht] at hP
        generalize H1 = H at hP hS ⊢
        obtain ⟨h100, h102, hG9, h101⟩ := hw
        rw [hG9] at hP
        have h101 : (r98.toInt = 288 + 48 * x1.toInt + 3 * w32.toInt + 1) := by have q9 := h101; exact q9
        refine th_iald hx hb hK hP (hLK _ (y_k20 hA) (by decide)) 0 o44 rfl (th_in ⟨by omega, by omega⟩) dX7_clears_54 ?_
        refine lv_topi (fun v103 ev103 => ?_)
        have Ev103 : v103 = y_c f43 (286 + 48 * x1.toInt + 3 * (y_c f43 (109 + 6 * x1.toInt)).toInt) := ev103.trans (y_ci (by omega))
        have tEv103 := congrArg Int32.toInt Ev103
        refine lv_icmp_ne (tgt := 83) hx hb dX7_clears_55 (by decide) (fun c104 => ?_) (fun c104 => ?_)
        · have c104 := mt Int32.toInt_inj.symm.mpr c104
          exact W.vret hx hb hr (fun t ht hW => ⟨⟨F40, rfl, ⟨trivial, trivial, hI, hfr, fun k hk => (y_fiZ oY42 (s_sub (by decide) hk)).trans ((hz0 k hk).trans (y_fiZ oY0 (s_sub (by decide) hk)).symm), (by rw [y_atE o44, y_atE o2, y_atE o5]; exact ⟨h35, h36, y_tops h35 h36 h38 (Or.inr hz9), h37⟩)⟩, by rw [ht]; exact hP, va_K.moved hW.alike hK⟩, hS.F ht⟩) hS.2.2 dX7_clears_83
        · have c104 := Int32.toInt_inj.symm.mp c104
          refine lv_aload_n hx hb dX7_clears_58 rfl (lv_at hl 0 rfl) ?_
          refine th_get (D := (dC, dI)) (ci := 7) (v := .ref (A 20)) (C := RX7) (T := TX7) (N := 34) hx hb hts inX7 hown hK hP (hLK _ ha0 (by decide)) oY42 rfl 20 (by decide) (hts _ T_251) (fun _ h9 => h9) rfl dX7_clears_59 ?_
          refine lv_iload_n hx hb dX7_clears_62 rfl (lv_at hl 1 rfl) ?_
          refine lv_iconst (v := 5) hx hb dX7_clears_63 (by decide) ?_
          refine va_calli (va_runS (As := [.int x1, .int 5]) (rest := [.ref (A 20)]) ⟨hx, hb, hml, hown, hts⟩ (y_X7_warpAt l dC dI H.size F40 x1 5 (⟨by omega, by omega⟩) (by decide)) (cwS 2 hts (ax_gS T_1021 T_1023 T_265 T_1022) rfl rfl rfl (by decide +kernel) ⟨Nat.le_of_ble_eq_true rfl, Nat.le_of_ble_eq_true rfl⟩) ⟨fun a U g mk q => ⟨q.1, s_pc rfl rfl q.2⟩, fun U hU hW => ⟨rfl, s_pw hU hW hP hK hD hN⟩⟩ rfl rfl hl.1 rfl (lv_room (Nat.le_of_ble_eq_true rfl)) dX7_clears_64 ⟨Nat.zero_le _, Nat.zero_le _⟩) hS (fun q _ h => h) (fun q h => h) (fun r106 F107 t H1 locs ht hvm hw hB hz1 hk1 hS => ?_)
          obtain ⟨hP, hK1⟩ := hB
          rw [ht] at hP
          generalize H1 = H at hP hS ⊢
          obtain ⟨h108, h110, hG9, h109⟩ := hw
          rw [hG9] at hP
          have h109 : (r106.toInt = 104 + 6 * x1.toInt + 5) := by have q9 := h109; exact q9
          refine lv_dup2_11 hx hb dX7_clears_67 rfl rfl ?_
          refine th_iald hx hb hK hP (hLK _ (y_k20 hA) (by decide)) 0 o44 rfl (th_in ⟨by omega, by omega⟩) dX7_clears_68 ?_
          refine lv_topi (fun v111 ev111 => ?_)
          have Ev111 : v111 = y_c f43 (109 + 6 * x1.toInt) := ev111.trans (y_ci (by omega))
          have tEv111 := congrArg Int32.toInt Ev111
          have h112 : 1 ≤ v111.toInt ∧ v111.toInt ≤ 15 := ⟨by omega, by omega⟩
          refine lv_iconst (v := 1) hx hb dX7_clears_69 (by decide) ?_
          refine lv_isub hx hb dX7_clears_70 ?_
          refine lv_topi (fun v113 ev113 => ?_)
          have qv113 : v113.toInt = v111.toInt - 1 := by rw [ev113]; exact th_sub rfl (by decide) ⟨by omega, by omega⟩
          refine th_iast hx hb hK hP hD hS (hLK _ (y_k20 hA) (by decide)) 0 o44 rfl (th_in ⟨by omega, by omega⟩) dX7_clears_71 (fun H locs hP hS => ?_)
          obtain ⟨f114, u115⟩ : ∃ g : Nat → Int32, g = upd f43 (r106 : Int32).toNatClampNeg v113 := ⟨_, rfl⟩
          rw [← u115] at hP
          have b116 : y_bd 20 f114 := trivial
          have hP : va_P (dC, dI) vwCl (va_pl L (va_up F40 (A 20) (.inl (cs 0, 918, .inl f114)))) H := hP
          obtain ⟨F117, hF118⟩ : ∃ G : Nat → va_E, G = va_up F40 (A 20) (.inl (cs 0, 918, .inl f114)) := ⟨_, rfl⟩
          rw [← hF118] at hP
          have hI : y_I K cs A F117 := by rw [hF118]; exact y_clA (i := 20) hA hI (by decide) b116
          have hfr : ∀ b, K b ∉ [70] → F117 b = F b := by rw [hF118]; exact s_fr hfr (y_k20 hA) (by decide)
          have o119 : F117 (A 13) = .inl (cs 0, 400, .inl f1) := by rw [hF118]; exact th_ne (th_kd (y_k13 hA) (y_k20 hA) (by decide)) o41
          have oY120 : F117 a0 = .inr (7, y_fl A z0 q0) := by rw [hF118]; exact th_ne (th_kd ha0 (y_k20 hA) (by decide)) oY42
          have o121 : F117 (A 20) = .inl (cs 0, 918, .inl f114) := by rw [hF118]; exact th_up
          have u122 : ∀ j : Int, 0 ≤ j → y_c f114 j = if j = r106.toInt then v113 else y_c f43 j := by rw [u115]; exact y_cu rfl (by omega)
          obtain ⟨k123a, k123b⟩ := y_Ws_pop ⟨by omega, by omega⟩ u122 (by omega) (by omega) h35 (by omega) (Or.inr (by omega)) h36
          have k123d : (y_c f114 (109 + 6 * x1.toInt)).toInt = (y_c f43 (109 + 6 * x1.toInt)).toInt - 1 := by rw [u122 _ (by omega), if_pos (by omega)]; omega
          have hn124 := k123a.2.2.2
          refine lv_aload_n hx hb dX7_clears_72 rfl (lv_at hl 0 rfl) ?_
          refine lv_iload_n hx hb dX7_clears_73 rfl (lv_at hl 1 rfl) ?_
          refine va_callv (va_runV (As := [.int x1]) (rest := []) ⟨hx, hb, hml, hown, hts⟩ (y_X7_endsTop l dC dI H.size hLK A hA F117 a0 x1 ha0 (⟨by omega, by omega⟩) hI (by rw [y_atE o121]; exact k123a.2.2.2)) (cwV 1 hts (ax_gV T_1089 T_1091 T_1092 T_265 T_1090) rfl rfl rfl (by decide +kernel) ⟨Nat.le_of_ble_eq_true rfl, Nat.le_of_ble_eq_true rfl⟩) ⟨fun a U g mk q => ⟨q.1, s_pc rfl rfl q.2⟩, s_recv hK hP (hLK _ ha0 (by decide)) (ci := 7) rfl oY120, fun U hU hW => ⟨rfl, s_pw hU hW hP hK hD hN⟩⟩ rfl rfl hl.1 rfl (lv_room (Nat.le_of_ble_eq_true rfl)) dX7_clears_74 ⟨Nat.zero_le _, Nat.zero_le _⟩) hS (fun q _ h => h) (fun q h => h) (fun F126 t H1 locs ht hvm hw hB hz1 hk1 hS => ?_)
          obtain ⟨hP, hK1⟩ := hB
          rw [ht] at hP
          generalize H1 = H at hP hS ⊢
          obtain ⟨h127, h129, hI, hfr1, hzf, h128⟩ := hw
          have o130 : F126 (A 13) = .inl (cs 0, 400, .inl f1) := (hfr1 _ (by rw [(y_k13 hA)]; decide)).trans o119
          have oY131 : F126 a0 = .inr (7, y_fl A z0 q0) := (hfr1 _ (by rw [ha0]; decide)).trans oY120
          have hfr : ∀ b, K b ∉ [70] → F126 b = F b := fun b hb9 => (hfr1 b (fun q => hb9 (s_sub (by decide) q))).trans (hfr b hb9)
          obtain ⟨f132, o133, b134⟩ := y_op20 hI
          have h128 : (y_ET (y_c f1 387).toInt f114 x1.toInt f132) := by have q9 := h128; rw [y_atE o119, y_atE o121, y_atE o133] at q9; exact q9
          obtain ⟨k135a, k135b, k135c, k135d, k135e⟩ := y_ends ⟨by omega, by omega⟩ h128 k123a k123b
          have hn136 := k135a.2.2.2
          obtain ⟨v137, ev137⟩ : ∃ y : Int32, w32 + (-1) = y := ⟨_, rfl⟩
          have qv137 : v137.toInt = w32.toInt + (-1) := by rw [← ev137]; exact th_add rfl (by decide) ⟨by omega, by omega⟩
          refine lv_iinc (v := v137) (lv' := [(2, .int v137), (0, .ref a0), (1, .int x1)]) hx hb dX7_clears_77 hl (k := 2) rfl ev137 (by decide) rfl (fun ls hl => ?_)
          refine lv_goto (tgt := 11) hx hb dX7_clears_80 (by decide) ?_
          exact ih11 _ _ _ _ (by omega) ⟨F126, _, v137, rfl, lv_sub hl [1, 2, 0] rfl, hP, hS, hI, hfr, (fun k hk => (y_fiZ oY131 (s_sub (by decide) hk)).trans (hz0 k hk)), ⟨by omega, by omega⟩, ⟨by omega, by omega⟩, (by rw [y_atE o133]; exact k135a), (by rw [y_atE o133]; exact k135b), (by rw [y_atE o133]; exact (y_fw_t (y_fw_t h37 (y_fw_u u122 (by omega))) k135c)), (by rw [y_atE o133]; exact k135e), (by first | (rw [y_atE o133]; omega) | rw [y_atE o133]), rfl⟩
