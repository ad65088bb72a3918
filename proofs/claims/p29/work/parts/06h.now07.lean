set_option maxHeartbeats 4000000 in
set_option maxRecDepth 100000 in
theorem y_X7_partsWays (l : Launch) (dC : Nat → ClassId) (dI : Nat → Nat → Nat) (sz : Nat) {L : List Nat} {K : Nat → Nat} {cs : Nat → ClassId} (hLK : ∀ a {k : Nat}, K a = k → k ≠ 0 → a ∈ L) (A : Nat → Nat) (hA : y_A K A) (F : Nat → va_E) (a0 : Nat) (x1 : Int32) (x2 : Int32) (x3 : Int32) (ha0 : K a0 = 9) (hx1 : 0 ≤ x1.toInt ∧ x1.toInt ≤ 3) (hx2 : 0 ≤ x2.toInt ∧ x2.toInt ≤ 39) (hI : y_I K cs A F) (hPG : y_PG (y_at F (A 13))) (hln : (x2.toInt < (y_c (y_at F (A 13)) 387).toInt)) (hW0 : y_W0 (y_at F (A 20)) x1.toInt) (hWs : y_Ws (y_c (y_at F (A 13)) 387).toInt (y_at F (A 20)) x1.toInt) (hws3 : (0 < (y_c (y_at F (A 20)) (109 + 6 * x1.toInt)).toInt ∧ y_sub x3 (y_c (y_at F (A 20)) (287 + 48 * x1.toInt + 3 * (y_c (y_at F (A 20)) (109 + 6 * x1.toInt)).toInt)))) (hop : ((y_c (y_at F (A 13)) (8 * x2.toInt)).toInt = 12)) : Met l yX7_partsWays (Cond.code yX7_partsWays cX7_partsWays 7 none :: T0) ({ frames := 4, cells := 0, slots := 0, locals := 92 }) (va_Pc [.ref a0, .int x1, .int x2, .int x3] (s_W dC dI sz L F [(cs 0, .int), (cs 1, .byte), (cs 2, .long), (cs 3, .object RX5), (cs 4, .object RX4), (cs 5, .array .int), (cs 6, .char), (cs 7, .boolean)])) (va_Qv (fun (G : Nat → va_E) => True ∧ True ∧ y_I K cs A G ∧ (∀ b, K b ∉ [70] → G b = F b) ∧ (∀ k, k ∈ ([1, 2, 3, 4, 5, 6, 7, 8, 11, 15, 16, 19, 25, 26, 27, 31, 32] : List Nat) → y_fi G a0 k = y_fi F a0 k) ∧ (y_W0 (y_at G (A 20)) x1.toInt ∧ y_Ws (y_c (y_at F (A 13)) 387).toInt (y_at G (A 20)) x1.toInt ∧ y_fw x1.toInt (y_at F (A 20)) (y_at G (A 20)) ∧ 0 < (y_c (y_at G (A 20)) (109 + 6 * x1.toInt)).toInt)) (fun (G : Nat → va_E) (t : State) => va_P (dC, dI) vwCl (va_pl L G) t.heap ∧ va_K (dC, dI) vwCl [(cs 0, .int), (cs 1, .byte), (cs 2, .long), (cs 3, .object RX5), (cs 4, .object RX4), (cs 5, .array .int), (cs 6, .char), (cs 7, .boolean)] t) (fun q => q ∈ L)) 0 0 (fun q => q ∈ L) := by
  refine Met.ofW (cc := cX7_partsWays) (maxL := 7) (ret := none) (by decide) rfl ?_
  intro p e s m args below meth c s₁ B hml hv
  obtain ⟨rfl, hsz, hP, hK, hD, hN⟩ := hv
  have hx := B.exec
  have hb := B.bytes
  have hr := B.returns
  have hts : ∀ w ∈ T0, w.before _ s = true := fun w h => atoms_spec (ws := Cond.code yX7_partsWays cX7_partsWays 7 none :: T0) B.pre w (List.mem_cons_of_mem _ h)
  have hown : s.vm.findClass RX7 = some m.cls := findClass_of_methodNamed B.named
  have hlocks := B.notSynchronized
  have hS : va_S (fun q => q ∈ L) s.heap s.heap [] := va_S.rf
  have hfr : ∀ b, K b ∉ [70] → F b = F b := fun _ _ => rfl
  have hl := lv_entry ([.ref a0, .int x1, .int x2, .int x3]) (n := 7) (Nat.le_of_ble_eq_true rfl)
  rw [lg_entry_eq]
  generalize (lg_sl ([.ref a0, .int x1, .int x2, .int x3]) ++ List.replicate (7 - (lg_sl ([.ref a0, .int x1, .int x2, .int x3])).length) Slot.unset).toArray = ls at hl ⊢
  have hl : lv_has ls 7 [(0, .ref a0), (1, .int x1), (2, .int x2), (3, .int x3)] := hl
  refine s_gen hP hS (fun H locs hP hS => ?_)
  obtain ⟨z0, q0, oY0, bz0, bq0⟩ := y_opY hI ha0
  have hz0 : ∀ k, k ∈ ([1, 2, 3, 4, 5, 6, 7, 8, 11, 15, 16, 19, 25, 26, 27, 31, 32] : List Nat) → z0 k = z0 k := fun _ _ => rfl
  obtain ⟨f1, o2, b3⟩ := y_op13 hI
  obtain ⟨f4, o5, b6⟩ := y_op20 hI
  have hPG : y_PG f1 := by have q9 := hPG; rw [y_atE o2] at q9; exact q9
  have hln : (x2.toInt < (y_c f1 387).toInt) := by have q9 := hln; rw [y_atE o2] at q9; exact q9
  have hW0 : y_W0 f4 x1.toInt := by have q9 := hW0; rw [y_atE o5] at q9; exact q9
  have hWs : y_Ws (y_c f1 387).toInt f4 x1.toInt := by have q9 := hWs; rw [y_atE o2, y_atE o5] at q9; exact q9
  have hws3 : (0 < (y_c f4 (109 + 6 * x1.toInt)).toInt ∧ y_sub x3 (y_c f4 (287 + 48 * x1.toInt + 3 * (y_c f4 (109 + 6 * x1.toInt)).toInt))) := by have q9 := hws3; rw [y_atE o5] at q9; exact q9
  have hop : ((y_c f1 (8 * x2.toInt)).toInt = 12) := by have q9 := hop; rw [y_atE o2] at q9; exact q9
  have hL := y_P0L hPG.1
  have hW := y_P0W hPG.1
  have hnw := hW0.2.2.2
  have hn0 := hws3.1
  have htg := y_PGt hPG (i := x2.toInt) (by omega) (by omega) hop
  refine lv_aload_n hx hb dX7_partsWays_0 rfl (lv_at hl 0 rfl) ?_
  refine lv_iload_n hx hb dX7_partsWays_1 rfl (lv_at hl 1 rfl) ?_
  refine va_calli (va_runV (As := [.int x1]) (rest := []) ⟨hx, hb, hml, hown, hts⟩ (y_X7_top l dC dI H.size hLK A hA F a0 x1 ha0 (⟨by omega, by omega⟩) hI) (cwV 1 hts (ax_gV T_1074 T_1076 T_1077 T_265 T_1075) rfl rfl rfl (by decide +kernel) ⟨Nat.le_of_ble_eq_true rfl, Nat.le_of_ble_eq_true rfl⟩) ⟨fun a U g mk q => ⟨q.1, s_pc rfl rfl q.2⟩, s_recv hK hP (hLK _ ha0 (by decide)) (ci := 7) rfl oY0, fun U hU hW => ⟨rfl, s_pw hU hW hP hK hD hN⟩⟩ rfl rfl hl.1 rfl (lv_room (Nat.le_of_ble_eq_true rfl)) dX7_partsWays_2 ⟨Nat.zero_le _, Nat.zero_le _⟩) hS (fun q _ h => h) (fun q h => h) (fun r8 F9 t H1 locs ht hvm hw hB hz1 hk1 hS => ?_)
  obtain ⟨hP, hK1⟩ := hB
  rw [ht] at hP
  generalize H1 = H at hP hS ⊢
  obtain ⟨h10, h12, hI, hfr1, hzf, h11⟩ := hw
  have o13 : F9 (A 13) = .inl (cs 0, 400, .inl f1) := (hfr1 _ (by rw [(y_k13 hA)]; decide)).trans o2
  have o14 : F9 (A 20) = .inl (cs 0, 918, .inl f4) := (hfr1 _ (by rw [(y_k20 hA)]; decide)).trans o5
  have oY15 : F9 a0 = .inr (7, y_fl A z0 q0) := (hfr1 _ (by rw [ha0]; decide)).trans oY0
  have hfr : ∀ b, K b ∉ [70] → F9 b = F b := fun b hb9 => (hfr1 b (fun q => hb9 (s_sub (by decide) q))).trans (hfr b hb9)
  have h11 : (r8 = y_c f4 (109 + 6 * x1.toInt) - 1) := by have q9 := h11; rw [y_atE o5] at q9; exact q9
  have h16 := congrArg Int32.toInt h11
  have h17 : 0 ≤ r8.toInt ∧ r8.toInt ≤ 14 := by have q9 : r8.toInt = (y_c f4 (109 + 6 * x1.toInt)).toInt - 1 := (by rw [h11]; exact th_sub rfl (by decide) ⟨by omega, by omega⟩); exact ⟨by omega, by omega⟩
  have h18 : r8.toInt = (y_c f4 (109 + 6 * x1.toInt)).toInt - 1 := by rw [h11]; exact th_sub rfl (by decide) ⟨by omega, by omega⟩
  refine lv_istore (lv' := [(4, .int r8), (0, .ref a0), (1, .int x1), (2, .int x2), (3, .int x3)]) hx hb dX7_partsWays_5 hl (by decide) rfl (fun ls hl => ?_)
  refine lv_aload_n hx hb dX7_partsWays_7 rfl (lv_at hl 1 rfl) ?_
  refine lv_iload_n hx hb dX7_partsWays_8 rfl (lv_at hl 3 rfl) ?_
  refine lv_iload_n hx hb dX7_partsWays_9 rfl (lv_at hl 4 rfl) ?_
  refine va_calli (va_runV (As := [.int x2, .int x3]) (rest := []) ⟨hx, hb, hml, hown, hts⟩ (y_X7_holding l dC dI H.size hLK A hA F9 a0 x2 x3 ha0 (⟨by omega, by omega⟩) hI (by rw [y_atE o13]; exact hPG) (by first | (rw [y_atE o13]; omega) | rw [y_atE o13])) (cwV 2 hts (ax_gV T_1167 T_1169 T_1170 T_265 T_1168) rfl rfl rfl (by decide +kernel) ⟨Nat.le_of_ble_eq_true rfl, Nat.le_of_ble_eq_true rfl⟩) ⟨fun a U g mk q => ⟨q.1, s_pc rfl rfl q.2⟩, s_recv hK hP (hLK _ ha0 (by decide)) (ci := 7) rfl oY15, fun U hU hW => ⟨rfl, s_pw hU hW hP hK hD hN⟩⟩ rfl rfl hl.1 rfl (lv_room (Nat.le_of_ble_eq_true rfl)) dX7_partsWays_10 ⟨Nat.zero_le _, Nat.zero_le _⟩) hS (fun q _ h => h) (fun q h => h) (fun r20 F21 t H1 locs ht hvm hw hB hz1 hk1 hS => ?_)
  obtain ⟨hP, hK1⟩ := hB
  rw [ht] at hP
  generalize H1 = H at hP hS ⊢
  obtain ⟨h22, h24, hI, hfr1, hzf, h23⟩ := hw
  have o25 : F21 (A 13) = .inl (cs 0, 400, .inl f1) := (hfr1 _ (by rw [(y_k13 hA)]; decide)).trans o13
  have o26 : F21 (A 20) = .inl (cs 0, 918, .inl f4) := (hfr1 _ (by rw [(y_k20 hA)]; decide)).trans o14
  have oY27 : F21 a0 = .inr (7, y_fl A z0 q0) := (hfr1 _ (by rw [ha0]; decide)).trans oY15
  have hfr : ∀ b, K b ∉ [70] → F21 b = F b := fun b hb9 => (hfr1 b (fun q => hb9 (s_sub (by decide) q))).trans (hfr b hb9)
  have h23 : (y_sub r20 x3 ∧ (r20 = x3 ∨ ((y_c f1 (8 * x2.toInt)).toInt = 12 ∧ ¬ (y_c f1 (8 * x2.toInt + 5)).toInt = -1000000))) := by have q9 := h23; rw [y_atE o13] at q9; exact q9
  refine lv_istore (lv' := [(5, .int r20), (4, .int r8), (0, .ref a0), (1, .int x1), (2, .int x2), (3, .int x3)]) hx hb dX7_partsWays_13 hl (by decide) rfl (fun ls hl => ?_)
  refine lv_iload hx hb dX7_partsWays_15 (lv_at hl 0 rfl) ?_
  refine lv_iload_n hx hb dX7_partsWays_17 rfl (lv_at hl 5 rfl) ?_
  refine lv_icmp_eq (tgt := 26) hx hb dX7_partsWays_18 (by decide) (fun c28 => ?_) (fun c28 => ?_)
  · have c28 := Int32.toInt_inj.symm.mp c28
    refine lv_aload_n hx hb dX7_partsWays_26 rfl (lv_at hl 2 rfl) ?_
    refine th_get (D := (dC, dI)) (ci := 7) (v := .ref (A 20)) (C := RX7) (T := TX7) (N := 34) hx hb hts inX7 hown hK hP (hLK _ ha0 (by decide)) oY27 rfl 20 (by decide) (hts _ T_251) (fun _ h9 => h9) rfl dX7_partsWays_27 ?_
    refine lv_iload_n hx hb dX7_partsWays_30 rfl (lv_at hl 3 rfl) ?_
    refine lv_iload hx hb dX7_partsWays_31 (lv_at hl 1 rfl) ?_
    refine lv_iconst (v := 0) hx hb dX7_partsWays_33 (by decide) ?_
    refine va_calli (va_runS (As := [.int x1, .int r8, .int 0]) (rest := [.ref (A 20)]) ⟨hx, hb, hml, hown, hts⟩ (y_X7_partAt l dC dI H.size F21 x1 r8 0 (⟨by omega, by omega⟩) (⟨by omega, by omega⟩) (by decide)) (cwS 3 hts (ax_gS T_1078 T_1080 T_265 T_1079) rfl rfl rfl (by decide +kernel) ⟨Nat.le_of_ble_eq_true rfl, Nat.le_of_ble_eq_true rfl⟩) ⟨fun a U g mk q => ⟨q.1, s_pc rfl rfl q.2⟩, fun U hU hW => ⟨rfl, s_pw hU hW hP hK hD hN⟩⟩ rfl rfl hl.1 rfl (lv_room (Nat.le_of_ble_eq_true rfl)) dX7_partsWays_34 ⟨Nat.zero_le _, Nat.zero_le _⟩) hS (fun q _ h => h) (fun q h => h) (fun r30 F31 t H1 locs ht hvm hw hB hz1 hk1 hS => ?_)
    obtain ⟨hP, hK1⟩ := hB
    rw [ht] at hP
    generalize H1 = H at hP hS ⊢
    obtain ⟨h32, h34, hG9, h33⟩ := hw
    rw [hG9] at hP
    have h33 : (r30.toInt = 288 + 48 * x1.toInt + 3 * r8.toInt + 0) := by have q9 := h33; exact q9
    refine lv_iload hx hb dX7_partsWays_37 (lv_at hl 0 rfl) ?_
    refine lv_if_ne (tgt := 48) hx hb dX7_partsWays_39 (by decide) (fun c35 => ?_) (fun c35 => ?_)
    · have c35 := mt (ax_eq (n := 0) (by decide)).mpr c35
      refine lv_aload_n hx hb dX7_partsWays_48 rfl (lv_at hl 2 rfl) ?_
      refine lv_iload_n hx hb dX7_partsWays_49 rfl (lv_at hl 4 rfl) ?_
      refine lv_iconst (v := 4) hx hb dX7_partsWays_50 (by decide) ?_
      refine va_calli (va_runV (As := [.int x2, .int 4]) (rest := [.int r30, .ref (A 20)]) ⟨hx, hb, hml, hown, hts⟩ (y_X7_of l dC dI H.size hLK A hA F21 a0 x2 4 ha0 (⟨by omega, by omega⟩) (by decide) hI) (cwV 2 hts (ax_gV T_1131 T_1133 T_1134 T_265 T_1132) rfl rfl rfl (by decide +kernel) ⟨Nat.le_of_ble_eq_true rfl, Nat.le_of_ble_eq_true rfl⟩) ⟨fun a U g mk q => ⟨q.1, s_pc rfl rfl q.2⟩, s_recv hK hP (hLK _ ha0 (by decide)) (ci := 7) rfl oY27, fun U hU hW => ⟨rfl, s_pw hU hW hP hK hD hN⟩⟩ rfl rfl hl.1 rfl (lv_room (Nat.le_of_ble_eq_true rfl)) dX7_partsWays_51 ⟨Nat.zero_le _, Nat.zero_le _⟩) hS (fun q _ h => h) (fun q h => h) (fun r37 F38 t H1 locs ht hvm hw hB hz1 hk1 hS => ?_)
      obtain ⟨hP, hK1⟩ := hB
      rw [ht] at hP
      generalize H1 = H at hP hS ⊢
      obtain ⟨h39, h41, hI, hfr1, hzf, h40⟩ := hw
      have o42 : F38 (A 13) = .inl (cs 0, 400, .inl f1) := (hfr1 _ (by rw [(y_k13 hA)]; decide)).trans o25
      have o43 : F38 (A 20) = .inl (cs 0, 918, .inl f4) := (hfr1 _ (by rw [(y_k20 hA)]; decide)).trans o26
      have oY44 : F38 a0 = .inr (7, y_fl A z0 q0) := (hfr1 _ (by rw [ha0]; decide)).trans oY27
      have hfr : ∀ b, K b ∉ [70] → F38 b = F b := fun b hb9 => (hfr1 b (fun q => hb9 (s_sub (by decide) q))).trans (hfr b hb9)
      have h40 : (r37 = y_c f1 (8 * x2.toInt + 4)) := by have q9 := h40; rw [y_atE o25] at q9; exact q9
      have h40 : r37 = y_c f1 (8 * x2.toInt + 4) := h40.trans (congrArg (y_c f1) (by omega))
      have h45 := congrArg Int32.toInt h40
      have h46 : 0 ≤ r37.toInt ∧ r37.toInt ≤ 40 := by have q9 := congrArg Int32.toInt h40; exact ⟨by omega, by omega⟩
      refine th_iast hx hb hK hP hD hS (hLK _ (y_k20 hA) (by decide)) 0 o43 rfl (th_in ⟨by omega, by omega⟩) dX7_partsWays_54 (fun H locs hP hS => ?_)
      obtain ⟨f47, u48⟩ : ∃ g : Nat → Int32, g = upd f4 (r30 : Int32).toNatClampNeg r37 := ⟨_, rfl⟩
      rw [← u48] at hP
      have b49 : y_bd 20 f47 := trivial
      have hP : va_P (dC, dI) vwCl (va_pl L (va_up F38 (A 20) (.inl (cs 0, 918, .inl f47)))) H := hP
      obtain ⟨F50, hF51⟩ : ∃ G : Nat → va_E, G = va_up F38 (A 20) (.inl (cs 0, 918, .inl f47)) := ⟨_, rfl⟩
      rw [← hF51] at hP
      have hI : y_I K cs A F50 := by rw [hF51]; exact y_clA (i := 20) hA hI (by decide) b49
      have hfr : ∀ b, K b ∉ [70] → F50 b = F b := by rw [hF51]; exact s_fr hfr (y_k20 hA) (by decide)
      have o52 : F50 (A 13) = .inl (cs 0, 400, .inl f1) := by rw [hF51]; exact th_ne (th_kd (y_k13 hA) (y_k20 hA) (by decide)) o42
      have oY53 : F50 a0 = .inr (7, y_fl A z0 q0) := by rw [hF51]; exact th_ne (th_kd ha0 (y_k20 hA) (by decide)) oY44
      have o54 : F50 (A 20) = .inl (cs 0, 918, .inl f47) := by rw [hF51]; exact th_up
      have u55 : ∀ j : Int, 0 ≤ j → y_c f47 j = if j = r30.toInt then r37 else y_c f4 j := by rw [u48]; exact y_cu rfl (by omega)
      exact W.vret hx hb hr (fun t ht hW => ⟨⟨F50, rfl, ⟨trivial, trivial, hI, hfr, fun k hk => (y_fiZ oY53 (s_sub (by decide) hk)).trans ((hz0 k hk).trans (y_fiZ oY0 (s_sub (by decide) hk)).symm), (by rw [y_atE o54, y_atE o2, y_atE o5]; have q9 := y_Ws_top (L := (y_c f1 387).toInt) (v := r37) ⟨by omega, by omega⟩ u55 (by omega) ⟨by omega, by omega⟩ hW0 (by omega) hWs; exact ⟨q9.1, q9.2, y_fw_u u55 (by omega), by rw [u55 _ (by omega), if_neg (by omega)]; exact hn0⟩)⟩, by rw [ht]; exact hP, va_K.moved hW.alike hK⟩, hS.F ht⟩) hS.2.2 dX7_partsWays_55
    · have c35 := (ax_eq (n := 0) (by decide)).mp c35
      refine lv_iload_n hx hb dX7_partsWays_42 rfl (lv_at hl 4 rfl) ?_
      refine lv_iconst (v := 1) hx hb dX7_partsWays_43 (by decide) ?_
      refine lv_iadd hx hb dX7_partsWays_44 ?_
      refine lv_topi (fun v56 ev56 => ?_)
      have qv56 : v56.toInt = x2.toInt + 1 := by rw [ev56]; exact th_add rfl (by decide) ⟨by omega, by omega⟩
      refine lv_goto (tgt := 54) hx hb dX7_partsWays_45 (by decide) ?_
      refine th_iast hx hb hK hP hD hS (hLK _ (y_k20 hA) (by decide)) 0 o26 rfl (th_in ⟨by omega, by omega⟩) dX7_partsWays_54 (fun H locs hP hS => ?_)
      obtain ⟨f57, u58⟩ : ∃ g : Nat → Int32, g = upd f4 (r30 : Int32).toNatClampNeg v56 := ⟨_, rfl⟩
      rw [← u58] at hP
      have b59 : y_bd 20 f57 := trivial
      have hP : va_P (dC, dI) vwCl (va_pl L (va_up F21 (A 20) (.inl (cs 0, 918, .inl f57)))) H := hP
      obtain ⟨F60, hF61⟩ : ∃ G : Nat → va_E, G = va_up F21 (A 20) (.inl (cs 0, 918, .inl f57)) := ⟨_, rfl⟩
      rw [← hF61] at hP
      have hI : y_I K cs A F60 := by rw [hF61]; exact y_clA (i := 20) hA hI (by decide) b59
      have hfr : ∀ b, K b ∉ [70] → F60 b = F b := by rw [hF61]; exact s_fr hfr (y_k20 hA) (by decide)
      have o62 : F60 (A 13) = .inl (cs 0, 400, .inl f1) := by rw [hF61]; exact th_ne (th_kd (y_k13 hA) (y_k20 hA) (by decide)) o25
      have oY63 : F60 a0 = .inr (7, y_fl A z0 q0) := by rw [hF61]; exact th_ne (th_kd ha0 (y_k20 hA) (by decide)) oY27
      have o64 : F60 (A 20) = .inl (cs 0, 918, .inl f57) := by rw [hF61]; exact th_up
      have u65 : ∀ j : Int, 0 ≤ j → y_c f57 j = if j = r30.toInt then v56 else y_c f4 j := by rw [u58]; exact y_cu rfl (by omega)
      exact W.vret hx hb hr (fun t ht hW => ⟨⟨F60, rfl, ⟨trivial, trivial, hI, hfr, fun k hk => (y_fiZ oY63 (s_sub (by decide) hk)).trans ((hz0 k hk).trans (y_fiZ oY0 (s_sub (by decide) hk)).symm), (by rw [y_atE o64, y_atE o2, y_atE o5]; have q9 := y_Ws_top (L := (y_c f1 387).toInt) (v := v56) ⟨by omega, by omega⟩ u65 (by omega) ⟨by omega, by omega⟩ hW0 (by omega) hWs; exact ⟨q9.1, q9.2, y_fw_u u65 (by omega), by rw [u65 _ (by omega), if_neg (by omega)]; exact hn0⟩)⟩, by rw [ht]; exact hP, va_K.moved hW.alike hK⟩, hS.F ht⟩) hS.2.2 dX7_partsWays_55
  · have c28 := mt Int32.toInt_inj.symm.mpr c28
    have hg1 : ¬ r20 = x3 := fun q => c28 (by rw [q])
    refine lv_iload hx hb dX7_partsWays_21 (lv_at hl 0 rfl) ?_
    refine lv_if_ne (tgt := 56) hx hb dX7_partsWays_23 (by decide) (fun c66 => ?_) (fun c66 => ?_)
    · have c66 := mt (ax_eq (n := 0) (by decide)).mpr c66
      have hg0 := y_nz32 c66
      have hfk := h23.2.resolve_left hg1
      have hmt := y_PGm hPG (i := x2.toInt) (by omega) (by omega) hop (by omega)
      refine lv_aload_n hx hb dX7_partsWays_56 rfl (lv_at hl 2 rfl) ?_
      refine lv_iload_n hx hb dX7_partsWays_57 rfl (lv_at hl 4 rfl) ?_
      refine lv_bipush (v := 6) hx hb dX7_partsWays_58 (by decide) ?_
      refine va_calli (va_runV (As := [.int x2, .int 6]) (rest := []) ⟨hx, hb, hml, hown, hts⟩ (y_X7_of l dC dI H.size hLK A hA F21 a0 x2 6 ha0 (⟨by omega, by omega⟩) (by decide) hI) (cwV 2 hts (ax_gV T_1131 T_1133 T_1134 T_265 T_1132) rfl rfl rfl (by decide +kernel) ⟨Nat.le_of_ble_eq_true rfl, Nat.le_of_ble_eq_true rfl⟩) ⟨fun a U g mk q => ⟨q.1, s_pc rfl rfl q.2⟩, s_recv hK hP (hLK _ ha0 (by decide)) (ci := 7) rfl oY27, fun U hU hW => ⟨rfl, s_pw hU hW hP hK hD hN⟩⟩ rfl rfl hl.1 rfl (lv_room (Nat.le_of_ble_eq_true rfl)) dX7_partsWays_60 ⟨Nat.zero_le _, Nat.zero_le _⟩) hS (fun q _ h => h) (fun q h => h) (fun r68 F69 t H1 locs ht hvm hw hB hz1 hk1 hS => ?_)
      obtain ⟨hP, hK1⟩ := hB
      rw [ht] at hP
      generalize H1 = H at hP hS ⊢
      obtain ⟨h70, h72, hI, hfr1, hzf, h71⟩ := hw
      have o73 : F69 (A 13) = .inl (cs 0, 400, .inl f1) := (hfr1 _ (by rw [(y_k13 hA)]; decide)).trans o25
      have o74 : F69 (A 20) = .inl (cs 0, 918, .inl f4) := (hfr1 _ (by rw [(y_k20 hA)]; decide)).trans o26
      have oY75 : F69 a0 = .inr (7, y_fl A z0 q0) := (hfr1 _ (by rw [ha0]; decide)).trans oY27
      have hfr : ∀ b, K b ∉ [70] → F69 b = F b := fun b hb9 => (hfr1 b (fun q => hb9 (s_sub (by decide) q))).trans (hfr b hb9)
      have h71 : (r68 = y_c f1 (8 * x2.toInt + 6)) := by have q9 := h71; rw [y_atE o25] at q9; exact q9
      have h71 : r68 = y_c f1 (8 * x2.toInt + 6) := h71.trans (congrArg (y_c f1) (by omega))
      have h76 := congrArg Int32.toInt h71
      have h77 : 0 ≤ r68.toInt ∧ r68.toInt ≤ 40 := by have q9 := congrArg Int32.toInt h71; exact ⟨by omega, by omega⟩
      refine lv_istore (lv' := [(6, .int r68), (5, .int r20), (4, .int r8), (0, .ref a0), (1, .int x1), (2, .int x2), (3, .int x3)]) hx hb dX7_partsWays_63 hl (by decide) rfl (fun ls hl => ?_)
      refine lv_aload_n hx hb dX7_partsWays_65 rfl (lv_at hl 3 rfl) ?_
      refine th_get (D := (dC, dI)) (ci := 7) (v := .ref (A 20)) (C := RX7) (T := TX7) (N := 34) hx hb hts inX7 hown hK hP (hLK _ ha0 (by decide)) oY75 rfl 20 (by decide) (hts _ T_251) (fun _ h9 => h9) rfl dX7_partsWays_66 ?_
      refine lv_iload_n hx hb dX7_partsWays_69 rfl (lv_at hl 4 rfl) ?_
      refine lv_iload hx hb dX7_partsWays_70 (lv_at hl 2 rfl) ?_
      refine lv_iconst (v := 0) hx hb dX7_partsWays_72 (by decide) ?_
      refine va_calli (va_runS (As := [.int x1, .int r8, .int 0]) (rest := [.ref (A 20)]) ⟨hx, hb, hml, hown, hts⟩ (y_X7_partAt l dC dI H.size F69 x1 r8 0 (⟨by omega, by omega⟩) (⟨by omega, by omega⟩) (by decide)) (cwS 3 hts (ax_gS T_1078 T_1080 T_265 T_1079) rfl rfl rfl (by decide +kernel) ⟨Nat.le_of_ble_eq_true rfl, Nat.le_of_ble_eq_true rfl⟩) ⟨fun a U g mk q => ⟨q.1, s_pc rfl rfl q.2⟩, fun U hU hW => ⟨rfl, s_pw hU hW hP hK hD hN⟩⟩ rfl rfl hl.1 rfl (lv_room (Nat.le_of_ble_eq_true rfl)) dX7_partsWays_73 ⟨Nat.zero_le _, Nat.zero_le _⟩) hS (fun q _ h => h) (fun q h => h) (fun r79 F80 t H1 locs ht hvm hw hB hz1 hk1 hS => ?_)
      obtain ⟨hP, hK1⟩ := hB
      rw [ht] at hP
      generalize H1 = H at hP hS ⊢
      obtain ⟨h81, h83, hG9, h82⟩ := hw
      rw [hG9] at hP
      have h82 : (r79.toInt = 288 + 48 * x1.toInt + 3 * r8.toInt + 0) := by have q9 := h82; exact q9
      refine lv_iload hx hb dX7_partsWays_76 (lv_at hl 0 rfl) ?_
      refine th_iast hx hb hK hP hD hS (hLK _ (y_k20 hA) (by decide)) 0 o74 rfl (th_in ⟨by omega, by omega⟩) dX7_partsWays_78 (fun H locs hP hS => ?_)
      obtain ⟨f84, u85⟩ : ∃ g : Nat → Int32, g = upd f4 (r79 : Int32).toNatClampNeg r68 := ⟨_, rfl⟩
      rw [← u85] at hP
      have b86 : y_bd 20 f84 := trivial
      have hP : va_P (dC, dI) vwCl (va_pl L (va_up F69 (A 20) (.inl (cs 0, 918, .inl f84)))) H := hP
      obtain ⟨F87, hF88⟩ : ∃ G : Nat → va_E, G = va_up F69 (A 20) (.inl (cs 0, 918, .inl f84)) := ⟨_, rfl⟩
      rw [← hF88] at hP
      have hI : y_I K cs A F87 := by rw [hF88]; exact y_clA (i := 20) hA hI (by decide) b86
      have hfr : ∀ b, K b ∉ [70] → F87 b = F b := by rw [hF88]; exact s_fr hfr (y_k20 hA) (by decide)
      have o89 : F87 (A 13) = .inl (cs 0, 400, .inl f1) := by rw [hF88]; exact th_ne (th_kd (y_k13 hA) (y_k20 hA) (by decide)) o73
      have oY90 : F87 a0 = .inr (7, y_fl A z0 q0) := by rw [hF88]; exact th_ne (th_kd ha0 (y_k20 hA) (by decide)) oY75
      have o91 : F87 (A 20) = .inl (cs 0, 918, .inl f84) := by rw [hF88]; exact th_up
      have u92 : ∀ j : Int, 0 ≤ j → y_c f84 j = if j = r79.toInt then r68 else y_c f4 j := by rw [u85]; exact y_cu rfl (by omega)
      have htm := congrArg Int32.toInt h71
      have hu9 : ∀ j : Int, 0 ≤ j → y_c f84 j = if j = 285 + 48 * x1.toInt + 3 * (y_c f4 (109 + 6 * x1.toInt)).toInt then r68 else y_c f4 j := fun j hj => by rw [u92 j hj, show r79.toInt = 285 + 48 * x1.toInt + 3 * (y_c f4 (109 + 6 * x1.toInt)).toInt by omega]
      obtain ⟨hta, htb⟩ := y_Ws_top ⟨by omega, by omega⟩ hu9 rfl ⟨by omega, by omega⟩ hW0 (by omega) hWs
      refine lv_aload_n hx hb dX7_partsWays_79 rfl (lv_at hl 3 rfl) ?_
      refine lv_iload_n hx hb dX7_partsWays_80 rfl (lv_at hl 4 rfl) ?_
      refine lv_iload_n hx hb dX7_partsWays_81 rfl (lv_at hl 5 rfl) ?_
      refine lv_iconst (v := 1) hx hb dX7_partsWays_82 (by decide) ?_
      refine lv_iadd hx hb dX7_partsWays_83 ?_
      refine lv_topi (fun v93 ev93 => ?_)
      have qv93 : v93.toInt = x2.toInt + 1 := by rw [ev93]; exact th_add rfl (by decide) ⟨by omega, by omega⟩
      refine lv_iload hx hb dX7_partsWays_84 (lv_at hl 0 rfl) ?_
      refine lv_iload_n hx hb dX7_partsWays_86 rfl (lv_at hl 6 rfl) ?_
      refine lv_iload hx hb dX7_partsWays_87 (lv_at hl 1 rfl) ?_
      refine lv_iconst (v := (-1)) hx hb dX7_partsWays_89 (by decide) ?_
      refine lv_ixor hx hb dX7_partsWays_90 ?_
      refine lv_topi (fun v94 ev94 => ?_)
      refine lv_iand hx hb dX7_partsWays_91 ?_
      refine lv_topi (fun v95 ev95 => ?_)
      obtain ⟨hp1, hp2, hp3, hp4, hp5, hp6⟩ := y_LP1 (a := v93) ⟨by omega, by omega⟩ hu9 hW0 hWs (by omega) hws3.2 h23.1 hg0 hg1 ⟨by omega, by omega⟩
      have hla9 : v95 = x3 &&& (r20 ^^^ (-1)) := by rw [ev95, ev94]
      refine va_callv (va_runV (As := [.int x1, .int v93, .int r68, .int v95]) (rest := []) ⟨hx, hb, hml, hown, hts⟩ (y_X7_laysPart l dC dI H.size hLK A hA F87 a0 x1 v93 r68 v95 ha0 (⟨by omega, by omega⟩) hI (by rw [y_atE o91]; exact hta) (by rw [y_atE o89, y_atE o91]; exact htb) (by rw [y_atE o89, y_atE o91]; rw [hla9]; exact hp1)) (cwV 4 hts (ax_gV T_1286 T_1288 T_1289 T_265 T_1287) rfl rfl rfl (by decide +kernel) ⟨Nat.le_of_ble_eq_true rfl, Nat.le_of_ble_eq_true rfl⟩) ⟨fun a U g mk q => ⟨q.1, s_pc rfl rfl q.2⟩, s_recv hK hP (hLK _ ha0 (by decide)) (ci := 7) rfl oY90, fun U hU hW => ⟨rfl, s_pw hU hW hP hK hD hN⟩⟩ rfl rfl hl.1 rfl (lv_room (Nat.le_of_ble_eq_true rfl)) dX7_partsWays_92 ⟨Nat.zero_le _, Nat.zero_le _⟩) hS (fun q _ h => h) (fun q h => h) (fun F97 t H1 locs ht hvm hw hB hz1 hk1 hS => ?_)
      obtain ⟨hP, hK1⟩ := hB
      rw [ht] at hP
      generalize H1 = H at hP hS ⊢
      obtain ⟨h98, h100, hI, hfr1, hzf, h99⟩ := hw
      have o101 : F97 (A 13) = .inl (cs 0, 400, .inl f1) := (hfr1 _ (by rw [(y_k13 hA)]; decide)).trans o89
      have oY102 : F97 a0 = .inr (7, y_fl A z0 q0) := (hfr1 _ (by rw [ha0]; decide)).trans oY90
      have hfr : ∀ b, K b ∉ [70] → F97 b = F b := fun b hb9 => (hfr1 b (fun q => hb9 (s_sub (by decide) q))).trans (hfr b hb9)
      obtain ⟨f103, o104, b105⟩ := y_op20 hI
      have h99 : (y_W0 f103 x1.toInt ∧ y_Ws (y_c f1 387).toInt f103 x1.toInt ∧ y_fw x1.toInt f84 f103 ∧ y_LQ f84 x1.toInt v95 f103) := by have q9 := h99; rw [y_atE o104, y_atE o89, y_atE o91] at q9; exact q9
      obtain ⟨ka, kb, kc, kd⟩ := h99
      refine lv_aload_n hx hb dX7_partsWays_95 rfl (lv_at hl 3 rfl) ?_
      refine lv_iload_n hx hb dX7_partsWays_96 rfl (lv_at hl 4 rfl) ?_
      refine lv_aload_n hx hb dX7_partsWays_97 rfl (lv_at hl 3 rfl) ?_
      refine lv_iload_n hx hb dX7_partsWays_98 rfl (lv_at hl 5 rfl) ?_
      refine lv_iconst (v := 4) hx hb dX7_partsWays_99 (by decide) ?_
      refine va_calli (va_runV (As := [.int x2, .int 4]) (rest := [.int x1, .ref a0]) ⟨hx, hb, hml, hown, hts⟩ (y_X7_of l dC dI H.size hLK A hA F97 a0 x2 4 ha0 (⟨by omega, by omega⟩) (by decide) hI) (cwV 2 hts (ax_gV T_1131 T_1133 T_1134 T_265 T_1132) rfl rfl rfl (by decide +kernel) ⟨Nat.le_of_ble_eq_true rfl, Nat.le_of_ble_eq_true rfl⟩) ⟨fun a U g mk q => ⟨q.1, s_pc rfl rfl q.2⟩, s_recv hK hP (hLK _ ha0 (by decide)) (ci := 7) rfl oY102, fun U hU hW => ⟨rfl, s_pw hU hW hP hK hD hN⟩⟩ rfl rfl hl.1 rfl (lv_room (Nat.le_of_ble_eq_true rfl)) dX7_partsWays_100 ⟨Nat.zero_le _, Nat.zero_le _⟩) hS (fun q _ h => h) (fun q h => h) (fun r107 F108 t H1 locs ht hvm hw hB hz1 hk1 hS => ?_)
      obtain ⟨hP, hK1⟩ := hB
      rw [ht] at hP
      generalize H1 = H at hP hS ⊢
      obtain ⟨h109, h111, hI, hfr1, hzf, h110⟩ := hw
      have o112 : F108 (A 13) = .inl (cs 0, 400, .inl f1) := (hfr1 _ (by rw [(y_k13 hA)]; decide)).trans o101
      have o113 : F108 (A 20) = .inl (cs 0, 918, .inl f103) := (hfr1 _ (by rw [(y_k20 hA)]; decide)).trans o104
      have oY114 : F108 a0 = .inr (7, y_fl A z0 q0) := (hfr1 _ (by rw [ha0]; decide)).trans oY102
      have hfr : ∀ b, K b ∉ [70] → F108 b = F b := fun b hb9 => (hfr1 b (fun q => hb9 (s_sub (by decide) q))).trans (hfr b hb9)
      have h110 : (r107 = y_c f1 (8 * x2.toInt + 4)) := by have q9 := h110; rw [y_atE o101] at q9; exact q9
      have h110 : r107 = y_c f1 (8 * x2.toInt + 4) := h110.trans (congrArg (y_c f1) (by omega))
      have h115 := congrArg Int32.toInt h110
      have h116 : 0 ≤ r107.toInt ∧ r107.toInt ≤ 40 := by have q9 := congrArg Int32.toInt h110; exact ⟨by omega, by omega⟩
      refine lv_iload hx hb dX7_partsWays_103 (lv_at hl 0 rfl) ?_
      refine lv_iload hx hb dX7_partsWays_105 (lv_at hl 1 rfl) ?_
      have hta9 := congrArg Int32.toInt h110
      have hlp2 := y_LP2 (L := (y_c f1 387).toInt) (a := r107) (b := r68) (go := r20) ⟨by omega, by omega⟩ (by omega) hp4 hp5 (by rw [hu9 _ (by omega), if_pos rfl]) (by rw [hla9] at kd; exact kd) hp2 hp3 hp6 ⟨by omega, by omega⟩
      refine va_callv (va_runV (As := [.int x1, .int r107, .int r68, .int r20]) (rest := []) ⟨hx, hb, hml, hown, hts⟩ (y_X7_laysPart l dC dI H.size hLK A hA F108 a0 x1 r107 r68 r20 ha0 (⟨by omega, by omega⟩) hI (by rw [y_atE o113]; exact ka) (by rw [y_atE o112, y_atE o113]; exact kb) (by rw [y_atE o112, y_atE o113]; exact hlp2)) (cwV 4 hts (ax_gV T_1286 T_1288 T_1289 T_265 T_1287) rfl rfl rfl (by decide +kernel) ⟨Nat.le_of_ble_eq_true rfl, Nat.le_of_ble_eq_true rfl⟩) ⟨fun a U g mk q => ⟨q.1, s_pc rfl rfl q.2⟩, s_recv hK hP (hLK _ ha0 (by decide)) (ci := 7) rfl oY114, fun U hU hW => ⟨rfl, s_pw hU hW hP hK hD hN⟩⟩ rfl rfl hl.1 rfl (lv_room (Nat.le_of_ble_eq_true rfl)) dX7_partsWays_107 ⟨Nat.zero_le _, Nat.zero_le _⟩) hS (fun q _ h => h) (fun q h => h) (fun F118 t H1 locs ht hvm hw hB hz1 hk1 hS => ?_)
      obtain ⟨hP, hK1⟩ := hB
      rw [ht] at hP
      generalize H1 = H at hP hS ⊢
      obtain ⟨h119, h121, hI, hfr1, hzf, h120⟩ := hw
      have o122 : F118 (A 13) = .inl (cs 0, 400, .inl f1) := (hfr1 _ (by rw [(y_k13 hA)]; decide)).trans o112
      have oY123 : F118 a0 = .inr (7, y_fl A z0 q0) := (hfr1 _ (by rw [ha0]; decide)).trans oY114
      have hfr : ∀ b, K b ∉ [70] → F118 b = F b := fun b hb9 => (hfr1 b (fun q => hb9 (s_sub (by decide) q))).trans (hfr b hb9)
      obtain ⟨f124, o125, b126⟩ := y_op20 hI
      have h120 : (y_W0 f124 x1.toInt ∧ y_Ws (y_c f1 387).toInt f124 x1.toInt ∧ y_fw x1.toInt f103 f124 ∧ y_LQ f103 x1.toInt r20 f124) := by have q9 := h120; rw [y_atE o125, y_atE o112, y_atE o113] at q9; exact q9
      exact W.vret hx hb hr (fun t ht hW => ⟨⟨F118, rfl, ⟨trivial, trivial, hI, hfr, fun k hk => (y_fiZ oY123 (s_sub (by decide) hk)).trans ((hz0 k hk).trans (y_fiZ oY0 (s_sub (by decide) hk)).symm), (by rw [y_atE o125, y_atE o2, y_atE o5]; exact ⟨h120.1, h120.2.1, y_fw_t (y_fw_u hu9 (by omega)) (y_fw_t kc h120.2.2.1), y_LQn hlp2.2.1 h120.2.2.2⟩)⟩, by rw [ht]; exact hP, va_K.moved hW.alike hK⟩, hS.F ht⟩) hS.2.2 dX7_partsWays_110
    · have c66 := (ax_eq (n := 0) (by decide)).mp c66
      refine lv_aload_n hx hb dX7_partsWays_26 rfl (lv_at hl 2 rfl) ?_
      refine th_get (D := (dC, dI)) (ci := 7) (v := .ref (A 20)) (C := RX7) (T := TX7) (N := 34) hx hb hts inX7 hown hK hP (hLK _ ha0 (by decide)) oY27 rfl 20 (by decide) (hts _ T_251) (fun _ h9 => h9) rfl dX7_partsWays_27 ?_
      refine lv_iload_n hx hb dX7_partsWays_30 rfl (lv_at hl 3 rfl) ?_
      refine lv_iload hx hb dX7_partsWays_31 (lv_at hl 1 rfl) ?_
      refine lv_iconst (v := 0) hx hb dX7_partsWays_33 (by decide) ?_
      refine va_calli (va_runS (As := [.int x1, .int r8, .int 0]) (rest := [.ref (A 20)]) ⟨hx, hb, hml, hown, hts⟩ (y_X7_partAt l dC dI H.size F21 x1 r8 0 (⟨by omega, by omega⟩) (⟨by omega, by omega⟩) (by decide)) (cwS 3 hts (ax_gS T_1078 T_1080 T_265 T_1079) rfl rfl rfl (by decide +kernel) ⟨Nat.le_of_ble_eq_true rfl, Nat.le_of_ble_eq_true rfl⟩) ⟨fun a U g mk q => ⟨q.1, s_pc rfl rfl q.2⟩, fun U hU hW => ⟨rfl, s_pw hU hW hP hK hD hN⟩⟩ rfl rfl hl.1 rfl (lv_room (Nat.le_of_ble_eq_true rfl)) dX7_partsWays_34 ⟨Nat.zero_le _, Nat.zero_le _⟩) hS (fun q _ h => h) (fun q h => h) (fun r128 F129 t H1 locs ht hvm hw hB hz1 hk1 hS => ?_)
      obtain ⟨hP, hK1⟩ := hB
      rw [ht] at hP
      generalize H1 = H at hP hS ⊢
      obtain ⟨h130, h132, hG9, h131⟩ := hw
      rw [hG9] at hP
      have h131 : (r128.toInt = 288 + 48 * x1.toInt + 3 * r8.toInt + 0) := by have q9 := h131; exact q9
      refine lv_iload hx hb dX7_partsWays_37 (lv_at hl 0 rfl) ?_
      refine lv_if_ne (tgt := 48) hx hb dX7_partsWays_39 (by decide) (fun c133 => ?_) (fun c133 => ?_)
      · have c133 := mt (ax_eq (n := 0) (by decide)).mpr c133
        exact absurd c133 (by omega)
      · have c133 := (ax_eq (n := 0) (by decide)).mp c133
        refine lv_iload_n hx hb dX7_partsWays_42 rfl (lv_at hl 4 rfl) ?_
        refine lv_iconst (v := 1) hx hb dX7_partsWays_43 (by decide) ?_
        refine lv_iadd hx hb dX7_partsWays_44 ?_
        refine lv_topi (fun v134 ev134 => ?_)
        have qv134 : v134.toInt = x2.toInt + 1 := by rw [ev134]; exact th_add rfl (by decide) ⟨by omega, by omega⟩
        refine lv_goto (tgt := 54) hx hb dX7_partsWays_45 (by decide) ?_
        refine th_iast hx hb hK hP hD hS (hLK _ (y_k20 hA) (by decide)) 0 o26 rfl (th_in ⟨by omega, by omega⟩) dX7_partsWays_54 (fun H locs hP hS => ?_)
        obtain ⟨f135, u136⟩ : ∃ g : Nat → Int32, g = upd f4 (r128 : Int32).toNatClampNeg v134 := ⟨_, rfl⟩
        rw [← u136] at hP
        have b137 : y_bd 20 f135 := trivial
        have hP : va_P (dC, dI) vwCl (va_pl L (va_up F21 (A 20) (.inl (cs 0, 918, .inl f135)))) H := hP
        obtain ⟨F138, hF139⟩ : ∃ G : Nat → va_E, G = va_up F21 (A 20) (.inl (cs 0, 918, .inl f135)) := ⟨_, rfl⟩
        rw [← hF139] at hP
        have hI : y_I K cs A F138 := by rw [hF139]; exact y_clA (i := 20) hA hI (by decide) b137
        have hfr : ∀ b, K b ∉ [70] → F138 b = F b := by rw [hF139]; exact s_fr hfr (y_k20 hA) (by decide)
        have o140 : F138 (A 13) = .inl (cs 0, 400, .inl f1) := by rw [hF139]; exact th_ne (th_kd (y_k13 hA) (y_k20 hA) (by decide)) o25
        have oY141 : F138 a0 = .inr (7, y_fl A z0 q0) := by rw [hF139]; exact th_ne (th_kd ha0 (y_k20 hA) (by decide)) oY27
        have o142 : F138 (A 20) = .inl (cs 0, 918, .inl f135) := by rw [hF139]; exact th_up
        have u143 : ∀ j : Int, 0 ≤ j → y_c f135 j = if j = r128.toInt then v134 else y_c f4 j := by rw [u136]; exact y_cu rfl (by omega)
        exact W.vret hx hb hr (fun t ht hW => ⟨⟨F138, rfl, ⟨trivial, trivial, hI, hfr, fun k hk => (y_fiZ oY141 (s_sub (by decide) hk)).trans ((hz0 k hk).trans (y_fiZ oY0 (s_sub (by decide) hk)).symm), (by rw [y_atE o142, y_atE o2, y_atE o5]; have q9 := y_Ws_top (L := (y_c f1 387).toInt) (v := v134) ⟨by omega, by omega⟩ u143 (by omega) ⟨by omega, by omega⟩ hW0 (by omega) hWs; exact ⟨q9.1, q9.2, y_fw_u u143 (by omega), by rw [u143 _ (by omega), if_neg (by omega)]; exact hn0⟩)⟩, by rw [ht]; exact hP, va_K.moved hW.alike hK⟩, hS.F ht⟩) hS.2.2 dX7_partsWays_55

set_option maxHeartbeats 4000000 in
set_option maxRecDepth 100000 in
theorem y_X7_changesParts (l : Launch) (dC : Nat → ClassId) (dI : Nat → Nat → Nat) (sz : Nat) {L : List Nat} {K : Nat → Nat} {cs : Nat → ClassId} (hLK : ∀ a {k : Nat}, K a = k → k ≠ 0 → a ∈ L) (A : Nat → Nat) (hA : y_A K A) (F : Nat → va_E) (a0 : Nat) (x1 : Int32) (ha0 : K a0 = 9) (hx1 : 0 ≤ x1.toInt ∧ x1.toInt ≤ 3) (hI : y_I K cs A F) (hW0 : y_W0 (y_at F (A 20)) x1.toInt) (hWs : y_Ws (y_c (y_at F (A 13)) 387).toInt (y_at F (A 20)) x1.toInt) : Met l yX7_changesParts (Cond.code yX7_changesParts cX7_changesParts 5 none :: T0) ({ frames := 3, cells := 0, slots := 0, locals := 64 }) (va_Pc [.ref a0, .int x1] (s_W dC dI sz L F [(cs 0, .int), (cs 1, .byte), (cs 2, .long), (cs 3, .object RX5), (cs 4, .object RX4), (cs 5, .array .int), (cs 6, .char), (cs 7, .boolean)])) (va_Qv (fun (G : Nat → va_E) => True ∧ True ∧ y_I K cs A G ∧ (∀ b, K b ∉ [70] → G b = F b) ∧ (∀ k, k ∈ ([1, 2, 3, 4, 5, 6, 7, 8, 11, 15, 16, 19, 25, 26, 27, 31, 32] : List Nat) → y_fi G a0 k = y_fi F a0 k) ∧ (y_W0 (y_at G (A 20)) x1.toInt ∧ y_Ws (y_c (y_at F (A 13)) 387).toInt (y_at G (A 20)) x1.toInt ∧ y_fw x1.toInt (y_at F (A 20)) (y_at G (A 20)))) (fun (G : Nat → va_E) (t : State) => va_P (dC, dI) vwCl (va_pl L G) t.heap ∧ va_K (dC, dI) vwCl [(cs 0, .int), (cs 1, .byte), (cs 2, .long), (cs 3, .object RX5), (cs 4, .object RX4), (cs 5, .array .int), (cs 6, .char), (cs 7, .boolean)] t) (fun q => q ∈ L)) 0 0 (fun q => q ∈ L) := by
  refine Met.ofW (cc := cX7_changesParts) (maxL := 5) (ret := none) (by decide) rfl ?_
  intro p e s m args below meth c s₁ B hml hv
  obtain ⟨rfl, hsz, hP, hK, hD, hN⟩ := hv
  have hx := B.exec
  have hb := B.bytes
  have hr := B.returns
  have hts : ∀ w ∈ T0, w.before _ s = true := fun w h => atoms_spec (ws := Cond.code yX7_changesParts cX7_changesParts 5 none :: T0) B.pre w (List.mem_cons_of_mem _ h)
  have hown : s.vm.findClass RX7 = some m.cls := findClass_of_methodNamed B.named
  have hlocks := B.notSynchronized
  have hS : va_S (fun q => q ∈ L) s.heap s.heap [] := va_S.rf
  have hfr : ∀ b, K b ∉ [70] → F b = F b := fun _ _ => rfl
  have hl := lv_entry ([.ref a0, .int x1]) (n := 5) (Nat.le_of_ble_eq_true rfl)
  rw [lg_entry_eq]
  generalize (lg_sl ([.ref a0, .int x1]) ++ List.replicate (5 - (lg_sl ([.ref a0, .int x1])).length) Slot.unset).toArray = ls at hl ⊢
  have hl : lv_has ls 5 [(0, .ref a0), (1, .int x1)] := hl
  refine s_gen hP hS (fun H locs hP hS => ?_)
  obtain ⟨z0, q0, oY0, bz0, bq0⟩ := y_opY hI ha0
  have hz0 : ∀ k, k ∈ ([1, 2, 3, 4, 5, 6, 7, 8, 11, 15, 16, 19, 25, 26, 27, 31, 32] : List Nat) → z0 k = z0 k := fun _ _ => rfl
  obtain ⟨f1, o2, b3⟩ := y_op13 hI
  obtain ⟨f4, o5, b6⟩ := y_op20 hI
  have hW0 : y_W0 f4 x1.toInt := by have q9 := hW0; rw [y_atE o5] at q9; exact q9
  have hWs : y_Ws (y_c f1 387).toInt f4 x1.toInt := by have q9 := hWs; rw [y_atE o2, y_atE o5] at q9; exact q9
  have hnw := hW0.2.2.2
  refine lv_aload_n hx hb dX7_changesParts_0 rfl (lv_at hl 0 rfl) ?_
  refine lv_iload_n hx hb dX7_changesParts_1 rfl (lv_at hl 1 rfl) ?_
  refine va_calli (va_runV (As := [.int x1]) (rest := []) ⟨hx, hb, hml, hown, hts⟩ (y_X7_top l dC dI H.size hLK A hA F a0 x1 ha0 (⟨by omega, by omega⟩) hI) (cwV 1 hts (ax_gV T_1074 T_1076 T_1077 T_265 T_1075) rfl rfl rfl (by decide +kernel) ⟨Nat.le_of_ble_eq_true rfl, Nat.le_of_ble_eq_true rfl⟩) ⟨fun a U g mk q => ⟨q.1, s_pc rfl rfl q.2⟩, s_recv hK hP (hLK _ ha0 (by decide)) (ci := 7) rfl oY0, fun U hU hW => ⟨rfl, s_pw hU hW hP hK hD hN⟩⟩ rfl rfl hl.1 rfl (lv_room (Nat.le_of_ble_eq_true rfl)) dX7_changesParts_2 ⟨Nat.zero_le _, Nat.zero_le _⟩) hS (fun q _ h => h) (fun q h => h) (fun r8 F9 t H1 locs ht hvm hw hB hz1 hk1 hS => ?_)
  obtain ⟨hP, hK1⟩ := hB
  rw [ht] at hP
  generalize H1 = H at hP hS ⊢
  obtain ⟨h10, h12, hI, hfr1, hzf, h11⟩ := hw
  have o13 : F9 (A 13) = .inl (cs 0, 400, .inl f1) := (hfr1 _ (by rw [(y_k13 hA)]; decide)).trans o2
  have o14 : F9 (A 20) = .inl (cs 0, 918, .inl f4) := (hfr1 _ (by rw [(y_k20 hA)]; decide)).trans o5
  have oY15 : F9 a0 = .inr (7, y_fl A z0 q0) := (hfr1 _ (by rw [ha0]; decide)).trans oY0
  have hfr : ∀ b, K b ∉ [70] → F9 b = F b := fun b hb9 => (hfr1 b (fun q => hb9 (s_sub (by decide) q))).trans (hfr b hb9)
  have h11 : (r8 = y_c f4 (109 + 6 * x1.toInt) - 1) := by have q9 := h11; rw [y_atE o5] at q9; exact q9
  have h16 := congrArg Int32.toInt h11
  have h17 : -1 ≤ r8.toInt ∧ r8.toInt ≤ 14 := by have q9 : r8.toInt = (y_c f4 (109 + 6 * x1.toInt)).toInt - 1 := (by rw [h11]; exact th_sub rfl (by decide) ⟨by omega, by omega⟩); exact ⟨by omega, by omega⟩
  have h18 : r8.toInt = (y_c f4 (109 + 6 * x1.toInt)).toInt - 1 := by rw [h11]; exact th_sub rfl (by decide) ⟨by omega, by omega⟩
  refine lv_istore_n (lv' := [(2, .int r8), (0, .ref a0), (1, .int x1)]) hx hb dX7_changesParts_5 rfl hl (by decide) rfl (fun ls hl => ?_)
  refine lv_iload_n hx hb dX7_changesParts_6 rfl (lv_at hl 0 rfl) ?_
  refine lv_iconst (v := 1) hx hb dX7_changesParts_7 (by decide) ?_
  refine lv_icmp_lt (tgt := 67) hx hb dX7_changesParts_8 (by decide) (fun c19 => ?_) (fun c19 => ?_)
  · have c19 := (ax_lt (n := 1) (by decide)).mp c19
    exact W.vret hx hb hr (fun t ht hW => ⟨⟨F9, rfl, ⟨trivial, trivial, hI, hfr, fun k hk => (y_fiZ oY15 (s_sub (by decide) hk)).trans ((hz0 k hk).trans (y_fiZ oY0 (s_sub (by decide) hk)).symm), (by rw [y_atE o14, y_atE o2, y_atE o5]; exact ⟨hW0, hWs, y_fw_r _ _⟩)⟩, by rw [ht]; exact hP, va_K.moved hW.alike hK⟩, hS.F ht⟩) hS.2.2 dX7_changesParts_67
  · have c19 := mt (ax_lt (n := 1) (by decide)).mpr c19
    refine lv_aload_n hx hb dX7_changesParts_11 rfl (lv_at hl 1 rfl) ?_
    refine th_get (D := (dC, dI)) (ci := 7) (v := .ref (A 20)) (C := RX7) (T := TX7) (N := 34) hx hb hts inX7 hown hK hP (hLK _ ha0 (by decide)) oY15 rfl 20 (by decide) (hts _ T_251) (fun _ h9 => h9) rfl dX7_changesParts_12 ?_
    refine lv_iload_n hx hb dX7_changesParts_15 rfl (lv_at hl 2 rfl) ?_
    refine lv_iload_n hx hb dX7_changesParts_16 rfl (lv_at hl 0 rfl) ?_
    refine lv_iconst (v := 1) hx hb dX7_changesParts_17 (by decide) ?_
    refine va_calli (va_runS (As := [.int x1, .int r8, .int 1]) (rest := [.ref (A 20)]) ⟨hx, hb, hml, hown, hts⟩ (y_X7_partAt l dC dI H.size F9 x1 r8 1 (⟨by omega, by omega⟩) (⟨by omega, by omega⟩) (by decide)) (cwS 3 hts (ax_gS T_1078 T_1080 T_265 T_1079) rfl rfl rfl (by decide +kernel) ⟨Nat.le_of_ble_eq_true rfl, Nat.le_of_ble_eq_true rfl⟩) ⟨fun a U g mk q => ⟨q.1, s_pc rfl rfl q.2⟩, fun U hU hW => ⟨rfl, s_pw hU hW hP hK hD hN⟩⟩ rfl rfl hl.1 rfl (lv_room (Nat.le_of_ble_eq_true rfl)) dX7_changesParts_18 ⟨Nat.zero_le _, Nat.zero_le _⟩) hS (fun q _ h => h) (fun q h => h) (fun r21 F22 t H1 locs ht hvm hw hB hz1 hk1 hS => ?_)
    obtain ⟨hP, hK1⟩ := hB
    rw [ht] at hP
    generalize H1 = H at hP hS ⊢
    obtain ⟨h23, h25, hG9, h24⟩ := hw
    rw [hG9] at hP
    have h24 : (r21.toInt = 288 + 48 * x1.toInt + 3 * r8.toInt + 1) := by have q9 := h24; exact q9
    refine th_iald hx hb hK hP (hLK _ (y_k20 hA) (by decide)) 0 o14 rfl (th_in ⟨by omega, by omega⟩) dX7_changesParts_21 ?_
    refine lv_topi (fun v26 ev26 => ?_)
    have Ev26 : v26 = y_c f4 (286 + 48 * x1.toInt + 3 * (y_c f4 (109 + 6 * x1.toInt)).toInt) := ev26.trans (y_ci (by omega))
    have tEv26 := congrArg Int32.toInt Ev26
    refine lv_aload_n hx hb dX7_changesParts_22 rfl (lv_at hl 1 rfl) ?_
    refine th_get (D := (dC, dI)) (ci := 7) (v := .ref (A 20)) (C := RX7) (T := TX7) (N := 34) hx hb hts inX7 hown hK hP (hLK _ ha0 (by decide)) oY15 rfl 20 (by decide) (hts _ T_251) (fun _ h9 => h9) rfl dX7_changesParts_23 ?_
    refine lv_iload_n hx hb dX7_changesParts_26 rfl (lv_at hl 2 rfl) ?_
    refine lv_iload_n hx hb dX7_changesParts_27 rfl (lv_at hl 0 rfl) ?_
    refine lv_iconst (v := 1) hx hb dX7_changesParts_28 (by decide) ?_
    refine lv_isub hx hb dX7_changesParts_29 ?_
    refine lv_topi (fun v27 ev27 => ?_)
    have qv27 : v27.toInt = r8.toInt - 1 := by rw [ev27]; exact th_sub rfl (by decide) ⟨by omega, by omega⟩
    refine lv_iconst (v := 1) hx hb dX7_changesParts_30 (by decide) ?_
    refine va_calli (va_runS (As := [.int x1, .int v27, .int 1]) (rest := [.ref (A 20), .int v26]) ⟨hx, hb, hml, hown, hts⟩ (y_X7_partAt l dC dI H.size F9 x1 v27 1 (⟨by omega, by omega⟩) (⟨by omega, by omega⟩) (by decide)) (cwS 3 hts (ax_gS T_1078 T_1080 T_265 T_1079) rfl rfl rfl (by decide +kernel) ⟨Nat.le_of_ble_eq_true rfl, Nat.le_of_ble_eq_true rfl⟩) ⟨fun a U g mk q => ⟨q.1, s_pc rfl rfl q.2⟩, fun U hU hW => ⟨rfl, s_pw hU hW hP hK hD hN⟩⟩ rfl rfl hl.1 rfl (lv_room (Nat.le_of_ble_eq_true rfl)) dX7_changesParts_31 ⟨Nat.zero_le _, Nat.zero_le _⟩) hS (fun q _ h => h) (fun q h => h) (fun r29 F30 t H1 locs ht hvm hw hB hz1 hk1 hS => ?_)
    obtain ⟨hP, hK1⟩ := hB
    rw [ht] at hP
    generalize H1 = H at hP hS ⊢
    obtain ⟨h31, h33, hG9, h32⟩ := hw
    rw [hG9] at hP
    have h32 : (r29.toInt = 288 + 48 * x1.toInt + 3 * v27.toInt + 1) := by have q9 := h32; exact q9
    refine th_iald hx hb hK hP (hLK _ (y_k20 hA) (by decide)) 0 o14 rfl (th_in ⟨by omega, by omega⟩) dX7_changesParts_34 ?_
    refine lv_topi (fun v34 ev34 => ?_)
    have Ev34 : v34 = y_c f4 (283 + 48 * x1.toInt + 3 * (y_c f4 (109 + 6 * x1.toInt)).toInt) := ev34.trans (y_ci (by omega))
    have tEv34 := congrArg Int32.toInt Ev34
    refine lv_icmp_ne (tgt := 67) hx hb dX7_changesParts_35 (by decide) (fun c35 => ?_) (fun c35 => ?_)
    · have c35 := mt Int32.toInt_inj.symm.mpr c35
      exact W.vret hx hb hr (fun t ht hW => ⟨⟨F9, rfl, ⟨trivial, trivial, hI, hfr, fun k hk => (y_fiZ oY15 (s_sub (by decide) hk)).trans ((hz0 k hk).trans (y_fiZ oY0 (s_sub (by decide) hk)).symm), (by rw [y_atE o14, y_atE o2, y_atE o5]; exact ⟨hW0, hWs, y_fw_r _ _⟩)⟩, by rw [ht]; exact hP, va_K.moved hW.alike hK⟩, hS.F ht⟩) hS.2.2 dX7_changesParts_67
    · have c35 := Int32.toInt_inj.symm.mp c35
      refine lv_aload_n hx hb dX7_changesParts_38 rfl (lv_at hl 1 rfl) ?_
      refine th_get (D := (dC, dI)) (ci := 7) (v := .ref (A 20)) (C := RX7) (T := TX7) (N := 34) hx hb hts inX7 hown hK hP (hLK _ ha0 (by decide)) oY15 rfl 20 (by decide) (hts _ T_251) (fun _ h9 => h9) rfl dX7_changesParts_39 ?_
      refine lv_iload_n hx hb dX7_changesParts_42 rfl (lv_at hl 2 rfl) ?_
      refine lv_iload_n hx hb dX7_changesParts_43 rfl (lv_at hl 0 rfl) ?_
      refine lv_iconst (v := 1) hx hb dX7_changesParts_44 (by decide) ?_
      refine lv_isub hx hb dX7_changesParts_45 ?_
      refine lv_topi (fun v36 ev36 => ?_)
      have qv36 : v36.toInt = r8.toInt - 1 := by rw [ev36]; exact th_sub rfl (by decide) ⟨by omega, by omega⟩
      refine lv_iconst (v := 0) hx hb dX7_changesParts_46 (by decide) ?_
      refine va_calli (va_runS (As := [.int x1, .int v36, .int 0]) (rest := [.ref (A 20)]) ⟨hx, hb, hml, hown, hts⟩ (y_X7_partAt l dC dI H.size F9 x1 v36 0 (⟨by omega, by omega⟩) (⟨by omega, by omega⟩) (by decide)) (cwS 3 hts (ax_gS T_1078 T_1080 T_265 T_1079) rfl rfl rfl (by decide +kernel) ⟨Nat.le_of_ble_eq_true rfl, Nat.le_of_ble_eq_true rfl⟩) ⟨fun a U g mk q => ⟨q.1, s_pc rfl rfl q.2⟩, fun U hU hW => ⟨rfl, s_pw hU hW hP hK hD hN⟩⟩ rfl rfl hl.1 rfl (lv_room (Nat.le_of_ble_eq_true rfl)) dX7_changesParts_47 ⟨Nat.zero_le _, Nat.zero_le _⟩) hS (fun q _ h => h) (fun q h => h) (fun r38 F39 t H1 locs ht hvm hw hB hz1 hk1 hS => ?_)
      obtain ⟨hP, hK1⟩ := hB
      rw [ht] at hP
      generalize H1 = H at hP hS ⊢
      obtain ⟨h40, h42, hG9, h41⟩ := hw
      rw [hG9] at hP
      have h41 : (r38.toInt = 288 + 48 * x1.toInt + 3 * v36.toInt + 0) := by have q9 := h41; exact q9
      refine th_iald hx hb hK hP (hLK _ (y_k20 hA) (by decide)) 0 o14 rfl (th_in ⟨by omega, by omega⟩) dX7_changesParts_50 ?_
      refine lv_topi (fun v43 ev43 => ?_)
      have Ev43 : v43 = y_c f4 (282 + 48 * x1.toInt + 3 * (y_c f4 (109 + 6 * x1.toInt)).toInt) := ev43.trans (y_ci (by omega))
      have tEv43 := congrArg Int32.toInt Ev43
      refine lv_aload_n hx hb dX7_changesParts_51 rfl (lv_at hl 1 rfl) ?_
      refine th_get (D := (dC, dI)) (ci := 7) (v := .ref (A 20)) (C := RX7) (T := TX7) (N := 34) hx hb hts inX7 hown hK hP (hLK _ ha0 (by decide)) oY15 rfl 20 (by decide) (hts _ T_251) (fun _ h9 => h9) rfl dX7_changesParts_52 ?_
      refine lv_iload_n hx hb dX7_changesParts_55 rfl (lv_at hl 2 rfl) ?_
      refine lv_iload_n hx hb dX7_changesParts_56 rfl (lv_at hl 0 rfl) ?_
      refine lv_iconst (v := 1) hx hb dX7_changesParts_57 (by decide) ?_
      refine lv_isub hx hb dX7_changesParts_58 ?_
      refine lv_topi (fun v44 ev44 => ?_)
      have qv44 : v44.toInt = r8.toInt - 1 := by rw [ev44]; exact th_sub rfl (by decide) ⟨by omega, by omega⟩
      refine lv_iconst (v := 1) hx hb dX7_changesParts_59 (by decide) ?_
      refine va_calli (va_runS (As := [.int x1, .int v44, .int 1]) (rest := [.ref (A 20), .int v43]) ⟨hx, hb, hml, hown, hts⟩ (y_X7_partAt l dC dI H.size F9 x1 v44 1 (⟨by omega, by omega⟩) (⟨by omega, by omega⟩) (by decide)) (cwS 3 hts (ax_gS T_1078 T_1080 T_265 T_1079) rfl rfl rfl (by decide +kernel) ⟨Nat.le_of_ble_eq_true rfl, Nat.le_of_ble_eq_true rfl⟩) ⟨fun a U g mk q => ⟨q.1, s_pc rfl rfl q.2⟩, fun U hU hW => ⟨rfl, s_pw hU hW hP hK hD hN⟩⟩ rfl rfl hl.1 rfl (lv_room (Nat.le_of_ble_eq_true rfl)) dX7_changesParts_60 ⟨Nat.zero_le _, Nat.zero_le _⟩) hS (fun q _ h => h) (fun q h => h) (fun r46 F47 t H1 locs ht hvm hw hB hz1 hk1 hS => ?_)
      obtain ⟨hP, hK1⟩ := hB
      rw [ht] at hP
      generalize H1 = H at hP hS ⊢
      obtain ⟨h48, h50, hG9, h49⟩ := hw
      rw [hG9] at hP
      have h49 : (r46.toInt = 288 + 48 * x1.toInt + 3 * v44.toInt + 1) := by have q9 := h49; exact q9
      refine th_iald hx hb hK hP (hLK _ (y_k20 hA) (by decide)) 0 o14 rfl (th_in ⟨by omega, by omega⟩) dX7_changesParts_63 ?_
      refine lv_topi (fun v51 ev51 => ?_)
      have Ev51 : v51 = y_c f4 (283 + 48 * x1.toInt + 3 * (y_c f4 (109 + 6 * x1.toInt)).toInt) := ev51.trans (y_ci (by omega))
      have tEv51 := congrArg Int32.toInt Ev51
      refine lv_icmp_ne (tgt := 68) hx hb dX7_changesParts_64 (by decide) (fun c52 => ?_) (fun c52 => ?_)
      · have c52 := mt Int32.toInt_inj.symm.mpr c52
        refine lv_iconst (v := 0) hx hb dX7_changesParts_68 (by decide) ?_
        refine lv_istore_n (lv' := [(3, .int 0), (2, .int r8), (0, .ref a0), (1, .int x1)]) hx hb dX7_changesParts_69 rfl hl (by decide) rfl (fun ls hl => ?_)
        have h54 : (0 : Int32).toInt = 0 := by decide
        refine th_loop (fun n g H locs => ∃ (G : Nat → va_E) (ls : Array Slot) (w53 : Int32), g = F0 m 70 ls [] ∧ lv_has ls 5 [(0, .ref a0), (1, .int x1), (2, .int r8), (3, .int w53)] ∧ va_P (dC, dI) vwCl (va_pl L G) H ∧ va_S (fun q => q ∈ L) s.heap H locs ∧ y_I K cs A G ∧ (∀ b, K b ∉ [70] → G b = F b) ∧ (∀ k, k ∈ ([1, 2, 3, 4, 5, 6, 7, 8, 11, 15, 16, 19, 25, 26, 27, 31, 32] : List Nat) → y_fi G a0 k = z0 k) ∧ (0 ≤ w53.toInt ∧ w53.toInt ≤ 3) ∧ (0 ≤ x1.toInt ∧ x1.toInt ≤ 3) ∧ (1 ≤ r8.toInt ∧ r8.toInt ≤ 14) ∧ (y_sw f4 (285 + 48 * x1.toInt + 3 * (y_c f4 (109 + 6 * x1.toInt)).toInt) w53.toInt (y_at G (A 20))) ∧ (r8.toInt = (y_c f4 (109 + 6 * x1.toInt)).toInt - 1 ∧ 2 ≤ (y_c f4 (109 + 6 * x1.toInt)).toInt) ∧ ((y_c f4 (286 + 48 * x1.toInt + 3 * (y_c f4 (109 + 6 * x1.toInt)).toInt)).toInt = (y_c f4 (283 + 48 * x1.toInt + 3 * (y_c f4 (109 + 6 * x1.toInt)).toInt)).toInt ∧ ¬ (y_c f4 (282 + 48 * x1.toInt + 3 * (y_c f4 (109 + 6 * x1.toInt)).toInt)).toInt = (y_c f4 (283 + 48 * x1.toInt + 3 * (y_c f4 (109 + 6 * x1.toInt)).toInt)).toInt) ∧ n = (4 - w53.toInt).toNat) _ ⟨F9, _, 0, rfl, lv_sub hl [2, 3, 1, 0] rfl, hP, hS, hI, hfr, (fun k hk => (y_fiZ oY15 (s_sub (by decide) hk)).trans (hz0 k hk)), (by decide), ⟨by omega, by omega⟩, ⟨by omega, by omega⟩, (by rw [y_atE o14]; exact (by rw [show (0 : Int32).toInt = 0 by decide]; exact y_sw0)), (by omega), (by omega), rfl⟩ (fun n ih70 g H locs hq => ?_)
        obtain ⟨F61, ls, w53, rfl, hl, hP, hS, hI, hfr, hz0, h55, h56, h57, h58, h59, h60, hn⟩ := hq
        have o62 : F61 (A 13) = .inl (cs 0, 400, .inl f1) := (hfr _ (by rw [(y_k13 hA)]; decide)).trans o2
        have oY63 : F61 a0 = .inr (7, y_fl A z0 q0) := (hfr _ (by rw [ha0]; decide)).trans oY0
        have hz0 : ∀ k, k ∈ ([1, 2, 3, 4, 5, 6, 7, 8, 11, 15, 16, 19, 25, 26, 27, 31, 32] : List Nat) → z0 k = z0 k := fun _ _ => rfl
        obtain ⟨f64, o65, b66⟩ := y_op20 hI
        have h58 : (y_sw f4 (285 + 48 * x1.toInt + 3 * (y_c f4 (109 + 6 * x1.toInt)).toInt) w53.toInt f64) := by have q9 := h58; rw [y_atE o65] at q9; exact q9
        have hn_66 := hn
        refine lv_iload_n hx hb dX7_changesParts_70 rfl (lv_at hl 3 rfl) ?_
        refine lv_iconst (v := 3) hx hb dX7_changesParts_71 (by decide) ?_
        refine lv_icmp_ge (tgt := 133) hx hb dX7_changesParts_72 (by decide) (fun c67 => ?_) (fun c67 => ?_)
        · have c67 := (ax_ge (n := 3) (by decide)).mp c67
          exact W.vret hx hb hr (fun t ht hW => ⟨⟨F61, rfl, ⟨trivial, trivial, hI, hfr, fun k hk => (y_fiZ oY63 (s_sub (by decide) hk)).trans ((hz0 k hk).trans (y_fiZ oY0 (s_sub (by decide) hk)).symm), (by rw [y_atE o65, y_atE o2, y_atE o5]; exact y_swE ⟨by omega, by omega⟩ rfl hW0 (by omega) (by have q9 := h58; rw [show w53.toInt = 3 by omega] at q9; exact q9) (by omega) (by omega) hWs)⟩, by rw [ht]; exact hP, va_K.moved hW.alike hK⟩, hS.F ht⟩) hS.2.2 dX7_changesParts_133
        · have c67 := mt (ax_ge (n := 3) (by decide)).mpr c67
          refine lv_aload_n hx hb dX7_changesParts_75 rfl (lv_at hl 0 rfl) ?_
          refine th_get (D := (dC, dI)) (ci := 7) (v := .ref (A 20)) (C := RX7) (T := TX7) (N := 34) hx hb hts inX7 hown hK hP (hLK _ ha0 (by decide)) oY63 rfl 20 (by decide) (hts _ T_251) (fun _ h9 => h9) rfl dX7_changesParts_76 ?_
          refine lv_iload_n hx hb dX7_changesParts_79 rfl (lv_at hl 1 rfl) ?_
          refine lv_iload_n hx hb dX7_changesParts_80 rfl (lv_at hl 2 rfl) ?_
          refine lv_iload_n hx hb dX7_changesParts_81 rfl (lv_at hl 3 rfl) ?_
          refine va_calli (va_runS (As := [.int x1, .int r8, .int w53]) (rest := [.ref (A 20)]) ⟨hx, hb, hml, hown, hts⟩ (y_X7_partAt l dC dI H.size F61 x1 r8 w53 (⟨by omega, by omega⟩) (⟨by omega, by omega⟩) (⟨by omega, by omega⟩)) (cwS 3 hts (ax_gS T_1078 T_1080 T_265 T_1079) rfl rfl rfl (by decide +kernel) ⟨Nat.le_of_ble_eq_true rfl, Nat.le_of_ble_eq_true rfl⟩) ⟨fun a U g mk q => ⟨q.1, s_pc rfl rfl q.2⟩, fun U hU hW => ⟨rfl, s_pw hU hW hP hK hD hN⟩⟩ rfl rfl hl.1 rfl (lv_room (Nat.le_of_ble_eq_true rfl)) dX7_changesParts_82 ⟨Nat.zero_le _, Nat.zero_le _⟩) hS (fun q _ h => h) (fun q h => h) (fun r69 F70 t H1 locs ht hvm hw hB hz1 hk1 hS => ?_)
          obtain ⟨hP, hK1⟩ := hB
          rw [ht] at hP
          generalize H1 = H at hP hS ⊢
          obtain ⟨h71, h73, hG9, h72⟩ := hw
          rw [hG9] at hP
          have h72 : (r69.toInt = 288 + 48 * x1.toInt + 3 * r8.toInt + w53.toInt) := by have q9 := h72; exact q9
          refine th_iald hx hb hK hP (hLK _ (y_k20 hA) (by decide)) 0 o65 rfl (th_in ⟨by omega, by omega⟩) dX7_changesParts_85 ?_
          refine lv_topi (fun v74 ev74 => ?_)
          have Ev74 : v74 = y_c f64 (285 + 48 * x1.toInt + 3 * (y_c f4 (109 + 6 * x1.toInt)).toInt + w53.toInt) := ev74.trans (y_ci (by omega))
          have tEv74 := congrArg Int32.toInt Ev74
          refine lv_istore (lv' := [(4, .int v74), (0, .ref a0), (1, .int x1), (2, .int r8), (3, .int w53)]) hx hb dX7_changesParts_86 hl (by decide) rfl (fun ls hl => ?_)
          refine lv_aload_n hx hb dX7_changesParts_88 rfl (lv_at hl 1 rfl) ?_
          refine th_get (D := (dC, dI)) (ci := 7) (v := .ref (A 20)) (C := RX7) (T := TX7) (N := 34) hx hb hts inX7 hown hK hP (hLK _ ha0 (by decide)) oY63 rfl 20 (by decide) (hts _ T_251) (fun _ h9 => h9) rfl dX7_changesParts_89 ?_
          refine lv_iload_n hx hb dX7_changesParts_92 rfl (lv_at hl 2 rfl) ?_
          refine lv_iload_n hx hb dX7_changesParts_93 rfl (lv_at hl 3 rfl) ?_
          refine lv_iload_n hx hb dX7_changesParts_94 rfl (lv_at hl 4 rfl) ?_
          refine va_calli (va_runS (As := [.int x1, .int r8, .int w53]) (rest := [.ref (A 20)]) ⟨hx, hb, hml, hown, hts⟩ (y_X7_partAt l dC dI H.size F61 x1 r8 w53 (⟨by omega, by omega⟩) (⟨by omega, by omega⟩) (⟨by omega, by omega⟩)) (cwS 3 hts (ax_gS T_1078 T_1080 T_265 T_1079) rfl rfl rfl (by decide +kernel) ⟨Nat.le_of_ble_eq_true rfl, Nat.le_of_ble_eq_true rfl⟩) ⟨fun a U g mk q => ⟨q.1, s_pc rfl rfl q.2⟩, fun U hU hW => ⟨rfl, s_pw hU hW hP hK hD hN⟩⟩ rfl rfl hl.1 rfl (lv_room (Nat.le_of_ble_eq_true rfl)) dX7_changesParts_95 ⟨Nat.zero_le _, Nat.zero_le _⟩) hS (fun q _ h => h) (fun q h => h) (fun r76 F77 t H1 locs ht hvm hw hB hz1 hk1 hS => ?_)
          obtain ⟨hP, hK1⟩ := hB
          rw [ht] at hP
          generalize H1 = H at hP hS ⊢
          obtain ⟨h78, h80, hG9, h79⟩ := hw
          rw [hG9] at hP
          have h79 : (r76.toInt = 288 + 48 * x1.toInt + 3 * r8.toInt + w53.toInt) := by have q9 := h79; exact q9
          refine lv_aload_n hx hb dX7_changesParts_98 rfl (lv_at hl 1 rfl) ?_
          refine th_get (D := (dC, dI)) (ci := 7) (v := .ref (A 20)) (C := RX7) (T := TX7) (N := 34) hx hb hts inX7 hown hK hP (hLK _ ha0 (by decide)) oY63 rfl 20 (by decide) (hts _ T_251) (fun _ h9 => h9) rfl dX7_changesParts_99 ?_
          refine lv_iload_n hx hb dX7_changesParts_102 rfl (lv_at hl 2 rfl) ?_
          refine lv_iload_n hx hb dX7_changesParts_103 rfl (lv_at hl 3 rfl) ?_
          refine lv_iconst (v := 1) hx hb dX7_changesParts_104 (by decide) ?_
          refine lv_isub hx hb dX7_changesParts_105 ?_
          refine lv_topi (fun v81 ev81 => ?_)
          have qv81 : v81.toInt = r8.toInt - 1 := by rw [ev81]; exact th_sub rfl (by decide) ⟨by omega, by omega⟩
          refine lv_iload_n hx hb dX7_changesParts_106 rfl (lv_at hl 4 rfl) ?_
          refine va_calli (va_runS (As := [.int x1, .int v81, .int w53]) (rest := [.ref (A 20), .int r76, .ref (A 20)]) ⟨hx, hb, hml, hown, hts⟩ (y_X7_partAt l dC dI H.size F61 x1 v81 w53 (⟨by omega, by omega⟩) (⟨by omega, by omega⟩) (⟨by omega, by omega⟩)) (cwS 3 hts (ax_gS T_1078 T_1080 T_265 T_1079) rfl rfl rfl (by decide +kernel) ⟨Nat.le_of_ble_eq_true rfl, Nat.le_of_ble_eq_true rfl⟩) ⟨fun a U g mk q => ⟨q.1, s_pc rfl rfl q.2⟩, fun U hU hW => ⟨rfl, s_pw hU hW hP hK hD hN⟩⟩ rfl rfl hl.1 rfl (lv_room (Nat.le_of_ble_eq_true rfl)) dX7_changesParts_107 ⟨Nat.zero_le _, Nat.zero_le _⟩) hS (fun q _ h => h) (fun q h => h) (fun r83 F84 t H1 locs ht hvm hw hB hz1 hk1 hS => ?_)
          obtain ⟨hP, hK1⟩ := hB
          rw [ht] at hP
          generalize H1 = H at hP hS ⊢
          obtain ⟨h85, h87, hG9, h86⟩ := hw
          rw [hG9] at hP
          have h86 : (r83.toInt = 288 + 48 * x1.toInt + 3 * v81.toInt + w53.toInt) := by have q9 := h86; exact q9
          refine th_iald hx hb hK hP (hLK _ (y_k20 hA) (by decide)) 0 o65 rfl (th_in ⟨by omega, by omega⟩) dX7_changesParts_110 ?_
          refine lv_topi (fun v88 ev88 => ?_)
          have Ev88 : v88 = y_c f64 (282 + 48 * x1.toInt + 3 * (y_c f4 (109 + 6 * x1.toInt)).toInt + w53.toInt) := ev88.trans (y_ci (by omega))
          have tEv88 := congrArg Int32.toInt Ev88
          refine th_iast hx hb hK hP hD hS (hLK _ (y_k20 hA) (by decide)) 0 o65 rfl (th_in ⟨by omega, by omega⟩) dX7_changesParts_111 (fun H locs hP hS => ?_)
          obtain ⟨f89, u90⟩ : ∃ g : Nat → Int32, g = upd f64 (r76 : Int32).toNatClampNeg v88 := ⟨_, rfl⟩
          rw [← u90] at hP
          have b91 : y_bd 20 f89 := trivial
          have hP : va_P (dC, dI) vwCl (va_pl L (va_up F61 (A 20) (.inl (cs 0, 918, .inl f89)))) H := hP
          obtain ⟨F92, hF93⟩ : ∃ G : Nat → va_E, G = va_up F61 (A 20) (.inl (cs 0, 918, .inl f89)) := ⟨_, rfl⟩
          rw [← hF93] at hP
          have hI : y_I K cs A F92 := by rw [hF93]; exact y_clA (i := 20) hA hI (by decide) b91
          have hfr : ∀ b, K b ∉ [70] → F92 b = F b := by rw [hF93]; exact s_fr hfr (y_k20 hA) (by decide)
          have o94 : F92 (A 13) = .inl (cs 0, 400, .inl f1) := by rw [hF93]; exact th_ne (th_kd (y_k13 hA) (y_k20 hA) (by decide)) o62
          have oY95 : F92 a0 = .inr (7, y_fl A z0 q0) := by rw [hF93]; exact th_ne (th_kd ha0 (y_k20 hA) (by decide)) oY63
          have o96 : F92 (A 20) = .inl (cs 0, 918, .inl f89) := by rw [hF93]; exact th_up
          have u97 : ∀ j : Int, 0 ≤ j → y_c f89 j = if j = r76.toInt then v88 else y_c f64 j := by rw [u90]; exact y_cu rfl (by omega)
          refine lv_aload_n hx hb dX7_changesParts_112 rfl (lv_at hl 1 rfl) ?_
          refine th_get (D := (dC, dI)) (ci := 7) (v := .ref (A 20)) (C := RX7) (T := TX7) (N := 34) hx hb hts inX7 hown hK hP (hLK _ ha0 (by decide)) oY95 rfl 20 (by decide) (hts _ T_251) (fun _ h9 => h9) rfl dX7_changesParts_113 ?_
          refine lv_iload_n hx hb dX7_changesParts_116 rfl (lv_at hl 2 rfl) ?_
          refine lv_iload_n hx hb dX7_changesParts_117 rfl (lv_at hl 3 rfl) ?_
          refine lv_iconst (v := 1) hx hb dX7_changesParts_118 (by decide) ?_
          refine lv_isub hx hb dX7_changesParts_119 ?_
          refine lv_topi (fun v98 ev98 => ?_)
          have qv98 : v98.toInt = r8.toInt - 1 := by rw [ev98]; exact th_sub rfl (by decide) ⟨by omega, by omega⟩
          refine lv_iload_n hx hb dX7_changesParts_120 rfl (lv_at hl 4 rfl) ?_
          refine va_calli (va_runS (As := [.int x1, .int v98, .int w53]) (rest := [.ref (A 20)]) ⟨hx, hb, hml, hown, hts⟩ (y_X7_partAt l dC dI H.size F92 x1 v98 w53 (⟨by omega, by omega⟩) (⟨by omega, by omega⟩) (⟨by omega, by omega⟩)) (cwS 3 hts (ax_gS T_1078 T_1080 T_265 T_1079) rfl rfl rfl (by decide +kernel) ⟨Nat.le_of_ble_eq_true rfl, Nat.le_of_ble_eq_true rfl⟩) ⟨fun a U g mk q => ⟨q.1, s_pc rfl rfl q.2⟩, fun U hU hW => ⟨rfl, s_pw hU hW hP hK hD hN⟩⟩ rfl rfl hl.1 rfl (lv_room (Nat.le_of_ble_eq_true rfl)) dX7_changesParts_121 ⟨Nat.zero_le _, Nat.zero_le _⟩) hS (fun q _ h => h) (fun q h => h) (fun r100 F101 t H1 locs ht hvm hw hB hz1 hk1 hS => ?_)
          obtain ⟨hP, hK1⟩ := hB
          rw [ht] at hP
          generalize H1 = H at hP hS ⊢
          obtain ⟨h102, h104, hG9, h103⟩ := hw
          rw [hG9] at hP
          have h103 : (r100.toInt = 288 + 48 * x1.toInt + 3 * v98.toInt + w53.toInt) := by have q9 := h103; exact q9
          refine lv_iload hx hb dX7_changesParts_124 (lv_at hl 0 rfl) ?_
          refine th_iast hx hb hK hP hD hS (hLK _ (y_k20 hA) (by decide)) 0 o96 rfl (th_in ⟨by omega, by omega⟩) dX7_changesParts_126 (fun H locs hP hS => ?_)
          obtain ⟨f105, u106⟩ : ∃ g : Nat → Int32, g = upd f89 (r100 : Int32).toNatClampNeg v74 := ⟨_, rfl⟩
          rw [← u106] at hP
          have b107 : y_bd 20 f105 := trivial
          have hP : va_P (dC, dI) vwCl (va_pl L (va_up F92 (A 20) (.inl (cs 0, 918, .inl f105)))) H := hP
          obtain ⟨F108, hF109⟩ : ∃ G : Nat → va_E, G = va_up F92 (A 20) (.inl (cs 0, 918, .inl f105)) := ⟨_, rfl⟩
          rw [← hF109] at hP
          have hI : y_I K cs A F108 := by rw [hF109]; exact y_clA (i := 20) hA hI (by decide) b107
          have hfr : ∀ b, K b ∉ [70] → F108 b = F b := by rw [hF109]; exact s_fr hfr (y_k20 hA) (by decide)
          have o110 : F108 (A 13) = .inl (cs 0, 400, .inl f1) := by rw [hF109]; exact th_ne (th_kd (y_k13 hA) (y_k20 hA) (by decide)) o94
          have oY111 : F108 a0 = .inr (7, y_fl A z0 q0) := by rw [hF109]; exact th_ne (th_kd ha0 (y_k20 hA) (by decide)) oY95
          have o112 : F108 (A 20) = .inl (cs 0, 918, .inl f105) := by rw [hF109]; exact th_up
          have u113 : ∀ j : Int, 0 ≤ j → y_c f105 j = if j = r100.toInt then v74 else y_c f89 j := by rw [u106]; exact y_cu rfl (by omega)
          obtain ⟨v114, ev114⟩ : ∃ y : Int32, w53 + 1 = y := ⟨_, rfl⟩
          have qv114 : v114.toInt = w53.toInt + 1 := by rw [← ev114]; exact th_add rfl (by decide) ⟨by omega, by omega⟩
          refine lv_iinc (v := v114) (lv' := [(3, .int v114), (4, .int v74), (0, .ref a0), (1, .int x1), (2, .int r8)]) hx hb dX7_changesParts_127 hl (k := 4) rfl ev114 (by decide) rfl (fun ls hl => ?_)
          refine lv_goto (tgt := 70) hx hb dX7_changesParts_130 (by decide) ?_
          exact ih70 _ _ _ _ (by omega) ⟨F108, _, v114, rfl, lv_sub hl [2, 3, 4, 0] rfl, hP, hS, hI, hfr, (fun k hk => (y_fiZ oY111 (s_sub (by decide) hk)).trans (hz0 k hk)), ⟨by omega, by omega⟩, ⟨by omega, by omega⟩, ⟨by omega, by omega⟩, (by rw [y_atE o112]; exact (by rw [show v114.toInt = w53.toInt + 1 by omega]; exact y_swS (by omega) ⟨by omega, by omega⟩ h58 u97 u113 (by omega) (by omega) (by rw [Ev88]; exact congrArg _ (by omega)) (by rw [Ev74]; exact congrArg _ (by omega)))), (by omega), (by omega), rfl⟩
      · have c52 := Int32.toInt_inj.symm.mp c52
        exact W.vret hx hb hr (fun t ht hW => ⟨⟨F9, rfl, ⟨trivial, trivial, hI, hfr, fun k hk => (y_fiZ oY15 (s_sub (by decide) hk)).trans ((hz0 k hk).trans (y_fiZ oY0 (s_sub (by decide) hk)).symm), (by rw [y_atE o14, y_atE o2, y_atE o5]; exact ⟨hW0, hWs, y_fw_r _ _⟩)⟩, by rw [ht]; exact hP, va_K.moved hW.alike hK⟩, hS.F ht⟩) hS.2.2 dX7_changesParts_67
