set_option maxHeartbeats 4000000 in
set_option maxRecDepth 100000 in
theorem y_X7_goesByStack (l : Launch) (dC : Nat → ClassId) (dI : Nat → Nat → Nat) (sz : Nat) {L : List Nat} {K : Nat → Nat} {cs : Nat → ClassId} (hLK : ∀ a {k : Nat}, K a = k → k ≠ 0 → a ∈ L) (A : Nat → Nat) (hA : y_A K A) (F : Nat → va_E) (a0 : Nat) (x1 : Int32) (x2 : Int32) (x3 : Int32) (ha0 : K a0 = 9) (hx1 : 0 ≤ x1.toInt ∧ x1.toInt ≤ 3) (hx2 : 0 ≤ x2.toInt ∧ x2.toInt ≤ 39) (hI : y_I K cs A F) (hPG : y_PG (y_at F (A 13))) (hln : (x2.toInt < (y_c (y_at F (A 13)) 387).toInt)) (hW0 : y_W0 (y_at F (A 20)) x1.toInt) (hWs : y_Ws (y_c (y_at F (A 13)) 387).toInt (y_at F (A 20)) x1.toInt) (hws3 : (0 < (y_c (y_at F (A 20)) (109 + 6 * x1.toInt)).toInt ∧ y_sub x3 (y_c (y_at F (A 20)) (287 + 48 * x1.toInt + 3 * (y_c (y_at F (A 20)) (109 + 6 * x1.toInt)).toInt)))) : Met l yX7_goesByStack (Cond.code yX7_goesByStack cX7_goesByStack 5 none :: T0) ({ frames := 5, cells := 0, slots := 0, locals := 118 }) (va_Pc [.ref a0, .int x1, .int x2, .int x3] (s_W dC dI sz L F [(cs 0, .int), (cs 1, .byte), (cs 2, .long), (cs 3, .object RX5), (cs 4, .object RX4), (cs 5, .array .int), (cs 6, .char), (cs 7, .boolean)])) (va_Qv (fun (G : Nat → va_E) => True ∧ True ∧ y_I K cs A G ∧ (∀ b, K b ∉ [70] → G b = F b) ∧ (∀ k, k ∈ ([1, 2, 3, 4, 5, 6, 7, 8, 11, 15, 16, 19, 25, 26, 27, 31, 32] : List Nat) → y_fi G a0 k = y_fi F a0 k) ∧ (y_W0 (y_at G (A 20)) x1.toInt ∧ y_Ws (y_c (y_at F (A 13)) 387).toInt (y_at G (A 20)) x1.toInt ∧ y_Wt (y_c (y_at F (A 13)) 387).toInt (y_at G (A 20)) x1.toInt ∧ y_fw x1.toInt (y_at F (A 20)) (y_at G (A 20)))) (fun (G : Nat → va_E) (t : State) => va_P (dC, dI) vwCl (va_pl L G) t.heap ∧ va_K (dC, dI) vwCl [(cs 0, .int), (cs 1, .byte), (cs 2, .long), (cs 3, .object RX5), (cs 4, .object RX4), (cs 5, .array .int), (cs 6, .char), (cs 7, .boolean)] t) (fun q => q ∈ L)) 0 0 (fun q => q ∈ L) := by
  refine Met.ofW (cc := cX7_goesByStack) (maxL := 5) (ret := none) (by decide) rfl ?_
  intro p e s m args below meth c s₁ B hml hv
  obtain ⟨rfl, hsz, hP, hK, hD, hN⟩ := hv
  have hx := B.exec
  have hb := B.bytes
  have hr := B.returns
  have hts : ∀ w ∈ T0, w.before _ s = true := fun w h => atoms_spec (ws := Cond.code yX7_goesByStack cX7_goesByStack 5 none :: T0) B.pre w (List.mem_cons_of_mem _ h)
  have hown : s.vm.findClass RX7 = some m.cls := findClass_of_methodNamed B.named
  have hlocks := B.notSynchronized
  have hS : va_S (fun q => q ∈ L) s.heap s.heap [] := va_S.rf
  have hfr : ∀ b, K b ∉ [70] → F b = F b := fun _ _ => rfl
  have hl := lv_entry ([.ref a0, .int x1, .int x2, .int x3]) (n := 5) (Nat.le_of_ble_eq_true rfl)
  rw [lg_entry_eq]
  generalize (lg_sl ([.ref a0, .int x1, .int x2, .int x3]) ++ List.replicate (5 - (lg_sl ([.ref a0, .int x1, .int x2, .int x3])).length) Slot.unset).toArray = ls at hl ⊢
  have hl : lv_has ls 5 [(0, .ref a0), (1, .int x1), (2, .int x2), (3, .int x3)] := hl
  refine s_gen hP hS (fun H locs hP hS => ?_)
  obtain ⟨z0, q0, oY0, bz0, bq0⟩ := y_opY hI ha0
  have hz0 : ∀ k, k ∈ ([1, 2, 3, 4, 5, 6, 7, 8, 11, 15, 16, 19, 25, 26, 27, 31, 32] : List Nat) → z0 k = z0 k := fun _ _ => rfl
  obtain ⟨f1, o2, b3⟩ := y_op13 hI
  obtain ⟨f4, o5, b6⟩ := y_op20 hI
  replace hPG : y_PG f1 := by have q9 := hPG; rw [y_atE o2] at q9; exact q9
  replace hln : (x2.toInt < (y_c f1 387).toInt) := by have q9 := hln; rw [y_atE o2] at q9; exact q9
  replace hW0 : y_W0 f4 x1.toInt := by have q9 := hW0; rw [y_atE o5] at q9; exact q9
  replace hWs : y_Ws (y_c f1 387).toInt f4 x1.toInt := by have q9 := hWs; rw [y_atE o2, y_atE o5] at q9; exact q9
  replace hws3 : (0 < (y_c f4 (109 + 6 * x1.toInt)).toInt ∧ y_sub x3 (y_c f4 (287 + 48 * x1.toInt + 3 * (y_c f4 (109 + 6 * x1.toInt)).toInt))) := by have q9 := hws3; rw [y_atE o5] at q9; exact q9
  have hL := y_P0L hPG.1
  have hW := y_P0W hPG.1
  have hn7 := hW0.2.2.2
  have hn0 := hws3.1
  have hrg := hPG.1.1.1 x2.toInt (by omega) (by omega)
  unfold y_rg at hrg
  refine th_join (fun g H locs => ∃ (G : Nat → va_E) (ls : Array Slot), g = F0 m 69 ls [] ∧ lv_has ls 5 [(0, .ref a0), (1, .int x1)] ∧ va_P (dC, dI) vwCl (va_pl L G) H ∧ va_S (fun q => q ∈ L) s.heap H locs ∧ y_I K cs A G ∧ (∀ b, K b ∉ [70] → G b = F b) ∧ (∀ k, k ∈ ([1, 2, 3, 4, 5, 6, 7, 8, 11, 15, 16, 19, 25, 26, 27, 31, 32] : List Nat) → y_fi G a0 k = z0 k) ∧ (0 ≤ x1.toInt ∧ x1.toInt ≤ 3) ∧ y_W0 (y_at G (A 20)) x1.toInt ∧ y_Ws (y_c f1 387).toInt (y_at G (A 20)) x1.toInt ∧ y_fw x1.toInt f4 (y_at G (A 20))) (fun K69 => ?_) ?_
  refine th_join (fun g H locs => ∃ (G : Nat → va_E) (ls : Array Slot) (w8 : Int32), g = F0 m 57 ls [] ∧ lv_has ls 5 [(0, .ref a0), (1, .int x1), (4, .int w8)] ∧ va_P (dC, dI) vwCl (va_pl L G) H ∧ va_S (fun q => q ∈ L) s.heap H locs ∧ y_I K cs A G ∧ (∀ b, K b ∉ [70] → G b = F b) ∧ (∀ k, k ∈ ([1, 2, 3, 4, 5, 6, 7, 8, 11, 15, 16, 19, 25, 26, 27, 31, 32] : List Nat) → y_fi G a0 k = z0 k) ∧ (0 ≤ w8.toInt ∧ w8.toInt ≤ 15) ∧ (0 ≤ x1.toInt ∧ x1.toInt ≤ 3) ∧ y_W0 (y_at G (A 20)) x1.toInt ∧ y_Ws (y_c f1 387).toInt (y_at G (A 20)) x1.toInt ∧ y_fw x1.toInt f4 (y_at G (A 20))) (fun K57 => ?_) ?_
  · refine lv_aload_n hx hb dX7_goesByStack_0 rfl (lv_at hl 0 rfl) ?_
    refine lv_iload_n hx hb dX7_goesByStack_1 rfl (lv_at hl 2 rfl) ?_
    refine lv_iconst (v := 0) hx hb dX7_goesByStack_2 (by decide) ?_
    have rg9 : 0 ≤ x2.toInt ∧ x2.toInt ≤ 40 := ⟨by omega, by omega⟩
    refine va_calli (va_runV (As := [.int x2, .int 0]) (rest := []) ⟨hx, hb, hml, hown, hts⟩ (y_X7_of l dC dI H.size hLK A hA F a0 x2 0 ha0 rg9 (by decide) hI) (cwV 2 hts (ax_gV T_1131 T_1133 T_1134 T_265 T_1132) rfl rfl rfl (by decide +kernel) ⟨Nat.le_of_ble_eq_true rfl, Nat.le_of_ble_eq_true rfl⟩) ⟨fun a U g mk q => ⟨q.1, s_pc (U := U) rfl rfl q.2⟩, s_recv hK hP (hLK _ ha0 (by decide)) (ci := 7) rfl oY0, fun U hU hW => ⟨rfl, s_pw hU hW hP hK hD hN⟩⟩ rfl rfl hl.1 rfl (lv_room (Nat.le_of_ble_eq_true rfl)) dX7_goesByStack_3 ⟨Nat.zero_le _, Nat.zero_le _⟩) hS (fun q _ h => h) (fun q h => h) (fun r11 F12 t H1 locs ht hvm hw hB hz1 hk1 hS => ?_)
    obtain ⟨hP, hK1⟩ := hB
    rw [ht] at hP
    generalize H1 = H at hP hS ⊢
    clear hz1 hk1 hvm hK1
    obtain ⟨h13, h15, hI, hfr1, hzf, h14⟩ := hw
    have o16 : F12 (A 13) = .inl (cs 0, 400, .inl f1) := (hfr1 _ (by rw [(y_k13 hA)]; decide)).trans o2
    have o17 : F12 (A 20) = .inl (cs 0, 918, .inl f4) := (hfr1 _ (by rw [(y_k20 hA)]; decide)).trans o5
    have oY18 : F12 a0 = .inr (7, y_fl A z0 q0) := (hfr1 _ (by rw [ha0]; decide)).trans oY0
    have hfr : ∀ b, K b ∉ [70] → F12 b = F b := fun b hb9 => (hfr1 b (fun q => hb9 (s_sub (by decide) q))).trans (hfr b hb9)
    replace h14 : (r11 = y_c f1 (8 * x2.toInt + 0)) := by have q9 := h14; rw [y_atE o2] at q9; exact q9
    have h14 : r11 = y_c f1 (8 * x2.toInt) := h14.trans (congrArg (y_c f1) (by omega))
    have h19 := congrArg Int32.toInt h14
    have h20 : 0 ≤ r11.toInt ∧ r11.toInt ≤ 15 := by have q9 := congrArg Int32.toInt h14; exact ⟨by omega, by omega⟩
    refine lv_istore (lv' := [(4, .int r11), (0, .ref a0), (1, .int x1), (2, .int x2), (3, .int x3)]) hx hb dX7_goesByStack_6 hl (by decide) rfl (fun ls hl => ?_)
    refine lv_iload hx hb dX7_goesByStack_8 (lv_at hl 0 rfl) ?_
    refine lv_bipush (v := 12) hx hb dX7_goesByStack_10 (by decide) ?_
    refine lv_icmp_ne (tgt := 25) hx hb dX7_goesByStack_12 (by decide) (fun c21 => ?_) (fun c21 => ?_)
    · have c21 := mt (ax_eq (n := 12) (by decide)).mpr c21
      refine lv_aload_n hx hb dX7_goesByStack_25 rfl (lv_at hl 1 rfl) ?_
      refine th_get (D := (dC, dI)) (ci := 7) (v := .ref (A 20)) (C := RX7) (T := TX7) (N := 34) hx hb hts inX7 hown hK hP (hLK _ ha0 (by decide)) oY18 rfl 20 (by decide) (hts _ T_251) (fun _ h9 => h9) rfl dX7_goesByStack_26 ?_
      refine lv_iload_n hx hb dX7_goesByStack_29 rfl (lv_at hl 2 rfl) ?_
      refine lv_aload_n hx hb dX7_goesByStack_30 rfl (lv_at hl 1 rfl) ?_
      refine lv_iload_n hx hb dX7_goesByStack_31 rfl (lv_at hl 2 rfl) ?_
      have rg22 : 0 ≤ x1.toInt ∧ x1.toInt ≤ 3 := ⟨by omega, by omega⟩
      refine va_calli (va_runV (As := [.int x1]) (rest := [.int x1, .ref (A 20)]) ⟨hx, hb, hml, hown, hts⟩ (y_X7_top l dC dI H.size hLK A hA F12 a0 x1 ha0 rg22 hI) (cwV 1 hts (ax_gV T_1074 T_1076 T_1077 T_265 T_1075) rfl rfl rfl (by decide +kernel) ⟨Nat.le_of_ble_eq_true rfl, Nat.le_of_ble_eq_true rfl⟩) ⟨fun a U g mk q => ⟨q.1, s_pc (U := U) rfl rfl q.2⟩, s_recv hK hP (hLK _ ha0 (by decide)) (ci := 7) rfl oY18, fun U hU hW => ⟨rfl, s_pw hU hW hP hK hD hN⟩⟩ rfl rfl hl.1 rfl (lv_room (Nat.le_of_ble_eq_true rfl)) dX7_goesByStack_32 ⟨Nat.zero_le _, Nat.zero_le _⟩) hS (fun q _ h => h) (fun q h => h) (fun r24 F25 t H1 locs ht hvm hw hB hz1 hk1 hS => ?_)
      obtain ⟨hP, hK1⟩ := hB
      rw [ht] at hP
      generalize H1 = H at hP hS ⊢
      clear hz1 hk1 hvm hK1
      obtain ⟨h26, h28, hI, hfr1, hzf, h27⟩ := hw
      have o29 : F25 (A 13) = .inl (cs 0, 400, .inl f1) := (hfr1 _ (by rw [(y_k13 hA)]; decide)).trans o16
      have o30 : F25 (A 20) = .inl (cs 0, 918, .inl f4) := (hfr1 _ (by rw [(y_k20 hA)]; decide)).trans o17
      have oY31 : F25 a0 = .inr (7, y_fl A z0 q0) := (hfr1 _ (by rw [ha0]; decide)).trans oY18
      have hfr : ∀ b, K b ∉ [70] → F25 b = F b := fun b hb9 => (hfr1 b (fun q => hb9 (s_sub (by decide) q))).trans (hfr b hb9)
      replace h27 : (r24 = y_c f4 (109 + 6 * x1.toInt) - 1) := by have q9 := h27; rw [y_atE o17] at q9; exact q9
      have h32 := congrArg Int32.toInt h27
      have h33 : 0 ≤ r24.toInt ∧ r24.toInt ≤ 14 := by have q9 : r24.toInt = (y_c f4 (109 + 6 * x1.toInt)).toInt - 1 := (by rw [h27]; exact th_sub rfl (by decide) ⟨by omega, by omega⟩); exact ⟨by omega, by omega⟩
      have h34 : r24.toInt = (y_c f4 (109 + 6 * x1.toInt)).toInt - 1 := by rw [h27]; exact th_sub rfl (by decide) ⟨by omega, by omega⟩
      refine lv_iconst (v := 0) hx hb dX7_goesByStack_35 (by decide) ?_
      have rg35 : 0 ≤ r24.toInt ∧ r24.toInt ≤ 15 := ⟨by omega, by omega⟩
      refine va_calli (va_runS (As := [.int x1, .int r24, .int 0]) (rest := [.ref (A 20)]) ⟨hx, hb, hml, hown, hts⟩ (y_X7_partAt l dC dI H.size F25 x1 r24 0 rg22 rg35 (by decide)) (cwS 3 hts (ax_gS T_1078 T_1080 T_265 T_1079) rfl rfl rfl (by decide +kernel) ⟨Nat.le_of_ble_eq_true rfl, Nat.le_of_ble_eq_true rfl⟩) ⟨fun a U g mk q => ⟨q.1, s_pc (U := U) rfl rfl q.2⟩, fun U hU hW => ⟨rfl, s_pw hU hW hP hK hD hN⟩⟩ rfl rfl hl.1 rfl (lv_room (Nat.le_of_ble_eq_true rfl)) dX7_goesByStack_36 ⟨Nat.zero_le _, Nat.zero_le _⟩) hS (fun q _ h => h) (fun q h => h) (fun r37 F38 t H1 locs ht hvm hw hB hz1 hk1 hS => ?_)
      obtain ⟨hP, hK1⟩ := hB
      rw [ht] at hP
      generalize H1 = H at hP hS ⊢
      clear hz1 hk1 hvm hK1
      obtain ⟨h39, h41, hG9, h40⟩ := hw
      rw [hG9] at hP
      replace h40 : (r37.toInt = 288 + 48 * x1.toInt + 3 * r24.toInt + 0) := by have q9 := h40; exact q9
      refine lv_iload hx hb dX7_goesByStack_39 (lv_at hl 0 rfl) ?_
      refine lv_bipush (v := 15) hx hb dX7_goesByStack_41 (by decide) ?_
      refine lv_icmp_ne (tgt := 53) hx hb dX7_goesByStack_43 (by decide) (fun c42 => ?_) (fun c42 => ?_)
      · have c42 := mt (ax_eq (n := 15) (by decide)).mpr c42
        refine lv_iload_n hx hb dX7_goesByStack_53 rfl (lv_at hl 3 rfl) ?_
        refine lv_iconst (v := 1) hx hb dX7_goesByStack_54 (by decide) ?_
        refine lv_iadd hx hb dX7_goesByStack_55 ?_
        refine lv_topi (fun v43 ev43 => ?_)
        have qv43 : v43.toInt = x2.toInt + 1 := by rw [ev43]; exact th_add rfl (by decide) ⟨by omega, by omega⟩
        refine th_iast hx hb hK hP hD hS (hLK _ (y_k20 hA) (by decide)) 0 o30 rfl (th_in ⟨by omega, by omega⟩) dX7_goesByStack_56 (fun H locs hP hS => ?_)
        obtain ⟨f44, u45⟩ : ∃ g : Nat → Int32, g = upd f4 (r37 : Int32).toNatClampNeg v43 := ⟨_, rfl⟩
        rw [← u45] at hP
        have b46 : y_bd 20 f44 := trivial
        have hP : va_P (dC, dI) vwCl (va_pl L (va_up F25 (A 20) (.inl (cs 0, 918, .inl f44)))) H := hP
        obtain ⟨F47, hF48⟩ : ∃ G : Nat → va_E, G = va_up F25 (A 20) (.inl (cs 0, 918, .inl f44)) := ⟨_, rfl⟩
        rw [← hF48] at hP
        have hI : y_I K cs A F47 := by rw [hF48]; exact y_clA (i := 20) hA hI (by decide) b46
        have hfr : ∀ b, K b ∉ [70] → F47 b = F b := by rw [hF48]; exact s_fr hfr (y_k20 hA) (by decide)
        have o49 : F47 (A 13) = .inl (cs 0, 400, .inl f1) := by rw [hF48]; exact th_ne (th_kd (y_k13 hA) (y_k20 hA) (by decide)) o29
        have oY50 : F47 a0 = .inr (7, y_fl A z0 q0) := by rw [hF48]; exact th_ne (th_kd ha0 (y_k20 hA) (by decide)) oY31
        have o51 : F47 (A 20) = .inl (cs 0, 918, .inl f44) := by rw [hF48]; exact th_up
        have u52 : ∀ j : Int, 0 ≤ j → y_c f44 j = if j = r37.toInt then v43 else y_c f4 j := by rw [u45]; exact y_cu rfl (by omega)
        obtain ⟨k53a, k53b⟩ := y_Ws_top (L := (y_c f1 387).toInt) (v := v43) ⟨by omega, by omega⟩ u52 (by omega) ⟨by omega, by omega⟩ hW0 (by omega) hWs
        have hn54 := k53a.2.2.2
        exact K57 _ _ _ ⟨F47, _, r11, rfl, lv_sub hl [1, 2, 0] rfl, hP, hS, hI, hfr, (fun k hk => (y_fiZ oY50 (s_sub (by decide) hk)).trans (hz0 k hk)), ⟨by omega, by omega⟩, ⟨by omega, by omega⟩, (by rw [y_atE o51]; exact k53a), (by rw [y_atE o51]; exact k53b), (by rw [y_atE o51]; exact (y_fw_u u52 (by omega)))⟩
      · have c42 := (ax_eq (n := 15) (by decide)).mp c42
        refine lv_aload_n hx hb dX7_goesByStack_46 rfl (lv_at hl 1 rfl) ?_
        refine va_calli (va_runV (As := []) (rest := [.int r37, .ref (A 20)]) ⟨hx, hb, hml, hown, hts⟩ (y_X7_lines l dC dI H.size hLK A hA F25 a0 ha0 hI) (cwV 0 hts (ax_gV T_1030 T_1032 T_1033 T_265 T_1031) rfl rfl rfl (by decide +kernel) ⟨Nat.le_of_ble_eq_true rfl, Nat.le_of_ble_eq_true rfl⟩) ⟨fun a U g mk q => ⟨q.1, s_pc (U := U) rfl rfl q.2⟩, s_recv hK hP (hLK _ ha0 (by decide)) (ci := 7) rfl oY31, fun U hU hW => ⟨rfl, s_pw hU hW hP hK hD hN⟩⟩ rfl rfl hl.1 rfl (lv_room (Nat.le_of_ble_eq_true rfl)) dX7_goesByStack_47 ⟨Nat.zero_le _, Nat.zero_le _⟩) hS (fun q _ h => h) (fun q h => h) (fun r56 F57 t H1 locs ht hvm hw hB hz1 hk1 hS => ?_)
        obtain ⟨hP, hK1⟩ := hB
        rw [ht] at hP
        generalize H1 = H at hP hS ⊢
        clear hz1 hk1 hvm hK1
        obtain ⟨h58, h60, hI, hfr1, hzf, h59⟩ := hw
        have o61 : F57 (A 13) = .inl (cs 0, 400, .inl f1) := (hfr1 _ (by rw [(y_k13 hA)]; decide)).trans o29
        have o62 : F57 (A 20) = .inl (cs 0, 918, .inl f4) := (hfr1 _ (by rw [(y_k20 hA)]; decide)).trans o30
        have oY63 : F57 a0 = .inr (7, y_fl A z0 q0) := (hfr1 _ (by rw [ha0]; decide)).trans oY31
        have hfr : ∀ b, K b ∉ [70] → F57 b = F b := fun b hb9 => (hfr1 b (fun q => hb9 (s_sub (by decide) q))).trans (hfr b hb9)
        replace h59 : (r56 = y_c f1 387) := by have q9 := h59; rw [y_atE o29] at q9; exact q9
        have h64 := congrArg Int32.toInt h59
        have h65 : 1 ≤ r56.toInt ∧ r56.toInt ≤ 40 := ⟨by omega, by omega⟩
        refine lv_goto (tgt := 56) hx hb dX7_goesByStack_50 (by decide) ?_
        refine th_iast hx hb hK hP hD hS (hLK _ (y_k20 hA) (by decide)) 0 o62 rfl (th_in ⟨by omega, by omega⟩) dX7_goesByStack_56 (fun H locs hP hS => ?_)
        obtain ⟨f66, u67⟩ : ∃ g : Nat → Int32, g = upd f4 (r37 : Int32).toNatClampNeg r56 := ⟨_, rfl⟩
        rw [← u67] at hP
        have b68 : y_bd 20 f66 := trivial
        have hP : va_P (dC, dI) vwCl (va_pl L (va_up F57 (A 20) (.inl (cs 0, 918, .inl f66)))) H := hP
        obtain ⟨F69, hF70⟩ : ∃ G : Nat → va_E, G = va_up F57 (A 20) (.inl (cs 0, 918, .inl f66)) := ⟨_, rfl⟩
        rw [← hF70] at hP
        have hI : y_I K cs A F69 := by rw [hF70]; exact y_clA (i := 20) hA hI (by decide) b68
        have hfr : ∀ b, K b ∉ [70] → F69 b = F b := by rw [hF70]; exact s_fr hfr (y_k20 hA) (by decide)
        have o71 : F69 (A 13) = .inl (cs 0, 400, .inl f1) := by rw [hF70]; exact th_ne (th_kd (y_k13 hA) (y_k20 hA) (by decide)) o61
        have oY72 : F69 a0 = .inr (7, y_fl A z0 q0) := by rw [hF70]; exact th_ne (th_kd ha0 (y_k20 hA) (by decide)) oY63
        have o73 : F69 (A 20) = .inl (cs 0, 918, .inl f66) := by rw [hF70]; exact th_up
        have u74 : ∀ j : Int, 0 ≤ j → y_c f66 j = if j = r37.toInt then r56 else y_c f4 j := by rw [u67]; exact y_cu rfl (by omega)
        obtain ⟨k75a, k75b⟩ := y_Ws_top (L := (y_c f1 387).toInt) (v := r56) ⟨by omega, by omega⟩ u74 (by omega) ⟨by omega, by omega⟩ hW0 (by omega) hWs
        have hn76 := k75a.2.2.2
        exact K57 _ _ _ ⟨F69, _, r11, rfl, lv_sub hl [1, 2, 0] rfl, hP, hS, hI, hfr, (fun k hk => (y_fiZ oY72 (s_sub (by decide) hk)).trans (hz0 k hk)), ⟨by omega, by omega⟩, ⟨by omega, by omega⟩, (by rw [y_atE o73]; exact k75a), (by rw [y_atE o73]; exact k75b), (by rw [y_atE o73]; exact (y_fw_u u74 (by omega)))⟩
    · have c21 := (ax_eq (n := 12) (by decide)).mp c21
      refine lv_aload_n hx hb dX7_goesByStack_15 rfl (lv_at hl 1 rfl) ?_
      refine lv_iload_n hx hb dX7_goesByStack_16 rfl (lv_at hl 2 rfl) ?_
      refine lv_iload_n hx hb dX7_goesByStack_17 rfl (lv_at hl 3 rfl) ?_
      refine lv_iload_n hx hb dX7_goesByStack_18 rfl (lv_at hl 4 rfl) ?_
      have rg77 : 0 ≤ x1.toInt ∧ x1.toInt ≤ 3 := ⟨by omega, by omega⟩
      have rg78 : 0 ≤ x2.toInt ∧ x2.toInt ≤ 39 := ⟨by omega, by omega⟩
      refine va_callv (va_runV (As := [.int x1, .int x2, .int x3]) (rest := []) ⟨hx, hb, hml, hown, hts⟩ (y_X7_partsWays l dC dI H.size hLK A hA F12 a0 x1 x2 x3 ha0 rg77 rg78 hI (by rw [y_atE o16]; exact hPG) (by first | (rw [y_atE o16]; omega) | rw [y_atE o16]) (by rw [y_atE o17]; exact hW0) (by rw [y_atE o16, y_atE o17]; exact hWs) (by rw [y_atE o17]; exact hws3) (by first | (rw [y_atE o16]; omega) | rw [y_atE o16])) (cwV 3 hts (ax_gV T_1155 T_1157 T_1158 T_265 T_1156) rfl rfl rfl (by decide +kernel) ⟨Nat.le_of_ble_eq_true rfl, Nat.le_of_ble_eq_true rfl⟩) ⟨fun a U g mk q => ⟨q.1, s_pc (U := U) rfl rfl q.2⟩, s_recv hK hP (hLK _ ha0 (by decide)) (ci := 7) rfl oY18, fun U hU hW => ⟨rfl, s_pw hU hW hP hK hD hN⟩⟩ rfl rfl hl.1 rfl (lv_room (Nat.le_of_ble_eq_true rfl)) dX7_goesByStack_19 ⟨Nat.zero_le _, Nat.zero_le _⟩) hS (fun q _ h => h) (fun q h => h) (fun F80 t H1 locs ht hvm hw hB hz1 hk1 hS => ?_)
      obtain ⟨hP, hK1⟩ := hB
      rw [ht] at hP
      generalize H1 = H at hP hS ⊢
      clear hz1 hk1 hvm hK1
      obtain ⟨h81, h83, hI, hfr1, hzf, h82⟩ := hw
      have o84 : F80 (A 13) = .inl (cs 0, 400, .inl f1) := (hfr1 _ (by rw [(y_k13 hA)]; decide)).trans o16
      have oY85 : F80 a0 = .inr (7, y_fl A z0 q0) := (hfr1 _ (by rw [ha0]; decide)).trans oY18
      have hfr : ∀ b, K b ∉ [70] → F80 b = F b := fun b hb9 => (hfr1 b (fun q => hb9 (s_sub (by decide) q))).trans (hfr b hb9)
      obtain ⟨f86, o87, b88⟩ := y_op20 hI
      replace h82 : (y_W0 f86 x1.toInt ∧ y_Ws (y_c f1 387).toInt f86 x1.toInt ∧ y_fw x1.toInt f4 f86 ∧ 0 < (y_c f86 (109 + 6 * x1.toInt)).toInt) := by have q9 := h82; rw [y_atE o87, y_atE o16, y_atE o17] at q9; exact q9
      have hn89 := h82.1.2.2.2
      refine lv_goto (tgt := 57) hx hb dX7_goesByStack_22 (by decide) ?_
      exact K57 _ _ _ ⟨F80, _, r11, rfl, lv_sub hl [1, 2, 0] rfl, hP, hS, hI, hfr, (fun k hk => (y_fiZ oY85 (s_sub (by decide) hk)).trans (hz0 k hk)), ⟨by omega, by omega⟩, ⟨by omega, by omega⟩, (by rw [y_atE o87]; exact h82.1), (by rw [y_atE o87]; exact h82.2.1), (by rw [y_atE o87]; exact h82.2.2.1)⟩
  · intro g H locs hq
    obtain ⟨F95, ls, w8, rfl, hl, hP, hS, hI, hfr, hz0, h90, h91, h92, h93, h94⟩ := hq
    have o96 : F95 (A 13) = .inl (cs 0, 400, .inl f1) := (hfr _ (by rw [(y_k13 hA)]; decide)).trans o2
    have oY97 : F95 a0 = .inr (7, y_fl A z0 q0) := (hfr _ (by rw [ha0]; decide)).trans oY0
    have hz0 : ∀ k, k ∈ ([1, 2, 3, 4, 5, 6, 7, 8, 11, 15, 16, 19, 25, 26, 27, 31, 32] : List Nat) → z0 k = z0 k := fun _ _ => rfl
    obtain ⟨f98, o99, b100⟩ := y_op20 hI
    replace h92 : y_W0 f98 x1.toInt := by have q9 := h92; rw [y_atE o99] at q9; exact q9
    replace h93 : y_Ws (y_c f1 387).toInt f98 x1.toInt := by have q9 := h93; rw [y_atE o99] at q9; exact q9
    replace h94 : y_fw x1.toInt f4 f98 := by have q9 := h94; rw [y_atE o99] at q9; exact q9
    have hn101 := h92.2.2.2
    refine lv_iload hx hb dX7_goesByStack_57 (lv_at hl 2 rfl) ?_
    refine lv_bipush (v := 14) hx hb dX7_goesByStack_59 (by decide) ?_
    refine lv_icmp_ne (tgt := 69) hx hb dX7_goesByStack_61 (by decide) (fun c102 => ?_) (fun c102 => ?_)
    · have c102 := mt (ax_eq (n := 14) (by decide)).mpr c102
      exact K69 _ _ _ ⟨F95, _, rfl, lv_sub hl [0, 1] rfl, hP, hS, hI, hfr, (fun k hk => (y_fiZ oY97 (s_sub (by decide) hk)).trans (hz0 k hk)), ⟨by omega, by omega⟩, (by rw [y_atE o99]; exact h92), (by rw [y_atE o99]; exact h93), (by rw [y_atE o99]; exact h94)⟩
    · have c102 := (ax_eq (n := 14) (by decide)).mp c102
      refine lv_aload_n hx hb dX7_goesByStack_64 rfl (lv_at hl 0 rfl) ?_
      refine lv_iload_n hx hb dX7_goesByStack_65 rfl (lv_at hl 1 rfl) ?_
      have rg103 : 0 ≤ x1.toInt ∧ x1.toInt ≤ 3 := ⟨by omega, by omega⟩
      refine va_callv (va_runV (As := [.int x1]) (rest := []) ⟨hx, hb, hml, hown, hts⟩ (y_X7_changesParts l dC dI H.size hLK A hA F95 a0 x1 ha0 rg103 hI (by rw [y_atE o99]; exact h92) (by rw [y_atE o96, y_atE o99]; exact h93)) (cwV 1 hts (ax_gV T_1159 T_1161 T_1162 T_265 T_1160) rfl rfl rfl (by decide +kernel) ⟨Nat.le_of_ble_eq_true rfl, Nat.le_of_ble_eq_true rfl⟩) ⟨fun a U g mk q => ⟨q.1, s_pc (U := U) rfl rfl q.2⟩, s_recv hK hP (hLK _ ha0 (by decide)) (ci := 7) rfl oY97, fun U hU hW => ⟨rfl, s_pw hU hW hP hK hD hN⟩⟩ rfl rfl hl.1 rfl (lv_room (Nat.le_of_ble_eq_true rfl)) dX7_goesByStack_66 ⟨Nat.zero_le _, Nat.zero_le _⟩) hS (fun q _ h => h) (fun q h => h) (fun F105 t H1 locs ht hvm hw hB hz1 hk1 hS => ?_)
      obtain ⟨hP, hK1⟩ := hB
      rw [ht] at hP
      generalize H1 = H at hP hS ⊢
      clear hz1 hk1 hvm hK1
      obtain ⟨h106, h108, hI, hfr1, hzf, h107⟩ := hw
      have o109 : F105 (A 13) = .inl (cs 0, 400, .inl f1) := (hfr1 _ (by rw [(y_k13 hA)]; decide)).trans o96
      have oY110 : F105 a0 = .inr (7, y_fl A z0 q0) := (hfr1 _ (by rw [ha0]; decide)).trans oY97
      have hfr : ∀ b, K b ∉ [70] → F105 b = F b := fun b hb9 => (hfr1 b (fun q => hb9 (s_sub (by decide) q))).trans (hfr b hb9)
      obtain ⟨f111, o112, b113⟩ := y_op20 hI
      replace h107 : (y_W0 f111 x1.toInt ∧ y_Ws (y_c f1 387).toInt f111 x1.toInt ∧ y_fw x1.toInt f98 f111) := by have q9 := h107; rw [y_atE o112, y_atE o96, y_atE o99] at q9; exact q9
      have hn114 := h107.1.2.2.2
      exact K69 _ _ _ ⟨F105, _, rfl, lv_sub hl [0, 1] rfl, hP, hS, hI, hfr, (fun k hk => (y_fiZ oY110 (s_sub (by decide) hk)).trans (hz0 k hk)), ⟨by omega, by omega⟩, (by rw [y_atE o112]; exact h107.1), (by rw [y_atE o112]; exact h107.2.1), (by rw [y_atE o112]; exact (y_fw_t h94 h107.2.2))⟩
  · intro g H locs hq
    obtain ⟨F119, ls, rfl, hl, hP, hS, hI, hfr, hz0, h115, h116, h117, h118⟩ := hq
    have o120 : F119 (A 13) = .inl (cs 0, 400, .inl f1) := (hfr _ (by rw [(y_k13 hA)]; decide)).trans o2
    have oY121 : F119 a0 = .inr (7, y_fl A z0 q0) := (hfr _ (by rw [ha0]; decide)).trans oY0
    have hz0 : ∀ k, k ∈ ([1, 2, 3, 4, 5, 6, 7, 8, 11, 15, 16, 19, 25, 26, 27, 31, 32] : List Nat) → z0 k = z0 k := fun _ _ => rfl
    obtain ⟨f122, o123, b124⟩ := y_op20 hI
    replace h116 : y_W0 f122 x1.toInt := by have q9 := h116; rw [y_atE o123] at q9; exact q9
    replace h117 : y_Ws (y_c f1 387).toInt f122 x1.toInt := by have q9 := h117; rw [y_atE o123] at q9; exact q9
    replace h118 : y_fw x1.toInt f4 f122 := by have q9 := h118; rw [y_atE o123] at q9; exact q9
    have hn125 := h116.2.2.2
    refine lv_aload_n hx hb dX7_goesByStack_69 rfl (lv_at hl 0 rfl) ?_
    refine lv_iload_n hx hb dX7_goesByStack_70 rfl (lv_at hl 1 rfl) ?_
    have rg126 : 0 ≤ x1.toInt ∧ x1.toInt ≤ 3 := ⟨by omega, by omega⟩
    refine va_callv (va_runV (As := [.int x1]) (rest := []) ⟨hx, hb, hml, hown, hts⟩ (y_X7_clears l dC dI H.size hLK A hA F119 a0 x1 ha0 rg126 hI (by rw [y_atE o123]; exact h116) (by rw [y_atE o120, y_atE o123]; exact h117)) (cwV 1 hts (ax_gV T_1163 T_1165 T_1166 T_265 T_1164) rfl rfl rfl (by decide +kernel) ⟨Nat.le_of_ble_eq_true rfl, Nat.le_of_ble_eq_true rfl⟩) ⟨fun a U g mk q => ⟨q.1, s_pc (U := U) rfl rfl q.2⟩, s_recv hK hP (hLK _ ha0 (by decide)) (ci := 7) rfl oY121, fun U hU hW => ⟨rfl, s_pw hU hW hP hK hD hN⟩⟩ rfl rfl hl.1 rfl (lv_room (Nat.le_of_ble_eq_true rfl)) dX7_goesByStack_71 ⟨Nat.zero_le _, Nat.zero_le _⟩) hS (fun q _ h => h) (fun q h => h) (fun F128 t H1 locs ht hvm hw hB hz1 hk1 hS => ?_)
    obtain ⟨hP, hK1⟩ := hB
    rw [ht] at hP
    generalize H1 = H at hP hS ⊢
    clear hz1 hk1 hvm hK1
    obtain ⟨h129, h131, hI, hfr1, hzf, h130⟩ := hw
    have o132 : F128 (A 13) = .inl (cs 0, 400, .inl f1) := (hfr1 _ (by rw [(y_k13 hA)]; decide)).trans o120
    have oY133 : F128 a0 = .inr (7, y_fl A z0 q0) := (hfr1 _ (by rw [ha0]; decide)).trans oY121
    have hfr : ∀ b, K b ∉ [70] → F128 b = F b := fun b hb9 => (hfr1 b (fun q => hb9 (s_sub (by decide) q))).trans (hfr b hb9)
    obtain ⟨f134, o135, b136⟩ := y_op20 hI
    replace h130 : (y_W0 f134 x1.toInt ∧ y_Ws (y_c f1 387).toInt f134 x1.toInt ∧ y_Wt (y_c f1 387).toInt f134 x1.toInt ∧ y_fw x1.toInt f122 f134) := by have q9 := h130; rw [y_atE o135, y_atE o120, y_atE o123] at q9; exact q9
    exact W.vret hx hb hr (fun t ht hW => ⟨⟨F128, rfl, ⟨trivial, trivial, hI, hfr, fun k hk => (y_fiZ oY133 (s_sub (by decide) hk)).trans ((hz0 k hk).trans (y_fiZ oY0 (s_sub (by decide) hk)).symm), (by rw [y_atE o135, y_atE o2, y_atE o5]; exact ⟨h130.1, h130.2.1, h130.2.2.1, y_fw_t h118 h130.2.2.2⟩)⟩, by rw [ht]; exact hP, va_K.moved hW.alike hK⟩, hS.F ht⟩) hS.2.2 dX7_goesByStack_74

set_option maxHeartbeats 4000000 in
set_option maxRecDepth 100000 in
theorem y_X7_goesFair (l : Launch) (dC : Nat → ClassId) (dI : Nat → Nat → Nat) (sz : Nat) {L : List Nat} {K : Nat → Nat} {cs : Nat → ClassId} (hLK : ∀ a {k : Nat}, K a = k → k ≠ 0 → a ∈ L) (A : Nat → Nat) (hA : y_A K A) (F : Nat → va_E) (a0 : Nat) (x1 : Int32) (x2 : Int32) (x3 : Int32) (ha0 : K a0 = 9) (hx1 : 0 ≤ x1.toInt ∧ x1.toInt ≤ 3) (hx2 : 0 ≤ x2.toInt ∧ x2.toInt ≤ 39) (hI : y_I K cs A F) (hPG : y_PG (y_at F (A 13))) (hln : (x2.toInt < (y_c (y_at F (A 13)) 387).toInt)) (hW0 : y_W0 (y_at F (A 20)) x1.toInt) (hWf : y_Wf (y_c (y_at F (A 13)) 387).toInt (y_at F (A 20)) x1.toInt) (hm1 : ((y_c (y_at F (A 20)) 3).toInt = 1)) (hl3 : (¬ x3 = 0 ∧ y_sub x3 (y_c (y_at F (A 20)) (107 + 6 * x1.toInt)))) : Met l yX7_goesFair (Cond.code yX7_goesFair cX7_goesFair 7 none :: T0) ({ frames := 4, cells := 0, slots := 0, locals := 90 }) (va_Pc [.ref a0, .int x1, .int x2, .int x3] (s_W dC dI sz L F [(cs 0, .int), (cs 1, .byte), (cs 2, .long), (cs 3, .object RX5), (cs 4, .object RX4), (cs 5, .array .int), (cs 6, .char), (cs 7, .boolean)])) (va_Qv (fun (G : Nat → va_E) => True ∧ True ∧ y_I K cs A G ∧ (∀ b, K b ∉ [70] → G b = F b) ∧ (∀ k, k ∈ ([1, 2, 3, 4, 5, 6, 7, 8, 11, 15, 16, 19, 25, 26, 27, 31, 32] : List Nat) → y_fi G a0 k = y_fi F a0 k) ∧ (y_W0 (y_at G (A 20)) x1.toInt ∧ y_Wf (y_c (y_at F (A 13)) 387).toInt (y_at G (A 20)) x1.toInt ∧ y_fw x1.toInt (y_at F (A 20)) (y_at G (A 20)))) (fun (G : Nat → va_E) (t : State) => va_P (dC, dI) vwCl (va_pl L G) t.heap ∧ va_K (dC, dI) vwCl [(cs 0, .int), (cs 1, .byte), (cs 2, .long), (cs 3, .object RX5), (cs 4, .object RX4), (cs 5, .array .int), (cs 6, .char), (cs 7, .boolean)] t) (fun q => q ∈ L)) 0 0 (fun q => q ∈ L) := by
  refine Met.ofW (cc := cX7_goesFair) (maxL := 7) (ret := none) (by decide) rfl ?_
  intro p e s m args below meth c s₁ B hml hv
  obtain ⟨rfl, hsz, hP, hK, hD, hN⟩ := hv
  have hx := B.exec
  have hb := B.bytes
  have hr := B.returns
  have hts : ∀ w ∈ T0, w.before _ s = true := fun w h => atoms_spec (ws := Cond.code yX7_goesFair cX7_goesFair 7 none :: T0) B.pre w (List.mem_cons_of_mem _ h)
  have hown : s.vm.findClass RX7 = some m.cls := findClass_of_methodNamed B.named
  have hlocks := B.notSynchronized
  have hS : va_S (fun q => q ∈ L) s.heap s.heap [] := va_S.rf
  have hfr : ∀ b, K b ∉ [70] → F b = F b := fun _ _ => rfl
  have hl := lv_entry ([.ref a0, .int x1, .int x2, .int x3]) (n := 7) (Nat.le_of_ble_eq_true rfl)
  rw [lg_entry_eq]
  generalize (lg_sl ([.ref a0, .int x1, .int x2, .int x3]) ++ List.replicate (7 - (lg_sl ([.ref a0, .int x1, .int x2, .int x3])).length) Slot.unset).toArray = ls at hl ⊢
  have hl : lv_has ls 7 [(0, .ref a0), (1, .int x1), (2, .int x2), (3, .int x3)] := hl
  refine s_gen hP hS (fun H locs hP hS => ?_)
  obtain ⟨z0, q0, oY0, bz0, bq0⟩ := y_opY hI ha0
  have hz0 : ∀ k, k ∈ ([1, 2, 3, 4, 5, 6, 7, 8, 11, 15, 16, 19, 25, 26, 27, 31, 32] : List Nat) → z0 k = z0 k := fun _ _ => rfl
  obtain ⟨f1, o2, b3⟩ := y_op13 hI
  obtain ⟨f4, o5, b6⟩ := y_op20 hI
  replace hPG : y_PG f1 := by have q9 := hPG; rw [y_atE o2] at q9; exact q9
  replace hln : (x2.toInt < (y_c f1 387).toInt) := by have q9 := hln; rw [y_atE o2] at q9; exact q9
  replace hW0 : y_W0 f4 x1.toInt := by have q9 := hW0; rw [y_atE o5] at q9; exact q9
  replace hWf : y_Wf (y_c f1 387).toInt f4 x1.toInt := by have q9 := hWf; rw [y_atE o2, y_atE o5] at q9; exact q9
  replace hm1 : ((y_c f4 3).toInt = 1) := by have q9 := hm1; rw [y_atE o5] at q9; exact q9
  replace hl3 : (¬ x3 = 0 ∧ y_sub x3 (y_c f4 (107 + 6 * x1.toInt))) := by have q9 := hl3; rw [y_atE o5] at q9; exact q9
  have hL := y_P0L hPG.1
  have hW := y_P0W hPG.1
  have hnw := hW0.2.2
  have hrg := hPG.1.1.1 x2.toInt (by omega) (by omega)
  unfold y_rg at hrg
  obtain ⟨i0, hi0, hbi⟩ := y_ex (y_8s hl3.2 hW0.1) hl3.1
  obtain ⟨ii, hii0, hii1, hii2⟩ := y_nat8 hi0
  rw [← hii2] at hbi
  refine th_join (fun g H locs => ∃ (G : Nat → va_E) (ls : Array Slot) (w7 : Int32) (w8 : Int32), g = F0 m 99 ls [] ∧ lv_has ls 7 [(0, .ref a0), (1, .int x1), (2, .int x2), (3, .int x3), (4, .int w7), (6, .int w8)] ∧ va_P (dC, dI) vwCl (va_pl L G) H ∧ va_S (fun q => q ∈ L) s.heap H locs ∧ y_I K cs A G ∧ (∀ b, K b ∉ [70] → G b = F b) ∧ (∀ k, k ∈ ([1, 2, 3, 4, 5, 6, 7, 8, 11, 15, 16, 19, 25, 26, 27, 31, 32] : List Nat) → y_fi G a0 k = z0 k) ∧ (0 ≤ w7.toInt ∧ w7.toInt ≤ 15) ∧ True ∧ (0 ≤ x1.toInt ∧ x1.toInt ≤ 3) ∧ (0 ≤ x2.toInt ∧ x2.toInt ≤ 39) ∧ y_W0 (y_at G (A 20)) x1.toInt ∧ y_Wf (y_c f1 387).toInt (y_at G (A 20)) x1.toInt ∧ y_fw x1.toInt f4 (y_at G (A 20)) ∧ (w7.toInt = (y_c f1 (8 * x2.toInt)).toInt)) (fun K99 => ?_) ?_
  · refine lv_aload_n hx hb dX7_goesFair_0 rfl (lv_at hl 0 rfl) ?_
    refine lv_iload_n hx hb dX7_goesFair_1 rfl (lv_at hl 2 rfl) ?_
    refine lv_iconst (v := 0) hx hb dX7_goesFair_2 (by decide) ?_
    have rg9 : 0 ≤ x2.toInt ∧ x2.toInt ≤ 40 := ⟨by omega, by omega⟩
    refine va_calli (va_runV (As := [.int x2, .int 0]) (rest := []) ⟨hx, hb, hml, hown, hts⟩ (y_X7_of l dC dI H.size hLK A hA F a0 x2 0 ha0 rg9 (by decide) hI) (cwV 2 hts (ax_gV T_1131 T_1133 T_1134 T_265 T_1132) rfl rfl rfl (by decide +kernel) ⟨Nat.le_of_ble_eq_true rfl, Nat.le_of_ble_eq_true rfl⟩) ⟨fun a U g mk q => ⟨q.1, s_pc (U := U) rfl rfl q.2⟩, s_recv hK hP (hLK _ ha0 (by decide)) (ci := 7) rfl oY0, fun U hU hW => ⟨rfl, s_pw hU hW hP hK hD hN⟩⟩ rfl rfl hl.1 rfl (lv_room (Nat.le_of_ble_eq_true rfl)) dX7_goesFair_3 ⟨Nat.zero_le _, Nat.zero_le _⟩) hS (fun q _ h => h) (fun q h => h) (fun r11 F12 t H1 locs ht hvm hw hB hz1 hk1 hS => ?_)
    obtain ⟨hP, hK1⟩ := hB
    rw [ht] at hP
    generalize H1 = H at hP hS ⊢
    clear hz1 hk1 hvm hK1
    obtain ⟨h13, h15, hI, hfr1, hzf, h14⟩ := hw
    have o16 : F12 (A 13) = .inl (cs 0, 400, .inl f1) := (hfr1 _ (by rw [(y_k13 hA)]; decide)).trans o2
    have o17 : F12 (A 20) = .inl (cs 0, 918, .inl f4) := (hfr1 _ (by rw [(y_k20 hA)]; decide)).trans o5
    have oY18 : F12 a0 = .inr (7, y_fl A z0 q0) := (hfr1 _ (by rw [ha0]; decide)).trans oY0
    have hfr : ∀ b, K b ∉ [70] → F12 b = F b := fun b hb9 => (hfr1 b (fun q => hb9 (s_sub (by decide) q))).trans (hfr b hb9)
    replace h14 : (r11 = y_c f1 (8 * x2.toInt + 0)) := by have q9 := h14; rw [y_atE o2] at q9; exact q9
    have h14 : r11 = y_c f1 (8 * x2.toInt) := h14.trans (congrArg (y_c f1) (by omega))
    have h19 := congrArg Int32.toInt h14
    have h20 : 0 ≤ r11.toInt ∧ r11.toInt ≤ 15 := by have q9 := congrArg Int32.toInt h14; exact ⟨by omega, by omega⟩
    refine lv_istore (lv' := [(4, .int r11), (0, .ref a0), (1, .int x1), (2, .int x2), (3, .int x3)]) hx hb dX7_goesFair_6 hl (by decide) rfl (fun ls hl => ?_)
    refine lv_aload_n hx hb dX7_goesFair_8 rfl (lv_at hl 1 rfl) ?_
    refine lv_iload_n hx hb dX7_goesFair_9 rfl (lv_at hl 2 rfl) ?_
    refine lv_iconst (v := 1) hx hb dX7_goesFair_10 (by decide) ?_
    have rg21 : 0 ≤ x1.toInt ∧ x1.toInt ≤ 3 := ⟨by omega, by omega⟩
    refine va_calli (va_runV (As := [.int x1, .int 1]) (rest := []) ⟨hx, hb, hml, hown, hts⟩ (y_X7_its l dC dI H.size hLK A hA F12 a0 x1 1 ha0 rg21 (by decide) hI) (cwV 2 hts (ax_gV T_1057 T_1059 T_1060 T_265 T_1058) rfl rfl rfl (by decide +kernel) ⟨Nat.le_of_ble_eq_true rfl, Nat.le_of_ble_eq_true rfl⟩) ⟨fun a U g mk q => ⟨q.1, s_pc (U := U) rfl rfl q.2⟩, s_recv hK hP (hLK _ ha0 (by decide)) (ci := 7) rfl oY18, fun U hU hW => ⟨rfl, s_pw hU hW hP hK hD hN⟩⟩ rfl rfl hl.1 rfl (lv_room (Nat.le_of_ble_eq_true rfl)) dX7_goesFair_11 ⟨Nat.zero_le _, Nat.zero_le _⟩) hS (fun q _ h => h) (fun q h => h) (fun r23 F24 t H1 locs ht hvm hw hB hz1 hk1 hS => ?_)
    obtain ⟨hP, hK1⟩ := hB
    rw [ht] at hP
    generalize H1 = H at hP hS ⊢
    clear hz1 hk1 hvm hK1
    obtain ⟨h25, h27, hI, hfr1, hzf, h26⟩ := hw
    have o28 : F24 (A 13) = .inl (cs 0, 400, .inl f1) := (hfr1 _ (by rw [(y_k13 hA)]; decide)).trans o16
    have o29 : F24 (A 20) = .inl (cs 0, 918, .inl f4) := (hfr1 _ (by rw [(y_k20 hA)]; decide)).trans o17
    have oY30 : F24 a0 = .inr (7, y_fl A z0 q0) := (hfr1 _ (by rw [ha0]; decide)).trans oY18
    have hfr : ∀ b, K b ∉ [70] → F24 b = F b := fun b hb9 => (hfr1 b (fun q => hb9 (s_sub (by decide) q))).trans (hfr b hb9)
    replace h26 : (r23 = y_c f4 (104 + 6 * x1.toInt + 1)) := by have q9 := h26; rw [y_atE o17] at q9; exact q9
    have h26 : r23 = y_c f4 (105 + 6 * x1.toInt) := h26.trans (congrArg (y_c f4) (by omega))
    have h31 := congrArg Int32.toInt h26
    have h32 : 0 ≤ r23.toInt ∧ r23.toInt ≤ 7 := by have q9 := congrArg Int32.toInt h26; omega
    refine lv_istore (lv' := [(5, .int r23), (4, .int r11), (0, .ref a0), (1, .int x1), (2, .int x2), (3, .int x3)]) hx hb dX7_goesFair_14 hl (by decide) rfl (fun ls hl => ?_)
    refine th_loop (fun n g H locs => ∃ (G : Nat → va_E) (ls : Array Slot) (w33 : Int32), g = F0 m 16 ls [] ∧ lv_has ls 7 [(0, .ref a0), (1, .int x1), (2, .int x2), (3, .int x3), (4, .int r11), (5, .int w33)] ∧ va_P (dC, dI) vwCl (va_pl L G) H ∧ va_S (fun q => q ∈ L) s.heap H locs ∧ y_I K cs A G ∧ (∀ b, K b ∉ [70] → G b = F b) ∧ (∀ k, k ∈ ([1, 2, 3, 4, 5, 6, 7, 8, 11, 15, 16, 19, 25, 26, 27, 31, 32] : List Nat) → y_fi G a0 k = z0 k) ∧ (0 ≤ w33.toInt ∧ w33.toInt ≤ 7) ∧ (0 ≤ x1.toInt ∧ x1.toInt ≤ 3) ∧ (0 ≤ x2.toInt ∧ x2.toInt ≤ 39) ∧ (0 ≤ r11.toInt ∧ r11.toInt ≤ 15) ∧ ((y_at G (A 20)) = f4) ∧ n = ((ii + 8 - w33.toInt) % 8).toNat) _ ⟨F24, _, r23, rfl, lv_sub hl [2, 3, 4, 5, 1, 0] rfl, hP, hS, hI, hfr, (fun k hk => (y_fiZ oY30 (s_sub (by decide) hk)).trans (hz0 k hk)), ⟨by omega, by omega⟩, ⟨by omega, by omega⟩, ⟨by omega, by omega⟩, ⟨by omega, by omega⟩, (by first | (rw [y_atE o29]; exact rfl) | rw [y_atE o29]), rfl⟩ (fun n ih16 g H locs hq => ?_)
    obtain ⟨F39, ls, w33, rfl, hl, hP, hS, hI, hfr, hz0, h34, h35, h36, h37, h38, hn⟩ := hq
    have o40 : F39 (A 13) = .inl (cs 0, 400, .inl f1) := (hfr _ (by rw [(y_k13 hA)]; decide)).trans o2
    have oY41 : F39 a0 = .inr (7, y_fl A z0 q0) := (hfr _ (by rw [ha0]; decide)).trans oY0
    have hz0 : ∀ k, k ∈ ([1, 2, 3, 4, 5, 6, 7, 8, 11, 15, 16, 19, 25, 26, 27, 31, 32] : List Nat) → z0 k = z0 k := fun _ _ => rfl
    obtain ⟨f42, o43, b44⟩ := y_op20 hI
    replace h38 : (f42 = f4) := by have q9 := h38; rw [y_atE o43] at q9; exact q9
    have hn_44 := hn
    refine lv_iload_n hx hb dX7_goesFair_16 rfl (lv_at hl 3 rfl) ?_
    refine lv_iload hx hb dX7_goesFair_17 (lv_at hl 5 rfl) ?_
    have rg45 : 0 ≤ w33.toInt ∧ w33.toInt ≤ 31 := ⟨by omega, by omega⟩
    refine va_calli (va_runS (As := [.int x3, .int w33]) (rest := []) ⟨hx, hb, hml, hown, hts⟩ (y_X7_isOf l dC dI H.size F39 x3 w33 rg45) (cwS 2 hts (ax_gS T_1027 T_1029 T_265 T_1028) rfl rfl rfl (by decide +kernel) ⟨Nat.le_of_ble_eq_true rfl, Nat.le_of_ble_eq_true rfl⟩) ⟨fun a U g mk q => ⟨q.1, s_pc (U := U) rfl rfl q.2⟩, fun U hU hW => ⟨rfl, s_pw hU hW hP hK hD hN⟩⟩ rfl rfl hl.1 rfl (lv_room (Nat.le_of_ble_eq_true rfl)) dX7_goesFair_19 ⟨Nat.zero_le _, Nat.zero_le _⟩) hS (fun q _ h => h) (fun q h => h) (fun r47 F48 t H1 locs ht hvm hw hB hz1 hk1 hS => ?_)
    obtain ⟨hP, hK1⟩ := hB
    rw [ht] at hP
    generalize H1 = H at hP hS ⊢
    clear hz1 hk1 hvm hK1
    obtain ⟨h49, h51, hG9, h50⟩ := hw
    rw [hG9] at hP
    replace h50 : ((r47.toInt = 1 ∧ bt x3 w33.toInt.toNat = true) ∨ (r47.toInt = 0 ∧ bt x3 w33.toInt.toNat = false)) := by have q9 := h50; exact q9
    refine lv_if_ne (tgt := 37) hx hb dX7_goesFair_22 (by decide) (fun c52 => ?_) (fun c52 => ?_)
    · have c52 := mt (ax_eq (n := 0) (by decide)).mpr c52
      refine lv_aload_n hx hb dX7_goesFair_37 rfl (lv_at hl 0 rfl) ?_
      refine th_get (D := (dC, dI)) (ci := 7) (v := .ref (A 20)) (C := RX7) (T := TX7) (N := 34) hx hb hts inX7 hown hK hP (hLK _ ha0 (by decide)) oY41 rfl 20 (by decide) (hts _ T_251) (fun _ h9 => h9) rfl dX7_goesFair_38 ?_
      refine lv_iload_n hx hb dX7_goesFair_41 rfl (lv_at hl 1 rfl) ?_
      refine lv_iconst (v := 1) hx hb dX7_goesFair_42 (by decide) ?_
      refine va_calli (va_runS (As := [.int x1, .int 1]) (rest := [.ref (A 20)]) ⟨hx, hb, hml, hown, hts⟩ (y_X7_warpAt l dC dI H.size F39 x1 1 rg21 (by decide)) (cwS 2 hts (ax_gS T_1021 T_1023 T_265 T_1022) rfl rfl rfl (by decide +kernel) ⟨Nat.le_of_ble_eq_true rfl, Nat.le_of_ble_eq_true rfl⟩) ⟨fun a U g mk q => ⟨q.1, s_pc (U := U) rfl rfl q.2⟩, fun U hU hW => ⟨rfl, s_pw hU hW hP hK hD hN⟩⟩ rfl rfl hl.1 rfl (lv_room (Nat.le_of_ble_eq_true rfl)) dX7_goesFair_43 ⟨Nat.zero_le _, Nat.zero_le _⟩) hS (fun q _ h => h) (fun q h => h) (fun r54 F55 t H1 locs ht hvm hw hB hz1 hk1 hS => ?_)
      obtain ⟨hP, hK1⟩ := hB
      rw [ht] at hP
      generalize H1 = H at hP hS ⊢
      clear hz1 hk1 hvm hK1
      obtain ⟨h56, h58, hG9, h57⟩ := hw
      rw [hG9] at hP
      replace h57 : (r54.toInt = 104 + 6 * x1.toInt + 1) := by have q9 := h57; exact q9
      refine lv_iload hx hb dX7_goesFair_46 (lv_at hl 5 rfl) ?_
      refine lv_iconst (v := 1) hx hb dX7_goesFair_48 (by decide) ?_
      refine lv_iadd hx hb dX7_goesFair_49 ?_
      refine lv_topi (fun v59 ev59 => ?_)
      have qv59 : v59.toInt = w33.toInt + 1 := by rw [ev59]; exact th_add rfl (by decide) ⟨by omega, by omega⟩
      refine lv_bipush (v := 8) hx hb dX7_goesFair_50 (by decide) ?_
      refine lv_irem hx hb dX7_goesFair_52 (by decide) ?_
      refine lv_topi (fun v60 ev60 => ?_)
      have qv60 : v60.toInt = v59.toInt % 8 := by rw [ev60]; exact th_rem rfl (by decide) (by omega) (by decide)
      refine th_iast hx hb hK hP hD hS (hLK _ (y_k20 hA) (by decide)) 0 o43 rfl (th_in ⟨by omega, by omega⟩) dX7_goesFair_53 (fun H locs hP hS => ?_)
      obtain ⟨f61, u62⟩ : ∃ g : Nat → Int32, g = upd f42 (r54 : Int32).toNatClampNeg v60 := ⟨_, rfl⟩
      rw [← u62] at hP
      have b63 : y_bd 20 f61 := trivial
      have hP : va_P (dC, dI) vwCl (va_pl L (va_up F39 (A 20) (.inl (cs 0, 918, .inl f61)))) H := hP
      obtain ⟨F64, hF65⟩ : ∃ G : Nat → va_E, G = va_up F39 (A 20) (.inl (cs 0, 918, .inl f61)) := ⟨_, rfl⟩
      rw [← hF65] at hP
      have hI : y_I K cs A F64 := by rw [hF65]; exact y_clA (i := 20) hA hI (by decide) b63
      have hfr : ∀ b, K b ∉ [70] → F64 b = F b := by rw [hF65]; exact s_fr hfr (y_k20 hA) (by decide)
      have o66 : F64 (A 13) = .inl (cs 0, 400, .inl f1) := by rw [hF65]; exact th_ne (th_kd (y_k13 hA) (y_k20 hA) (by decide)) o40
      have oY67 : F64 a0 = .inr (7, y_fl A z0 q0) := by rw [hF65]; exact th_ne (th_kd ha0 (y_k20 hA) (by decide)) oY41
      have o68 : F64 (A 20) = .inl (cs 0, 918, .inl f61) := by rw [hF65]; exact th_up
      have u69 : ∀ j : Int, 0 ≤ j → y_c f61 j = if j = r54.toInt then v60 else y_c f42 j := by rw [u62]; exact y_cu rfl (by omega)
      rw [h38] at u69
      obtain ⟨k70a, k70b, k70c⟩ := y_turn (L := (y_c f1 387).toInt) ⟨by omega, by omega⟩ u69 (by omega) ⟨by omega, by omega⟩ hW0 hWf
      refine lv_iload hx hb dX7_goesFair_54 (lv_at hl 4 rfl) ?_
      refine lv_bipush (v := 13) hx hb dX7_goesFair_56 (by decide) ?_
      refine lv_icmp_ne (tgt := 62) hx hb dX7_goesFair_58 (by decide) (fun c71 => ?_) (fun c71 => ?_)
      · have c71 := mt (ax_eq (n := 13) (by decide)).mpr c71
        refine lv_iload hx hb dX7_goesFair_62 (lv_at hl 4 rfl) ?_
        refine lv_bipush (v := 12) hx hb dX7_goesFair_64 (by decide) ?_
        refine lv_icmp_ne (tgt := 78) hx hb dX7_goesFair_66 (by decide) (fun c72 => ?_) (fun c72 => ?_)
        · have c72 := mt (ax_eq (n := 12) (by decide)).mpr c72
          refine lv_iconst (v := 0) hx hb dX7_goesFair_78 (by decide) ?_
          refine lv_istore (lv' := [(6, .int 0), (0, .ref a0), (1, .int x1), (2, .int x2), (3, .int x3), (4, .int r11), (5, .int w33)]) hx hb dX7_goesFair_79 hl (by decide) rfl (fun ls hl => ?_)
          refine lv_iload hx hb dX7_goesFair_81 (lv_at hl 0 rfl) ?_
          refine lv_if_eq (tgt := 99) hx hb dX7_goesFair_83 (by decide) (fun _ => ?_) (fun c => absurd (by decide) c)
          have h74 : (0 : Int32).toInt = 0 := by decide
          exact K99 _ _ _ ⟨F64, _, r11, 0, rfl, lv_sub hl [1, 2, 3, 4, 5, 0] rfl, hP, hS, hI, hfr, (fun k hk => (y_fiZ oY67 (s_sub (by decide) hk)).trans (hz0 k hk)), ⟨by omega, by omega⟩, trivial, ⟨by omega, by omega⟩, ⟨by omega, by omega⟩, (by rw [y_atE o68]; exact k70a), (by rw [y_atE o68]; exact k70b), (by rw [y_atE o68]; exact k70c), (by omega)⟩
        · have c72 := (ax_eq (n := 12) (by decide)).mp c72
          refine lv_aload_n hx hb dX7_goesFair_69 rfl (lv_at hl 0 rfl) ?_
          refine lv_iload_n hx hb dX7_goesFair_70 rfl (lv_at hl 2 rfl) ?_
          refine lv_iload_n hx hb dX7_goesFair_71 rfl (lv_at hl 3 rfl) ?_
          have rg75 : 0 ≤ x2.toInt ∧ x2.toInt ≤ 39 := ⟨by omega, by omega⟩
          refine va_calli (va_runV (As := [.int x2, .int x3]) (rest := []) ⟨hx, hb, hml, hown, hts⟩ (y_X7_holding l dC dI H.size hLK A hA F64 a0 x2 x3 ha0 rg75 hI (by rw [y_atE o66]; exact hPG) (by first | (rw [y_atE o66]; omega) | rw [y_atE o66])) (cwV 2 hts (ax_gV T_1167 T_1169 T_1170 T_265 T_1168) rfl rfl rfl (by decide +kernel) ⟨Nat.le_of_ble_eq_true rfl, Nat.le_of_ble_eq_true rfl⟩) ⟨fun a U g mk q => ⟨q.1, s_pc (U := U) rfl rfl q.2⟩, s_recv hK hP (hLK _ ha0 (by decide)) (ci := 7) rfl oY67, fun U hU hW => ⟨rfl, s_pw hU hW hP hK hD hN⟩⟩ rfl rfl hl.1 rfl (lv_room (Nat.le_of_ble_eq_true rfl)) dX7_goesFair_72 ⟨Nat.zero_le _, Nat.zero_le _⟩) hS (fun q _ h => h) (fun q h => h) (fun r77 F78 t H1 locs ht hvm hw hB hz1 hk1 hS => ?_)
          obtain ⟨hP, hK1⟩ := hB
          rw [ht] at hP
          generalize H1 = H at hP hS ⊢
          clear hz1 hk1 hvm hK1
          obtain ⟨h79, h81, hI, hfr1, hzf, h80⟩ := hw
          have o82 : F78 (A 13) = .inl (cs 0, 400, .inl f1) := (hfr1 _ (by rw [(y_k13 hA)]; decide)).trans o66
          have o83 : F78 (A 20) = .inl (cs 0, 918, .inl f61) := (hfr1 _ (by rw [(y_k20 hA)]; decide)).trans o68
          have oY84 : F78 a0 = .inr (7, y_fl A z0 q0) := (hfr1 _ (by rw [ha0]; decide)).trans oY67
          have hfr : ∀ b, K b ∉ [70] → F78 b = F b := fun b hb9 => (hfr1 b (fun q => hb9 (s_sub (by decide) q))).trans (hfr b hb9)
          replace h80 : (y_sub r77 x3 ∧ (r77 = x3 ∨ ((y_c f1 (8 * x2.toInt)).toInt = 12 ∧ ¬ (y_c f1 (8 * x2.toInt + 5)).toInt = -1000000))) := by have q9 := h80; rw [y_atE o66] at q9; exact q9
          refine lv_goto (tgt := 79) hx hb dX7_goesFair_75 (by decide) ?_
          refine lv_istore (lv' := [(6, .int r77), (0, .ref a0), (1, .int x1), (2, .int x2), (3, .int x3), (4, .int r11), (5, .int w33)]) hx hb dX7_goesFair_79 hl (by decide) rfl (fun ls hl => ?_)
          refine lv_iload hx hb dX7_goesFair_81 (lv_at hl 0 rfl) ?_
          refine lv_if_eq (tgt := 99) hx hb dX7_goesFair_83 (by decide) (fun c85 => ?_) (fun c85 => ?_)
          · have c85 := (ax_eq (n := 0) (by decide)).mp c85
            exact K99 _ _ _ ⟨F78, _, r11, r77, rfl, lv_sub hl [1, 2, 3, 4, 5, 0] rfl, hP, hS, hI, hfr, (fun k hk => (y_fiZ oY84 (s_sub (by decide) hk)).trans (hz0 k hk)), ⟨by omega, by omega⟩, trivial, ⟨by omega, by omega⟩, ⟨by omega, by omega⟩, (by rw [y_atE o83]; exact k70a), (by rw [y_atE o83]; exact k70b), (by rw [y_atE o83]; exact k70c), (by omega)⟩
          · have c85 := mt (ax_eq (n := 0) (by decide)).mpr c85
            refine lv_aload_n hx hb dX7_goesFair_86 rfl (lv_at hl 1 rfl) ?_
            refine lv_iload_n hx hb dX7_goesFair_87 rfl (lv_at hl 2 rfl) ?_
            refine lv_iload hx hb dX7_goesFair_88 (lv_at hl 0 rfl) ?_
            refine lv_aload_n hx hb dX7_goesFair_90 rfl (lv_at hl 1 rfl) ?_
            refine lv_iload_n hx hb dX7_goesFair_91 rfl (lv_at hl 3 rfl) ?_
            refine lv_iconst (v := 4) hx hb dX7_goesFair_92 (by decide) ?_
            refine va_calli (va_runV (As := [.int x2, .int 4]) (rest := [.int r77, .int x1, .ref a0]) ⟨hx, hb, hml, hown, hts⟩ (y_X7_of l dC dI H.size hLK A hA F78 a0 x2 4 ha0 rg9 (by decide) hI) (cwV 2 hts (ax_gV T_1131 T_1133 T_1134 T_265 T_1132) rfl rfl rfl (by decide +kernel) ⟨Nat.le_of_ble_eq_true rfl, Nat.le_of_ble_eq_true rfl⟩) ⟨fun a U g mk q => ⟨q.1, s_pc (U := U) rfl rfl q.2⟩, s_recv hK hP (hLK _ ha0 (by decide)) (ci := 7) rfl oY84, fun U hU hW => ⟨rfl, s_pw hU hW hP hK hD hN⟩⟩ rfl rfl hl.1 rfl (lv_room (Nat.le_of_ble_eq_true rfl)) dX7_goesFair_93 ⟨Nat.zero_le _, Nat.zero_le _⟩) hS (fun q _ h => h) (fun q h => h) (fun r87 F88 t H1 locs ht hvm hw hB hz1 hk1 hS => ?_)
            obtain ⟨hP, hK1⟩ := hB
            rw [ht] at hP
            generalize H1 = H at hP hS ⊢
            clear hz1 hk1 hvm hK1
            obtain ⟨h89, h91, hI, hfr1, hzf, h90⟩ := hw
            have o92 : F88 (A 13) = .inl (cs 0, 400, .inl f1) := (hfr1 _ (by rw [(y_k13 hA)]; decide)).trans o82
            have o93 : F88 (A 20) = .inl (cs 0, 918, .inl f61) := (hfr1 _ (by rw [(y_k20 hA)]; decide)).trans o83
            have oY94 : F88 a0 = .inr (7, y_fl A z0 q0) := (hfr1 _ (by rw [ha0]; decide)).trans oY84
            have hfr : ∀ b, K b ∉ [70] → F88 b = F b := fun b hb9 => (hfr1 b (fun q => hb9 (s_sub (by decide) q))).trans (hfr b hb9)
            replace h90 : (r87 = y_c f1 (8 * x2.toInt + 4)) := by have q9 := h90; rw [y_atE o82] at q9; exact q9
            have h90 : r87 = y_c f1 (8 * x2.toInt + 4) := h90.trans (congrArg (y_c f1) (by omega))
            have h95 := congrArg Int32.toInt h90
            refine va_callv (va_runV (As := [.int x1, .int r77, .int r87]) (rest := []) ⟨hx, hb, hml, hown, hts⟩ (y_X7_nexts l dC dI H.size hLK A hA F88 a0 x1 r77 r87 ha0 rg21 hI (by rw [y_atE o92]; exact hPG.1) (by rw [y_atE o93]; exact k70a) (by rw [y_atE o92, y_atE o93]; exact k70b) (by rw [y_atE o93]; exact (congrArg Int32.toInt (y_fw3 (by omega) k70c)).trans hm1) (by rw [y_atE o92]; have q9 := congrArg Int32.toInt h90; have q8 := y_PGt hPG (i := x2.toInt) (by omega) (by omega) (by omega); exact ⟨by omega, by omega⟩)) (cwV 3 hts (ax_gV T_1171 T_1173 T_1174 T_265 T_1172) rfl rfl rfl (by decide +kernel) ⟨Nat.le_of_ble_eq_true rfl, Nat.le_of_ble_eq_true rfl⟩) ⟨fun a U g mk q => ⟨q.1, s_pc (U := U) rfl rfl q.2⟩, s_recv hK hP (hLK _ ha0 (by decide)) (ci := 7) rfl oY94, fun U hU hW => ⟨rfl, s_pw hU hW hP hK hD hN⟩⟩ rfl rfl hl.1 rfl (lv_room (Nat.le_of_ble_eq_true rfl)) dX7_goesFair_96 ⟨Nat.zero_le _, Nat.zero_le _⟩) hS (fun q _ h => h) (fun q h => h) (fun F97 t H1 locs ht hvm hw hB hz1 hk1 hS => ?_)
            obtain ⟨hP, hK1⟩ := hB
            rw [ht] at hP
            generalize H1 = H at hP hS ⊢
            clear hz1 hk1 hvm hK1
            obtain ⟨h98, h100, hI, hfr1, hzf, h99⟩ := hw
            have o101 : F97 (A 13) = .inl (cs 0, 400, .inl f1) := (hfr1 _ (by rw [(y_k13 hA)]; decide)).trans o92
            have oY102 : F97 a0 = .inr (7, y_fl A z0 q0) := (hfr1 _ (by rw [ha0]; decide)).trans oY94
            have hfr : ∀ b, K b ∉ [70] → F97 b = F b := fun b hb9 => (hfr1 b (fun q => hb9 (s_sub (by decide) q))).trans (hfr b hb9)
            obtain ⟨f103, o104, b105⟩ := y_op20 hI
            replace h99 : (y_W0 f103 x1.toInt ∧ y_Wf (y_c f1 387).toInt f103 x1.toInt ∧ y_fw x1.toInt f61 f103 ∧ ∀ i, bt r77 i = false → bt (y_c f103 (107 + 6 * x1.toInt)) i = bt (y_c f61 (107 + 6 * x1.toInt)) i) := by have q9 := h99; rw [y_atE o104, y_atE o92, y_atE o93] at q9; exact q9
            exact K99 _ _ _ ⟨F97, _, r11, r77, rfl, lv_sub hl [1, 2, 3, 4, 5, 0] rfl, hP, hS, hI, hfr, (fun k hk => (y_fiZ oY102 (s_sub (by decide) hk)).trans (hz0 k hk)), ⟨by omega, by omega⟩, trivial, ⟨by omega, by omega⟩, ⟨by omega, by omega⟩, (by rw [y_atE o104]; exact h99.1), (by rw [y_atE o104]; exact h99.2.1), (by rw [y_atE o104]; exact (y_fw_t k70c h99.2.2.1)), (by omega)⟩
      · have c71 := (ax_eq (n := 13) (by decide)).mp c71
        exact W.vret hx hb hr (fun t ht hW => ⟨⟨F64, rfl, ⟨trivial, trivial, hI, hfr, fun k hk => (y_fiZ oY67 (s_sub (by decide) hk)).trans ((hz0 k hk).trans (y_fiZ oY0 (s_sub (by decide) hk)).symm), (by rw [y_atE o68, y_atE o2, y_atE o5]; exact ⟨k70a, k70b, k70c⟩)⟩, by rw [ht]; exact hP, va_K.moved hW.alike hK⟩, hS.F ht⟩) hS.2.2 dX7_goesFair_61
    · have c52 := (ax_eq (n := 0) (by decide)).mp c52
      have hne9 : ¬ w33.toInt = ii := fun q => by have q8 := y_bF h50 c52; rw [q, hbi] at q8; cases q8
      refine lv_iload hx hb dX7_goesFair_25 (lv_at hl 5 rfl) ?_
      refine lv_iconst (v := 1) hx hb dX7_goesFair_27 (by decide) ?_
      refine lv_iadd hx hb dX7_goesFair_28 ?_
      refine lv_topi (fun v106 ev106 => ?_)
      have qv106 : v106.toInt = w33.toInt + 1 := by rw [ev106]; exact th_add rfl (by decide) ⟨by omega, by omega⟩
      refine lv_bipush (v := 8) hx hb dX7_goesFair_29 (by decide) ?_
      refine lv_irem hx hb dX7_goesFair_31 (by decide) ?_
      refine lv_topi (fun v107 ev107 => ?_)
      have qv107 : v107.toInt = v106.toInt % 8 := by rw [ev107]; exact th_rem rfl (by decide) (by omega) (by decide)
      refine lv_istore (lv' := [(5, .int v107), (0, .ref a0), (1, .int x1), (2, .int x2), (3, .int x3), (4, .int r11)]) hx hb dX7_goesFair_32 hl (by decide) rfl (fun ls hl => ?_)
      have h108 : 0 ≤ v107.toInt ∧ v107.toInt ≤ 7 := ⟨by omega, by omega⟩
      refine lv_goto (tgt := 16) hx hb dX7_goesFair_34 (by decide) ?_
      exact ih16 _ _ _ _ (by omega) ⟨F39, _, v107, rfl, lv_sub hl [1, 2, 3, 4, 5, 0] rfl, hP, hS, hI, hfr, (fun k hk => (y_fiZ oY41 (s_sub (by decide) hk)).trans (hz0 k hk)), ⟨by omega, by omega⟩, ⟨by omega, by omega⟩, ⟨by omega, by omega⟩, ⟨by omega, by omega⟩, (by rw [y_atE o43]; exact h38), rfl⟩
  · intro g H locs hq
    obtain ⟨F117, ls, w7, w8, rfl, hl, hP, hS, hI, hfr, hz0, h109, h110, h111, h112, h113, h114, h115, h116⟩ := hq
    have o118 : F117 (A 13) = .inl (cs 0, 400, .inl f1) := (hfr _ (by rw [(y_k13 hA)]; decide)).trans o2
    have oY119 : F117 a0 = .inr (7, y_fl A z0 q0) := (hfr _ (by rw [ha0]; decide)).trans oY0
    have hz0 : ∀ k, k ∈ ([1, 2, 3, 4, 5, 6, 7, 8, 11, 15, 16, 19, 25, 26, 27, 31, 32] : List Nat) → z0 k = z0 k := fun _ _ => rfl
    obtain ⟨f120, o121, b122⟩ := y_op20 hI
    replace h113 : y_W0 f120 x1.toInt := by have q9 := h113; rw [y_atE o121] at q9; exact q9
    replace h114 : y_Wf (y_c f1 387).toInt f120 x1.toInt := by have q9 := h114; rw [y_atE o121] at q9; exact q9
    replace h115 : y_fw x1.toInt f4 f120 := by have q9 := h115; rw [y_atE o121] at q9; exact q9
    refine lv_iload_n hx hb dX7_goesFair_99 rfl (lv_at hl 3 rfl) ?_
    refine lv_iload hx hb dX7_goesFair_100 (lv_at hl 5 rfl) ?_
    refine lv_iconst (v := (-1)) hx hb dX7_goesFair_102 (by decide) ?_
    refine lv_ixor hx hb dX7_goesFair_103 ?_
    refine lv_topi (fun v123 ev123 => ?_)
    refine lv_iand hx hb dX7_goesFair_104 ?_
    refine lv_topi (fun v124 ev124 => ?_)
    refine lv_if_eq (tgt := 136) hx hb dX7_goesFair_105 (by decide) (fun c125 => ?_) (fun c125 => ?_)
    · have c125 := (ax_eq (n := 0) (by decide)).mp c125
      exact W.vret hx hb hr (fun t ht hW => ⟨⟨F117, rfl, ⟨trivial, trivial, hI, hfr, fun k hk => (y_fiZ oY119 (s_sub (by decide) hk)).trans ((hz0 k hk).trans (y_fiZ oY0 (s_sub (by decide) hk)).symm), (by rw [y_atE o121, y_atE o2, y_atE o5]; exact ⟨h113, h114, h115⟩)⟩, by rw [ht]; exact hP, va_K.moved hW.alike hK⟩, hS.F ht⟩) hS.2.2 dX7_goesFair_136
    · have c125 := mt (ax_eq (n := 0) (by decide)).mpr c125
      refine lv_aload_n hx hb dX7_goesFair_108 rfl (lv_at hl 0 rfl) ?_
      refine lv_iload_n hx hb dX7_goesFair_109 rfl (lv_at hl 1 rfl) ?_
      refine lv_iload_n hx hb dX7_goesFair_110 rfl (lv_at hl 3 rfl) ?_
      refine lv_iload hx hb dX7_goesFair_111 (lv_at hl 5 rfl) ?_
      refine lv_iconst (v := (-1)) hx hb dX7_goesFair_113 (by decide) ?_
      refine lv_ixor hx hb dX7_goesFair_114 ?_
      refine lv_topi (fun v126 ev126 => ?_)
      refine lv_iand hx hb dX7_goesFair_115 ?_
      refine lv_topi (fun v127 ev127 => ?_)
      refine lv_iload hx hb dX7_goesFair_116 (lv_at hl 4 rfl) ?_
      refine lv_bipush (v := 15) hx hb dX7_goesFair_118 (by decide) ?_
      refine lv_icmp_ne (tgt := 130) hx hb dX7_goesFair_120 (by decide) (fun c128 => ?_) (fun c128 => ?_)
      · have c128 := mt (ax_eq (n := 15) (by decide)).mpr c128
        refine lv_iload_n hx hb dX7_goesFair_130 rfl (lv_at hl 2 rfl) ?_
        refine lv_iconst (v := 1) hx hb dX7_goesFair_131 (by decide) ?_
        refine lv_iadd hx hb dX7_goesFair_132 ?_
        refine lv_topi (fun v129 ev129 => ?_)
        have qv129 : v129.toInt = x2.toInt + 1 := by rw [ev129]; exact th_add rfl (by decide) ⟨by omega, by omega⟩
        have rg130 : 0 ≤ x1.toInt ∧ x1.toInt ≤ 3 := ⟨by omega, by omega⟩
        refine va_callv (va_runV (As := [.int x1, .int v127, .int v129]) (rest := []) ⟨hx, hb, hml, hown, hts⟩ (y_X7_nexts l dC dI H.size hLK A hA F117 a0 x1 v127 v129 ha0 rg130 hI (by rw [y_atE o118]; exact hPG.1) (by rw [y_atE o121]; exact h113) (by rw [y_atE o118, y_atE o121]; exact h114) (by rw [y_atE o121]; exact (congrArg Int32.toInt (y_fw3 (by omega) h115)).trans hm1) (by rw [y_atE o118]; exact ⟨by omega, by omega⟩)) (cwV 3 hts (ax_gV T_1171 T_1173 T_1174 T_265 T_1172) rfl rfl rfl (by decide +kernel) ⟨Nat.le_of_ble_eq_true rfl, Nat.le_of_ble_eq_true rfl⟩) ⟨fun a U g mk q => ⟨q.1, s_pc (U := U) rfl rfl q.2⟩, s_recv hK hP (hLK _ ha0 (by decide)) (ci := 7) rfl oY119, fun U hU hW => ⟨rfl, s_pw hU hW hP hK hD hN⟩⟩ rfl rfl hl.1 rfl (lv_room (Nat.le_of_ble_eq_true rfl)) dX7_goesFair_133 ⟨Nat.zero_le _, Nat.zero_le _⟩) hS (fun q _ h => h) (fun q h => h) (fun F132 t H1 locs ht hvm hw hB hz1 hk1 hS => ?_)
        obtain ⟨hP, hK1⟩ := hB
        rw [ht] at hP
        generalize H1 = H at hP hS ⊢
        clear hz1 hk1 hvm hK1
        obtain ⟨h133, h135, hI, hfr1, hzf, h134⟩ := hw
        have o136 : F132 (A 13) = .inl (cs 0, 400, .inl f1) := (hfr1 _ (by rw [(y_k13 hA)]; decide)).trans o118
        have oY137 : F132 a0 = .inr (7, y_fl A z0 q0) := (hfr1 _ (by rw [ha0]; decide)).trans oY119
        have hfr : ∀ b, K b ∉ [70] → F132 b = F b := fun b hb9 => (hfr1 b (fun q => hb9 (s_sub (by decide) q))).trans (hfr b hb9)
        obtain ⟨f138, o139, b140⟩ := y_op20 hI
        replace h134 : (y_W0 f138 x1.toInt ∧ y_Wf (y_c f1 387).toInt f138 x1.toInt ∧ y_fw x1.toInt f120 f138 ∧ ∀ i, bt v127 i = false → bt (y_c f138 (107 + 6 * x1.toInt)) i = bt (y_c f120 (107 + 6 * x1.toInt)) i) := by have q9 := h134; rw [y_atE o139, y_atE o118, y_atE o121] at q9; exact q9
        exact W.vret hx hb hr (fun t ht hW => ⟨⟨F132, rfl, ⟨trivial, trivial, hI, hfr, fun k hk => (y_fiZ oY137 (s_sub (by decide) hk)).trans ((hz0 k hk).trans (y_fiZ oY0 (s_sub (by decide) hk)).symm), (by rw [y_atE o139, y_atE o2, y_atE o5]; exact ⟨h134.1, h134.2.1, (y_fw_t h115 h134.2.2.1)⟩)⟩, by rw [ht]; exact hP, va_K.moved hW.alike hK⟩, hS.F ht⟩) hS.2.2 dX7_goesFair_136
      · have c128 := (ax_eq (n := 15) (by decide)).mp c128
        refine lv_aload_n hx hb dX7_goesFair_123 rfl (lv_at hl 0 rfl) ?_
        refine va_calli (va_runV (As := []) (rest := [.int v127, .int x1, .ref a0]) ⟨hx, hb, hml, hown, hts⟩ (y_X7_lines l dC dI H.size hLK A hA F117 a0 ha0 hI) (cwV 0 hts (ax_gV T_1030 T_1032 T_1033 T_265 T_1031) rfl rfl rfl (by decide +kernel) ⟨Nat.le_of_ble_eq_true rfl, Nat.le_of_ble_eq_true rfl⟩) ⟨fun a U g mk q => ⟨q.1, s_pc (U := U) rfl rfl q.2⟩, s_recv hK hP (hLK _ ha0 (by decide)) (ci := 7) rfl oY119, fun U hU hW => ⟨rfl, s_pw hU hW hP hK hD hN⟩⟩ rfl rfl hl.1 rfl (lv_room (Nat.le_of_ble_eq_true rfl)) dX7_goesFair_124 ⟨Nat.zero_le _, Nat.zero_le _⟩) hS (fun q _ h => h) (fun q h => h) (fun r142 F143 t H1 locs ht hvm hw hB hz1 hk1 hS => ?_)
        obtain ⟨hP, hK1⟩ := hB
        rw [ht] at hP
        generalize H1 = H at hP hS ⊢
        clear hz1 hk1 hvm hK1
        obtain ⟨h144, h146, hI, hfr1, hzf, h145⟩ := hw
        have o147 : F143 (A 13) = .inl (cs 0, 400, .inl f1) := (hfr1 _ (by rw [(y_k13 hA)]; decide)).trans o118
        have o148 : F143 (A 20) = .inl (cs 0, 918, .inl f120) := (hfr1 _ (by rw [(y_k20 hA)]; decide)).trans o121
        have oY149 : F143 a0 = .inr (7, y_fl A z0 q0) := (hfr1 _ (by rw [ha0]; decide)).trans oY119
        have hfr : ∀ b, K b ∉ [70] → F143 b = F b := fun b hb9 => (hfr1 b (fun q => hb9 (s_sub (by decide) q))).trans (hfr b hb9)
        replace h145 : (r142 = y_c f1 387) := by have q9 := h145; rw [y_atE o118] at q9; exact q9
        have h150 := congrArg Int32.toInt h145
        have h151 : 1 ≤ r142.toInt ∧ r142.toInt ≤ 40 := ⟨by omega, by omega⟩
        refine lv_goto (tgt := 133) hx hb dX7_goesFair_127 (by decide) ?_
        have rg152 : 0 ≤ x1.toInt ∧ x1.toInt ≤ 3 := ⟨by omega, by omega⟩
        refine va_callv (va_runV (As := [.int x1, .int v127, .int r142]) (rest := []) ⟨hx, hb, hml, hown, hts⟩ (y_X7_nexts l dC dI H.size hLK A hA F143 a0 x1 v127 r142 ha0 rg152 hI (by rw [y_atE o147]; exact hPG.1) (by rw [y_atE o148]; exact h113) (by rw [y_atE o147, y_atE o148]; exact h114) (by rw [y_atE o148]; exact (congrArg Int32.toInt (y_fw3 (by omega) h115)).trans hm1) (by rw [y_atE o147]; exact ⟨by omega, by omega⟩)) (cwV 3 hts (ax_gV T_1171 T_1173 T_1174 T_265 T_1172) rfl rfl rfl (by decide +kernel) ⟨Nat.le_of_ble_eq_true rfl, Nat.le_of_ble_eq_true rfl⟩) ⟨fun a U g mk q => ⟨q.1, s_pc (U := U) rfl rfl q.2⟩, s_recv hK hP (hLK _ ha0 (by decide)) (ci := 7) rfl oY149, fun U hU hW => ⟨rfl, s_pw hU hW hP hK hD hN⟩⟩ rfl rfl hl.1 rfl (lv_room (Nat.le_of_ble_eq_true rfl)) dX7_goesFair_133 ⟨Nat.zero_le _, Nat.zero_le _⟩) hS (fun q _ h => h) (fun q h => h) (fun F154 t H1 locs ht hvm hw hB hz1 hk1 hS => ?_)
        obtain ⟨hP, hK1⟩ := hB
        rw [ht] at hP
        generalize H1 = H at hP hS ⊢
        clear hz1 hk1 hvm hK1
        obtain ⟨h155, h157, hI, hfr1, hzf, h156⟩ := hw
        have o158 : F154 (A 13) = .inl (cs 0, 400, .inl f1) := (hfr1 _ (by rw [(y_k13 hA)]; decide)).trans o147
        have oY159 : F154 a0 = .inr (7, y_fl A z0 q0) := (hfr1 _ (by rw [ha0]; decide)).trans oY149
        have hfr : ∀ b, K b ∉ [70] → F154 b = F b := fun b hb9 => (hfr1 b (fun q => hb9 (s_sub (by decide) q))).trans (hfr b hb9)
        obtain ⟨f160, o161, b162⟩ := y_op20 hI
        replace h156 : (y_W0 f160 x1.toInt ∧ y_Wf (y_c f1 387).toInt f160 x1.toInt ∧ y_fw x1.toInt f120 f160 ∧ ∀ i, bt v127 i = false → bt (y_c f160 (107 + 6 * x1.toInt)) i = bt (y_c f120 (107 + 6 * x1.toInt)) i) := by have q9 := h156; rw [y_atE o161, y_atE o147, y_atE o148] at q9; exact q9
        exact W.vret hx hb hr (fun t ht hW => ⟨⟨F154, rfl, ⟨trivial, trivial, hI, hfr, fun k hk => (y_fiZ oY159 (s_sub (by decide) hk)).trans ((hz0 k hk).trans (y_fiZ oY0 (s_sub (by decide) hk)).symm), (by rw [y_atE o161, y_atE o2, y_atE o5]; exact ⟨h156.1, h156.2.1, (y_fw_t h115 h156.2.2.1)⟩)⟩, by rw [ht]; exact hP, va_K.moved hW.alike hK⟩, hS.F ht⟩) hS.2.2 dX7_goesFair_136
