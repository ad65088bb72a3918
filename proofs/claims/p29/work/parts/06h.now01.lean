set_option maxHeartbeats 4000000 in
set_option maxRecDepth 100000 in
theorem y_X7_clears (l : Launch) (dC : Nat → ClassId) (dI : Nat → Nat → Nat) (sz : Nat) {L : List Nat} {K : Nat → Nat} {cs : Nat → ClassId} (hLK : ∀ a {k : Nat}, K a = k → k ≠ 0 → a ∈ L) (A : Nat → Nat) (hA : y_A K A) (F : Nat → va_E) (a0 : Nat) (x1 : Int32) (ha0 : K a0 = 9) (hx1 : 0 ≤ x1.toInt ∧ x1.toInt ≤ 3) (hI : y_I K cs A F) (hW0 : y_W0 (y_at F (A 20)) x1.toInt) (hWs : y_Ws (y_c (y_at F (A 13)) 387).toInt (y_at F (A 20)) x1.toInt) : Met l yX7_clears (Cond.code yX7_clears cX7_clears 3 none :: T0) ({ frames := 4, cells := 0, slots := 0, locals := 88 }) (va_Pc [.ref a0, .int x1] (s_W dC dI sz L F [(cs 0, .int), (cs 1, .byte), (cs 2, .long), (cs 3, .object RX5), (cs 4, .object RX4), (cs 5, .array .int), (cs 6, .char), (cs 7, .boolean)])) (va_Qv (fun (G : Nat → va_E) => True ∧ True ∧ y_I K cs A G ∧ (∀ b, K b ∉ [70] → G b = F b) ∧ (∀ k, k ∈ ([1, 2, 3, 4, 5, 6, 7, 8, 11, 15, 16, 19, 25, 26, 27, 31, 32] : List Nat) → y_fi G a0 k = y_fi F a0 k) ∧ (y_W0 (y_at G (A 20)) x1.toInt ∧ y_Ws (y_c (y_at F (A 13)) 387).toInt (y_at G (A 20)) x1.toInt ∧ y_Wt (y_c (y_at F (A 13)) 387).toInt (y_at G (A 20)) x1.toInt ∧ y_fw x1.toInt (y_at F (A 20)) (y_at G (A 20)))) (fun (G : Nat → va_E) (t : State) => va_P (dC, dI) vwCl (va_pl L G) t.heap ∧ va_K (dC, dI) vwCl [(cs 0, .int), (cs 1, .byte), (cs 2, .long), (cs 3, .object RX5), (cs 4, .object RX4), (cs 5, .array .int), (cs 6, .char), (cs 7, .boolean)] t) (fun q => q ∈ L)) 0 0 (fun q => q ∈ L) := by
  refine Met.ofW (cc := cX7_clears) (maxL := 3) (ret := none) (by decide) rfl ?_
  intro p e s m args below meth c s₁ B hml hv
  obtain ⟨rfl, hsz, hP, hK, hD, hN⟩ := hv
  have hx := B.exec
  have hb := B.bytes
  have hr := B.returns
  have hts : ∀ w ∈ T0, w.before _ s = true := fun w h => atoms_spec (ws := Cond.code yX7_clears cX7_clears 3 none :: T0) B.pre w (List.mem_cons_of_mem _ h)
  have hown : s.vm.findClass RX7 = some m.cls := findClass_of_methodNamed B.named
  have hlocks := B.notSynchronized
  have hS : va_S (fun q => q ∈ L) s.heap s.heap [] := va_S.rf
  have hfr : ∀ b, K b ∉ [70] → F b = F b := fun _ _ => rfl
  have hl := lv_entry ([.ref a0, .int x1]) (n := 3) (Nat.le_of_ble_eq_true rfl)
  rw [lg_entry_eq]
  generalize (lg_sl ([.ref a0, .int x1]) ++ List.replicate (3 - (lg_sl ([.ref a0, .int x1])).length) Slot.unset).toArray = ls at hl ⊢
  have hl : lv_has ls 3 [(0, .ref a0), (1, .int x1)] := hl
  refine s_gen hP hS (fun H locs hP hS => ?_)
  obtain ⟨z0, q0, oY0, bz0, bq0⟩ := y_opY hI ha0
  have hz0 : ∀ k, k ∈ ([1, 2, 3, 4, 5, 6, 7, 8, 11, 15, 16, 19, 25, 26, 27, 31, 32] : List Nat) → z0 k = z0 k := fun _ _ => rfl
  obtain ⟨f1, o2, b3⟩ := y_op13 hI
  obtain ⟨f4, o5, b6⟩ := y_op20 hI
  have hW0 : y_W0 f4 x1.toInt := by have q9 := hW0; rw [y_atE o5] at q9; exact q9
  have hWs : y_Ws (y_c f1 387).toInt f4 x1.toInt := by have q9 := hWs; rw [y_atE o2, y_atE o5] at q9; exact q9
  have hn7 := hW0.2.2.2
  refine lv_aload_n hx hb dX7_clears_0 rfl (lv_at hl 0 rfl) ?_
  refine lv_iload_n hx hb dX7_clears_1 rfl (lv_at hl 1 rfl) ?_
  refine va_callv (va_runV (As := [.int x1]) (rest := []) ⟨hx, hb, hml, hown, hts⟩ (y_X7_endsTop l dC dI H.size hLK A hA F a0 x1 ha0 (⟨by omega, by omega⟩) hI (by rw [y_atE o5]; exact hW0.2.2.2)) (cwV 1 hts (ax_gV T_1089 T_1091 T_1092 T_265 T_1090) rfl rfl rfl (by decide +kernel) ⟨Nat.le_of_ble_eq_true rfl, Nat.le_of_ble_eq_true rfl⟩) ⟨fun a U g mk q => ⟨q.1, s_pc rfl rfl q.2⟩, s_recv hK hP (hLK _ ha0 (by decide)) (ci := 7) rfl oY0, fun U hU hW => ⟨rfl, s_pw hU hW hP hK hD hN⟩⟩ rfl rfl hl.1 rfl (lv_room (Nat.le_of_ble_eq_true rfl)) dX7_clears_2 ⟨Nat.zero_le _, Nat.zero_le _⟩) hS (fun q _ h => h) (fun q h => h) (fun F9 t H1 locs ht hvm hw hB hz1 hk1 hS => ?_)
  obtain ⟨hP, hK1⟩ := hB
  rw [ht] at hP
  generalize H1 = H at hP hS ⊢
  obtain ⟨h10, h12, hI, hfr1, hzf, h11⟩ := hw
  have o13 : F9 (A 13) = .inl (cs 0, 400, .inl f1) := (hfr1 _ (by rw [(y_k13 hA)]; decide)).trans o2
  have oY14 : F9 a0 = .inr (7, y_fl A z0 q0) := (hfr1 _ (by rw [ha0]; decide)).trans oY0
  have hfr : ∀ b, K b ∉ [70] → F9 b = F b := fun b hb9 => (hfr1 b (fun q => hb9 (s_sub (by decide) q))).trans (hfr b hb9)
  obtain ⟨f15, o16, b17⟩ := y_op20 hI
  have h11 : (y_ET (y_c f1 387).toInt f4 x1.toInt f15) := by have q9 := h11; rw [y_atE o2, y_atE o5, y_atE o16] at q9; exact q9
  obtain ⟨k18a, k18b, k18c, k18d, k18e⟩ := y_ends ⟨by omega, by omega⟩ h11 hW0 hWs
  have hn19 := k18a.2.2.2
  refine lv_aload_n hx hb dX7_clears_5 rfl (lv_at hl 0 rfl) ?_
  refine lv_iload_n hx hb dX7_clears_6 rfl (lv_at hl 1 rfl) ?_
  refine va_calli (va_runV (As := [.int x1]) (rest := []) ⟨hx, hb, hml, hown, hts⟩ (y_X7_top l dC dI H.size hLK A hA F9 a0 x1 ha0 (⟨by omega, by omega⟩) hI) (cwV 1 hts (ax_gV T_1074 T_1076 T_1077 T_265 T_1075) rfl rfl rfl (by decide +kernel) ⟨Nat.le_of_ble_eq_true rfl, Nat.le_of_ble_eq_true rfl⟩) ⟨fun a U g mk q => ⟨q.1, s_pc rfl rfl q.2⟩, s_recv hK hP (hLK _ ha0 (by decide)) (ci := 7) rfl oY14, fun U hU hW => ⟨rfl, s_pw hU hW hP hK hD hN⟩⟩ rfl rfl hl.1 rfl (lv_room (Nat.le_of_ble_eq_true rfl)) dX7_clears_7 ⟨Nat.zero_le _, Nat.zero_le _⟩) hS (fun q _ h => h) (fun q h => h) (fun r21 F22 t H1 locs ht hvm hw hB hz1 hk1 hS => ?_)
  obtain ⟨hP, hK1⟩ := hB
  rw [ht] at hP
  generalize H1 = H at hP hS ⊢
  obtain ⟨h23, h25, hI, hfr1, hzf, h24⟩ := hw
  have o26 : F22 (A 13) = .inl (cs 0, 400, .inl f1) := (hfr1 _ (by rw [(y_k13 hA)]; decide)).trans o13
  have o27 : F22 (A 20) = .inl (cs 0, 918, .inl f15) := (hfr1 _ (by rw [(y_k20 hA)]; decide)).trans o16
  have oY28 : F22 a0 = .inr (7, y_fl A z0 q0) := (hfr1 _ (by rw [ha0]; decide)).trans oY14
  have hfr : ∀ b, K b ∉ [70] → F22 b = F b := fun b hb9 => (hfr1 b (fun q => hb9 (s_sub (by decide) q))).trans (hfr b hb9)
  have h24 : (r21 = y_c f15 (109 + 6 * x1.toInt) - 1) := by have q9 := h24; rw [y_atE o16] at q9; exact q9
  have h29 := congrArg Int32.toInt h24
  have h30 : -1 ≤ r21.toInt ∧ r21.toInt ≤ 14 := by have q9 : r21.toInt = (y_c f15 (109 + 6 * x1.toInt)).toInt - 1 := (by rw [h24]; exact th_sub rfl (by decide) ⟨by omega, by omega⟩); exact ⟨by omega, by omega⟩
  have h31 : r21.toInt = (y_c f15 (109 + 6 * x1.toInt)).toInt - 1 := by rw [h24]; exact th_sub rfl (by decide) ⟨by omega, by omega⟩
  refine lv_istore_n (lv' := [(2, .int r21), (0, .ref a0), (1, .int x1)]) hx hb dX7_clears_10 rfl hl (by decide) rfl (fun ls hl => ?_)
  refine th_loop (fun n g H locs => ∃ (G : Nat → va_E) (ls : Array Slot) (w32 : Int32), g = F0 m 11 ls [] ∧ lv_has ls 3 [(0, .ref a0), (1, .int x1), (2, .int w32)] ∧ va_P (dC, dI) vwCl (va_pl L G) H ∧ va_S (fun q => q ∈ L) s.heap H locs ∧ y_I K cs A G ∧ (∀ b, K b ∉ [70] → G b = F b) ∧ (∀ k, k ∈ ([1, 2, 3, 4, 5, 6, 7, 8, 11, 15, 16, 19, 25, 26, 27, 31, 32] : List Nat) → y_fi G a0 k = z0 k) ∧ (-1 ≤ w32.toInt ∧ w32.toInt ≤ 14) ∧ (0 ≤ x1.toInt ∧ x1.toInt ≤ 3) ∧ y_W0 (y_at G (A 20)) x1.toInt ∧ y_Ws (y_c f1 387).toInt (y_at G (A 20)) x1.toInt ∧ y_fw x1.toInt f4 (y_at G (A 20)) ∧ y_TP (y_c f1 387).toInt (y_at G (A 20)) x1.toInt ∧ (w32.toInt = (y_c (y_at G (A 20)) (109 + 6 * x1.toInt)).toInt - 1) ∧ n = (w32.toInt - (-2)).toNat) _ ⟨F22, _, r21, rfl, lv_sub hl [1, 2, 0] rfl, hP, hS, hI, hfr, (fun k hk => (y_fiZ oY28 (s_sub (by decide) hk)).trans (hz0 k hk)), ⟨by omega, by omega⟩, ⟨by omega, by omega⟩, (by rw [y_atE o27]; exact k18a), (by rw [y_atE o27]; exact k18b), (by rw [y_atE o27]; exact (y_fw_t (y_fw_r _ _) k18c)), (by rw [y_atE o27]; exact k18e), (by first | (rw [y_atE o27]; omega) | rw [y_atE o27]), rfl⟩ (fun n ih11 g H locs hq => ?_)
  obtain ⟨F40, ls, w32, rfl, hl, hP, hS, hI, hfr, hz0, h33, h34, h35, h36, h37, h38, h39, hn⟩ := hq
  have o41 : F40 (A 13) = .inl (cs 0, 400, .inl f1) := (hfr _ (by rw [(y_k13 hA)]; decide)).trans o2
  have oY42 : F40 a0 = .inr (7, y_fl A z0 q0) := (hfr _ (by rw [ha0]; decide)).trans oY0
  have hz0 : ∀ k, k ∈ ([1, 2, 3, 4, 5, 6, 7, 8, 11, 15, 16, 19, 25, 26, 27, 31, 32] : List Nat) → z0 k = z0 k := fun _ _ => rfl
  obtain ⟨f43, o44, b45⟩ := y_op20 hI
  have h35 : y_W0 f43 x1.toInt := by have q9 := h35; rw [y_atE o44] at q9; exact q9
  have h36 : y_Ws (y_c f1 387).toInt f43 x1.toInt := by have q9 := h36; rw [y_atE o44] at q9; exact q9
  have h37 : y_fw x1.toInt f4 f43 := by have q9 := h37; rw [y_atE o44] at q9; exact q9
  have h38 : y_TP (y_c f1 387).toInt f43 x1.toInt := by have q9 := h38; rw [y_atE o44] at q9; exact q9
  have h39 : (w32.toInt = (y_c f43 (109 + 6 * x1.toInt)).toInt - 1) := by have q9 := h39; rw [y_atE o44] at q9; exact q9
  have hn46 := h35.2.2.2
  have hn_46 := hn
  refine lv_iload_n hx hb dX7_clears_11 rfl (lv_at hl 2 rfl) ?_
  refine lv_if_lt (tgt := 83) hx hb dX7_clears_12 (by decide) (fun c47 => ?_) (fun c47 => ?_)
  · have c47 := (ax_lt (n := 0) (by decide)).mp c47
    exact W.vret hx hb hr (fun t ht hW => ⟨⟨F40, rfl, ⟨trivial, trivial, hI, hfr, fun k hk => (y_fiZ oY42 (s_sub (by decide) hk)).trans ((hz0 k hk).trans (y_fiZ oY0 (s_sub (by decide) hk)).symm), (by rw [y_atE o44, y_atE o2, y_atE o5]; exact ⟨h35, h36, y_tops h35 h36 h38 (Or.inl (by omega)), h37⟩)⟩, by rw [ht]; exact hP, va_K.moved hW.alike hK⟩, hS.F ht⟩) hS.2.2 dX7_clears_83
  · have c47 := mt (ax_lt (n := 0) (by decide)).mpr c47
    refine lv_aload_n hx hb dX7_clears_15 rfl (lv_at hl 0 rfl) ?_
    refine th_get (D := (dC, dI)) (ci := 7) (v := .ref (A 20)) (C := RX7) (T := TX7) (N := 34) hx hb hts inX7 hown hK hP (hLK _ ha0 (by decide)) oY42 rfl 20 (by decide) (hts _ T_251) (fun _ h9 => h9) rfl dX7_clears_16 ?_
    refine lv_iload_n hx hb dX7_clears_19 rfl (lv_at hl 1 rfl) ?_
    refine lv_iload_n hx hb dX7_clears_20 rfl (lv_at hl 2 rfl) ?_
    refine lv_iconst (v := 2) hx hb dX7_clears_21 (by decide) ?_
    refine va_calli (va_runS (As := [.int x1, .int w32, .int 2]) (rest := [.ref (A 20)]) ⟨hx, hb, hml, hown, hts⟩ (y_X7_partAt l dC dI H.size F40 x1 w32 2 (⟨by omega, by omega⟩) (⟨by omega, by omega⟩) (by decide)) (cwS 3 hts (ax_gS T_1078 T_1080 T_265 T_1079) rfl rfl rfl (by decide +kernel) ⟨Nat.le_of_ble_eq_true rfl, Nat.le_of_ble_eq_true rfl⟩) ⟨fun a U g mk q => ⟨q.1, s_pc rfl rfl q.2⟩, fun U hU hW => ⟨rfl, s_pw hU hW hP hK hD hN⟩⟩ rfl rfl hl.1 rfl (lv_room (Nat.le_of_ble_eq_true rfl)) dX7_clears_22 ⟨Nat.zero_le _, Nat.zero_le _⟩) hS (fun q _ h => h) (fun q h => h) (fun r49 F50 t H1 locs ht hvm hw hB hz1 hk1 hS => ?_)
    obtain ⟨hP, hK1⟩ := hB
    rw [ht] at hP
    generalize H1 = H at hP hS ⊢
    obtain ⟨h51, h53, hG9, h52⟩ := hw
    rw [hG9] at hP
    have h52 : (r49.toInt = 288 + 48 * x1.toInt + 3 * w32.toInt + 2) := by have q9 := h52; exact q9
    refine th_iald hx hb hK hP (hLK _ (y_k20 hA) (by decide)) 0 o44 rfl (th_in ⟨by omega, by omega⟩) dX7_clears_25 ?_
    refine lv_topi (fun v54 ev54 => ?_)
    have Ev54 : v54 = y_c f43 (287 + 48 * x1.toInt + 3 * (y_c f43 (109 + 6 * x1.toInt)).toInt) := ev54.trans (y_ci (by omega))
    have tEv54 := congrArg Int32.toInt Ev54
    refine lv_if_eq (tgt := 58) hx hb dX7_clears_26 (by decide) (fun c55 => ?_) (fun c55 => ?_)
    · have c55 := (ax_eq (n := 0) (by decide)).mp c55
      have hz9 : y_c f43 (287 + 48 * x1.toInt + 3 * (y_c f43 (109 + 6 * x1.toInt)).toInt) = 0 := by rw [← Ev54]; exact y_z32 c55
      refine lv_aload_n hx hb dX7_clears_58 rfl (lv_at hl 0 rfl) ?_
      refine th_get (D := (dC, dI)) (ci := 7) (v := .ref (A 20)) (C := RX7) (T := TX7) (N := 34) hx hb hts inX7 hown hK hP (hLK _ ha0 (by decide)) oY42 rfl 20 (by decide) (hts _ T_251) (fun _ h9 => h9) rfl dX7_clears_59 ?_
      refine lv_iload_n hx hb dX7_clears_62 rfl (lv_at hl 1 rfl) ?_
      refine lv_iconst (v := 5) hx hb dX7_clears_63 (by decide) ?_
      refine va_calli (va_runS (As := [.int x1, .int 5]) (rest := [.ref (A 20)]) ⟨hx, hb, hml, hown, hts⟩ (y_X7_warpAt l dC dI H.size F40 x1 5 (⟨by omega, by omega⟩) (by decide)) (cwS 2 hts (ax_gS T_1021 T_1023 T_265 T_1022) rfl rfl rfl (by decide +kernel) ⟨Nat.le_of_ble_eq_true rfl, Nat.le_of_ble_eq_true rfl⟩) ⟨fun a U g mk q => ⟨q.1, s_pc rfl rfl q.2⟩, fun U hU hW => ⟨rfl, s_pw hU hW hP hK hD hN⟩⟩ rfl rfl hl.1 rfl (lv_room (Nat.le_of_ble_eq_true rfl)) dX7_clears_64 ⟨Nat.zero_le _, Nat.zero_le _⟩) hS (fun q _ h => h) (fun q h => h) (fun r57 F58 t H1 locs ht hvm hw hB hz1 hk1 hS => ?_)
      obtain ⟨hP, hK1⟩ := hB
      rw [ht] at hP
      generalize H1 = H at hP hS ⊢
      obtain ⟨h59, h61, hG9, h60⟩ := hw
      rw [hG9] at hP
      have h60 : (r57.toInt = 104 + 6 * x1.toInt + 5) := by have q9 := h60; exact q9
      refine lv_dup2_11 hx hb dX7_clears_67 rfl rfl ?_
      refine th_iald hx hb hK hP (hLK _ (y_k20 hA) (by decide)) 0 o44 rfl (th_in ⟨by omega, by omega⟩) dX7_clears_68 ?_
      refine lv_topi (fun v62 ev62 => ?_)
      have Ev62 : v62 = y_c f43 (109 + 6 * x1.toInt) := ev62.trans (y_ci (by omega))
      have tEv62 := congrArg Int32.toInt Ev62
      have h63 : 1 ≤ v62.toInt ∧ v62.toInt ≤ 15 := ⟨by omega, by omega⟩
      refine lv_iconst (v := 1) hx hb dX7_clears_69 (by decide) ?_
      refine lv_isub hx hb dX7_clears_70 ?_
      refine lv_topi (fun v64 ev64 => ?_)
      have qv64 : v64.toInt = v62.toInt - 1 := by rw [ev64]; exact th_sub rfl (by decide) ⟨by omega, by omega⟩
      refine th_iast hx hb hK hP hD hS (hLK _ (y_k20 hA) (by decide)) 0 o44 rfl (th_in ⟨by omega, by omega⟩) dX7_clears_71 (fun H locs hP hS => ?_)
      obtain ⟨f65, u66⟩ : ∃ g : Nat → Int32, g = upd f43 (r57 : Int32).toNatClampNeg v64 := ⟨_, rfl⟩
      rw [← u66] at hP
      have b67 : y_bd 20 f65 := trivial
      have hP : va_P (dC, dI) vwCl (va_pl L (va_up F40 (A 20) (.inl (cs 0, 918, .inl f65)))) H := hP
      obtain ⟨F68, hF69⟩ : ∃ G : Nat → va_E, G = va_up F40 (A 20) (.inl (cs 0, 918, .inl f65)) := ⟨_, rfl⟩
      rw [← hF69] at hP
      have hI : y_I K cs A F68 := by rw [hF69]; exact y_clA (i := 20) hA hI (by decide) b67
      have hfr : ∀ b, K b ∉ [70] → F68 b = F b := by rw [hF69]; exact s_fr hfr (y_k20 hA) (by decide)
      have o70 : F68 (A 13) = .inl (cs 0, 400, .inl f1) := by rw [hF69]; exact th_ne (th_kd (y_k13 hA) (y_k20 hA) (by decide)) o41
      have oY71 : F68 a0 = .inr (7, y_fl A z0 q0) := by rw [hF69]; exact th_ne (th_kd ha0 (y_k20 hA) (by decide)) oY42
      have o72 : F68 (A 20) = .inl (cs 0, 918, .inl f65) := by rw [hF69]; exact th_up
      have u73 : ∀ j : Int, 0 ≤ j → y_c f65 j = if j = r57.toInt then v64 else y_c f43 j := by rw [u66]; exact y_cu rfl (by omega)
      obtain ⟨k74a, k74b⟩ := y_Ws_pop ⟨by omega, by omega⟩ u73 (by omega) (by omega) h35 (by omega) (Or.inl hz9) h36
      have k74d : (y_c f65 (109 + 6 * x1.toInt)).toInt = (y_c f43 (109 + 6 * x1.toInt)).toInt - 1 := by rw [u73 _ (by omega), if_pos (by omega)]; omega
      have hn75 := k74a.2.2.2
      refine lv_aload_n hx hb dX7_clears_72 rfl (lv_at hl 0 rfl) ?_
      refine lv_iload_n hx hb dX7_clears_73 rfl (lv_at hl 1 rfl) ?_
      refine va_callv (va_runV (As := [.int x1]) (rest := []) ⟨hx, hb, hml, hown, hts⟩ (y_X7_endsTop l dC dI H.size hLK A hA F68 a0 x1 ha0 (⟨by omega, by omega⟩) hI (by rw [y_atE o72]; exact k74a.2.2.2)) (cwV 1 hts (ax_gV T_1089 T_1091 T_1092 T_265 T_1090) rfl rfl rfl (by decide +kernel) ⟨Nat.le_of_ble_eq_true rfl, Nat.le_of_ble_eq_true rfl⟩) ⟨fun a U g mk q => ⟨q.1, s_pc rfl rfl q.2⟩, s_recv hK hP (hLK _ ha0 (by decide)) (ci := 7) rfl oY71, fun U hU hW => ⟨rfl, s_pw hU hW hP hK hD hN⟩⟩ rfl rfl hl.1 rfl (lv_room (Nat.le_of_ble_eq_true rfl)) dX7_clears_74 ⟨Nat.zero_le _, Nat.zero_le _⟩) hS (fun q _ h => h) (fun q h => h) (fun F77 t H1 locs ht hvm hw hB hz1 hk1 hS => ?_)
      obtain ⟨hP, hK1⟩ := hB
      rw [ht] at hP
      generalize H1 = H at hP hS ⊢
      obtain ⟨h78, h80, hI, hfr1, hzf, h79⟩ := hw
      have o81 : F77 (A 13) = .inl (cs 0, 400, .inl f1) := (hfr1 _ (by rw [(y_k13 hA)]; decide)).trans o70
      have oY82 : F77 a0 = .inr (7, y_fl A z0 q0) := (hfr1 _ (by rw [ha0]; decide)).trans oY71
      have hfr : ∀ b, K b ∉ [70] → F77 b = F b := fun b hb9 => (hfr1 b (fun q => hb9 (s_sub (by decide) q))).trans (hfr b hb9)
      obtain ⟨f83, o84, b85⟩ := y_op20 hI
      have h79 : (y_ET (y_c f1 387).toInt f65 x1.toInt f83) := by have q9 := h79; rw [y_atE o70, y_atE o72, y_atE o84] at q9; exact q9
      obtain ⟨k86a, k86b, k86c, k86d, k86e⟩ := y_ends ⟨by omega, by omega⟩ h79 k74a k74b
      have hn87 := k86a.2.2.2
      obtain ⟨v88, ev88⟩ : ∃ y : Int32, w32 + (-1) = y := ⟨_, rfl⟩
      have qv88 : v88.toInt = w32.toInt + (-1) := by rw [← ev88]; exact th_add rfl (by decide) ⟨by omega, by omega⟩
      refine lv_iinc (v := v88) (lv' := [(2, .int v88), (0, .ref a0), (1, .int x1)]) hx hb dX7_clears_77 hl (k := 2) rfl ev88 (by decide) rfl (fun ls hl => ?_)
      refine lv_goto (tgt := 11) hx hb dX7_clears_80 (by decide) ?_
      exact ih11 _ _ _ _ (by omega) ⟨F77, _, v88, rfl, lv_sub hl [1, 2, 0] rfl, hP, hS, hI, hfr, (fun k hk => (y_fiZ oY82 (s_sub (by decide) hk)).trans (hz0 k hk)), ⟨by omega, by omega⟩, ⟨by omega, by omega⟩, (by rw [y_atE o84]; exact k86a), (by rw [y_atE o84]; exact k86b), (by rw [y_atE o84]; exact (y_fw_t (y_fw_t h37 (y_fw_u u73 (by omega))) k86c)), (by rw [y_atE o84]; exact k86e), (by first | (rw [y_atE o84]; omega) | rw [y_atE o84]), rfl⟩
    · have c55 := mt (ax_eq (n := 0) (by decide)).mpr c55
      have hz9 : ¬ y_c f43 (287 + 48 * x1.toInt + 3 * (y_c f43 (109 + 6 * x1.toInt)).toInt) = 0 := by rw [← Ev54]; exact y_nz32 c55
      refine lv_iload_n hx hb dX7_clears_29 rfl (lv_at hl 2 rfl) ?_
      refine lv_if_le (tgt := 83) hx hb dX7_clears_30 (by decide) (fun c89 => ?_) (fun c89 => ?_)
      · have c89 := (ax_le (n := 0) (by decide)).mp c89
        exact W.vret hx hb hr (fun t ht hW => ⟨⟨F40, rfl, ⟨trivial, trivial, hI, hfr, fun k hk => (y_fiZ oY42 (s_sub (by decide) hk)).trans ((hz0 k hk).trans (y_fiZ oY0 (s_sub (by decide) hk)).symm), (by rw [y_atE o44, y_atE o2, y_atE o5]; exact ⟨h35, h36, y_tops h35 h36 h38 (Or.inr hz9), h37⟩)⟩, by rw [ht]; exact hP, va_K.moved hW.alike hK⟩, hS.F ht⟩) hS.2.2 dX7_clears_83
      · have c89 := mt (ax_le (n := 0) (by decide)).mpr c89
        refine lv_aload_n hx hb dX7_clears_33 rfl (lv_at hl 0 rfl) ?_
        refine th_get (D := (dC, dI)) (ci := 7) (v := .ref (A 20)) (C := RX7) (T := TX7) (N := 34) hx hb hts inX7 hown hK hP (hLK _ ha0 (by decide)) oY42 rfl 20 (by decide) (hts _ T_251) (fun _ h9 => h9) rfl dX7_clears_34 ?_
        refine lv_iload_n hx hb dX7_clears_37 rfl (lv_at hl 1 rfl) ?_
        refine lv_iload_n hx hb dX7_clears_38 rfl (lv_at hl 2 rfl) ?_
        refine lv_iconst (v := 0) hx hb dX7_clears_39 (by decide) ?_
        refine va_calli (va_runS (As := [.int x1, .int w32, .int 0]) (rest := [.ref (A 20)]) ⟨hx, hb, hml, hown, hts⟩ (y_X7_partAt l dC dI H.size F40 x1 w32 0 (⟨by omega, by omega⟩) (⟨by omega, by omega⟩) (by decide)) (cwS 3 hts (ax_gS T_1078 T_1080 T_265 T_1079) rfl rfl rfl (by decide +kernel) ⟨Nat.le_of_ble_eq_true rfl, Nat.le_of_ble_eq_true rfl⟩) ⟨fun a U g mk q => ⟨q.1, s_pc rfl rfl q.2⟩, fun U hU hW => ⟨rfl, s_pw hU hW hP hK hD hN⟩⟩ rfl rfl hl.1 rfl (lv_room (Nat.le_of_ble_eq_true rfl)) dX7_clears_40 ⟨Nat.zero_le _, Nat.zero_le _⟩) hS (fun q _ h => h) (fun q h => h) (fun r91 F92 t H1 locs ht hvm hw hB hz1 hk1 hS => ?_)
        obtain ⟨hP, hK1⟩ := hB
        rw [ht] at hP
        generalize H1 = H at hP hS ⊢
        obtain ⟨h93, h95, hG9, h94⟩ := hw
        rw [hG9] at hP
        have h94 : (r91.toInt = 288 + 48 * x1.toInt + 3 * w32.toInt + 0) := by have q9 := h94; exact q9
        refine th_iald hx hb hK hP (hLK _ (y_k20 hA) (by decide)) 0 o44 rfl (th_in ⟨by omega, by omega⟩) dX7_clears_43 ?_
        refine lv_topi (fun v96 ev96 => ?_)
        have Ev96 : v96 = y_c f43 (285 + 48 * x1.toInt + 3 * (y_c f43 (109 + 6 * x1.toInt)).toInt) := ev96.trans (y_ci (by omega))
        have tEv96 := congrArg Int32.toInt Ev96
        refine lv_aload_n hx hb dX7_clears_44 rfl (lv_at hl 0 rfl) ?_
        refine th_get (D := (dC, dI)) (ci := 7) (v := .ref (A 20)) (C := RX7) (T := TX7) (N := 34) hx hb hts inX7 hown hK hP (hLK _ ha0 (by decide)) oY42 rfl 20 (by decide) (hts _ T_251) (fun _ h9 => h9) rfl dX7_clears_45 ?_
        refine lv_iload_n hx hb dX7_clears_48 rfl (lv_at hl 1 rfl) ?_
        refine lv_iload_n hx hb dX7_clears_49 rfl (lv_at hl 2 rfl) ?_
        refine lv_iconst (v := 1) hx hb dX7_clears_50 (by decide) ?_
        refine va_calli (va_runS (As := [.int x1, .int w32, .int 1]) (rest := [.ref (A 20), .int v96]) ⟨hx, hb, hml, hown, hts⟩ (y_X7_partAt l dC dI H.size F40 x1 w32 1 (⟨by omega, by omega⟩) (⟨by omega, by omega⟩) (by decide)) (cwS 3 hts (ax_gS T_1078 T_1080 T_265 T_1079) rfl rfl rfl (by decide +kernel) ⟨Nat.le_of_ble_eq_true rfl, Nat.le_of_ble_eq_true rfl⟩) ⟨fun a U g mk q => ⟨q.1, s_pc rfl rfl q.2⟩, fun U hU hW => ⟨rfl, s_pw hU hW hP hK hD hN⟩⟩ rfl rfl hl.1 rfl (lv_room (Nat.le_of_ble_eq_true rfl)) dX7_clears_51 ⟨Nat.zero_le _, Nat.zero_le _⟩) hS (fun q _ h => h) (fun q h => h) (fun r98 F99 t H1 locs ht hvm hw hB hz1 hk1 hS => ?_)
        obtain ⟨hP, hK1⟩ := hB
        rw [ht] at hP
        generalize H1 = H at hP hS ⊢
        obtain ⟨h100, h102, hG9, h101⟩ := hw
        rw [hG9] at hP
        have h101 : (r98.toInt = 288 + 48 * x1.toInt + 3 * w32.toInt + 1) := by have q9 := h101; exact q9
        refine th_iald hx hb hK hP (hLK _ (y_k20 hA) (by decide)) 0 o44 rfl (th_in ⟨by omega, by omega⟩) dX7_clears_54 ?_
        refine lv_topi (fun v103 ev103 => ?_)
        have Ev103 : v103 = y_c f43 (286 + 48 * x1.toInt + 3 * (y_c f43 (109 + 6 * x1.toInt)).toInt) := ev103.trans (y_ci (by omega))
        have tEv103 := congrArg Int32.toInt Ev103
        refine lv_icmp_ne (tgt := 83) hx hb dX7_clears_55 (by decide) (fun c104 => ?_) (fun c104 => ?_)
        · have c104 := mt Int32.toInt_inj.symm.mpr c104
          exact W.vret hx hb hr (fun t ht hW => ⟨⟨F40, rfl, ⟨trivial, trivial, hI, hfr, fun k hk => (y_fiZ oY42 (s_sub (by decide) hk)).trans ((hz0 k hk).trans (y_fiZ oY0 (s_sub (by decide) hk)).symm), (by rw [y_atE o44, y_atE o2, y_atE o5]; exact ⟨h35, h36, y_tops h35 h36 h38 (Or.inr hz9), h37⟩)⟩, by rw [ht]; exact hP, va_K.moved hW.alike hK⟩, hS.F ht⟩) hS.2.2 dX7_clears_83
        · have c104 := Int32.toInt_inj.symm.mp c104
          refine lv_aload_n hx hb dX7_clears_58 rfl (lv_at hl 0 rfl) ?_
          refine th_get (D := (dC, dI)) (ci := 7) (v := .ref (A 20)) (C := RX7) (T := TX7) (N := 34) hx hb hts inX7 hown hK hP (hLK _ ha0 (by decide)) oY42 rfl 20 (by decide) (hts _ T_251) (fun _ h9 => h9) rfl dX7_clears_59 ?_
          refine lv_iload_n hx hb dX7_clears_62 rfl (lv_at hl 1 rfl) ?_
          refine lv_iconst (v := 5) hx hb dX7_clears_63 (by decide) ?_
          refine va_calli (va_runS (As := [.int x1, .int 5]) (rest := [.ref (A 20)]) ⟨hx, hb, hml, hown, hts⟩ (y_X7_warpAt l dC dI H.size F40 x1 5 (⟨by omega, by omega⟩) (by decide)) (cwS 2 hts (ax_gS T_1021 T_1023 T_265 T_1022) rfl rfl rfl (by decide +kernel) ⟨Nat.le_of_ble_eq_true rfl, Nat.le_of_ble_eq_true rfl⟩) ⟨fun a U g mk q => ⟨q.1, s_pc rfl rfl q.2⟩, fun U hU hW => ⟨rfl, s_pw hU hW hP hK hD hN⟩⟩ rfl rfl hl.1 rfl (lv_room (Nat.le_of_ble_eq_true rfl)) dX7_clears_64 ⟨Nat.zero_le _, Nat.zero_le _⟩) hS (fun q _ h => h) (fun q h => h) (fun r106 F107 t H1 locs ht hvm hw hB hz1 hk1 hS => ?_)
          obtain ⟨hP, hK1⟩ := hB
          rw [ht] at hP
          generalize H1 = H at hP hS ⊢
          obtain ⟨h108, h110, hG9, h109⟩ := hw
          rw [hG9] at hP
          have h109 : (r106.toInt = 104 + 6 * x1.toInt + 5) := by have q9 := h109; exact q9
          refine lv_dup2_11 hx hb dX7_clears_67 rfl rfl ?_
          refine th_iald hx hb hK hP (hLK _ (y_k20 hA) (by decide)) 0 o44 rfl (th_in ⟨by omega, by omega⟩) dX7_clears_68 ?_
          refine lv_topi (fun v111 ev111 => ?_)
          have Ev111 : v111 = y_c f43 (109 + 6 * x1.toInt) := ev111.trans (y_ci (by omega))
          have tEv111 := congrArg Int32.toInt Ev111
          have h112 : 1 ≤ v111.toInt ∧ v111.toInt ≤ 15 := ⟨by omega, by omega⟩
          refine lv_iconst (v := 1) hx hb dX7_clears_69 (by decide) ?_
          refine lv_isub hx hb dX7_clears_70 ?_
          refine lv_topi (fun v113 ev113 => ?_)
          have qv113 : v113.toInt = v111.toInt - 1 := by rw [ev113]; exact th_sub rfl (by decide) ⟨by omega, by omega⟩
          refine th_iast hx hb hK hP hD hS (hLK _ (y_k20 hA) (by decide)) 0 o44 rfl (th_in ⟨by omega, by omega⟩) dX7_clears_71 (fun H locs hP hS => ?_)
          obtain ⟨f114, u115⟩ : ∃ g : Nat → Int32, g = upd f43 (r106 : Int32).toNatClampNeg v113 := ⟨_, rfl⟩
          rw [← u115] at hP
          have b116 : y_bd 20 f114 := trivial
          have hP : va_P (dC, dI) vwCl (va_pl L (va_up F40 (A 20) (.inl (cs 0, 918, .inl f114)))) H := hP
          obtain ⟨F117, hF118⟩ : ∃ G : Nat → va_E, G = va_up F40 (A 20) (.inl (cs 0, 918, .inl f114)) := ⟨_, rfl⟩
          rw [← hF118] at hP
          have hI : y_I K cs A F117 := by rw [hF118]; exact y_clA (i := 20) hA hI (by decide) b116
          have hfr : ∀ b, K b ∉ [70] → F117 b = F b := by rw [hF118]; exact s_fr hfr (y_k20 hA) (by decide)
          have o119 : F117 (A 13) = .inl (cs 0, 400, .inl f1) := by rw [hF118]; exact th_ne (th_kd (y_k13 hA) (y_k20 hA) (by decide)) o41
          have oY120 : F117 a0 = .inr (7, y_fl A z0 q0) := by rw [hF118]; exact th_ne (th_kd ha0 (y_k20 hA) (by decide)) oY42
          have o121 : F117 (A 20) = .inl (cs 0, 918, .inl f114) := by rw [hF118]; exact th_up
          have u122 : ∀ j : Int, 0 ≤ j → y_c f114 j = if j = r106.toInt then v113 else y_c f43 j := by rw [u115]; exact y_cu rfl (by omega)
          obtain ⟨k123a, k123b⟩ := y_Ws_pop ⟨by omega, by omega⟩ u122 (by omega) (by omega) h35 (by omega) (Or.inr (by omega)) h36
          have k123d : (y_c f114 (109 + 6 * x1.toInt)).toInt = (y_c f43 (109 + 6 * x1.toInt)).toInt - 1 := by rw [u122 _ (by omega), if_pos (by omega)]; omega
          have hn124 := k123a.2.2.2
          refine lv_aload_n hx hb dX7_clears_72 rfl (lv_at hl 0 rfl) ?_
          refine lv_iload_n hx hb dX7_clears_73 rfl (lv_at hl 1 rfl) ?_
          refine va_callv (va_runV (As := [.int x1]) (rest := []) ⟨hx, hb, hml, hown, hts⟩ (y_X7_endsTop l dC dI H.size hLK A hA F117 a0 x1 ha0 (⟨by omega, by omega⟩) hI (by rw [y_atE o121]; exact k123a.2.2.2)) (cwV 1 hts (ax_gV T_1089 T_1091 T_1092 T_265 T_1090) rfl rfl rfl (by decide +kernel) ⟨Nat.le_of_ble_eq_true rfl, Nat.le_of_ble_eq_true rfl⟩) ⟨fun a U g mk q => ⟨q.1, s_pc rfl rfl q.2⟩, s_recv hK hP (hLK _ ha0 (by decide)) (ci := 7) rfl oY120, fun U hU hW => ⟨rfl, s_pw hU hW hP hK hD hN⟩⟩ rfl rfl hl.1 rfl (lv_room (Nat.le_of_ble_eq_true rfl)) dX7_clears_74 ⟨Nat.zero_le _, Nat.zero_le _⟩) hS (fun q _ h => h) (fun q h => h) (fun F126 t H1 locs ht hvm hw hB hz1 hk1 hS => ?_)
          obtain ⟨hP, hK1⟩ := hB
          rw [ht] at hP
          generalize H1 = H at hP hS ⊢
          obtain ⟨h127, h129, hI, hfr1, hzf, h128⟩ := hw
          have o130 : F126 (A 13) = .inl (cs 0, 400, .inl f1) := (hfr1 _ (by rw [(y_k13 hA)]; decide)).trans o119
          have oY131 : F126 a0 = .inr (7, y_fl A z0 q0) := (hfr1 _ (by rw [ha0]; decide)).trans oY120
          have hfr : ∀ b, K b ∉ [70] → F126 b = F b := fun b hb9 => (hfr1 b (fun q => hb9 (s_sub (by decide) q))).trans (hfr b hb9)
          obtain ⟨f132, o133, b134⟩ := y_op20 hI
          have h128 : (y_ET (y_c f1 387).toInt f114 x1.toInt f132) := by have q9 := h128; rw [y_atE o119, y_atE o121, y_atE o133] at q9; exact q9
          obtain ⟨k135a, k135b, k135c, k135d, k135e⟩ := y_ends ⟨by omega, by omega⟩ h128 k123a k123b
          have hn136 := k135a.2.2.2
          obtain ⟨v137, ev137⟩ : ∃ y : Int32, w32 + (-1) = y := ⟨_, rfl⟩
          have qv137 : v137.toInt = w32.toInt + (-1) := by rw [← ev137]; exact th_add rfl (by decide) ⟨by omega, by omega⟩
          refine lv_iinc (v := v137) (lv' := [(2, .int v137), (0, .ref a0), (1, .int x1)]) hx hb dX7_clears_77 hl (k := 2) rfl ev137 (by decide) rfl (fun ls hl => ?_)
          refine lv_goto (tgt := 11) hx hb dX7_clears_80 (by decide) ?_
          exact ih11 _ _ _ _ (by omega) ⟨F126, _, v137, rfl, lv_sub hl [1, 2, 0] rfl, hP, hS, hI, hfr, (fun k hk => (y_fiZ oY131 (s_sub (by decide) hk)).trans (hz0 k hk)), ⟨by omega, by omega⟩, ⟨by omega, by omega⟩, (by rw [y_atE o133]; exact k135a), (by rw [y_atE o133]; exact k135b), (by rw [y_atE o133]; exact (y_fw_t (y_fw_t h37 (y_fw_u u122 (by omega))) k135c)), (by rw [y_atE o133]; exact k135e), (by first | (rw [y_atE o133]; omega) | rw [y_atE o133]), rfl⟩

set_option maxHeartbeats 4000000 in
set_option maxRecDepth 100000 in
theorem y_X7_together (l : Launch) (dC : Nat → ClassId) (dI : Nat → Nat → Nat) (sz : Nat) {L : List Nat} {K : Nat → Nat} {cs : Nat → ClassId} (hLK : ∀ a {k : Nat}, K a = k → k ≠ 0 → a ∈ L) (A : Nat → Nat) (hA : y_A K A) (F : Nat → va_E) (a0 : Nat) (x1 : Int32) (ha0 : K a0 = 9) (hx1 : 0 ≤ x1.toInt ∧ x1.toInt ≤ 3) (hI : y_I K cs A F) (hW0 : y_W0 (y_at F (A 20)) x1.toInt) : Met l yX7_together (Cond.code yX7_together cX7_together 6 (some .int) :: T0) ({ frames := 3, cells := 0, slots := 0, locals := 64 }) (va_Pc [.ref a0, .int x1] (s_W dC dI sz L F [(cs 0, .int), (cs 1, .byte), (cs 2, .long), (cs 3, .object RX5), (cs 4, .object RX4), (cs 5, .array .int), (cs 6, .char), (cs 7, .boolean)])) (va_Qi (fun (r : Int32) (G : Nat → va_E) => True ∧ True ∧ y_I K cs A G ∧ (∀ b, K b ∉ ([] : List Nat) → G b = F b) ∧ (∀ k, k ∈ ([1, 2, 3, 4, 5, 6, 7, 8, 11, 15, 16, 19, 25, 26, 27, 31, 32] : List Nat) → y_fi G a0 k = y_fi F a0 k) ∧ (y_TG (y_at F (A 20)) x1.toInt r)) (fun (G : Nat → va_E) (t : State) => va_P (dC, dI) vwCl (va_pl L G) t.heap ∧ va_K (dC, dI) vwCl [(cs 0, .int), (cs 1, .byte), (cs 2, .long), (cs 3, .object RX5), (cs 4, .object RX4), (cs 5, .array .int), (cs 6, .char), (cs 7, .boolean)] t) (fun q => q ∈ L)) 0 0 (fun q => q ∈ L) := by
  refine Met.ofW (cc := cX7_together) (maxL := 6) (ret := (some .int)) (by decide) rfl ?_
  intro p e s m args below meth c s₁ B hml hv
  obtain ⟨rfl, hsz, hP, hK, hD, hN⟩ := hv
  have hx := B.exec
  have hb := B.bytes
  have hr := B.returns
  have hts : ∀ w ∈ T0, w.before _ s = true := fun w h => atoms_spec (ws := Cond.code yX7_together cX7_together 6 (some .int) :: T0) B.pre w (List.mem_cons_of_mem _ h)
  have hown : s.vm.findClass RX7 = some m.cls := findClass_of_methodNamed B.named
  have hlocks := B.notSynchronized
  have hS : va_S (fun q => q ∈ L) s.heap s.heap [] := va_S.rf
  have hfr : ∀ b, K b ∉ ([] : List Nat) → F b = F b := fun _ _ => rfl
  have hl := lv_entry ([.ref a0, .int x1]) (n := 6) (Nat.le_of_ble_eq_true rfl)
  rw [lg_entry_eq]
  generalize (lg_sl ([.ref a0, .int x1]) ++ List.replicate (6 - (lg_sl ([.ref a0, .int x1])).length) Slot.unset).toArray = ls at hl ⊢
  have hl : lv_has ls 6 [(0, .ref a0), (1, .int x1)] := hl
  refine s_gen hP hS (fun H locs hP hS => ?_)
  obtain ⟨z0, q0, oY0, bz0, bq0⟩ := y_opY hI ha0
  have hz0 : ∀ k, k ∈ ([1, 2, 3, 4, 5, 6, 7, 8, 11, 15, 16, 19, 25, 26, 27, 31, 32] : List Nat) → z0 k = z0 k := fun _ _ => rfl
  obtain ⟨f1, o2, b3⟩ := y_op20 hI
  have hW0 : y_W0 f1 x1.toInt := by have q9 := hW0; rw [y_atE o2] at q9; exact q9
  have hnw := hW0.2.2
  refine lv_aload_n hx hb dX7_together_0 rfl (lv_at hl 0 rfl) ?_
  refine lv_iload_n hx hb dX7_together_1 rfl (lv_at hl 1 rfl) ?_
  refine lv_iconst (v := 3) hx hb dX7_together_2 (by decide) ?_
  refine va_calli (va_runV (As := [.int x1, .int 3]) (rest := []) ⟨hx, hb, hml, hown, hts⟩ (y_X7_its l dC dI H.size hLK A hA F a0 x1 3 ha0 (⟨by omega, by omega⟩) (by decide) hI) (cwV 2 hts (ax_gV T_1057 T_1059 T_1060 T_265 T_1058) rfl rfl rfl (by decide +kernel) ⟨Nat.le_of_ble_eq_true rfl, Nat.le_of_ble_eq_true rfl⟩) ⟨fun a U g mk q => ⟨q.1, s_pc rfl rfl q.2⟩, s_recv hK hP (hLK _ ha0 (by decide)) (ci := 7) rfl oY0, fun U hU hW => ⟨rfl, s_pw hU hW hP hK hD hN⟩⟩ rfl rfl hl.1 rfl (lv_room (Nat.le_of_ble_eq_true rfl)) dX7_together_3 ⟨Nat.zero_le _, Nat.zero_le _⟩) hS (fun q _ h => h) (fun q h => h) (fun r5 F6 t H1 locs ht hvm hw hB hz1 hk1 hS => ?_)
  obtain ⟨hP, hK1⟩ := hB
  rw [ht] at hP
  generalize H1 = H at hP hS ⊢
  obtain ⟨h7, h9, hI, hfr1, hzf, h8⟩ := hw
  have o10 : F6 (A 20) = .inl (cs 0, 918, .inl f1) := (hfr1 _ (by rw [(y_k20 hA)]; decide)).trans o2
  have oY11 : F6 a0 = .inr (7, y_fl A z0 q0) := (hfr1 _ (by rw [ha0]; decide)).trans oY0
  have hfr : ∀ b, K b ∉ ([] : List Nat) → F6 b = F b := fun b hb9 => (hfr1 b (fun q => hb9 (s_sub (by decide) q))).trans (hfr b hb9)
  have h8 : (r5 = y_c f1 (104 + 6 * x1.toInt + 3)) := by have q9 := h8; rw [y_atE o2] at q9; exact q9
  have h8 : r5 = y_c f1 (107 + 6 * x1.toInt) := h8.trans (congrArg (y_c f1) (by omega))
  have h12 := congrArg Int32.toInt h8
  refine lv_aload_n hx hb dX7_together_6 rfl (lv_at hl 0 rfl) ?_
  refine lv_iload_n hx hb dX7_together_7 rfl (lv_at hl 1 rfl) ?_
  refine lv_iconst (v := 4) hx hb dX7_together_8 (by decide) ?_
  refine va_calli (va_runV (As := [.int x1, .int 4]) (rest := [.int r5]) ⟨hx, hb, hml, hown, hts⟩ (y_X7_its l dC dI H.size hLK A hA F6 a0 x1 4 ha0 (⟨by omega, by omega⟩) (by decide) hI) (cwV 2 hts (ax_gV T_1057 T_1059 T_1060 T_265 T_1058) rfl rfl rfl (by decide +kernel) ⟨Nat.le_of_ble_eq_true rfl, Nat.le_of_ble_eq_true rfl⟩) ⟨fun a U g mk q => ⟨q.1, s_pc rfl rfl q.2⟩, s_recv hK hP (hLK _ ha0 (by decide)) (ci := 7) rfl oY11, fun U hU hW => ⟨rfl, s_pw hU hW hP hK hD hN⟩⟩ rfl rfl hl.1 rfl (lv_room (Nat.le_of_ble_eq_true rfl)) dX7_together_9 ⟨Nat.zero_le _, Nat.zero_le _⟩) hS (fun q _ h => h) (fun q h => h) (fun r14 F15 t H1 locs ht hvm hw hB hz1 hk1 hS => ?_)
  obtain ⟨hP, hK1⟩ := hB
  rw [ht] at hP
  generalize H1 = H at hP hS ⊢
  obtain ⟨h16, h18, hI, hfr1, hzf, h17⟩ := hw
  have o19 : F15 (A 20) = .inl (cs 0, 918, .inl f1) := (hfr1 _ (by rw [(y_k20 hA)]; decide)).trans o10
  have oY20 : F15 a0 = .inr (7, y_fl A z0 q0) := (hfr1 _ (by rw [ha0]; decide)).trans oY11
  have hfr : ∀ b, K b ∉ ([] : List Nat) → F15 b = F b := fun b hb9 => (hfr1 b (fun q => hb9 (s_sub (by decide) q))).trans (hfr b hb9)
  have h17 : (r14 = y_c f1 (104 + 6 * x1.toInt + 4)) := by have q9 := h17; rw [y_atE o10] at q9; exact q9
  have h17 : r14 = y_c f1 (108 + 6 * x1.toInt) := h17.trans (congrArg (y_c f1) (by omega))
  have h21 := congrArg Int32.toInt h17
  refine lv_iconst (v := (-1)) hx hb dX7_together_12 (by decide) ?_
  refine lv_ixor hx hb dX7_together_13 ?_
  refine lv_topi (fun v22 ev22 => ?_)
  refine lv_iand hx hb dX7_together_14 ?_
  refine lv_topi (fun v23 ev23 => ?_)
  have hca : v23 = y_c f1 (107 + 6 * x1.toInt) &&& (y_c f1 (108 + 6 * x1.toInt) ^^^ (-1)) := by rw [ev23, h8, ev22, h17]
  have hc8 := y_ca8 hW0 hca
  refine lv_istore_n (lv' := [(2, .int v23), (0, .ref a0), (1, .int x1)]) hx hb dX7_together_15 rfl hl (by decide) rfl (fun ls hl => ?_)
  refine lv_aload_n hx hb dX7_together_16 rfl (lv_at hl 1 rfl) ?_
  refine th_get (D := (dC, dI)) (ci := 7) (v := .ref (A 20)) (C := RX7) (T := TX7) (N := 34) hx hb hts inX7 hown hK hP (hLK _ ha0 (by decide)) oY20 rfl 20 (by decide) (hts _ T_251) (fun _ h9 => h9) rfl dX7_together_17 ?_
  refine lv_iconst (v := 3) hx hb dX7_together_20 (by decide) ?_
  refine th_iald hx hb hK hP (hLK _ (y_k20 hA) (by decide)) 0 o19 rfl (ax_in (by decide)) dX7_together_21 ?_
  refine lv_topi (fun v24 ev24 => ?_)
  have Ev24 : v24 = y_c f1 (3) := ev24.trans (y_ci (by decide))
  have tEv24 := congrArg Int32.toInt Ev24
  refine lv_if_ne (tgt := 55) hx hb dX7_together_22 (by decide) (fun c25 => ?_) (fun c25 => ?_)
  · have c25 := mt (ax_eq (n := 0) (by decide)).mpr c25
    refine lv_iload_n hx hb dX7_together_55 rfl (lv_at hl 0 rfl) ?_
    refine lv_if_ne (tgt := 61) hx hb dX7_together_56 (by decide) (fun c26 => ?_) (fun c26 => ?_)
    · have c26 := mt (ax_eq (n := 0) (by decide)).mpr c26
      obtain ⟨i0, hi0, hbi⟩ := y_ex hc8 (y_nz32 c26)
      obtain ⟨ii, hii0, hii1, hii2⟩ := y_nat8 hi0
      rw [← hii2] at hbi
      refine lv_aload_n hx hb dX7_together_61 rfl (lv_at hl 1 rfl) ?_
      refine lv_iload_n hx hb dX7_together_62 rfl (lv_at hl 2 rfl) ?_
      refine lv_iconst (v := 1) hx hb dX7_together_63 (by decide) ?_
      refine va_calli (va_runV (As := [.int x1, .int 1]) (rest := []) ⟨hx, hb, hml, hown, hts⟩ (y_X7_its l dC dI H.size hLK A hA F15 a0 x1 1 ha0 (⟨by omega, by omega⟩) (by decide) hI) (cwV 2 hts (ax_gV T_1057 T_1059 T_1060 T_265 T_1058) rfl rfl rfl (by decide +kernel) ⟨Nat.le_of_ble_eq_true rfl, Nat.le_of_ble_eq_true rfl⟩) ⟨fun a U g mk q => ⟨q.1, s_pc rfl rfl q.2⟩, s_recv hK hP (hLK _ ha0 (by decide)) (ci := 7) rfl oY20, fun U hU hW => ⟨rfl, s_pw hU hW hP hK hD hN⟩⟩ rfl rfl hl.1 rfl (lv_room (Nat.le_of_ble_eq_true rfl)) dX7_together_64 ⟨Nat.zero_le _, Nat.zero_le _⟩) hS (fun q _ h => h) (fun q h => h) (fun r28 F29 t H1 locs ht hvm hw hB hz1 hk1 hS => ?_)
      obtain ⟨hP, hK1⟩ := hB
      rw [ht] at hP
      generalize H1 = H at hP hS ⊢
      obtain ⟨h30, h32, hI, hfr1, hzf, h31⟩ := hw
      have o33 : F29 (A 20) = .inl (cs 0, 918, .inl f1) := (hfr1 _ (by rw [(y_k20 hA)]; decide)).trans o19
      have oY34 : F29 a0 = .inr (7, y_fl A z0 q0) := (hfr1 _ (by rw [ha0]; decide)).trans oY20
      have hfr : ∀ b, K b ∉ ([] : List Nat) → F29 b = F b := fun b hb9 => (hfr1 b (fun q => hb9 (s_sub (by decide) q))).trans (hfr b hb9)
      have h31 : (r28 = y_c f1 (104 + 6 * x1.toInt + 1)) := by have q9 := h31; rw [y_atE o19] at q9; exact q9
      have h31 : r28 = y_c f1 (105 + 6 * x1.toInt) := h31.trans (congrArg (y_c f1) (by omega))
      have h35 := congrArg Int32.toInt h31
      have h36 : 0 ≤ r28.toInt ∧ r28.toInt ≤ 7 := by have q9 := congrArg Int32.toInt h31; omega
      refine lv_istore_n (lv' := [(3, .int r28), (2, .int v23), (0, .ref a0), (1, .int x1)]) hx hb dX7_together_67 rfl hl (by decide) rfl (fun ls hl => ?_)
      refine th_loop (fun n g H locs => ∃ (G : Nat → va_E) (ls : Array Slot) (w37 : Int32), g = F0 m 68 ls [] ∧ lv_has ls 6 [(0, .ref a0), (1, .int x1), (2, .int v23), (3, .int w37)] ∧ va_P (dC, dI) vwCl (va_pl L G) H ∧ va_S (fun q => q ∈ L) s.heap H locs ∧ y_I K cs A G ∧ (∀ b, K b ∉ ([] : List Nat) → G b = F b) ∧ (∀ k, k ∈ ([1, 2, 3, 4, 5, 6, 7, 8, 11, 15, 16, 19, 25, 26, 27, 31, 32] : List Nat) → y_fi G a0 k = z0 k) ∧ (0 ≤ w37.toInt ∧ w37.toInt ≤ 7) ∧ (0 ≤ x1.toInt ∧ x1.toInt ≤ 3) ∧ n = ((ii + 8 - w37.toInt) % 8).toNat) _ ⟨F29, _, r28, rfl, lv_sub hl [2, 3, 1, 0] rfl, hP, hS, hI, hfr, (fun k hk => (y_fiZ oY34 (s_sub (by decide) hk)).trans (hz0 k hk)), ⟨by omega, by omega⟩, ⟨by omega, by omega⟩, rfl⟩ (fun n ih68 g H locs hq => ?_)
      obtain ⟨F40, ls, w37, rfl, hl, hP, hS, hI, hfr, hz0, h38, h39, hn⟩ := hq
      have o41 : F40 (A 20) = .inl (cs 0, 918, .inl f1) := (hfr _ (by rw [(y_k20 hA)]; decide)).trans o2
      have oY42 : F40 a0 = .inr (7, y_fl A z0 q0) := (hfr _ (by rw [ha0]; decide)).trans oY0
      have hz0 : ∀ k, k ∈ ([1, 2, 3, 4, 5, 6, 7, 8, 11, 15, 16, 19, 25, 26, 27, 31, 32] : List Nat) → z0 k = z0 k := fun _ _ => rfl
      have hn_42 := hn
      refine lv_iload_n hx hb dX7_together_68 rfl (lv_at hl 2 rfl) ?_
      refine lv_iload_n hx hb dX7_together_69 rfl (lv_at hl 3 rfl) ?_
      refine va_calli (va_runS (As := [.int v23, .int w37]) (rest := []) ⟨hx, hb, hml, hown, hts⟩ (y_X7_isOf l dC dI H.size F40 v23 w37 (⟨by omega, by omega⟩)) (cwS 2 hts (ax_gS T_1027 T_1029 T_265 T_1028) rfl rfl rfl (by decide +kernel) ⟨Nat.le_of_ble_eq_true rfl, Nat.le_of_ble_eq_true rfl⟩) ⟨fun a U g mk q => ⟨q.1, s_pc rfl rfl q.2⟩, fun U hU hW => ⟨rfl, s_pw hU hW hP hK hD hN⟩⟩ rfl rfl hl.1 rfl (lv_room (Nat.le_of_ble_eq_true rfl)) dX7_together_70 ⟨Nat.zero_le _, Nat.zero_le _⟩) hS (fun q _ h => h) (fun q h => h) (fun r44 F45 t H1 locs ht hvm hw hB hz1 hk1 hS => ?_)
      obtain ⟨hP, hK1⟩ := hB
      rw [ht] at hP
      generalize H1 = H at hP hS ⊢
      obtain ⟨h46, h48, hG9, h47⟩ := hw
      rw [hG9] at hP
      have h47 : ((r44.toInt = 1 ∧ bt v23 w37.toInt.toNat = true) ∨ (r44.toInt = 0 ∧ bt v23 w37.toInt.toNat = false)) := by have q9 := h47; exact q9
      refine lv_if_ne (tgt := 86) hx hb dX7_together_73 (by decide) (fun c49 => ?_) (fun c49 => ?_)
      · have c49 := mt (ax_eq (n := 0) (by decide)).mpr c49
        have hbf := y_bT h47 c49
        refine lv_iconst (v := 0) hx hb dX7_together_86 (by decide) ?_
        refine lv_istore (lv' := [(4, .int 0), (0, .ref a0), (1, .int x1), (2, .int v23), (3, .int w37)]) hx hb dX7_together_87 hl (by decide) rfl (fun ls hl => ?_)
        refine lv_iconst (v := 0) hx hb dX7_together_89 (by decide) ?_
        refine lv_istore (lv' := [(5, .int 0), (4, .int 0), (0, .ref a0), (1, .int x1), (2, .int v23), (3, .int w37)]) hx hb dX7_together_90 hl (by decide) rfl (fun ls hl => ?_)
        have h52 : (0 : Int32).toInt = 0 := by decide
        have h53 : (0 : Int32).toInt = 0 := by decide
        refine th_loop (fun n g H locs => ∃ (G : Nat → va_E) (ls : Array Slot) (w50 : Int32) (w51 : Int32), g = F0 m 92 ls [] ∧ lv_has ls 6 [(0, .ref a0), (1, .int x1), (2, .int v23), (3, .int w37), (4, .int w50), (5, .int w51)] ∧ va_P (dC, dI) vwCl (va_pl L G) H ∧ va_S (fun q => q ∈ L) s.heap H locs ∧ y_I K cs A G ∧ (∀ b, K b ∉ ([] : List Nat) → G b = F b) ∧ (∀ k, k ∈ ([1, 2, 3, 4, 5, 6, 7, 8, 11, 15, 16, 19, 25, 26, 27, 31, 32] : List Nat) → y_fi G a0 k = z0 k) ∧ True ∧ (0 ≤ w51.toInt ∧ w51.toInt ≤ 8) ∧ (0 ≤ x1.toInt ∧ x1.toInt ≤ 3) ∧ (0 ≤ w37.toInt ∧ w37.toInt ≤ 7) ∧ (y_sub w50 v23) ∧ (w37.toInt < w51.toInt → bt w50 w37.toInt.toNat = true) ∧ n = (9 - w51.toInt).toNat) _ ⟨F40, _, 0, 0, rfl, lv_sub hl [2, 3, 4, 5, 1, 0] rfl, hP, hS, hI, hfr, (fun k hk => (y_fiZ oY42 (s_sub (by decide) hk)).trans (hz0 k hk)), trivial, (by decide), ⟨by omega, by omega⟩, ⟨by omega, by omega⟩, (show (y_sub 0 v23) from (y_sub_0 _)), (show (w37.toInt < (0 : Int32).toInt → bt 0 w37.toInt.toNat = true) from (fun q => absurd q (by omega))), rfl⟩ (fun n ih92 g H locs hq => ?_)
        obtain ⟨F60, ls, w50, w51, rfl, hl, hP, hS, hI, hfr, hz0, h54, h55, h56, h57, h58, h59, hn⟩ := hq
        have o61 : F60 (A 20) = .inl (cs 0, 918, .inl f1) := (hfr _ (by rw [(y_k20 hA)]; decide)).trans o2
        have oY62 : F60 a0 = .inr (7, y_fl A z0 q0) := (hfr _ (by rw [ha0]; decide)).trans oY0
        have hz0 : ∀ k, k ∈ ([1, 2, 3, 4, 5, 6, 7, 8, 11, 15, 16, 19, 25, 26, 27, 31, 32] : List Nat) → z0 k = z0 k := fun _ _ => rfl
        have hn_62 := hn
        refine lv_iload hx hb dX7_together_92 (lv_at hl 5 rfl) ?_
        refine lv_bipush (v := 8) hx hb dX7_together_94 (by decide) ?_
        refine lv_icmp_ge (tgt := 147) hx hb dX7_together_96 (by decide) (fun c63 => ?_) (fun c63 => ?_)
        · have c63 := (ax_ge (n := 8) (by decide)).mp c63
          refine lv_iload hx hb dX7_together_147 (lv_at hl 4 rfl) ?_
          exact W.iret (v := w50) hx hb hr (fun t ht hW => ⟨⟨w50, F60, rfl, ⟨trivial, trivial, hI, hfr, fun k hk => (y_fiZ oY62 (s_sub (by decide) hk)).trans ((hz0 k hk).trans (y_fiZ oY0 (s_sub (by decide) hk)).symm), (by rw [y_atE o2]; exact y_TG1 (by omega) hW0 hca h58 (h59 (by omega)))⟩, by rw [ht]; exact hP, va_K.moved hW.alike hK⟩, hS.F ht⟩) hS.2.2 dX7_together_149
        · have c63 := mt (ax_ge (n := 8) (by decide)).mpr c63
          refine lv_iload_n hx hb dX7_together_99 rfl (lv_at hl 2 rfl) ?_
          refine lv_iload hx hb dX7_together_100 (lv_at hl 5 rfl) ?_
          refine va_calli (va_runS (As := [.int v23, .int w51]) (rest := []) ⟨hx, hb, hml, hown, hts⟩ (y_X7_isOf l dC dI H.size F60 v23 w51 (⟨by omega, by omega⟩)) (cwS 2 hts (ax_gS T_1027 T_1029 T_265 T_1028) rfl rfl rfl (by decide +kernel) ⟨Nat.le_of_ble_eq_true rfl, Nat.le_of_ble_eq_true rfl⟩) ⟨fun a U g mk q => ⟨q.1, s_pc rfl rfl q.2⟩, fun U hU hW => ⟨rfl, s_pw hU hW hP hK hD hN⟩⟩ rfl rfl hl.1 rfl (lv_room (Nat.le_of_ble_eq_true rfl)) dX7_together_102 ⟨Nat.zero_le _, Nat.zero_le _⟩) hS (fun q _ h => h) (fun q h => h) (fun r65 F66 t H1 locs ht hvm hw hB hz1 hk1 hS => ?_)
          obtain ⟨hP, hK1⟩ := hB
          rw [ht] at hP
          generalize H1 = H at hP hS ⊢
          obtain ⟨h67, h69, hG9, h68⟩ := hw
          rw [hG9] at hP
          have h68 : ((r65.toInt = 1 ∧ bt v23 w51.toInt.toNat = true) ∨ (r65.toInt = 0 ∧ bt v23 w51.toInt.toNat = false)) := by have q9 := h68; exact q9
          refine lv_if_eq (tgt := 141) hx hb dX7_together_105 (by decide) (fun c70 => ?_) (fun c70 => ?_)
          · have c70 := (ax_eq (n := 0) (by decide)).mp c70
            have hbk := y_bF h68 c70
            obtain ⟨v71, ev71⟩ : ∃ y : Int32, w51 + 1 = y := ⟨_, rfl⟩
            have qv71 : v71.toInt = w51.toInt + 1 := by rw [← ev71]; exact th_add rfl (by decide) ⟨by omega, by omega⟩
            refine lv_iinc (v := v71) (lv' := [(5, .int v71), (0, .ref a0), (1, .int x1), (2, .int v23), (3, .int w37), (4, .int w50)]) hx hb dX7_together_141 hl (k := 5) rfl ev71 (by decide) rfl (fun ls hl => ?_)
            refine lv_goto (tgt := 92) hx hb dX7_together_144 (by decide) ?_
            exact ih92 _ _ _ _ (by omega) ⟨F60, _, w50, v71, rfl, lv_sub hl [1, 2, 3, 4, 5, 0] rfl, hP, hS, hI, hfr, (fun k hk => (y_fiZ oY62 (s_sub (by decide) hk)).trans (hz0 k hk)), trivial, ⟨by omega, by omega⟩, ⟨by omega, by omega⟩, ⟨by omega, by omega⟩, (show (y_sub w50 v23) from h58), (show (w37.toInt < v71.toInt → bt w50 w37.toInt.toNat = true) from (fun q => h59 (by have q8 : ¬ w37.toInt = w51.toInt := (fun q7 => by rw [q7, hbk] at hbf; cases hbf); omega))), rfl⟩
          · have c70 := mt (ax_eq (n := 0) (by decide)).mpr c70
            have hbk := y_bT h68 c70
            refine lv_aload_n hx hb dX7_together_108 rfl (lv_at hl 0 rfl) ?_
            refine th_get (D := (dC, dI)) (ci := 7) (v := .ref (A 20)) (C := RX7) (T := TX7) (N := 34) hx hb hts inX7 hown hK hP (hLK _ ha0 (by decide)) oY62 rfl 20 (by decide) (hts _ T_251) (fun _ h9 => h9) rfl dX7_together_109 ?_
            refine lv_iload_n hx hb dX7_together_112 rfl (lv_at hl 1 rfl) ?_
            refine lv_iload hx hb dX7_together_113 (lv_at hl 5 rfl) ?_
            refine va_calli (va_runS (As := [.int x1, .int w51]) (rest := [.ref (A 20)]) ⟨hx, hb, hml, hown, hts⟩ (y_X7_nextAt l dC dI H.size F60 x1 w51 (⟨by omega, by omega⟩) (⟨by omega, by omega⟩)) (cwS 2 hts (ax_gS T_1024 T_1026 T_265 T_1025) rfl rfl rfl (by decide +kernel) ⟨Nat.le_of_ble_eq_true rfl, Nat.le_of_ble_eq_true rfl⟩) ⟨fun a U g mk q => ⟨q.1, s_pc rfl rfl q.2⟩, fun U hU hW => ⟨rfl, s_pw hU hW hP hK hD hN⟩⟩ rfl rfl hl.1 rfl (lv_room (Nat.le_of_ble_eq_true rfl)) dX7_together_115 ⟨Nat.zero_le _, Nat.zero_le _⟩) hS (fun q _ h => h) (fun q h => h) (fun r73 F74 t H1 locs ht hvm hw hB hz1 hk1 hS => ?_)
            obtain ⟨hP, hK1⟩ := hB
            rw [ht] at hP
            generalize H1 = H at hP hS ⊢
            obtain ⟨h75, h77, hG9, h76⟩ := hw
            rw [hG9] at hP
            have h76 : (r73.toInt = 256 + 8 * x1.toInt + w51.toInt) := by have q9 := h76; exact q9
            refine th_iald hx hb hK hP (hLK _ (y_k20 hA) (by decide)) 0 o61 rfl (th_in ⟨by omega, by omega⟩) dX7_together_118 ?_
            refine lv_topi (fun v78 ev78 => ?_)
            have Ev78 : v78 = y_c f1 (256 + 8 * x1.toInt + w51.toInt) := ev78.trans (y_ci (by omega))
            have tEv78 := congrArg Int32.toInt Ev78
            refine lv_aload_n hx hb dX7_together_119 rfl (lv_at hl 0 rfl) ?_
            refine th_get (D := (dC, dI)) (ci := 7) (v := .ref (A 20)) (C := RX7) (T := TX7) (N := 34) hx hb hts inX7 hown hK hP (hLK _ ha0 (by decide)) oY62 rfl 20 (by decide) (hts _ T_251) (fun _ h9 => h9) rfl dX7_together_120 ?_
            refine lv_iload_n hx hb dX7_together_123 rfl (lv_at hl 1 rfl) ?_
            refine lv_iload_n hx hb dX7_together_124 rfl (lv_at hl 3 rfl) ?_
            refine va_calli (va_runS (As := [.int x1, .int w37]) (rest := [.ref (A 20), .int v78]) ⟨hx, hb, hml, hown, hts⟩ (y_X7_nextAt l dC dI H.size F60 x1 w37 (⟨by omega, by omega⟩) (⟨by omega, by omega⟩)) (cwS 2 hts (ax_gS T_1024 T_1026 T_265 T_1025) rfl rfl rfl (by decide +kernel) ⟨Nat.le_of_ble_eq_true rfl, Nat.le_of_ble_eq_true rfl⟩) ⟨fun a U g mk q => ⟨q.1, s_pc rfl rfl q.2⟩, fun U hU hW => ⟨rfl, s_pw hU hW hP hK hD hN⟩⟩ rfl rfl hl.1 rfl (lv_room (Nat.le_of_ble_eq_true rfl)) dX7_together_125 ⟨Nat.zero_le _, Nat.zero_le _⟩) hS (fun q _ h => h) (fun q h => h) (fun r80 F81 t H1 locs ht hvm hw hB hz1 hk1 hS => ?_)
            obtain ⟨hP, hK1⟩ := hB
            rw [ht] at hP
            generalize H1 = H at hP hS ⊢
            obtain ⟨h82, h84, hG9, h83⟩ := hw
            rw [hG9] at hP
            have h83 : (r80.toInt = 256 + 8 * x1.toInt + w37.toInt) := by have q9 := h83; exact q9
            refine th_iald hx hb hK hP (hLK _ (y_k20 hA) (by decide)) 0 o61 rfl (th_in ⟨by omega, by omega⟩) dX7_together_128 ?_
            refine lv_topi (fun v85 ev85 => ?_)
            have Ev85 : v85 = y_c f1 (256 + 8 * x1.toInt + w37.toInt) := ev85.trans (y_ci (by omega))
            have tEv85 := congrArg Int32.toInt Ev85
            refine lv_icmp_ne (tgt := 141) hx hb dX7_together_129 (by decide) (fun c86 => ?_) (fun c86 => ?_)
            · have c86 := mt Int32.toInt_inj.symm.mpr c86
              obtain ⟨v87, ev87⟩ : ∃ y : Int32, w51 + 1 = y := ⟨_, rfl⟩
              have qv87 : v87.toInt = w51.toInt + 1 := by rw [← ev87]; exact th_add rfl (by decide) ⟨by omega, by omega⟩
              refine lv_iinc (v := v87) (lv' := [(5, .int v87), (0, .ref a0), (1, .int x1), (2, .int v23), (3, .int w37), (4, .int w50)]) hx hb dX7_together_141 hl (k := 5) rfl ev87 (by decide) rfl (fun ls hl => ?_)
              refine lv_goto (tgt := 92) hx hb dX7_together_144 (by decide) ?_
              exact ih92 _ _ _ _ (by omega) ⟨F60, _, w50, v87, rfl, lv_sub hl [1, 2, 3, 4, 5, 0] rfl, hP, hS, hI, hfr, (fun k hk => (y_fiZ oY62 (s_sub (by decide) hk)).trans (hz0 k hk)), trivial, ⟨by omega, by omega⟩, ⟨by omega, by omega⟩, ⟨by omega, by omega⟩, (show (y_sub w50 v23) from h58), (show (w37.toInt < v87.toInt → bt w50 w37.toInt.toNat = true) from (fun q => h59 (by have q8 : ¬ w37.toInt = w51.toInt := (fun q7 => by rw [q7] at tEv85; omega); omega))), rfl⟩
            · have c86 := Int32.toInt_inj.symm.mp c86
              refine lv_iload hx hb dX7_together_132 (lv_at hl 4 rfl) ?_
              refine lv_iconst (v := 1) hx hb dX7_together_134 (by decide) ?_
              refine lv_iload hx hb dX7_together_135 (lv_at hl 5 rfl) ?_
              refine lv_ishl hx hb dX7_together_137 ?_
              refine lv_topi (fun v88 ev88 => ?_)
              refine lv_ior hx hb dX7_together_138 ?_
              refine lv_topi (fun v89 ev89 => ?_)
              have hor : v89 = w50 ||| (1 : Int32) <<< (w51 &&& 31) := by rw [ev89, ev88]
              refine lv_istore (lv' := [(4, .int v89), (0, .ref a0), (1, .int x1), (2, .int v23), (3, .int w37), (5, .int w51)]) hx hb dX7_together_139 hl (by decide) rfl (fun ls hl => ?_)
              obtain ⟨v90, ev90⟩ : ∃ y : Int32, w51 + 1 = y := ⟨_, rfl⟩
              have qv90 : v90.toInt = w51.toInt + 1 := by rw [← ev90]; exact th_add rfl (by decide) ⟨by omega, by omega⟩
              refine lv_iinc (v := v90) (lv' := [(5, .int v90), (4, .int v89), (0, .ref a0), (1, .int x1), (2, .int v23), (3, .int w37)]) hx hb dX7_together_141 hl (k := 5) rfl ev90 (by decide) rfl (fun ls hl => ?_)
              refine lv_goto (tgt := 92) hx hb dX7_together_144 (by decide) ?_
              exact ih92 _ _ _ _ (by omega) ⟨F60, _, v89, v90, rfl, lv_sub hl [2, 3, 4, 5, 1, 0] rfl, hP, hS, hI, hfr, (fun k hk => (y_fiZ oY62 (s_sub (by decide) hk)).trans (hz0 k hk)), trivial, ⟨by omega, by omega⟩, ⟨by omega, by omega⟩, ⟨by omega, by omega⟩, (show (y_sub v89 v23) from (by rw [hor]; exact y_sub_or ⟨by omega, by omega⟩ h58 hbk)), (show (w37.toInt < v90.toInt → bt v89 w37.toInt.toNat = true) from (fun q => by rw [hor]; exact (y_orb ⟨by omega, by omega⟩ _).mpr ((show w37.toInt < w51.toInt ∨ w37.toInt = w51.toInt by omega).elim (fun q8 => Or.inl (h59 q8)) (fun q8 => Or.inr (by rw [q8]))))), rfl⟩
      · have c49 := (ax_eq (n := 0) (by decide)).mp c49
        have hne9 : ¬ w37.toInt = ii := fun q => by have q8 := y_bF h47 c49; rw [q, hbi] at q8; cases q8
        refine lv_iload_n hx hb dX7_together_76 rfl (lv_at hl 3 rfl) ?_
        refine lv_iconst (v := 1) hx hb dX7_together_77 (by decide) ?_
        refine lv_iadd hx hb dX7_together_78 ?_
        refine lv_topi (fun v91 ev91 => ?_)
        have qv91 : v91.toInt = w37.toInt + 1 := by rw [ev91]; exact th_add rfl (by decide) ⟨by omega, by omega⟩
        refine lv_bipush (v := 8) hx hb dX7_together_79 (by decide) ?_
        refine lv_irem hx hb dX7_together_81 (by decide) ?_
        refine lv_topi (fun v92 ev92 => ?_)
        have qv92 : v92.toInt = v91.toInt % 8 := by rw [ev92]; exact th_rem rfl (by decide) (by omega) (by decide)
        refine lv_istore_n (lv' := [(3, .int v92), (0, .ref a0), (1, .int x1), (2, .int v23)]) hx hb dX7_together_82 rfl hl (by decide) rfl (fun ls hl => ?_)
        have h93 : 0 ≤ v92.toInt ∧ v92.toInt ≤ 7 := ⟨by omega, by omega⟩
        refine lv_goto (tgt := 68) hx hb dX7_together_83 (by decide) ?_
        exact ih68 _ _ _ _ (by omega) ⟨F40, _, v92, rfl, lv_sub hl [1, 2, 3, 0] rfl, hP, hS, hI, hfr, (fun k hk => (y_fiZ oY42 (s_sub (by decide) hk)).trans (hz0 k hk)), ⟨by omega, by omega⟩, ⟨by omega, by omega⟩, rfl⟩
    · have c26 := (ax_eq (n := 0) (by decide)).mp c26
      refine lv_iconst (v := 0) hx hb dX7_together_59 (by decide) ?_
      have h94 : (0 : Int32).toInt = 0 := by decide
      exact W.iret (v := 0) hx hb hr (fun t ht hW => ⟨⟨0, F15, rfl, ⟨trivial, trivial, hI, hfr, fun k hk => (y_fiZ oY20 (s_sub (by decide) hk)).trans ((hz0 k hk).trans (y_fiZ oY0 (s_sub (by decide) hk)).symm), (by rw [y_atE o2]; exact y_TGc (by rw [← hca]; exact y_z32 c26))⟩, by rw [ht]; exact hP, va_K.moved hW.alike hK⟩, hS.F ht⟩) hS.2.2 dX7_together_60
  · have c25 := (ax_eq (n := 0) (by decide)).mp c25
    refine lv_aload_n hx hb dX7_together_25 rfl (lv_at hl 1 rfl) ?_
    refine lv_iload_n hx hb dX7_together_26 rfl (lv_at hl 2 rfl) ?_
    refine va_calli (va_runV (As := [.int x1]) (rest := []) ⟨hx, hb, hml, hown, hts⟩ (y_X7_top l dC dI H.size hLK A hA F15 a0 x1 ha0 (⟨by omega, by omega⟩) hI) (cwV 1 hts (ax_gV T_1074 T_1076 T_1077 T_265 T_1075) rfl rfl rfl (by decide +kernel) ⟨Nat.le_of_ble_eq_true rfl, Nat.le_of_ble_eq_true rfl⟩) ⟨fun a U g mk q => ⟨q.1, s_pc rfl rfl q.2⟩, s_recv hK hP (hLK _ ha0 (by decide)) (ci := 7) rfl oY20, fun U hU hW => ⟨rfl, s_pw hU hW hP hK hD hN⟩⟩ rfl rfl hl.1 rfl (lv_room (Nat.le_of_ble_eq_true rfl)) dX7_together_27 ⟨Nat.zero_le _, Nat.zero_le _⟩) hS (fun q _ h => h) (fun q h => h) (fun r96 F97 t H1 locs ht hvm hw hB hz1 hk1 hS => ?_)
    obtain ⟨hP, hK1⟩ := hB
    rw [ht] at hP
    generalize H1 = H at hP hS ⊢
    obtain ⟨h98, h100, hI, hfr1, hzf, h99⟩ := hw
    have o101 : F97 (A 20) = .inl (cs 0, 918, .inl f1) := (hfr1 _ (by rw [(y_k20 hA)]; decide)).trans o19
    have oY102 : F97 a0 = .inr (7, y_fl A z0 q0) := (hfr1 _ (by rw [ha0]; decide)).trans oY20
    have hfr : ∀ b, K b ∉ ([] : List Nat) → F97 b = F b := fun b hb9 => (hfr1 b (fun q => hb9 (s_sub (by decide) q))).trans (hfr b hb9)
    have h99 : (r96 = y_c f1 (109 + 6 * x1.toInt) - 1) := by have q9 := h99; rw [y_atE o19] at q9; exact q9
    have h103 := congrArg Int32.toInt h99
    have h104 : -1 ≤ r96.toInt ∧ r96.toInt ≤ 14 := by have q9 : r96.toInt = (y_c f1 (109 + 6 * x1.toInt)).toInt - 1 := (by rw [h99]; exact th_sub rfl (by decide) ⟨by omega, by omega⟩); exact ⟨by omega, by omega⟩
    have h105 : r96.toInt = (y_c f1 (109 + 6 * x1.toInt)).toInt - 1 := by rw [h99]; exact th_sub rfl (by decide) ⟨by omega, by omega⟩
    refine lv_if_ge (tgt := 37) hx hb dX7_together_30 (by decide) (fun c106 => ?_) (fun c106 => ?_)
    · have c106 := (ax_ge (n := 0) (by decide)).mp c106
      refine lv_iload_n hx hb dX7_together_37 rfl (lv_at hl 0 rfl) ?_
      refine lv_aload_n hx hb dX7_together_38 rfl (lv_at hl 1 rfl) ?_
      refine th_get (D := (dC, dI)) (ci := 7) (v := .ref (A 20)) (C := RX7) (T := TX7) (N := 34) hx hb hts inX7 hown hK hP (hLK _ ha0 (by decide)) oY102 rfl 20 (by decide) (hts _ T_251) (fun _ h9 => h9) rfl dX7_together_39 ?_
      refine lv_iload_n hx hb dX7_together_42 rfl (lv_at hl 2 rfl) ?_
      refine lv_aload_n hx hb dX7_together_43 rfl (lv_at hl 1 rfl) ?_
      refine lv_iload_n hx hb dX7_together_44 rfl (lv_at hl 2 rfl) ?_
      refine va_calli (va_runV (As := [.int x1]) (rest := [.int x1, .ref (A 20), .int v23]) ⟨hx, hb, hml, hown, hts⟩ (y_X7_top l dC dI H.size hLK A hA F97 a0 x1 ha0 (⟨by omega, by omega⟩) hI) (cwV 1 hts (ax_gV T_1074 T_1076 T_1077 T_265 T_1075) rfl rfl rfl (by decide +kernel) ⟨Nat.le_of_ble_eq_true rfl, Nat.le_of_ble_eq_true rfl⟩) ⟨fun a U g mk q => ⟨q.1, s_pc rfl rfl q.2⟩, s_recv hK hP (hLK _ ha0 (by decide)) (ci := 7) rfl oY102, fun U hU hW => ⟨rfl, s_pw hU hW hP hK hD hN⟩⟩ rfl rfl hl.1 rfl (lv_room (Nat.le_of_ble_eq_true rfl)) dX7_together_45 ⟨Nat.zero_le _, Nat.zero_le _⟩) hS (fun q _ h => h) (fun q h => h) (fun r108 F109 t H1 locs ht hvm hw hB hz1 hk1 hS => ?_)
      obtain ⟨hP, hK1⟩ := hB
      rw [ht] at hP
      generalize H1 = H at hP hS ⊢
      obtain ⟨h110, h112, hI, hfr1, hzf, h111⟩ := hw
      have o113 : F109 (A 20) = .inl (cs 0, 918, .inl f1) := (hfr1 _ (by rw [(y_k20 hA)]; decide)).trans o101
      have oY114 : F109 a0 = .inr (7, y_fl A z0 q0) := (hfr1 _ (by rw [ha0]; decide)).trans oY102
      have hfr : ∀ b, K b ∉ ([] : List Nat) → F109 b = F b := fun b hb9 => (hfr1 b (fun q => hb9 (s_sub (by decide) q))).trans (hfr b hb9)
      have h111 : (r108 = y_c f1 (109 + 6 * x1.toInt) - 1) := by have q9 := h111; rw [y_atE o101] at q9; exact q9
      have h115 := congrArg Int32.toInt h111
      have h116 : 0 ≤ r108.toInt ∧ r108.toInt ≤ 14 := by have q9 : r108.toInt = (y_c f1 (109 + 6 * x1.toInt)).toInt - 1 := (by rw [h111]; exact th_sub rfl (by decide) ⟨by omega, by omega⟩); exact ⟨by omega, by omega⟩
      have h117 : r108.toInt = (y_c f1 (109 + 6 * x1.toInt)).toInt - 1 := by rw [h111]; exact th_sub rfl (by decide) ⟨by omega, by omega⟩
      refine lv_iconst (v := 2) hx hb dX7_together_48 (by decide) ?_
      refine va_calli (va_runS (As := [.int x1, .int r108, .int 2]) (rest := [.ref (A 20), .int v23]) ⟨hx, hb, hml, hown, hts⟩ (y_X7_partAt l dC dI H.size F109 x1 r108 2 (⟨by omega, by omega⟩) (⟨by omega, by omega⟩) (by decide)) (cwS 3 hts (ax_gS T_1078 T_1080 T_265 T_1079) rfl rfl rfl (by decide +kernel) ⟨Nat.le_of_ble_eq_true rfl, Nat.le_of_ble_eq_true rfl⟩) ⟨fun a U g mk q => ⟨q.1, s_pc rfl rfl q.2⟩, fun U hU hW => ⟨rfl, s_pw hU hW hP hK hD hN⟩⟩ rfl rfl hl.1 rfl (lv_room (Nat.le_of_ble_eq_true rfl)) dX7_together_49 ⟨Nat.zero_le _, Nat.zero_le _⟩) hS (fun q _ h => h) (fun q h => h) (fun r119 F120 t H1 locs ht hvm hw hB hz1 hk1 hS => ?_)
      obtain ⟨hP, hK1⟩ := hB
      rw [ht] at hP
      generalize H1 = H at hP hS ⊢
      obtain ⟨h121, h123, hG9, h122⟩ := hw
      rw [hG9] at hP
      have h122 : (r119.toInt = 288 + 48 * x1.toInt + 3 * r108.toInt + 2) := by have q9 := h122; exact q9
      refine th_iald hx hb hK hP (hLK _ (y_k20 hA) (by decide)) 0 o113 rfl (th_in ⟨by omega, by omega⟩) dX7_together_52 ?_
      refine lv_topi (fun v124 ev124 => ?_)
      have Ev124 : v124 = y_c f1 (287 + 48 * x1.toInt + 3 * (y_c f1 (109 + 6 * x1.toInt)).toInt) := ev124.trans (y_ci (by omega))
      have tEv124 := congrArg Int32.toInt Ev124
      refine lv_iand hx hb dX7_together_53 ?_
      refine lv_topi (fun v125 ev125 => ?_)
      exact W.iret (v := v125) hx hb hr (fun t ht hW => ⟨⟨v125, F109, rfl, ⟨trivial, trivial, hI, hfr, fun k hk => (y_fiZ oY114 (s_sub (by decide) hk)).trans ((hz0 k hk).trans (y_fiZ oY0 (s_sub (by decide) hk)).symm), (by rw [y_atE o2]; exact y_TG0 (by omega) hW0 (by omega) (by rw [ev125, hca, Ev124]))⟩, by rw [ht]; exact hP, va_K.moved hW.alike hK⟩, hS.F ht⟩) hS.2.2 dX7_together_54
    · have c106 := mt (ax_ge (n := 0) (by decide)).mpr c106
      refine lv_iconst (v := 0) hx hb dX7_together_33 (by decide) ?_
      refine lv_goto (tgt := 54) hx hb dX7_together_34 (by decide) ?_
      have h126 : (0 : Int32).toInt = 0 := by decide
      exact W.iret (v := 0) hx hb hr (fun t ht hW => ⟨⟨0, F97, rfl, ⟨trivial, trivial, hI, hfr, fun k hk => (y_fiZ oY102 (s_sub (by decide) hk)).trans ((hz0 k hk).trans (y_fiZ oY0 (s_sub (by decide) hk)).symm), (by rw [y_atE o2]; exact y_TGn (by omega) (by omega))⟩, by rw [ht]; exact hP, va_K.moved hW.alike hK⟩, hS.F ht⟩) hS.2.2 dX7_together_54
