set_option maxHeartbeats 4000000 in
set_option maxRecDepth 100000 in
theorem y_X7_goesByStack (l : Launch) (dC : Nat → ClassId) (dI : Nat → Nat → Nat) (sz : Nat) {L : List Nat} {K : Nat → Nat} {cs : Nat → ClassId} (hLK : ∀ a {k : Nat}, K a = k → k ≠ 0 → a ∈ L) (A : Nat → Nat) (hA : y_A K A) (F : Nat → va_E) (a0 : Nat) (x1 : Int32) (x2 : Int32) (x3 : Int32) (ha0 : K a0 = 9) (hx1 : 0 ≤ x1.toInt ∧ x1.toInt ≤ 3) (hx2 : 0 ≤ x2.toInt ∧ x2.toInt ≤ 39) (hI : y_I K cs A F) (hPG : y_PG (y_at F (A 13))) (hln : (x2.toInt < (y_c (y_at F (A 13)) 387).toInt)) (hW0 : y_W0 (y_at F (A 20)) x1.toInt) (hWs : y_Ws (y_c (y_at F (A 13)) 387).toInt (y_at F (A 20)) x1.toInt) (hws3 : (0 < (y_c (y_at F (A 20)) (109 + 6 * x1.toInt)).toInt ∧ y_sub x3 (y_c (y_at F (A 20)) (287 + 48 * x1.toInt + 3 * (y_c (y_at F (A 20)) (109 + 6 * x1.toInt)).toInt)))) : Met l yX7_goesByStack (Cond.code yX7_goesByStack cX7_goesByStack 5 none :: T0) ({ frames := 5, cells := 0, slots := 0, locals := 118 }) (va_Pc [.ref a0, .int x1, .int x2, .int x3] (s_W dC dI sz L F [(cs 0, .int), (cs 1, .byte), (cs 2, .long), (cs 3, .object RX5), (cs 4, .object RX4), (cs 5, .array .int), (cs 6, .char), (cs 7, .boolean)])) (va_Qv (fun (G : Nat → va_E) => True ∧ True ∧ y_I K cs A G ∧ (∀ b, K b ∉ [70] → G b = F b) ∧ (∀ k, k ∈ ([1, 2, 3, 4, 5, 6, 7, 8, 11, 15, 16, 19, 25, 26, 27, 31, 32] : List Nat) → y_fi G a0 k = y_fi F a0 k) ∧ (y_W0 (y_at G (A 20)) x1.toInt ∧ y_Ws (y_c (y_at F (A 13)) 387).toInt (y_at G (A 20)) x1.toInt ∧ y_Wt (y_c (y_at F (A 13)) 387).toInt (y_at G (A 20)) x1.toInt ∧ y_fw x1.toInt (y_at F (A 20)) (y_at G (A 20)))) (fun (G : Nat → va_E) (t : State) => va_P (dC, dI) vwCl (va_pl L G) t.heap ∧ va_K (dC, dI) vwCl [(cs 0, .int), (cs 1, .byte), (cs 2, .long), (cs 3, .object RX5), (cs 4, .object RX4), (cs 5, .array .int), (cs 6, .char), (cs 7, .boolean)] t) (fun q => q ∈ L)) 0 0 (fun q => q ∈ L) := by
  refine Met.ofW (cc := cX7_goesByStack) (maxL := 5) (ret := none) (by decide) rfl ?_
  intro p e s m args below meth c s₁ B hml hv
  obtain ⟨rfl, hsz, hP, hK, hD, hN⟩ := hv
  have hx := B.exec
  have hb := B.bytes
  have hr := B.returns
  have hts : ∀ w ∈ T0, w.before _ s = true := fun w h => atoms_spec (ws := Cond.code yX7_goesByStack cX7_goesByStack 5 none :: T0) B.pre w (List.mem_cons_of_mem _ h)
  have hown : s.vm.findClass RX7 = some m.cls := findClass_of_methodNamed B.named
  have hlocks := B.notSynchronized
  have hS : va_S (fun q => q ∈ L) s.heap s.heap [] := va_S.rf
  have hfr : ∀ b, K b ∉ [70] → F b = F b := fun _ _ => rfl
  have hl := lv_entry ([.ref a0, .int x1, .int x2, .int x3]) (n := 5) (Nat.le_of_ble_eq_true rfl)
  rw [lg_entry_eq]
  generalize (lg_sl ([.ref a0, .int x1, .int x2, .int x3]) ++ List.replicate (5 - (lg_sl ([.ref a0, .int x1, .int x2, .int x3])).length) Slot.unset).toArray = ls at hl ⊢
  have hl : lv_has ls 5 [(0, .ref a0), (1, .int x1), (2, .int x2), (3, .int x3)] := hl
  refine s_gen hP hS (fun H locs hP hS => ?_)
  obtain ⟨z0, q0, oY0, bz0, bq0⟩ := y_opY hI ha0
  have hz0 : ∀ k, k ∈ ([1, 2, 3, 4, 5, 6, 7, 8, 11, 15, 16, 19, 25, 26, 27, 31, 32] : List Nat) → z0 k = z0 k := fun _ _ => rfl
  obtain ⟨f1, o2, b3⟩ := y_op13 hI
  obtain ⟨f4, o5, b6⟩ := y_op20 hI
  have hPG : y_PG f1 := by have q9 := hPG; rw [y_atE o2] at q9; exact q9
  have hln : (x2.toInt < (y_c f1 387).toInt) := by have q9 := hln; rw [y_atE o2] at q9; exact q9
  have hW0 : y_W0 f4 x1.toInt := by have q9 := hW0; rw [y_atE o5] at q9; exact q9
  have hWs : y_Ws (y_c f1 387).toInt f4 x1.toInt := by have q9 := hWs; rw [y_atE o2, y_atE o5] at q9; exact q9
  have hws3 : (0 < (y_c f4 (109 + 6 * x1.toInt)).toInt ∧ y_sub x3 (y_c f4 (287 + 48 * x1.toInt + 3 * (y_c f4 (109 + 6 * x1.toInt)).toInt))) := by have q9 := hws3; rw [y_atE o5] at q9; exact q9
  have hL := y_P0L hPG.1
  have hW := y_P0W hPG.1
  have hn7 := hW0.2.2.2
  have hn0 := hws3.1
  have hrg := hPG.1.1.1 x2.toInt (by omega) (by omega)
  unfold y_rg at hrg
  refine th_join (fun g H locs => ∃ (G : Nat → va_E) (ls : Array Slot), g = F0 m 69 ls [] ∧ lv_has ls 5 [(0, .ref a0), (1, .int x1)] ∧ va_P (dC, dI) vwCl (va_pl L G) H ∧ va_S (fun q => q ∈ L) s.heap H locs ∧ y_I K cs A G ∧ (∀ b, K b ∉ [70] → G b = F b) ∧ (∀ k, k ∈ ([1, 2, 3, 4, 5, 6, 7, 8, 11, 15, 16, 19, 25, 26, 27, 31, 32] : List Nat) → y_fi G a0 k = z0 k) ∧ (0 ≤ x1.toInt ∧ x1.toInt ≤ 3) ∧ y_W0 (y_at G (A 20)) x1.toInt ∧ y_Ws (y_c f1 387).toInt (y_at G (A 20)) x1.toInt ∧ y_fw x1.toInt f4 (y_at G (A 20))) (fun K69 => ?_) ?_
  refine th_join (fun g H locs => ∃ (G : Nat → va_E) (ls : Array Slot) (w8 : Int32), g = F0 m 57 ls [] ∧ lv_has ls 5 [(0, .ref a0), (1, .int x1), (4, .int w8)] ∧ va_P (dC, dI) vwCl (va_pl L G) H ∧ va_S (fun q => q ∈ L) s.heap H locs ∧ y_I K cs A G ∧ (∀ b, K b ∉ [70] → G b = F b) ∧ (∀ k, k ∈ ([1, 2, 3, 4, 5, 6, 7, 8, 11, 15, 16, 19, 25, 26, 27, 31, 32] : List Nat) → y_fi G a0 k = z0 k) ∧ (0 ≤ w8.toInt ∧ w8.toInt ≤ 15) ∧ (0 ≤ x1.toInt ∧ x1.toInt ≤ 3) ∧ y_W0 (y_at G (A 20)) x1.toInt ∧ y_Ws (y_c f1 387).toInt (y_at G (A 20)) x1.toInt ∧ y_fw x1.toInt f4 (y_at G (A 20))) (fun K57 => ?_) ?_
  · refine lv_aload_n hx hb dX7_goesByStack_0 rfl (lv_at hl 0 rfl) ?_
    refine lv_iload_n hx hb dX7_goesByStack_1 rfl (lv_at hl 2 rfl) ?_
    refine lv_iconst (v := 0) hx hb dX7_goesByStack_2 (by decide) ?_
    refine va_calli (va_runV (As := [.int x2, .int 0]) (rest := []) ⟨hx, hb, hml, hown, hts⟩ (y_X7_of l dC dI H.size hLK A hA F a0 x2 0 ha0 (⟨by omega, by omega⟩) (by decide) hI) (cwV 2 hts (ax_gV T_1131 T_1133 T_1134 T_265 T_1132) rfl rfl rfl (by decide +kernel) ⟨Nat.le_of_ble_eq_true rfl, Nat.le_of_ble_eq_true rfl⟩) ⟨fun a U g mk q => ⟨q.1, s_pc rfl rfl q.2⟩, s_recv hK hP (hLK _ ha0 (by decide)) (ci := 7) rfl oY0, fun U hU hW => ⟨rfl, s_pw hU hW hP hK hD hN⟩⟩ rfl rfl hl.1 rfl (lv_room (Nat.le_of_ble_eq_true rfl)) dX7_goesByStack_3 ⟨Nat.zero_le _, Nat.zero_le _⟩) hS (fun q _ h => h) (fun q h => h) (fun r10 F11 t H1 locs ht hvm hw hB hz1 hk1 hS => ?_)
    obtain ⟨hP, hK1⟩ := hB
    rw [ht] at hP
    generalize H1 = H at hP hS ⊢
    obtain ⟨h12, h14, hI, hfr1, hzf, h13⟩ := hw
    have o15 : F11 (A 13) = .inl (cs 0, 400, .inl f1) := (hfr1 _ (by rw [(y_k13 hA)]; decide)).trans o2
    have o16 : F11 (A 20) = .inl (cs 0, 918, .inl f4) := (hfr1 _ (by rw [(y_k20 hA)]; decide)).trans o5
    have oY17 : F11 a0 = .inr (7, y_fl A z0 q0) := (hfr1 _ (by rw [ha0]; decide)).trans oY0
    have hfr : ∀ b, K b ∉ [70] → F11 b = F b := fun b hb9 => (hfr1 b (fun q => hb9 (s_sub (by decide) q))).trans (hfr b hb9)
    have h13 : (r10 = y_c f1 (8 * x2.toInt + 0)) := by have q9 := h13; rw [y_atE o2] at q9; exact q9
    have h13 : r10 = y_c f1 (8 * x2.toInt) := h13.trans (congrArg (y_c f1) (by omega))
    have h18 := congrArg Int32.toInt h13
    have h19 : 0 ≤ r10.toInt ∧ r10.toInt ≤ 15 := by have q9 := congrArg Int32.toInt h13; exact ⟨by omega, by omega⟩
    refine lv_istore (lv' := [(4, .int r10), (0, .ref a0), (1, .int x1), (2, .int x2), (3, .int x3)]) hx hb dX7_goesByStack_6 hl (by decide) rfl (fun ls hl => ?_)
    refine lv_iload hx hb dX7_goesByStack_8 (lv_at hl 0 rfl) ?_
    refine lv_bipush (v := 12) hx hb dX7_goesByStack_10 (by decide) ?_
    refine lv_icmp_ne (tgt := 25) hx hb dX7_goesByStack_12 (by decide) (fun c20 => ?_) (fun c20 => ?_)
    · have c20 := mt (ax_eq (n := 12) (by decide)).mpr c20
      refine lv_aload_n hx hb dX7_goesByStack_25 rfl (lv_at hl 1 rfl) ?_
      refine th_get (D := (dC, dI)) (ci := 7) (v := .ref (A 20)) (C := RX7) (T := TX7) (N := 34) hx hb hts inX7 hown hK hP (hLK _ ha0 (by decide)) oY17 rfl 20 (by decide) (hts _ T_251) (fun _ h9 => h9) rfl dX7_goesByStack_26 ?_
      refine lv_iload_n hx hb dX7_goesByStack_29 rfl (lv_at hl 2 rfl) ?_
      refine lv_aload_n hx hb dX7_goesByStack_30 rfl (lv_at hl 1 rfl) ?_
      refine lv_iload_n hx hb dX7_goesByStack_31 rfl (lv_at hl 2 rfl) ?_
      refine va_calli (va_runV (As := [.int x1]) (rest := [.int x1, .ref (A 20)]) ⟨hx, hb, hml, hown, hts⟩ (y_X7_top l dC dI H.size hLK A hA F11 a0 x1 ha0 (⟨by omega, by omega⟩) hI) (cwV 1 hts (ax_gV T_1074 T_1076 T_1077 T_265 T_1075) rfl rfl rfl (by decide +kernel) ⟨Nat.le_of_ble_eq_true rfl, Nat.le_of_ble_eq_true rfl⟩) ⟨fun a U g mk q => ⟨q.1, s_pc rfl rfl q.2⟩, s_recv hK hP (hLK _ ha0 (by decide)) (ci := 7) rfl oY17, fun U hU hW => ⟨rfl, s_pw hU hW hP hK hD hN⟩⟩ rfl rfl hl.1 rfl (lv_room (Nat.le_of_ble_eq_true rfl)) dX7_goesByStack_32 ⟨Nat.zero_le _, Nat.zero_le _⟩) hS (fun q _ h => h) (fun q h => h) (fun r22 F23 t H1 locs ht hvm hw hB hz1 hk1 hS => ?_)
      obtain ⟨hP, hK1⟩ := hB
      rw [ht] at hP
      generalize H1 = H at hP hS ⊢
      obtain ⟨h24, h26, hI, hfr1, hzf, h25⟩ := hw
      have o27 : F23 (A 13) = .inl (cs 0, 400, .inl f1) := (hfr1 _ (by rw [(y_k13 hA)]; decide)).trans o15
      have o28 : F23 (A 20) = .inl (cs 0, 918, .inl f4) := (hfr1 _ (by rw [(y_k20 hA)]; decide)).trans o16
      have oY29 : F23 a0 = .inr (7, y_fl A z0 q0) := (hfr1 _ (by rw [ha0]; decide)).trans oY17
      have hfr : ∀ b, K b ∉ [70] → F23 b = F b := fun b hb9 => (hfr1 b (fun q => hb9 (s_sub (by decide) q))).trans (hfr b hb9)
      have h25 : (r22 = y_c f4 (109 + 6 * x1.toInt) - 1) := by have q9 := h25; rw [y_atE o16] at q9; exact q9
      have h30 := congrArg Int32.toInt h25
      have h31 : 0 ≤ r22.toInt ∧ r22.toInt ≤ 14 := by have q9 : r22.toInt = (y_c f4 (109 + 6 * x1.toInt)).toInt - 1 := (by rw [h25]; exact th_sub rfl (by decide) ⟨by omega, by omega⟩); exact ⟨by omega, by omega⟩
      have h32 : r22.toInt = (y_c f4 (109 + 6 * x1.toInt)).toInt - 1 := by rw [h25]; exact th_sub rfl (by decide) ⟨by omega, by omega⟩
      refine lv_iconst (v := 0) hx hb dX7_goesByStack_35 (by decide) ?_
      refine va_calli (va_runS (As := [.int x1, .int r22, .int 0]) (rest := [.ref (A 20)]) ⟨hx, hb, hml, hown, hts⟩ (y_X7_partAt l dC dI H.size F23 x1 r22 0 (⟨by omega, by omega⟩) (⟨by omega, by omega⟩) (by decide)) (cwS 3 hts (ax_gS T_1078 T_1080 T_265 T_1079) rfl rfl rfl (by decide +kernel) ⟨Nat.le_of_ble_eq_true rfl, Nat.le_of_ble_eq_true rfl⟩) ⟨fun a U g mk q => ⟨q.1, s_pc rfl rfl q.2⟩, fun U hU hW => ⟨rfl, s_pw hU hW hP hK hD hN⟩⟩ rfl rfl hl.1 rfl (lv_room (Nat.le_of_ble_eq_true rfl)) dX7_goesByStack_36 ⟨Nat.zero_le _, Nat.zero_le _⟩) hS (fun q _ h => h) (fun q h => h) (fun r34 F35 t H1 locs ht hvm hw hB hz1 hk1 hS => ?_)
      obtain ⟨hP, hK1⟩ := hB
      rw [ht] at hP
      generalize H1 = H at hP hS ⊢
      obtain ⟨h36, h38, hG9, h37⟩ := hw
      rw [hG9] at hP
      have h37 : (r34.toInt = 288 + 48 * x1.toInt + 3 * r22.toInt + 0) := by have q9 := h37; exact q9
      refine lv_iload hx hb dX7_goesByStack_39 (lv_at hl 0 rfl) ?_
      refine lv_bipush (v := 15) hx hb dX7_goesByStack_41 (by decide) ?_
      refine lv_icmp_ne (tgt := 53) hx hb dX7_goesByStack_43 (by decide) (fun c39 => ?_) (fun c39 => ?_)
      · have c39 := mt (ax_eq (n := 15) (by decide)).mpr c39
        refine lv_iload_n hx hb dX7_goesByStack_53 rfl (lv_at hl 3 rfl) ?_
        refine lv_iconst (v := 1) hx hb dX7_goesByStack_54 (by decide) ?_
        refine lv_iadd hx hb dX7_goesByStack_55 ?_
        refine lv_topi (fun v40 ev40 => ?_)
        have qv40 : v40.toInt = x2.toInt + 1 := by rw [ev40]; exact th_add rfl (by decide) ⟨by omega, by omega⟩
        refine th_iast hx hb hK hP hD hS (hLK _ (y_k20 hA) (by decide)) 0 o28 rfl (th_in ⟨by omega, by omega⟩) dX7_goesByStack_56 (fun H locs hP hS => ?_)
        obtain ⟨f41, u42⟩ : ∃ g : Nat → Int32, g = upd f4 (r34 : Int32).toNatClampNeg v40 := ⟨_, rfl⟩
        rw [← u42] at hP
        have b43 : y_bd 20 f41 := trivial
        have hP : va_P (dC, dI) vwCl (va_pl L (va_up F23 (A 20) (.inl (cs 0, 918, .inl f41)))) H := hP
        obtain ⟨F44, hF45⟩ : ∃ G : Nat → va_E, G = va_up F23 (A 20) (.inl (cs 0, 918, .inl f41)) := ⟨_, rfl⟩
        rw [← hF45] at hP
        have hI : y_I K cs A F44 := by rw [hF45]; exact y_clA (i := 20) hA hI (by decide) b43
        have hfr : ∀ b, K b ∉ [70] → F44 b = F b := by rw [hF45]; exact s_fr hfr (y_k20 hA) (by decide)
        have o46 : F44 (A 13) = .inl (cs 0, 400, .inl f1) := by rw [hF45]; exact th_ne (th_kd (y_k13 hA) (y_k20 hA) (by decide)) o27
        have oY47 : F44 a0 = .inr (7, y_fl A z0 q0) := by rw [hF45]; exact th_ne (th_kd ha0 (y_k20 hA) (by decide)) oY29
        have o48 : F44 (A 20) = .inl (cs 0, 918, .inl f41) := by rw [hF45]; exact th_up
        have u49 : ∀ j : Int, 0 ≤ j → y_c f41 j = if j = r34.toInt then v40 else y_c f4 j := by rw [u42]; exact y_cu rfl (by omega)
        obtain ⟨k50a, k50b⟩ := y_Ws_top (L := (y_c f1 387).toInt) (v := v40) ⟨by omega, by omega⟩ u49 (by omega) ⟨by omega, by omega⟩ hW0 (by omega) hWs
        have hn51 := k50a.2.2.2
        exact K57 _ _ _ ⟨F44, _, r10, rfl, lv_sub hl [1, 2, 0] rfl, hP, hS, hI, hfr, (fun k hk => (y_fiZ oY47 (s_sub (by decide) hk)).trans (hz0 k hk)), ⟨by omega, by omega⟩, ⟨by omega, by omega⟩, (by rw [y_atE o48]; exact k50a), (by rw [y_atE o48]; exact k50b), (by rw [y_atE o48]; exact (y_fw_u u49 (by omega)))⟩
      · have c39 := (ax_eq (n := 15) (by decide)).mp c39
        refine lv_aload_n hx hb dX7_goesByStack_46 rfl (lv_at hl 1 rfl) ?_
        refine va_calli (va_runV (As := []) (rest := [.int r34, .ref (A 20)]) ⟨hx, hb, hml, hown, hts⟩ (y_X7_lines l dC dI H.size hLK A hA F23 a0 ha0 hI) (cwV 0 hts (ax_gV T_1030 T_1032 T_1033 T_265 T_1031) rfl rfl rfl (by decide +kernel) ⟨Nat.le_of_ble_eq_true rfl, Nat.le_of_ble_eq_true rfl⟩) ⟨fun a U g mk q => ⟨q.1, s_pc rfl rfl q.2⟩, s_recv hK hP (hLK _ ha0 (by decide)) (ci := 7) rfl oY29, fun U hU hW => ⟨rfl, s_pw hU hW hP hK hD hN⟩⟩ rfl rfl hl.1 rfl (lv_room (Nat.le_of_ble_eq_true rfl)) dX7_goesByStack_47 ⟨Nat.zero_le _, Nat.zero_le _⟩) hS (fun q _ h => h) (fun q h => h) (fun r53 F54 t H1 locs ht hvm hw hB hz1 hk1 hS => ?_)
        obtain ⟨hP, hK1⟩ := hB
        rw [ht] at hP
        generalize H1 = H at hP hS ⊢
        obtain ⟨h55, h57, hI, hfr1, hzf, h56⟩ := hw
        have o58 : F54 (A 13) = .inl (cs 0, 400, .inl f1) := (hfr1 _ (by rw [(y_k13 hA)]; decide)).trans o27
        have o59 : F54 (A 20) = .inl (cs 0, 918, .inl f4) := (hfr1 _ (by rw [(y_k20 hA)]; decide)).trans o28
        have oY60 : F54 a0 = .inr (7, y_fl A z0 q0) := (hfr1 _ (by rw [ha0]; decide)).trans oY29
        have hfr : ∀ b, K b ∉ [70] → F54 b = F b := fun b hb9 => (hfr1 b (fun q => hb9 (s_sub (by decide) q))).trans (hfr b hb9)
        have h56 : (r53 = y_c f1 387) := by have q9 := h56; rw [y_atE o27] at q9; exact q9
        have h61 := congrArg Int32.toInt h56
        have h62 : 1 ≤ r53.toInt ∧ r53.toInt ≤ 40 := ⟨by omega, by omega⟩
        refine lv_goto (tgt := 56) hx hb dX7_goesByStack_50 (by decide) ?_
        refine th_iast hx hb hK hP hD hS (hLK _ (y_k20 hA) (by decide)) 0 o59 rfl (th_in ⟨by omega, by omega⟩) dX7_goesByStack_56 (fun H locs hP hS => ?_)
        obtain ⟨f63, u64⟩ : ∃ g : Nat → Int32, g = upd f4 (r34 : Int32).toNatClampNeg r53 := ⟨_, rfl⟩
        rw [← u64] at hP
        have b65 : y_bd 20 f63 := trivial
        have hP : va_P (dC, dI) vwCl (va_pl L (va_up F54 (A 20) (.inl (cs 0, 918, .inl f63)))) H := hP
        obtain ⟨F66, hF67⟩ : ∃ G : Nat → va_E, G = va_up F54 (A 20) (.inl (cs 0, 918, .inl f63)) := ⟨_, rfl⟩
        rw [← hF67] at hP
        have hI : y_I K cs A F66 := by rw [hF67]; exact y_clA (i := 20) hA hI (by decide) b65
        have hfr : ∀ b, K b ∉ [70] → F66 b = F b := by rw [hF67]; exact s_fr hfr (y_k20 hA) (by decide)
        have o68 : F66 (A 13) = .inl (cs 0, 400, .inl f1) := by rw [hF67]; exact th_ne (th_kd (y_k13 hA) (y_k20 hA) (by decide)) o58
        have oY69 : F66 a0 = .inr (7, y_fl A z0 q0) := by rw [hF67]; exact th_ne (th_kd ha0 (y_k20 hA) (by decide)) oY60
        have o70 : F66 (A 20) = .inl (cs 0, 918, .inl f63) := by rw [hF67]; exact th_up
        have u71 : ∀ j : Int, 0 ≤ j → y_c f63 j = if j = r34.toInt then r53 else y_c f4 j := by rw [u64]; exact y_cu rfl (by omega)
        obtain ⟨k72a, k72b⟩ := y_Ws_top (L := (y_c f1 387).toInt) (v := r53) ⟨by omega, by omega⟩ u71 (by omega) ⟨by omega, by omega⟩ hW0 (by omega) hWs
        have hn73 := k72a.2.2.2
        exact K57 _ _ _ ⟨F66, _, r10, rfl, lv_sub hl [1, 2, 0] rfl, hP, hS, hI, hfr, (fun k hk => (y_fiZ oY69 (s_sub (by decide) hk)).trans (hz0 k hk)), ⟨by omega, by omega⟩, ⟨by omega, by omega⟩, (by rw [y_atE o70]; exact k72a), (by rw [y_atE o70]; exact k72b), (by rw [y_atE o70]; exact (y_fw_u u71 (by omega)))⟩
    · have c20 := (ax_eq (n := 12) (by decide)).mp c20
      refine lv_aload_n hx hb dX7_goesByStack_15 rfl (lv_at hl 1 rfl) ?_
      refine lv_iload_n hx hb dX7_goesByStack_16 rfl (lv_at hl 2 rfl) ?_
      refine lv_iload_n hx hb dX7_goesByStack_17 rfl (lv_at hl 3 rfl) ?_
      refine lv_iload_n hx hb dX7_goesByStack_18 rfl (lv_at hl 4 rfl) ?_
      refine va_callv (va_runV (As := [.int x1, .int x2, .int x3]) (rest := []) ⟨hx, hb, hml, hown, hts⟩ (y_X7_partsWays l dC dI H.size hLK A hA F11 a0 x1 x2 x3 ha0 (⟨by omega, by omega⟩) (⟨by omega, by omega⟩) hI (by rw [y_atE o15]; exact hPG) (by first | (rw [y_atE o15]; omega) | rw [y_atE o15]) (by rw [y_atE o16]; exact hW0) (by rw [y_atE o15, y_atE o16]; exact hWs) (by rw [y_atE o16]; exact hws3) (by first | (rw [y_atE o15]; omega) | rw [y_atE o15])) (cwV 3 hts (ax_gV T_1155 T_1157 T_1158 T_265 T_1156) rfl rfl rfl (by decide +kernel) ⟨Nat.le_of_ble_eq_true rfl, Nat.le_of_ble_eq_true rfl⟩) ⟨fun a U g mk q => ⟨q.1, s_pc rfl rfl q.2⟩, s_recv hK hP (hLK _ ha0 (by decide)) (ci := 7) rfl oY17, fun U hU hW => ⟨rfl, s_pw hU hW hP hK hD hN⟩⟩ rfl rfl hl.1 rfl (lv_room (Nat.le_of_ble_eq_true rfl)) dX7_goesByStack_19 ⟨Nat.zero_le _, Nat.zero_le _⟩) hS (fun q _ h => h) (fun q h => h) (fun F75 t H1 locs ht hvm hw hB hz1 hk1 hS => ?_)
      obtain ⟨hP, hK1⟩ := hB
      rw [ht] at hP
      generalize H1 = H at hP hS ⊢
      obtain ⟨h76, h78, hI, hfr1, hzf, h77⟩ := hw
      have o79 : F75 (A 13) = .inl (cs 0, 400, .inl f1) := (hfr1 _ (by rw [(y_k13 hA)]; decide)).trans o15
      have oY80 : F75 a0 = .inr (7, y_fl A z0 q0) := (hfr1 _ (by rw [ha0]; decide)).trans oY17
      have hfr : ∀ b, K b ∉ [70] → F75 b = F b := fun b hb9 => (hfr1 b (fun q => hb9 (s_sub (by decide) q))).trans (hfr b hb9)
      obtain ⟨f81, o82, b83⟩ := y_op20 hI
      have h77 : (y_W0 f81 x1.toInt ∧ y_Ws (y_c f1 387).toInt f81 x1.toInt ∧ y_fw x1.toInt f4 f81 ∧ 0 < (y_c f81 (109 + 6 * x1.toInt)).toInt) := by have q9 := h77; rw [y_atE o82, y_atE o15, y_atE o16] at q9; exact q9
      have hn84 := h77.1.2.2.2
      refine lv_goto (tgt := 57) hx hb dX7_goesByStack_22 (by decide) ?_
      exact K57 _ _ _ ⟨F75, _, r10, rfl, lv_sub hl [1, 2, 0] rfl, hP, hS, hI, hfr, (fun k hk => (y_fiZ oY80 (s_sub (by decide) hk)).trans (hz0 k hk)), ⟨by omega, by omega⟩, ⟨by omega, by omega⟩, (by rw [y_atE o82]; exact h77.1), (by rw [y_atE o82]; exact h77.2.1), (by rw [y_atE o82]; exact h77.2.2.1)⟩
  · intro g H locs hq
    obtain ⟨F90, ls, w8, rfl, hl, hP, hS, hI, hfr, hz0, h85, h86, h87, h88, h89⟩ := hq
    have o91 : F90 (A 13) = .inl (cs 0, 400, .inl f1) := (hfr _ (by rw [(y_k13 hA)]; decide)).trans o2
    have oY92 : F90 a0 = .inr (7, y_fl A z0 q0) := (hfr _ (by rw [ha0]; decide)).trans oY0
    have hz0 : ∀ k, k ∈ ([1, 2, 3, 4, 5, 6, 7, 8, 11, 15, 16, 19, 25, 26, 27, 31, 32] : List Nat) → z0 k = z0 k := fun _ _ => rfl
    obtain ⟨f93, o94, b95⟩ := y_op20 hI
    have h87 : y_W0 f93 x1.toInt := by have q9 := h87; rw [y_atE o94] at q9; exact q9
    have h88 : y_Ws (y_c f1 387).toInt f93 x1.toInt := by have q9 := h88; rw [y_atE o94] at q9; exact q9
    have h89 : y_fw x1.toInt f4 f93 := by have q9 := h89; rw [y_atE o94] at q9; exact q9
    have hn96 := h87.2.2.2
    refine lv_iload hx hb dX7_goesByStack_57 (lv_at hl 2 rfl) ?_
    refine lv_bipush (v := 14) hx hb dX7_goesByStack_59 (by decide) ?_
    refine lv_icmp_ne (tgt := 69) hx hb dX7_goesByStack_61 (by decide) (fun c97 => ?_) (fun c97 => ?_)
    · have c97 := mt (ax_eq (n := 14) (by decide)).mpr c97
      exact K69 _ _ _ ⟨F90, _, rfl, lv_sub hl [0, 1] rfl, hP, hS, hI, hfr, (fun k hk => (y_fiZ oY92 (s_sub (by decide) hk)).trans (hz0 k hk)), ⟨by omega, by omega⟩, (by rw [y_atE o94]; exact h87), (by rw [y_atE o94]; exact h88), (by rw [y_atE o94]; exact h89)⟩
    · have c97 := (ax_eq (n := 14) (by decide)).mp c97
      refine lv_aload_n hx hb dX7_goesByStack_64 rfl (lv_at hl 0 rfl) ?_
      refine lv_iload_n hx hb dX7_goesByStack_65 rfl (lv_at hl 1 rfl) ?_
      refine va_callv (va_runV (As := [.int x1]) (rest := []) ⟨hx, hb, hml, hown, hts⟩ (y_X7_changesParts l dC dI H.size hLK A hA F90 a0 x1 ha0 (⟨by omega, by omega⟩) hI (by rw [y_atE o94]; exact h87) (by rw [y_atE o91, y_atE o94]; exact h88)) (cwV 1 hts (ax_gV T_1159 T_1161 T_1162 T_265 T_1160) rfl rfl rfl (by decide +kernel) ⟨Nat.le_of_ble_eq_true rfl, Nat.le_of_ble_eq_true rfl⟩) ⟨fun a U g mk q => ⟨q.1, s_pc rfl rfl q.2⟩, s_recv hK hP (hLK _ ha0 (by decide)) (ci := 7) rfl oY92, fun U hU hW => ⟨rfl, s_pw hU hW hP hK hD hN⟩⟩ rfl rfl hl.1 rfl (lv_room (Nat.le_of_ble_eq_true rfl)) dX7_goesByStack_66 ⟨Nat.zero_le _, Nat.zero_le _⟩) hS (fun q _ h => h) (fun q h => h) (fun F99 t H1 locs ht hvm hw hB hz1 hk1 hS => ?_)
      obtain ⟨hP, hK1⟩ := hB
      rw [ht] at hP
      generalize H1 = H at hP hS ⊢
      obtain ⟨h100, h102, hI, hfr1, hzf, h101⟩ := hw
      have o103 : F99 (A 13) = .inl (cs 0, 400, .inl f1) := (hfr1 _ (by rw [(y_k13 hA)]; decide)).trans o91
      have oY104 : F99 a0 = .inr (7, y_fl A z0 q0) := (hfr1 _ (by rw [ha0]; decide)).trans oY92
      have hfr : ∀ b, K b ∉ [70] → F99 b = F b := fun b hb9 => (hfr1 b (fun q => hb9 (s_sub (by decide) q))).trans (hfr b hb9)
      obtain ⟨f105, o106, b107⟩ := y_op20 hI
      have h101 : (y_W0 f105 x1.toInt ∧ y_Ws (y_c f1 387).toInt f105 x1.toInt ∧ y_fw x1.toInt f93 f105) := by have q9 := h101; rw [y_atE o106, y_atE o91, y_atE o94] at q9; exact q9
      have hn108 := h101.1.2.2.2
      exact K69 _ _ _ ⟨F99, _, rfl, lv_sub hl [0, 1] rfl, hP, hS, hI, hfr, (fun k hk => (y_fiZ oY104 (s_sub (by decide) hk)).trans (hz0 k hk)), ⟨by omega, by omega⟩, (by rw [y_atE o106]; exact h101.1), (by rw [y_atE o106]; exact h101.2.1), (by rw [y_atE o106]; exact (y_fw_t h89 h101.2.2))⟩
  · intro g H locs hq
    obtain ⟨F113, ls, rfl, hl, hP, hS, hI, hfr, hz0, h109, h110, h111, h112⟩ := hq
    have o114 : F113 (A 13) = .inl (cs 0, 400, .inl f1) := (hfr _ (by rw [(y_k13 hA)]; decide)).trans o2
    have oY115 : F113 a0 = .inr (7, y_fl A z0 q0) := (hfr _ (by rw [ha0]; decide)).trans oY0
    have hz0 : ∀ k, k ∈ ([1, 2, 3, 4, 5, 6, 7, 8, 11, 15, 16, 19, 25, 26, 27, 31, 32] : List Nat) → z0 k = z0 k := fun _ _ => rfl
    obtain ⟨f116, o117, b118⟩ := y_op20 hI
    have h110 : y_W0 f116 x1.toInt := by have q9 := h110; rw [y_atE o117] at q9; exact q9
    have h111 : y_Ws (y_c f1 387).toInt f116 x1.toInt := by have q9 := h111; rw [y_atE o117] at q9; exact q9
    have h112 : y_fw x1.toInt f4 f116 := by have q9 := h112; rw [y_atE o117] at q9; exact q9
    have hn119 := h110.2.2.2
    refine lv_aload_n hx hb dX7_goesByStack_69 rfl (lv_at hl 0 rfl) ?_
    refine lv_iload_n hx hb dX7_goesByStack_70 rfl (lv_at hl 1 rfl) ?_
    refine va_callv (va_runV (As := [.int x1]) (rest := []) ⟨hx, hb, hml, hown, hts⟩ (y_X7_clears l dC dI H.size hLK A hA F113 a0 x1 ha0 (⟨by omega, by omega⟩) hI (by rw [y_atE o117]; exact h110) (by rw [y_atE o114, y_atE o117]; exact h111)) (cwV 1 hts (ax_gV T_1163 T_1165 T_1166 T_265 T_1164) rfl rfl rfl (by decide +kernel) ⟨Nat.le_of_ble_eq_true rfl, Nat.le_of_ble_eq_true rfl⟩) ⟨fun a U g mk q => ⟨q.1, s_pc rfl rfl q.2⟩, s_recv hK hP (hLK _ ha0 (by decide)) (ci := 7) rfl oY115, fun U hU hW => ⟨rfl, s_pw hU hW hP hK hD hN⟩⟩ rfl rfl hl.1 rfl (lv_room (Nat.le_of_ble_eq_true rfl)) dX7_goesByStack_71 ⟨Nat.zero_le _, Nat.zero_le _⟩) hS (fun q _ h => h) (fun q h => h) (fun F121 t H1 locs ht hvm hw hB hz1 hk1 hS => ?_)
    obtain ⟨hP, hK1⟩ := hB
    rw [ht] at hP
    generalize H1 = H at hP hS ⊢
    obtain ⟨h122, h124, hI, hfr1, hzf, h123⟩ := hw
    have o125 : F121 (A 13) = .inl (cs 0, 400, .inl f1) := (hfr1 _ (by rw [(y_k13 hA)]; decide)).trans o114
    have oY126 : F121 a0 = .inr (7, y_fl A z0 q0) := (hfr1 _ (by rw [ha0]; decide)).trans oY115
    have hfr : ∀ b, K b ∉ [70] → F121 b = F b := fun b hb9 => (hfr1 b (fun q => hb9 (s_sub (by decide) q))).trans (hfr b hb9)
    obtain ⟨f127, o128, b129⟩ := y_op20 hI
    have h123 : (y_W0 f127 x1.toInt ∧ y_Ws (y_c f1 387).toInt f127 x1.toInt ∧ y_Wt (y_c f1 387).toInt f127 x1.toInt ∧ y_fw x1.toInt f116 f127) := by have q9 := h123; rw [y_atE o128, y_atE o114, y_atE o117] at q9; exact q9
    exact W.vret hx hb hr (fun t ht hW => ⟨⟨F121, rfl, ⟨trivial, trivial, hI, hfr, fun k hk => (y_fiZ oY126 (s_sub (by decide) hk)).trans ((hz0 k hk).trans (y_fiZ oY0 (s_sub (by decide) hk)).symm), (by rw [y_atE o128, y_atE o2, y_atE o5]; exact ⟨h123.1, h123.2.1, h123.2.2.1, y_fw_t h112 h123.2.2.2⟩)⟩, by rw [ht]; exact hP, va_K.moved hW.alike hK⟩, hS.F ht⟩) hS.2.2 dX7_goesByStack_74

set_option maxHeartbeats 4000000 in
set_option maxRecDepth 100000 in
theorem y_X7_goesFair (l : Launch) (dC : Nat → ClassId) (dI : Nat → Nat → Nat) (sz : Nat) {L : List Nat} {K : Nat → Nat} {cs : Nat → ClassId} (hLK : ∀ a {k : Nat}, K a = k → k ≠ 0 → a ∈ L) (A : Nat → Nat) (hA : y_A K A) (F : Nat → va_E) (a0 : Nat) (x1 : Int32) (x2 : Int32) (x3 : Int32) (ha0 : K a0 = 9) (hx1 : 0 ≤ x1.toInt ∧ x1.toInt ≤ 3) (hx2 : 0 ≤ x2.toInt ∧ x2.toInt ≤ 39) (hI : y_I K cs A F) (hPG : y_PG (y_at F (A 13))) (hln : (x2.toInt < (y_c (y_at F (A 13)) 387).toInt)) (hW0 : y_W0 (y_at F (A 20)) x1.toInt) (hWf : y_Wf (y_c (y_at F (A 13)) 387).toInt (y_at F (A 20)) x1.toInt) (hm1 : ((y_c (y_at F (A 20)) 3).toInt = 1)) (hl3 : (¬ x3 = 0 ∧ y_sub x3 (y_c (y_at F (A 20)) (107 + 6 * x1.toInt)))) : Met l yX7_goesFair (Cond.code yX7_goesFair cX7_goesFair 7 none :: T0) ({ frames := 4, cells := 0, slots := 0, locals := 90 }) (va_Pc [.ref a0, .int x1, .int x2, .int x3] (s_W dC dI sz L F [(cs 0, .int), (cs 1, .byte), (cs 2, .long), (cs 3, .object RX5), (cs 4, .object RX4), (cs 5, .array .int), (cs 6, .char), (cs 7, .boolean)])) (va_Qv (fun (G : Nat → va_E) => True ∧ True ∧ y_I K cs A G ∧ (∀ b, K b ∉ [70] → G b = F b) ∧ (∀ k, k ∈ ([1, 2, 3, 4, 5, 6, 7, 8, 11, 15, 16, 19, 25, 26, 27, 31, 32] : List Nat) → y_fi G a0 k = y_fi F a0 k) ∧ (y_W0 (y_at G (A 20)) x1.toInt ∧ y_Wf (y_c (y_at F (A 13)) 387).toInt (y_at G (A 20)) x1.toInt ∧ y_fw x1.toInt (y_at F (A 20)) (y_at G (A 20)))) (fun (G : Nat → va_E) (t : State) => va_P (dC, dI) vwCl (va_pl L G) t.heap ∧ va_K (dC, dI) vwCl [(cs 0, .int), (cs 1, .byte), (cs 2, .long), (cs 3, .object RX5), (cs 4, .object RX4), (cs 5, .array .int), (cs 6, .char), (cs 7, .boolean)] t) (fun q => q ∈ L)) 0 0 (fun q => q ∈ L) := by
  refine Met.ofW (cc := cX7_goesFair) (maxL := 7) (ret := none) (by decide) rfl ?_
  intro p e s m args below meth c s₁ B hml hv
  obtain ⟨rfl, hsz, hP, hK, hD, hN⟩ := hv
  have hx := B.exec
  have hb := B.bytes
  have hr := B.returns
  have hts : ∀ w ∈ T0, w.before _ s = true := fun w h => atoms_spec (ws := Cond.code yX7_goesFair cX7_goesFair 7 none :: T0) B.pre w (List.mem_cons_of_mem _ h)
  have hown : s.vm.findClass RX7 = some m.cls := findClass_of_methodNamed B.named
  have hlocks := B.notSynchronized
  have hS : va_S (fun q => q ∈ L) s.heap s.heap [] := va_S.rf
  have hfr : ∀ b, K b ∉ [70] → F b = F b := fun _ _ => rfl
  have hl := lv_entry ([.ref a0, .int x1, .int x2, .int x3]) (n := 7) (Nat.le_of_ble_eq_true rfl)
  rw [lg_entry_eq]
  generalize (lg_sl ([.ref a0, .int x1, .int x2, .int x3]) ++ List.replicate (7 - (lg_sl ([.ref a0, .int x1, .int x2, .int x3])).length) Slot.unset).toArray = ls at hl ⊢
  have hl : lv_has ls 7 [(0, .ref a0), (1, .int x1), (2, .int x2), (3, .int x3)] := hl
  refine s_gen hP hS (fun H locs hP hS => ?_)
  obtain ⟨z0, q0, oY0, bz0, bq0⟩ := y_opY hI ha0
  have hz0 : ∀ k, k ∈ ([1, 2, 3, 4, 5, 6, 7, 8, 11, 15, 16, 19, 25, 26, 27, 31, 32] : List Nat) → z0 k = z0 k := fun _ _ => rfl
  obtain ⟨f1, o2, b3⟩ := y_op13 hI
  obtain ⟨f4, o5, b6⟩ := y_op20 hI
  have hPG : y_PG f1 := by have q9 := hPG; rw [y_atE o2] at q9; exact q9
  have hln : (x2.toInt < (y_c f1 387).toInt) := by have q9 := hln; rw [y_atE o2] at q9; exact q9
  have hW0 : y_W0 f4 x1.toInt := by have q9 := hW0; rw [y_atE o5] at q9; exact q9
  have hWf : y_Wf (y_c f1 387).toInt f4 x1.toInt := by have q9 := hWf; rw [y_atE o2, y_atE o5] at q9; exact q9
  have hm1 : ((y_c f4 3).toInt = 1) := by have q9 := hm1; rw [y_atE o5] at q9; exact q9
  have hl3 : (¬ x3 = 0 ∧ y_sub x3 (y_c f4 (107 + 6 * x1.toInt))) := by have q9 := hl3; rw [y_atE o5] at q9; exact q9
  have hL := y_P0L hPG.1
  have hW := y_P0W hPG.1
  have hnw := hW0.2.2
  have hrg := hPG.1.1.1 x2.toInt (by omega) (by omega)
  unfold y_rg at hrg
  obtain ⟨i0, hi0, hbi⟩ := y_ex (y_8s hl3.2 hW0.1) hl3.1
  obtain ⟨ii, hii0, hii1, hii2⟩ := y_nat8 hi0
  rw [← hii2] at hbi
  refine th_join (fun g H locs => ∃ (G : Nat → va_E) (ls : Array Slot) (w7 : Int32) (w8 : Int32), g = F0 m 99 ls [] ∧ lv_has ls 7 [(0, .ref a0), (1, .int x1), (2, .int x2), (3, .int x3), (4, .int w7), (6, .int w8)] ∧ va_P (dC, dI) vwCl (va_pl L G) H ∧ va_S (fun q => q ∈ L) s.heap H locs ∧ y_I K cs A G ∧ (∀ b, K b ∉ [70] → G b = F b) ∧ (∀ k, k ∈ ([1, 2, 3, 4, 5, 6, 7, 8, 11, 15, 16, 19, 25, 26, 27, 31, 32] : List Nat) → y_fi G a0 k = z0 k) ∧ (0 ≤ w7.toInt ∧ w7.toInt ≤ 15) ∧ True ∧ (0 ≤ x1.toInt ∧ x1.toInt ≤ 3) ∧ (0 ≤ x2.toInt ∧ x2.toInt ≤ 39) ∧ y_W0 (y_at G (A 20)) x1.toInt ∧ y_Wf (y_c f1 387).toInt (y_at G (A 20)) x1.toInt ∧ y_fw x1.toInt f4 (y_at G (A 20)) ∧ (w7.toInt = (y_c f1 (8 * x2.toInt)).toInt)) (fun K99 => ?_) ?_
  · refine lv_aload_n hx hb dX7_goesFair_0 rfl (lv_at hl 0 rfl) ?_
    refine lv_iload_n hx hb dX7_goesFair_1 rfl (lv_at hl 2 rfl) ?_
    refine lv_iconst (v := 0) hx hb dX7_goesFair_2 (by decide) ?_
    refine va_calli (va_runV (As := [.int x2, .int 0]) (rest := []) ⟨hx, hb, hml, hown, hts⟩ (y_X7_of l dC dI H.size hLK A hA F a0 x2 0 ha0 (⟨by omega, by omega⟩) (by decide) hI) (cwV 2 hts (ax_gV T_1131 T_1133 T_1134 T_265 T_1132) rfl rfl rfl (by decide +kernel) ⟨Nat.le_of_ble_eq_true rfl, Nat.le_of_ble_eq_true rfl⟩) ⟨fun a U g mk q => ⟨q.1, s_pc rfl rfl q.2⟩, s_recv hK hP (hLK _ ha0 (by decide)) (ci := 7) rfl oY0, fun U hU hW => ⟨rfl, s_pw hU hW hP hK hD hN⟩⟩ rfl rfl hl.1 rfl (lv_room (Nat.le_of_ble_eq_true rfl)) dX7_goesFair_3 ⟨Nat.zero_le _, Nat.zero_le _⟩) hS (fun q _ h => h) (fun q h => h) (fun r10 F11 t H1 locs ht hvm hw hB hz1 hk1 hS => ?_)
    obtain ⟨hP, hK1⟩ := hB
    rw [ht] at hP
    generalize H1 = H at hP hS ⊢
    obtain ⟨h12, h14, hI, hfr1, hzf, h13⟩ := hw
    have o15 : F11 (A 13) = .inl (cs 0, 400, .inl f1) := (hfr1 _ (by rw [(y_k13 hA)]; decide)).trans o2
    have o16 : F11 (A 20) = .inl (cs 0, 918, .inl f4) := (hfr1 _ (by rw [(y_k20 hA)]; decide)).trans o5
    have oY17 : F11 a0 = .inr (7, y_fl A z0 q0) := (hfr1 _ (by rw [ha0]; decide)).trans oY0
    have hfr : ∀ b, K b ∉ [70] → F11 b = F b := fun b hb9 => (hfr1 b (fun q => hb9 (s_sub (by decide) q))).trans (hfr b hb9)
    have h13 : (r10 = y_c f1 (8 * x2.toInt + 0)) := by have q9 := h13; rw [y_atE o2] at q9; exact q9
    have h13 : r10 = y_c f1 (8 * x2.toInt) := h13.trans (congrArg (y_c f1) (by omega))
    have h18 := congrArg Int32.toInt h13
    have h19 : 0 ≤ r10.toInt ∧ r10.toInt ≤ 15 := by have q9 := congrArg Int32.toInt h13; exact ⟨by omega, by omega⟩
    refine lv_istore (lv' := [(4, .int r10), (0, .ref a0), (1, .int x1), (2, .int x2), (3, .int x3)]) hx hb dX7_goesFair_6 hl (by decide) rfl (fun ls hl => ?_)
    refine lv_aload_n hx hb dX7_goesFair_8 rfl (lv_at hl 1 rfl) ?_
    refine lv_iload_n hx hb dX7_goesFair_9 rfl (lv_at hl 2 rfl) ?_
    refine lv_iconst (v := 1) hx hb dX7_goesFair_10 (by decide) ?_
    refine va_calli (va_runV (As := [.int x1, .int 1]) (rest := []) ⟨hx, hb, hml, hown, hts⟩ (y_X7_its l dC dI H.size hLK A hA F11 a0 x1 1 ha0 (⟨by omega, by omega⟩) (by decide) hI) (cwV 2 hts (ax_gV T_1057 T_1059 T_1060 T_265 T_1058) rfl rfl rfl (by decide +kernel) ⟨Nat.le_of_ble_eq_true rfl, Nat.le_of_ble_eq_true rfl⟩) ⟨fun a U g mk q => ⟨q.1, s_pc rfl rfl q.2⟩, s_recv hK hP (hLK _ ha0 (by decide)) (ci := 7) rfl oY17, fun U hU hW => ⟨rfl, s_pw hU hW hP hK hD hN⟩⟩ rfl rfl hl.1 rfl (lv_room (Nat.le_of_ble_eq_true rfl)) dX7_goesFair_11 ⟨Nat.zero_le _, Nat.zero_le _⟩) hS (fun q _ h => h) (fun q h => h) (fun r21 F22 t H1 locs ht hvm hw hB hz1 hk1 hS => ?_)
    obtain ⟨hP, hK1⟩ := hB
    rw [ht] at hP
    generalize H1 = H at hP hS ⊢
    obtain ⟨h23, h25, hI, hfr1, hzf, h24⟩ := hw
    have o26 : F22 (A 13) = .inl (cs 0, 400, .inl f1) := (hfr1 _ (by rw [(y_k13 hA)]; decide)).trans o15
    have o27 : F22 (A 20) = .inl (cs 0, 918, .inl f4) := (hfr1 _ (by rw [(y_k20 hA)]; decide)).trans o16
    have oY28 : F22 a0 = .inr (7, y_fl A z0 q0) := (hfr1 _ (by rw [ha0]; decide)).trans oY17
    have hfr : ∀ b, K b ∉ [70] → F22 b = F b := fun b hb9 => (hfr1 b (fun q => hb9 (s_sub (by decide) q))).trans (hfr b hb9)
    have h24 : (r21 = y_c f4 (104 + 6 * x1.toInt + 1)) := by have q9 := h24; rw [y_atE o16] at q9; exact q9
    have h24 : r21 = y_c f4 (105 + 6 * x1.toInt) := h24.trans (congrArg (y_c f4) (by omega))
    have h29 := congrArg Int32.toInt h24
    have h30 : 0 ≤ r21.toInt ∧ r21.toInt ≤ 7 := by have q9 := congrArg Int32.toInt h24; omega
    refine lv_istore (lv' := [(5, .int r21), (4, .int r10), (0, .ref a0), (1, .int x1), (2, .int x2), (3, .int x3)]) hx hb dX7_goesFair_14 hl (by decide) rfl (fun ls hl => ?_)
    refine th_loop (fun n g H locs => ∃ (G : Nat → va_E) (ls : Array Slot) (w31 : Int32), g = F0 m 16 ls [] ∧ lv_has ls 7 [(0, .ref a0), (1, .int x1), (2, .int x2), (3, .int x3), (4, .int r10), (5, .int w31)] ∧ va_P (dC, dI) vwCl (va_pl L G) H ∧ va_S (fun q => q ∈ L) s.heap H locs ∧ y_I K cs A G ∧ (∀ b, K b ∉ [70] → G b = F b) ∧ (∀ k, k ∈ ([1, 2, 3, 4, 5, 6, 7, 8, 11, 15, 16, 19, 25, 26, 27, 31, 32] : List Nat) → y_fi G a0 k = z0 k) ∧ (0 ≤ w31.toInt ∧ w31.toInt ≤ 7) ∧ (0 ≤ x1.toInt ∧ x1.toInt ≤ 3) ∧ (0 ≤ x2.toInt ∧ x2.toInt ≤ 39) ∧ (0 ≤ r10.toInt ∧ r10.toInt ≤ 15) ∧ ((y_at G (A 20)) = f4) ∧ n = ((ii + 8 - w31.toInt) % 8).toNat) _ ⟨F22, _, r21, rfl, lv_sub hl [2, 3, 4, 5, 1, 0] rfl, hP, hS, hI, hfr, (fun k hk => (y_fiZ oY28 (s_sub (by decide) hk)).trans (hz0 k hk)), ⟨by omega, by omega⟩, ⟨by omega, by omega⟩, ⟨by omega, by omega⟩, ⟨by omega, by omega⟩, (by first | (rw [y_atE o27]; exact rfl) | rw [y_atE o27]), rfl⟩ (fun n ih16 g H locs hq => ?_)
    obtain ⟨F37, ls, w31, rfl, hl, hP, hS, hI, hfr, hz0, h32, h33, h34, h35, h36, hn⟩ := hq
    have o38 : F37 (A 13) = .inl (cs 0, 400, .inl f1) := (hfr _ (by rw [(y_k13 hA)]; decide)).trans o2
    have oY39 : F37 a0 = .inr (7, y_fl A z0 q0) := (hfr _ (by rw [ha0]; decide)).trans oY0
    have hz0 : ∀ k, k ∈ ([1, 2, 3, 4, 5, 6, 7, 8, 11, 15, 16, 19, 25, 26, 27, 31, 32] : List Nat) → z0 k = z0 k := fun _ _ => rfl
    obtain ⟨f40, o41, b42⟩ := y_op20 hI
    have h36 : (f40 = f4) := by have q9 := h36; rw [y_atE o41] at q9; exact q9
    have hn_42 := hn
    refine lv_iload_n hx hb dX7_goesFair_16 rfl (lv_at hl 3 rfl) ?_
    refine lv_iload hx hb dX7_goesFair_17 (lv_at hl 5 rfl) ?_
    refine va_calli (va_runS (As := [.int x3, .int w31]) (rest := []) ⟨hx, hb, hml, hown, hts⟩ (y_X7_isOf l dC dI H.size F37 x3 w31 (⟨by omega, by omega⟩)) (cwS 2 hts (ax_gS T_1027 T_1029 T_265 T_1028) rfl rfl rfl (by decide +kernel) ⟨Nat.le_of_ble_eq_true rfl, Nat.le_of_ble_eq_true rfl⟩) ⟨fun a U g mk q => ⟨q.1, s_pc rfl rfl q.2⟩, fun U hU hW => ⟨rfl, s_pw hU hW hP hK hD hN⟩⟩ rfl rfl hl.1 rfl (lv_room (Nat.le_of_ble_eq_true rfl)) dX7_goesFair_19 ⟨Nat.zero_le _, Nat.zero_le _⟩) hS (fun q _ h => h) (fun q h => h) (fun r44 F45 t H1 locs ht hvm hw hB hz1 hk1 hS => ?_)
    obtain ⟨hP, hK1⟩ := hB
    rw [ht] at hP
    generalize H1 = H at hP hS ⊢
    obtain ⟨h46, h48, hG9, h47⟩ := hw
    rw [hG9] at hP
    have h47 : ((r44.toInt = 1 ∧ bt x3 w31.toInt.toNat = true) ∨ (r44.toInt = 0 ∧ bt x3 w31.toInt.toNat = false)) := by have q9 := h47; exact q9
    refine lv_if_ne (tgt := 37) hx hb dX7_goesFair_22 (by decide) (fun c49 => ?_) (fun c49 => ?_)
    · have c49 := mt (ax_eq (n := 0) (by decide)).mpr c49
      refine lv_aload_n hx hb dX7_goesFair_37 rfl (lv_at hl 0 rfl) ?_
      refine th_get (D := (dC, dI)) (ci := 7) (v := .ref (A 20)) (C := RX7) (T := TX7) (N := 34) hx hb hts inX7 hown hK hP (hLK _ ha0 (by decide)) oY39 rfl 20 (by decide) (hts _ T_251) (fun _ h9 => h9) rfl dX7_goesFair_38 ?_
      refine lv_iload_n hx hb dX7_goesFair_41 rfl (lv_at hl 1 rfl) ?_
      refine lv_iconst (v := 1) hx hb dX7_goesFair_42 (by decide) ?_
      refine va_calli (va_runS (As := [.int x1, .int 1]) (rest := [.ref (A 20)]) ⟨hx, hb, hml, hown, hts⟩ (y_X7_warpAt l dC dI H.size F37 x1 1 (⟨by omega, by omega⟩) (by decide)) (cwS 2 hts (ax_gS T_1021 T_1023 T_265 T_1022) rfl rfl rfl (by decide +kernel) ⟨Nat.le_of_ble_eq_true rfl, Nat.le_of_ble_eq_true rfl⟩) ⟨fun a U g mk q => ⟨q.1, s_pc rfl rfl q.2⟩, fun U hU hW => ⟨rfl, s_pw hU hW hP hK hD hN⟩⟩ rfl rfl hl.1 rfl (lv_room (Nat.le_of_ble_eq_true rfl)) dX7_goesFair_43 ⟨Nat.zero_le _, Nat.zero_le _⟩) hS (fun q _ h => h) (fun q h => h) (fun r51 F52 t H1 locs ht hvm hw hB hz1 hk1 hS => ?_)
      obtain ⟨hP, hK1⟩ := hB
      rw [ht] at hP
      generalize H1 = H at hP hS ⊢
      obtain ⟨h53, h55, hG9, h54⟩ := hw
      rw [hG9] at hP
      have h54 : (r51.toInt = 104 + 6 * x1.toInt + 1) := by have q9 := h54; exact q9
      refine lv_iload hx hb dX7_goesFair_46 (lv_at hl 5 rfl) ?_
      refine lv_iconst (v := 1) hx hb dX7_goesFair_48 (by decide) ?_
      refine lv_iadd hx hb dX7_goesFair_49 ?_
      refine lv_topi (fun v56 ev56 => ?_)
      have qv56 : v56.toInt = w31.toInt + 1 := by rw [ev56]; exact th_add rfl (by decide) ⟨by omega, by omega⟩
      refine lv_bipush (v := 8) hx hb dX7_goesFair_50 (by decide) ?_
      refine lv_irem hx hb dX7_goesFair_52 (by decide) ?_
      refine lv_topi (fun v57 ev57 => ?_)
      have qv57 : v57.toInt = v56.toInt % 8 := by rw [ev57]; exact th_rem rfl (by decide) (by omega) (by decide)
      refine th_iast hx hb hK hP hD hS (hLK _ (y_k20 hA) (by decide)) 0 o41 rfl (th_in ⟨by omega, by omega⟩) dX7_goesFair_53 (fun H locs hP hS => ?_)
      obtain ⟨f58, u59⟩ : ∃ g : Nat → Int32, g = upd f40 (r51 : Int32).toNatClampNeg v57 := ⟨_, rfl⟩
      rw [← u59] at hP
      have b60 : y_bd 20 f58 := trivial
      have hP : va_P (dC, dI) vwCl (va_pl L (va_up F37 (A 20) (.inl (cs 0, 918, .inl f58)))) H := hP
      obtain ⟨F61, hF62⟩ : ∃ G : Nat → va_E, G = va_up F37 (A 20) (.inl (cs 0, 918, .inl f58)) := ⟨_, rfl⟩
      rw [← hF62] at hP
      have hI : y_I K cs A F61 := by rw [hF62]; exact y_clA (i := 20) hA hI (by decide) b60
      have hfr : ∀ b, K b ∉ [70] → F61 b = F b := by rw [hF62]; exact s_fr hfr (y_k20 hA) (by decide)
      have o63 : F61 (A 13) = .inl (cs 0, 400, .inl f1) := by rw [hF62]; exact th_ne (th_kd (y_k13 hA) (y_k20 hA) (by decide)) o38
      have oY64 : F61 a0 = .inr (7, y_fl A z0 q0) := by rw [hF62]; exact th_ne (th_kd ha0 (y_k20 hA) (by decide)) oY39
      have o65 : F61 (A 20) = .inl (cs 0, 918, .inl f58) := by rw [hF62]; exact th_up
      have u66 : ∀ j : Int, 0 ≤ j → y_c f58 j = if j = r51.toInt then v57 else y_c f40 j := by rw [u59]; exact y_cu rfl (by omega)
      rw [h36] at u66
      obtain ⟨k67a, k67b, k67c⟩ := y_turn (L := (y_c f1 387).toInt) ⟨by omega, by omega⟩ u66 (by omega) ⟨by omega, by omega⟩ hW0 hWf
      refine lv_iload hx hb dX7_goesFair_54 (lv_at hl 4 rfl) ?_
      refine lv_bipush (v := 13) hx hb dX7_goesFair_56 (by decide) ?_
      refine lv_icmp_ne (tgt := 62) hx hb dX7_goesFair_58 (by decide) (fun c68 => ?_) (fun c68 => ?_)
      · have c68 := mt (ax_eq (n := 13) (by decide)).mpr c68
        refine lv_iload hx hb dX7_goesFair_62 (lv_at hl 4 rfl) ?_
        refine lv_bipush (v := 12) hx hb dX7_goesFair_64 (by decide) ?_
        refine lv_icmp_ne (tgt := 78) hx hb dX7_goesFair_66 (by decide) (fun c69 => ?_) (fun c69 => ?_)
        · have c69 := mt (ax_eq (n := 12) (by decide)).mpr c69
          refine lv_iconst (v := 0) hx hb dX7_goesFair_78 (by decide) ?_
          refine lv_istore (lv' := [(6, .int 0), (0, .ref a0), (1, .int x1), (2, .int x2), (3, .int x3), (4, .int r10), (5, .int w31)]) hx hb dX7_goesFair_79 hl (by decide) rfl (fun ls hl => ?_)
          refine lv_iload hx hb dX7_goesFair_81 (lv_at hl 0 rfl) ?_
          refine lv_if_eq (tgt := 99) hx hb dX7_goesFair_83 (by decide) (fun _ => ?_) (fun c => absurd (by decide) c)
          have h71 : (0 : Int32).toInt = 0 := by decide
          exact K99 _ _ _ ⟨F61, _, r10, 0, rfl, lv_sub hl [1, 2, 3, 4, 5, 0] rfl, hP, hS, hI, hfr, (fun k hk => (y_fiZ oY64 (s_sub (by decide) hk)).trans (hz0 k hk)), ⟨by omega, by omega⟩, trivial, ⟨by omega, by omega⟩, ⟨by omega, by omega⟩, (by rw [y_atE o65]; exact k67a), (by rw [y_atE o65]; exact k67b), (by rw [y_atE o65]; exact k67c), (by omega)⟩
        · have c69 := (ax_eq (n := 12) (by decide)).mp c69
          refine lv_aload_n hx hb dX7_goesFair_69 rfl (lv_at hl 0 rfl) ?_
          refine lv_iload_n hx hb dX7_goesFair_70 rfl (lv_at hl 2 rfl) ?_
          refine lv_iload_n hx hb dX7_goesFair_71 rfl (lv_at hl 3 rfl) ?_
          refine va_calli (va_runV (As := [.int x2, .int x3]) (rest := []) ⟨hx, hb, hml, hown, hts⟩ (y_X7_holding l dC dI H.size hLK A hA F61 a0 x2 x3 ha0 (⟨by omega, by omega⟩) hI (by rw [y_atE o63]; exact hPG) (by first | (rw [y_atE o63]; omega) | rw [y_atE o63])) (cwV 2 hts (ax_gV T_1167 T_1169 T_1170 T_265 T_1168) rfl rfl rfl (by decide +kernel) ⟨Nat.le_of_ble_eq_true rfl, Nat.le_of_ble_eq_true rfl⟩) ⟨fun a U g mk q => ⟨q.1, s_pc rfl rfl q.2⟩, s_recv hK hP (hLK _ ha0 (by decide)) (ci := 7) rfl oY64, fun U hU hW => ⟨rfl, s_pw hU hW hP hK hD hN⟩⟩ rfl rfl hl.1 rfl (lv_room (Nat.le_of_ble_eq_true rfl)) dX7_goesFair_72 ⟨Nat.zero_le _, Nat.zero_le _⟩) hS (fun q _ h => h) (fun q h => h) (fun r73 F74 t H1 locs ht hvm hw hB hz1 hk1 hS => ?_)
          obtain ⟨hP, hK1⟩ := hB
          rw [ht] at hP
          generalize H1 = H at hP hS ⊢
          obtain ⟨h75, h77, hI, hfr1, hzf, h76⟩ := hw
          have o78 : F74 (A 13) = .inl (cs 0, 400, .inl f1) := (hfr1 _ (by rw [(y_k13 hA)]; decide)).trans o63
          have o79 : F74 (A 20) = .inl (cs 0, 918, .inl f58) := (hfr1 _ (by rw [(y_k20 hA)]; decide)).trans o65
          have oY80 : F74 a0 = .inr (7, y_fl A z0 q0) := (hfr1 _ (by rw [ha0]; decide)).trans oY64
          have hfr : ∀ b, K b ∉ [70] → F74 b = F b := fun b hb9 => (hfr1 b (fun q => hb9 (s_sub (by decide) q))).trans (hfr b hb9)
          have h76 : (y_sub r73 x3 ∧ (r73 = x3 ∨ ((y_c f1 (8 * x2.toInt)).toInt = 12 ∧ ¬ (y_c f1 (8 * x2.toInt + 5)).toInt = -1000000))) := by have q9 := h76; rw [y_atE o63] at q9; exact q9
          refine lv_goto (tgt := 79) hx hb dX7_goesFair_75 (by decide) ?_
          refine lv_istore (lv' := [(6, .int r73), (0, .ref a0), (1, .int x1), (2, .int x2), (3, .int x3), (4, .int r10), (5, .int w31)]) hx hb dX7_goesFair_79 hl (by decide) rfl (fun ls hl => ?_)
          refine lv_iload hx hb dX7_goesFair_81 (lv_at hl 0 rfl) ?_
          refine lv_if_eq (tgt := 99) hx hb dX7_goesFair_83 (by decide) (fun c81 => ?_) (fun c81 => ?_)
          · have c81 := (ax_eq (n := 0) (by decide)).mp c81
            exact K99 _ _ _ ⟨F74, _, r10, r73, rfl, lv_sub hl [1, 2, 3, 4, 5, 0] rfl, hP, hS, hI, hfr, (fun k hk => (y_fiZ oY80 (s_sub (by decide) hk)).trans (hz0 k hk)), ⟨by omega, by omega⟩, trivial, ⟨by omega, by omega⟩, ⟨by omega, by omega⟩, (by rw [y_atE o79]; exact k67a), (by rw [y_atE o79]; exact k67b), (by rw [y_atE o79]; exact k67c), (by omega)⟩
          · have c81 := mt (ax_eq (n := 0) (by decide)).mpr c81
            refine lv_aload_n hx hb dX7_goesFair_86 rfl (lv_at hl 1 rfl) ?_
            refine lv_iload_n hx hb dX7_goesFair_87 rfl (lv_at hl 2 rfl) ?_
            refine lv_iload hx hb dX7_goesFair_88 (lv_at hl 0 rfl) ?_
            refine lv_aload_n hx hb dX7_goesFair_90 rfl (lv_at hl 1 rfl) ?_
            refine lv_iload_n hx hb dX7_goesFair_91 rfl (lv_at hl 3 rfl) ?_
            refine lv_iconst (v := 4) hx hb dX7_goesFair_92 (by decide) ?_
            refine va_calli (va_runV (As := [.int x2, .int 4]) (rest := [.int r73, .int x1, .ref a0]) ⟨hx, hb, hml, hown, hts⟩ (y_X7_of l dC dI H.size hLK A hA F74 a0 x2 4 ha0 (⟨by omega, by omega⟩) (by decide) hI) (cwV 2 hts (ax_gV T_1131 T_1133 T_1134 T_265 T_1132) rfl rfl rfl (by decide +kernel) ⟨Nat.le_of_ble_eq_true rfl, Nat.le_of_ble_eq_true rfl⟩) ⟨fun a U g mk q => ⟨q.1, s_pc rfl rfl q.2⟩, s_recv hK hP (hLK _ ha0 (by decide)) (ci := 7) rfl oY80, fun U hU hW => ⟨rfl, s_pw hU hW hP hK hD hN⟩⟩ rfl rfl hl.1 rfl (lv_room (Nat.le_of_ble_eq_true rfl)) dX7_goesFair_93 ⟨Nat.zero_le _, Nat.zero_le _⟩) hS (fun q _ h => h) (fun q h => h) (fun r83 F84 t H1 locs ht hvm hw hB hz1 hk1 hS => ?_)
            obtain ⟨hP, hK1⟩ := hB
            rw [ht] at hP
            generalize H1 = H at hP hS ⊢
            obtain ⟨h85, h87, hI, hfr1, hzf, h86⟩ := hw
            have o88 : F84 (A 13) = .inl (cs 0, 400, .inl f1) := (hfr1 _ (by rw [(y_k13 hA)]; decide)).trans o78
            have o89 : F84 (A 20) = .inl (cs 0, 918, .inl f58) := (hfr1 _ (by rw [(y_k20 hA)]; decide)).trans o79
            have oY90 : F84 a0 = .inr (7, y_fl A z0 q0) := (hfr1 _ (by rw [ha0]; decide)).trans oY80
            have hfr : ∀ b, K b ∉ [70] → F84 b = F b := fun b hb9 => (hfr1 b (fun q => hb9 (s_sub (by decide) q))).trans (hfr b hb9)
            have h86 : (r83 = y_c f1 (8 * x2.toInt + 4)) := by have q9 := h86; rw [y_atE o78] at q9; exact q9
            have h86 : r83 = y_c f1 (8 * x2.toInt + 4) := h86.trans (congrArg (y_c f1) (by omega))
            have h91 := congrArg Int32.toInt h86
            refine va_callv (va_runV (As := [.int x1, .int r73, .int r83]) (rest := []) ⟨hx, hb, hml, hown, hts⟩ (y_X7_nexts l dC dI H.size hLK A hA F84 a0 x1 r73 r83 ha0 (⟨by omega, by omega⟩) hI (by rw [y_atE o88]; exact hPG.1) (by rw [y_atE o89]; exact k67a) (by rw [y_atE o88, y_atE o89]; exact k67b) (by rw [y_atE o89]; exact (congrArg Int32.toInt (y_fw3 (by omega) k67c)).trans hm1) (by rw [y_atE o88]; have q9 := congrArg Int32.toInt h86; have q8 := y_PGt hPG (i := x2.toInt) (by omega) (by omega) (by omega); exact ⟨by omega, by omega⟩)) (cwV 3 hts (ax_gV T_1171 T_1173 T_1174 T_265 T_1172) rfl rfl rfl (by decide +kernel) ⟨Nat.le_of_ble_eq_true rfl, Nat.le_of_ble_eq_true rfl⟩) ⟨fun a U g mk q => ⟨q.1, s_pc rfl rfl q.2⟩, s_recv hK hP (hLK _ ha0 (by decide)) (ci := 7) rfl oY90, fun U hU hW => ⟨rfl, s_pw hU hW hP hK hD hN⟩⟩ rfl rfl hl.1 rfl (lv_room (Nat.le_of_ble_eq_true rfl)) dX7_goesFair_96 ⟨Nat.zero_le _, Nat.zero_le _⟩) hS (fun q _ h => h) (fun q h => h) (fun F93 t H1 locs ht hvm hw hB hz1 hk1 hS => ?_)
            obtain ⟨hP, hK1⟩ := hB
            rw [ht] at hP
            generalize H1 = H at hP hS ⊢
            obtain ⟨h94, h96, hI, hfr1, hzf, h95⟩ := hw
            have o97 : F93 (A 13) = .inl (cs 0, 400, .inl f1) := (hfr1 _ (by rw [(y_k13 hA)]; decide)).trans o88
            have oY98 : F93 a0 = .inr (7, y_fl A z0 q0) := (hfr1 _ (by rw [ha0]; decide)).trans oY90
            have hfr : ∀ b, K b ∉ [70] → F93 b = F b := fun b hb9 => (hfr1 b (fun q => hb9 (s_sub (by decide) q))).trans (hfr b hb9)
            obtain ⟨f99, o100, b101⟩ := y_op20 hI
            have h95 : (y_W0 f99 x1.toInt ∧ y_Wf (y_c f1 387).toInt f99 x1.toInt ∧ y_fw x1.toInt f58 f99 ∧ ∀ i, bt r73 i = false → bt (y_c f99 (107 + 6 * x1.toInt)) i = bt (y_c f58 (107 + 6 * x1.toInt)) i) := by have q9 := h95; rw [y_atE o100, y_atE o88, y_atE o89] at q9; exact q9
            exact K99 _ _ _ ⟨F93, _, r10, r73, rfl, lv_sub hl [1, 2, 3, 4, 5, 0] rfl, hP, hS, hI, hfr, (fun k hk => (y_fiZ oY98 (s_sub (by decide) hk)).trans (hz0 k hk)), ⟨by omega, by omega⟩, trivial, ⟨by omega, by omega⟩, ⟨by omega, by omega⟩, (by rw [y_atE o100]; exact h95.1), (by rw [y_atE o100]; exact h95.2.1), (by rw [y_atE o100]; exact (y_fw_t k67c h95.2.2.1)), (by omega)⟩
      · have c68 := (ax_eq (n := 13) (by decide)).mp c68
        exact W.vret hx hb hr (fun t ht hW => ⟨⟨F61, rfl, ⟨trivial, trivial, hI, hfr, fun k hk => (y_fiZ oY64 (s_sub (by decide) hk)).trans ((hz0 k hk).trans (y_fiZ oY0 (s_sub (by decide) hk)).symm), (by rw [y_atE o65, y_atE o2, y_atE o5]; exact ⟨k67a, k67b, k67c⟩)⟩, by rw [ht]; exact hP, va_K.moved hW.alike hK⟩, hS.F ht⟩) hS.2.2 dX7_goesFair_61
    · have c49 := (ax_eq (n := 0) (by decide)).mp c49
      have hne9 : ¬ w31.toInt = ii := fun q => by have q8 := y_bF h47 c49; rw [q, hbi] at q8; cases q8
      refine lv_iload hx hb dX7_goesFair_25 (lv_at hl 5 rfl) ?_
      refine lv_iconst (v := 1) hx hb dX7_goesFair_27 (by decide) ?_
      refine lv_iadd hx hb dX7_goesFair_28 ?_
      refine lv_topi (fun v102 ev102 => ?_)
      have qv102 : v102.toInt = w31.toInt + 1 := by rw [ev102]; exact th_add rfl (by decide) ⟨by omega, by omega⟩
      refine lv_bipush (v := 8) hx hb dX7_goesFair_29 (by decide) ?_
      refine lv_irem hx hb dX7_goesFair_31 (by decide) ?_
      refine lv_topi (fun v103 ev103 => ?_)
      have qv103 : v103.toInt = v102.toInt % 8 := by rw [ev103]; exact th_rem rfl (by decide) (by omega) (by decide)
      refine lv_istore (lv' := [(5, .int v103), (0, .ref a0), (1, .int x1), (2, .int x2), (3, .int x3), (4, .int r10)]) hx hb dX7_goesFair_32 hl (by decide) rfl (fun ls hl => ?_)
      have h104 : 0 ≤ v103.toInt ∧ v103.toInt ≤ 7 := ⟨by omega, by omega⟩
      refine lv_goto (tgt := 16) hx hb dX7_goesFair_34 (by decide) ?_
      exact ih16 _ _ _ _ (by omega) ⟨F37, _, v103, rfl, lv_sub hl [1, 2, 3, 4, 5, 0] rfl, hP, hS, hI, hfr, (fun k hk => (y_fiZ oY39 (s_sub (by decide) hk)).trans (hz0 k hk)), ⟨by omega, by omega⟩, ⟨by omega, by omega⟩, ⟨by omega, by omega⟩, ⟨by omega, by omega⟩, (by rw [y_atE o41]; exact h36), rfl⟩
  · intro g H locs hq
    obtain ⟨F113, ls, w7, w8, rfl, hl, hP, hS, hI, hfr, hz0, h105, h106, h107, h108, h109, h110, h111, h112⟩ := hq
    have o114 : F113 (A 13) = .inl (cs 0, 400, .inl f1) := (hfr _ (by rw [(y_k13 hA)]; decide)).trans o2
    have oY115 : F113 a0 = .inr (7, y_fl A z0 q0) := (hfr _ (by rw [ha0]; decide)).trans oY0
    have hz0 : ∀ k, k ∈ ([1, 2, 3, 4, 5, 6, 7, 8, 11, 15, 16, 19, 25, 26, 27, 31, 32] : List Nat) → z0 k = z0 k := fun _ _ => rfl
    obtain ⟨f116, o117, b118⟩ := y_op20 hI
    have h109 : y_W0 f116 x1.toInt := by have q9 := h109; rw [y_atE o117] at q9; exact q9
    have h110 : y_Wf (y_c f1 387).toInt f116 x1.toInt := by have q9 := h110; rw [y_atE o117] at q9; exact q9
    have h111 : y_fw x1.toInt f4 f116 := by have q9 := h111; rw [y_atE o117] at q9; exact q9
    refine lv_iload_n hx hb dX7_goesFair_99 rfl (lv_at hl 3 rfl) ?_
    refine lv_iload hx hb dX7_goesFair_100 (lv_at hl 5 rfl) ?_
    refine lv_iconst (v := (-1)) hx hb dX7_goesFair_102 (by decide) ?_
    refine lv_ixor hx hb dX7_goesFair_103 ?_
    refine lv_topi (fun v119 ev119 => ?_)
    refine lv_iand hx hb dX7_goesFair_104 ?_
    refine lv_topi (fun v120 ev120 => ?_)
    refine lv_if_eq (tgt := 136) hx hb dX7_goesFair_105 (by decide) (fun c121 => ?_) (fun c121 => ?_)
    · have c121 := (ax_eq (n := 0) (by decide)).mp c121
      exact W.vret hx hb hr (fun t ht hW => ⟨⟨F113, rfl, ⟨trivial, trivial, hI, hfr, fun k hk => (y_fiZ oY115 (s_sub (by decide) hk)).trans ((hz0 k hk).trans (y_fiZ oY0 (s_sub (by decide) hk)).symm), (by rw [y_atE o117, y_atE o2, y_atE o5]; exact ⟨h109, h110, h111⟩)⟩, by rw [ht]; exact hP, va_K.moved hW.alike hK⟩, hS.F ht⟩) hS.2.2 dX7_goesFair_136
    · have c121 := mt (ax_eq (n := 0) (by decide)).mpr c121
      refine lv_aload_n hx hb dX7_goesFair_108 rfl (lv_at hl 0 rfl) ?_
      refine lv_iload_n hx hb dX7_goesFair_109 rfl (lv_at hl 1 rfl) ?_
      refine lv_iload_n hx hb dX7_goesFair_110 rfl (lv_at hl 3 rfl) ?_
      refine lv_iload hx hb dX7_goesFair_111 (lv_at hl 5 rfl) ?_
      refine lv_iconst (v := (-1)) hx hb dX7_goesFair_113 (by decide) ?_
      refine lv_ixor hx hb dX7_goesFair_114 ?_
      refine lv_topi (fun v122 ev122 => ?_)
      refine lv_iand hx hb dX7_goesFair_115 ?_
      refine lv_topi (fun v123 ev123 => ?_)
      refine lv_iload hx hb dX7_goesFair_116 (lv_at hl 4 rfl) ?_
      refine lv_bipush (v := 15) hx hb dX7_goesFair_118 (by decide) ?_
      refine lv_icmp_ne (tgt := 130) hx hb dX7_goesFair_120 (by decide) (fun c124 => ?_) (fun c124 => ?_)
      · have c124 := mt (ax_eq (n := 15) (by decide)).mpr c124
        refine lv_iload_n hx hb dX7_goesFair_130 rfl (lv_at hl 2 rfl) ?_
        refine lv_iconst (v := 1) hx hb dX7_goesFair_131 (by decide) ?_
        refine lv_iadd hx hb dX7_goesFair_132 ?_
        refine lv_topi (fun v125 ev125 => ?_)
        have qv125 : v125.toInt = x2.toInt + 1 := by rw [ev125]; exact th_add rfl (by decide) ⟨by omega, by omega⟩
        refine va_callv (va_runV (As := [.int x1, .int v123, .int v125]) (rest := []) ⟨hx, hb, hml, hown, hts⟩ (y_X7_nexts l dC dI H.size hLK A hA F113 a0 x1 v123 v125 ha0 (⟨by omega, by omega⟩) hI (by rw [y_atE o114]; exact hPG.1) (by rw [y_atE o117]; exact h109) (by rw [y_atE o114, y_atE o117]; exact h110) (by rw [y_atE o117]; exact (congrArg Int32.toInt (y_fw3 (by omega) h111)).trans hm1) (by rw [y_atE o114]; exact ⟨by omega, by omega⟩)) (cwV 3 hts (ax_gV T_1171 T_1173 T_1174 T_265 T_1172) rfl rfl rfl (by decide +kernel) ⟨Nat.le_of_ble_eq_true rfl, Nat.le_of_ble_eq_true rfl⟩) ⟨fun a U g mk q => ⟨q.1, s_pc rfl rfl q.2⟩, s_recv hK hP (hLK _ ha0 (by decide)) (ci := 7) rfl oY115, fun U hU hW => ⟨rfl, s_pw hU hW hP hK hD hN⟩⟩ rfl rfl hl.1 rfl (lv_room (Nat.le_of_ble_eq_true rfl)) dX7_goesFair_133 ⟨Nat.zero_le _, Nat.zero_le _⟩) hS (fun q _ h => h) (fun q h => h) (fun F127 t H1 locs ht hvm hw hB hz1 hk1 hS => ?_)
        obtain ⟨hP, hK1⟩ := hB
        rw [ht] at hP
        generalize H1 = H at hP hS ⊢
        obtain ⟨h128, h130, hI, hfr1, hzf, h129⟩ := hw
        have o131 : F127 (A 13) = .inl (cs 0, 400, .inl f1) := (hfr1 _ (by rw [(y_k13 hA)]; decide)).trans o114
        have oY132 : F127 a0 = .inr (7, y_fl A z0 q0) := (hfr1 _ (by rw [ha0]; decide)).trans oY115
        have hfr : ∀ b, K b ∉ [70] → F127 b = F b := fun b hb9 => (hfr1 b (fun q => hb9 (s_sub (by decide) q))).trans (hfr b hb9)
        obtain ⟨f133, o134, b135⟩ := y_op20 hI
        have h129 : (y_W0 f133 x1.toInt ∧ y_Wf (y_c f1 387).toInt f133 x1.toInt ∧ y_fw x1.toInt f116 f133 ∧ ∀ i, bt v123 i = false → bt (y_c f133 (107 + 6 * x1.toInt)) i = bt (y_c f116 (107 + 6 * x1.toInt)) i) := by have q9 := h129; rw [y_atE o134, y_atE o114, y_atE o117] at q9; exact q9
        exact W.vret hx hb hr (fun t ht hW => ⟨⟨F127, rfl, ⟨trivial, trivial, hI, hfr, fun k hk => (y_fiZ oY132 (s_sub (by decide) hk)).trans ((hz0 k hk).trans (y_fiZ oY0 (s_sub (by decide) hk)).symm), (by rw [y_atE o134, y_atE o2, y_atE o5]; exact ⟨h129.1, h129.2.1, (y_fw_t h111 h129.2.2.1)⟩)⟩, by rw [ht]; exact hP, va_K.moved hW.alike hK⟩, hS.F ht⟩) hS.2.2 dX7_goesFair_136
      · have c124 := (ax_eq (n := 15) (by decide)).mp c124
        refine lv_aload_n hx hb dX7_goesFair_123 rfl (lv_at hl 0 rfl) ?_
        refine va_calli (va_runV (As := []) (rest := [.int v123, .int x1, .ref a0]) ⟨hx, hb, hml, hown, hts⟩ (y_X7_lines l dC dI H.size hLK A hA F113 a0 ha0 hI) (cwV 0 hts (ax_gV T_1030 T_1032 T_1033 T_265 T_1031) rfl rfl rfl (by decide +kernel) ⟨Nat.le_of_ble_eq_true rfl, Nat.le_of_ble_eq_true rfl⟩) ⟨fun a U g mk q => ⟨q.1, s_pc rfl rfl q.2⟩, s_recv hK hP (hLK _ ha0 (by decide)) (ci := 7) rfl oY115, fun U hU hW => ⟨rfl, s_pw hU hW hP hK hD hN⟩⟩ rfl rfl hl.1 rfl (lv_room (Nat.le_of_ble_eq_true rfl)) dX7_goesFair_124 ⟨Nat.zero_le _, Nat.zero_le _⟩) hS (fun q _ h => h) (fun q h => h) (fun r137 F138 t H1 locs ht hvm hw hB hz1 hk1 hS => ?_)
        obtain ⟨hP, hK1⟩ := hB
        rw [ht] at hP
        generalize H1 = H at hP hS ⊢
        obtain ⟨h139, h141, hI, hfr1, hzf, h140⟩ := hw
        have o142 : F138 (A 13) = .inl (cs 0, 400, .inl f1) := (hfr1 _ (by rw [(y_k13 hA)]; decide)).trans o114
        have o143 : F138 (A 20) = .inl (cs 0, 918, .inl f116) := (hfr1 _ (by rw [(y_k20 hA)]; decide)).trans o117
        have oY144 : F138 a0 = .inr (7, y_fl A z0 q0) := (hfr1 _ (by rw [ha0]; decide)).trans oY115
        have hfr : ∀ b, K b ∉ [70] → F138 b = F b := fun b hb9 => (hfr1 b (fun q => hb9 (s_sub (by decide) q))).trans (hfr b hb9)
        have h140 : (r137 = y_c f1 387) := by have q9 := h140; rw [y_atE o114] at q9; exact q9
        have h145 := congrArg Int32.toInt h140
        have h146 : 1 ≤ r137.toInt ∧ r137.toInt ≤ 40 := ⟨by omega, by omega⟩
        refine lv_goto (tgt := 133) hx hb dX7_goesFair_127 (by decide) ?_
        refine va_callv (va_runV (As := [.int x1, .int v123, .int r137]) (rest := []) ⟨hx, hb, hml, hown, hts⟩ (y_X7_nexts l dC dI H.size hLK A hA F138 a0 x1 v123 r137 ha0 (⟨by omega, by omega⟩) hI (by rw [y_atE o142]; exact hPG.1) (by rw [y_atE o143]; exact h109) (by rw [y_atE o142, y_atE o143]; exact h110) (by rw [y_atE o143]; exact (congrArg Int32.toInt (y_fw3 (by omega) h111)).trans hm1) (by rw [y_atE o142]; exact ⟨by omega, by omega⟩)) (cwV 3 hts (ax_gV T_1171 T_1173 T_1174 T_265 T_1172) rfl rfl rfl (by decide +kernel) ⟨Nat.le_of_ble_eq_true rfl, Nat.le_of_ble_eq_true rfl⟩) ⟨fun a U g mk q => ⟨q.1, s_pc rfl rfl q.2⟩, s_recv hK hP (hLK _ ha0 (by decide)) (ci := 7) rfl oY144, fun U hU hW => ⟨rfl, s_pw hU hW hP hK hD hN⟩⟩ rfl rfl hl.1 rfl (lv_room (Nat.le_of_ble_eq_true rfl)) dX7_goesFair_133 ⟨Nat.zero_le _, Nat.zero_le _⟩) hS (fun q _ h => h) (fun q h => h) (fun F148 t H1 locs ht hvm hw hB hz1 hk1 hS => ?_)
        obtain ⟨hP, hK1⟩ := hB
        rw [ht] at hP
        generalize H1 = H at hP hS ⊢
        obtain ⟨h149, h151, hI, hfr1, hzf, h150⟩ := hw
        have o152 : F148 (A 13) = .inl (cs 0, 400, .inl f1) := (hfr1 _ (by rw [(y_k13 hA)]; decide)).trans o142
        have oY153 : F148 a0 = .inr (7, y_fl A z0 q0) := (hfr1 _ (by rw [ha0]; decide)).trans oY144
        have hfr : ∀ b, K b ∉ [70] → F148 b = F b := fun b hb9 => (hfr1 b (fun q => hb9 (s_sub (by decide) q))).trans (hfr b hb9)
        obtain ⟨f154, o155, b156⟩ := y_op20 hI
        have h150 : (y_W0 f154 x1.toInt ∧ y_Wf (y_c f1 387).toInt f154 x1.toInt ∧ y_fw x1.toInt f116 f154 ∧ ∀ i, bt v123 i = false → bt (y_c f154 (107 + 6 * x1.toInt)) i = bt (y_c f116 (107 + 6 * x1.toInt)) i) := by have q9 := h150; rw [y_atE o155, y_atE o142, y_atE o143] at q9; exact q9
        exact W.vret hx hb hr (fun t ht hW => ⟨⟨F148, rfl, ⟨trivial, trivial, hI, hfr, fun k hk => (y_fiZ oY153 (s_sub (by decide) hk)).trans ((hz0 k hk).trans (y_fiZ oY0 (s_sub (by decide) hk)).symm), (by rw [y_atE o155, y_atE o2, y_atE o5]; exact ⟨h150.1, h150.2.1, (y_fw_t h111 h150.2.2.1)⟩)⟩, by rw [ht]; exact hP, va_K.moved hW.alike hK⟩, hS.F ht⟩) hS.2.2 dX7_goesFair_136
