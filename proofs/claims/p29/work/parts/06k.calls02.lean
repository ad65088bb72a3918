set_option maxHeartbeats 4000000 in
set_option maxRecDepth 100000 in
theorem y_X7_nextOf (l : Launch) (dC : Nat → ClassId) (dI : Nat → Nat → Nat) (sz : Nat) {L : List Nat} {K : Nat → Nat} {cs : Nat → ClassId} (hLK : ∀ a {k : Nat}, K a = k → k ≠ 0 → a ∈ L) (A : Nat → Nat) (hA : y_A K A) (F : Nat → va_E) (a0 : Nat) (x1 : Int32) (x2 : Int32) (ha0 : K a0 = 9) (hx1 : 0 ≤ x1.toInt ∧ x1.toInt ≤ 3) (hx2 : 0 ≤ x2.toInt ∧ x2.toInt ≤ 7) (hI : y_I K cs A F) (hNW : y_NW (y_c (y_at F (A 13)) 387).toInt (y_at F (A 20)) x1.toInt) (hmd : (0 ≤ (y_c (y_at F (A 20)) 3).toInt ∧ (y_c (y_at F (A 20)) 3).toInt ≤ 1)) : Met l yX7_nextOf (Cond.code yX7_nextOf cX7_nextOf 4 (some .int) :: T0) ({ frames := 3, cells := 0, slots := 0, locals := 64 }) (va_Pc [.ref a0, .int x1, .int x2] (s_W dC dI sz L F [(cs 0, .int), (cs 1, .byte), (cs 2, .long), (cs 3, .object RX5), (cs 4, .object RX4), (cs 5, .array .int), (cs 6, .char), (cs 7, .boolean)])) (va_Qi (fun (r : Int32) (G : Nat → va_E) => True ∧ True ∧ y_I K cs A G ∧ (∀ b, K b ∉ ([] : List Nat) → G b = F b) ∧ (∀ k, k ∈ ([1, 2, 3, 4, 5, 6, 7, 8, 11, 15, 16, 19, 25, 26, 27, 31, 32] : List Nat) → y_fi G a0 k = y_fi F a0 k) ∧ True) (fun (G : Nat → va_E) (t : State) => va_P (dC, dI) vwCl (va_pl L G) t.heap ∧ va_K (dC, dI) vwCl [(cs 0, .int), (cs 1, .byte), (cs 2, .long), (cs 3, .object RX5), (cs 4, .object RX4), (cs 5, .array .int), (cs 6, .char), (cs 7, .boolean)] t) (fun q => q ∈ L)) 0 0 (fun q => q ∈ L) := by
  refine Met.ofW (cc := cX7_nextOf) (maxL := 4) (ret := (some .int)) (by decide) rfl ?_
  intro p e s m args below meth c s₁ B hml hv
  obtain ⟨rfl, hsz, hP, hK, hD, hN⟩ := hv
  have hx := B.exec
  have hb := B.bytes
  have hr := B.returns
  have hts : ∀ w ∈ T0, w.before _ s = true := fun w h => atoms_spec (ws := Cond.code yX7_nextOf cX7_nextOf 4 (some .int) :: T0) B.pre w (List.mem_cons_of_mem _ h)
  have hown : s.vm.findClass RX7 = some m.cls := findClass_of_methodNamed B.named
  have hlocks := B.notSynchronized
  have hS : va_S (fun q => q ∈ L) s.heap s.heap [] := va_S.rf
  have hfr : ∀ b, K b ∉ ([] : List Nat) → F b = F b := fun _ _ => rfl
  have hl := lv_entry ([.ref a0, .int x1, .int x2]) (n := 4) (Nat.le_of_ble_eq_true rfl)
  rw [lg_entry_eq]
  generalize (lg_sl ([.ref a0, .int x1, .int x2]) ++ List.replicate (4 - (lg_sl ([.ref a0, .int x1, .int x2])).length) Slot.unset).toArray = ls at hl ⊢
  have hl : lv_has ls 4 [(0, .ref a0), (1, .int x1), (2, .int x2)] := hl
  refine s_gen hP hS (fun H locs hP hS => ?_)
  obtain ⟨z0, q0, oY0, bz0, bq0⟩ := y_opY hI ha0
  have hz0 : ∀ k, k ∈ ([1, 2, 3, 4, 5, 6, 7, 8, 11, 15, 16, 19, 25, 26, 27, 31, 32] : List Nat) → z0 k = z0 k := fun _ _ => rfl
  obtain ⟨f1, o2, b3⟩ := y_op13 hI
  obtain ⟨f4, o5, b6⟩ := y_op20 hI
  have hNW : y_NW (y_c f1 387).toInt f4 x1.toInt := by have q9 := hNW; rw [y_atE o2, y_atE o5] at q9; exact q9
  have hmd : (0 ≤ (y_c f4 3).toInt ∧ (y_c f4 3).toInt ≤ 1) := by have q9 := hmd; rw [y_atE o5] at q9; exact q9
  have hnw := hNW.1.2.2
  refine lv_aload_n hx hb dX7_nextOf_0 rfl (lv_at hl 0 rfl) ?_
  refine lv_iload_n hx hb dX7_nextOf_1 rfl (lv_at hl 1 rfl) ?_
  refine lv_iconst (v := 3) hx hb dX7_nextOf_2 (by decide) ?_
  refine va_calli (va_runV (As := [.int x1, .int 3]) (rest := []) ⟨hx, hb, hml, hown, hts⟩ (y_X7_its l dC dI H.size hLK A hA F a0 x1 3 ha0 (⟨by omega, by omega⟩) (by decide) hI) (cwV 2 hts (ax_gV T_1057 T_1059 T_1060 T_265 T_1058) rfl rfl rfl (by decide +kernel) ⟨Nat.le_of_ble_eq_true rfl, Nat.le_of_ble_eq_true rfl⟩) ⟨fun a U g mk q => ⟨q.1, s_pc rfl rfl q.2⟩, s_recv hK hP (hLK _ ha0 (by decide)) (ci := 7) rfl oY0, fun U hU hW => ⟨rfl, s_pw hU hW hP hK hD hN⟩⟩ rfl rfl hl.1 rfl (lv_room (Nat.le_of_ble_eq_true rfl)) dX7_nextOf_3 ⟨Nat.zero_le _, Nat.zero_le _⟩) hS (fun q _ h => h) (fun q h => h) (fun r8 F9 t H1 locs ht hvm hw hB hz1 hk1 hS => ?_)
  obtain ⟨hP, hK1⟩ := hB
  rw [ht] at hP
  generalize H1 = H at hP hS ⊢
  obtain ⟨h10, h12, hI, hfr1, hzf, h11⟩ := hw
  have o13 : F9 (A 13) = .inl (cs 0, 400, .inl f1) := (hfr1 _ (by rw [(y_k13 hA)]; decide)).trans o2
  have o14 : F9 (A 20) = .inl (cs 0, 918, .inl f4) := (hfr1 _ (by rw [(y_k20 hA)]; decide)).trans o5
  have oY15 : F9 a0 = .inr (7, y_fl A z0 q0) := (hfr1 _ (by rw [ha0]; decide)).trans oY0
  have hfr : ∀ b, K b ∉ ([] : List Nat) → F9 b = F b := fun b hb9 => (hfr1 b (fun q => hb9 (s_sub (by decide) q))).trans (hfr b hb9)
  have h11 : (r8 = y_c f4 (104 + 6 * x1.toInt + 3)) := by have q9 := h11; rw [y_atE o5] at q9; exact q9
  have h11 : r8 = y_c f4 (107 + 6 * x1.toInt) := h11.trans (congrArg (y_c f4) (by omega))
  have h16 := congrArg Int32.toInt h11
  refine lv_iload_n hx hb dX7_nextOf_6 rfl (lv_at hl 2 rfl) ?_
  refine va_calli (va_runS (As := [.int r8, .int x2]) (rest := []) ⟨hx, hb, hml, hown, hts⟩ (y_X7_isOf l dC dI H.size F9 r8 x2 (⟨by omega, by omega⟩)) (cwS 2 hts (ax_gS T_1027 T_1029 T_265 T_1028) rfl rfl rfl (by decide +kernel) ⟨Nat.le_of_ble_eq_true rfl, Nat.le_of_ble_eq_true rfl⟩) ⟨fun a U g mk q => ⟨q.1, s_pc rfl rfl q.2⟩, fun U hU hW => ⟨rfl, s_pw hU hW hP hK hD hN⟩⟩ rfl rfl hl.1 rfl (lv_room (Nat.le_of_ble_eq_true rfl)) dX7_nextOf_7 ⟨Nat.zero_le _, Nat.zero_le _⟩) hS (fun q _ h => h) (fun q h => h) (fun r18 F19 t H1 locs ht hvm hw hB hz1 hk1 hS => ?_)
  obtain ⟨hP, hK1⟩ := hB
  rw [ht] at hP
  generalize H1 = H at hP hS ⊢
  obtain ⟨h20, h22, hG9, h21⟩ := hw
  rw [hG9] at hP
  have h21 : ((r18.toInt = 1 ∧ bt r8 x2.toInt.toNat = true) ∨ (r18.toInt = 0 ∧ bt r8 x2.toInt.toNat = false)) := by have q9 := h21; exact q9
  refine lv_if_ne (tgt := 18) hx hb dX7_nextOf_10 (by decide) (fun c23 => ?_) (fun c23 => ?_)
  · have c23 := mt (ax_eq (n := 0) (by decide)).mpr c23
    have hbl := y_bT h21 c23
    rw [h11] at hbl
    refine lv_aload_n hx hb dX7_nextOf_18 rfl (lv_at hl 0 rfl) ?_
    refine th_get (D := (dC, dI)) (ci := 7) (v := .ref (A 20)) (C := RX7) (T := TX7) (N := 34) hx hb hts inX7 hown hK hP (hLK _ ha0 (by decide)) oY15 rfl 20 (by decide) (hts _ T_251) (fun _ h9 => h9) rfl dX7_nextOf_19 ?_
    refine lv_iconst (v := 3) hx hb dX7_nextOf_22 (by decide) ?_
    refine th_iald hx hb hK hP (hLK _ (y_k20 hA) (by decide)) 0 o14 rfl (ax_in (by decide)) dX7_nextOf_23 ?_
    refine lv_topi (fun v24 ev24 => ?_)
    have Ev24 : v24 = y_c f4 (3) := ev24.trans (y_ci (by decide))
    have tEv24 := congrArg Int32.toInt Ev24
    refine lv_iconst (v := 1) hx hb dX7_nextOf_24 (by decide) ?_
    refine lv_icmp_ne (tgt := 39) hx hb dX7_nextOf_25 (by decide) (fun c25 => ?_) (fun c25 => ?_)
    · have c25 := mt (ax_eq (n := 1) (by decide)).mpr c25
      obtain ⟨hS1, hS2⟩ := hNW.2.1 (by omega)
      have hgn : 0 < (y_c f4 (109 + 6 * x1.toInt)).toInt := by apply Classical.byContradiction; intro hh; have q9 := hS1.2.2.1 (by omega); rw [q9, b_0] at hbl; cases hbl
      have hb0 := hS1.2.2.2 hgn _ hbl
      refine lv_aload_n hx hb dX7_nextOf_39 rfl (lv_at hl 0 rfl) ?_
      refine lv_iload_n hx hb dX7_nextOf_40 rfl (lv_at hl 1 rfl) ?_
      refine va_calli (va_runV (As := [.int x1]) (rest := []) ⟨hx, hb, hml, hown, hts⟩ (y_X7_top l dC dI H.size hLK A hA F9 a0 x1 ha0 (⟨by omega, by omega⟩) hI) (cwV 1 hts (ax_gV T_1074 T_1076 T_1077 T_265 T_1075) rfl rfl rfl (by decide +kernel) ⟨Nat.le_of_ble_eq_true rfl, Nat.le_of_ble_eq_true rfl⟩) ⟨fun a U g mk q => ⟨q.1, s_pc rfl rfl q.2⟩, s_recv hK hP (hLK _ ha0 (by decide)) (ci := 7) rfl oY15, fun U hU hW => ⟨rfl, s_pw hU hW hP hK hD hN⟩⟩ rfl rfl hl.1 rfl (lv_room (Nat.le_of_ble_eq_true rfl)) dX7_nextOf_41 ⟨Nat.zero_le _, Nat.zero_le _⟩) hS (fun q _ h => h) (fun q h => h) (fun r27 F28 t H1 locs ht hvm hw hB hz1 hk1 hS => ?_)
      obtain ⟨hP, hK1⟩ := hB
      rw [ht] at hP
      generalize H1 = H at hP hS ⊢
      obtain ⟨h29, h31, hI, hfr1, hzf, h30⟩ := hw
      have o32 : F28 (A 13) = .inl (cs 0, 400, .inl f1) := (hfr1 _ (by rw [(y_k13 hA)]; decide)).trans o13
      have o33 : F28 (A 20) = .inl (cs 0, 918, .inl f4) := (hfr1 _ (by rw [(y_k20 hA)]; decide)).trans o14
      have oY34 : F28 a0 = .inr (7, y_fl A z0 q0) := (hfr1 _ (by rw [ha0]; decide)).trans oY15
      have hfr : ∀ b, K b ∉ ([] : List Nat) → F28 b = F b := fun b hb9 => (hfr1 b (fun q => hb9 (s_sub (by decide) q))).trans (hfr b hb9)
      have h30 : (r27 = y_c f4 (109 + 6 * x1.toInt) - 1) := by have q9 := h30; rw [y_atE o14] at q9; exact q9
      have h35 := congrArg Int32.toInt h30
      have h36 : 0 ≤ r27.toInt ∧ r27.toInt ≤ 14 := by have q9 : r27.toInt = (y_c f4 (109 + 6 * x1.toInt)).toInt - 1 := (by rw [h30]; exact th_sub rfl (by decide) ⟨by omega, by omega⟩); exact ⟨by omega, by omega⟩
      have h37 : r27.toInt = (y_c f4 (109 + 6 * x1.toInt)).toInt - 1 := by rw [h30]; exact th_sub rfl (by decide) ⟨by omega, by omega⟩
      refine lv_istore_n (lv' := [(3, .int r27), (0, .ref a0), (1, .int x1), (2, .int x2)]) hx hb dX7_nextOf_44 rfl hl (by decide) rfl (fun ls hl => ?_)
      refine th_loop (fun n g H locs => ∃ (G : Nat → va_E) (ls : Array Slot) (w38 : Int32), g = F0 m 45 ls [] ∧ lv_has ls 4 [(0, .ref a0), (1, .int x1), (2, .int x2), (3, .int w38)] ∧ va_P (dC, dI) vwCl (va_pl L G) H ∧ va_S (fun q => q ∈ L) s.heap H locs ∧ y_I K cs A G ∧ (∀ b, K b ∉ ([] : List Nat) → G b = F b) ∧ (∀ k, k ∈ ([1, 2, 3, 4, 5, 6, 7, 8, 11, 15, 16, 19, 25, 26, 27, 31, 32] : List Nat) → y_fi G a0 k = z0 k) ∧ (0 ≤ w38.toInt ∧ w38.toInt ≤ 14) ∧ (0 ≤ x1.toInt ∧ x1.toInt ≤ 3) ∧ (0 ≤ x2.toInt ∧ x2.toInt ≤ 7) ∧ (0 ≤ w38.toInt ∧ w38.toInt < (y_c f4 (109 + 6 * x1.toInt)).toInt) ∧ n = (w38.toInt - (-1)).toNat) _ ⟨F28, _, r27, rfl, lv_sub hl [1, 2, 3, 0] rfl, hP, hS, hI, hfr, (fun k hk => (y_fiZ oY34 (s_sub (by decide) hk)).trans (hz0 k hk)), ⟨by omega, by omega⟩, ⟨by omega, by omega⟩, ⟨by omega, by omega⟩, (by omega), rfl⟩ (fun n ih45 g H locs hq => ?_)
      obtain ⟨F43, ls, w38, rfl, hl, hP, hS, hI, hfr, hz0, h39, h40, h41, h42, hn⟩ := hq
      have o44 : F43 (A 13) = .inl (cs 0, 400, .inl f1) := (hfr _ (by rw [(y_k13 hA)]; decide)).trans o2
      have o45 : F43 (A 20) = .inl (cs 0, 918, .inl f4) := (hfr _ (by rw [(y_k20 hA)]; decide)).trans o5
      have oY46 : F43 a0 = .inr (7, y_fl A z0 q0) := (hfr _ (by rw [ha0]; decide)).trans oY0
      have hz0 : ∀ k, k ∈ ([1, 2, 3, 4, 5, 6, 7, 8, 11, 15, 16, 19, 25, 26, 27, 31, 32] : List Nat) → z0 k = z0 k := fun _ _ => rfl
      have hn_46 := hn
      refine lv_aload_n hx hb dX7_nextOf_45 rfl (lv_at hl 0 rfl) ?_
      refine th_get (D := (dC, dI)) (ci := 7) (v := .ref (A 20)) (C := RX7) (T := TX7) (N := 34) hx hb hts inX7 hown hK hP (hLK _ ha0 (by decide)) oY46 rfl 20 (by decide) (hts _ T_251) (fun _ h9 => h9) rfl dX7_nextOf_46 ?_
      refine lv_iload_n hx hb dX7_nextOf_49 rfl (lv_at hl 1 rfl) ?_
      refine lv_iload_n hx hb dX7_nextOf_50 rfl (lv_at hl 3 rfl) ?_
      refine lv_iconst (v := 2) hx hb dX7_nextOf_51 (by decide) ?_
      refine va_calli (va_runS (As := [.int x1, .int w38, .int 2]) (rest := [.ref (A 20)]) ⟨hx, hb, hml, hown, hts⟩ (y_X7_partAt l dC dI H.size F43 x1 w38 2 (⟨by omega, by omega⟩) (⟨by omega, by omega⟩) (by decide)) (cwS 3 hts (ax_gS T_1078 T_1080 T_265 T_1079) rfl rfl rfl (by decide +kernel) ⟨Nat.le_of_ble_eq_true rfl, Nat.le_of_ble_eq_true rfl⟩) ⟨fun a U g mk q => ⟨q.1, s_pc rfl rfl q.2⟩, fun U hU hW => ⟨rfl, s_pw hU hW hP hK hD hN⟩⟩ rfl rfl hl.1 rfl (lv_room (Nat.le_of_ble_eq_true rfl)) dX7_nextOf_52 ⟨Nat.zero_le _, Nat.zero_le _⟩) hS (fun q _ h => h) (fun q h => h) (fun r48 F49 t H1 locs ht hvm hw hB hz1 hk1 hS => ?_)
      obtain ⟨hP, hK1⟩ := hB
      rw [ht] at hP
      generalize H1 = H at hP hS ⊢
      obtain ⟨h50, h52, hG9, h51⟩ := hw
      rw [hG9] at hP
      have h51 : (r48.toInt = 288 + 48 * x1.toInt + 3 * w38.toInt + 2) := by have q9 := h51; exact q9
      refine th_iald hx hb hK hP (hLK _ (y_k20 hA) (by decide)) 0 o45 rfl (th_in ⟨by omega, by omega⟩) dX7_nextOf_55 ?_
      refine lv_topi (fun v53 ev53 => ?_)
      have Ev53 : v53 = y_c f4 (290 + 48 * x1.toInt + 3 * w38.toInt) := ev53.trans (y_ci (by omega))
      have tEv53 := congrArg Int32.toInt Ev53
      refine lv_iload_n hx hb dX7_nextOf_56 rfl (lv_at hl 2 rfl) ?_
      refine va_calli (va_runS (As := [.int v53, .int x2]) (rest := []) ⟨hx, hb, hml, hown, hts⟩ (y_X7_isOf l dC dI H.size F43 v53 x2 (⟨by omega, by omega⟩)) (cwS 2 hts (ax_gS T_1027 T_1029 T_265 T_1028) rfl rfl rfl (by decide +kernel) ⟨Nat.le_of_ble_eq_true rfl, Nat.le_of_ble_eq_true rfl⟩) ⟨fun a U g mk q => ⟨q.1, s_pc rfl rfl q.2⟩, fun U hU hW => ⟨rfl, s_pw hU hW hP hK hD hN⟩⟩ rfl rfl hl.1 rfl (lv_room (Nat.le_of_ble_eq_true rfl)) dX7_nextOf_57 ⟨Nat.zero_le _, Nat.zero_le _⟩) hS (fun q _ h => h) (fun q h => h) (fun r55 F56 t H1 locs ht hvm hw hB hz1 hk1 hS => ?_)
      obtain ⟨hP, hK1⟩ := hB
      rw [ht] at hP
      generalize H1 = H at hP hS ⊢
      obtain ⟨h57, h59, hG9, h58⟩ := hw
      rw [hG9] at hP
      have h58 : ((r55.toInt = 1 ∧ bt v53 x2.toInt.toNat = true) ∨ (r55.toInt = 0 ∧ bt v53 x2.toInt.toNat = false)) := by have q9 := h58; exact q9
      refine lv_if_ne (tgt := 69) hx hb dX7_nextOf_60 (by decide) (fun c60 => ?_) (fun c60 => ?_)
      · have c60 := mt (ax_eq (n := 0) (by decide)).mpr c60
        refine lv_aload_n hx hb dX7_nextOf_69 rfl (lv_at hl 0 rfl) ?_
        refine th_get (D := (dC, dI)) (ci := 7) (v := .ref (A 20)) (C := RX7) (T := TX7) (N := 34) hx hb hts inX7 hown hK hP (hLK _ ha0 (by decide)) oY46 rfl 20 (by decide) (hts _ T_251) (fun _ h9 => h9) rfl dX7_nextOf_70 ?_
        refine lv_iload_n hx hb dX7_nextOf_73 rfl (lv_at hl 1 rfl) ?_
        refine lv_iload_n hx hb dX7_nextOf_74 rfl (lv_at hl 3 rfl) ?_
        refine lv_iconst (v := 0) hx hb dX7_nextOf_75 (by decide) ?_
        refine va_calli (va_runS (As := [.int x1, .int w38, .int 0]) (rest := [.ref (A 20)]) ⟨hx, hb, hml, hown, hts⟩ (y_X7_partAt l dC dI H.size F43 x1 w38 0 (⟨by omega, by omega⟩) (⟨by omega, by omega⟩) (by decide)) (cwS 3 hts (ax_gS T_1078 T_1080 T_265 T_1079) rfl rfl rfl (by decide +kernel) ⟨Nat.le_of_ble_eq_true rfl, Nat.le_of_ble_eq_true rfl⟩) ⟨fun a U g mk q => ⟨q.1, s_pc rfl rfl q.2⟩, fun U hU hW => ⟨rfl, s_pw hU hW hP hK hD hN⟩⟩ rfl rfl hl.1 rfl (lv_room (Nat.le_of_ble_eq_true rfl)) dX7_nextOf_76 ⟨Nat.zero_le _, Nat.zero_le _⟩) hS (fun q _ h => h) (fun q h => h) (fun r62 F63 t H1 locs ht hvm hw hB hz1 hk1 hS => ?_)
        obtain ⟨hP, hK1⟩ := hB
        rw [ht] at hP
        generalize H1 = H at hP hS ⊢
        obtain ⟨h64, h66, hG9, h65⟩ := hw
        rw [hG9] at hP
        have h65 : (r62.toInt = 288 + 48 * x1.toInt + 3 * w38.toInt + 0) := by have q9 := h65; exact q9
        refine th_iald hx hb hK hP (hLK _ (y_k20 hA) (by decide)) 0 o45 rfl (th_in ⟨by omega, by omega⟩) dX7_nextOf_79 ?_
        refine lv_topi (fun v67 ev67 => ?_)
        exact W.iret (v := v67) hx hb hr (fun t ht hW => ⟨⟨v67, F43, rfl, ⟨trivial, trivial, hI, hfr, fun k hk => (y_fiZ oY46 (s_sub (by decide) hk)).trans ((hz0 k hk).trans (y_fiZ oY0 (s_sub (by decide) hk)).symm), trivial⟩, by rw [ht]; exact hP, va_K.moved hW.alike hK⟩, hS.F ht⟩) hS.2.2 dX7_nextOf_80
      · have c60 := (ax_eq (n := 0) (by decide)).mp c60
        have hbx := y_bF h58 c60
        have hk0 : ¬ w38.toInt = 0 := fun q => by rw [Ev53, q, show 290 + 48 * x1.toInt + 3 * 0 = 290 + 48 * x1.toInt by omega, hb0] at hbx; cases hbx
        obtain ⟨v68, ev68⟩ : ∃ y : Int32, w38 + (-1) = y := ⟨_, rfl⟩
        have qv68 : v68.toInt = w38.toInt + (-1) := by rw [← ev68]; exact th_add rfl (by decide) ⟨by omega, by omega⟩
        refine lv_iinc (v := v68) (lv' := [(3, .int v68), (0, .ref a0), (1, .int x1), (2, .int x2)]) hx hb dX7_nextOf_63 hl (k := 3) rfl ev68 (by decide) rfl (fun ls hl => ?_)
        have h69 : 0 ≤ v68.toInt ∧ v68.toInt ≤ 14 := ⟨by omega, by omega⟩
        refine lv_goto (tgt := 45) hx hb dX7_nextOf_66 (by decide) ?_
        exact ih45 _ _ _ _ (by omega) ⟨F43, _, v68, rfl, lv_sub hl [1, 2, 3, 0] rfl, hP, hS, hI, hfr, (fun k hk => (y_fiZ oY46 (s_sub (by decide) hk)).trans (hz0 k hk)), ⟨by omega, by omega⟩, ⟨by omega, by omega⟩, ⟨by omega, by omega⟩, (by omega), rfl⟩
    · have c25 := (ax_eq (n := 1) (by decide)).mp c25
      refine lv_aload_n hx hb dX7_nextOf_28 rfl (lv_at hl 0 rfl) ?_
      refine th_get (D := (dC, dI)) (ci := 7) (v := .ref (A 20)) (C := RX7) (T := TX7) (N := 34) hx hb hts inX7 hown hK hP (hLK _ ha0 (by decide)) oY15 rfl 20 (by decide) (hts _ T_251) (fun _ h9 => h9) rfl dX7_nextOf_29 ?_
      refine lv_iload_n hx hb dX7_nextOf_32 rfl (lv_at hl 1 rfl) ?_
      refine lv_iload_n hx hb dX7_nextOf_33 rfl (lv_at hl 2 rfl) ?_
      refine va_calli (va_runS (As := [.int x1, .int x2]) (rest := [.ref (A 20)]) ⟨hx, hb, hml, hown, hts⟩ (y_X7_nextAt l dC dI H.size F9 x1 x2 (⟨by omega, by omega⟩) (⟨by omega, by omega⟩)) (cwS 2 hts (ax_gS T_1024 T_1026 T_265 T_1025) rfl rfl rfl (by decide +kernel) ⟨Nat.le_of_ble_eq_true rfl, Nat.le_of_ble_eq_true rfl⟩) ⟨fun a U g mk q => ⟨q.1, s_pc rfl rfl q.2⟩, fun U hU hW => ⟨rfl, s_pw hU hW hP hK hD hN⟩⟩ rfl rfl hl.1 rfl (lv_room (Nat.le_of_ble_eq_true rfl)) dX7_nextOf_34 ⟨Nat.zero_le _, Nat.zero_le _⟩) hS (fun q _ h => h) (fun q h => h) (fun r71 F72 t H1 locs ht hvm hw hB hz1 hk1 hS => ?_)
      obtain ⟨hP, hK1⟩ := hB
      rw [ht] at hP
      generalize H1 = H at hP hS ⊢
      obtain ⟨h73, h75, hG9, h74⟩ := hw
      rw [hG9] at hP
      have h74 : (r71.toInt = 256 + 8 * x1.toInt + x2.toInt) := by have q9 := h74; exact q9
      refine th_iald hx hb hK hP (hLK _ (y_k20 hA) (by decide)) 0 o14 rfl (th_in ⟨by omega, by omega⟩) dX7_nextOf_37 ?_
      refine lv_topi (fun v76 ev76 => ?_)
      exact W.iret (v := v76) hx hb hr (fun t ht hW => ⟨⟨v76, F9, rfl, ⟨trivial, trivial, hI, hfr, fun k hk => (y_fiZ oY15 (s_sub (by decide) hk)).trans ((hz0 k hk).trans (y_fiZ oY0 (s_sub (by decide) hk)).symm), trivial⟩, by rw [ht]; exact hP, va_K.moved hW.alike hK⟩, hS.F ht⟩) hS.2.2 dX7_nextOf_38
  · have c23 := (ax_eq (n := 0) (by decide)).mp c23
    refine lv_aload_n hx hb dX7_nextOf_13 rfl (lv_at hl 0 rfl) ?_
    refine va_calli (va_runV (As := []) (rest := []) ⟨hx, hb, hml, hown, hts⟩ (y_X7_lines l dC dI H.size hLK A hA F9 a0 ha0 hI) (cwV 0 hts (ax_gV T_1030 T_1032 T_1033 T_265 T_1031) rfl rfl rfl (by decide +kernel) ⟨Nat.le_of_ble_eq_true rfl, Nat.le_of_ble_eq_true rfl⟩) ⟨fun a U g mk q => ⟨q.1, s_pc rfl rfl q.2⟩, s_recv hK hP (hLK _ ha0 (by decide)) (ci := 7) rfl oY15, fun U hU hW => ⟨rfl, s_pw hU hW hP hK hD hN⟩⟩ rfl rfl hl.1 rfl (lv_room (Nat.le_of_ble_eq_true rfl)) dX7_nextOf_14 ⟨Nat.zero_le _, Nat.zero_le _⟩) hS (fun q _ h => h) (fun q h => h) (fun r78 F79 t H1 locs ht hvm hw hB hz1 hk1 hS => ?_)
    obtain ⟨hP, hK1⟩ := hB
    rw [ht] at hP
    generalize H1 = H at hP hS ⊢
    obtain ⟨h80, h82, hI, hfr1, hzf, h81⟩ := hw
    have o83 : F79 (A 13) = .inl (cs 0, 400, .inl f1) := (hfr1 _ (by rw [(y_k13 hA)]; decide)).trans o13
    have o84 : F79 (A 20) = .inl (cs 0, 918, .inl f4) := (hfr1 _ (by rw [(y_k20 hA)]; decide)).trans o14
    have oY85 : F79 a0 = .inr (7, y_fl A z0 q0) := (hfr1 _ (by rw [ha0]; decide)).trans oY15
    have hfr : ∀ b, K b ∉ ([] : List Nat) → F79 b = F b := fun b hb9 => (hfr1 b (fun q => hb9 (s_sub (by decide) q))).trans (hfr b hb9)
    have h81 : (r78 = y_c f1 387) := by have q9 := h81; rw [y_atE o13] at q9; exact q9
    have h86 := congrArg Int32.toInt h81
    exact W.iret (v := r78) hx hb hr (fun t ht hW => ⟨⟨r78, F79, rfl, ⟨trivial, trivial, hI, hfr, fun k hk => (y_fiZ oY85 (s_sub (by decide) hk)).trans ((hz0 k hk).trans (y_fiZ oY0 (s_sub (by decide) hk)).symm), trivial⟩, by rw [ht]; exact hP, va_K.moved hW.alike hK⟩, hS.F ht⟩) hS.2.2 dX7_nextOf_17

set_option maxHeartbeats 4000000 in
set_option maxRecDepth 100000 in
theorem y_X7_lane (l : Launch) (dC : Nat → ClassId) (dI : Nat → Nat → Nat) (sz : Nat) {L : List Nat} {K : Nat → Nat} {cs : Nat → ClassId} (hLK : ∀ a {k : Nat}, K a = k → k ≠ 0 → a ∈ L) (A : Nat → Nat) (hA : y_A K A) (F : Nat → va_E) (a0 : Nat) (x1 : Int32) (x2 : Int32) (x3 : Int32) (ha0 : K a0 = 9) (hI : y_I K cs A F) (hT : y_T (y_fi F a0 15) (y_at F (A 13)) (y_at F (A 20)) (y_at F (A 30)) (y_fi F a0 31) (y_fi F a0 32)) : Met l yX7_lane (Cond.code yX7_lane cX7_lane 4 (some .int) :: T0) ({ frames := 4, cells := 0, slots := 0, locals := 87 }) (va_Pc [.ref a0, .int x1, .int x2, .int x3] (s_W dC dI sz L F [(cs 0, .int), (cs 1, .byte), (cs 2, .long), (cs 3, .object RX5), (cs 4, .object RX4), (cs 5, .array .int), (cs 6, .char), (cs 7, .boolean)])) (va_Qi (fun (r : Int32) (G : Nat → va_E) => True ∧ True ∧ y_I K cs A G ∧ (∀ b, K b ∉ ([] : List Nat) → G b = F b) ∧ (∀ k, k ∈ ([1, 2, 3, 4, 5, 6, 7, 8, 11, 15, 16, 19, 25, 26, 27, 31, 32] : List Nat) → y_fi G a0 k = y_fi F a0 k) ∧ (y_T (y_fi G a0 15) (y_at G (A 13)) (y_at G (A 20)) (y_at G (A 30)) (y_fi G a0 31) (y_fi G a0 32))) (fun (G : Nat → va_E) (t : State) => va_P (dC, dI) vwCl (va_pl L G) t.heap ∧ va_K (dC, dI) vwCl [(cs 0, .int), (cs 1, .byte), (cs 2, .long), (cs 3, .object RX5), (cs 4, .object RX4), (cs 5, .array .int), (cs 6, .char), (cs 7, .boolean)] t) (fun q => q ∈ L)) 0 0 (fun q => q ∈ L) := by
  refine Met.ofW (cc := cX7_lane) (maxL := 4) (ret := (some .int)) (by decide) rfl ?_
  intro p e s m args below meth c s₁ B hml hv
  obtain ⟨rfl, hsz, hP, hK, hD, hN⟩ := hv
  have hx := B.exec
  have hb := B.bytes
  have hr := B.returns
  have hts : ∀ w ∈ T0, w.before _ s = true := fun w h => atoms_spec (ws := Cond.code yX7_lane cX7_lane 4 (some .int) :: T0) B.pre w (List.mem_cons_of_mem _ h)
  have hown : s.vm.findClass RX7 = some m.cls := findClass_of_methodNamed B.named
  have hlocks := B.notSynchronized
  have hS : va_S (fun q => q ∈ L) s.heap s.heap [] := va_S.rf
  have hfr : ∀ b, K b ∉ ([] : List Nat) → F b = F b := fun _ _ => rfl
  have hl := lv_entry ([.ref a0, .int x1, .int x2, .int x3]) (n := 4) (Nat.le_of_ble_eq_true rfl)
  rw [lg_entry_eq]
  generalize (lg_sl ([.ref a0, .int x1, .int x2, .int x3]) ++ List.replicate (4 - (lg_sl ([.ref a0, .int x1, .int x2, .int x3])).length) Slot.unset).toArray = ls at hl ⊢
  have hl : lv_has ls 4 [(0, .ref a0), (1, .int x1), (2, .int x2), (3, .int x3)] := hl
  refine s_gen hP hS (fun H locs hP hS => ?_)
  obtain ⟨z0, q0, oY0, bz0, bq0⟩ := y_opY hI ha0
  have hz0 : ∀ k, k ∈ ([1, 2, 3, 4, 5, 6, 7, 8, 11, 15, 16, 19, 25, 26, 27, 31, 32] : List Nat) → z0 k = z0 k := fun _ _ => rfl
  obtain ⟨f1, o2, b3⟩ := y_op13 hI
  obtain ⟨f4, o5, b6⟩ := y_op20 hI
  obtain ⟨f7, o8, b9⟩ := y_op30 hI
  obtain ⟨v10, ev10⟩ : ∃ y : Int32, y = z0 15 := ⟨_, rfl⟩
  have qv10 : 0 ≤ v10.toInt ∧ v10.toInt ≤ 1 := by rw [ev10]; exact y_bY15 bz0
  have eF_15 := ev10
  obtain ⟨v11, ev11⟩ : ∃ y : Int32, y = z0 31 := ⟨_, rfl⟩
  have qv11 : 0 ≤ v11.toInt ∧ v11.toInt ≤ 20 := by rw [ev11]; exact y_bY31 bz0
  have eF_31 := ev11
  obtain ⟨v12, ev12⟩ : ∃ y : Int32, y = z0 32 := ⟨_, rfl⟩
  have qv12 : 0 ≤ v12.toInt ∧ v12.toInt ≤ 19 := by rw [ev12]; exact y_bY32 bz0
  have eF_32 := ev12
  have hT : y_T v10 f1 f4 f7 v11 v12 := by have q9 := hT; rw [y_fiZ oY0 (k := 15) (by decide), ← ev10, y_atE o2, y_atE o5, y_atE o8, y_fiZ oY0 (k := 31) (by decide), ← ev11, y_fiZ oY0 (k := 32) (by decide), ← ev12] at q9; exact q9
  have e0_v10 := ev10
  have e0_v11 := ev11
  have e0_v12 := ev12
  refine lv_aload_n hx hb dX7_lane_0 rfl (lv_at hl 0 rfl) ?_
  refine lv_iload_n hx hb dX7_lane_1 rfl (lv_at hl 1 rfl) ?_
  refine lv_iload_n hx hb dX7_lane_2 rfl (lv_at hl 2 rfl) ?_
  have ep13_15 := ev10
  refine va_calli (va_runV (As := [.int x1, .int x2]) (rest := []) ⟨hx, hb, hml, hown, hts⟩ (y_X7_isLane l dC dI H.size hLK A hA F a0 x1 x2 ha0 hI (by rw [y_fiZ oY0 (k := 15) (by decide), ← ev10, y_atE o2, y_atE o5, y_atE o8, y_fiZ oY0 (k := 31) (by decide), ← ev11, y_fiZ oY0 (k := 32) (by decide), ← ev12]; exact hT)) (cwV 2 hts (ax_gV T_317 T_318 T_319 T_265 T_35) rfl rfl rfl (by decide +kernel) ⟨Nat.le_of_ble_eq_true rfl, Nat.le_of_ble_eq_true rfl⟩) ⟨fun a U g mk q => ⟨q.1, s_pc rfl rfl q.2⟩, s_recv hK hP (hLK _ ha0 (by decide)) (ci := 7) rfl oY0, fun U hU hW => ⟨rfl, s_pw hU hW hP hK hD hN⟩⟩ rfl rfl hl.1 rfl (lv_room (Nat.le_of_ble_eq_true rfl)) dX7_lane_3 ⟨Nat.zero_le _, Nat.zero_le _⟩) hS (fun q _ h => h) (fun q h => h) (fun r14 F15 t H1 locs ht hvm hw hB hz1 hk1 hS => ?_)
  obtain ⟨hP, hK1⟩ := hB
  rw [ht] at hP
  generalize H1 = H at hP hS ⊢
  obtain ⟨h16, h18, hI, hfr1, hzf, h17⟩ := hw
  have o19 : F15 (A 13) = .inl (cs 0, 400, .inl f1) := (hfr1 _ (by rw [(y_k13 hA)]; decide)).trans o2
  have o20 : F15 (A 20) = .inl (cs 0, 918, .inl f4) := (hfr1 _ (by rw [(y_k20 hA)]; decide)).trans o5
  have o21 : F15 (A 30) = .inl (cs 0, 18360, .inl f7) := (hfr1 _ (by rw [(y_k30 hA)]; decide)).trans o8
  have oY22 : F15 a0 = .inr (7, y_fl A z0 q0) := (hfr1 _ (by rw [ha0]; decide)).trans oY0
  have hfr : ∀ b, K b ∉ ([] : List Nat) → F15 b = F b := fun b hb9 => (hfr1 b (fun q => hb9 (s_sub (by decide) q))).trans (hfr b hb9)
  have h17 : (r14.toInt = 0 ∨ (v10.toInt = 1 ∧ (0 ≤ x1.toInt ∧ x1.toInt < (y_c f1 384).toInt) ∧ (0 ≤ x2.toInt ∧ x2.toInt ≤ 7))) := by have q9 := h17; rw [y_fiZ oY0 (k := 15) (by decide), ← ep13_15, y_atE o2] at q9; exact q9
  refine lv_if_eq (tgt := 21) hx hb dX7_lane_6 (by decide) (fun c23 => ?_) (fun c23 => ?_)
  · have c23 := (ax_eq (n := 0) (by decide)).mp c23
    refine lv_ldc (v := (-1000000)) hx hb hown (hts _ T_316) dX7_lane_21 ?_
    have h24 : ((-1000000) : Int32).toInt = (-1000000) := by decide
    exact W.iret (v := (-1000000)) hx hb hr (fun t ht hW => ⟨⟨(-1000000), F15, rfl, ⟨trivial, trivial, hI, hfr, fun k hk => (y_fiZ oY22 (s_sub (by decide) hk)).trans ((hz0 k hk).trans (y_fiZ oY0 (s_sub (by decide) hk)).symm), (by rw [y_fiZ oY22 (k := 15) (by decide), ← ev10, y_atE o19, y_atE o20, y_atE o21, y_fiZ oY22 (k := 31) (by decide), ← ev11, y_fiZ oY22 (k := 32) (by decide), ← ev12]; exact hT)⟩, by rw [ht]; exact hP, va_K.moved hW.alike hK⟩, hS.F ht⟩) hS.2.2 dX7_lane_23
  · have c23 := mt (ax_eq (n := 0) (by decide)).mpr c23
    have hln9 := h17.resolve_left c23
    obtain ⟨htd, hPG, hNG, hUG⟩ := y_TT hT (by omega)
    have hL := y_P0L hPG.1
    have hW := y_P0W hPG.1
    have hnn := And.intro hNG.1 (And.intro hNG.2.1 (And.intro hNG.2.2.1 hNG.2.2.2.1))
    refine lv_iload_n hx hb dX7_lane_9 rfl (lv_at hl 3 rfl) ?_
    refine lv_i2l hx hb dX7_lane_10 rfl ?_
    refine lv_topl (fun v25 ev25 => ?_)
    have qv25 : v25.toInt = x3.toInt := y_i2l ev25
    refine lv_lconst (v := 0) hx hb dX7_lane_11 (by decide) ?_
    refine lv_ldc2 hx hb hown (hts _ T_1233) dX7_lane_12 ?_
    refine va_calli (va_runS (As := [.long v25, .long 0, .long 6]) (rest := []) ⟨hx, hb, hml, hown, hts⟩ (y_X7_isIn l dC dI H.size F15 v25 0 6) (cwS 3 hts (ax_gS T_267 T_268 T_265 T_21) rfl rfl rfl (by decide +kernel) ⟨Nat.le_of_ble_eq_true rfl, Nat.le_of_ble_eq_true rfl⟩) ⟨fun a U g mk q => ⟨q.1, s_pc rfl rfl q.2⟩, fun U hU hW => ⟨rfl, s_pw hU hW hP hK hD hN⟩⟩ rfl rfl hl.1 rfl (lv_room (Nat.le_of_ble_eq_true rfl)) dX7_lane_15 ⟨Nat.zero_le _, Nat.zero_le _⟩) hS (fun q _ h => h) (fun q h => h) (fun r27 F28 t H1 locs ht hvm hw hB hz1 hk1 hS => ?_)
    obtain ⟨hP, hK1⟩ := hB
    rw [ht] at hP
    generalize H1 = H at hP hS ⊢
    obtain ⟨h29, h31, hG9, h30⟩ := hw
    rw [hG9] at hP
    have h30 : ((r27.toInt = 0 ∧ (v25.toInt < 0 ∨ 6 < v25.toInt)) ∨ (r27.toInt = 1 ∧ 0 ≤ v25.toInt ∧ v25.toInt ≤ 6)) := by have q9 := h30; exact q9
    refine lv_if_ne (tgt := 24) hx hb dX7_lane_18 (by decide) (fun c32 => ?_) (fun c32 => ?_)
    · have c32 := mt (ax_eq (n := 0) (by decide)).mpr c32
      refine lv_iload_n hx hb dX7_lane_24 rfl (lv_at hl 3 rfl) ?_
      by_cases c33 : x3 = 4
      · refine ax_eqi c33 ?_
        refine lv_tableIn (off := 27) (tgt := 52) hx hb dX7_lane_25 (by decide) (by decide) (by decide) (by decide) ?_
        have c33 := (ax_eq (n := 4) (by decide)).mp c33
        refine lv_aload_n hx hb dX7_lane_52 rfl (lv_at hl 0 rfl) ?_
        refine lv_iload_n hx hb dX7_lane_53 rfl (lv_at hl 1 rfl) ?_
        refine lv_iconst (v := 3) hx hb dX7_lane_54 (by decide) ?_
        refine va_calli (va_runV (As := [.int x1, .int 3]) (rest := []) ⟨hx, hb, hml, hown, hts⟩ (y_X7_its l dC dI H.size hLK A hA F15 a0 x1 3 ha0 (⟨by omega, by omega⟩) (by decide) hI) (cwV 2 hts (ax_gV T_1057 T_1059 T_1060 T_265 T_1058) rfl rfl rfl (by decide +kernel) ⟨Nat.le_of_ble_eq_true rfl, Nat.le_of_ble_eq_true rfl⟩) ⟨fun a U g mk q => ⟨q.1, s_pc rfl rfl q.2⟩, s_recv hK hP (hLK _ ha0 (by decide)) (ci := 7) rfl oY22, fun U hU hW => ⟨rfl, s_pw hU hW hP hK hD hN⟩⟩ rfl rfl hl.1 rfl (lv_room (Nat.le_of_ble_eq_true rfl)) dX7_lane_55 ⟨Nat.zero_le _, Nat.zero_le _⟩) hS (fun q _ h => h) (fun q h => h) (fun r35 F36 t H1 locs ht hvm hw hB hz1 hk1 hS => ?_)
        obtain ⟨hP, hK1⟩ := hB
        rw [ht] at hP
        generalize H1 = H at hP hS ⊢
        obtain ⟨h37, h39, hI, hfr1, hzf, h38⟩ := hw
        have o40 : F36 (A 13) = .inl (cs 0, 400, .inl f1) := (hfr1 _ (by rw [(y_k13 hA)]; decide)).trans o19
        have o41 : F36 (A 20) = .inl (cs 0, 918, .inl f4) := (hfr1 _ (by rw [(y_k20 hA)]; decide)).trans o20
        have o42 : F36 (A 30) = .inl (cs 0, 18360, .inl f7) := (hfr1 _ (by rw [(y_k30 hA)]; decide)).trans o21
        have oY43 : F36 a0 = .inr (7, y_fl A z0 q0) := (hfr1 _ (by rw [ha0]; decide)).trans oY22
        have hfr : ∀ b, K b ∉ ([] : List Nat) → F36 b = F b := fun b hb9 => (hfr1 b (fun q => hb9 (s_sub (by decide) q))).trans (hfr b hb9)
        have h38 : (r35 = y_c f4 (104 + 6 * x1.toInt + 3)) := by have q9 := h38; rw [y_atE o20] at q9; exact q9
        have h38 : r35 = y_c f4 (107 + 6 * x1.toInt) := h38.trans (congrArg (y_c f4) (by omega))
        have h44 := congrArg Int32.toInt h38
        refine lv_iload_n hx hb dX7_lane_58 rfl (lv_at hl 2 rfl) ?_
        refine lv_ishr hx hb dX7_lane_59 ?_
        refine lv_topi (fun v45 ev45 => ?_)
        refine lv_iconst (v := 1) hx hb dX7_lane_60 (by decide) ?_
        refine lv_iand hx hb dX7_lane_61 ?_
        refine lv_topi (fun v46 ev46 => ?_)
        have qv46 : 0 ≤ v46.toInt ∧ v46.toInt ≤ 1 := by rw [ev46]; exact th_and 1 (by decide) (by decide)
        exact W.iret (v := v46) hx hb hr (fun t ht hW => ⟨⟨v46, F36, rfl, ⟨trivial, trivial, hI, hfr, fun k hk => (y_fiZ oY43 (s_sub (by decide) hk)).trans ((hz0 k hk).trans (y_fiZ oY0 (s_sub (by decide) hk)).symm), (by rw [y_fiZ oY43 (k := 15) (by decide), ← ev10, y_atE o40, y_atE o41, y_atE o42, y_fiZ oY43 (k := 31) (by decide), ← ev11, y_fiZ oY43 (k := 32) (by decide), ← ev12]; exact hT)⟩, by rw [ht]; exact hP, va_K.moved hW.alike hK⟩, hS.F ht⟩) hS.2.2 dX7_lane_62
      · have c33 := mt (ax_eq (n := 4) (by decide)).mpr c33
        by_cases c47 : x3 = 5
        · refine ax_eqi c47 ?_
          refine lv_tableIn (off := 38) (tgt := 63) hx hb dX7_lane_25 (by decide) (by decide) (by decide) (by decide) ?_
          have c47 := (ax_eq (n := 5) (by decide)).mp c47
          refine lv_aload_n hx hb dX7_lane_63 rfl (lv_at hl 0 rfl) ?_
          refine lv_iload_n hx hb dX7_lane_64 rfl (lv_at hl 1 rfl) ?_
          refine lv_iconst (v := 4) hx hb dX7_lane_65 (by decide) ?_
          refine va_calli (va_runV (As := [.int x1, .int 4]) (rest := []) ⟨hx, hb, hml, hown, hts⟩ (y_X7_its l dC dI H.size hLK A hA F15 a0 x1 4 ha0 (⟨by omega, by omega⟩) (by decide) hI) (cwV 2 hts (ax_gV T_1057 T_1059 T_1060 T_265 T_1058) rfl rfl rfl (by decide +kernel) ⟨Nat.le_of_ble_eq_true rfl, Nat.le_of_ble_eq_true rfl⟩) ⟨fun a U g mk q => ⟨q.1, s_pc rfl rfl q.2⟩, s_recv hK hP (hLK _ ha0 (by decide)) (ci := 7) rfl oY22, fun U hU hW => ⟨rfl, s_pw hU hW hP hK hD hN⟩⟩ rfl rfl hl.1 rfl (lv_room (Nat.le_of_ble_eq_true rfl)) dX7_lane_66 ⟨Nat.zero_le _, Nat.zero_le _⟩) hS (fun q _ h => h) (fun q h => h) (fun r49 F50 t H1 locs ht hvm hw hB hz1 hk1 hS => ?_)
          obtain ⟨hP, hK1⟩ := hB
          rw [ht] at hP
          generalize H1 = H at hP hS ⊢
          obtain ⟨h51, h53, hI, hfr1, hzf, h52⟩ := hw
          have o54 : F50 (A 13) = .inl (cs 0, 400, .inl f1) := (hfr1 _ (by rw [(y_k13 hA)]; decide)).trans o19
          have o55 : F50 (A 20) = .inl (cs 0, 918, .inl f4) := (hfr1 _ (by rw [(y_k20 hA)]; decide)).trans o20
          have o56 : F50 (A 30) = .inl (cs 0, 18360, .inl f7) := (hfr1 _ (by rw [(y_k30 hA)]; decide)).trans o21
          have oY57 : F50 a0 = .inr (7, y_fl A z0 q0) := (hfr1 _ (by rw [ha0]; decide)).trans oY22
          have hfr : ∀ b, K b ∉ ([] : List Nat) → F50 b = F b := fun b hb9 => (hfr1 b (fun q => hb9 (s_sub (by decide) q))).trans (hfr b hb9)
          have h52 : (r49 = y_c f4 (104 + 6 * x1.toInt + 4)) := by have q9 := h52; rw [y_atE o20] at q9; exact q9
          have h52 : r49 = y_c f4 (108 + 6 * x1.toInt) := h52.trans (congrArg (y_c f4) (by omega))
          have h58 := congrArg Int32.toInt h52
          refine lv_iload_n hx hb dX7_lane_69 rfl (lv_at hl 2 rfl) ?_
          refine lv_ishr hx hb dX7_lane_70 ?_
          refine lv_topi (fun v59 ev59 => ?_)
          refine lv_iconst (v := 1) hx hb dX7_lane_71 (by decide) ?_
          refine lv_iand hx hb dX7_lane_72 ?_
          refine lv_topi (fun v60 ev60 => ?_)
          have qv60 : 0 ≤ v60.toInt ∧ v60.toInt ≤ 1 := by rw [ev60]; exact th_and 1 (by decide) (by decide)
          exact W.iret (v := v60) hx hb hr (fun t ht hW => ⟨⟨v60, F50, rfl, ⟨trivial, trivial, hI, hfr, fun k hk => (y_fiZ oY57 (s_sub (by decide) hk)).trans ((hz0 k hk).trans (y_fiZ oY0 (s_sub (by decide) hk)).symm), (by rw [y_fiZ oY57 (k := 15) (by decide), ← ev10, y_atE o54, y_atE o55, y_atE o56, y_fiZ oY57 (k := 31) (by decide), ← ev11, y_fiZ oY57 (k := 32) (by decide), ← ev12]; exact hT)⟩, by rw [ht]; exact hP, va_K.moved hW.alike hK⟩, hS.F ht⟩) hS.2.2 dX7_lane_73
        · have c47 := mt (ax_eq (n := 5) (by decide)).mpr c47
          by_cases c61 : x3 = 6
          · refine ax_eqi c61 ?_
            refine lv_tableIn (off := 49) (tgt := 74) hx hb dX7_lane_25 (by decide) (by decide) (by decide) (by decide) ?_
            have c61 := (ax_eq (n := 6) (by decide)).mp c61
            refine lv_aload_n hx hb dX7_lane_74 rfl (lv_at hl 0 rfl) ?_
            refine lv_iload_n hx hb dX7_lane_75 rfl (lv_at hl 1 rfl) ?_
            refine lv_iload_n hx hb dX7_lane_76 rfl (lv_at hl 2 rfl) ?_
            refine va_calli (va_runV (As := [.int x1, .int x2]) (rest := []) ⟨hx, hb, hml, hown, hts⟩ (y_X7_nextOf l dC dI H.size hLK A hA F15 a0 x1 x2 ha0 (⟨by omega, by omega⟩) (⟨by omega, by omega⟩) hI (by rw [y_atE o19, y_atE o20]; exact (hNG.2.2.2.2 x1.toInt (by omega) (by omega))) (by rw [y_atE o20]; exact hNG.1)) (cwV 2 hts (ax_gV T_1234 T_1236 T_1237 T_265 T_1235) rfl rfl rfl (by decide +kernel) ⟨Nat.le_of_ble_eq_true rfl, Nat.le_of_ble_eq_true rfl⟩) ⟨fun a U g mk q => ⟨q.1, s_pc rfl rfl q.2⟩, s_recv hK hP (hLK _ ha0 (by decide)) (ci := 7) rfl oY22, fun U hU hW => ⟨rfl, s_pw hU hW hP hK hD hN⟩⟩ rfl rfl hl.1 rfl (lv_room (Nat.le_of_ble_eq_true rfl)) dX7_lane_77 ⟨Nat.zero_le _, Nat.zero_le _⟩) hS (fun q _ h => h) (fun q h => h) (fun r63 F64 t H1 locs ht hvm hw hB hz1 hk1 hS => ?_)
            obtain ⟨hP, hK1⟩ := hB
            rw [ht] at hP
            generalize H1 = H at hP hS ⊢
            obtain ⟨h65, h67, hI, hfr1, hzf, h66⟩ := hw
            have o68 : F64 (A 13) = .inl (cs 0, 400, .inl f1) := (hfr1 _ (by rw [(y_k13 hA)]; decide)).trans o19
            have o69 : F64 (A 20) = .inl (cs 0, 918, .inl f4) := (hfr1 _ (by rw [(y_k20 hA)]; decide)).trans o20
            have o70 : F64 (A 30) = .inl (cs 0, 18360, .inl f7) := (hfr1 _ (by rw [(y_k30 hA)]; decide)).trans o21
            have oY71 : F64 a0 = .inr (7, y_fl A z0 q0) := (hfr1 _ (by rw [ha0]; decide)).trans oY22
            have hfr : ∀ b, K b ∉ ([] : List Nat) → F64 b = F b := fun b hb9 => (hfr1 b (fun q => hb9 (s_sub (by decide) q))).trans (hfr b hb9)
            exact W.iret (v := r63) hx hb hr (fun t ht hW => ⟨⟨r63, F64, rfl, ⟨trivial, trivial, hI, hfr, fun k hk => (y_fiZ oY71 (s_sub (by decide) hk)).trans ((hz0 k hk).trans (y_fiZ oY0 (s_sub (by decide) hk)).symm), (by rw [y_fiZ oY71 (k := 15) (by decide), ← ev10, y_atE o68, y_atE o69, y_atE o70, y_fiZ oY71 (k := 31) (by decide), ← ev11, y_fiZ oY71 (k := 32) (by decide), ← ev12]; exact hT)⟩, by rw [ht]; exact hP, va_K.moved hW.alike hK⟩, hS.F ht⟩) hS.2.2 dX7_lane_80
          · have c61 := mt (ax_eq (n := 6) (by decide)).mpr c61
            refine lv_tableOut (tgt := 81) hx hb dX7_lane_25 (by omega) (by decide) ?_
            refine lv_aload_n hx hb dX7_lane_81 rfl (lv_at hl 0 rfl) ?_
            refine th_get (D := (dC, dI)) (ci := 7) (v := .ref (A 20)) (C := RX7) (T := TX7) (N := 34) hx hb hts inX7 hown hK hP (hLK _ ha0 (by decide)) oY22 rfl 20 (by decide) (hts _ T_251) (fun _ h9 => h9) rfl dX7_lane_82 ?_
            refine lv_iload_n hx hb dX7_lane_85 rfl (lv_at hl 1 rfl) ?_
            refine lv_iload_n hx hb dX7_lane_86 rfl (lv_at hl 2 rfl) ?_
            refine lv_iload_n hx hb dX7_lane_87 rfl (lv_at hl 3 rfl) ?_
            refine va_calli (va_runS (As := [.int x1, .int x2, .int x3]) (rest := [.ref (A 20)]) ⟨hx, hb, hml, hown, hts⟩ (y_X7_registerAt l dC dI H.size F15 x1 x2 x3 (⟨by omega, by omega⟩) (⟨by omega, by omega⟩) (⟨by omega, by omega⟩)) (cwS 3 hts (ax_gS T_1095 T_1097 T_265 T_1096) rfl rfl rfl (by decide +kernel) ⟨Nat.le_of_ble_eq_true rfl, Nat.le_of_ble_eq_true rfl⟩) ⟨fun a U g mk q => ⟨q.1, s_pc rfl rfl q.2⟩, fun U hU hW => ⟨rfl, s_pw hU hW hP hK hD hN⟩⟩ rfl rfl hl.1 rfl (lv_room (Nat.le_of_ble_eq_true rfl)) dX7_lane_88 ⟨Nat.zero_le _, Nat.zero_le _⟩) hS (fun q _ h => h) (fun q h => h) (fun r73 F74 t H1 locs ht hvm hw hB hz1 hk1 hS => ?_)
            obtain ⟨hP, hK1⟩ := hB
            rw [ht] at hP
            generalize H1 = H at hP hS ⊢
            obtain ⟨h75, h77, hG9, h76⟩ := hw
            rw [hG9] at hP
            have h76 : (r73.toInt = 128 + 32 * x1.toInt + 4 * x2.toInt + x3.toInt) := by have q9 := h76; exact q9
            refine th_iald hx hb hK hP (hLK _ (y_k20 hA) (by decide)) 0 o20 rfl (th_in ⟨by omega, by omega⟩) dX7_lane_91 ?_
            refine lv_topi (fun v78 ev78 => ?_)
            exact W.iret (v := v78) hx hb hr (fun t ht hW => ⟨⟨v78, F15, rfl, ⟨trivial, trivial, hI, hfr, fun k hk => (y_fiZ oY22 (s_sub (by decide) hk)).trans ((hz0 k hk).trans (y_fiZ oY0 (s_sub (by decide) hk)).symm), (by rw [y_fiZ oY22 (k := 15) (by decide), ← ev10, y_atE o19, y_atE o20, y_atE o21, y_fiZ oY22 (k := 31) (by decide), ← ev11, y_fiZ oY22 (k := 32) (by decide), ← ev12]; exact hT)⟩, by rw [ht]; exact hP, va_K.moved hW.alike hK⟩, hS.F ht⟩) hS.2.2 dX7_lane_92
    · have c32 := (ax_eq (n := 0) (by decide)).mp c32
      refine lv_ldc (v := (-1000000)) hx hb hown (hts _ T_316) dX7_lane_21 ?_
      have h79 : ((-1000000) : Int32).toInt = (-1000000) := by decide
      exact W.iret (v := (-1000000)) hx hb hr (fun t ht hW => ⟨⟨(-1000000), F15, rfl, ⟨trivial, trivial, hI, hfr, fun k hk => (y_fiZ oY22 (s_sub (by decide) hk)).trans ((hz0 k hk).trans (y_fiZ oY0 (s_sub (by decide) hk)).symm), (by rw [y_fiZ oY22 (k := 15) (by decide), ← ev10, y_atE o19, y_atE o20, y_atE o21, y_fiZ oY22 (k := 31) (by decide), ← ev11, y_fiZ oY22 (k := 32) (by decide), ← ev12]; exact hT)⟩, by rw [ht]; exact hP, va_K.moved hW.alike hK⟩, hS.F ht⟩) hS.2.2 dX7_lane_23

set_option maxHeartbeats 4000000 in
set_option maxRecDepth 100000 in
theorem y_X7_warp (l : Launch) (dC : Nat → ClassId) (dI : Nat → Nat → Nat) (sz : Nat) {L : List Nat} {K : Nat → Nat} {cs : Nat → ClassId} (hLK : ∀ a {k : Nat}, K a = k → k ≠ 0 → a ∈ L) (A : Nat → Nat) (hA : y_A K A) (F : Nat → va_E) (a0 : Nat) (x1 : Int32) (x2 : Int32) (ha0 : K a0 = 9) (hI : y_I K cs A F) (hT : y_T (y_fi F a0 15) (y_at F (A 13)) (y_at F (A 20)) (y_at F (A 30)) (y_fi F a0 31) (y_fi F a0 32)) : Met l yX7_warp (Cond.code yX7_warp cX7_warp 3 (some .int) :: T0) ({ frames := 5, cells := 0, slots := 0, locals := 110 }) (va_Pc [.ref a0, .int x1, .int x2] (s_W dC dI sz L F [(cs 0, .int), (cs 1, .byte), (cs 2, .long), (cs 3, .object RX5), (cs 4, .object RX4), (cs 5, .array .int), (cs 6, .char), (cs 7, .boolean)])) (va_Qi (fun (r : Int32) (G : Nat → va_E) => True ∧ True ∧ y_I K cs A G ∧ (∀ b, K b ∉ ([] : List Nat) → G b = F b) ∧ (∀ k, k ∈ ([1, 2, 3, 4, 5, 6, 7, 8, 11, 15, 16, 19, 25, 26, 27, 31, 32] : List Nat) → y_fi G a0 k = y_fi F a0 k) ∧ (y_T (y_fi G a0 15) (y_at G (A 13)) (y_at G (A 20)) (y_at G (A 30)) (y_fi G a0 31) (y_fi G a0 32))) (fun (G : Nat → va_E) (t : State) => va_P (dC, dI) vwCl (va_pl L G) t.heap ∧ va_K (dC, dI) vwCl [(cs 0, .int), (cs 1, .byte), (cs 2, .long), (cs 3, .object RX5), (cs 4, .object RX4), (cs 5, .array .int), (cs 6, .char), (cs 7, .boolean)] t) (fun q => q ∈ L)) 0 0 (fun q => q ∈ L) := by
  refine Met.ofW (cc := cX7_warp) (maxL := 3) (ret := (some .int)) (by decide) rfl ?_
  intro p e s m args below meth c s₁ B hml hv
  obtain ⟨rfl, hsz, hP, hK, hD, hN⟩ := hv
  have hx := B.exec
  have hb := B.bytes
  have hr := B.returns
  have hts : ∀ w ∈ T0, w.before _ s = true := fun w h => atoms_spec (ws := Cond.code yX7_warp cX7_warp 3 (some .int) :: T0) B.pre w (List.mem_cons_of_mem _ h)
  have hown : s.vm.findClass RX7 = some m.cls := findClass_of_methodNamed B.named
  have hlocks := B.notSynchronized
  have hS : va_S (fun q => q ∈ L) s.heap s.heap [] := va_S.rf
  have hfr : ∀ b, K b ∉ ([] : List Nat) → F b = F b := fun _ _ => rfl
  have hl := lv_entry ([.ref a0, .int x1, .int x2]) (n := 3) (Nat.le_of_ble_eq_true rfl)
  rw [lg_entry_eq]
  generalize (lg_sl ([.ref a0, .int x1, .int x2]) ++ List.replicate (3 - (lg_sl ([.ref a0, .int x1, .int x2])).length) Slot.unset).toArray = ls at hl ⊢
  have hl : lv_has ls 3 [(0, .ref a0), (1, .int x1), (2, .int x2)] := hl
  refine s_gen hP hS (fun H locs hP hS => ?_)
  obtain ⟨z0, q0, oY0, bz0, bq0⟩ := y_opY hI ha0
  have hz0 : ∀ k, k ∈ ([1, 2, 3, 4, 5, 6, 7, 8, 11, 15, 16, 19, 25, 26, 27, 31, 32] : List Nat) → z0 k = z0 k := fun _ _ => rfl
  obtain ⟨f1, o2, b3⟩ := y_op13 hI
  obtain ⟨f4, o5, b6⟩ := y_op20 hI
  obtain ⟨f7, o8, b9⟩ := y_op30 hI
  obtain ⟨v10, ev10⟩ : ∃ y : Int32, y = z0 15 := ⟨_, rfl⟩
  have qv10 : 0 ≤ v10.toInt ∧ v10.toInt ≤ 1 := by rw [ev10]; exact y_bY15 bz0
  have eF_15 := ev10
  obtain ⟨v11, ev11⟩ : ∃ y : Int32, y = z0 31 := ⟨_, rfl⟩
  have qv11 : 0 ≤ v11.toInt ∧ v11.toInt ≤ 20 := by rw [ev11]; exact y_bY31 bz0
  have eF_31 := ev11
  obtain ⟨v12, ev12⟩ : ∃ y : Int32, y = z0 32 := ⟨_, rfl⟩
  have qv12 : 0 ≤ v12.toInt ∧ v12.toInt ≤ 19 := by rw [ev12]; exact y_bY32 bz0
  have eF_32 := ev12
  have hT : y_T v10 f1 f4 f7 v11 v12 := by have q9 := hT; rw [y_fiZ oY0 (k := 15) (by decide), ← ev10, y_atE o2, y_atE o5, y_atE o8, y_fiZ oY0 (k := 31) (by decide), ← ev11, y_fiZ oY0 (k := 32) (by decide), ← ev12] at q9; exact q9
  have e0_v10 := ev10
  have e0_v11 := ev11
  have e0_v12 := ev12
  refine lv_aload_n hx hb dX7_warp_0 rfl (lv_at hl 0 rfl) ?_
  refine lv_iload_n hx hb dX7_warp_1 rfl (lv_at hl 1 rfl) ?_
  have ep13_15 := ev10
  refine va_calli (va_runV (As := [.int x1]) (rest := []) ⟨hx, hb, hml, hown, hts⟩ (y_X7_isWarp l dC dI H.size hLK A hA F a0 x1 ha0 hI (by rw [y_fiZ oY0 (k := 15) (by decide), ← ev10, y_atE o2, y_atE o5, y_atE o8, y_fiZ oY0 (k := 31) (by decide), ← ev11, y_fiZ oY0 (k := 32) (by decide), ← ev12]; exact hT)) (cwV 1 hts (ax_gV T_313 T_314 T_315 T_265 T_34) rfl rfl rfl (by decide +kernel) ⟨Nat.le_of_ble_eq_true rfl, Nat.le_of_ble_eq_true rfl⟩) ⟨fun a U g mk q => ⟨q.1, s_pc rfl rfl q.2⟩, s_recv hK hP (hLK _ ha0 (by decide)) (ci := 7) rfl oY0, fun U hU hW => ⟨rfl, s_pw hU hW hP hK hD hN⟩⟩ rfl rfl hl.1 rfl (lv_room (Nat.le_of_ble_eq_true rfl)) dX7_warp_2 ⟨Nat.zero_le _, Nat.zero_le _⟩) hS (fun q _ h => h) (fun q h => h) (fun r14 F15 t H1 locs ht hvm hw hB hz1 hk1 hS => ?_)
  obtain ⟨hP, hK1⟩ := hB
  rw [ht] at hP
  generalize H1 = H at hP hS ⊢
  obtain ⟨h16, h18, hI, hfr1, hzf, h17⟩ := hw
  have o19 : F15 (A 13) = .inl (cs 0, 400, .inl f1) := (hfr1 _ (by rw [(y_k13 hA)]; decide)).trans o2
  have o20 : F15 (A 20) = .inl (cs 0, 918, .inl f4) := (hfr1 _ (by rw [(y_k20 hA)]; decide)).trans o5
  have o21 : F15 (A 30) = .inl (cs 0, 18360, .inl f7) := (hfr1 _ (by rw [(y_k30 hA)]; decide)).trans o8
  have oY22 : F15 a0 = .inr (7, y_fl A z0 q0) := (hfr1 _ (by rw [ha0]; decide)).trans oY0
  have hfr : ∀ b, K b ∉ ([] : List Nat) → F15 b = F b := fun b hb9 => (hfr1 b (fun q => hb9 (s_sub (by decide) q))).trans (hfr b hb9)
  have h17 : (r14.toInt = 0 ∨ (v10.toInt = 1 ∧ 0 ≤ x1.toInt ∧ x1.toInt < (y_c f1 384).toInt)) := by have q9 := h17; rw [y_fiZ oY0 (k := 15) (by decide), ← ep13_15, y_atE o2] at q9; exact q9
  refine lv_if_ne (tgt := 10) hx hb dX7_warp_5 (by decide) (fun c23 => ?_) (fun c23 => ?_)
  · have c23 := mt (ax_eq (n := 0) (by decide)).mpr c23
    have hln9 := h17.resolve_left c23
    obtain ⟨htd, hPG, hNG, hUG⟩ := y_TT hT (by omega)
    have hL := y_P0L hPG.1
    have hW := y_P0W hPG.1
    have hnn := And.intro hNG.1 (And.intro hNG.2.1 (And.intro hNG.2.2.1 hNG.2.2.2.1))
    refine lv_iload_n hx hb dX7_warp_10 rfl (lv_at hl 2 rfl) ?_
    by_cases c24 : x2 = 0
    · refine ax_eqi c24 ?_
      refine lv_tableIn (off := 37) (tgt := 48) hx hb dX7_warp_11 (by decide) (by decide) (by decide) (by decide) ?_
      have c24 := (ax_eq (n := 0) (by decide)).mp c24
      refine lv_aload_n hx hb dX7_warp_48 rfl (lv_at hl 0 rfl) ?_
      refine lv_iload_n hx hb dX7_warp_49 rfl (lv_at hl 1 rfl) ?_
      refine lv_iconst (v := 3) hx hb dX7_warp_50 (by decide) ?_
      refine va_calli (va_runV (As := [.int x1, .int 3]) (rest := []) ⟨hx, hb, hml, hown, hts⟩ (y_X7_its l dC dI H.size hLK A hA F15 a0 x1 3 ha0 (⟨by omega, by omega⟩) (by decide) hI) (cwV 2 hts (ax_gV T_1057 T_1059 T_1060 T_265 T_1058) rfl rfl rfl (by decide +kernel) ⟨Nat.le_of_ble_eq_true rfl, Nat.le_of_ble_eq_true rfl⟩) ⟨fun a U g mk q => ⟨q.1, s_pc rfl rfl q.2⟩, s_recv hK hP (hLK _ ha0 (by decide)) (ci := 7) rfl oY22, fun U hU hW => ⟨rfl, s_pw hU hW hP hK hD hN⟩⟩ rfl rfl hl.1 rfl (lv_room (Nat.le_of_ble_eq_true rfl)) dX7_warp_51 ⟨Nat.zero_le _, Nat.zero_le _⟩) hS (fun q _ h => h) (fun q h => h) (fun r26 F27 t H1 locs ht hvm hw hB hz1 hk1 hS => ?_)
      obtain ⟨hP, hK1⟩ := hB
      rw [ht] at hP
      generalize H1 = H at hP hS ⊢
      obtain ⟨h28, h30, hI, hfr1, hzf, h29⟩ := hw
      have o31 : F27 (A 13) = .inl (cs 0, 400, .inl f1) := (hfr1 _ (by rw [(y_k13 hA)]; decide)).trans o19
      have o32 : F27 (A 20) = .inl (cs 0, 918, .inl f4) := (hfr1 _ (by rw [(y_k20 hA)]; decide)).trans o20
      have o33 : F27 (A 30) = .inl (cs 0, 18360, .inl f7) := (hfr1 _ (by rw [(y_k30 hA)]; decide)).trans o21
      have oY34 : F27 a0 = .inr (7, y_fl A z0 q0) := (hfr1 _ (by rw [ha0]; decide)).trans oY22
      have hfr : ∀ b, K b ∉ ([] : List Nat) → F27 b = F b := fun b hb9 => (hfr1 b (fun q => hb9 (s_sub (by decide) q))).trans (hfr b hb9)
      have h29 : (r26 = y_c f4 (104 + 6 * x1.toInt + 3)) := by have q9 := h29; rw [y_atE o20] at q9; exact q9
      have h29 : r26 = y_c f4 (107 + 6 * x1.toInt) := h29.trans (congrArg (y_c f4) (by omega))
      have h35 := congrArg Int32.toInt h29
      exact W.iret (v := r26) hx hb hr (fun t ht hW => ⟨⟨r26, F27, rfl, ⟨trivial, trivial, hI, hfr, fun k hk => (y_fiZ oY34 (s_sub (by decide) hk)).trans ((hz0 k hk).trans (y_fiZ oY0 (s_sub (by decide) hk)).symm), (by rw [y_fiZ oY34 (k := 15) (by decide), ← ev10, y_atE o31, y_atE o32, y_atE o33, y_fiZ oY34 (k := 31) (by decide), ← ev11, y_fiZ oY34 (k := 32) (by decide), ← ev12]; exact hT)⟩, by rw [ht]; exact hP, va_K.moved hW.alike hK⟩, hS.F ht⟩) hS.2.2 dX7_warp_54
    · have c24 := mt (ax_eq (n := 0) (by decide)).mpr c24
      by_cases c36 : x2 = 1
      · refine ax_eqi c36 ?_
        refine lv_tableIn (off := 44) (tgt := 55) hx hb dX7_warp_11 (by decide) (by decide) (by decide) (by decide) ?_
        have c36 := (ax_eq (n := 1) (by decide)).mp c36
        refine lv_aload_n hx hb dX7_warp_55 rfl (lv_at hl 0 rfl) ?_
        refine lv_iload_n hx hb dX7_warp_56 rfl (lv_at hl 1 rfl) ?_
        refine lv_iconst (v := 0) hx hb dX7_warp_57 (by decide) ?_
        refine va_calli (va_runV (As := [.int x1, .int 0]) (rest := []) ⟨hx, hb, hml, hown, hts⟩ (y_X7_its l dC dI H.size hLK A hA F15 a0 x1 0 ha0 (⟨by omega, by omega⟩) (by decide) hI) (cwV 2 hts (ax_gV T_1057 T_1059 T_1060 T_265 T_1058) rfl rfl rfl (by decide +kernel) ⟨Nat.le_of_ble_eq_true rfl, Nat.le_of_ble_eq_true rfl⟩) ⟨fun a U g mk q => ⟨q.1, s_pc rfl rfl q.2⟩, s_recv hK hP (hLK _ ha0 (by decide)) (ci := 7) rfl oY22, fun U hU hW => ⟨rfl, s_pw hU hW hP hK hD hN⟩⟩ rfl rfl hl.1 rfl (lv_room (Nat.le_of_ble_eq_true rfl)) dX7_warp_58 ⟨Nat.zero_le _, Nat.zero_le _⟩) hS (fun q _ h => h) (fun q h => h) (fun r38 F39 t H1 locs ht hvm hw hB hz1 hk1 hS => ?_)
        obtain ⟨hP, hK1⟩ := hB
        rw [ht] at hP
        generalize H1 = H at hP hS ⊢
        obtain ⟨h40, h42, hI, hfr1, hzf, h41⟩ := hw
        have o43 : F39 (A 13) = .inl (cs 0, 400, .inl f1) := (hfr1 _ (by rw [(y_k13 hA)]; decide)).trans o19
        have o44 : F39 (A 20) = .inl (cs 0, 918, .inl f4) := (hfr1 _ (by rw [(y_k20 hA)]; decide)).trans o20
        have o45 : F39 (A 30) = .inl (cs 0, 18360, .inl f7) := (hfr1 _ (by rw [(y_k30 hA)]; decide)).trans o21
        have oY46 : F39 a0 = .inr (7, y_fl A z0 q0) := (hfr1 _ (by rw [ha0]; decide)).trans oY22
        have hfr : ∀ b, K b ∉ ([] : List Nat) → F39 b = F b := fun b hb9 => (hfr1 b (fun q => hb9 (s_sub (by decide) q))).trans (hfr b hb9)
        have h41 : (r38 = y_c f4 (104 + 6 * x1.toInt + 0)) := by have q9 := h41; rw [y_atE o20] at q9; exact q9
        have h41 : r38 = y_c f4 (104 + 6 * x1.toInt) := h41.trans (congrArg (y_c f4) (by omega))
        have h47 := congrArg Int32.toInt h41
        exact W.iret (v := r38) hx hb hr (fun t ht hW => ⟨⟨r38, F39, rfl, ⟨trivial, trivial, hI, hfr, fun k hk => (y_fiZ oY46 (s_sub (by decide) hk)).trans ((hz0 k hk).trans (y_fiZ oY0 (s_sub (by decide) hk)).symm), (by rw [y_fiZ oY46 (k := 15) (by decide), ← ev10, y_atE o43, y_atE o44, y_atE o45, y_fiZ oY46 (k := 31) (by decide), ← ev11, y_fiZ oY46 (k := 32) (by decide), ← ev12]; exact hT)⟩, by rw [ht]; exact hP, va_K.moved hW.alike hK⟩, hS.F ht⟩) hS.2.2 dX7_warp_61
      · have c36 := mt (ax_eq (n := 1) (by decide)).mpr c36
        by_cases c48 : x2 = 2
        · refine ax_eqi c48 ?_
          refine lv_tableIn (off := 51) (tgt := 62) hx hb dX7_warp_11 (by decide) (by decide) (by decide) (by decide) ?_
          have c48 := (ax_eq (n := 2) (by decide)).mp c48
          refine lv_aload_n hx hb dX7_warp_62 rfl (lv_at hl 0 rfl) ?_
          refine lv_iload_n hx hb dX7_warp_63 rfl (lv_at hl 1 rfl) ?_
          refine lv_iconst (v := 5) hx hb dX7_warp_64 (by decide) ?_
          refine va_calli (va_runV (As := [.int x1, .int 5]) (rest := []) ⟨hx, hb, hml, hown, hts⟩ (y_X7_its l dC dI H.size hLK A hA F15 a0 x1 5 ha0 (⟨by omega, by omega⟩) (by decide) hI) (cwV 2 hts (ax_gV T_1057 T_1059 T_1060 T_265 T_1058) rfl rfl rfl (by decide +kernel) ⟨Nat.le_of_ble_eq_true rfl, Nat.le_of_ble_eq_true rfl⟩) ⟨fun a U g mk q => ⟨q.1, s_pc rfl rfl q.2⟩, s_recv hK hP (hLK _ ha0 (by decide)) (ci := 7) rfl oY22, fun U hU hW => ⟨rfl, s_pw hU hW hP hK hD hN⟩⟩ rfl rfl hl.1 rfl (lv_room (Nat.le_of_ble_eq_true rfl)) dX7_warp_65 ⟨Nat.zero_le _, Nat.zero_le _⟩) hS (fun q _ h => h) (fun q h => h) (fun r50 F51 t H1 locs ht hvm hw hB hz1 hk1 hS => ?_)
          obtain ⟨hP, hK1⟩ := hB
          rw [ht] at hP
          generalize H1 = H at hP hS ⊢
          obtain ⟨h52, h54, hI, hfr1, hzf, h53⟩ := hw
          have o55 : F51 (A 13) = .inl (cs 0, 400, .inl f1) := (hfr1 _ (by rw [(y_k13 hA)]; decide)).trans o19
          have o56 : F51 (A 20) = .inl (cs 0, 918, .inl f4) := (hfr1 _ (by rw [(y_k20 hA)]; decide)).trans o20
          have o57 : F51 (A 30) = .inl (cs 0, 18360, .inl f7) := (hfr1 _ (by rw [(y_k30 hA)]; decide)).trans o21
          have oY58 : F51 a0 = .inr (7, y_fl A z0 q0) := (hfr1 _ (by rw [ha0]; decide)).trans oY22
          have hfr : ∀ b, K b ∉ ([] : List Nat) → F51 b = F b := fun b hb9 => (hfr1 b (fun q => hb9 (s_sub (by decide) q))).trans (hfr b hb9)
          have h53 : (r50 = y_c f4 (104 + 6 * x1.toInt + 5)) := by have q9 := h53; rw [y_atE o20] at q9; exact q9
          have h53 : r50 = y_c f4 (109 + 6 * x1.toInt) := h53.trans (congrArg (y_c f4) (by omega))
          have h59 := congrArg Int32.toInt h53
          exact W.iret (v := r50) hx hb hr (fun t ht hW => ⟨⟨r50, F51, rfl, ⟨trivial, trivial, hI, hfr, fun k hk => (y_fiZ oY58 (s_sub (by decide) hk)).trans ((hz0 k hk).trans (y_fiZ oY0 (s_sub (by decide) hk)).symm), (by rw [y_fiZ oY58 (k := 15) (by decide), ← ev10, y_atE o55, y_atE o56, y_atE o57, y_fiZ oY58 (k := 31) (by decide), ← ev11, y_fiZ oY58 (k := 32) (by decide), ← ev12]; exact hT)⟩, by rw [ht]; exact hP, va_K.moved hW.alike hK⟩, hS.F ht⟩) hS.2.2 dX7_warp_68
        · have c48 := mt (ax_eq (n := 2) (by decide)).mpr c48
          by_cases c60 : x2 = 3
          · refine ax_eqi c60 ?_
            refine lv_tableIn (off := 58) (tgt := 69) hx hb dX7_warp_11 (by decide) (by decide) (by decide) (by decide) ?_
            have c60 := (ax_eq (n := 3) (by decide)).mp c60
            refine lv_aload_n hx hb dX7_warp_69 rfl (lv_at hl 0 rfl) ?_
            refine lv_iload_n hx hb dX7_warp_70 rfl (lv_at hl 1 rfl) ?_
            refine lv_iconst (v := 1) hx hb dX7_warp_71 (by decide) ?_
            refine va_calli (va_runV (As := [.int x1, .int 1]) (rest := []) ⟨hx, hb, hml, hown, hts⟩ (y_X7_its l dC dI H.size hLK A hA F15 a0 x1 1 ha0 (⟨by omega, by omega⟩) (by decide) hI) (cwV 2 hts (ax_gV T_1057 T_1059 T_1060 T_265 T_1058) rfl rfl rfl (by decide +kernel) ⟨Nat.le_of_ble_eq_true rfl, Nat.le_of_ble_eq_true rfl⟩) ⟨fun a U g mk q => ⟨q.1, s_pc rfl rfl q.2⟩, s_recv hK hP (hLK _ ha0 (by decide)) (ci := 7) rfl oY22, fun U hU hW => ⟨rfl, s_pw hU hW hP hK hD hN⟩⟩ rfl rfl hl.1 rfl (lv_room (Nat.le_of_ble_eq_true rfl)) dX7_warp_72 ⟨Nat.zero_le _, Nat.zero_le _⟩) hS (fun q _ h => h) (fun q h => h) (fun r62 F63 t H1 locs ht hvm hw hB hz1 hk1 hS => ?_)
            obtain ⟨hP, hK1⟩ := hB
            rw [ht] at hP
            generalize H1 = H at hP hS ⊢
            obtain ⟨h64, h66, hI, hfr1, hzf, h65⟩ := hw
            have o67 : F63 (A 13) = .inl (cs 0, 400, .inl f1) := (hfr1 _ (by rw [(y_k13 hA)]; decide)).trans o19
            have o68 : F63 (A 20) = .inl (cs 0, 918, .inl f4) := (hfr1 _ (by rw [(y_k20 hA)]; decide)).trans o20
            have o69 : F63 (A 30) = .inl (cs 0, 18360, .inl f7) := (hfr1 _ (by rw [(y_k30 hA)]; decide)).trans o21
            have oY70 : F63 a0 = .inr (7, y_fl A z0 q0) := (hfr1 _ (by rw [ha0]; decide)).trans oY22
            have hfr : ∀ b, K b ∉ ([] : List Nat) → F63 b = F b := fun b hb9 => (hfr1 b (fun q => hb9 (s_sub (by decide) q))).trans (hfr b hb9)
            have h65 : (r62 = y_c f4 (104 + 6 * x1.toInt + 1)) := by have q9 := h65; rw [y_atE o20] at q9; exact q9
            have h65 : r62 = y_c f4 (105 + 6 * x1.toInt) := h65.trans (congrArg (y_c f4) (by omega))
            have h71 := congrArg Int32.toInt h65
            exact W.iret (v := r62) hx hb hr (fun t ht hW => ⟨⟨r62, F63, rfl, ⟨trivial, trivial, hI, hfr, fun k hk => (y_fiZ oY70 (s_sub (by decide) hk)).trans ((hz0 k hk).trans (y_fiZ oY0 (s_sub (by decide) hk)).symm), (by rw [y_fiZ oY70 (k := 15) (by decide), ← ev10, y_atE o67, y_atE o68, y_atE o69, y_fiZ oY70 (k := 31) (by decide), ← ev11, y_fiZ oY70 (k := 32) (by decide), ← ev12]; exact hT)⟩, by rw [ht]; exact hP, va_K.moved hW.alike hK⟩, hS.F ht⟩) hS.2.2 dX7_warp_75
          · have c60 := mt (ax_eq (n := 3) (by decide)).mpr c60
            by_cases c72 : x2 = 4
            · refine ax_eqi c72 ?_
              refine lv_tableIn (off := 65) (tgt := 76) hx hb dX7_warp_11 (by decide) (by decide) (by decide) (by decide) ?_
              have c72 := (ax_eq (n := 4) (by decide)).mp c72
              refine lv_aload_n hx hb dX7_warp_76 rfl (lv_at hl 0 rfl) ?_
              refine lv_iload_n hx hb dX7_warp_77 rfl (lv_at hl 1 rfl) ?_
              refine lv_iconst (v := 2) hx hb dX7_warp_78 (by decide) ?_
              refine va_calli (va_runV (As := [.int x1, .int 2]) (rest := []) ⟨hx, hb, hml, hown, hts⟩ (y_X7_its l dC dI H.size hLK A hA F15 a0 x1 2 ha0 (⟨by omega, by omega⟩) (by decide) hI) (cwV 2 hts (ax_gV T_1057 T_1059 T_1060 T_265 T_1058) rfl rfl rfl (by decide +kernel) ⟨Nat.le_of_ble_eq_true rfl, Nat.le_of_ble_eq_true rfl⟩) ⟨fun a U g mk q => ⟨q.1, s_pc rfl rfl q.2⟩, s_recv hK hP (hLK _ ha0 (by decide)) (ci := 7) rfl oY22, fun U hU hW => ⟨rfl, s_pw hU hW hP hK hD hN⟩⟩ rfl rfl hl.1 rfl (lv_room (Nat.le_of_ble_eq_true rfl)) dX7_warp_79 ⟨Nat.zero_le _, Nat.zero_le _⟩) hS (fun q _ h => h) (fun q h => h) (fun r74 F75 t H1 locs ht hvm hw hB hz1 hk1 hS => ?_)
              obtain ⟨hP, hK1⟩ := hB
              rw [ht] at hP
              generalize H1 = H at hP hS ⊢
              obtain ⟨h76, h78, hI, hfr1, hzf, h77⟩ := hw
              have o79 : F75 (A 13) = .inl (cs 0, 400, .inl f1) := (hfr1 _ (by rw [(y_k13 hA)]; decide)).trans o19
              have o80 : F75 (A 20) = .inl (cs 0, 918, .inl f4) := (hfr1 _ (by rw [(y_k20 hA)]; decide)).trans o20
              have o81 : F75 (A 30) = .inl (cs 0, 18360, .inl f7) := (hfr1 _ (by rw [(y_k30 hA)]; decide)).trans o21
              have oY82 : F75 a0 = .inr (7, y_fl A z0 q0) := (hfr1 _ (by rw [ha0]; decide)).trans oY22
              have hfr : ∀ b, K b ∉ ([] : List Nat) → F75 b = F b := fun b hb9 => (hfr1 b (fun q => hb9 (s_sub (by decide) q))).trans (hfr b hb9)
              have h77 : (r74 = y_c f4 (104 + 6 * x1.toInt + 2)) := by have q9 := h77; rw [y_atE o20] at q9; exact q9
              have h77 : r74 = y_c f4 (106 + 6 * x1.toInt) := h77.trans (congrArg (y_c f4) (by omega))
              have h83 := congrArg Int32.toInt h77
              exact W.iret (v := r74) hx hb hr (fun t ht hW => ⟨⟨r74, F75, rfl, ⟨trivial, trivial, hI, hfr, fun k hk => (y_fiZ oY82 (s_sub (by decide) hk)).trans ((hz0 k hk).trans (y_fiZ oY0 (s_sub (by decide) hk)).symm), (by rw [y_fiZ oY82 (k := 15) (by decide), ← ev10, y_atE o79, y_atE o80, y_atE o81, y_fiZ oY82 (k := 31) (by decide), ← ev11, y_fiZ oY82 (k := 32) (by decide), ← ev12]; exact hT)⟩, by rw [ht]; exact hP, va_K.moved hW.alike hK⟩, hS.F ht⟩) hS.2.2 dX7_warp_82
            · have c72 := mt (ax_eq (n := 4) (by decide)).mpr c72
              by_cases c84 : x2 = 5
              · refine ax_eqi c84 ?_
                refine lv_tableIn (off := 72) (tgt := 83) hx hb dX7_warp_11 (by decide) (by decide) (by decide) (by decide) ?_
                have c84 := (ax_eq (n := 5) (by decide)).mp c84
                refine lv_aload_n hx hb dX7_warp_83 rfl (lv_at hl 0 rfl) ?_
                refine lv_iload_n hx hb dX7_warp_84 rfl (lv_at hl 1 rfl) ?_
                refine va_calli (va_runV (As := [.int x1]) (rest := []) ⟨hx, hb, hml, hown, hts⟩ (y_X7_canGo l dC dI H.size hLK A hA F15 a0 x1 ha0 (⟨by omega, by omega⟩) hI (by rw [y_atE o20]; exact (hNG.2.2.2.2 x1.toInt (by omega) (by omega)).1)) (cwV 1 hts (ax_gV T_1123 T_1125 T_1126 T_265 T_1124) rfl rfl rfl (by decide +kernel) ⟨Nat.le_of_ble_eq_true rfl, Nat.le_of_ble_eq_true rfl⟩) ⟨fun a U g mk q => ⟨q.1, s_pc rfl rfl q.2⟩, s_recv hK hP (hLK _ ha0 (by decide)) (ci := 7) rfl oY22, fun U hU hW => ⟨rfl, s_pw hU hW hP hK hD hN⟩⟩ rfl rfl hl.1 rfl (lv_room (Nat.le_of_ble_eq_true rfl)) dX7_warp_85 ⟨Nat.zero_le _, Nat.zero_le _⟩) hS (fun q _ h => h) (fun q h => h) (fun r86 F87 t H1 locs ht hvm hw hB hz1 hk1 hS => ?_)
                obtain ⟨hP, hK1⟩ := hB
                rw [ht] at hP
                generalize H1 = H at hP hS ⊢
                obtain ⟨h88, h90, hI, hfr1, hzf, h89⟩ := hw
                have o91 : F87 (A 13) = .inl (cs 0, 400, .inl f1) := (hfr1 _ (by rw [(y_k13 hA)]; decide)).trans o19
                have o92 : F87 (A 20) = .inl (cs 0, 918, .inl f4) := (hfr1 _ (by rw [(y_k20 hA)]; decide)).trans o20
                have o93 : F87 (A 30) = .inl (cs 0, 18360, .inl f7) := (hfr1 _ (by rw [(y_k30 hA)]; decide)).trans o21
                have oY94 : F87 a0 = .inr (7, y_fl A z0 q0) := (hfr1 _ (by rw [ha0]; decide)).trans oY22
                have hfr : ∀ b, K b ∉ ([] : List Nat) → F87 b = F b := fun b hb9 => (hfr1 b (fun q => hb9 (s_sub (by decide) q))).trans (hfr b hb9)
                have h89 : (r86.toInt = 0 ∨ y_go f4 x1.toInt) := by have q9 := h89; rw [y_atE o20] at q9; exact q9
                refine va_calli (va_runS (As := [.int r86]) (rest := []) ⟨hx, hb, hml, hown, hts⟩ (y_X7_flag l dC dI H.size F87 r86 (⟨by omega, by omega⟩)) (cwS 1 hts (ax_gS T_1001 T_1003 T_265 T_1002) rfl rfl rfl (by decide +kernel) ⟨Nat.le_of_ble_eq_true rfl, Nat.le_of_ble_eq_true rfl⟩) ⟨fun a U g mk q => ⟨q.1, s_pc rfl rfl q.2⟩, fun U hU hW => ⟨rfl, s_pw hU hW hP hK hD hN⟩⟩ rfl rfl hl.1 rfl (lv_room (Nat.le_of_ble_eq_true rfl)) dX7_warp_88 ⟨Nat.zero_le _, Nat.zero_le _⟩) hS (fun q _ h => h) (fun q h => h) (fun r96 F97 t H1 locs ht hvm hw hB hz1 hk1 hS => ?_)
                obtain ⟨hP, hK1⟩ := hB
                rw [ht] at hP
                generalize H1 = H at hP hS ⊢
                obtain ⟨h98, h100, hG9, h99⟩ := hw
                rw [hG9] at hP
                exact W.iret (v := r96) hx hb hr (fun t ht hW => ⟨⟨r96, F87, rfl, ⟨trivial, trivial, hI, hfr, fun k hk => (y_fiZ oY94 (s_sub (by decide) hk)).trans ((hz0 k hk).trans (y_fiZ oY0 (s_sub (by decide) hk)).symm), (by rw [y_fiZ oY94 (k := 15) (by decide), ← ev10, y_atE o91, y_atE o92, y_atE o93, y_fiZ oY94 (k := 31) (by decide), ← ev11, y_fiZ oY94 (k := 32) (by decide), ← ev12]; exact hT)⟩, by rw [ht]; exact hP, va_K.moved hW.alike hK⟩, hS.F ht⟩) hS.2.2 dX7_warp_91
              · have c84 := mt (ax_eq (n := 5) (by decide)).mpr c84
                refine lv_tableOut (tgt := 92) hx hb dX7_warp_11 (by omega) (by decide) ?_
                refine lv_iconst (v := (-1)) hx hb dX7_warp_92 (by decide) ?_
                have h101 : ((-1) : Int32).toInt = (-1) := by decide
                exact W.iret (v := (-1)) hx hb hr (fun t ht hW => ⟨⟨(-1), F15, rfl, ⟨trivial, trivial, hI, hfr, fun k hk => (y_fiZ oY22 (s_sub (by decide) hk)).trans ((hz0 k hk).trans (y_fiZ oY0 (s_sub (by decide) hk)).symm), (by rw [y_fiZ oY22 (k := 15) (by decide), ← ev10, y_atE o19, y_atE o20, y_atE o21, y_fiZ oY22 (k := 31) (by decide), ← ev11, y_fiZ oY22 (k := 32) (by decide), ← ev12]; exact hT)⟩, by rw [ht]; exact hP, va_K.moved hW.alike hK⟩, hS.F ht⟩) hS.2.2 dX7_warp_93
  · have c23 := (ax_eq (n := 0) (by decide)).mp c23
    refine lv_iconst (v := (-1)) hx hb dX7_warp_8 (by decide) ?_
    have h102 : ((-1) : Int32).toInt = (-1) := by decide
    exact W.iret (v := (-1)) hx hb hr (fun t ht hW => ⟨⟨(-1), F15, rfl, ⟨trivial, trivial, hI, hfr, fun k hk => (y_fiZ oY22 (s_sub (by decide) hk)).trans ((hz0 k hk).trans (y_fiZ oY0 (s_sub (by decide) hk)).symm), (by rw [y_fiZ oY22 (k := 15) (by decide), ← ev10, y_atE o19, y_atE o20, y_atE o21, y_fiZ oY22 (k := 31) (by decide), ← ev11, y_fiZ oY22 (k := 32) (by decide), ← ev12]; exact hT)⟩, by rw [ht]; exact hP, va_K.moved hW.alike hK⟩, hS.F ht⟩) hS.2.2 dX7_warp_9
