set_option maxHeartbeats 4000000 in
set_option maxRecDepth 100000 in
theorem yt_X7_together (l : Launch) (dC : Nat → ClassId) (dI : Nat → Nat → Nat) (sz : Nat) {L : List Nat} {K : Nat → Nat} {cs : Nat → ClassId} (hLK : ∀ a {k : Nat}, K a = k → k ≠ 0 → a ∈ L) (A : Nat → Nat) (hA : y_A K A) (F : Nat → va_E) (a0 : Nat) (x1 : Int32) (ha0 : K a0 = 9) (hx1 : 0 ≤ x1.toInt ∧ x1.toInt ≤ 3) (hI : y_I K cs A F) (hW0 : y_W0 (y_at F (A 20)) x1.toInt) : Met l yX7_together (Cond.code yX7_together cX7_together 6 (some .int) :: T0) ({ frames := 3, cells := 0, slots := 0, locals := 64 }) (va_Pc [.ref a0, .int x1] (s_W dC dI sz L F [(cs 0, .int), (cs 1, .byte), (cs 2, .long), (cs 3, .object RX5), (cs 4, .object RX4), (cs 5, .array .int), (cs 6, .char), (cs 7, .boolean)])) (va_Qi (fun (r : Int32) (G : Nat → va_E) => True ∧ True ∧ y_I K cs A G ∧ (∀ b, K b ∉ ([] : List Nat) → G b = F b) ∧ (∀ k, k ∈ ([1, 2, 3, 4, 5, 6, 7, 8, 11, 15, 16, 19, 25, 26, 27, 31, 32] : List Nat) → y_fi G a0 k = y_fi F a0 k) ∧ (y_TG (y_at F (A 20)) x1.toInt r)) (fun (G : Nat → va_E) (t : State) => va_P (dC, dI) vwCl (va_pl L G) t.heap ∧ va_K (dC, dI) vwCl [(cs 0, .int), (cs 1, .byte), (cs 2, .long), (cs 3, .object RX5), (cs 4, .object RX4), (cs 5, .array .int), (cs 6, .char), (cs 7, .boolean)] t) (fun q => q ∈ L)) 0 0 (fun q => q ∈ L) := by
  refine Met.ofW (cc := cX7_together) (maxL := 6) (ret := (some .int)) (by decide) rfl ?_
  intro p e s m args below meth c s₁ B hml hv
  obtain ⟨rfl, hsz, hP, hK, hD, hN⟩ := hv
  have hx := B.exec
  have hb := B.bytes
  have hr := B.returns
  have hts : ∀ w ∈ T0, w.before _ s = true := fun w h => atoms_spec (ws := Cond.code yX7_together cX7_together 6 (some .int) :: T0) B.pre w (List.mem_cons_of_mem _ h)
  have hown : s.vm.findClass RX7 = some m.cls := findClass_of_methodNamed B.named
  have hlocks := B.notSynchronized
  have hS : va_S (fun q => q ∈ L) s.heap s.heap [] := va_S.rf
  have hfr : ∀ b, K b ∉ ([] : List Nat) → F b = F b := fun _ _ => rfl
  have hl := lv_entry ([.ref a0, .int x1]) (n := 6) (Nat.le_of_ble_eq_true rfl)
  rw [lg_entry_eq]
  generalize (lg_sl ([.ref a0, .int x1]) ++ List.replicate (6 - (lg_sl ([.ref a0, .int x1])).length) Slot.unset).toArray = ls at hl ⊢
  have hl : lv_has ls 6 [(0, .ref a0), (1, .int x1)] := hl
  refine s_gen hP hS (fun H locs hP hS => ?_)
  obtain ⟨z0, q0, oY0, bz0, bq0⟩ := y_opY hI ha0
  have hz0 : ∀ k, k ∈ ([1, 2, 3, 4, 5, 6, 7, 8, 11, 15, 16, 19, 25, 26, 27, 31, 32] : List Nat) → z0 k = z0 k := fun _ _ => rfl
  obtain ⟨f1, o2, b3⟩ := y_op20 hI
  have hW0 : y_W0 f1 x1.toInt := by have q9 := hW0; rw [y_atE o2] at q9; exact q9
  have hnw := hW0.2.2
  refine lv_aload_n hx hb dX7_together_0 rfl (lv_at hl 0 rfl) ?_
  refine lv_iload_n hx hb dX7_together_1 rfl (lv_at hl 1 rfl) ?_
  refine lv_iconst (v := 3) hx hb dX7_together_2 (by decide) ?_
  refine va_calli (va_runV (As := [.int x1, .int 3]) (rest := []) ⟨hx, hb, hml, hown, hts⟩ (y_X7_its l dC dI H.size hLK A hA F a0 x1 3 ha0 (⟨by omega, by omega⟩) (by decide) hI) (cwV 2 hts (ax_gV T_1057 T_1059 T_1060 T_265 T_1058) rfl rfl rfl (by decide +kernel) ⟨Nat.le_of_ble_eq_true rfl, Nat.le_of_ble_eq_true rfl⟩) ⟨fun a U g mk q => ⟨q.1, s_pc rfl rfl q.2⟩, s_recv hK hP (hLK _ ha0 (by decide)) (ci := 7) rfl oY0, fun U hU hW => ⟨rfl, s_pw hU hW hP hK hD hN⟩⟩ rfl rfl hl.1 rfl (lv_room (Nat.le_of_ble_eq_true rfl)) dX7_together_3 ⟨Nat.zero_le _, Nat.zero_le _⟩) hS (fun q _ h => h) (fun q h => h) (fun r5 F6 t H1 locs ht hvm hw hB hz1 hk1 hS => ?_)
  obtain ⟨hP, hK1⟩ := hB
  rw [ht] at hP
  generalize H1 = H at hP hS ⊢
  obtain ⟨h7, h9, hI, hfr1, hzf, h8⟩ := hw
  have o10 : F6 (A 20) = .inl (cs 0, 918, .inl f1) := (hfr1 _ (by rw [(y_k20 hA)]; decide)).trans o2
  have oY11 : F6 a0 = .inr (7, y_fl A z0 q0) := (hfr1 _ (by rw [ha0]; decide)).trans oY0
  have hfr : ∀ b, K b ∉ ([] : List Nat) → F6 b = F b := fun b hb9 => (hfr1 b (fun q => hb9 (s_sub (by decide) q))).trans (hfr b hb9)
  have h8 : (r5 = y_c f1 (104 + 6 * x1.toInt + 3)) := by have q9 := h8; rw [y_atE o2] at q9; exact q9
  have h8 : r5 = y_c f1 (107 + 6 * x1.toInt) := h8.trans (congrArg (y_c f1) (by omega))
  have h12 := congrArg Int32.toInt h8
  refine lv_aload_n hx hb dX7_together_6 rfl (lv_at hl 0 rfl) ?_
  refine lv_iload_n hx hb dX7_together_7 rfl (lv_at hl 1 rfl) ?_
  refine lv_iconst (v := 4) hx hb dX7_together_8 (by decide) ?_
  refine va_calli (va_runV (As := [.int x1, .int 4]) (rest := [.int r5]) ⟨hx, hb, hml, hown, hts⟩ (y_X7_its l dC dI H.size hLK A hA F6 a0 x1 4 ha0 (⟨by omega, by omega⟩) (by decide) hI) (cwV 2 hts (ax_gV T_1057 T_1059 T_1060 T_265 T_1058) rfl rfl rfl (by decide +kernel) ⟨Nat.le_of_ble_eq_true rfl, Nat.le_of_ble_eq_true rfl⟩) ⟨fun a U g mk q => ⟨q.1, s_pc rfl rfl q.2⟩, s_recv hK hP (hLK _ ha0 (by decide)) (ci := 7) rfl oY11, fun U hU hW => ⟨rfl, s_pw hU hW hP hK hD hN⟩⟩ rfl rfl hl.1 rfl (lv_room (Nat.le_of_ble_eq_true rfl)) dX7_together_9 ⟨Nat.zero_le _, Nat.zero_le _⟩) hS (fun q _ h => h) (fun q h => h) (fun r14 F15 t H1 locs ht hvm hw hB hz1 hk1 hS => ?_)
  obtain ⟨hP, hK1⟩ := hB
  rw [ht] at hP
  generalize H1 = H at hP hS ⊢
  obtain ⟨h16, h18, hI, hfr1, hzf, h17⟩ := hw
  have o19 : F15 (A 20) = .inl (cs 0, 918, .inl f1) := (hfr1 _ (by rw [(y_k20 hA)]; decide)).trans o10
  have oY20 : F15 a0 = .inr (7, y_fl A z0 q0) := (hfr1 _ (by rw [ha0]; decide)).trans oY11
  have hfr : ∀ b, K b ∉ ([] : List Nat) → F15 b = F b := fun b hb9 => (hfr1 b (fun q => hb9 (s_sub (by decide) q))).trans (hfr b hb9)
  have h17 : (r14 = y_c f1 (104 + 6 * x1.toInt + 4)) := by have q9 := h17; rw [y_atE o10] at q9; exact q9
  have h17 : r14 = y_c f1 (108 + 6 * x1.toInt) := h17.trans (congrArg (y_c f1) (by omega))
  have h21 := congrArg Int32.toInt h17
  refine lv_iconst (v := (-1)) hx hb dX7_together_12 (by decide) ?_
  refine lv_ixor hx hb dX7_together_13 ?_
  refine lv_topi (fun v22 ev22 => ?_)
  refine lv_iand hx hb dX7_together_14 ?_
  refine lv_topi (fun v23 ev23 => ?_)
  have hca : v23 = y_c f1 (107 + 6 * x1.toInt) &&& (y_c f1 (108 + 6 * x1.toInt) ^^^ (-1)) := by rw [ev23, h8, ev22, h17]
  have hc8 := y_ca8 hW0 hca
  refine lv_istore_n (lv' := [(2, .int v23), (0, .ref a0), (1, .int x1)]) hx hb dX7_together_15 rfl hl (by decide) rfl (fun ls hl => ?_)
  refine lv_aload_n hx hb dX7_together_16 rfl (lv_at hl 1 rfl) ?_
  refine th_get (D := (dC, dI)) (ci := 7) (v := .ref (A 20)) (C := RX7) (T := TX7) (N := 34) hx hb hts inX7 hown hK hP (hLK _ ha0 (by decide)) oY20 rfl 20 (by decide) (hts _ T_251) (fun _ h9 => h9) rfl dX7_together_17 ?_
  refine lv_iconst (v := 3) hx hb dX7_together_20 (by decide) ?_
  refine th_iald hx hb hK hP (hLK _ (y_k20 hA) (by decide)) 0 o19 rfl (ax_in (by decide)) dX7_together_21 ?_
  refine lv_topi (fun v24 ev24 => ?_)
  have Ev24 : v24 = y_c f1 (3) := ev24.trans (y_ci (by decide))
  have tEv24 := congrArg Int32.toInt Ev24
  refine lv_if_ne (tgt := 55) hx hb dX7_together_22 (by decide) (fun c25 => ?_) (fun c25 => ?_)
  · have c25 := mt (ax_eq (n := 0) (by decide)).mpr c25
    refine lv_iload_n hx hb dX7_together_55 rfl (lv_at hl 0 rfl) ?_
    refine lv_if_ne (tgt := 61) hx hb dX7_together_56 (by decide) (fun c26 => ?_) (fun c26 => ?_)
    · have c26 := mt (ax_eq (n := 0) (by decide)).mpr c26
      obtain ⟨i0, hi0, hbi⟩ := y_ex hc8 (y_nz32 c26)
      obtain ⟨ii, hii0, hii1, hii2⟩ := y_nat8 hi0
      rw [← hii2] at hbi
      refine lv_aload_n hx hb dX7_together_61 rfl (lv_at hl 1 rfl) ?_
      refine lv_iload_n hx hb dX7_together_62 rfl (lv_at hl 2 rfl) ?_
      refine lv_iconst (v := 1) hx hb dX7_together_63 (by decide) ?_
      refine va_calli (va_runV (As := [.int x1, .int 1]) (rest := []) ⟨hx, hb, hml, hown, hts⟩ (y_X7_its l dC dI H.size hLK A hA F15 a0 x1 1 ha0 (⟨by omega, by omega⟩) (by decide) hI) (cwV 2 hts (ax_gV T_1057 T_1059 T_1060 T_265 T_1058) rfl rfl rfl (by decide +kernel) ⟨Nat.le_of_ble_eq_true rfl, Nat.le_of_ble_eq_true rfl⟩) ⟨fun a U g mk q => ⟨q.1, s_pc rfl rfl q.2⟩, s_recv hK hP (hLK _ ha0 (by decide)) (ci := 7) rfl oY20, fun U hU hW => ⟨rfl, s_pw hU hW hP hK hD hN⟩⟩ rfl rfl hl.1 rfl (lv_room (Nat.le_of_ble_eq_true rfl)) dX7_together_64 ⟨Nat.zero_le _, Nat.zero_le _⟩) hS (fun q _ h => h) (fun q h => h) (fun r28 F29 t H1 locs ht hvm hw hB hz1 hk1 hS => ?_)
      obtain ⟨hP, hK1⟩ := hB
      rw [ht] at hP
      generalize H1 = H at hP hS ⊢
      obtain ⟨h30, h32, hI, hfr1, hzf, h31⟩ := hw
      have o33 : F29 (A 20) = .inl (cs 0, 918, .inl f1) := (hfr1 _ (by rw [(y_k20 hA)]; decide)).trans o19
      have oY34 : F29 a0 = .inr (7, y_fl A z0 q0) := (hfr1 _ (by rw [ha0]; decide)).trans oY20
      have hfr : ∀ b, K b ∉ ([] : List Nat) → F29 b = F b := fun b hb9 => (hfr1 b (fun q => hb9 (s_sub (by decide) q))).trans (hfr b hb9)
      have h31 : (r28 = y_c f1 (104 + 6 * x1.toInt + 1)) := by have q9 := h31; rw [y_atE o19] at q9; exact q9
      have h31 : r28 = y_c f1 (105 + 6 * x1.toInt) := h31.trans (congrArg (y_c f1) (by omega))
      have h35 := congrArg Int32.toInt h31
      have h36 : 0 ≤ r28.toInt ∧ r28.toInt ≤ 7 := by have q9 := congrArg Int32.toInt h31; omega
      refine lv_istore_n (lv' := [(3, .int r28), (2, .int v23), (0, .ref a0), (1, .int x1)]) hx hb dX7_together_67 rfl hl (by decide) rfl (fun ls hl => ?_)
      refine th_loop (fun n g H locs => ∃ (G : Nat → va_E) (ls : Array Slot) (w37 : Int32), g = F0 m 68 ls [] ∧ lv_has ls 6 [(0, .ref a0), (1, .int x1), (2, .int v23), (3, .int w37)] ∧ va_P (dC, dI) vwCl (va_pl L G) H ∧ va_S (fun q => q ∈ L) s.heap H locs ∧ y_I K cs A G ∧ (∀ b, K b ∉ ([] : List Nat) → G b = F b) ∧ (∀ k, k ∈ ([1, 2, 3, 4, 5, 6, 7, 8, 11, 15, 16, 19, 25, 26, 27, 31, 32] : List Nat) → y_fi G a0 k = z0 k) ∧ (0 ≤ w37.toInt ∧ w37.toInt ≤ 7) ∧ (0 ≤ x1.toInt ∧ x1.toInt ≤ 3) ∧ n = ((ii + 8 - w37.toInt) % 8).toNat) _ ⟨F29, _, r28, rfl, lv_sub hl [2, 3, 1, 0] rfl, hP, hS, hI, hfr, (fun k hk => (y_fiZ oY34 (s_sub (by decide) hk)).trans (hz0 k hk)), ⟨by omega, by omega⟩, ⟨by omega, by omega⟩, rfl⟩ (fun n ih68 g H locs hq => ?_)
      obtain ⟨F40, ls, w37, rfl, hl, hP, hS, hI, hfr, hz0, h38, h39, hn⟩ := hq
      have o41 : F40 (A 20) = .inl (cs 0, 918, .inl f1) := (hfr _ (by rw [(y_k20 hA)]; decide)).trans o2
      have oY42 : F40 a0 = .inr (7, y_fl A z0 q0) := (hfr _ (by rw [ha0]; decide)).trans oY0
      have hz0 : ∀ k, k ∈ ([1, 2, 3, 4, 5, 6, 7, 8, 11, 15, 16, 19, 25, 26, 27, 31, 32] : List Nat) → z0 k = z0 k := fun _ _ => rfl
      have hn_42 := hn
      refine lv_iload_n hx hb dX7_together_68 rfl (lv_at hl 2 rfl) ?_
      refine lv_iload_n hx hb dX7_together_69 rfl (lv_at hl 3 rfl) ?_
      refine va_calli (va_runS (As := [.int v23, .int w37]) (rest := []) ⟨hx, hb, hml, hown, hts⟩ (y_X7_isOf l dC dI H.size F40 v23 w37 (⟨by omega, by omega⟩)) (cwS 2 hts (ax_gS T_1027 T_1029 T_265 T_1028) rfl rfl rfl (by decide +kernel) ⟨Nat.le_of_ble_eq_true rfl, Nat.le_of_ble_eq_true rfl⟩) ⟨fun a U g mk q => ⟨q.1, s_pc rfl rfl q.2⟩, fun U hU hW => ⟨rfl, s_pw hU hW hP hK hD hN⟩⟩ rfl rfl hl.1 rfl (lv_room (Nat.le_of_ble_eq_true rfl)) dX7_together_70 ⟨Nat.zero_le _, Nat.zero_le _⟩) hS (fun q _ h => h) (fun q h => h) (fun r44 F45 t H1 locs ht hvm hw hB hz1 hk1 hS => ?_)
      obtain ⟨hP, hK1⟩ := hB
      rw [ht] at hP
      generalize H1 = H at hP hS ⊢
      obtain ⟨h46, h48, hG9, h47⟩ := hw
      rw [hG9] at hP
      have h47 : ((r44.toInt = 1 ∧ bt v23 w37.toInt.toNat = true) ∨ (r44.toInt = 0 ∧ bt v23 w37.toInt.toNat = false)) := by have q9 := h47; exact q9
      refine lv_if_ne (tgt := 86) hx hb dX7_together_73 (by decide) (fun c49 => ?_) (fun c49 => ?_)
      · have c49 := mt (ax_eq (n := 0) (by decide)).mpr c49
        have hbf := y_bT h47 c49
        refine lv_iconst (v := 0) hx hb dX7_together_86 (by decide) ?_
        refine lv_istore (lv' := [(4, .int 0), (0, .ref a0), (1, .int x1), (2, .int v23), (3, .int w37)]) hx hb dX7_together_87 hl (by decide) rfl (fun ls hl => ?_)
        refine lv_iconst (v := 0) hx hb dX7_together_89 (by decide) ?_
        refine lv_istore (lv' := [(5, .int 0), (4, .int 0), (0, .ref a0), (1, .int x1), (2, .int v23), (3, .int w37)]) hx hb dX7_together_90 hl (by decide) rfl (fun ls hl => ?_)
        have h52 : (0 : Int32).toInt = 0 := by decide
        have h53 : (0 : Int32).toInt = 0 := by decide
        refine th_loop (fun n g H locs => ∃ (G : Nat → va_E) (ls : Array Slot) (w50 : Int32) (w51 : Int32), g = F0 m 92 ls [] ∧ lv_has ls 6 [(0, .ref a0), (1, .int x1), (2, .int v23), (3, .int w37), (4, .int w50), (5, .int w51)] ∧ va_P (dC, dI) vwCl (va_pl L G) H ∧ va_S (fun q => q ∈ L) s.heap H locs ∧ y_I K cs A G ∧ (∀ b, K b ∉ ([] : List Nat) → G b = F b) ∧ (∀ k, k ∈ ([1, 2, 3, 4, 5, 6, 7, 8, 11, 15, 16, 19, 25, 26, 27, 31, 32] : List Nat) → y_fi G a0 k = z0 k) ∧ True ∧ (0 ≤ w51.toInt ∧ w51.toInt ≤ 8) ∧ (0 ≤ x1.toInt ∧ x1.toInt ≤ 3) ∧ (0 ≤ w37.toInt ∧ w37.toInt ≤ 7) ∧ (y_sub w50 v23) ∧ (w37.toInt < w51.toInt → bt w50 w37.toInt.toNat = true) ∧ n = (9 - w51.toInt).toNat) _ ⟨F40, _, 0, 0, rfl, lv_sub hl [2, 3, 4, 5, 1, 0] rfl, hP, hS, hI, hfr, (fun k hk => (y_fiZ oY42 (s_sub (by decide) hk)).trans (hz0 k hk)), trivial, (by decide), ⟨by omega, by omega⟩, ⟨by omega, by omega⟩, (show (y_sub 0 v23) from (y_sub_0 _)), (show (w37.toInt < (0 : Int32).toInt → bt 0 w37.toInt.toNat = true) from (fun q => absurd q (by omega))), rfl⟩ (fun n ih92 g H locs hq => ?_)
        obtain ⟨F60, ls, w50, w51, rfl, hl, hP, hS, hI, hfr, hz0, h54, h55, h56, h57, h58, h59, hn⟩ := hq
        have o61 : F60 (A 20) = .inl (cs 0, 918, .inl f1) := (hfr _ (by rw [(y_k20 hA)]; decide)).trans o2
        have oY62 : F60 a0 = .inr (7, y_fl A z0 q0) := (hfr _ (by rw [ha0]; decide)).trans oY0
        have hz0 : ∀ k, k ∈ ([1, 2, 3, 4, 5, 6, 7, 8, 11, 15, 16, 19, 25, 26, 27, 31, 32] : List Nat) → z0 k = z0 k := fun _ _ => rfl
        have hn_62 := hn
        refine lv_iload hx hb dX7_together_92 (lv_at hl 5 rfl) ?_
        refine lv_bipush (v := 8) hx hb dX7_together_94 (by decide) ?_
        refine lv_icmp_ge (tgt := 147) hx hb dX7_together_96 (by decide) (fun c63 => ?_) (fun c63 => ?_)
        · have c63 := (ax_ge (n := 8) (by decide)).mp c63
          refine lv_iload hx hb dX7_together_147 (lv_at hl 4 rfl) ?_
          exact W.iret (v := w50) hx hb hr (fun t ht hW => ⟨⟨w50, F60, rfl, ⟨trivial, trivial, hI, hfr, fun k hk => (y_fiZ oY62 (s_sub (by decide) hk)).trans ((hz0 k hk).trans (y_fiZ oY0 (s_sub (by decide) hk)).symm), (by rw [y_atE o2]; exact y_TG1 (by omega) hW0 hca h58 (h59 (by omega)))⟩, by rw [ht]; exact hP, va_K.moved hW.alike hK⟩, hS.F ht⟩) hS.2.2 dX7_together_149
        · have c63 := mt (ax_ge (n := 8) (by decide)).mpr c63
          refine lv_iload_n hx hb dX7_together_99 rfl (lv_at hl 2 rfl) ?_
          refine lv_iload hx hb dX7_together_100 (lv_at hl 5 rfl) ?_
          refine va_calli (va_runS (As := [.int v23, .int w51]) (rest := []) ⟨hx, hb, hml, hown, hts⟩ (y_X7_isOf l dC dI H.size F60 v23 w51 (⟨by omega, by omega⟩)) (cwS 2 hts (ax_gS T_1027 T_1029 T_265 T_1028) rfl rfl rfl (by decide +kernel) ⟨Nat.le_of_ble_eq_true rfl, Nat.le_of_ble_eq_true rfl⟩) ⟨fun a U g mk q => ⟨q.1, s_pc rfl rfl q.2⟩, fun U hU hW => ⟨rfl, s_pw hU hW hP hK hD hN⟩⟩ rfl rfl hl.1 rfl (lv_room (Nat.le_of_ble_eq_true rfl)) dX7_together_102 ⟨Nat.zero_le _, Nat.zero_le _⟩) hS (fun q _ h => h) (fun q h => h) (fun r65 F66 t H1 locs ht hvm hw hB hz1 hk1 hS => ?_)
          obtain ⟨hP, hK1⟩ := hB
          rw [ht] at hP
          generalize H1 = H at hP hS ⊢
          obtain ⟨h67, h69, hG9, h68⟩ := hw
          rw [hG9] at hP
          have h68 : ((r65.toInt = 1 ∧ bt v23 w51.toInt.toNat = true) ∨ (r65.toInt = 0 ∧ bt v23 w51.toInt.toNat = false)) := by have q9 := h68; exact q9
          refine lv_if_eq (tgt := 141) hx hb dX7_together_105 (by decide) (fun c70 => ?_) (fun c70 => ?_)
          · have c70 := (ax_eq (n := 0) (by decide)).mp c70
            have hbk := y_bF h68 c70
            obtain ⟨v71, ev71⟩ : ∃ y : Int32, w51 + 1 = y := ⟨_, rfl⟩
            have qv71 : v71.toInt = w51.toInt + 1 := by rw [← ev71]; exact th_add rfl (by decide) ⟨by omega, by omega⟩
            refine lv_iinc (v := v71) (lv' := [(5, .int v71), (0, .ref a0), (1, .int x1), (2, .int v23), (3, .int w37), (4, .int w50)]) hx hb dX7_together_141 hl (k := 5) rfl ev71 (by decide) rfl (fun ls hl => ?_)
            refine lv_goto (tgt := 92) hx hb dX7_together_144 (by decide) ?_
            exact ih92 _ _ _ _ (by omega) ⟨F60, _, w50, v71, rfl, lv_sub hl [1, 2, 3, 4, 5, 0] rfl, hP, hS, hI, hfr, (fun k hk => (y_fiZ oY62 (s_sub (by decide) hk)).trans (hz0 k hk)), trivial, ⟨by omega, by omega⟩, ⟨by omega, by omega⟩, ⟨by omega, by omega⟩, (show (y_sub w50 v23) from h58), (show (w37.toInt < v71.toInt → bt w50 w37.toInt.toNat = true) from (fun q => h59 (by have q8 : ¬ w37.toInt = w51.toInt := (fun q7 => by rw [q7, hbk] at hbf; cases hbf); omega))), rfl⟩
          · have c70 := mt (ax_eq (n := 0) (by decide)).mpr c70
            have hbk := y_bT h68 c70
            refine lv_aload_n hx hb dX7_together_108 rfl (lv_at hl 0 rfl) ?_
            refine th_get (D := (dC, dI)) (ci := 7) (v := .ref (A 20)) (C := RX7) (T := TX7) (N := 34) hx hb hts inX7 hown hK hP (hLK _ ha0 (by decide)) oY62 rfl 20 (by decide) (hts _ T_251) (fun _ h9 => h9) rfl dX7_together_109 ?_
            refine lv_iload_n hx hb dX7_together_112 rfl (lv_at hl 1 rfl) ?_
            refine lv_iload hx hb dX7_together_113 (lv_at hl 5 rfl) ?_
            refine va_calli (va_runS (As := [.int x1, .int w51]) (rest := [.ref (A 20)]) ⟨hx, hb, hml, hown, hts⟩ (y_X7_nextAt l dC dI H.size F60 x1 w51 (⟨by omega, by omega⟩) (⟨by omega, by omega⟩)) (cwS 2 hts (ax_gS T_1024 T_1026 T_265 T_1025) rfl rfl rfl (by decide +kernel) ⟨Nat.le_of_ble_eq_true rfl, Nat.le_of_ble_eq_true rfl⟩) ⟨fun a U g mk q => ⟨q.1, s_pc rfl rfl q.2⟩, fun U hU hW => ⟨rfl, s_pw hU hW hP hK hD hN⟩⟩ rfl rfl hl.1 rfl (lv_room (Nat.le_of_ble_eq_true rfl)) dX7_together_115 ⟨Nat.zero_le _, Nat.zero_le _⟩) hS (fun q _ h => h) (fun q h => h) (fun r73 F74 t H1 locs ht hvm hw hB hz1 hk1 hS => ?_)
            obtain ⟨hP, hK1⟩ := hB
            rw [ht] at hP
            generalize H1 = H at hP hS ⊢
            obtain ⟨h75, h77, hG9, h76⟩ := hw
            rw [hG9] at hP
            have h76 : (r73.toInt = 256 + 8 * x1.toInt + w51.toInt) := by have q9 := h76; exact q9
            refine th_iald hx hb hK hP (hLK _ (y_k20 hA) (by decide)) 0 o61 rfl (th_in ⟨by omega, by omega⟩) dX7_together_118 ?_
            refine lv_topi (fun v78 ev78 => ?_)
            have Ev78 : v78 = y_c f1 (256 + 8 * x1.toInt + w51.toInt) := ev78.trans (y_ci (by omega))
            have tEv78 := congrArg Int32.toInt Ev78
            refine lv_aload_n hx hb dX7_together_119 rfl (lv_at hl 0 rfl) ?_
            refine th_get (D := (dC, dI)) (ci := 7) (v := .ref (A 20)) (C := RX7) (T := TX7) (N := 34) hx hb hts inX7 hown hK hP (hLK _ ha0 (by decide)) oY62 rfl 20 (by decide) (hts _ T_251) (fun _ h9 => h9) rfl dX7_together_120 ?_
            refine lv_iload_n hx hb dX7_together_123 rfl (lv_at hl 1 rfl) ?_
            refine lv_iload_n hx hb dX7_together_124 rfl (lv_at hl 3 rfl) ?_
            refine va_calli (va_runS (As := [.int x1, .int w37]) (rest := [.ref (A 20), .int v78]) ⟨hx, hb, hml, hown, hts⟩ (y_X7_nextAt l dC dI H.size F60 x1 w37 (⟨by omega, by omega⟩) (⟨by omega, by omega⟩)) (cwS 2 hts (ax_gS T_1024 T_1026 T_265 T_1025) rfl rfl rfl (by decide +kernel) ⟨Nat.le_of_ble_eq_true rfl, Nat.le_of_ble_eq_true rfl⟩) ⟨fun a U g mk q => ⟨q.1, s_pc rfl rfl q.2⟩, fun U hU hW => ⟨rfl, s_pw hU hW hP hK hD hN⟩⟩ rfl rfl hl.1 rfl (lv_room (Nat.le_of_ble_eq_true rfl)) dX7_together_125 ⟨Nat.zero_le _, Nat.zero_le _⟩) hS (fun q _ h => h) (fun q h => h) (fun r80 F81 t H1 locs ht hvm hw hB hz1 hk1 hS => ?_)
            obtain ⟨hP, hK1⟩ := hB
            rw [ht] at hP
            generalize H1 = H at hP hS ⊢
            obtain ⟨h82, h84, hG9, h83⟩ := hw
            rw [hG9] at hP
            have h83 : (r80.toInt = 256 + 8 * x1.toInt + w37.toInt) := by have q9 := h83; exact q9
            refine th_iald hx hb hK hP (hLK _ (y_k20 hA) (by decide)) 0 o61 rfl (th_in ⟨by omega, by omega⟩) dX7_together_128 ?_
            refine lv_topi (fun v85 ev85 => ?_)
            have Ev85 : v85 = y_c f1 (256 + 8 * x1.toInt + w37.toInt) := ev85.trans (y_ci (by omega))
            have tEv85 := congrArg Int32.toInt Ev85
            refine lv_icmp_ne (tgt := 141) hx hb dX7_together_129 (by decide) (fun c86 => ?_) (fun c86 => ?_)
            · have c86 := mt Int32.toInt_inj.symm.mpr c86
              obtain ⟨v87, ev87⟩ : ∃ y : Int32, w51 + 1 = y := ⟨_, rfl⟩
              have qv87 : v87.toInt = w51.toInt + 1 := by rw [← ev87]; exact th_add rfl (by decide) ⟨by omega, by omega⟩
              refine lv_iinc (v := v87) (lv' := [(5, .int v87), (0, .ref a0), (1, .int x1), (2, .int v23), (3, .int w37), (4, .int w50)]) hx hb dX7_together_141 hl (k := 5) rfl ev87 (by decide) rfl (fun ls hl => ?_)
              refine lv_goto (tgt := 92) hx hb dX7_together_144 (by decide) ?_
              exact ih92 _ _ _ _ (by omega) ⟨F60, _, w50, v87, rfl, lv_sub hl [1, 2, 3, 4, 5, 0] rfl, hP, hS, hI, hfr, (fun k hk => (y_fiZ oY62 (s_sub (by decide) hk)).trans (hz0 k hk)), trivial, ⟨by omega, by omega⟩, ⟨by omega, by omega⟩, ⟨by omega, by omega⟩, (show (y_sub w50 v23) from h58), (show (w37.toInt < v87.toInt → bt w50 w37.toInt.toNat = true) from (fun q => h59 (by have q8 : ¬ w37.toInt = w51.toInt := (fun q7 => by rw [q7] at tEv85; omega); omega))), rfl⟩
            · have c86 := Int32.toInt_inj.symm.mp c86
              refine lv_iload hx hb dX7_together_132 (lv_at hl 4 rfl) ?_
              refine lv_iconst (v := 1) hx hb dX7_together_134 (by decide) ?_
              refine lv_iload hx hb dX7_together_135 (lv_at hl 5 rfl) ?_
              refine lv_ishl hx hb dX7_together_137 ?_
              refine lv_topi (fun v88 ev88 => ?_)
              refine lv_ior hx hb dX7_together_138 ?_
              refine lv_topi (fun v89 ev89 => ?_)
              have hor : v89 = w50 ||| (1 : Int32) <<< (w51 &&& 31) := by rw [ev89, ev88]
              refine lv_istore (lv' := [(4, .int v89), (0, .ref a0), (1, .int x1), (2, .int v23), (3, .int w37), (5, .int w51)]) hx hb dX7_together_139 hl (by decide) rfl (fun ls hl => ?_)
              obtain ⟨v90, ev90⟩ : ∃ y : Int32, w51 + 1 = y := ⟨_, rfl⟩
              have qv90 : v90.toInt = w51.toInt + 1 := by rw [← ev90]; exact th_add rfl (by decide) ⟨by omega, by omega⟩
              refine lv_iinc (v := v90) (lv' := [(5, .int v90), (4, .int v89), (0, .ref a0), (1, .int x1), (2, .int v23), (3, .int w37)]) hx hb dX7_together_141 hl (k := 5) rfl ev90 (by decide) rfl (fun ls hl => ?_)
              refine lv_goto (tgt := 92) hx hb dX7_together_144 (by decide) ?_
              exact ih92 _ _ _ _ (by omega) ⟨F60, _, v89, v90, rfl, lv_sub hl [2, 3, 4, 5, 1, 0] rfl, hP, hS, hI, hfr, (fun k hk => (y_fiZ oY62 (s_sub (by decide) hk)).trans (hz0 k hk)), trivial, ⟨by omega, by omega⟩, ⟨by omega, by omega⟩, ⟨by omega, by omega⟩, (show (y_sub v89 v23) from (by rw [hor]; exact y_sub_or ⟨by omega, by omega⟩ h58 hbk)), (show (w37.toInt < v90.toInt → bt v89 w37.toInt.toNat = true) from (fun q => by rw [hor]; exact (y_orb ⟨by omega, by omega⟩ _).mpr ((show w37.toInt < w51.toInt ∨ w37.toInt = w51.toInt by omega).elim (fun q8 => Or.inl (h59 q8)) (fun q8 => Or.inr (by rw [q8]))))), rfl⟩
      · have c49 := (ax_eq (n := 0) (by decide)).mp c49
        have hne9 : ¬ w37.toInt = ii := fun q => by have q8 := y_bF h47 c49; rw [q, hbi] at q8; cases q8
        refine lv_iload_n hx hb dX7_together_76 rfl (lv_at hl 3 rfl) ?_
        refine lv_iconst (v := 1) hx hb dX7_together_77 (by decide) ?_
        refine lv_iadd hx hb dX7_together_78 ?_
        refine lv_topi (fun v91 ev91 => ?_)
        have qv91 : v91.toInt = w37.toInt + 1 := by rw [ev91]; exact th_add rfl (by decide) ⟨by omega, by omega⟩
        refine lv_bipush (v := 8) hx hb dX7_together_79 (by decide) ?_
        refine lv_irem hx hb dX7_together_81 (by decide) ?_
        refine lv_topi (fun v92 ev92 => ?_)
        have qv92 : v92.toInt = v91.toInt % 8 := by rw [ev92]; exact th_rem rfl (by decide) (by omega) (by decide)
        refine lv_istore_n (lv' := [(3, .int v92), (0, .ref a0), (1, .int x1), (2, .int v23)]) hx hb dX7_together_82 rfl hl (by decide) rfl (fun ls hl => ?_)
        have h93 : 0 ≤ v92.toInt ∧ v92.toInt ≤ 7 := ⟨by omega, by omega⟩
        refine lv_goto (tgt := 68) hx hb dX7_together_83 (by decide) ?_
        exact ih68 _ _ _ _ (by omega) ⟨F40, _, v92, rfl, lv_sub hl [1, 2, 3, 0] rfl, hP, hS, hI, hfr, (fun k hk => (y_fiZ oY42 (s_sub (by decide) hk)).trans (hz0 k hk)), ⟨by omega, by omega⟩, ⟨by omega, by omega⟩, rfl⟩
    · have c26 := (ax_eq (n := 0) (by decide)).mp c26
      refine lv_iconst (v := 0) hx hb dX7_together_59 (by decide) ?_
      have h94 : (0 : Int32).toInt = 0 := by decide
      exact W.iret (v := 0) hx hb hr (fun t ht hW => ⟨⟨0, F15, rfl, ⟨trivial, trivial, hI, hfr, fun k hk => (y_fiZ oY20 (s_sub (by decide) hk)).trans ((hz0 k hk).trans (y_fiZ oY0 (s_sub (by decide) hk)).symm), (by rw [y_atE o2]; exact y_TGc (by rw [← hca]; exact y_z32 c26))⟩, by rw [ht]; exact hP, va_K.moved hW.alike hK⟩, hS.F ht⟩) hS.2.2 dX7_together_60
  · have c25 := (ax_eq (n := 0) (by decide)).mp c25
    refine lv_aload_n hx hb dX7_together_25 rfl (lv_at hl 1 rfl) ?_
    refine lv_iload_n hx hb dX7_together_26 rfl (lv_at hl 2 rfl) ?_
    refine va_calli (va_runV (As := [.int x1]) (rest := []) ⟨hx, hb, hml, hown, hts⟩ (y_X7_top l dC dI H.size hLK A hA F15 a0 x1 ha0 (⟨by omega, by omega⟩) hI) (cwV 1 hts (ax_gV T_1074 T_1076 T_1077 T_265 T_1075) rfl rfl rfl (by decide +kernel) ⟨Nat.le_of_ble_eq_true rfl, Nat.le_of_ble_eq_true rfl⟩) ⟨fun a U g mk q => ⟨q.1, s_pc rfl rfl q.2⟩, s_recv hK hP (hLK _ ha0 (by decide)) (ci := 7) rfl oY20, fun U hU hW => ⟨rfl, s_pw hU hW hP hK hD hN⟩⟩ rfl rfl hl.1 rfl (lv_room (Nat.le_of_ble_eq_true rfl)) dX7_together_27 ⟨Nat.zero_le _, Nat.zero_le _⟩) hS (fun q _ h => h) (fun q h => h) (fun r96 F97 t H1 locs ht hvm hw hB hz1 hk1 hS => ?_)
    obtain ⟨hP, hK1⟩ := hB
    rw [ht] at hP
    generalize H1 = H at hP hS ⊢
    obtain ⟨h98, h100, hI, hfr1, hzf, h99⟩ := hw
    have o101 : F97 (A 20) = .inl (cs 0, 918, .inl f1) := (hfr1 _ (by rw [(y_k20 hA)]; decide)).trans o19
    have oY102 : F97 a0 = .inr (7, y_fl A z0 q0) := (hfr1 _ (by rw [ha0]; decide)).trans oY20
    have hfr : ∀ b, K b ∉ ([] : List Nat) → F97 b = F b := fun b hb9 => (hfr1 b (fun q => hb9 (s_sub (by decide) q))).trans (hfr b hb9)
    have h99 : (r96 = y_c f1 (109 + 6 * x1.toInt) - 1) := by have q9 := h99; rw [y_atE o19] at q9; exact q9
    have h103 := congrArg Int32.toInt h99
    have h104 : -1 ≤ r96.toInt ∧ r96.toInt ≤ 14 := by have q9 : r96.toInt = (y_c f1 (109 + 6 * x1.toInt)).toInt - 1 := (by rw [h99]; exact th_sub rfl (by decide) ⟨by omega, by omega⟩); exact ⟨by omega, by omega⟩
    have h105 : r96.toInt = (y_c f1 (109 + 6 * x1.toInt)).toInt - 1 := by rw [h99]; exact th_sub rfl (by decide) ⟨by omega, by omega⟩
    refine lv_if_ge (tgt := 37) hx hb dX7_together_30 (by decide) (fun c106 => ?_) (fun c106 => ?_)
    · have c106 := (ax_ge (n := 0) (by decide)).mp c106
      refine lv_iload_n hx hb dX7_together_37 rfl (lv_at hl 0 rfl) ?_
      refine lv_aload_n hx hb dX7_together_38 rfl (lv_at hl 1 rfl) ?_
      refine th_get (D := (dC, dI)) (ci := 7) (v := .ref (A 20)) (C := RX7) (T := TX7) (N := 34) hx hb hts inX7 hown hK hP (hLK _ ha0 (by decide)) oY102 rfl 20 (by decide) (hts _ T_251) (fun _ h9 => h9) rfl dX7_together_39 ?_
      refine lv_iload_n hx hb dX7_together_42 rfl (lv_at hl 2 rfl) ?_
      refine lv_aload_n hx hb dX7_together_43 rfl (lv_at hl 1 rfl) ?_
      refine lv_iload_n hx hb dX7_together_44 rfl (lv_at hl 2 rfl) ?_
      refine va_calli (va_runV (As := [.int x1]) (rest := [.int x1, .ref (A 20), .int v23]) ⟨hx, hb, hml, hown, hts⟩ (y_X7_top l dC dI H.size hLK A hA F97 a0 x1 ha0 (⟨by omega, by omega⟩) hI) (cwV 1 hts (ax_gV T_1074 T_1076 T_1077 T_265 T_1075) rfl rfl rfl (by decide +kernel) ⟨Nat.le_of_ble_eq_true rfl, Nat.le_of_ble_eq_true rfl⟩) ⟨fun a U g mk q => ⟨q.1, s_pc rfl rfl q.2⟩, s_recv hK hP (hLK _ ha0 (by decide)) (ci := 7) rfl oY102, fun U hU hW => ⟨rfl, s_pw hU hW hP hK hD hN⟩⟩ rfl rfl hl.1 rfl (lv_room (Nat.le_of_ble_eq_true rfl)) dX7_together_45 ⟨Nat.zero_le _, Nat.zero_le _⟩) hS (fun q _ h => h) (fun q h => h) (fun r108 F109 t H1 locs ht hvm hw hB hz1 hk1 hS => ?_)
      obtain ⟨hP, hK1⟩ := hB
      rw [ht] at hP
      generalize H1 = H at hP hS ⊢
      obtain ⟨h110, h112, hI, hfr1, hzf, h111⟩ := hw
      have o113 : F109 (A 20) = .inl (cs 0, 918, .inl f1) := (hfr1 _ (by rw [(y_k20 hA)]; decide)).trans o101
      have oY114 : F109 a0 = .inr (7, y_fl A z0 q0) := (hfr1 _ (by rw [ha0]; decide)).trans oY102
      have hfr : ∀ b, K b ∉ ([] : List Nat) → F109 b = F b := fun b hb9 => (hfr1 b (fun q => hb9 (s_sub (by decide) q))).trans (hfr b hb9)
      have h111 : (r108 = y_c f1 (109 + 6 * x1.toInt) - 1) := by have q9 := h111; rw [y_atE o101] at q9; exact q9
      have h115 := congrArg Int32.toInt h111
      have h116 : 0 ≤ r108.toInt ∧ r108.toInt ≤ 14 := by have q9 : r108.toInt = (y_c f1 (109 + 6 * x1.toInt)).toInt - 1 := (by rw [h111]; exact th_sub rfl (by decide) ⟨by omega, by omega⟩); exact ⟨by omega, by omega⟩
      have h117 : r108.toInt = (y_c f1 (109 + 6 * x1.toInt)).toInt - 1 := by rw [h111]; exact th_sub rfl (by decide) ⟨by omega, by omega⟩
      refine lv_iconst (v := 2) hx hb dX7_together_48 (by decide) ?_
      refine va_calli (va_runS (As := [.int x1, .int r108, .int 2]) (rest := [.ref (A 20), .int v23]) ⟨hx, hb, hml, hown, hts⟩ (y_X7_partAt l dC dI H.size F109 x1 r108 2 (⟨by omega, by omega⟩) (⟨by omega, by omega⟩) (by decide)) (cwS 3 hts (ax_gS T_1078 T_1080 T_265 T_1079) rfl rfl rfl (by decide +kernel) ⟨Nat.le_of_ble_eq_true rfl, Nat.le_of_ble_eq_true rfl⟩) ⟨fun a U g mk q => ⟨q.1, s_pc rfl rfl q.2⟩, fun U hU hW => ⟨rfl, s_pw hU hW hP hK hD hN⟩⟩ rfl rfl hl.1 rfl (lv_room (Nat.le_of_ble_eq_true rfl)) dX7_together_49 ⟨Nat.zero_le _, Nat.zero_le _⟩) hS (fun q _ h => h) (fun q h => h) (fun r119 F120 t H1 locs ht hvm hw hB hz1 hk1 hS => ?_)
      obtain ⟨hP, hK1⟩ := hB
      rw [ht] at hP
      generalize H1 = H at hP hS ⊢
      obtain ⟨h121, h123, hG9, h122⟩ := hw
      rw [hG9] at hP
      have h122 : (r119.toInt = 288 + 48 * x1.toInt + 3 * r108.toInt + 2) := by have q9 := h122; exact q9
      refine th_iald hx hb hK hP (hLK _ (y_k20 hA) (by decide)) 0 o113 rfl (th_in ⟨by omega, by omega⟩) dX7_together_52 ?_
      refine lv_topi (fun v124 ev124 => ?_)
      have Ev124 : v124 = y_c f1 (287 + 48 * x1.toInt + 3 * (y_c f1 (109 + 6 * x1.toInt)).toInt) := ev124.trans (y_ci (by omega))
      have tEv124 := congrArg Int32.toInt Ev124
      refine lv_iand hx hb dX7_together_53 ?_
      refine lv_topi (fun v125 ev125 => ?_)
      exact W.iret (v := v125) hx hb hr (fun t ht hW => ⟨⟨v125, F109, rfl, ⟨trivial, trivial, hI, hfr, fun k hk => (y_fiZ oY114 (s_sub (by decide) hk)).trans ((hz0 k hk).trans (y_fiZ oY0 (s_sub (by decide) hk)).symm), (by rw [y_atE o2]; exact y_TG0 (by omega) hW0 (by omega) (by rw [ev125, hca, Ev124]))⟩, by rw [ht]; exact hP, va_K.moved hW.alike hK⟩, hS.F ht⟩) hS.2.2 dX7_together_54
    · have c106 := mt (ax_ge (n := 0) (by decide)).mpr c106
      refine lv_iconst (v := 0) hx hb dX7_together_33 (by decide) ?_
      refine lv_goto (tgt := 54) hx hb dX7_together_34 (by decide) ?_
      have h126 : (0 : Int32).toInt = 0 := by decide
      exact W.iret (v := 0) hx hb hr (fun t ht hW => ⟨⟨0, F97, rfl, ⟨trivial, trivial, hI, hfr, fun k hk => (y_fiZ oY102 (s_sub (by decide) hk)).trans ((hz0 k hk).trans (y_fiZ oY0 (s_sub (by decide) hk)).symm), (by rw [y_atE o2]; exact y_TGn (by omega) (by omega))⟩, by rw [ht]; exact hP, va_K.moved hW.alike hK⟩, hS.F ht⟩) hS.2.2 dX7_together_54

set_option maxHeartbeats 4000000 in
set_option maxRecDepth 100000 in
theorem yt_X7_lineOf (l : Launch) (dC : Nat → ClassId) (dI : Nat → Nat → Nat) (sz : Nat) {L : List Nat} {K : Nat → Nat} {cs : Nat → ClassId} (hLK : ∀ a {k : Nat}, K a = k → k ≠ 0 → a ∈ L) (A : Nat → Nat) (hA : y_A K A) (F : Nat → va_E) (a0 : Nat) (x1 : Int32) (ha0 : K a0 = 9) (hx1 : 0 ≤ x1.toInt ∧ x1.toInt ≤ 3) (hI : y_I K cs A F) (hNW : y_NW (y_c (y_at F (A 13)) 387).toInt (y_at F (A 20)) x1.toInt) (hgo : y_go (y_at F (A 20)) x1.toInt) : Met l yX7_lineOf (Cond.code yX7_lineOf cX7_lineOf 4 (some .int) :: T0) ({ frames := 4, cells := 0, slots := 0, locals := 89 }) (va_Pc [.ref a0, .int x1] (s_W dC dI sz L F [(cs 0, .int), (cs 1, .byte), (cs 2, .long), (cs 3, .object RX5), (cs 4, .object RX4), (cs 5, .array .int), (cs 6, .char), (cs 7, .boolean)])) (va_Qi (fun (r : Int32) (G : Nat → va_E) => True ∧ True ∧ y_I K cs A G ∧ (∀ b, K b ∉ ([] : List Nat) → G b = F b) ∧ (∀ k, k ∈ ([1, 2, 3, 4, 5, 6, 7, 8, 11, 15, 16, 19, 25, 26, 27, 31, 32] : List Nat) → y_fi G a0 k = y_fi F a0 k) ∧ (0 ≤ r.toInt ∧ r.toInt < (y_c (y_at F (A 13)) 387).toInt)) (fun (G : Nat → va_E) (t : State) => va_P (dC, dI) vwCl (va_pl L G) t.heap ∧ va_K (dC, dI) vwCl [(cs 0, .int), (cs 1, .byte), (cs 2, .long), (cs 3, .object RX5), (cs 4, .object RX4), (cs 5, .array .int), (cs 6, .char), (cs 7, .boolean)] t) (fun q => q ∈ L)) 0 0 (fun q => q ∈ L) := by
  refine Met.ofW (cc := cX7_lineOf) (maxL := 4) (ret := (some .int)) (by decide) rfl ?_
  intro p e s m args below meth c s₁ B hml hv
  obtain ⟨rfl, hsz, hP, hK, hD, hN⟩ := hv
  have hx := B.exec
  have hb := B.bytes
  have hr := B.returns
  have hts : ∀ w ∈ T0, w.before _ s = true := fun w h => atoms_spec (ws := Cond.code yX7_lineOf cX7_lineOf 4 (some .int) :: T0) B.pre w (List.mem_cons_of_mem _ h)
  have hown : s.vm.findClass RX7 = some m.cls := findClass_of_methodNamed B.named
  have hlocks := B.notSynchronized
  have hS : va_S (fun q => q ∈ L) s.heap s.heap [] := va_S.rf
  have hfr : ∀ b, K b ∉ ([] : List Nat) → F b = F b := fun _ _ => rfl
  have hl := lv_entry ([.ref a0, .int x1]) (n := 4) (Nat.le_of_ble_eq_true rfl)
  rw [lg_entry_eq]
  generalize (lg_sl ([.ref a0, .int x1]) ++ List.replicate (4 - (lg_sl ([.ref a0, .int x1])).length) Slot.unset).toArray = ls at hl ⊢
  have hl : lv_has ls 4 [(0, .ref a0), (1, .int x1)] := hl
  refine s_gen hP hS (fun H locs hP hS => ?_)
  obtain ⟨z0, q0, oY0, bz0, bq0⟩ := y_opY hI ha0
  have hz0 : ∀ k, k ∈ ([1, 2, 3, 4, 5, 6, 7, 8, 11, 15, 16, 19, 25, 26, 27, 31, 32] : List Nat) → z0 k = z0 k := fun _ _ => rfl
  obtain ⟨f1, o2, b3⟩ := y_op13 hI
  obtain ⟨f4, o5, b6⟩ := y_op20 hI
  have hNW : y_NW (y_c f1 387).toInt f4 x1.toInt := by have q9 := hNW; rw [y_atE o2, y_atE o5] at q9; exact q9
  have hgo : y_go f4 x1.toInt := by have q9 := hgo; rw [y_atE o5] at q9; exact q9
  have hnw := hNW.1.2.2
  refine lv_aload_n hx hb dX7_lineOf_0 rfl (lv_at hl 0 rfl) ?_
  refine th_get (D := (dC, dI)) (ci := 7) (v := .ref (A 20)) (C := RX7) (T := TX7) (N := 34) hx hb hts inX7 hown hK hP (hLK _ ha0 (by decide)) oY0 rfl 20 (by decide) (hts _ T_251) (fun _ h9 => h9) rfl dX7_lineOf_1 ?_
  refine lv_iconst (v := 3) hx hb dX7_lineOf_4 (by decide) ?_
  refine th_iald hx hb hK hP (hLK _ (y_k20 hA) (by decide)) 0 o5 rfl (ax_in (by decide)) dX7_lineOf_5 ?_
  refine lv_topi (fun v7 ev7 => ?_)
  have Ev7 : v7 = y_c f4 (3) := ev7.trans (y_ci (by decide))
  have tEv7 := congrArg Int32.toInt Ev7
  refine lv_if_ne (tgt := 25) hx hb dX7_lineOf_6 (by decide) (fun c8 => ?_) (fun c8 => ?_)
  · have c8 := mt (ax_eq (n := 0) (by decide)).mpr c8
    have hF9 := hNW.2.2 (by rw [← Ev7]; exact c8)
    refine lv_aload_n hx hb dX7_lineOf_25 rfl (lv_at hl 0 rfl) ?_
    refine lv_iload_n hx hb dX7_lineOf_26 rfl (lv_at hl 1 rfl) ?_
    refine va_calli (va_runV (As := [.int x1]) (rest := []) ⟨hx, hb, hml, hown, hts⟩ (y_X7_together l dC dI H.size hLK A hA F a0 x1 ha0 (⟨by omega, by omega⟩) hI (by rw [y_atE o5]; exact hNW.1)) (cwV 1 hts (ax_gV T_1061 T_1063 T_1064 T_265 T_1062) rfl rfl rfl (by decide +kernel) ⟨Nat.le_of_ble_eq_true rfl, Nat.le_of_ble_eq_true rfl⟩) ⟨fun a U g mk q => ⟨q.1, s_pc rfl rfl q.2⟩, s_recv hK hP (hLK _ ha0 (by decide)) (ci := 7) rfl oY0, fun U hU hW => ⟨rfl, s_pw hU hW hP hK hD hN⟩⟩ rfl rfl hl.1 rfl (lv_room (Nat.le_of_ble_eq_true rfl)) dX7_lineOf_27 ⟨Nat.zero_le _, Nat.zero_le _⟩) hS (fun q _ h => h) (fun q h => h) (fun r10 F11 t H1 locs ht hvm hw hB hz1 hk1 hS => ?_)
    obtain ⟨hP, hK1⟩ := hB
    rw [ht] at hP
    generalize H1 = H at hP hS ⊢
    obtain ⟨h12, h14, hI, hfr1, hzf, h13⟩ := hw
    have o15 : F11 (A 13) = .inl (cs 0, 400, .inl f1) := (hfr1 _ (by rw [(y_k13 hA)]; decide)).trans o2
    have o16 : F11 (A 20) = .inl (cs 0, 918, .inl f4) := (hfr1 _ (by rw [(y_k20 hA)]; decide)).trans o5
    have oY17 : F11 a0 = .inr (7, y_fl A z0 q0) := (hfr1 _ (by rw [ha0]; decide)).trans oY0
    have hfr : ∀ b, K b ∉ ([] : List Nat) → F11 b = F b := fun b hb9 => (hfr1 b (fun q => hb9 (s_sub (by decide) q))).trans (hfr b hb9)
    have h13 : (y_TG f4 x1.toInt r10) := by have q9 := h13; rw [y_atE o5] at q9; exact q9
    obtain ⟨i0, hi0, hbi⟩ := y_ex (y_8s h13.1 hNW.1.1) (h13.2.2.2.mpr hgo)
    obtain ⟨ii, hii0, hii1, hii2⟩ := y_nat8 hi0
    rw [← hii2] at hbi
    refine lv_istore_n (lv' := [(2, .int r10), (0, .ref a0), (1, .int x1)]) hx hb dX7_lineOf_30 rfl hl (by decide) rfl (fun ls hl => ?_)
    refine lv_iconst (v := 0) hx hb dX7_lineOf_31 (by decide) ?_
    refine lv_istore_n (lv' := [(3, .int 0), (2, .int r10), (0, .ref a0), (1, .int x1)]) hx hb dX7_lineOf_32 rfl hl (by decide) rfl (fun ls hl => ?_)
    have h19 : (0 : Int32).toInt = 0 := by decide
    refine th_loop (fun n g H locs => ∃ (G : Nat → va_E) (ls : Array Slot) (w18 : Int32), g = F0 m 33 ls [] ∧ lv_has ls 4 [(0, .ref a0), (1, .int x1), (2, .int r10), (3, .int w18)] ∧ va_P (dC, dI) vwCl (va_pl L G) H ∧ va_S (fun q => q ∈ L) s.heap H locs ∧ y_I K cs A G ∧ (∀ b, K b ∉ ([] : List Nat) → G b = F b) ∧ (∀ k, k ∈ ([1, 2, 3, 4, 5, 6, 7, 8, 11, 15, 16, 19, 25, 26, 27, 31, 32] : List Nat) → y_fi G a0 k = z0 k) ∧ (0 ≤ w18.toInt ∧ w18.toInt ≤ 7) ∧ (0 ≤ x1.toInt ∧ x1.toInt ≤ 3) ∧ (w18.toInt ≤ ii) ∧ n = (ii + 1 - w18.toInt).toNat) _ ⟨F11, _, 0, rfl, lv_sub hl [2, 3, 1, 0] rfl, hP, hS, hI, hfr, (fun k hk => (y_fiZ oY17 (s_sub (by decide) hk)).trans (hz0 k hk)), (by decide), ⟨by omega, by omega⟩, (by omega), rfl⟩ (fun n ih33 g H locs hq => ?_)
    obtain ⟨F23, ls, w18, rfl, hl, hP, hS, hI, hfr, hz0, h20, h21, h22, hn⟩ := hq
    have o24 : F23 (A 13) = .inl (cs 0, 400, .inl f1) := (hfr _ (by rw [(y_k13 hA)]; decide)).trans o2
    have o25 : F23 (A 20) = .inl (cs 0, 918, .inl f4) := (hfr _ (by rw [(y_k20 hA)]; decide)).trans o5
    have oY26 : F23 a0 = .inr (7, y_fl A z0 q0) := (hfr _ (by rw [ha0]; decide)).trans oY0
    have hz0 : ∀ k, k ∈ ([1, 2, 3, 4, 5, 6, 7, 8, 11, 15, 16, 19, 25, 26, 27, 31, 32] : List Nat) → z0 k = z0 k := fun _ _ => rfl
    have hn_26 := hn
    refine lv_iload_n hx hb dX7_lineOf_33 rfl (lv_at hl 2 rfl) ?_
    refine lv_iload_n hx hb dX7_lineOf_34 rfl (lv_at hl 3 rfl) ?_
    refine va_calli (va_runS (As := [.int r10, .int w18]) (rest := []) ⟨hx, hb, hml, hown, hts⟩ (y_X7_isOf l dC dI H.size F23 r10 w18 (⟨by omega, by omega⟩)) (cwS 2 hts (ax_gS T_1027 T_1029 T_265 T_1028) rfl rfl rfl (by decide +kernel) ⟨Nat.le_of_ble_eq_true rfl, Nat.le_of_ble_eq_true rfl⟩) ⟨fun a U g mk q => ⟨q.1, s_pc rfl rfl q.2⟩, fun U hU hW => ⟨rfl, s_pw hU hW hP hK hD hN⟩⟩ rfl rfl hl.1 rfl (lv_room (Nat.le_of_ble_eq_true rfl)) dX7_lineOf_35 ⟨Nat.zero_le _, Nat.zero_le _⟩) hS (fun q _ h => h) (fun q h => h) (fun r28 F29 t H1 locs ht hvm hw hB hz1 hk1 hS => ?_)
    obtain ⟨hP, hK1⟩ := hB
    rw [ht] at hP
    generalize H1 = H at hP hS ⊢
    obtain ⟨h30, h32, hG9, h31⟩ := hw
    rw [hG9] at hP
    have h31 : ((r28.toInt = 1 ∧ bt r10 w18.toInt.toNat = true) ∨ (r28.toInt = 0 ∧ bt r10 w18.toInt.toNat = false)) := by have q9 := h31; exact q9
    refine lv_if_ne (tgt := 47) hx hb dX7_lineOf_38 (by decide) (fun c33 => ?_) (fun c33 => ?_)
    · have c33 := mt (ax_eq (n := 0) (by decide)).mpr c33
      have hbf := y_bT h31 c33
      have hl9 := hF9 w18.toInt (by omega) (by omega)
      have hl8 := hl9.2 (h13.1 _ hbf)
      refine lv_aload_n hx hb dX7_lineOf_47 rfl (lv_at hl 0 rfl) ?_
      refine th_get (D := (dC, dI)) (ci := 7) (v := .ref (A 20)) (C := RX7) (T := TX7) (N := 34) hx hb hts inX7 hown hK hP (hLK _ ha0 (by decide)) oY26 rfl 20 (by decide) (hts _ T_251) (fun _ h9 => h9) rfl dX7_lineOf_48 ?_
      refine lv_iload_n hx hb dX7_lineOf_51 rfl (lv_at hl 1 rfl) ?_
      refine lv_iload_n hx hb dX7_lineOf_52 rfl (lv_at hl 3 rfl) ?_
      refine va_calli (va_runS (As := [.int x1, .int w18]) (rest := [.ref (A 20)]) ⟨hx, hb, hml, hown, hts⟩ (y_X7_nextAt l dC dI H.size F23 x1 w18 (⟨by omega, by omega⟩) (⟨by omega, by omega⟩)) (cwS 2 hts (ax_gS T_1024 T_1026 T_265 T_1025) rfl rfl rfl (by decide +kernel) ⟨Nat.le_of_ble_eq_true rfl, Nat.le_of_ble_eq_true rfl⟩) ⟨fun a U g mk q => ⟨q.1, s_pc rfl rfl q.2⟩, fun U hU hW => ⟨rfl, s_pw hU hW hP hK hD hN⟩⟩ rfl rfl hl.1 rfl (lv_room (Nat.le_of_ble_eq_true rfl)) dX7_lineOf_53 ⟨Nat.zero_le _, Nat.zero_le _⟩) hS (fun q _ h => h) (fun q h => h) (fun r35 F36 t H1 locs ht hvm hw hB hz1 hk1 hS => ?_)
      obtain ⟨hP, hK1⟩ := hB
      rw [ht] at hP
      generalize H1 = H at hP hS ⊢
      obtain ⟨h37, h39, hG9, h38⟩ := hw
      rw [hG9] at hP
      have h38 : (r35.toInt = 256 + 8 * x1.toInt + w18.toInt) := by have q9 := h38; exact q9
      refine th_iald hx hb hK hP (hLK _ (y_k20 hA) (by decide)) 0 o25 rfl (th_in ⟨by omega, by omega⟩) dX7_lineOf_56 ?_
      refine lv_topi (fun v40 ev40 => ?_)
      have Ev40 : v40 = y_c f4 (256 + 8 * x1.toInt + w18.toInt) := ev40.trans (y_ci (by omega))
      have tEv40 := congrArg Int32.toInt Ev40
      exact W.iret (v := v40) hx hb hr (fun t ht hW => ⟨⟨v40, F23, rfl, ⟨trivial, trivial, hI, hfr, fun k hk => (y_fiZ oY26 (s_sub (by decide) hk)).trans ((hz0 k hk).trans (y_fiZ oY0 (s_sub (by decide) hk)).symm), (by first | (rw [y_atE o2]; omega) | rw [y_atE o2])⟩, by rw [ht]; exact hP, va_K.moved hW.alike hK⟩, hS.F ht⟩) hS.2.2 dX7_lineOf_57
    · have c33 := (ax_eq (n := 0) (by decide)).mp c33
      have hne9 : ¬ w18.toInt = ii := fun q => by have q8 := y_bF h31 c33; rw [q, hbi] at q8; cases q8
      obtain ⟨v41, ev41⟩ : ∃ y : Int32, w18 + 1 = y := ⟨_, rfl⟩
      have qv41 : v41.toInt = w18.toInt + 1 := by rw [← ev41]; exact th_add rfl (by decide) ⟨by omega, by omega⟩
      refine lv_iinc (v := v41) (lv' := [(3, .int v41), (0, .ref a0), (1, .int x1), (2, .int r10)]) hx hb dX7_lineOf_41 hl (k := 3) rfl ev41 (by decide) rfl (fun ls hl => ?_)
      have h42 : 1 ≤ v41.toInt ∧ v41.toInt ≤ 7 := ⟨by omega, by omega⟩
      refine lv_goto (tgt := 33) hx hb dX7_lineOf_44 (by decide) ?_
      exact ih33 _ _ _ _ (by omega) ⟨F23, _, v41, rfl, lv_sub hl [1, 2, 3, 0] rfl, hP, hS, hI, hfr, (fun k hk => (y_fiZ oY26 (s_sub (by decide) hk)).trans (hz0 k hk)), ⟨by omega, by omega⟩, ⟨by omega, by omega⟩, (by omega), rfl⟩
  · have c8 := (ax_eq (n := 0) (by decide)).mp c8
    obtain ⟨hS1, hS2⟩ := hNW.2.1 (by rw [← Ev7]; exact c8)
    have hgn : 0 < (y_c f4 (109 + 6 * x1.toInt)).toInt := hgo.elim (fun _ q => (q.2.2.2 (by omega)).1)
    have ht9 := hS2 hgn
    have ht8 := hS1.1 ((y_c f4 (109 + 6 * x1.toInt)).toInt - 1) (by omega) (by omega)
    rw [show 288 + 48 * x1.toInt + 3 * ((y_c f4 (109 + 6 * x1.toInt)).toInt - 1) = 285 + 48 * x1.toInt + 3 * (y_c f4 (109 + 6 * x1.toInt)).toInt by omega] at ht8
    refine lv_aload_n hx hb dX7_lineOf_9 rfl (lv_at hl 0 rfl) ?_
    refine th_get (D := (dC, dI)) (ci := 7) (v := .ref (A 20)) (C := RX7) (T := TX7) (N := 34) hx hb hts inX7 hown hK hP (hLK _ ha0 (by decide)) oY0 rfl 20 (by decide) (hts _ T_251) (fun _ h9 => h9) rfl dX7_lineOf_10 ?_
    refine lv_iload_n hx hb dX7_lineOf_13 rfl (lv_at hl 1 rfl) ?_
    refine lv_aload_n hx hb dX7_lineOf_14 rfl (lv_at hl 0 rfl) ?_
    refine lv_iload_n hx hb dX7_lineOf_15 rfl (lv_at hl 1 rfl) ?_
    refine va_calli (va_runV (As := [.int x1]) (rest := [.int x1, .ref (A 20)]) ⟨hx, hb, hml, hown, hts⟩ (y_X7_top l dC dI H.size hLK A hA F a0 x1 ha0 (⟨by omega, by omega⟩) hI) (cwV 1 hts (ax_gV T_1074 T_1076 T_1077 T_265 T_1075) rfl rfl rfl (by decide +kernel) ⟨Nat.le_of_ble_eq_true rfl, Nat.le_of_ble_eq_true rfl⟩) ⟨fun a U g mk q => ⟨q.1, s_pc rfl rfl q.2⟩, s_recv hK hP (hLK _ ha0 (by decide)) (ci := 7) rfl oY0, fun U hU hW => ⟨rfl, s_pw hU hW hP hK hD hN⟩⟩ rfl rfl hl.1 rfl (lv_room (Nat.le_of_ble_eq_true rfl)) dX7_lineOf_16 ⟨Nat.zero_le _, Nat.zero_le _⟩) hS (fun q _ h => h) (fun q h => h) (fun r44 F45 t H1 locs ht hvm hw hB hz1 hk1 hS => ?_)
    obtain ⟨hP, hK1⟩ := hB
    rw [ht] at hP
    generalize H1 = H at hP hS ⊢
    obtain ⟨h46, h48, hI, hfr1, hzf, h47⟩ := hw
    have o49 : F45 (A 13) = .inl (cs 0, 400, .inl f1) := (hfr1 _ (by rw [(y_k13 hA)]; decide)).trans o2
    have o50 : F45 (A 20) = .inl (cs 0, 918, .inl f4) := (hfr1 _ (by rw [(y_k20 hA)]; decide)).trans o5
    have oY51 : F45 a0 = .inr (7, y_fl A z0 q0) := (hfr1 _ (by rw [ha0]; decide)).trans oY0
    have hfr : ∀ b, K b ∉ ([] : List Nat) → F45 b = F b := fun b hb9 => (hfr1 b (fun q => hb9 (s_sub (by decide) q))).trans (hfr b hb9)
    have h47 : (r44 = y_c f4 (109 + 6 * x1.toInt) - 1) := by have q9 := h47; rw [y_atE o5] at q9; exact q9
    have h52 := congrArg Int32.toInt h47
    have h53 : 0 ≤ r44.toInt ∧ r44.toInt ≤ 14 := by have q9 : r44.toInt = (y_c f4 (109 + 6 * x1.toInt)).toInt - 1 := (by rw [h47]; exact th_sub rfl (by decide) ⟨by omega, by omega⟩); exact ⟨by omega, by omega⟩
    have h54 : r44.toInt = (y_c f4 (109 + 6 * x1.toInt)).toInt - 1 := by rw [h47]; exact th_sub rfl (by decide) ⟨by omega, by omega⟩
    refine lv_iconst (v := 0) hx hb dX7_lineOf_19 (by decide) ?_
    refine va_calli (va_runS (As := [.int x1, .int r44, .int 0]) (rest := [.ref (A 20)]) ⟨hx, hb, hml, hown, hts⟩ (y_X7_partAt l dC dI H.size F45 x1 r44 0 (⟨by omega, by omega⟩) (⟨by omega, by omega⟩) (by decide)) (cwS 3 hts (ax_gS T_1078 T_1080 T_265 T_1079) rfl rfl rfl (by decide +kernel) ⟨Nat.le_of_ble_eq_true rfl, Nat.le_of_ble_eq_true rfl⟩) ⟨fun a U g mk q => ⟨q.1, s_pc rfl rfl q.2⟩, fun U hU hW => ⟨rfl, s_pw hU hW hP hK hD hN⟩⟩ rfl rfl hl.1 rfl (lv_room (Nat.le_of_ble_eq_true rfl)) dX7_lineOf_20 ⟨Nat.zero_le _, Nat.zero_le _⟩) hS (fun q _ h => h) (fun q h => h) (fun r56 F57 t H1 locs ht hvm hw hB hz1 hk1 hS => ?_)
    obtain ⟨hP, hK1⟩ := hB
    rw [ht] at hP
    generalize H1 = H at hP hS ⊢
    obtain ⟨h58, h60, hG9, h59⟩ := hw
    rw [hG9] at hP
    have h59 : (r56.toInt = 288 + 48 * x1.toInt + 3 * r44.toInt + 0) := by have q9 := h59; exact q9
    refine th_iald hx hb hK hP (hLK _ (y_k20 hA) (by decide)) 0 o50 rfl (th_in ⟨by omega, by omega⟩) dX7_lineOf_23 ?_
    refine lv_topi (fun v61 ev61 => ?_)
    have Ev61 : v61 = y_c f4 (285 + 48 * x1.toInt + 3 * (y_c f4 (109 + 6 * x1.toInt)).toInt) := ev61.trans (y_ci (by omega))
    have tEv61 := congrArg Int32.toInt Ev61
    exact W.iret (v := v61) hx hb hr (fun t ht hW => ⟨⟨v61, F45, rfl, ⟨trivial, trivial, hI, hfr, fun k hk => (y_fiZ oY51 (s_sub (by decide) hk)).trans ((hz0 k hk).trans (y_fiZ oY0 (s_sub (by decide) hk)).symm), (by first | (rw [y_atE o2]; omega) | rw [y_atE o2])⟩, by rw [ht]; exact hP, va_K.moved hW.alike hK⟩, hS.F ht⟩) hS.2.2 dX7_lineOf_24

set_option maxHeartbeats 4000000 in
set_option maxRecDepth 100000 in
theorem yt_X7_canGo (l : Launch) (dC : Nat → ClassId) (dI : Nat → Nat → Nat) (sz : Nat) {L : List Nat} {K : Nat → Nat} {cs : Nat → ClassId} (hLK : ∀ a {k : Nat}, K a = k → k ≠ 0 → a ∈ L) (A : Nat → Nat) (hA : y_A K A) (F : Nat → va_E) (a0 : Nat) (x1 : Int32) (ha0 : K a0 = 9) (hx1 : 0 ≤ x1.toInt ∧ x1.toInt ≤ 3) (hI : y_I K cs A F) (hW0 : y_W0 (y_at F (A 20)) x1.toInt) : Met l yX7_canGo (Cond.code yX7_canGo cX7_canGo 2 (some .boolean) :: T0) ({ frames := 4, cells := 0, slots := 0, locals := 89 }) (va_Pc [.ref a0, .int x1] (s_W dC dI sz L F [(cs 0, .int), (cs 1, .byte), (cs 2, .long), (cs 3, .object RX5), (cs 4, .object RX4), (cs 5, .array .int), (cs 6, .char), (cs 7, .boolean)])) (va_Qi (fun (r : Int32) (G : Nat → va_E) => (0 ≤ r.toInt ∧ r.toInt ≤ 1) ∧ True ∧ y_I K cs A G ∧ (∀ b, K b ∉ ([] : List Nat) → G b = F b) ∧ (∀ k, k ∈ ([1, 2, 3, 4, 5, 6, 7, 8, 11, 15, 16, 19, 25, 26, 27, 31, 32] : List Nat) → y_fi G a0 k = y_fi F a0 k) ∧ (r.toInt = 0 ∨ y_go (y_at F (A 20)) x1.toInt)) (fun (G : Nat → va_E) (t : State) => va_P (dC, dI) vwCl (va_pl L G) t.heap ∧ va_K (dC, dI) vwCl [(cs 0, .int), (cs 1, .byte), (cs 2, .long), (cs 3, .object RX5), (cs 4, .object RX4), (cs 5, .array .int), (cs 6, .char), (cs 7, .boolean)] t) (fun q => q ∈ L)) 0 0 (fun q => q ∈ L) := by
  refine Met.ofW (cc := cX7_canGo) (maxL := 2) (ret := (some .boolean)) (by decide) rfl ?_
  intro p e s m args below meth c s₁ B hml hv
  obtain ⟨rfl, hsz, hP, hK, hD, hN⟩ := hv
  have hx := B.exec
  have hb := B.bytes
  have hr := B.returns
  have hts : ∀ w ∈ T0, w.before _ s = true := fun w h => atoms_spec (ws := Cond.code yX7_canGo cX7_canGo 2 (some .boolean) :: T0) B.pre w (List.mem_cons_of_mem _ h)
  have hown : s.vm.findClass RX7 = some m.cls := findClass_of_methodNamed B.named
  have hlocks := B.notSynchronized
  have hS : va_S (fun q => q ∈ L) s.heap s.heap [] := va_S.rf
  have hfr : ∀ b, K b ∉ ([] : List Nat) → F b = F b := fun _ _ => rfl
  have hl := lv_entry ([.ref a0, .int x1]) (n := 2) (Nat.le_of_ble_eq_true rfl)
  rw [lg_entry_eq]
  generalize (lg_sl ([.ref a0, .int x1]) ++ List.replicate (2 - (lg_sl ([.ref a0, .int x1])).length) Slot.unset).toArray = ls at hl ⊢
  have hl : lv_has ls 2 [(0, .ref a0), (1, .int x1)] := hl
  refine s_gen hP hS (fun H locs hP hS => ?_)
  obtain ⟨z0, q0, oY0, bz0, bq0⟩ := y_opY hI ha0
  have hz0 : ∀ k, k ∈ ([1, 2, 3, 4, 5, 6, 7, 8, 11, 15, 16, 19, 25, 26, 27, 31, 32] : List Nat) → z0 k = z0 k := fun _ _ => rfl
  obtain ⟨f1, o2, b3⟩ := y_op20 hI
  have hW0 : y_W0 f1 x1.toInt := by have q9 := hW0; rw [y_atE o2] at q9; exact q9
  refine lv_aload_n hx hb dX7_canGo_0 rfl (lv_at hl 0 rfl) ?_
  refine lv_iload_n hx hb dX7_canGo_1 rfl (lv_at hl 1 rfl) ?_
  refine lv_iconst (v := 0) hx hb dX7_canGo_2 (by decide) ?_
  refine va_calli (va_runV (As := [.int x1, .int 0]) (rest := []) ⟨hx, hb, hml, hown, hts⟩ (y_X7_its l dC dI H.size hLK A hA F a0 x1 0 ha0 (⟨by omega, by omega⟩) (by decide) hI) (cwV 2 hts (ax_gV T_1057 T_1059 T_1060 T_265 T_1058) rfl rfl rfl (by decide +kernel) ⟨Nat.le_of_ble_eq_true rfl, Nat.le_of_ble_eq_true rfl⟩) ⟨fun a U g mk q => ⟨q.1, s_pc rfl rfl q.2⟩, s_recv hK hP (hLK _ ha0 (by decide)) (ci := 7) rfl oY0, fun U hU hW => ⟨rfl, s_pw hU hW hP hK hD hN⟩⟩ rfl rfl hl.1 rfl (lv_room (Nat.le_of_ble_eq_true rfl)) dX7_canGo_3 ⟨Nat.zero_le _, Nat.zero_le _⟩) hS (fun q _ h => h) (fun q h => h) (fun r5 F6 t H1 locs ht hvm hw hB hz1 hk1 hS => ?_)
  obtain ⟨hP, hK1⟩ := hB
  rw [ht] at hP
  generalize H1 = H at hP hS ⊢
  obtain ⟨h7, h9, hI, hfr1, hzf, h8⟩ := hw
  have o10 : F6 (A 20) = .inl (cs 0, 918, .inl f1) := (hfr1 _ (by rw [(y_k20 hA)]; decide)).trans o2
  have oY11 : F6 a0 = .inr (7, y_fl A z0 q0) := (hfr1 _ (by rw [ha0]; decide)).trans oY0
  have hfr : ∀ b, K b ∉ ([] : List Nat) → F6 b = F b := fun b hb9 => (hfr1 b (fun q => hb9 (s_sub (by decide) q))).trans (hfr b hb9)
  have h8 : (r5 = y_c f1 (104 + 6 * x1.toInt + 0)) := by have q9 := h8; rw [y_atE o2] at q9; exact q9
  have h8 : r5 = y_c f1 (104 + 6 * x1.toInt) := h8.trans (congrArg (y_c f1) (by omega))
  have h12 := congrArg Int32.toInt h8
  refine lv_aload_n hx hb dX7_canGo_6 rfl (lv_at hl 0 rfl) ?_
  refine th_get (D := (dC, dI)) (ci := 7) (v := .ref (A 20)) (C := RX7) (T := TX7) (N := 34) hx hb hts inX7 hown hK hP (hLK _ ha0 (by decide)) oY11 rfl 20 (by decide) (hts _ T_251) (fun _ h9 => h9) rfl dX7_canGo_7 ?_
  refine lv_iconst (v := 0) hx hb dX7_canGo_10 (by decide) ?_
  refine th_iald hx hb hK hP (hLK _ (y_k20 hA) (by decide)) 0 o10 rfl (ax_in (by decide)) dX7_canGo_11 ?_
  refine lv_topi (fun v13 ev13 => ?_)
  refine lv_icmp_gt (tgt := 27) hx hb dX7_canGo_12 (by decide) (fun c14 => ?_) (fun c14 => ?_)
  · have c14 := Int32.lt_iff_toInt_lt.mp c14
    refine lv_iconst (v := 0) hx hb dX7_canGo_27 (by decide) ?_
    have h15 : (0 : Int32).toInt = 0 := by decide
    exact W.zret (v := 0) (ty := .boolean) hx hb hr (by decide) (fun t ht hW => ⟨⟨0, F6, rfl, ⟨(by decide), trivial, hI, hfr, fun k hk => (y_fiZ oY11 (s_sub (by decide) hk)).trans ((hz0 k hk).trans (y_fiZ oY0 (s_sub (by decide) hk)).symm), (by rw [y_atE o2]; exact Or.inl (by decide))⟩, by rw [ht]; exact hP, va_K.moved hW.alike hK⟩, hS.F ht⟩) hS.2.2 dX7_canGo_28
  · have c14 := mt Int32.lt_iff_toInt_lt.mpr c14
    refine lv_aload_n hx hb dX7_canGo_15 rfl (lv_at hl 0 rfl) ?_
    refine lv_iload_n hx hb dX7_canGo_16 rfl (lv_at hl 1 rfl) ?_
    refine va_calli (va_runV (As := [.int x1]) (rest := []) ⟨hx, hb, hml, hown, hts⟩ (y_X7_together l dC dI H.size hLK A hA F6 a0 x1 ha0 (⟨by omega, by omega⟩) hI (by rw [y_atE o10]; exact hW0)) (cwV 1 hts (ax_gV T_1061 T_1063 T_1064 T_265 T_1062) rfl rfl rfl (by decide +kernel) ⟨Nat.le_of_ble_eq_true rfl, Nat.le_of_ble_eq_true rfl⟩) ⟨fun a U g mk q => ⟨q.1, s_pc rfl rfl q.2⟩, s_recv hK hP (hLK _ ha0 (by decide)) (ci := 7) rfl oY11, fun U hU hW => ⟨rfl, s_pw hU hW hP hK hD hN⟩⟩ rfl rfl hl.1 rfl (lv_room (Nat.le_of_ble_eq_true rfl)) dX7_canGo_17 ⟨Nat.zero_le _, Nat.zero_le _⟩) hS (fun q _ h => h) (fun q h => h) (fun r17 F18 t H1 locs ht hvm hw hB hz1 hk1 hS => ?_)
    obtain ⟨hP, hK1⟩ := hB
    rw [ht] at hP
    generalize H1 = H at hP hS ⊢
    obtain ⟨h19, h21, hI, hfr1, hzf, h20⟩ := hw
    have o22 : F18 (A 20) = .inl (cs 0, 918, .inl f1) := (hfr1 _ (by rw [(y_k20 hA)]; decide)).trans o10
    have oY23 : F18 a0 = .inr (7, y_fl A z0 q0) := (hfr1 _ (by rw [ha0]; decide)).trans oY11
    have hfr : ∀ b, K b ∉ ([] : List Nat) → F18 b = F b := fun b hb9 => (hfr1 b (fun q => hb9 (s_sub (by decide) q))).trans (hfr b hb9)
    have h20 : (y_TG f1 x1.toInt r17) := by have q9 := h20; rw [y_atE o10] at q9; exact q9
    refine lv_if_eq (tgt := 27) hx hb dX7_canGo_20 (by decide) (fun c24 => ?_) (fun c24 => ?_)
    · have c24 := (ax_eq (n := 0) (by decide)).mp c24
      refine lv_iconst (v := 0) hx hb dX7_canGo_27 (by decide) ?_
      have h25 : (0 : Int32).toInt = 0 := by decide
      exact W.zret (v := 0) (ty := .boolean) hx hb hr (by decide) (fun t ht hW => ⟨⟨0, F18, rfl, ⟨(by decide), trivial, hI, hfr, fun k hk => (y_fiZ oY23 (s_sub (by decide) hk)).trans ((hz0 k hk).trans (y_fiZ oY0 (s_sub (by decide) hk)).symm), (by rw [y_atE o2]; exact Or.inl (by decide))⟩, by rw [ht]; exact hP, va_K.moved hW.alike hK⟩, hS.F ht⟩) hS.2.2 dX7_canGo_28
    · have c24 := mt (ax_eq (n := 0) (by decide)).mpr c24
      refine lv_iconst (v := 1) hx hb dX7_canGo_23 (by decide) ?_
      refine lv_goto (tgt := 28) hx hb dX7_canGo_24 (by decide) ?_
      have h26 : (1 : Int32).toInt = 1 := by decide
      exact W.zret (v := 1) (ty := .boolean) hx hb hr (by decide) (fun t ht hW => ⟨⟨1, F18, rfl, ⟨(by decide), trivial, hI, hfr, fun k hk => (y_fiZ oY23 (s_sub (by decide) hk)).trans ((hz0 k hk).trans (y_fiZ oY0 (s_sub (by decide) hk)).symm), (by rw [y_atE o2]; exact Or.inr (h20.2.2.2.mp (y_nz32 c24)))⟩, by rw [ht]; exact hP, va_K.moved hW.alike hK⟩, hS.F ht⟩) hS.2.2 dX7_canGo_28
