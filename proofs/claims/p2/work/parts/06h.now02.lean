set_option maxHeartbeats 4000000 in
set_option maxRecDepth 100000 in
theorem y_X7_together (l : Launch) (dC : Nat → ClassId) (dI : Nat → Nat → Nat) (sz : Nat) {L : List Nat} {K : Nat → Nat} {cs : Nat → ClassId} (hLK : ∀ a {k : Nat}, K a = k → k ≠ 0 → a ∈ L) (A : Nat → Nat) (hA : y_A K A) (F : Nat → va_E) (a0 : Nat) (x1 : Int32) (ha0 : K a0 = 9) (hx1 : 0 ≤ x1.toInt ∧ x1.toInt ≤ 3) (hI : y_I K cs A F) (hW0 : y_W0 (y_at F (A 20)) x1.toInt) : Met l yX7_together (Cond.code yX7_together cX7_together 6 (some .int) :: T0) ({ frames := 3, cells := 0, slots := 0, locals := 64 }) (va_Pc [.ref a0, .int x1] (s_W dC dI sz L F [(cs 0, .int), (cs 1, .byte), (cs 2, .long), (cs 3, .object RX5), (cs 4, .object RX4), (cs 5, .array .int), (cs 6, .char), (cs 7, .boolean)])) (va_Qi (fun (r : Int32) (G : Nat → va_E) => True ∧ True ∧ y_I K cs A G ∧ (∀ b, K b ∉ ([] : List Nat) → G b = F b) ∧ (∀ k, k ∈ ([1, 2, 3, 4, 5, 6, 7, 8, 11, 15, 16, 19, 25, 26, 27, 31, 32] : List Nat) → y_fi G a0 k = y_fi F a0 k) ∧ (y_TG (y_at F (A 20)) x1.toInt r)) (fun (G : Nat → va_E) (t : State) => va_P (dC, dI) vwCl (va_pl L G) t.heap ∧ va_K (dC, dI) vwCl [(cs 0, .int), (cs 1, .byte), (cs 2, .long), (cs 3, .object RX5), (cs 4, .object RX4), (cs 5, .array .int), (cs 6, .char), (cs 7, .boolean)] t) (fun q => q ∈ L)) 0 0 (fun q => q ∈ L) := by
  refine Met.ofW (cc := cX7_together) (maxL := 6) (ret := (some .int)) (by decide) rfl ?_
  intro p e s m args below meth c s₁ B hml hv
  obtain ⟨rfl, hsz, hP, hK, hD, hN⟩ := hv
  have hx := B.exec
  have hb := B.bytes
  have hr := B.returns
  have hts : ∀ w ∈ T0, w.before _ s = true := fun w h => atoms_spec (ws := Cond.code yX7_together cX7_together 6 (some .int) :: T0) B.pre w (List.mem_cons_of_mem _ h)
  have hown : s.vm.findClass RX7 = some m.cls := findClass_of_methodNamed B.named
  have hlocks := B.notSynchronized
  have hS : va_S (fun q => q ∈ L) s.heap s.heap [] := va_S.rf
  have hfr : ∀ b, K b ∉ ([] : List Nat) → F b = F b := fun _ _ => rfl
  have hl := lv_entry ([.ref a0, .int x1]) (n := 6) (Nat.le_of_ble_eq_true rfl)
  rw [lg_entry_eq]
  generalize (lg_sl ([.ref a0, .int x1]) ++ List.replicate (6 - (lg_sl ([.ref a0, .int x1])).length) Slot.unset).toArray = ls at hl ⊢
  have hl : lv_has ls 6 [(0, .ref a0), (1, .int x1)] := hl
  refine s_gen hP hS (fun H locs hP hS => ?_)
  obtain ⟨z0, q0, oY0, bz0, bq0⟩ := y_opY hI ha0
  have hz0 : ∀ k, k ∈ ([1, 2, 3, 4, 5, 6, 7, 8, 11, 15, 16, 19, 25, 26, 27, 31, 32] : List Nat) → z0 k = z0 k := fun _ _ => rfl
  obtain ⟨f1, o2, b3⟩ := y_op20 hI
  replace hW0 : y_W0 f1 x1.toInt := by have q9 := hW0; rw [y_atE o2] at q9; exact q9
  have hnw := hW0.2.2
  refine lv_aload_n hx hb dX7_together_0 rfl (lv_at hl 0 rfl) ?_
  refine lv_iload_n hx hb dX7_together_1 rfl (lv_at hl 1 rfl) ?_
  refine lv_iconst (v := 3) hx hb dX7_together_2 (by decide) ?_
  have rg4 : 0 ≤ x1.toInt ∧ x1.toInt ≤ 3 := ⟨by omega, by omega⟩
  refine va_calli (va_runV (As := [.int x1, .int 3]) (rest := []) ⟨hx, hb, hml, hown, hts⟩ (y_X7_its l dC dI H.size hLK A hA F a0 x1 3 ha0 rg4 (by decide) hI) (cwV 2 hts (ax_gV T_1057 T_1059 T_1060 T_265 T_1058) rfl rfl rfl (by decide +kernel) ⟨Nat.le_of_ble_eq_true rfl, Nat.le_of_ble_eq_true rfl⟩) ⟨fun a U g mk q => ⟨q.1, s_pc (U := U) rfl rfl q.2⟩, s_recv hK hP (hLK _ ha0 (by decide)) (ci := 7) rfl oY0, fun U hU hW => ⟨rfl, s_pw hU hW hP hK hD hN⟩⟩ rfl rfl hl.1 rfl (lv_room (Nat.le_of_ble_eq_true rfl)) dX7_together_3 ⟨Nat.zero_le _, Nat.zero_le _⟩) hS (fun q _ h => h) (fun q h => h) (fun r6 F7 t H1 locs ht hvm hw hB hz1 hk1 hS => ?_)
  obtain ⟨hP, hK1⟩ := hB
  rw [ht] at hP
  generalize H1 = H at hP hS ⊢
  clear hz1 hk1 hvm hK1
  obtain ⟨h8, h10, hI, hfr1, hzf, h9⟩ := hw
  have o11 : F7 (A 20) = .inl (cs 0, 918, .inl f1) := (hfr1 _ (by rw [(y_k20 hA)]; decide)).trans o2
  have oY12 : F7 a0 = .inr (7, y_fl A z0 q0) := (hfr1 _ (by rw [ha0]; decide)).trans oY0
  have hfr : ∀ b, K b ∉ ([] : List Nat) → F7 b = F b := fun b hb9 => (hfr1 b (fun q => hb9 (s_sub (by decide) q))).trans (hfr b hb9)
  replace h9 : (r6 = y_c f1 (104 + 6 * x1.toInt + 3)) := by have q9 := h9; rw [y_atE o2] at q9; exact q9
  have h9 : r6 = y_c f1 (107 + 6 * x1.toInt) := h9.trans (congrArg (y_c f1) (by omega))
  have h13 := congrArg Int32.toInt h9
  refine lv_aload_n hx hb dX7_together_6 rfl (lv_at hl 0 rfl) ?_
  refine lv_iload_n hx hb dX7_together_7 rfl (lv_at hl 1 rfl) ?_
  refine lv_iconst (v := 4) hx hb dX7_together_8 (by decide) ?_
  refine va_calli (va_runV (As := [.int x1, .int 4]) (rest := [.int r6]) ⟨hx, hb, hml, hown, hts⟩ (y_X7_its l dC dI H.size hLK A hA F7 a0 x1 4 ha0 rg4 (by decide) hI) (cwV 2 hts (ax_gV T_1057 T_1059 T_1060 T_265 T_1058) rfl rfl rfl (by decide +kernel) ⟨Nat.le_of_ble_eq_true rfl, Nat.le_of_ble_eq_true rfl⟩) ⟨fun a U g mk q => ⟨q.1, s_pc (U := U) rfl rfl q.2⟩, s_recv hK hP (hLK _ ha0 (by decide)) (ci := 7) rfl oY12, fun U hU hW => ⟨rfl, s_pw hU hW hP hK hD hN⟩⟩ rfl rfl hl.1 rfl (lv_room (Nat.le_of_ble_eq_true rfl)) dX7_together_9 ⟨Nat.zero_le _, Nat.zero_le _⟩) hS (fun q _ h => h) (fun q h => h) (fun r15 F16 t H1 locs ht hvm hw hB hz1 hk1 hS => ?_)
  obtain ⟨hP, hK1⟩ := hB
  rw [ht] at hP
  generalize H1 = H at hP hS ⊢
  clear hz1 hk1 hvm hK1
  obtain ⟨h17, h19, hI, hfr1, hzf, h18⟩ := hw
  have o20 : F16 (A 20) = .inl (cs 0, 918, .inl f1) := (hfr1 _ (by rw [(y_k20 hA)]; decide)).trans o11
  have oY21 : F16 a0 = .inr (7, y_fl A z0 q0) := (hfr1 _ (by rw [ha0]; decide)).trans oY12
  have hfr : ∀ b, K b ∉ ([] : List Nat) → F16 b = F b := fun b hb9 => (hfr1 b (fun q => hb9 (s_sub (by decide) q))).trans (hfr b hb9)
  replace h18 : (r15 = y_c f1 (104 + 6 * x1.toInt + 4)) := by have q9 := h18; rw [y_atE o11] at q9; exact q9
  have h18 : r15 = y_c f1 (108 + 6 * x1.toInt) := h18.trans (congrArg (y_c f1) (by omega))
  have h22 := congrArg Int32.toInt h18
  refine lv_iconst (v := (-1)) hx hb dX7_together_12 (by decide) ?_
  refine lv_ixor hx hb dX7_together_13 ?_
  refine lv_topi (fun v23 ev23 => ?_)
  refine lv_iand hx hb dX7_together_14 ?_
  refine lv_topi (fun v24 ev24 => ?_)
  have hca : v24 = y_c f1 (107 + 6 * x1.toInt) &&& (y_c f1 (108 + 6 * x1.toInt) ^^^ (-1)) := by rw [ev24, h9, ev23, h18]
  have hc8 := y_ca8 hW0 hca
  refine lv_istore_n (lv' := [(2, .int v24), (0, .ref a0), (1, .int x1)]) hx hb dX7_together_15 rfl hl (by decide) rfl (fun ls hl => ?_)
  refine lv_aload_n hx hb dX7_together_16 rfl (lv_at hl 1 rfl) ?_
  refine th_get (D := (dC, dI)) (ci := 7) (v := .ref (A 20)) (C := RX7) (T := TX7) (N := 34) hx hb hts inX7 hown hK hP (hLK _ ha0 (by decide)) oY21 rfl 20 (by decide) (hts _ T_251) (fun _ h9 => h9) rfl dX7_together_17 ?_
  refine lv_iconst (v := 3) hx hb dX7_together_20 (by decide) ?_
  refine th_iald hx hb hK hP (hLK _ (y_k20 hA) (by decide)) 0 o20 rfl (ax_in (by decide)) dX7_together_21 ?_
  refine lv_topi (fun v25 ev25 => ?_)
  have Ev25 : v25 = y_c f1 (3) := ev25.trans (y_ci (by decide))
  have tEv25 := congrArg Int32.toInt Ev25
  refine lv_if_ne (tgt := 55) hx hb dX7_together_22 (by decide) (fun c26 => ?_) (fun c26 => ?_)
  · have c26 := mt (ax_eq (n := 0) (by decide)).mpr c26
    refine lv_iload_n hx hb dX7_together_55 rfl (lv_at hl 0 rfl) ?_
    refine lv_if_ne (tgt := 61) hx hb dX7_together_56 (by decide) (fun c27 => ?_) (fun c27 => ?_)
    · have c27 := mt (ax_eq (n := 0) (by decide)).mpr c27
      obtain ⟨i0, hi0, hbi⟩ := y_ex hc8 (y_nz32 c27)
      obtain ⟨ii, hii0, hii1, hii2⟩ := y_nat8 hi0
      rw [← hii2] at hbi
      refine lv_aload_n hx hb dX7_together_61 rfl (lv_at hl 1 rfl) ?_
      refine lv_iload_n hx hb dX7_together_62 rfl (lv_at hl 2 rfl) ?_
      refine lv_iconst (v := 1) hx hb dX7_together_63 (by decide) ?_
      refine va_calli (va_runV (As := [.int x1, .int 1]) (rest := []) ⟨hx, hb, hml, hown, hts⟩ (y_X7_its l dC dI H.size hLK A hA F16 a0 x1 1 ha0 rg4 (by decide) hI) (cwV 2 hts (ax_gV T_1057 T_1059 T_1060 T_265 T_1058) rfl rfl rfl (by decide +kernel) ⟨Nat.le_of_ble_eq_true rfl, Nat.le_of_ble_eq_true rfl⟩) ⟨fun a U g mk q => ⟨q.1, s_pc (U := U) rfl rfl q.2⟩, s_recv hK hP (hLK _ ha0 (by decide)) (ci := 7) rfl oY21, fun U hU hW => ⟨rfl, s_pw hU hW hP hK hD hN⟩⟩ rfl rfl hl.1 rfl (lv_room (Nat.le_of_ble_eq_true rfl)) dX7_together_64 ⟨Nat.zero_le _, Nat.zero_le _⟩) hS (fun q _ h => h) (fun q h => h) (fun r29 F30 t H1 locs ht hvm hw hB hz1 hk1 hS => ?_)
      obtain ⟨hP, hK1⟩ := hB
      rw [ht] at hP
      generalize H1 = H at hP hS ⊢
      clear hz1 hk1 hvm hK1
      obtain ⟨h31, h33, hI, hfr1, hzf, h32⟩ := hw
      have o34 : F30 (A 20) = .inl (cs 0, 918, .inl f1) := (hfr1 _ (by rw [(y_k20 hA)]; decide)).trans o20
      have oY35 : F30 a0 = .inr (7, y_fl A z0 q0) := (hfr1 _ (by rw [ha0]; decide)).trans oY21
      have hfr : ∀ b, K b ∉ ([] : List Nat) → F30 b = F b := fun b hb9 => (hfr1 b (fun q => hb9 (s_sub (by decide) q))).trans (hfr b hb9)
      replace h32 : (r29 = y_c f1 (104 + 6 * x1.toInt + 1)) := by have q9 := h32; rw [y_atE o20] at q9; exact q9
      have h32 : r29 = y_c f1 (105 + 6 * x1.toInt) := h32.trans (congrArg (y_c f1) (by omega))
      have h36 := congrArg Int32.toInt h32
      have h37 : 0 ≤ r29.toInt ∧ r29.toInt ≤ 7 := by have q9 := congrArg Int32.toInt h32; omega
      refine lv_istore_n (lv' := [(3, .int r29), (2, .int v24), (0, .ref a0), (1, .int x1)]) hx hb dX7_together_67 rfl hl (by decide) rfl (fun ls hl => ?_)
      refine th_loop (fun n g H locs => ∃ (G : Nat → va_E) (ls : Array Slot) (w38 : Int32), g = F0 m 68 ls [] ∧ lv_has ls 6 [(0, .ref a0), (1, .int x1), (2, .int v24), (3, .int w38)] ∧ va_P (dC, dI) vwCl (va_pl L G) H ∧ va_S (fun q => q ∈ L) s.heap H locs ∧ y_I K cs A G ∧ (∀ b, K b ∉ ([] : List Nat) → G b = F b) ∧ (∀ k, k ∈ ([1, 2, 3, 4, 5, 6, 7, 8, 11, 15, 16, 19, 25, 26, 27, 31, 32] : List Nat) → y_fi G a0 k = z0 k) ∧ (0 ≤ w38.toInt ∧ w38.toInt ≤ 7) ∧ (0 ≤ x1.toInt ∧ x1.toInt ≤ 3) ∧ n = ((ii + 8 - w38.toInt) % 8).toNat) _ ⟨F30, _, r29, rfl, lv_sub hl [2, 3, 1, 0] rfl, hP, hS, hI, hfr, (fun k hk => (y_fiZ oY35 (s_sub (by decide) hk)).trans (hz0 k hk)), ⟨by omega, by omega⟩, ⟨by omega, by omega⟩, rfl⟩ (fun n ih68 g H locs hq => ?_)
      obtain ⟨F41, ls, w38, rfl, hl, hP, hS, hI, hfr, hz0, h39, h40, hn⟩ := hq
      have o42 : F41 (A 20) = .inl (cs 0, 918, .inl f1) := (hfr _ (by rw [(y_k20 hA)]; decide)).trans o2
      have oY43 : F41 a0 = .inr (7, y_fl A z0 q0) := (hfr _ (by rw [ha0]; decide)).trans oY0
      have hz0 : ∀ k, k ∈ ([1, 2, 3, 4, 5, 6, 7, 8, 11, 15, 16, 19, 25, 26, 27, 31, 32] : List Nat) → z0 k = z0 k := fun _ _ => rfl
      have hn_43 := hn
      refine lv_iload_n hx hb dX7_together_68 rfl (lv_at hl 2 rfl) ?_
      refine lv_iload_n hx hb dX7_together_69 rfl (lv_at hl 3 rfl) ?_
      have rg44 : 0 ≤ w38.toInt ∧ w38.toInt ≤ 31 := ⟨by omega, by omega⟩
      refine va_calli (va_runS (As := [.int v24, .int w38]) (rest := []) ⟨hx, hb, hml, hown, hts⟩ (y_X7_isOf l dC dI H.size F41 v24 w38 rg44) (cwS 2 hts (ax_gS T_1027 T_1029 T_265 T_1028) rfl rfl rfl (by decide +kernel) ⟨Nat.le_of_ble_eq_true rfl, Nat.le_of_ble_eq_true rfl⟩) ⟨fun a U g mk q => ⟨q.1, s_pc (U := U) rfl rfl q.2⟩, fun U hU hW => ⟨rfl, s_pw hU hW hP hK hD hN⟩⟩ rfl rfl hl.1 rfl (lv_room (Nat.le_of_ble_eq_true rfl)) dX7_together_70 ⟨Nat.zero_le _, Nat.zero_le _⟩) hS (fun q _ h => h) (fun q h => h) (fun r46 F47 t H1 locs ht hvm hw hB hz1 hk1 hS => ?_)
      obtain ⟨hP, hK1⟩ := hB
      rw [ht] at hP
      generalize H1 = H at hP hS ⊢
      clear hz1 hk1 hvm hK1
      obtain ⟨h48, h50, hG9, h49⟩ := hw
      rw [hG9] at hP
      replace h49 : ((r46.toInt = 1 ∧ bt v24 w38.toInt.toNat = true) ∨ (r46.toInt = 0 ∧ bt v24 w38.toInt.toNat = false)) := by have q9 := h49; exact q9
      refine lv_if_ne (tgt := 86) hx hb dX7_together_73 (by decide) (fun c51 => ?_) (fun c51 => ?_)
      · have c51 := mt (ax_eq (n := 0) (by decide)).mpr c51
        have hbf := y_bT h49 c51
        refine lv_iconst (v := 0) hx hb dX7_together_86 (by decide) ?_
        refine lv_istore (lv' := [(4, .int 0), (0, .ref a0), (1, .int x1), (2, .int v24), (3, .int w38)]) hx hb dX7_together_87 hl (by decide) rfl (fun ls hl => ?_)
        refine lv_iconst (v := 0) hx hb dX7_together_89 (by decide) ?_
        refine lv_istore (lv' := [(5, .int 0), (4, .int 0), (0, .ref a0), (1, .int x1), (2, .int v24), (3, .int w38)]) hx hb dX7_together_90 hl (by decide) rfl (fun ls hl => ?_)
        have h54 : (0 : Int32).toInt = 0 := by decide
        have h55 : (0 : Int32).toInt = 0 := by decide
        refine th_loop (fun n g H locs => ∃ (G : Nat → va_E) (ls : Array Slot) (w52 : Int32) (w53 : Int32), g = F0 m 92 ls [] ∧ lv_has ls 6 [(0, .ref a0), (1, .int x1), (2, .int v24), (3, .int w38), (4, .int w52), (5, .int w53)] ∧ va_P (dC, dI) vwCl (va_pl L G) H ∧ va_S (fun q => q ∈ L) s.heap H locs ∧ y_I K cs A G ∧ (∀ b, K b ∉ ([] : List Nat) → G b = F b) ∧ (∀ k, k ∈ ([1, 2, 3, 4, 5, 6, 7, 8, 11, 15, 16, 19, 25, 26, 27, 31, 32] : List Nat) → y_fi G a0 k = z0 k) ∧ True ∧ (0 ≤ w53.toInt ∧ w53.toInt ≤ 8) ∧ (0 ≤ x1.toInt ∧ x1.toInt ≤ 3) ∧ (0 ≤ w38.toInt ∧ w38.toInt ≤ 7) ∧ (y_sub w52 v24) ∧ (w38.toInt < w53.toInt → bt w52 w38.toInt.toNat = true) ∧ n = (9 - w53.toInt).toNat) _ ⟨F41, _, 0, 0, rfl, lv_sub hl [2, 3, 4, 5, 1, 0] rfl, hP, hS, hI, hfr, (fun k hk => (y_fiZ oY43 (s_sub (by decide) hk)).trans (hz0 k hk)), trivial, (by decide), ⟨by omega, by omega⟩, ⟨by omega, by omega⟩, (show (y_sub 0 v24) from (y_sub_0 _)), (show (w38.toInt < (0 : Int32).toInt → bt 0 w38.toInt.toNat = true) from (fun q => absurd q (by omega))), rfl⟩ (fun n ih92 g H locs hq => ?_)
        obtain ⟨F62, ls, w52, w53, rfl, hl, hP, hS, hI, hfr, hz0, h56, h57, h58, h59, h60, h61, hn⟩ := hq
        have o63 : F62 (A 20) = .inl (cs 0, 918, .inl f1) := (hfr _ (by rw [(y_k20 hA)]; decide)).trans o2
        have oY64 : F62 a0 = .inr (7, y_fl A z0 q0) := (hfr _ (by rw [ha0]; decide)).trans oY0
        have hz0 : ∀ k, k ∈ ([1, 2, 3, 4, 5, 6, 7, 8, 11, 15, 16, 19, 25, 26, 27, 31, 32] : List Nat) → z0 k = z0 k := fun _ _ => rfl
        have hn_64 := hn
        refine lv_iload hx hb dX7_together_92 (lv_at hl 5 rfl) ?_
        refine lv_bipush (v := 8) hx hb dX7_together_94 (by decide) ?_
        refine lv_icmp_ge (tgt := 147) hx hb dX7_together_96 (by decide) (fun c65 => ?_) (fun c65 => ?_)
        · have c65 := (ax_ge (n := 8) (by decide)).mp c65
          refine lv_iload hx hb dX7_together_147 (lv_at hl 4 rfl) ?_
          exact W.iret (v := w52) hx hb hr (fun t ht hW => ⟨⟨w52, F62, rfl, ⟨trivial, trivial, hI, hfr, fun k hk => (y_fiZ oY64 (s_sub (by decide) hk)).trans ((hz0 k hk).trans (y_fiZ oY0 (s_sub (by decide) hk)).symm), (by rw [y_atE o2]; exact y_TG1 (by omega) hW0 hca h60 (h61 (by omega)))⟩, by rw [ht]; exact hP, va_K.moved hW.alike hK⟩, hS.F ht⟩) hS.2.2 dX7_together_149
        · have c65 := mt (ax_ge (n := 8) (by decide)).mpr c65
          refine lv_iload_n hx hb dX7_together_99 rfl (lv_at hl 2 rfl) ?_
          refine lv_iload hx hb dX7_together_100 (lv_at hl 5 rfl) ?_
          have rg66 : 0 ≤ w53.toInt ∧ w53.toInt ≤ 31 := ⟨by omega, by omega⟩
          refine va_calli (va_runS (As := [.int v24, .int w53]) (rest := []) ⟨hx, hb, hml, hown, hts⟩ (y_X7_isOf l dC dI H.size F62 v24 w53 rg66) (cwS 2 hts (ax_gS T_1027 T_1029 T_265 T_1028) rfl rfl rfl (by decide +kernel) ⟨Nat.le_of_ble_eq_true rfl, Nat.le_of_ble_eq_true rfl⟩) ⟨fun a U g mk q => ⟨q.1, s_pc (U := U) rfl rfl q.2⟩, fun U hU hW => ⟨rfl, s_pw hU hW hP hK hD hN⟩⟩ rfl rfl hl.1 rfl (lv_room (Nat.le_of_ble_eq_true rfl)) dX7_together_102 ⟨Nat.zero_le _, Nat.zero_le _⟩) hS (fun q _ h => h) (fun q h => h) (fun r68 F69 t H1 locs ht hvm hw hB hz1 hk1 hS => ?_)
          obtain ⟨hP, hK1⟩ := hB
          rw [ht] at hP
          generalize H1 = H at hP hS ⊢
          clear hz1 hk1 hvm hK1
          obtain ⟨h70, h72, hG9, h71⟩ := hw
          rw [hG9] at hP
          replace h71 : ((r68.toInt = 1 ∧ bt v24 w53.toInt.toNat = true) ∨ (r68.toInt = 0 ∧ bt v24 w53.toInt.toNat = false)) := by have q9 := h71; exact q9
          refine lv_if_eq (tgt := 141) hx hb dX7_together_105 (by decide) (fun c73 => ?_) (fun c73 => ?_)
          · have c73 := (ax_eq (n := 0) (by decide)).mp c73
            have hbk := y_bF h71 c73
            obtain ⟨v74, ev74⟩ : ∃ y : Int32, w53 + 1 = y := ⟨_, rfl⟩
            have qv74 : v74.toInt = w53.toInt + 1 := by rw [← ev74]; exact th_add rfl (by decide) ⟨by omega, by omega⟩
            refine lv_iinc (v := v74) (lv' := [(5, .int v74), (0, .ref a0), (1, .int x1), (2, .int v24), (3, .int w38), (4, .int w52)]) hx hb dX7_together_141 hl (k := 5) rfl ev74 (by decide) rfl (fun ls hl => ?_)
            refine lv_goto (tgt := 92) hx hb dX7_together_144 (by decide) ?_
            exact ih92 _ _ _ _ (by omega) ⟨F62, _, w52, v74, rfl, lv_sub hl [1, 2, 3, 4, 5, 0] rfl, hP, hS, hI, hfr, (fun k hk => (y_fiZ oY64 (s_sub (by decide) hk)).trans (hz0 k hk)), trivial, ⟨by omega, by omega⟩, ⟨by omega, by omega⟩, ⟨by omega, by omega⟩, (show (y_sub w52 v24) from h60), (show (w38.toInt < v74.toInt → bt w52 w38.toInt.toNat = true) from (fun q => h61 (by have q8 : ¬ w38.toInt = w53.toInt := (fun q7 => by rw [q7, hbk] at hbf; cases hbf); omega))), rfl⟩
          · have c73 := mt (ax_eq (n := 0) (by decide)).mpr c73
            have hbk := y_bT h71 c73
            refine lv_aload_n hx hb dX7_together_108 rfl (lv_at hl 0 rfl) ?_
            refine th_get (D := (dC, dI)) (ci := 7) (v := .ref (A 20)) (C := RX7) (T := TX7) (N := 34) hx hb hts inX7 hown hK hP (hLK _ ha0 (by decide)) oY64 rfl 20 (by decide) (hts _ T_251) (fun _ h9 => h9) rfl dX7_together_109 ?_
            refine lv_iload_n hx hb dX7_together_112 rfl (lv_at hl 1 rfl) ?_
            refine lv_iload hx hb dX7_together_113 (lv_at hl 5 rfl) ?_
            have rg75 : 0 ≤ w53.toInt ∧ w53.toInt ≤ 7 := ⟨by omega, by omega⟩
            refine va_calli (va_runS (As := [.int x1, .int w53]) (rest := [.ref (A 20)]) ⟨hx, hb, hml, hown, hts⟩ (y_X7_nextAt l dC dI H.size F62 x1 w53 rg4 rg75) (cwS 2 hts (ax_gS T_1024 T_1026 T_265 T_1025) rfl rfl rfl (by decide +kernel) ⟨Nat.le_of_ble_eq_true rfl, Nat.le_of_ble_eq_true rfl⟩) ⟨fun a U g mk q => ⟨q.1, s_pc (U := U) rfl rfl q.2⟩, fun U hU hW => ⟨rfl, s_pw hU hW hP hK hD hN⟩⟩ rfl rfl hl.1 rfl (lv_room (Nat.le_of_ble_eq_true rfl)) dX7_together_115 ⟨Nat.zero_le _, Nat.zero_le _⟩) hS (fun q _ h => h) (fun q h => h) (fun r77 F78 t H1 locs ht hvm hw hB hz1 hk1 hS => ?_)
            obtain ⟨hP, hK1⟩ := hB
            rw [ht] at hP
            generalize H1 = H at hP hS ⊢
            clear hz1 hk1 hvm hK1
            obtain ⟨h79, h81, hG9, h80⟩ := hw
            rw [hG9] at hP
            replace h80 : (r77.toInt = 256 + 8 * x1.toInt + w53.toInt) := by have q9 := h80; exact q9
            refine th_iald hx hb hK hP (hLK _ (y_k20 hA) (by decide)) 0 o63 rfl (th_in ⟨by omega, by omega⟩) dX7_together_118 ?_
            refine lv_topi (fun v82 ev82 => ?_)
            have Ev82 : v82 = y_c f1 (256 + 8 * x1.toInt + w53.toInt) := ev82.trans (y_ci (by omega))
            have tEv82 := congrArg Int32.toInt Ev82
            refine lv_aload_n hx hb dX7_together_119 rfl (lv_at hl 0 rfl) ?_
            refine th_get (D := (dC, dI)) (ci := 7) (v := .ref (A 20)) (C := RX7) (T := TX7) (N := 34) hx hb hts inX7 hown hK hP (hLK _ ha0 (by decide)) oY64 rfl 20 (by decide) (hts _ T_251) (fun _ h9 => h9) rfl dX7_together_120 ?_
            refine lv_iload_n hx hb dX7_together_123 rfl (lv_at hl 1 rfl) ?_
            refine lv_iload_n hx hb dX7_together_124 rfl (lv_at hl 3 rfl) ?_
            have rg83 : 0 ≤ w38.toInt ∧ w38.toInt ≤ 7 := ⟨by omega, by omega⟩
            refine va_calli (va_runS (As := [.int x1, .int w38]) (rest := [.ref (A 20), .int v82]) ⟨hx, hb, hml, hown, hts⟩ (y_X7_nextAt l dC dI H.size F62 x1 w38 rg4 rg83) (cwS 2 hts (ax_gS T_1024 T_1026 T_265 T_1025) rfl rfl rfl (by decide +kernel) ⟨Nat.le_of_ble_eq_true rfl, Nat.le_of_ble_eq_true rfl⟩) ⟨fun a U g mk q => ⟨q.1, s_pc (U := U) rfl rfl q.2⟩, fun U hU hW => ⟨rfl, s_pw hU hW hP hK hD hN⟩⟩ rfl rfl hl.1 rfl (lv_room (Nat.le_of_ble_eq_true rfl)) dX7_together_125 ⟨Nat.zero_le _, Nat.zero_le _⟩) hS (fun q _ h => h) (fun q h => h) (fun r85 F86 t H1 locs ht hvm hw hB hz1 hk1 hS => ?_)
            obtain ⟨hP, hK1⟩ := hB
            rw [ht] at hP
            generalize H1 = H at hP hS ⊢
            clear hz1 hk1 hvm hK1
            obtain ⟨h87, h89, hG9, h88⟩ := hw
            rw [hG9] at hP
            replace h88 : (r85.toInt = 256 + 8 * x1.toInt + w38.toInt) := by have q9 := h88; exact q9
            refine th_iald hx hb hK hP (hLK _ (y_k20 hA) (by decide)) 0 o63 rfl (th_in ⟨by omega, by omega⟩) dX7_together_128 ?_
            refine lv_topi (fun v90 ev90 => ?_)
            have Ev90 : v90 = y_c f1 (256 + 8 * x1.toInt + w38.toInt) := ev90.trans (y_ci (by omega))
            have tEv90 := congrArg Int32.toInt Ev90
            refine lv_icmp_ne (tgt := 141) hx hb dX7_together_129 (by decide) (fun c91 => ?_) (fun c91 => ?_)
            · have c91 := mt Int32.toInt_inj.symm.mpr c91
              obtain ⟨v92, ev92⟩ : ∃ y : Int32, w53 + 1 = y := ⟨_, rfl⟩
              have qv92 : v92.toInt = w53.toInt + 1 := by rw [← ev92]; exact th_add rfl (by decide) ⟨by omega, by omega⟩
              refine lv_iinc (v := v92) (lv' := [(5, .int v92), (0, .ref a0), (1, .int x1), (2, .int v24), (3, .int w38), (4, .int w52)]) hx hb dX7_together_141 hl (k := 5) rfl ev92 (by decide) rfl (fun ls hl => ?_)
              refine lv_goto (tgt := 92) hx hb dX7_together_144 (by decide) ?_
              exact ih92 _ _ _ _ (by omega) ⟨F62, _, w52, v92, rfl, lv_sub hl [1, 2, 3, 4, 5, 0] rfl, hP, hS, hI, hfr, (fun k hk => (y_fiZ oY64 (s_sub (by decide) hk)).trans (hz0 k hk)), trivial, ⟨by omega, by omega⟩, ⟨by omega, by omega⟩, ⟨by omega, by omega⟩, (show (y_sub w52 v24) from h60), (show (w38.toInt < v92.toInt → bt w52 w38.toInt.toNat = true) from (fun q => h61 (by have q8 : ¬ w38.toInt = w53.toInt := (fun q7 => by rw [q7] at tEv90; omega); omega))), rfl⟩
            · have c91 := Int32.toInt_inj.symm.mp c91
              refine lv_iload hx hb dX7_together_132 (lv_at hl 4 rfl) ?_
              refine lv_iconst (v := 1) hx hb dX7_together_134 (by decide) ?_
              refine lv_iload hx hb dX7_together_135 (lv_at hl 5 rfl) ?_
              refine lv_ishl hx hb dX7_together_137 ?_
              refine lv_topi (fun v93 ev93 => ?_)
              refine lv_ior hx hb dX7_together_138 ?_
              refine lv_topi (fun v94 ev94 => ?_)
              have hor : v94 = w52 ||| (1 : Int32) <<< (w53 &&& 31) := by rw [ev94, ev93]
              refine lv_istore (lv' := [(4, .int v94), (0, .ref a0), (1, .int x1), (2, .int v24), (3, .int w38), (5, .int w53)]) hx hb dX7_together_139 hl (by decide) rfl (fun ls hl => ?_)
              obtain ⟨v95, ev95⟩ : ∃ y : Int32, w53 + 1 = y := ⟨_, rfl⟩
              have qv95 : v95.toInt = w53.toInt + 1 := by rw [← ev95]; exact th_add rfl (by decide) ⟨by omega, by omega⟩
              refine lv_iinc (v := v95) (lv' := [(5, .int v95), (4, .int v94), (0, .ref a0), (1, .int x1), (2, .int v24), (3, .int w38)]) hx hb dX7_together_141 hl (k := 5) rfl ev95 (by decide) rfl (fun ls hl => ?_)
              refine lv_goto (tgt := 92) hx hb dX7_together_144 (by decide) ?_
              exact ih92 _ _ _ _ (by omega) ⟨F62, _, v94, v95, rfl, lv_sub hl [2, 3, 4, 5, 1, 0] rfl, hP, hS, hI, hfr, (fun k hk => (y_fiZ oY64 (s_sub (by decide) hk)).trans (hz0 k hk)), trivial, ⟨by omega, by omega⟩, ⟨by omega, by omega⟩, ⟨by omega, by omega⟩, (show (y_sub v94 v24) from (by rw [hor]; exact y_sub_or ⟨by omega, by omega⟩ h60 hbk)), (show (w38.toInt < v95.toInt → bt v94 w38.toInt.toNat = true) from (fun q => by rw [hor]; exact (y_orb ⟨by omega, by omega⟩ _).mpr ((show w38.toInt < w53.toInt ∨ w38.toInt = w53.toInt by omega).elim (fun q8 => Or.inl (h61 q8)) (fun q8 => Or.inr (by rw [q8]))))), rfl⟩
      · have c51 := (ax_eq (n := 0) (by decide)).mp c51
        have hne9 : ¬ w38.toInt = ii := fun q => by have q8 := y_bF h49 c51; rw [q, hbi] at q8; cases q8
        refine lv_iload_n hx hb dX7_together_76 rfl (lv_at hl 3 rfl) ?_
        refine lv_iconst (v := 1) hx hb dX7_together_77 (by decide) ?_
        refine lv_iadd hx hb dX7_together_78 ?_
        refine lv_topi (fun v96 ev96 => ?_)
        have qv96 : v96.toInt = w38.toInt + 1 := by rw [ev96]; exact th_add rfl (by decide) ⟨by omega, by omega⟩
        refine lv_bipush (v := 8) hx hb dX7_together_79 (by decide) ?_
        refine lv_irem hx hb dX7_together_81 (by decide) ?_
        refine lv_topi (fun v97 ev97 => ?_)
        have qv97 : v97.toInt = v96.toInt % 8 := by rw [ev97]; exact th_rem rfl (by decide) (by omega) (by decide)
        refine lv_istore_n (lv' := [(3, .int v97), (0, .ref a0), (1, .int x1), (2, .int v24)]) hx hb dX7_together_82 rfl hl (by decide) rfl (fun ls hl => ?_)
        have h98 : 0 ≤ v97.toInt ∧ v97.toInt ≤ 7 := ⟨by omega, by omega⟩
        refine lv_goto (tgt := 68) hx hb dX7_together_83 (by decide) ?_
        exact ih68 _ _ _ _ (by omega) ⟨F41, _, v97, rfl, lv_sub hl [1, 2, 3, 0] rfl, hP, hS, hI, hfr, (fun k hk => (y_fiZ oY43 (s_sub (by decide) hk)).trans (hz0 k hk)), ⟨by omega, by omega⟩, ⟨by omega, by omega⟩, rfl⟩
    · have c27 := (ax_eq (n := 0) (by decide)).mp c27
      refine lv_iconst (v := 0) hx hb dX7_together_59 (by decide) ?_
      have h99 : (0 : Int32).toInt = 0 := by decide
      exact W.iret (v := 0) hx hb hr (fun t ht hW => ⟨⟨0, F16, rfl, ⟨trivial, trivial, hI, hfr, fun k hk => (y_fiZ oY21 (s_sub (by decide) hk)).trans ((hz0 k hk).trans (y_fiZ oY0 (s_sub (by decide) hk)).symm), (by rw [y_atE o2]; exact y_TGc (by rw [← hca]; exact y_z32 c27))⟩, by rw [ht]; exact hP, va_K.moved hW.alike hK⟩, hS.F ht⟩) hS.2.2 dX7_together_60
  · have c26 := (ax_eq (n := 0) (by decide)).mp c26
    refine lv_aload_n hx hb dX7_together_25 rfl (lv_at hl 1 rfl) ?_
    refine lv_iload_n hx hb dX7_together_26 rfl (lv_at hl 2 rfl) ?_
    refine va_calli (va_runV (As := [.int x1]) (rest := []) ⟨hx, hb, hml, hown, hts⟩ (y_X7_top l dC dI H.size hLK A hA F16 a0 x1 ha0 rg4 hI) (cwV 1 hts (ax_gV T_1074 T_1076 T_1077 T_265 T_1075) rfl rfl rfl (by decide +kernel) ⟨Nat.le_of_ble_eq_true rfl, Nat.le_of_ble_eq_true rfl⟩) ⟨fun a U g mk q => ⟨q.1, s_pc (U := U) rfl rfl q.2⟩, s_recv hK hP (hLK _ ha0 (by decide)) (ci := 7) rfl oY21, fun U hU hW => ⟨rfl, s_pw hU hW hP hK hD hN⟩⟩ rfl rfl hl.1 rfl (lv_room (Nat.le_of_ble_eq_true rfl)) dX7_together_27 ⟨Nat.zero_le _, Nat.zero_le _⟩) hS (fun q _ h => h) (fun q h => h) (fun r101 F102 t H1 locs ht hvm hw hB hz1 hk1 hS => ?_)
    obtain ⟨hP, hK1⟩ := hB
    rw [ht] at hP
    generalize H1 = H at hP hS ⊢
    clear hz1 hk1 hvm hK1
    obtain ⟨h103, h105, hI, hfr1, hzf, h104⟩ := hw
    have o106 : F102 (A 20) = .inl (cs 0, 918, .inl f1) := (hfr1 _ (by rw [(y_k20 hA)]; decide)).trans o20
    have oY107 : F102 a0 = .inr (7, y_fl A z0 q0) := (hfr1 _ (by rw [ha0]; decide)).trans oY21
    have hfr : ∀ b, K b ∉ ([] : List Nat) → F102 b = F b := fun b hb9 => (hfr1 b (fun q => hb9 (s_sub (by decide) q))).trans (hfr b hb9)
    replace h104 : (r101 = y_c f1 (109 + 6 * x1.toInt) - 1) := by have q9 := h104; rw [y_atE o20] at q9; exact q9
    have h108 := congrArg Int32.toInt h104
    have h109 : -1 ≤ r101.toInt ∧ r101.toInt ≤ 14 := by have q9 : r101.toInt = (y_c f1 (109 + 6 * x1.toInt)).toInt - 1 := (by rw [h104]; exact th_sub rfl (by decide) ⟨by omega, by omega⟩); exact ⟨by omega, by omega⟩
    have h110 : r101.toInt = (y_c f1 (109 + 6 * x1.toInt)).toInt - 1 := by rw [h104]; exact th_sub rfl (by decide) ⟨by omega, by omega⟩
    refine lv_if_ge (tgt := 37) hx hb dX7_together_30 (by decide) (fun c111 => ?_) (fun c111 => ?_)
    · have c111 := (ax_ge (n := 0) (by decide)).mp c111
      refine lv_iload_n hx hb dX7_together_37 rfl (lv_at hl 0 rfl) ?_
      refine lv_aload_n hx hb dX7_together_38 rfl (lv_at hl 1 rfl) ?_
      refine th_get (D := (dC, dI)) (ci := 7) (v := .ref (A 20)) (C := RX7) (T := TX7) (N := 34) hx hb hts inX7 hown hK hP (hLK _ ha0 (by decide)) oY107 rfl 20 (by decide) (hts _ T_251) (fun _ h9 => h9) rfl dX7_together_39 ?_
      refine lv_iload_n hx hb dX7_together_42 rfl (lv_at hl 2 rfl) ?_
      refine lv_aload_n hx hb dX7_together_43 rfl (lv_at hl 1 rfl) ?_
      refine lv_iload_n hx hb dX7_together_44 rfl (lv_at hl 2 rfl) ?_
      refine va_calli (va_runV (As := [.int x1]) (rest := [.int x1, .ref (A 20), .int v24]) ⟨hx, hb, hml, hown, hts⟩ (y_X7_top l dC dI H.size hLK A hA F102 a0 x1 ha0 rg4 hI) (cwV 1 hts (ax_gV T_1074 T_1076 T_1077 T_265 T_1075) rfl rfl rfl (by decide +kernel) ⟨Nat.le_of_ble_eq_true rfl, Nat.le_of_ble_eq_true rfl⟩) ⟨fun a U g mk q => ⟨q.1, s_pc (U := U) rfl rfl q.2⟩, s_recv hK hP (hLK _ ha0 (by decide)) (ci := 7) rfl oY107, fun U hU hW => ⟨rfl, s_pw hU hW hP hK hD hN⟩⟩ rfl rfl hl.1 rfl (lv_room (Nat.le_of_ble_eq_true rfl)) dX7_together_45 ⟨Nat.zero_le _, Nat.zero_le _⟩) hS (fun q _ h => h) (fun q h => h) (fun r113 F114 t H1 locs ht hvm hw hB hz1 hk1 hS => ?_)
      obtain ⟨hP, hK1⟩ := hB
      rw [ht] at hP
      generalize H1 = H at hP hS ⊢
      clear hz1 hk1 hvm hK1
      obtain ⟨h115, h117, hI, hfr1, hzf, h116⟩ := hw
      have o118 : F114 (A 20) = .inl (cs 0, 918, .inl f1) := (hfr1 _ (by rw [(y_k20 hA)]; decide)).trans o106
      have oY119 : F114 a0 = .inr (7, y_fl A z0 q0) := (hfr1 _ (by rw [ha0]; decide)).trans oY107
      have hfr : ∀ b, K b ∉ ([] : List Nat) → F114 b = F b := fun b hb9 => (hfr1 b (fun q => hb9 (s_sub (by decide) q))).trans (hfr b hb9)
      replace h116 : (r113 = y_c f1 (109 + 6 * x1.toInt) - 1) := by have q9 := h116; rw [y_atE o106] at q9; exact q9
      have h120 := congrArg Int32.toInt h116
      have h121 : 0 ≤ r113.toInt ∧ r113.toInt ≤ 14 := by have q9 : r113.toInt = (y_c f1 (109 + 6 * x1.toInt)).toInt - 1 := (by rw [h116]; exact th_sub rfl (by decide) ⟨by omega, by omega⟩); exact ⟨by omega, by omega⟩
      have h122 : r113.toInt = (y_c f1 (109 + 6 * x1.toInt)).toInt - 1 := by rw [h116]; exact th_sub rfl (by decide) ⟨by omega, by omega⟩
      refine lv_iconst (v := 2) hx hb dX7_together_48 (by decide) ?_
      have rg123 : 0 ≤ r113.toInt ∧ r113.toInt ≤ 15 := ⟨by omega, by omega⟩
      refine va_calli (va_runS (As := [.int x1, .int r113, .int 2]) (rest := [.ref (A 20), .int v24]) ⟨hx, hb, hml, hown, hts⟩ (y_X7_partAt l dC dI H.size F114 x1 r113 2 rg4 rg123 (by decide)) (cwS 3 hts (ax_gS T_1078 T_1080 T_265 T_1079) rfl rfl rfl (by decide +kernel) ⟨Nat.le_of_ble_eq_true rfl, Nat.le_of_ble_eq_true rfl⟩) ⟨fun a U g mk q => ⟨q.1, s_pc (U := U) rfl rfl q.2⟩, fun U hU hW => ⟨rfl, s_pw hU hW hP hK hD hN⟩⟩ rfl rfl hl.1 rfl (lv_room (Nat.le_of_ble_eq_true rfl)) dX7_together_49 ⟨Nat.zero_le _, Nat.zero_le _⟩) hS (fun q _ h => h) (fun q h => h) (fun r125 F126 t H1 locs ht hvm hw hB hz1 hk1 hS => ?_)
      obtain ⟨hP, hK1⟩ := hB
      rw [ht] at hP
      generalize H1 = H at hP hS ⊢
      clear hz1 hk1 hvm hK1
      obtain ⟨h127, h129, hG9, h128⟩ := hw
      rw [hG9] at hP
      replace h128 : (r125.toInt = 288 + 48 * x1.toInt + 3 * r113.toInt + 2) := by have q9 := h128; exact q9
      refine th_iald hx hb hK hP (hLK _ (y_k20 hA) (by decide)) 0 o118 rfl (th_in ⟨by omega, by omega⟩) dX7_together_52 ?_
      refine lv_topi (fun v130 ev130 => ?_)
      have Ev130 : v130 = y_c f1 (287 + 48 * x1.toInt + 3 * (y_c f1 (109 + 6 * x1.toInt)).toInt) := ev130.trans (y_ci (by omega))
      have tEv130 := congrArg Int32.toInt Ev130
      refine lv_iand hx hb dX7_together_53 ?_
      refine lv_topi (fun v131 ev131 => ?_)
      exact W.iret (v := v131) hx hb hr (fun t ht hW => ⟨⟨v131, F114, rfl, ⟨trivial, trivial, hI, hfr, fun k hk => (y_fiZ oY119 (s_sub (by decide) hk)).trans ((hz0 k hk).trans (y_fiZ oY0 (s_sub (by decide) hk)).symm), (by rw [y_atE o2]; exact y_TG0 (by omega) hW0 (by omega) (by rw [ev131, hca, Ev130]))⟩, by rw [ht]; exact hP, va_K.moved hW.alike hK⟩, hS.F ht⟩) hS.2.2 dX7_together_54
    · have c111 := mt (ax_ge (n := 0) (by decide)).mpr c111
      refine lv_iconst (v := 0) hx hb dX7_together_33 (by decide) ?_
      refine lv_goto (tgt := 54) hx hb dX7_together_34 (by decide) ?_
      have h132 : (0 : Int32).toInt = 0 := by decide
      exact W.iret (v := 0) hx hb hr (fun t ht hW => ⟨⟨0, F102, rfl, ⟨trivial, trivial, hI, hfr, fun k hk => (y_fiZ oY107 (s_sub (by decide) hk)).trans ((hz0 k hk).trans (y_fiZ oY0 (s_sub (by decide) hk)).symm), (by rw [y_atE o2]; exact y_TGn (by omega) (by omega))⟩, by rw [ht]; exact hP, va_K.moved hW.alike hK⟩, hS.F ht⟩) hS.2.2 dX7_together_54

set_option maxHeartbeats 4000000 in
set_option maxRecDepth 100000 in
theorem y_X7_lineOf (l : Launch) (dC : Nat → ClassId) (dI : Nat → Nat → Nat) (sz : Nat) {L : List Nat} {K : Nat → Nat} {cs : Nat → ClassId} (hLK : ∀ a {k : Nat}, K a = k → k ≠ 0 → a ∈ L) (A : Nat → Nat) (hA : y_A K A) (F : Nat → va_E) (a0 : Nat) (x1 : Int32) (ha0 : K a0 = 9) (hx1 : 0 ≤ x1.toInt ∧ x1.toInt ≤ 3) (hI : y_I K cs A F) (hNW : y_NW (y_c (y_at F (A 13)) 387).toInt (y_at F (A 20)) x1.toInt) (hgo : y_go (y_at F (A 20)) x1.toInt) : Met l yX7_lineOf (Cond.code yX7_lineOf cX7_lineOf 4 (some .int) :: T0) ({ frames := 4, cells := 0, slots := 0, locals := 89 }) (va_Pc [.ref a0, .int x1] (s_W dC dI sz L F [(cs 0, .int), (cs 1, .byte), (cs 2, .long), (cs 3, .object RX5), (cs 4, .object RX4), (cs 5, .array .int), (cs 6, .char), (cs 7, .boolean)])) (va_Qi (fun (r : Int32) (G : Nat → va_E) => True ∧ True ∧ y_I K cs A G ∧ (∀ b, K b ∉ ([] : List Nat) → G b = F b) ∧ (∀ k, k ∈ ([1, 2, 3, 4, 5, 6, 7, 8, 11, 15, 16, 19, 25, 26, 27, 31, 32] : List Nat) → y_fi G a0 k = y_fi F a0 k) ∧ (0 ≤ r.toInt ∧ r.toInt < (y_c (y_at F (A 13)) 387).toInt)) (fun (G : Nat → va_E) (t : State) => va_P (dC, dI) vwCl (va_pl L G) t.heap ∧ va_K (dC, dI) vwCl [(cs 0, .int), (cs 1, .byte), (cs 2, .long), (cs 3, .object RX5), (cs 4, .object RX4), (cs 5, .array .int), (cs 6, .char), (cs 7, .boolean)] t) (fun q => q ∈ L)) 0 0 (fun q => q ∈ L) := by
  refine Met.ofW (cc := cX7_lineOf) (maxL := 4) (ret := (some .int)) (by decide) rfl ?_
  intro p e s m args below meth c s₁ B hml hv
  obtain ⟨rfl, hsz, hP, hK, hD, hN⟩ := hv
  have hx := B.exec
  have hb := B.bytes
  have hr := B.returns
  have hts : ∀ w ∈ T0, w.before _ s = true := fun w h => atoms_spec (ws := Cond.code yX7_lineOf cX7_lineOf 4 (some .int) :: T0) B.pre w (List.mem_cons_of_mem _ h)
  have hown : s.vm.findClass RX7 = some m.cls := findClass_of_methodNamed B.named
  have hlocks := B.notSynchronized
  have hS : va_S (fun q => q ∈ L) s.heap s.heap [] := va_S.rf
  have hfr : ∀ b, K b ∉ ([] : List Nat) → F b = F b := fun _ _ => rfl
  have hl := lv_entry ([.ref a0, .int x1]) (n := 4) (Nat.le_of_ble_eq_true rfl)
  rw [lg_entry_eq]
  generalize (lg_sl ([.ref a0, .int x1]) ++ List.replicate (4 - (lg_sl ([.ref a0, .int x1])).length) Slot.unset).toArray = ls at hl ⊢
  have hl : lv_has ls 4 [(0, .ref a0), (1, .int x1)] := hl
  refine s_gen hP hS (fun H locs hP hS => ?_)
  obtain ⟨z0, q0, oY0, bz0, bq0⟩ := y_opY hI ha0
  have hz0 : ∀ k, k ∈ ([1, 2, 3, 4, 5, 6, 7, 8, 11, 15, 16, 19, 25, 26, 27, 31, 32] : List Nat) → z0 k = z0 k := fun _ _ => rfl
  obtain ⟨f1, o2, b3⟩ := y_op13 hI
  obtain ⟨f4, o5, b6⟩ := y_op20 hI
  replace hNW : y_NW (y_c f1 387).toInt f4 x1.toInt := by have q9 := hNW; rw [y_atE o2, y_atE o5] at q9; exact q9
  replace hgo : y_go f4 x1.toInt := by have q9 := hgo; rw [y_atE o5] at q9; exact q9
  have hnw := hNW.1.2.2
  refine lv_aload_n hx hb dX7_lineOf_0 rfl (lv_at hl 0 rfl) ?_
  refine th_get (D := (dC, dI)) (ci := 7) (v := .ref (A 20)) (C := RX7) (T := TX7) (N := 34) hx hb hts inX7 hown hK hP (hLK _ ha0 (by decide)) oY0 rfl 20 (by decide) (hts _ T_251) (fun _ h9 => h9) rfl dX7_lineOf_1 ?_
  refine lv_iconst (v := 3) hx hb dX7_lineOf_4 (by decide) ?_
  refine th_iald hx hb hK hP (hLK _ (y_k20 hA) (by decide)) 0 o5 rfl (ax_in (by decide)) dX7_lineOf_5 ?_
  refine lv_topi (fun v7 ev7 => ?_)
  have Ev7 : v7 = y_c f4 (3) := ev7.trans (y_ci (by decide))
  have tEv7 := congrArg Int32.toInt Ev7
  refine lv_if_ne (tgt := 25) hx hb dX7_lineOf_6 (by decide) (fun c8 => ?_) (fun c8 => ?_)
  · have c8 := mt (ax_eq (n := 0) (by decide)).mpr c8
    have hF9 := hNW.2.2 (by rw [← Ev7]; exact c8)
    refine lv_aload_n hx hb dX7_lineOf_25 rfl (lv_at hl 0 rfl) ?_
    refine lv_iload_n hx hb dX7_lineOf_26 rfl (lv_at hl 1 rfl) ?_
    have rg9 : 0 ≤ x1.toInt ∧ x1.toInt ≤ 3 := ⟨by omega, by omega⟩
    refine va_calli (va_runV (As := [.int x1]) (rest := []) ⟨hx, hb, hml, hown, hts⟩ (y_X7_together l dC dI H.size hLK A hA F a0 x1 ha0 rg9 hI (by rw [y_atE o5]; exact hNW.1)) (cwV 1 hts (ax_gV T_1061 T_1063 T_1064 T_265 T_1062) rfl rfl rfl (by decide +kernel) ⟨Nat.le_of_ble_eq_true rfl, Nat.le_of_ble_eq_true rfl⟩) ⟨fun a U g mk q => ⟨q.1, s_pc (U := U) rfl rfl q.2⟩, s_recv hK hP (hLK _ ha0 (by decide)) (ci := 7) rfl oY0, fun U hU hW => ⟨rfl, s_pw hU hW hP hK hD hN⟩⟩ rfl rfl hl.1 rfl (lv_room (Nat.le_of_ble_eq_true rfl)) dX7_lineOf_27 ⟨Nat.zero_le _, Nat.zero_le _⟩) hS (fun q _ h => h) (fun q h => h) (fun r11 F12 t H1 locs ht hvm hw hB hz1 hk1 hS => ?_)
    obtain ⟨hP, hK1⟩ := hB
    rw [ht] at hP
    generalize H1 = H at hP hS ⊢
    clear hz1 hk1 hvm hK1
    obtain ⟨h13, h15, hI, hfr1, hzf, h14⟩ := hw
    have o16 : F12 (A 13) = .inl (cs 0, 400, .inl f1) := (hfr1 _ (by rw [(y_k13 hA)]; decide)).trans o2
    have o17 : F12 (A 20) = .inl (cs 0, 918, .inl f4) := (hfr1 _ (by rw [(y_k20 hA)]; decide)).trans o5
    have oY18 : F12 a0 = .inr (7, y_fl A z0 q0) := (hfr1 _ (by rw [ha0]; decide)).trans oY0
    have hfr : ∀ b, K b ∉ ([] : List Nat) → F12 b = F b := fun b hb9 => (hfr1 b (fun q => hb9 (s_sub (by decide) q))).trans (hfr b hb9)
    replace h14 : (y_TG f4 x1.toInt r11) := by have q9 := h14; rw [y_atE o5] at q9; exact q9
    obtain ⟨i0, hi0, hbi⟩ := y_ex (y_8s h14.1 hNW.1.1) (h14.2.2.2.mpr hgo)
    obtain ⟨ii, hii0, hii1, hii2⟩ := y_nat8 hi0
    rw [← hii2] at hbi
    refine lv_istore_n (lv' := [(2, .int r11), (0, .ref a0), (1, .int x1)]) hx hb dX7_lineOf_30 rfl hl (by decide) rfl (fun ls hl => ?_)
    refine lv_iconst (v := 0) hx hb dX7_lineOf_31 (by decide) ?_
    refine lv_istore_n (lv' := [(3, .int 0), (2, .int r11), (0, .ref a0), (1, .int x1)]) hx hb dX7_lineOf_32 rfl hl (by decide) rfl (fun ls hl => ?_)
    have h20 : (0 : Int32).toInt = 0 := by decide
    refine th_loop (fun n g H locs => ∃ (G : Nat → va_E) (ls : Array Slot) (w19 : Int32), g = F0 m 33 ls [] ∧ lv_has ls 4 [(0, .ref a0), (1, .int x1), (2, .int r11), (3, .int w19)] ∧ va_P (dC, dI) vwCl (va_pl L G) H ∧ va_S (fun q => q ∈ L) s.heap H locs ∧ y_I K cs A G ∧ (∀ b, K b ∉ ([] : List Nat) → G b = F b) ∧ (∀ k, k ∈ ([1, 2, 3, 4, 5, 6, 7, 8, 11, 15, 16, 19, 25, 26, 27, 31, 32] : List Nat) → y_fi G a0 k = z0 k) ∧ (0 ≤ w19.toInt ∧ w19.toInt ≤ 7) ∧ (0 ≤ x1.toInt ∧ x1.toInt ≤ 3) ∧ (w19.toInt ≤ ii) ∧ n = (ii + 1 - w19.toInt).toNat) _ ⟨F12, _, 0, rfl, lv_sub hl [2, 3, 1, 0] rfl, hP, hS, hI, hfr, (fun k hk => (y_fiZ oY18 (s_sub (by decide) hk)).trans (hz0 k hk)), (by decide), ⟨by omega, by omega⟩, (by omega), rfl⟩ (fun n ih33 g H locs hq => ?_)
    obtain ⟨F24, ls, w19, rfl, hl, hP, hS, hI, hfr, hz0, h21, h22, h23, hn⟩ := hq
    have o25 : F24 (A 13) = .inl (cs 0, 400, .inl f1) := (hfr _ (by rw [(y_k13 hA)]; decide)).trans o2
    have o26 : F24 (A 20) = .inl (cs 0, 918, .inl f4) := (hfr _ (by rw [(y_k20 hA)]; decide)).trans o5
    have oY27 : F24 a0 = .inr (7, y_fl A z0 q0) := (hfr _ (by rw [ha0]; decide)).trans oY0
    have hz0 : ∀ k, k ∈ ([1, 2, 3, 4, 5, 6, 7, 8, 11, 15, 16, 19, 25, 26, 27, 31, 32] : List Nat) → z0 k = z0 k := fun _ _ => rfl
    have hn_27 := hn
    refine lv_iload_n hx hb dX7_lineOf_33 rfl (lv_at hl 2 rfl) ?_
    refine lv_iload_n hx hb dX7_lineOf_34 rfl (lv_at hl 3 rfl) ?_
    have rg28 : 0 ≤ w19.toInt ∧ w19.toInt ≤ 31 := ⟨by omega, by omega⟩
    refine va_calli (va_runS (As := [.int r11, .int w19]) (rest := []) ⟨hx, hb, hml, hown, hts⟩ (y_X7_isOf l dC dI H.size F24 r11 w19 rg28) (cwS 2 hts (ax_gS T_1027 T_1029 T_265 T_1028) rfl rfl rfl (by decide +kernel) ⟨Nat.le_of_ble_eq_true rfl, Nat.le_of_ble_eq_true rfl⟩) ⟨fun a U g mk q => ⟨q.1, s_pc (U := U) rfl rfl q.2⟩, fun U hU hW => ⟨rfl, s_pw hU hW hP hK hD hN⟩⟩ rfl rfl hl.1 rfl (lv_room (Nat.le_of_ble_eq_true rfl)) dX7_lineOf_35 ⟨Nat.zero_le _, Nat.zero_le _⟩) hS (fun q _ h => h) (fun q h => h) (fun r30 F31 t H1 locs ht hvm hw hB hz1 hk1 hS => ?_)
    obtain ⟨hP, hK1⟩ := hB
    rw [ht] at hP
    generalize H1 = H at hP hS ⊢
    clear hz1 hk1 hvm hK1
    obtain ⟨h32, h34, hG9, h33⟩ := hw
    rw [hG9] at hP
    replace h33 : ((r30.toInt = 1 ∧ bt r11 w19.toInt.toNat = true) ∨ (r30.toInt = 0 ∧ bt r11 w19.toInt.toNat = false)) := by have q9 := h33; exact q9
    refine lv_if_ne (tgt := 47) hx hb dX7_lineOf_38 (by decide) (fun c35 => ?_) (fun c35 => ?_)
    · have c35 := mt (ax_eq (n := 0) (by decide)).mpr c35
      have hbf := y_bT h33 c35
      have hl9 := hF9 w19.toInt (by omega) (by omega)
      have hl8 := hl9.2 (h14.1 _ hbf)
      refine lv_aload_n hx hb dX7_lineOf_47 rfl (lv_at hl 0 rfl) ?_
      refine th_get (D := (dC, dI)) (ci := 7) (v := .ref (A 20)) (C := RX7) (T := TX7) (N := 34) hx hb hts inX7 hown hK hP (hLK _ ha0 (by decide)) oY27 rfl 20 (by decide) (hts _ T_251) (fun _ h9 => h9) rfl dX7_lineOf_48 ?_
      refine lv_iload_n hx hb dX7_lineOf_51 rfl (lv_at hl 1 rfl) ?_
      refine lv_iload_n hx hb dX7_lineOf_52 rfl (lv_at hl 3 rfl) ?_
      have rg36 : 0 ≤ w19.toInt ∧ w19.toInt ≤ 7 := ⟨by omega, by omega⟩
      refine va_calli (va_runS (As := [.int x1, .int w19]) (rest := [.ref (A 20)]) ⟨hx, hb, hml, hown, hts⟩ (y_X7_nextAt l dC dI H.size F24 x1 w19 rg9 rg36) (cwS 2 hts (ax_gS T_1024 T_1026 T_265 T_1025) rfl rfl rfl (by decide +kernel) ⟨Nat.le_of_ble_eq_true rfl, Nat.le_of_ble_eq_true rfl⟩) ⟨fun a U g mk q => ⟨q.1, s_pc (U := U) rfl rfl q.2⟩, fun U hU hW => ⟨rfl, s_pw hU hW hP hK hD hN⟩⟩ rfl rfl hl.1 rfl (lv_room (Nat.le_of_ble_eq_true rfl)) dX7_lineOf_53 ⟨Nat.zero_le _, Nat.zero_le _⟩) hS (fun q _ h => h) (fun q h => h) (fun r38 F39 t H1 locs ht hvm hw hB hz1 hk1 hS => ?_)
      obtain ⟨hP, hK1⟩ := hB
      rw [ht] at hP
      generalize H1 = H at hP hS ⊢
      clear hz1 hk1 hvm hK1
      obtain ⟨h40, h42, hG9, h41⟩ := hw
      rw [hG9] at hP
      replace h41 : (r38.toInt = 256 + 8 * x1.toInt + w19.toInt) := by have q9 := h41; exact q9
      refine th_iald hx hb hK hP (hLK _ (y_k20 hA) (by decide)) 0 o26 rfl (th_in ⟨by omega, by omega⟩) dX7_lineOf_56 ?_
      refine lv_topi (fun v43 ev43 => ?_)
      have Ev43 : v43 = y_c f4 (256 + 8 * x1.toInt + w19.toInt) := ev43.trans (y_ci (by omega))
      have tEv43 := congrArg Int32.toInt Ev43
      exact W.iret (v := v43) hx hb hr (fun t ht hW => ⟨⟨v43, F24, rfl, ⟨trivial, trivial, hI, hfr, fun k hk => (y_fiZ oY27 (s_sub (by decide) hk)).trans ((hz0 k hk).trans (y_fiZ oY0 (s_sub (by decide) hk)).symm), (by first | (rw [y_atE o2]; omega) | rw [y_atE o2])⟩, by rw [ht]; exact hP, va_K.moved hW.alike hK⟩, hS.F ht⟩) hS.2.2 dX7_lineOf_57
    · have c35 := (ax_eq (n := 0) (by decide)).mp c35
      have hne9 : ¬ w19.toInt = ii := fun q => by have q8 := y_bF h33 c35; rw [q, hbi] at q8; cases q8
      obtain ⟨v44, ev44⟩ : ∃ y : Int32, w19 + 1 = y := ⟨_, rfl⟩
      have qv44 : v44.toInt = w19.toInt + 1 := by rw [← ev44]; exact th_add rfl (by decide) ⟨by omega, by omega⟩
      refine lv_iinc (v := v44) (lv' := [(3, .int v44), (0, .ref a0), (1, .int x1), (2, .int r11)]) hx hb dX7_lineOf_41 hl (k := 3) rfl ev44 (by decide) rfl (fun ls hl => ?_)
      have h45 : 1 ≤ v44.toInt ∧ v44.toInt ≤ 7 := ⟨by omega, by omega⟩
      refine lv_goto (tgt := 33) hx hb dX7_lineOf_44 (by decide) ?_
      exact ih33 _ _ _ _ (by omega) ⟨F24, _, v44, rfl, lv_sub hl [1, 2, 3, 0] rfl, hP, hS, hI, hfr, (fun k hk => (y_fiZ oY27 (s_sub (by decide) hk)).trans (hz0 k hk)), ⟨by omega, by omega⟩, ⟨by omega, by omega⟩, (by omega), rfl⟩
  · have c8 := (ax_eq (n := 0) (by decide)).mp c8
    obtain ⟨hS1, hS2⟩ := hNW.2.1 (by rw [← Ev7]; exact c8)
    have hgn : 0 < (y_c f4 (109 + 6 * x1.toInt)).toInt := hgo.elim (fun _ q => (q.2.2.2 (by omega)).1)
    have ht9 := hS2 hgn
    have ht8 := hS1.1 ((y_c f4 (109 + 6 * x1.toInt)).toInt - 1) (by omega) (by omega)
    rw [show 288 + 48 * x1.toInt + 3 * ((y_c f4 (109 + 6 * x1.toInt)).toInt - 1) = 285 + 48 * x1.toInt + 3 * (y_c f4 (109 + 6 * x1.toInt)).toInt by omega] at ht8
    refine lv_aload_n hx hb dX7_lineOf_9 rfl (lv_at hl 0 rfl) ?_
    refine th_get (D := (dC, dI)) (ci := 7) (v := .ref (A 20)) (C := RX7) (T := TX7) (N := 34) hx hb hts inX7 hown hK hP (hLK _ ha0 (by decide)) oY0 rfl 20 (by decide) (hts _ T_251) (fun _ h9 => h9) rfl dX7_lineOf_10 ?_
    refine lv_iload_n hx hb dX7_lineOf_13 rfl (lv_at hl 1 rfl) ?_
    refine lv_aload_n hx hb dX7_lineOf_14 rfl (lv_at hl 0 rfl) ?_
    refine lv_iload_n hx hb dX7_lineOf_15 rfl (lv_at hl 1 rfl) ?_
    have rg46 : 0 ≤ x1.toInt ∧ x1.toInt ≤ 3 := ⟨by omega, by omega⟩
    refine va_calli (va_runV (As := [.int x1]) (rest := [.int x1, .ref (A 20)]) ⟨hx, hb, hml, hown, hts⟩ (y_X7_top l dC dI H.size hLK A hA F a0 x1 ha0 rg46 hI) (cwV 1 hts (ax_gV T_1074 T_1076 T_1077 T_265 T_1075) rfl rfl rfl (by decide +kernel) ⟨Nat.le_of_ble_eq_true rfl, Nat.le_of_ble_eq_true rfl⟩) ⟨fun a U g mk q => ⟨q.1, s_pc (U := U) rfl rfl q.2⟩, s_recv hK hP (hLK _ ha0 (by decide)) (ci := 7) rfl oY0, fun U hU hW => ⟨rfl, s_pw hU hW hP hK hD hN⟩⟩ rfl rfl hl.1 rfl (lv_room (Nat.le_of_ble_eq_true rfl)) dX7_lineOf_16 ⟨Nat.zero_le _, Nat.zero_le _⟩) hS (fun q _ h => h) (fun q h => h) (fun r48 F49 t H1 locs ht hvm hw hB hz1 hk1 hS => ?_)
    obtain ⟨hP, hK1⟩ := hB
    rw [ht] at hP
    generalize H1 = H at hP hS ⊢
    clear hz1 hk1 hvm hK1
    obtain ⟨h50, h52, hI, hfr1, hzf, h51⟩ := hw
    have o53 : F49 (A 13) = .inl (cs 0, 400, .inl f1) := (hfr1 _ (by rw [(y_k13 hA)]; decide)).trans o2
    have o54 : F49 (A 20) = .inl (cs 0, 918, .inl f4) := (hfr1 _ (by rw [(y_k20 hA)]; decide)).trans o5
    have oY55 : F49 a0 = .inr (7, y_fl A z0 q0) := (hfr1 _ (by rw [ha0]; decide)).trans oY0
    have hfr : ∀ b, K b ∉ ([] : List Nat) → F49 b = F b := fun b hb9 => (hfr1 b (fun q => hb9 (s_sub (by decide) q))).trans (hfr b hb9)
    replace h51 : (r48 = y_c f4 (109 + 6 * x1.toInt) - 1) := by have q9 := h51; rw [y_atE o5] at q9; exact q9
    have h56 := congrArg Int32.toInt h51
    have h57 : 0 ≤ r48.toInt ∧ r48.toInt ≤ 14 := by have q9 : r48.toInt = (y_c f4 (109 + 6 * x1.toInt)).toInt - 1 := (by rw [h51]; exact th_sub rfl (by decide) ⟨by omega, by omega⟩); exact ⟨by omega, by omega⟩
    have h58 : r48.toInt = (y_c f4 (109 + 6 * x1.toInt)).toInt - 1 := by rw [h51]; exact th_sub rfl (by decide) ⟨by omega, by omega⟩
    refine lv_iconst (v := 0) hx hb dX7_lineOf_19 (by decide) ?_
    have rg59 : 0 ≤ r48.toInt ∧ r48.toInt ≤ 15 := ⟨by omega, by omega⟩
    refine va_calli (va_runS (As := [.int x1, .int r48, .int 0]) (rest := [.ref (A 20)]) ⟨hx, hb, hml, hown, hts⟩ (y_X7_partAt l dC dI H.size F49 x1 r48 0 rg46 rg59 (by decide)) (cwS 3 hts (ax_gS T_1078 T_1080 T_265 T_1079) rfl rfl rfl (by decide +kernel) ⟨Nat.le_of_ble_eq_true rfl, Nat.le_of_ble_eq_true rfl⟩) ⟨fun a U g mk q => ⟨q.1, s_pc (U := U) rfl rfl q.2⟩, fun U hU hW => ⟨rfl, s_pw hU hW hP hK hD hN⟩⟩ rfl rfl hl.1 rfl (lv_room (Nat.le_of_ble_eq_true rfl)) dX7_lineOf_20 ⟨Nat.zero_le _, Nat.zero_le _⟩) hS (fun q _ h => h) (fun q h => h) (fun r61 F62 t H1 locs ht hvm hw hB hz1 hk1 hS => ?_)
    obtain ⟨hP, hK1⟩ := hB
    rw [ht] at hP
    generalize H1 = H at hP hS ⊢
    clear hz1 hk1 hvm hK1
    obtain ⟨h63, h65, hG9, h64⟩ := hw
    rw [hG9] at hP
    replace h64 : (r61.toInt = 288 + 48 * x1.toInt + 3 * r48.toInt + 0) := by have q9 := h64; exact q9
    refine th_iald hx hb hK hP (hLK _ (y_k20 hA) (by decide)) 0 o54 rfl (th_in ⟨by omega, by omega⟩) dX7_lineOf_23 ?_
    refine lv_topi (fun v66 ev66 => ?_)
    have Ev66 : v66 = y_c f4 (285 + 48 * x1.toInt + 3 * (y_c f4 (109 + 6 * x1.toInt)).toInt) := ev66.trans (y_ci (by omega))
    have tEv66 := congrArg Int32.toInt Ev66
    exact W.iret (v := v66) hx hb hr (fun t ht hW => ⟨⟨v66, F49, rfl, ⟨trivial, trivial, hI, hfr, fun k hk => (y_fiZ oY55 (s_sub (by decide) hk)).trans ((hz0 k hk).trans (y_fiZ oY0 (s_sub (by decide) hk)).symm), (by first | (rw [y_atE o2]; omega) | rw [y_atE o2])⟩, by rw [ht]; exact hP, va_K.moved hW.alike hK⟩, hS.F ht⟩) hS.2.2 dX7_lineOf_24

set_option maxHeartbeats 4000000 in
set_option maxRecDepth 100000 in
theorem y_X7_canGo (l : Launch) (dC : Nat → ClassId) (dI : Nat → Nat → Nat) (sz : Nat) {L : List Nat} {K : Nat → Nat} {cs : Nat → ClassId} (hLK : ∀ a {k : Nat}, K a = k → k ≠ 0 → a ∈ L) (A : Nat → Nat) (hA : y_A K A) (F : Nat → va_E) (a0 : Nat) (x1 : Int32) (ha0 : K a0 = 9) (hx1 : 0 ≤ x1.toInt ∧ x1.toInt ≤ 3) (hI : y_I K cs A F) (hW0 : y_W0 (y_at F (A 20)) x1.toInt) : Met l yX7_canGo (Cond.code yX7_canGo cX7_canGo 2 (some .boolean) :: T0) ({ frames := 4, cells := 0, slots := 0, locals := 89 }) (va_Pc [.ref a0, .int x1] (s_W dC dI sz L F [(cs 0, .int), (cs 1, .byte), (cs 2, .long), (cs 3, .object RX5), (cs 4, .object RX4), (cs 5, .array .int), (cs 6, .char), (cs 7, .boolean)])) (va_Qi (fun (r : Int32) (G : Nat → va_E) => (0 ≤ r.toInt ∧ r.toInt ≤ 1) ∧ True ∧ y_I K cs A G ∧ (∀ b, K b ∉ ([] : List Nat) → G b = F b) ∧ (∀ k, k ∈ ([1, 2, 3, 4, 5, 6, 7, 8, 11, 15, 16, 19, 25, 26, 27, 31, 32] : List Nat) → y_fi G a0 k = y_fi F a0 k) ∧ (r.toInt = 0 ∨ y_go (y_at F (A 20)) x1.toInt)) (fun (G : Nat → va_E) (t : State) => va_P (dC, dI) vwCl (va_pl L G) t.heap ∧ va_K (dC, dI) vwCl [(cs 0, .int), (cs 1, .byte), (cs 2, .long), (cs 3, .object RX5), (cs 4, .object RX4), (cs 5, .array .int), (cs 6, .char), (cs 7, .boolean)] t) (fun q => q ∈ L)) 0 0 (fun q => q ∈ L) := by
  refine Met.ofW (cc := cX7_canGo) (maxL := 2) (ret := (some .boolean)) (by decide) rfl ?_
  intro p e s m args below meth c s₁ B hml hv
  obtain ⟨rfl, hsz, hP, hK, hD, hN⟩ := hv
  have hx := B.exec
  have hb := B.bytes
  have hr := B.returns
  have hts : ∀ w ∈ T0, w.before _ s = true := fun w h => atoms_spec (ws := Cond.code yX7_canGo cX7_canGo 2 (some .boolean) :: T0) B.pre w (List.mem_cons_of_mem _ h)
  have hown : s.vm.findClass RX7 = some m.cls := findClass_of_methodNamed B.named
  have hlocks := B.notSynchronized
  have hS : va_S (fun q => q ∈ L) s.heap s.heap [] := va_S.rf
  have hfr : ∀ b, K b ∉ ([] : List Nat) → F b = F b := fun _ _ => rfl
  have hl := lv_entry ([.ref a0, .int x1]) (n := 2) (Nat.le_of_ble_eq_true rfl)
  rw [lg_entry_eq]
  generalize (lg_sl ([.ref a0, .int x1]) ++ List.replicate (2 - (lg_sl ([.ref a0, .int x1])).length) Slot.unset).toArray = ls at hl ⊢
  have hl : lv_has ls 2 [(0, .ref a0), (1, .int x1)] := hl
  refine s_gen hP hS (fun H locs hP hS => ?_)
  obtain ⟨z0, q0, oY0, bz0, bq0⟩ := y_opY hI ha0
  have hz0 : ∀ k, k ∈ ([1, 2, 3, 4, 5, 6, 7, 8, 11, 15, 16, 19, 25, 26, 27, 31, 32] : List Nat) → z0 k = z0 k := fun _ _ => rfl
  obtain ⟨f1, o2, b3⟩ := y_op20 hI
  replace hW0 : y_W0 f1 x1.toInt := by have q9 := hW0; rw [y_atE o2] at q9; exact q9
  refine lv_aload_n hx hb dX7_canGo_0 rfl (lv_at hl 0 rfl) ?_
  refine lv_iload_n hx hb dX7_canGo_1 rfl (lv_at hl 1 rfl) ?_
  refine lv_iconst (v := 0) hx hb dX7_canGo_2 (by decide) ?_
  have rg4 : 0 ≤ x1.toInt ∧ x1.toInt ≤ 3 := ⟨by omega, by omega⟩
  refine va_calli (va_runV (As := [.int x1, .int 0]) (rest := []) ⟨hx, hb, hml, hown, hts⟩ (y_X7_its l dC dI H.size hLK A hA F a0 x1 0 ha0 rg4 (by decide) hI) (cwV 2 hts (ax_gV T_1057 T_1059 T_1060 T_265 T_1058) rfl rfl rfl (by decide +kernel) ⟨Nat.le_of_ble_eq_true rfl, Nat.le_of_ble_eq_true rfl⟩) ⟨fun a U g mk q => ⟨q.1, s_pc (U := U) rfl rfl q.2⟩, s_recv hK hP (hLK _ ha0 (by decide)) (ci := 7) rfl oY0, fun U hU hW => ⟨rfl, s_pw hU hW hP hK hD hN⟩⟩ rfl rfl hl.1 rfl (lv_room (Nat.le_of_ble_eq_true rfl)) dX7_canGo_3 ⟨Nat.zero_le _, Nat.zero_le _⟩) hS (fun q _ h => h) (fun q h => h) (fun r6 F7 t H1 locs ht hvm hw hB hz1 hk1 hS => ?_)
  obtain ⟨hP, hK1⟩ := hB
  rw [ht] at hP
  generalize H1 = H at hP hS ⊢
  clear hz1 hk1 hvm hK1
  obtain ⟨h8, h10, hI, hfr1, hzf, h9⟩ := hw
  have o11 : F7 (A 20) = .inl (cs 0, 918, .inl f1) := (hfr1 _ (by rw [(y_k20 hA)]; decide)).trans o2
  have oY12 : F7 a0 = .inr (7, y_fl A z0 q0) := (hfr1 _ (by rw [ha0]; decide)).trans oY0
  have hfr : ∀ b, K b ∉ ([] : List Nat) → F7 b = F b := fun b hb9 => (hfr1 b (fun q => hb9 (s_sub (by decide) q))).trans (hfr b hb9)
  replace h9 : (r6 = y_c f1 (104 + 6 * x1.toInt + 0)) := by have q9 := h9; rw [y_atE o2] at q9; exact q9
  have h9 : r6 = y_c f1 (104 + 6 * x1.toInt) := h9.trans (congrArg (y_c f1) (by omega))
  have h13 := congrArg Int32.toInt h9
  refine lv_aload_n hx hb dX7_canGo_6 rfl (lv_at hl 0 rfl) ?_
  refine th_get (D := (dC, dI)) (ci := 7) (v := .ref (A 20)) (C := RX7) (T := TX7) (N := 34) hx hb hts inX7 hown hK hP (hLK _ ha0 (by decide)) oY12 rfl 20 (by decide) (hts _ T_251) (fun _ h9 => h9) rfl dX7_canGo_7 ?_
  refine lv_iconst (v := 0) hx hb dX7_canGo_10 (by decide) ?_
  refine th_iald hx hb hK hP (hLK _ (y_k20 hA) (by decide)) 0 o11 rfl (ax_in (by decide)) dX7_canGo_11 ?_
  refine lv_topi (fun v14 ev14 => ?_)
  refine lv_icmp_gt (tgt := 27) hx hb dX7_canGo_12 (by decide) (fun c15 => ?_) (fun c15 => ?_)
  · have c15 := Int32.lt_iff_toInt_lt.mp c15
    refine lv_iconst (v := 0) hx hb dX7_canGo_27 (by decide) ?_
    have h16 : (0 : Int32).toInt = 0 := by decide
    exact W.zret (v := 0) (ty := .boolean) hx hb hr (by decide) (fun t ht hW => ⟨⟨0, F7, rfl, ⟨(by decide), trivial, hI, hfr, fun k hk => (y_fiZ oY12 (s_sub (by decide) hk)).trans ((hz0 k hk).trans (y_fiZ oY0 (s_sub (by decide) hk)).symm), (by rw [y_atE o2]; exact Or.inl (by decide))⟩, by rw [ht]; exact hP, va_K.moved hW.alike hK⟩, hS.F ht⟩) hS.2.2 dX7_canGo_28
  · have c15 := mt Int32.lt_iff_toInt_lt.mpr c15
    refine lv_aload_n hx hb dX7_canGo_15 rfl (lv_at hl 0 rfl) ?_
    refine lv_iload_n hx hb dX7_canGo_16 rfl (lv_at hl 1 rfl) ?_
    refine va_calli (va_runV (As := [.int x1]) (rest := []) ⟨hx, hb, hml, hown, hts⟩ (y_X7_together l dC dI H.size hLK A hA F7 a0 x1 ha0 rg4 hI (by rw [y_atE o11]; exact hW0)) (cwV 1 hts (ax_gV T_1061 T_1063 T_1064 T_265 T_1062) rfl rfl rfl (by decide +kernel) ⟨Nat.le_of_ble_eq_true rfl, Nat.le_of_ble_eq_true rfl⟩) ⟨fun a U g mk q => ⟨q.1, s_pc (U := U) rfl rfl q.2⟩, s_recv hK hP (hLK _ ha0 (by decide)) (ci := 7) rfl oY12, fun U hU hW => ⟨rfl, s_pw hU hW hP hK hD hN⟩⟩ rfl rfl hl.1 rfl (lv_room (Nat.le_of_ble_eq_true rfl)) dX7_canGo_17 ⟨Nat.zero_le _, Nat.zero_le _⟩) hS (fun q _ h => h) (fun q h => h) (fun r18 F19 t H1 locs ht hvm hw hB hz1 hk1 hS => ?_)
    obtain ⟨hP, hK1⟩ := hB
    rw [ht] at hP
    generalize H1 = H at hP hS ⊢
    clear hz1 hk1 hvm hK1
    obtain ⟨h20, h22, hI, hfr1, hzf, h21⟩ := hw
    have o23 : F19 (A 20) = .inl (cs 0, 918, .inl f1) := (hfr1 _ (by rw [(y_k20 hA)]; decide)).trans o11
    have oY24 : F19 a0 = .inr (7, y_fl A z0 q0) := (hfr1 _ (by rw [ha0]; decide)).trans oY12
    have hfr : ∀ b, K b ∉ ([] : List Nat) → F19 b = F b := fun b hb9 => (hfr1 b (fun q => hb9 (s_sub (by decide) q))).trans (hfr b hb9)
    replace h21 : (y_TG f1 x1.toInt r18) := by have q9 := h21; rw [y_atE o11] at q9; exact q9
    refine lv_if_eq (tgt := 27) hx hb dX7_canGo_20 (by decide) (fun c25 => ?_) (fun c25 => ?_)
    · have c25 := (ax_eq (n := 0) (by decide)).mp c25
      refine lv_iconst (v := 0) hx hb dX7_canGo_27 (by decide) ?_
      have h26 : (0 : Int32).toInt = 0 := by decide
      exact W.zret (v := 0) (ty := .boolean) hx hb hr (by decide) (fun t ht hW => ⟨⟨0, F19, rfl, ⟨(by decide), trivial, hI, hfr, fun k hk => (y_fiZ oY24 (s_sub (by decide) hk)).trans ((hz0 k hk).trans (y_fiZ oY0 (s_sub (by decide) hk)).symm), (by rw [y_atE o2]; exact Or.inl (by decide))⟩, by rw [ht]; exact hP, va_K.moved hW.alike hK⟩, hS.F ht⟩) hS.2.2 dX7_canGo_28
    · have c25 := mt (ax_eq (n := 0) (by decide)).mpr c25
      refine lv_iconst (v := 1) hx hb dX7_canGo_23 (by decide) ?_
      refine lv_goto (tgt := 28) hx hb dX7_canGo_24 (by decide) ?_
      have h27 : (1 : Int32).toInt = 1 := by decide
      exact W.zret (v := 1) (ty := .boolean) hx hb hr (by decide) (fun t ht hW => ⟨⟨1, F19, rfl, ⟨(by decide), trivial, hI, hfr, fun k hk => (y_fiZ oY24 (s_sub (by decide) hk)).trans ((hz0 k hk).trans (y_fiZ oY0 (s_sub (by decide) hk)).symm), (by rw [y_atE o2]; exact Or.inr (h21.2.2.2.mp (y_nz32 c25)))⟩, by rw [ht]; exact hP, va_K.moved hW.alike hK⟩, hS.F ht⟩) hS.2.2 dX7_canGo_28
