set_option maxHeartbeats 4000000 in
set_option maxRecDepth 100000 in
theorem yt_X7_works (l : Launch) (dC : Nat → ClassId) (dI : Nat → Nat → Nat) (sz : Nat) {L : List Nat} {K : Nat → Nat} {cs : Nat → ClassId} (hLK : ∀ a {k : Nat}, K a = k → k ≠ 0 → a ∈ L) (A : Nat → Nat) (hA : y_A K A) (F : Nat → va_E) (a0 : Nat) (x1 : Int32) (x2 : Int32) (x3 : Int32) (ha0 : K a0 = 9) (hx1 : 0 ≤ x1.toInt ∧ x1.toInt ≤ 3) (hx2 : 0 ≤ x2.toInt ∧ x2.toInt ≤ 39) (hI : y_I K cs A F) (hPG : y_PG (y_at F (A 13))) (hln : (x2.toInt < (y_c (y_at F (A 13)) 387).toInt)) : Met l yX7_works (Cond.code yX7_works cX7_works 11 none :: T0) ({ frames := 2, cells := 0, slots := 0, locals := 46 }) (va_Pc [.ref a0, .int x1, .int x2, .int x3] (s_W dC dI sz L F [(cs 0, .int), (cs 1, .byte), (cs 2, .long), (cs 3, .object RX5), (cs 4, .object RX4), (cs 5, .array .int), (cs 6, .char), (cs 7, .boolean)])) (va_Qv (fun (G : Nat → va_E) => True ∧ True ∧ y_I K cs A G ∧ (∀ b, K b ∉ [70] → G b = F b) ∧ (∀ k, k ∈ ([1, 2, 3, 4, 5, 6, 7, 8, 11, 15, 16, 19, 25, 26, 27, 31, 32] : List Nat) → y_fi G a0 k = y_fi F a0 k) ∧ (y_E6 (y_at F (A 20)) (y_at G (A 20)))) (fun (G : Nat → va_E) (t : State) => va_P (dC, dI) vwCl (va_pl L G) t.heap ∧ va_K (dC, dI) vwCl [(cs 0, .int), (cs 1, .byte), (cs 2, .long), (cs 3, .object RX5), (cs 4, .object RX4), (cs 5, .array .int), (cs 6, .char), (cs 7, .boolean)] t) (fun q => q ∈ L)) 0 0 (fun q => q ∈ L) := by
  refine Met.ofW (cc := cX7_works) (maxL := 11) (ret := none) (by decide) rfl ?_
  intro p e s m args below meth c s₁ B hml hv
  obtain ⟨rfl, hsz, hP, hK, hD, hN⟩ := hv
  have hx := B.exec
  have hb := B.bytes
  have hr := B.returns
  have hts : ∀ w ∈ T0, w.before _ s = true := fun w h => atoms_spec (ws := Cond.code yX7_works cX7_works 11 none :: T0) B.pre w (List.mem_cons_of_mem _ h)
  have hown : s.vm.findClass RX7 = some m.cls := findClass_of_methodNamed B.named
  have hlocks := B.notSynchronized
  have hS : va_S (fun q => q ∈ L) s.heap s.heap [] := va_S.rf
  have hfr : ∀ b, K b ∉ [70] → F b = F b := fun _ _ => rfl
  have hl := lv_entry ([.ref a0, .int x1, .int x2, .int x3]) (n := 11) (Nat.le_of_ble_eq_true rfl)
  rw [lg_entry_eq]
  generalize (lg_sl ([.ref a0, .int x1, .int x2, .int x3]) ++ List.replicate (11 - (lg_sl ([.ref a0, .int x1, .int x2, .int x3])).length) Slot.unset).toArray = ls at hl ⊢
  have hl : lv_has ls 11 [(0, .ref a0), (1, .int x1), (2, .int x2), (3, .int x3)] := hl
  refine s_gen hP hS (fun H locs hP hS => ?_)
  obtain ⟨z0, q0, oY0, bz0, bq0⟩ := y_opY hI ha0
  have hz0 : ∀ k, k ∈ ([1, 2, 3, 4, 5, 6, 7, 8, 11, 15, 16, 19, 25, 26, 27, 31, 32] : List Nat) → z0 k = z0 k := fun _ _ => rfl
  obtain ⟨f1, o2, b3⟩ := y_op13 hI
  obtain ⟨f4, o5, b6⟩ := y_op20 hI
  have hPG : y_PG f1 := by have q9 := hPG; rw [y_atE o2] at q9; exact q9
  have hln : (x2.toInt < (y_c f1 387).toInt) := by have q9 := hln; rw [y_atE o2] at q9; exact q9
  have hL := y_P0L hPG.1
  have hW := y_P0W hPG.1
  have hrg := hPG.1.1.1 x2.toInt (by omega) (by omega)
  unfold y_rg at hrg
  refine lv_aload_n hx hb dX7_works_0 rfl (lv_at hl 0 rfl) ?_
  refine lv_iload_n hx hb dX7_works_1 rfl (lv_at hl 2 rfl) ?_
  refine lv_iconst (v := 0) hx hb dX7_works_2 (by decide) ?_
  refine va_calli (va_runV (As := [.int x2, .int 0]) (rest := []) ⟨hx, hb, hml, hown, hts⟩ (y_X7_of l dC dI H.size hLK A hA F a0 x2 0 ha0 (⟨by omega, by omega⟩) (by decide) hI) (cwV 2 hts (ax_gV T_1131 T_1133 T_1134 T_265 T_1132) rfl rfl rfl (by decide +kernel) ⟨Nat.le_of_ble_eq_true rfl, Nat.le_of_ble_eq_true rfl⟩) ⟨fun a U g mk q => ⟨q.1, s_pc rfl rfl q.2⟩, s_recv hK hP (hLK _ ha0 (by decide)) (ci := 7) rfl oY0, fun U hU hW => ⟨rfl, s_pw hU hW hP hK hD hN⟩⟩ rfl rfl hl.1 rfl (lv_room (Nat.le_of_ble_eq_true rfl)) dX7_works_3 ⟨Nat.zero_le _, Nat.zero_le _⟩) hS (fun q _ h => h) (fun q h => h) (fun r8 F9 t H1 locs ht hvm hw hB hz1 hk1 hS => ?_)
  obtain ⟨hP, hK1⟩ := hB
  rw [ht] at hP
  generalize H1 = H at hP hS ⊢
  obtain ⟨h10, h12, hI, hfr1, hzf, h11⟩ := hw
  have o13 : F9 (A 13) = .inl (cs 0, 400, .inl f1) := (hfr1 _ (by rw [(y_k13 hA)]; decide)).trans o2
  have o14 : F9 (A 20) = .inl (cs 0, 918, .inl f4) := (hfr1 _ (by rw [(y_k20 hA)]; decide)).trans o5
  have oY15 : F9 a0 = .inr (7, y_fl A z0 q0) := (hfr1 _ (by rw [ha0]; decide)).trans oY0
  have hfr : ∀ b, K b ∉ [70] → F9 b = F b := fun b hb9 => (hfr1 b (fun q => hb9 (s_sub (by decide) q))).trans (hfr b hb9)
  have h11 : (r8 = y_c f1 (8 * x2.toInt + 0)) := by have q9 := h11; rw [y_atE o2] at q9; exact q9
  have h11 : r8 = y_c f1 (8 * x2.toInt) := h11.trans (congrArg (y_c f1) (by omega))
  have h16 := congrArg Int32.toInt h11
  have h17 : 0 ≤ r8.toInt ∧ r8.toInt ≤ 15 := by have q9 := congrArg Int32.toInt h11; exact ⟨by omega, by omega⟩
  refine lv_istore (lv' := [(4, .int r8), (0, .ref a0), (1, .int x1), (2, .int x2), (3, .int x3)]) hx hb dX7_works_6 hl (by decide) rfl (fun ls hl => ?_)
  refine lv_iconst (v := 0) hx hb dX7_works_8 (by decide) ?_
  refine lv_istore (lv' := [(5, .int 0), (4, .int r8), (0, .ref a0), (1, .int x1), (2, .int x2), (3, .int x3)]) hx hb dX7_works_9 hl (by decide) rfl (fun ls hl => ?_)
  have h19 : (0 : Int32).toInt = 0 := by decide
  refine th_loop (fun n g H locs => ∃ (G : Nat → va_E) (ls : Array Slot) (w18 : Int32), g = F0 m 11 ls [] ∧ lv_has ls 11 [(0, .ref a0), (1, .int x1), (2, .int x2), (3, .int x3), (4, .int r8), (5, .int w18)] ∧ va_P (dC, dI) vwCl (va_pl L G) H ∧ va_S (fun q => q ∈ L) s.heap H locs ∧ y_I K cs A G ∧ (∀ b, K b ∉ [70] → G b = F b) ∧ (∀ k, k ∈ ([1, 2, 3, 4, 5, 6, 7, 8, 11, 15, 16, 19, 25, 26, 27, 31, 32] : List Nat) → y_fi G a0 k = z0 k) ∧ (0 ≤ w18.toInt ∧ w18.toInt ≤ 8) ∧ (0 ≤ x1.toInt ∧ x1.toInt ≤ 3) ∧ (0 ≤ x2.toInt ∧ x2.toInt ≤ 39) ∧ (0 ≤ r8.toInt ∧ r8.toInt ≤ 15) ∧ (y_E6 f4 (y_at G (A 20))) ∧ n = (9 - w18.toInt).toNat) _ ⟨F9, _, 0, rfl, lv_sub hl [2, 3, 4, 5, 1, 0] rfl, hP, hS, hI, hfr, (fun k hk => (y_fiZ oY15 (s_sub (by decide) hk)).trans (hz0 k hk)), (by decide), ⟨by omega, by omega⟩, ⟨by omega, by omega⟩, ⟨by omega, by omega⟩, (by rw [y_atE o14]; exact (y_E6_r _)), rfl⟩ (fun n ih11 g H locs hq => ?_)
  obtain ⟨F25, ls, w18, rfl, hl, hP, hS, hI, hfr, hz0, h20, h21, h22, h23, h24, hn⟩ := hq
  have o26 : F25 (A 13) = .inl (cs 0, 400, .inl f1) := (hfr _ (by rw [(y_k13 hA)]; decide)).trans o2
  have oY27 : F25 a0 = .inr (7, y_fl A z0 q0) := (hfr _ (by rw [ha0]; decide)).trans oY0
  have hz0 : ∀ k, k ∈ ([1, 2, 3, 4, 5, 6, 7, 8, 11, 15, 16, 19, 25, 26, 27, 31, 32] : List Nat) → z0 k = z0 k := fun _ _ => rfl
  obtain ⟨f28, o29, b30⟩ := y_op20 hI
  have h24 : (y_E6 f4 f28) := by have q9 := h24; rw [y_atE o29] at q9; exact q9
  have hn_30 := hn
  refine th_join (fun g H locs => ∃ (G : Nat → va_E) (ls : Array Slot), g = F0 m 360 ls [] ∧ lv_has ls 11 [(0, .ref a0), (1, .int x1), (2, .int x2), (3, .int x3), (4, .int r8), (5, .int w18)] ∧ va_P (dC, dI) vwCl (va_pl L G) H ∧ va_S (fun q => q ∈ L) s.heap H locs ∧ y_I K cs A G ∧ (∀ b, K b ∉ [70] → G b = F b) ∧ (∀ k, k ∈ ([1, 2, 3, 4, 5, 6, 7, 8, 11, 15, 16, 19, 25, 26, 27, 31, 32] : List Nat) → y_fi G a0 k = z0 k) ∧ (0 ≤ x1.toInt ∧ x1.toInt ≤ 3) ∧ (0 ≤ x2.toInt ∧ x2.toInt ≤ 39) ∧ (0 ≤ r8.toInt ∧ r8.toInt ≤ 15) ∧ (0 ≤ w18.toInt ∧ w18.toInt ≤ 7) ∧ (y_E6 f4 (y_at G (A 20)))) (fun K360 => ?_) ?_
  refine th_join (fun g H locs => ∃ (G : Nat → va_E) (ls : Array Slot) (w31 : Int32) (w32 : Int32) (w33 : Int32), g = F0 m 60 ls [.int w31, .int w32, .int w33] ∧ lv_has ls 11 [(0, .ref a0), (1, .int x1), (2, .int x2), (3, .int x3), (4, .int r8), (5, .int w18)] ∧ va_P (dC, dI) vwCl (va_pl L G) H ∧ va_S (fun q => q ∈ L) s.heap H locs ∧ y_I K cs A G ∧ (∀ b, K b ∉ [70] → G b = F b) ∧ (∀ k, k ∈ ([1, 2, 3, 4, 5, 6, 7, 8, 11, 15, 16, 19, 25, 26, 27, 31, 32] : List Nat) → y_fi G a0 k = z0 k) ∧ (0 ≤ w31.toInt ∧ w31.toInt ≤ 3) ∧ (0 ≤ w32.toInt ∧ w32.toInt ≤ 7) ∧ (0 ≤ w33.toInt ∧ w33.toInt ≤ 3) ∧ (0 ≤ x1.toInt ∧ x1.toInt ≤ 3) ∧ (0 ≤ x2.toInt ∧ x2.toInt ≤ 39) ∧ (0 ≤ r8.toInt ∧ r8.toInt ≤ 15) ∧ (0 ≤ w18.toInt ∧ w18.toInt ≤ 7) ∧ (y_E6 f4 (y_at G (A 20)))) (fun K60 => ?_) ?_
  · refine lv_iload hx hb dX7_works_11 (lv_at hl 5 rfl) ?_
    refine lv_bipush (v := 8) hx hb dX7_works_13 (by decide) ?_
    refine lv_icmp_ge (tgt := 366) hx hb dX7_works_15 (by decide) (fun c34 => ?_) (fun c34 => ?_)
    · have c34 := (ax_ge (n := 8) (by decide)).mp c34
      exact W.vret hx hb hr (fun t ht hW => ⟨⟨F25, rfl, ⟨trivial, trivial, hI, hfr, fun k hk => (y_fiZ oY27 (s_sub (by decide) hk)).trans ((hz0 k hk).trans (y_fiZ oY0 (s_sub (by decide) hk)).symm), (by rw [y_atE o5, y_atE o29]; exact h24)⟩, by rw [ht]; exact hP, va_K.moved hW.alike hK⟩, hS.F ht⟩) hS.2.2 dX7_works_366
    · have c34 := mt (ax_ge (n := 8) (by decide)).mpr c34
      refine lv_iload_n hx hb dX7_works_18 rfl (lv_at hl 3 rfl) ?_
      refine lv_iload hx hb dX7_works_19 (lv_at hl 5 rfl) ?_
      refine va_calli (va_runS (As := [.int x3, .int w18]) (rest := []) ⟨hx, hb, hml, hown, hts⟩ (y_X7_isOf l dC dI H.size F25 x3 w18 (⟨by omega, by omega⟩)) (cwS 2 hts (ax_gS T_1027 T_1029 T_265 T_1028) rfl rfl rfl (by decide +kernel) ⟨Nat.le_of_ble_eq_true rfl, Nat.le_of_ble_eq_true rfl⟩) ⟨fun a U g mk q => ⟨q.1, s_pc rfl rfl q.2⟩, fun U hU hW => ⟨rfl, s_pw hU hW hP hK hD hN⟩⟩ rfl rfl hl.1 rfl (lv_room (Nat.le_of_ble_eq_true rfl)) dX7_works_21 ⟨Nat.zero_le _, Nat.zero_le _⟩) hS (fun q _ h => h) (fun q h => h) (fun r36 F37 t H1 locs ht hvm hw hB hz1 hk1 hS => ?_)
      obtain ⟨hP, hK1⟩ := hB
      rw [ht] at hP
      generalize H1 = H at hP hS ⊢
      obtain ⟨h38, h40, hG9, h39⟩ := hw
      rw [hG9] at hP
      have h39 : ((r36.toInt = 1 ∧ bt x3 w18.toInt.toNat = true) ∨ (r36.toInt = 0 ∧ bt x3 w18.toInt.toNat = false)) := by have q9 := h39; exact q9
      refine lv_if_ne (tgt := 30) hx hb dX7_works_24 (by decide) (fun c41 => ?_) (fun c41 => ?_)
      · have c41 := mt (ax_eq (n := 0) (by decide)).mpr c41
        refine lv_iload_n hx hb dX7_works_30 rfl (lv_at hl 1 rfl) ?_
        refine lv_iload hx hb dX7_works_31 (lv_at hl 5 rfl) ?_
        refine lv_aload_n hx hb dX7_works_33 rfl (lv_at hl 0 rfl) ?_
        refine lv_iload_n hx hb dX7_works_34 rfl (lv_at hl 2 rfl) ?_
        refine lv_iconst (v := 1) hx hb dX7_works_35 (by decide) ?_
        refine va_calli (va_runV (As := [.int x2, .int 1]) (rest := [.int w18, .int x1]) ⟨hx, hb, hml, hown, hts⟩ (y_X7_of l dC dI H.size hLK A hA F25 a0 x2 1 ha0 (⟨by omega, by omega⟩) (by decide) hI) (cwV 2 hts (ax_gV T_1131 T_1133 T_1134 T_265 T_1132) rfl rfl rfl (by decide +kernel) ⟨Nat.le_of_ble_eq_true rfl, Nat.le_of_ble_eq_true rfl⟩) ⟨fun a U g mk q => ⟨q.1, s_pc rfl rfl q.2⟩, s_recv hK hP (hLK _ ha0 (by decide)) (ci := 7) rfl oY27, fun U hU hW => ⟨rfl, s_pw hU hW hP hK hD hN⟩⟩ rfl rfl hl.1 rfl (lv_room (Nat.le_of_ble_eq_true rfl)) dX7_works_36 ⟨Nat.zero_le _, Nat.zero_le _⟩) hS (fun q _ h => h) (fun q h => h) (fun r43 F44 t H1 locs ht hvm hw hB hz1 hk1 hS => ?_)
        obtain ⟨hP, hK1⟩ := hB
        rw [ht] at hP
        generalize H1 = H at hP hS ⊢
        obtain ⟨h45, h47, hI, hfr1, hzf, h46⟩ := hw
        have o48 : F44 (A 13) = .inl (cs 0, 400, .inl f1) := (hfr1 _ (by rw [(y_k13 hA)]; decide)).trans o26
        have o49 : F44 (A 20) = .inl (cs 0, 918, .inl f28) := (hfr1 _ (by rw [(y_k20 hA)]; decide)).trans o29
        have oY50 : F44 a0 = .inr (7, y_fl A z0 q0) := (hfr1 _ (by rw [ha0]; decide)).trans oY27
        have hfr : ∀ b, K b ∉ [70] → F44 b = F b := fun b hb9 => (hfr1 b (fun q => hb9 (s_sub (by decide) q))).trans (hfr b hb9)
        have h46 : (r43 = y_c f1 (8 * x2.toInt + 1)) := by have q9 := h46; rw [y_atE o26] at q9; exact q9
        have h46 : r43 = y_c f1 (8 * x2.toInt + 1) := h46.trans (congrArg (y_c f1) (by omega))
        have h51 := congrArg Int32.toInt h46
        refine lv_i2l hx hb dX7_works_39 rfl ?_
        refine lv_topl (fun v52 ev52 => ?_)
        have qv52 : v52.toInt = r43.toInt := y_i2l ev52
        refine lv_lconst (v := 0) hx hb dX7_works_40 (by decide) ?_
        refine lv_ldc2 hx hb hown (hts _ T_1238) dX7_works_41 ?_
        refine va_calli (va_runS (As := [.long v52, .long 0, .long 3]) (rest := [.int w18, .int x1]) ⟨hx, hb, hml, hown, hts⟩ (y_X7_isIn l dC dI H.size F44 v52 0 3) (cwS 3 hts (ax_gS T_267 T_268 T_265 T_21) rfl rfl rfl (by decide +kernel) ⟨Nat.le_of_ble_eq_true rfl, Nat.le_of_ble_eq_true rfl⟩) ⟨fun a U g mk q => ⟨q.1, s_pc rfl rfl q.2⟩, fun U hU hW => ⟨rfl, s_pw hU hW hP hK hD hN⟩⟩ rfl rfl hl.1 rfl (lv_room (Nat.le_of_ble_eq_true rfl)) dX7_works_44 ⟨Nat.zero_le _, Nat.zero_le _⟩) hS (fun q _ h => h) (fun q h => h) (fun r54 F55 t H1 locs ht hvm hw hB hz1 hk1 hS => ?_)
        obtain ⟨hP, hK1⟩ := hB
        rw [ht] at hP
        generalize H1 = H at hP hS ⊢
        obtain ⟨h56, h58, hG9, h57⟩ := hw
        rw [hG9] at hP
        have h57 : ((r54.toInt = 0 ∧ (v52.toInt < 0 ∨ 3 < v52.toInt)) ∨ (r54.toInt = 1 ∧ 0 ≤ v52.toInt ∧ v52.toInt ≤ 3)) := by have q9 := h57; exact q9
        refine lv_if_eq (tgt := 59) hx hb dX7_works_47 (by decide) (fun c59 => ?_) (fun c59 => ?_)
        · have c59 := (ax_eq (n := 0) (by decide)).mp c59
          refine lv_iconst (v := 0) hx hb dX7_works_59 (by decide) ?_
          have h60 : (0 : Int32).toInt = 0 := by decide
          exact K60 _ _ _ ⟨F44, _, 0, w18, x1, rfl, lv_sub hl [0, 1, 2, 3, 4, 5] rfl, hP, hS, hI, hfr, (fun k hk => (y_fiZ oY50 (s_sub (by decide) hk)).trans (hz0 k hk)), (by decide), ⟨by omega, by omega⟩, ⟨by omega, by omega⟩, ⟨by omega, by omega⟩, ⟨by omega, by omega⟩, ⟨by omega, by omega⟩, ⟨by omega, by omega⟩, (by rw [y_atE o49]; exact h24)⟩
        · have c59 := mt (ax_eq (n := 0) (by decide)).mpr c59
          refine lv_aload_n hx hb dX7_works_50 rfl (lv_at hl 0 rfl) ?_
          refine lv_iload_n hx hb dX7_works_51 rfl (lv_at hl 2 rfl) ?_
          refine lv_iconst (v := 1) hx hb dX7_works_52 (by decide) ?_
          refine va_calli (va_runV (As := [.int x2, .int 1]) (rest := [.int w18, .int x1]) ⟨hx, hb, hml, hown, hts⟩ (y_X7_of l dC dI H.size hLK A hA F44 a0 x2 1 ha0 (⟨by omega, by omega⟩) (by decide) hI) (cwV 2 hts (ax_gV T_1131 T_1133 T_1134 T_265 T_1132) rfl rfl rfl (by decide +kernel) ⟨Nat.le_of_ble_eq_true rfl, Nat.le_of_ble_eq_true rfl⟩) ⟨fun a U g mk q => ⟨q.1, s_pc rfl rfl q.2⟩, s_recv hK hP (hLK _ ha0 (by decide)) (ci := 7) rfl oY50, fun U hU hW => ⟨rfl, s_pw hU hW hP hK hD hN⟩⟩ rfl rfl hl.1 rfl (lv_room (Nat.le_of_ble_eq_true rfl)) dX7_works_53 ⟨Nat.zero_le _, Nat.zero_le _⟩) hS (fun q _ h => h) (fun q h => h) (fun r62 F63 t H1 locs ht hvm hw hB hz1 hk1 hS => ?_)
          obtain ⟨hP, hK1⟩ := hB
          rw [ht] at hP
          generalize H1 = H at hP hS ⊢
          obtain ⟨h64, h66, hI, hfr1, hzf, h65⟩ := hw
          have o67 : F63 (A 13) = .inl (cs 0, 400, .inl f1) := (hfr1 _ (by rw [(y_k13 hA)]; decide)).trans o48
          have o68 : F63 (A 20) = .inl (cs 0, 918, .inl f28) := (hfr1 _ (by rw [(y_k20 hA)]; decide)).trans o49
          have oY69 : F63 a0 = .inr (7, y_fl A z0 q0) := (hfr1 _ (by rw [ha0]; decide)).trans oY50
          have hfr : ∀ b, K b ∉ [70] → F63 b = F b := fun b hb9 => (hfr1 b (fun q => hb9 (s_sub (by decide) q))).trans (hfr b hb9)
          have h65 : (r62 = y_c f1 (8 * x2.toInt + 1)) := by have q9 := h65; rw [y_atE o48] at q9; exact q9
          have h65 : r62 = y_c f1 (8 * x2.toInt + 1) := h65.trans (congrArg (y_c f1) (by omega))
          have h70 := congrArg Int32.toInt h65
          have h71 : 0 ≤ r62.toInt ∧ r62.toInt ≤ 3 := by have q8 := h46; have q9 := h65; have q7 := congrArg Int32.toInt (q9.trans q8.symm); exact ⟨by omega, by omega⟩
          refine lv_goto (tgt := 60) hx hb dX7_works_56 (by decide) ?_
          exact K60 _ _ _ ⟨F63, _, r62, w18, x1, rfl, lv_sub hl [0, 1, 2, 3, 4, 5] rfl, hP, hS, hI, hfr, (fun k hk => (y_fiZ oY69 (s_sub (by decide) hk)).trans (hz0 k hk)), ⟨by omega, by omega⟩, ⟨by omega, by omega⟩, ⟨by omega, by omega⟩, ⟨by omega, by omega⟩, ⟨by omega, by omega⟩, ⟨by omega, by omega⟩, ⟨by omega, by omega⟩, (by rw [y_atE o68]; exact h24)⟩
      · have c41 := (ax_eq (n := 0) (by decide)).mp c41
        refine lv_goto (tgt := 360) hx hb dX7_works_27 (by decide) ?_
        exact K360 _ _ _ ⟨F25, _, rfl, lv_sub hl [0, 1, 2, 3, 4, 5] rfl, hP, hS, hI, hfr, (fun k hk => (y_fiZ oY27 (s_sub (by decide) hk)).trans (hz0 k hk)), ⟨by omega, by omega⟩, ⟨by omega, by omega⟩, ⟨by omega, by omega⟩, ⟨by omega, by omega⟩, (by rw [y_atE o29]; exact h24)⟩
  · intro g H locs hq
    obtain ⟨F80, ls, w31, w32, w33, rfl, hl, hP, hS, hI, hfr, hz0, h72, h73, h74, h75, h76, h77, h78, h79⟩ := hq
    have o81 : F80 (A 13) = .inl (cs 0, 400, .inl f1) := (hfr _ (by rw [(y_k13 hA)]; decide)).trans o2
    have oY82 : F80 a0 = .inr (7, y_fl A z0 q0) := (hfr _ (by rw [ha0]; decide)).trans oY0
    have hz0 : ∀ k, k ∈ ([1, 2, 3, 4, 5, 6, 7, 8, 11, 15, 16, 19, 25, 26, 27, 31, 32] : List Nat) → z0 k = z0 k := fun _ _ => rfl
    obtain ⟨f83, o84, b85⟩ := y_op20 hI
    have h79 : (y_E6 f4 f83) := by have q9 := h79; rw [y_atE o84] at q9; exact q9
    refine va_calli (va_runS (As := [.int w33, .int w32, .int w31]) (rest := []) ⟨hx, hb, hml, hown, hts⟩ (y_X7_registerAt l dC dI H.size F80 w33 w32 w31 (⟨by omega, by omega⟩) (⟨by omega, by omega⟩) (⟨by omega, by omega⟩)) (cwS 3 hts (ax_gS T_1095 T_1097 T_265 T_1096) rfl rfl rfl (by decide +kernel) ⟨Nat.le_of_ble_eq_true rfl, Nat.le_of_ble_eq_true rfl⟩) ⟨fun a U g mk q => ⟨q.1, s_pc rfl rfl q.2⟩, fun U hU hW => ⟨rfl, s_pw hU hW hP hK hD hN⟩⟩ rfl rfl hl.1 rfl (lv_room (Nat.le_of_ble_eq_true rfl)) dX7_works_60 ⟨Nat.zero_le _, Nat.zero_le _⟩) hS (fun q _ h => h) (fun q h => h) (fun r87 F88 t H1 locs ht hvm hw hB hz1 hk1 hS => ?_)
    obtain ⟨hP, hK1⟩ := hB
    rw [ht] at hP
    generalize H1 = H at hP hS ⊢
    obtain ⟨h89, h91, hG9, h90⟩ := hw
    rw [hG9] at hP
    have h90 : (r87.toInt = 128 + 32 * w33.toInt + 4 * w32.toInt + w31.toInt) := by have q9 := h90; exact q9
    refine lv_istore (lv' := [(6, .int r87), (0, .ref a0), (1, .int x1), (2, .int x2), (3, .int x3), (4, .int r8), (5, .int w18)]) hx hb dX7_works_63 hl (by decide) rfl (fun ls hl => ?_)
    refine lv_bipush (v := 8) hx hb dX7_works_65 (by decide) ?_
    refine lv_iload_n hx hb dX7_works_67 rfl (lv_at hl 2 rfl) ?_
    refine lv_imul hx hb dX7_works_68 ?_
    refine lv_topi (fun v92 ev92 => ?_)
    have qv92 : v92.toInt = 8 * x1.toInt := by rw [ev92]; exact th_mul (by decide) rfl ⟨by omega, by omega⟩
    refine lv_iload hx hb dX7_works_69 (lv_at hl 6 rfl) ?_
    refine lv_iadd hx hb dX7_works_71 ?_
    refine lv_topi (fun v93 ev93 => ?_)
    have qv93 : v93.toInt = v92.toInt + w18.toInt := by rw [ev93]; exact th_add rfl rfl ⟨by omega, by omega⟩
    refine lv_istore (lv' := [(7, .int v93), (6, .int r87), (0, .ref a0), (1, .int x1), (2, .int x2), (3, .int x3), (4, .int r8), (5, .int w18)]) hx hb dX7_works_72 hl (by decide) rfl (fun ls hl => ?_)
    refine lv_aload_n hx hb dX7_works_74 rfl (lv_at hl 2 rfl) ?_
    refine th_get (D := (dC, dI)) (ci := 7) (v := .ref (A 21)) (C := RX7) (T := TX7) (N := 34) hx hb hts inX7 hown hK hP (hLK _ ha0 (by decide)) oY82 rfl 21 (by decide) (hts _ T_252) (fun _ h9 => h9) rfl dX7_works_75 ?_
    refine lv_iload hx hb dX7_works_78 (lv_at hl 7 rfl) ?_
    obtain ⟨f94, o95, b96⟩ := y_op21 hI
    refine th_iald hx hb hK hP (hLK _ (y_k21 hA) (by decide)) 0 o95 rfl (th_in ⟨by omega, by omega⟩) dX7_works_80 ?_
    refine lv_topi (fun v97 ev97 => ?_)
    refine lv_i2l hx hb dX7_works_81 rfl ?_
    refine lv_topl (fun v98 ev98 => ?_)
    have qv98 : v98.toInt = v97.toInt := y_i2l ev98
    refine lv_bipush (v := 64) hx hb dX7_works_82 (by decide) ?_
    refine va_calli (va_runS (As := [.long v98, .int 64]) (rest := []) ⟨hx, hb, hml, hown, hts⟩ (y_X7_modulo l dC dI H.size F80 v98 64 (by decide)) (cwS 2 hts (ax_gS T_1204 T_1206 T_265 T_1205) rfl rfl rfl (by decide +kernel) ⟨Nat.le_of_ble_eq_true rfl, Nat.le_of_ble_eq_true rfl⟩) ⟨fun a U g mk q => ⟨q.1, s_pc rfl rfl q.2⟩, fun U hU hW => ⟨rfl, s_pw hU hW hP hK hD hN⟩⟩ rfl rfl hl.1 rfl (lv_room (Nat.le_of_ble_eq_true rfl)) dX7_works_84 ⟨Nat.zero_le _, Nat.zero_le _⟩) hS (fun q _ h => h) (fun q h => h) (fun r100 F101 t H1 locs ht hvm hw hB hz1 hk1 hS => ?_)
    obtain ⟨hP, hK1⟩ := hB
    rw [ht] at hP
    generalize H1 = H at hP hS ⊢
    obtain ⟨h102, h104, hG9, h103⟩ := hw
    rw [hG9] at hP
    have h103 : (0 ≤ r100.toInt ∧ r100.toInt < 64) := by have q9 := h103; exact q9
    refine lv_istore (lv' := [(8, .int r100), (7, .int v93), (6, .int r87), (0, .ref a0), (1, .int x1), (2, .int x2), (3, .int x3), (4, .int r8), (5, .int w18)]) hx hb dX7_works_87 hl (by decide) rfl (fun ls hl => ?_)
    refine lv_aload_n hx hb dX7_works_89 rfl (lv_at hl 3 rfl) ?_
    refine th_get (D := (dC, dI)) (ci := 7) (v := .ref (A 21)) (C := RX7) (T := TX7) (N := 34) hx hb hts inX7 hown hK hP (hLK _ ha0 (by decide)) oY82 rfl 21 (by decide) (hts _ T_252) (fun _ h9 => h9) rfl dX7_works_90 ?_
    refine lv_iload hx hb dX7_works_93 (lv_at hl 8 rfl) ?_
    refine th_iald hx hb hK hP (hLK _ (y_k21 hA) (by decide)) 0 o95 rfl (th_in ⟨by omega, by omega⟩) dX7_works_95 ?_
    refine lv_topi (fun v105 ev105 => ?_)
    refine lv_i2l hx hb dX7_works_96 rfl ?_
    refine lv_topl (fun v106 ev106 => ?_)
    have qv106 : v106.toInt = v105.toInt := y_i2l ev106
    refine lv_bipush (v := 32) hx hb dX7_works_97 (by decide) ?_
    refine va_calli (va_runS (As := [.long v106, .int 32]) (rest := []) ⟨hx, hb, hml, hown, hts⟩ (y_X7_modulo l dC dI H.size F80 v106 32 (by decide)) (cwS 2 hts (ax_gS T_1204 T_1206 T_265 T_1205) rfl rfl rfl (by decide +kernel) ⟨Nat.le_of_ble_eq_true rfl, Nat.le_of_ble_eq_true rfl⟩) ⟨fun a U g mk q => ⟨q.1, s_pc rfl rfl q.2⟩, fun U hU hW => ⟨rfl, s_pw hU hW hP hK hD hN⟩⟩ rfl rfl hl.1 rfl (lv_room (Nat.le_of_ble_eq_true rfl)) dX7_works_99 ⟨Nat.zero_le _, Nat.zero_le _⟩) hS (fun q _ h => h) (fun q h => h) (fun r108 F109 t H1 locs ht hvm hw hB hz1 hk1 hS => ?_)
    obtain ⟨hP, hK1⟩ := hB
    rw [ht] at hP
    generalize H1 = H at hP hS ⊢
    obtain ⟨h110, h112, hG9, h111⟩ := hw
    rw [hG9] at hP
    have h111 : (0 ≤ r108.toInt ∧ r108.toInt < 32) := by have q9 := h111; exact q9
    refine lv_istore (lv' := [(9, .int r108), (8, .int r100), (7, .int v93), (6, .int r87), (0, .ref a0), (1, .int x1), (2, .int x2), (3, .int x3), (4, .int r8), (5, .int w18)]) hx hb dX7_works_102 hl (by decide) rfl (fun ls hl => ?_)
    refine lv_iload hx hb dX7_works_104 (lv_at hl 8 rfl) ?_
    by_cases c113 : r8 = 5
    · refine ax_eqi c113 ?_
      refine lv_tableIn (off := 42) (tgt := 148) hx hb dX7_works_106 (by decide) (by decide) (by decide) (by decide) ?_
      have c113 := (ax_eq (n := 5) (by decide)).mp c113
      refine lv_aload_n hx hb dX7_works_148 rfl (lv_at hl 4 rfl) ?_
      refine th_get (D := (dC, dI)) (ci := 7) (v := .ref (A 20)) (C := RX7) (T := TX7) (N := 34) hx hb hts inX7 hown hK hP (hLK _ ha0 (by decide)) oY82 rfl 20 (by decide) (hts _ T_251) (fun _ h9 => h9) rfl dX7_works_149 ?_
      refine lv_iload hx hb dX7_works_152 (lv_at hl 3 rfl) ?_
      refine lv_iload hx hb dX7_works_154 (lv_at hl 9 rfl) ?_
      refine th_iast hx hb hK hP hD hS (hLK _ (y_k20 hA) (by decide)) 0 o84 rfl (th_in ⟨by omega, by omega⟩) dX7_works_156 (fun H locs hP hS => ?_)
      obtain ⟨f114, u115⟩ : ∃ g : Nat → Int32, g = upd f83 (r87 : Int32).toNatClampNeg w18 := ⟨_, rfl⟩
      rw [← u115] at hP
      have b116 : y_bd 20 f114 := trivial
      have hP : va_P (dC, dI) vwCl (va_pl L (va_up F80 (A 20) (.inl (cs 0, 918, .inl f114)))) H := hP
      obtain ⟨F117, hF118⟩ : ∃ G : Nat → va_E, G = va_up F80 (A 20) (.inl (cs 0, 918, .inl f114)) := ⟨_, rfl⟩
      rw [← hF118] at hP
      have hI : y_I K cs A F117 := by rw [hF118]; exact y_clA (i := 20) hA hI (by decide) b116
      have hfr : ∀ b, K b ∉ [70] → F117 b = F b := by rw [hF118]; exact s_fr hfr (y_k20 hA) (by decide)
      have o119 : F117 (A 13) = .inl (cs 0, 400, .inl f1) := by rw [hF118]; exact th_ne (th_kd (y_k13 hA) (y_k20 hA) (by decide)) o81
      have o120 : F117 (A 21) = .inl (cs 0, 8, .inl f94) := by rw [hF118]; exact th_ne (th_kd (y_k21 hA) (y_k20 hA) (by decide)) o95
      have oY121 : F117 a0 = .inr (7, y_fl A z0 q0) := by rw [hF118]; exact th_ne (th_kd ha0 (y_k20 hA) (by decide)) oY82
      have o122 : F117 (A 20) = .inl (cs 0, 918, .inl f114) := by rw [hF118]; exact th_up
      have u123 : ∀ j : Int, 0 ≤ j → y_c f114 j = if j = r87.toInt then w18 else y_c f83 j := by rw [u115]; exact y_cu rfl (by omega)
      refine lv_goto (tgt := 360) hx hb dX7_works_157 (by decide) ?_
      exact K360 _ _ _ ⟨F117, _, rfl, lv_sub hl [4, 5, 6, 7, 8, 9] rfl, hP, hS, hI, hfr, (fun k hk => (y_fiZ oY121 (s_sub (by decide) hk)).trans (hz0 k hk)), ⟨by omega, by omega⟩, ⟨by omega, by omega⟩, ⟨by omega, by omega⟩, ⟨by omega, by omega⟩, (by rw [y_atE o122]; exact (y_E6_t h79 (y_E6_u u123 (by omega))))⟩
    · have c113 := mt (ax_eq (n := 5) (by decide)).mpr c113
      by_cases c124 : r8 = 6
      · refine ax_eqi c124 ?_
        refine lv_tableIn (off := 54) (tgt := 160) hx hb dX7_works_106 (by decide) (by decide) (by decide) (by decide) ?_
        have c124 := (ax_eq (n := 6) (by decide)).mp c124
        refine lv_aload_n hx hb dX7_works_160 rfl (lv_at hl 4 rfl) ?_
        refine th_get (D := (dC, dI)) (ci := 7) (v := .ref (A 20)) (C := RX7) (T := TX7) (N := 34) hx hb hts inX7 hown hK hP (hLK _ ha0 (by decide)) oY82 rfl 20 (by decide) (hts _ T_251) (fun _ h9 => h9) rfl dX7_works_161 ?_
        refine lv_iload hx hb dX7_works_164 (lv_at hl 3 rfl) ?_
        refine lv_iload_n hx hb dX7_works_166 rfl (lv_at hl 5 rfl) ?_
        refine th_iast hx hb hK hP hD hS (hLK _ (y_k20 hA) (by decide)) 0 o84 rfl (th_in ⟨by omega, by omega⟩) dX7_works_167 (fun H locs hP hS => ?_)
        obtain ⟨f125, u126⟩ : ∃ g : Nat → Int32, g = upd f83 (r87 : Int32).toNatClampNeg x1 := ⟨_, rfl⟩
        rw [← u126] at hP
        have b127 : y_bd 20 f125 := trivial
        have hP : va_P (dC, dI) vwCl (va_pl L (va_up F80 (A 20) (.inl (cs 0, 918, .inl f125)))) H := hP
        obtain ⟨F128, hF129⟩ : ∃ G : Nat → va_E, G = va_up F80 (A 20) (.inl (cs 0, 918, .inl f125)) := ⟨_, rfl⟩
        rw [← hF129] at hP
        have hI : y_I K cs A F128 := by rw [hF129]; exact y_clA (i := 20) hA hI (by decide) b127
        have hfr : ∀ b, K b ∉ [70] → F128 b = F b := by rw [hF129]; exact s_fr hfr (y_k20 hA) (by decide)
        have o130 : F128 (A 13) = .inl (cs 0, 400, .inl f1) := by rw [hF129]; exact th_ne (th_kd (y_k13 hA) (y_k20 hA) (by decide)) o81
        have o131 : F128 (A 21) = .inl (cs 0, 8, .inl f94) := by rw [hF129]; exact th_ne (th_kd (y_k21 hA) (y_k20 hA) (by decide)) o95
        have oY132 : F128 a0 = .inr (7, y_fl A z0 q0) := by rw [hF129]; exact th_ne (th_kd ha0 (y_k20 hA) (by decide)) oY82
        have o133 : F128 (A 20) = .inl (cs 0, 918, .inl f125) := by rw [hF129]; exact th_up
        have u134 : ∀ j : Int, 0 ≤ j → y_c f125 j = if j = r87.toInt then x1 else y_c f83 j := by rw [u126]; exact y_cu rfl (by omega)
        refine lv_goto (tgt := 360) hx hb dX7_works_168 (by decide) ?_
        exact K360 _ _ _ ⟨F128, _, rfl, lv_sub hl [4, 5, 6, 7, 8, 9] rfl, hP, hS, hI, hfr, (fun k hk => (y_fiZ oY132 (s_sub (by decide) hk)).trans (hz0 k hk)), ⟨by omega, by omega⟩, ⟨by omega, by omega⟩, ⟨by omega, by omega⟩, ⟨by omega, by omega⟩, (by rw [y_atE o133]; exact (y_E6_t h79 (y_E6_u u134 (by omega))))⟩
      · have c124 := mt (ax_eq (n := 6) (by decide)).mpr c124
        by_cases c135 : r8 = 7
        · refine ax_eqi c135 ?_
          refine lv_tableIn (off := 65) (tgt := 171) hx hb dX7_works_106 (by decide) (by decide) (by decide) (by decide) ?_
          have c135 := (ax_eq (n := 7) (by decide)).mp c135
          refine lv_aload_n hx hb dX7_works_171 rfl (lv_at hl 4 rfl) ?_
          refine lv_iload hx hb dX7_works_172 (lv_at hl 1 rfl) ?_
          refine lv_iload hx hb dX7_works_174 (lv_at hl 2 rfl) ?_
          refine lv_iconst (v := 0) hx hb dX7_works_176 (by decide) ?_
          refine va_callv (va_runV (As := [.int r100, .int v93, .int 0]) (rest := []) ⟨hx, hb, hml, hown, hts⟩ (y_X7_touches l dC dI H.size hLK A hA F80 a0 r100 v93 0 ha0 (⟨by omega, by omega⟩) (⟨by omega, by omega⟩) (by decide) hI) (cwV 3 hts (ax_gV T_1334 T_1336 T_1337 T_265 T_1335) rfl rfl rfl (by decide +kernel) ⟨Nat.le_of_ble_eq_true rfl, Nat.le_of_ble_eq_true rfl⟩) ⟨fun a U g mk q => ⟨q.1, s_pc rfl rfl q.2⟩, s_recv hK hP (hLK _ ha0 (by decide)) (ci := 7) rfl oY82, fun U hU hW => ⟨rfl, s_pw hU hW hP hK hD hN⟩⟩ rfl rfl hl.1 rfl (lv_room (Nat.le_of_ble_eq_true rfl)) dX7_works_177 ⟨Nat.zero_le _, Nat.zero_le _⟩) hS (fun q _ h => h) (fun q h => h) (fun F137 t H1 locs ht hvm hw hB hz1 hk1 hS => ?_)
          obtain ⟨hP, hK1⟩ := hB
          rw [ht] at hP
          generalize H1 = H at hP hS ⊢
          obtain ⟨h138, h140, hI, hfr1, hzf, h139⟩ := hw
          have o141 : F137 (A 13) = .inl (cs 0, 400, .inl f1) := (hfr1 _ (by rw [(y_k13 hA)]; decide)).trans o81
          have o142 : F137 (A 21) = .inl (cs 0, 8, .inl f94) := (hfr1 _ (by rw [(y_k21 hA)]; decide)).trans o95
          have oY143 : F137 a0 = .inr (7, y_fl A z0 q0) := (hfr1 _ (by rw [ha0]; decide)).trans oY82
          have hfr : ∀ b, K b ∉ [70] → F137 b = F b := fun b hb9 => (hfr1 b (fun q => hb9 (s_sub (by decide) q))).trans (hfr b hb9)
          obtain ⟨f144, o145, b146⟩ := y_op20 hI
          have h139 : (y_E6 f83 f144) := by have q9 := h139; rw [y_atE o84, y_atE o145] at q9; exact q9
          refine lv_aload_n hx hb dX7_works_180 rfl (lv_at hl 4 rfl) ?_
          refine th_get (D := (dC, dI)) (ci := 7) (v := .ref (A 20)) (C := RX7) (T := TX7) (N := 34) hx hb hts inX7 hown hK hP (hLK _ ha0 (by decide)) oY143 rfl 20 (by decide) (hts _ T_251) (fun _ h9 => h9) rfl dX7_works_181 ?_
          refine lv_iload hx hb dX7_works_184 (lv_at hl 3 rfl) ?_
          refine lv_aload_n hx hb dX7_works_186 rfl (lv_at hl 4 rfl) ?_
          refine th_get (D := (dC, dI)) (ci := 7) (v := .ref (A 20)) (C := RX7) (T := TX7) (N := 34) hx hb hts inX7 hown hK hP (hLK _ ha0 (by decide)) oY143 rfl 20 (by decide) (hts _ T_251) (fun _ h9 => h9) rfl dX7_works_187 ?_
          refine lv_bipush (v := 8) hx hb dX7_works_190 (by decide) ?_
          refine lv_iload hx hb dX7_works_192 (lv_at hl 1 rfl) ?_
          refine lv_iadd hx hb dX7_works_194 ?_
          refine lv_topi (fun v147 ev147 => ?_)
          refine th_iald hx hb hK hP (hLK _ (y_k20 hA) (by decide)) 0 o145 rfl (th_in ⟨by omega, by omega⟩) dX7_works_195 ?_
          refine lv_topi (fun v148 ev148 => ?_)
          refine th_iast hx hb hK hP hD hS (hLK _ (y_k20 hA) (by decide)) 0 o145 rfl (th_in ⟨by omega, by omega⟩) dX7_works_196 (fun H locs hP hS => ?_)
          obtain ⟨f149, u150⟩ : ∃ g : Nat → Int32, g = upd f144 (r87 : Int32).toNatClampNeg v148 := ⟨_, rfl⟩
          rw [← u150] at hP
          have b151 : y_bd 20 f149 := trivial
          have hP : va_P (dC, dI) vwCl (va_pl L (va_up F137 (A 20) (.inl (cs 0, 918, .inl f149)))) H := hP
          obtain ⟨F152, hF153⟩ : ∃ G : Nat → va_E, G = va_up F137 (A 20) (.inl (cs 0, 918, .inl f149)) := ⟨_, rfl⟩
          rw [← hF153] at hP
          have hI : y_I K cs A F152 := by rw [hF153]; exact y_clA (i := 20) hA hI (by decide) b151
          have hfr : ∀ b, K b ∉ [70] → F152 b = F b := by rw [hF153]; exact s_fr hfr (y_k20 hA) (by decide)
          have o154 : F152 (A 13) = .inl (cs 0, 400, .inl f1) := by rw [hF153]; exact th_ne (th_kd (y_k13 hA) (y_k20 hA) (by decide)) o141
          have o155 : F152 (A 21) = .inl (cs 0, 8, .inl f94) := by rw [hF153]; exact th_ne (th_kd (y_k21 hA) (y_k20 hA) (by decide)) o142
          have oY156 : F152 a0 = .inr (7, y_fl A z0 q0) := by rw [hF153]; exact th_ne (th_kd ha0 (y_k20 hA) (by decide)) oY143
          have o157 : F152 (A 20) = .inl (cs 0, 918, .inl f149) := by rw [hF153]; exact th_up
          have u158 : ∀ j : Int, 0 ≤ j → y_c f149 j = if j = r87.toInt then v148 else y_c f144 j := by rw [u150]; exact y_cu rfl (by omega)
          refine lv_goto (tgt := 360) hx hb dX7_works_197 (by decide) ?_
          exact K360 _ _ _ ⟨F152, _, rfl, lv_sub hl [4, 5, 6, 7, 8, 9] rfl, hP, hS, hI, hfr, (fun k hk => (y_fiZ oY156 (s_sub (by decide) hk)).trans (hz0 k hk)), ⟨by omega, by omega⟩, ⟨by omega, by omega⟩, ⟨by omega, by omega⟩, ⟨by omega, by omega⟩, (by rw [y_atE o157]; exact (y_E6_t (y_E6_t h79 h139) (y_E6_u u158 (by omega))))⟩
        · have c135 := mt (ax_eq (n := 7) (by decide)).mpr c135
          by_cases c159 : r8 = 8
          · refine ax_eqi c159 ?_
            refine lv_tableIn (off := 94) (tgt := 200) hx hb dX7_works_106 (by decide) (by decide) (by decide) (by decide) ?_
            have c159 := (ax_eq (n := 8) (by decide)).mp c159
            refine lv_aload_n hx hb dX7_works_200 rfl (lv_at hl 4 rfl) ?_
            refine lv_iload hx hb dX7_works_201 (lv_at hl 1 rfl) ?_
            refine lv_iload hx hb dX7_works_203 (lv_at hl 2 rfl) ?_
            refine lv_iconst (v := 1) hx hb dX7_works_205 (by decide) ?_
            refine va_callv (va_runV (As := [.int r100, .int v93, .int 1]) (rest := []) ⟨hx, hb, hml, hown, hts⟩ (y_X7_touches l dC dI H.size hLK A hA F80 a0 r100 v93 1 ha0 (⟨by omega, by omega⟩) (⟨by omega, by omega⟩) (by decide) hI) (cwV 3 hts (ax_gV T_1334 T_1336 T_1337 T_265 T_1335) rfl rfl rfl (by decide +kernel) ⟨Nat.le_of_ble_eq_true rfl, Nat.le_of_ble_eq_true rfl⟩) ⟨fun a U g mk q => ⟨q.1, s_pc rfl rfl q.2⟩, s_recv hK hP (hLK _ ha0 (by decide)) (ci := 7) rfl oY82, fun U hU hW => ⟨rfl, s_pw hU hW hP hK hD hN⟩⟩ rfl rfl hl.1 rfl (lv_room (Nat.le_of_ble_eq_true rfl)) dX7_works_206 ⟨Nat.zero_le _, Nat.zero_le _⟩) hS (fun q _ h => h) (fun q h => h) (fun F161 t H1 locs ht hvm hw hB hz1 hk1 hS => ?_)
            obtain ⟨hP, hK1⟩ := hB
            rw [ht] at hP
            generalize H1 = H at hP hS ⊢
            obtain ⟨h162, h164, hI, hfr1, hzf, h163⟩ := hw
            have o165 : F161 (A 13) = .inl (cs 0, 400, .inl f1) := (hfr1 _ (by rw [(y_k13 hA)]; decide)).trans o81
            have o166 : F161 (A 21) = .inl (cs 0, 8, .inl f94) := (hfr1 _ (by rw [(y_k21 hA)]; decide)).trans o95
            have oY167 : F161 a0 = .inr (7, y_fl A z0 q0) := (hfr1 _ (by rw [ha0]; decide)).trans oY82
            have hfr : ∀ b, K b ∉ [70] → F161 b = F b := fun b hb9 => (hfr1 b (fun q => hb9 (s_sub (by decide) q))).trans (hfr b hb9)
            obtain ⟨f168, o169, b170⟩ := y_op20 hI
            have h163 : (y_E6 f83 f168) := by have q9 := h163; rw [y_atE o84, y_atE o169] at q9; exact q9
            refine lv_aload_n hx hb dX7_works_209 rfl (lv_at hl 4 rfl) ?_
            refine th_get (D := (dC, dI)) (ci := 7) (v := .ref (A 20)) (C := RX7) (T := TX7) (N := 34) hx hb hts inX7 hown hK hP (hLK _ ha0 (by decide)) oY167 rfl 20 (by decide) (hts _ T_251) (fun _ h9 => h9) rfl dX7_works_210 ?_
            refine lv_bipush (v := 8) hx hb dX7_works_213 (by decide) ?_
            refine lv_iload hx hb dX7_works_215 (lv_at hl 1 rfl) ?_
            refine lv_iadd hx hb dX7_works_217 ?_
            refine lv_topi (fun v171 ev171 => ?_)
            refine lv_aload_n hx hb dX7_works_218 rfl (lv_at hl 4 rfl) ?_
            refine th_get (D := (dC, dI)) (ci := 7) (v := .ref (A 22)) (C := RX7) (T := TX7) (N := 34) hx hb hts inX7 hown hK hP (hLK _ ha0 (by decide)) oY167 rfl 22 (by decide) (hts _ T_253) (fun _ h9 => h9) rfl dX7_works_219 ?_
            refine lv_iload hx hb dX7_works_222 (lv_at hl 9 rfl) ?_
            obtain ⟨f172, o173, b174⟩ := y_op22 hI
            refine th_iald hx hb hK hP (hLK _ (y_k22 hA) (by decide)) 0 o173 rfl (th_in ⟨by omega, by omega⟩) dX7_works_224 ?_
            refine lv_topi (fun v175 ev175 => ?_)
            refine th_iast hx hb hK hP hD hS (hLK _ (y_k20 hA) (by decide)) 0 o169 rfl (th_in ⟨by omega, by omega⟩) dX7_works_225 (fun H locs hP hS => ?_)
            obtain ⟨f176, u177⟩ : ∃ g : Nat → Int32, g = upd f168 (v171 : Int32).toNatClampNeg v175 := ⟨_, rfl⟩
            rw [← u177] at hP
            have b178 : y_bd 20 f176 := trivial
            have hP : va_P (dC, dI) vwCl (va_pl L (va_up F161 (A 20) (.inl (cs 0, 918, .inl f176)))) H := hP
            obtain ⟨F179, hF180⟩ : ∃ G : Nat → va_E, G = va_up F161 (A 20) (.inl (cs 0, 918, .inl f176)) := ⟨_, rfl⟩
            rw [← hF180] at hP
            have hI : y_I K cs A F179 := by rw [hF180]; exact y_clA (i := 20) hA hI (by decide) b178
            have hfr : ∀ b, K b ∉ [70] → F179 b = F b := by rw [hF180]; exact s_fr hfr (y_k20 hA) (by decide)
            have o181 : F179 (A 13) = .inl (cs 0, 400, .inl f1) := by rw [hF180]; exact th_ne (th_kd (y_k13 hA) (y_k20 hA) (by decide)) o165
            have o182 : F179 (A 21) = .inl (cs 0, 8, .inl f94) := by rw [hF180]; exact th_ne (th_kd (y_k21 hA) (y_k20 hA) (by decide)) o166
            have o183 : F179 (A 22) = .inl (cs 0, 8, .inl f172) := by rw [hF180]; exact th_ne (th_kd (y_k22 hA) (y_k20 hA) (by decide)) o173
            have oY184 : F179 a0 = .inr (7, y_fl A z0 q0) := by rw [hF180]; exact th_ne (th_kd ha0 (y_k20 hA) (by decide)) oY167
            have o185 : F179 (A 20) = .inl (cs 0, 918, .inl f176) := by rw [hF180]; exact th_up
            have u186 : ∀ j : Int, 0 ≤ j → y_c f176 j = if j = v171.toInt then v175 else y_c f168 j := by rw [u177]; exact y_cu rfl (by omega)
            refine lv_goto (tgt := 360) hx hb dX7_works_226 (by decide) ?_
            exact K360 _ _ _ ⟨F179, _, rfl, lv_sub hl [4, 5, 6, 7, 8, 9] rfl, hP, hS, hI, hfr, (fun k hk => (y_fiZ oY184 (s_sub (by decide) hk)).trans (hz0 k hk)), ⟨by omega, by omega⟩, ⟨by omega, by omega⟩, ⟨by omega, by omega⟩, ⟨by omega, by omega⟩, (by rw [y_atE o185]; exact (y_E6_t (y_E6_t h79 h163) (y_E6_u u186 (by omega))))⟩
          · have c159 := mt (ax_eq (n := 8) (by decide)).mpr c159
            by_cases c187 : r8 = 9
            · refine ax_eqi c187 ?_
              refine lv_tableIn (off := 123) (tgt := 229) hx hb dX7_works_106 (by decide) (by decide) (by decide) (by decide) ?_
              have c187 := (ax_eq (n := 9) (by decide)).mp c187
              refine lv_aload_n hx hb dX7_works_229 rfl (lv_at hl 4 rfl) ?_
              refine lv_bipush (v := 64) hx hb dX7_works_230 (by decide) ?_
              refine lv_iload hx hb dX7_works_232 (lv_at hl 0 rfl) ?_
              refine lv_iadd hx hb dX7_works_234 ?_
              refine lv_topi (fun v188 ev188 => ?_)
              refine lv_iload hx hb dX7_works_235 (lv_at hl 2 rfl) ?_
              refine lv_iconst (v := 0) hx hb dX7_works_237 (by decide) ?_
              refine va_callv (va_runV (As := [.int v188, .int v93, .int 0]) (rest := []) ⟨hx, hb, hml, hown, hts⟩ (y_X7_touches l dC dI H.size hLK A hA F80 a0 v188 v93 0 ha0 (⟨by omega, by omega⟩) (⟨by omega, by omega⟩) (by decide) hI) (cwV 3 hts (ax_gV T_1334 T_1336 T_1337 T_265 T_1335) rfl rfl rfl (by decide +kernel) ⟨Nat.le_of_ble_eq_true rfl, Nat.le_of_ble_eq_true rfl⟩) ⟨fun a U g mk q => ⟨q.1, s_pc rfl rfl q.2⟩, s_recv hK hP (hLK _ ha0 (by decide)) (ci := 7) rfl oY82, fun U hU hW => ⟨rfl, s_pw hU hW hP hK hD hN⟩⟩ rfl rfl hl.1 rfl (lv_room (Nat.le_of_ble_eq_true rfl)) dX7_works_238 ⟨Nat.zero_le _, Nat.zero_le _⟩) hS (fun q _ h => h) (fun q h => h) (fun F190 t H1 locs ht hvm hw hB hz1 hk1 hS => ?_)
              obtain ⟨hP, hK1⟩ := hB
              rw [ht] at hP
              generalize H1 = H at hP hS ⊢
              obtain ⟨h191, h193, hI, hfr1, hzf, h192⟩ := hw
              have o194 : F190 (A 13) = .inl (cs 0, 400, .inl f1) := (hfr1 _ (by rw [(y_k13 hA)]; decide)).trans o81
              have o195 : F190 (A 21) = .inl (cs 0, 8, .inl f94) := (hfr1 _ (by rw [(y_k21 hA)]; decide)).trans o95
              have oY196 : F190 a0 = .inr (7, y_fl A z0 q0) := (hfr1 _ (by rw [ha0]; decide)).trans oY82
              have hfr : ∀ b, K b ∉ [70] → F190 b = F b := fun b hb9 => (hfr1 b (fun q => hb9 (s_sub (by decide) q))).trans (hfr b hb9)
              obtain ⟨f197, o198, b199⟩ := y_op20 hI
              have h192 : (y_E6 f83 f197) := by have q9 := h192; rw [y_atE o84, y_atE o198] at q9; exact q9
              refine lv_aload_n hx hb dX7_works_241 rfl (lv_at hl 4 rfl) ?_
              refine th_get (D := (dC, dI)) (ci := 7) (v := .ref (A 20)) (C := RX7) (T := TX7) (N := 34) hx hb hts inX7 hown hK hP (hLK _ ha0 (by decide)) oY196 rfl 20 (by decide) (hts _ T_251) (fun _ h9 => h9) rfl dX7_works_242 ?_
              refine lv_iload hx hb dX7_works_245 (lv_at hl 3 rfl) ?_
              refine lv_aload_n hx hb dX7_works_247 rfl (lv_at hl 4 rfl) ?_
              refine th_get (D := (dC, dI)) (ci := 7) (v := .ref (A 20)) (C := RX7) (T := TX7) (N := 34) hx hb hts inX7 hown hK hP (hLK _ ha0 (by decide)) oY196 rfl 20 (by decide) (hts _ T_251) (fun _ h9 => h9) rfl dX7_works_248 ?_
              refine lv_bipush (v := 72) hx hb dX7_works_251 (by decide) ?_
              refine lv_iload hx hb dX7_works_253 (lv_at hl 0 rfl) ?_
              refine lv_iadd hx hb dX7_works_255 ?_
              refine lv_topi (fun v200 ev200 => ?_)
              refine th_iald hx hb hK hP (hLK _ (y_k20 hA) (by decide)) 0 o198 rfl (th_in ⟨by omega, by omega⟩) dX7_works_256 ?_
              refine lv_topi (fun v201 ev201 => ?_)
              refine th_iast hx hb hK hP hD hS (hLK _ (y_k20 hA) (by decide)) 0 o198 rfl (th_in ⟨by omega, by omega⟩) dX7_works_257 (fun H locs hP hS => ?_)
              obtain ⟨f202, u203⟩ : ∃ g : Nat → Int32, g = upd f197 (r87 : Int32).toNatClampNeg v201 := ⟨_, rfl⟩
              rw [← u203] at hP
              have b204 : y_bd 20 f202 := trivial
              have hP : va_P (dC, dI) vwCl (va_pl L (va_up F190 (A 20) (.inl (cs 0, 918, .inl f202)))) H := hP
              obtain ⟨F205, hF206⟩ : ∃ G : Nat → va_E, G = va_up F190 (A 20) (.inl (cs 0, 918, .inl f202)) := ⟨_, rfl⟩
              rw [← hF206] at hP
              have hI : y_I K cs A F205 := by rw [hF206]; exact y_clA (i := 20) hA hI (by decide) b204
              have hfr : ∀ b, K b ∉ [70] → F205 b = F b := by rw [hF206]; exact s_fr hfr (y_k20 hA) (by decide)
              have o207 : F205 (A 13) = .inl (cs 0, 400, .inl f1) := by rw [hF206]; exact th_ne (th_kd (y_k13 hA) (y_k20 hA) (by decide)) o194
              have o208 : F205 (A 21) = .inl (cs 0, 8, .inl f94) := by rw [hF206]; exact th_ne (th_kd (y_k21 hA) (y_k20 hA) (by decide)) o195
              have oY209 : F205 a0 = .inr (7, y_fl A z0 q0) := by rw [hF206]; exact th_ne (th_kd ha0 (y_k20 hA) (by decide)) oY196
              have o210 : F205 (A 20) = .inl (cs 0, 918, .inl f202) := by rw [hF206]; exact th_up
              have u211 : ∀ j : Int, 0 ≤ j → y_c f202 j = if j = r87.toInt then v201 else y_c f197 j := by rw [u203]; exact y_cu rfl (by omega)
              refine lv_goto (tgt := 360) hx hb dX7_works_258 (by decide) ?_
              exact K360 _ _ _ ⟨F205, _, rfl, lv_sub hl [4, 5, 6, 7, 8, 9] rfl, hP, hS, hI, hfr, (fun k hk => (y_fiZ oY209 (s_sub (by decide) hk)).trans (hz0 k hk)), ⟨by omega, by omega⟩, ⟨by omega, by omega⟩, ⟨by omega, by omega⟩, ⟨by omega, by omega⟩, (by rw [y_atE o210]; exact (y_E6_t (y_E6_t h79 h192) (y_E6_u u211 (by omega))))⟩
            · have c187 := mt (ax_eq (n := 9) (by decide)).mpr c187
              by_cases c212 : r8 = 10
              · refine ax_eqi c212 ?_
                refine lv_tableIn (off := 155) (tgt := 261) hx hb dX7_works_106 (by decide) (by decide) (by decide) (by decide) ?_
                have c212 := (ax_eq (n := 10) (by decide)).mp c212
                refine lv_aload_n hx hb dX7_works_261 rfl (lv_at hl 4 rfl) ?_
                refine lv_bipush (v := 64) hx hb dX7_works_262 (by decide) ?_
                refine lv_iload hx hb dX7_works_264 (lv_at hl 0 rfl) ?_
                refine lv_iadd hx hb dX7_works_266 ?_
                refine lv_topi (fun v213 ev213 => ?_)
                refine lv_iload hx hb dX7_works_267 (lv_at hl 2 rfl) ?_
                refine lv_iconst (v := 1) hx hb dX7_works_269 (by decide) ?_
                refine va_callv (va_runV (As := [.int v213, .int v93, .int 1]) (rest := []) ⟨hx, hb, hml, hown, hts⟩ (y_X7_touches l dC dI H.size hLK A hA F80 a0 v213 v93 1 ha0 (⟨by omega, by omega⟩) (⟨by omega, by omega⟩) (by decide) hI) (cwV 3 hts (ax_gV T_1334 T_1336 T_1337 T_265 T_1335) rfl rfl rfl (by decide +kernel) ⟨Nat.le_of_ble_eq_true rfl, Nat.le_of_ble_eq_true rfl⟩) ⟨fun a U g mk q => ⟨q.1, s_pc rfl rfl q.2⟩, s_recv hK hP (hLK _ ha0 (by decide)) (ci := 7) rfl oY82, fun U hU hW => ⟨rfl, s_pw hU hW hP hK hD hN⟩⟩ rfl rfl hl.1 rfl (lv_room (Nat.le_of_ble_eq_true rfl)) dX7_works_270 ⟨Nat.zero_le _, Nat.zero_le _⟩) hS (fun q _ h => h) (fun q h => h) (fun F215 t H1 locs ht hvm hw hB hz1 hk1 hS => ?_)
                obtain ⟨hP, hK1⟩ := hB
                rw [ht] at hP
                generalize H1 = H at hP hS ⊢
                obtain ⟨h216, h218, hI, hfr1, hzf, h217⟩ := hw
                have o219 : F215 (A 13) = .inl (cs 0, 400, .inl f1) := (hfr1 _ (by rw [(y_k13 hA)]; decide)).trans o81
                have o220 : F215 (A 21) = .inl (cs 0, 8, .inl f94) := (hfr1 _ (by rw [(y_k21 hA)]; decide)).trans o95
                have oY221 : F215 a0 = .inr (7, y_fl A z0 q0) := (hfr1 _ (by rw [ha0]; decide)).trans oY82
                have hfr : ∀ b, K b ∉ [70] → F215 b = F b := fun b hb9 => (hfr1 b (fun q => hb9 (s_sub (by decide) q))).trans (hfr b hb9)
                obtain ⟨f222, o223, b224⟩ := y_op20 hI
                have h217 : (y_E6 f83 f222) := by have q9 := h217; rw [y_atE o84, y_atE o223] at q9; exact q9
                refine lv_aload_n hx hb dX7_works_273 rfl (lv_at hl 4 rfl) ?_
                refine th_get (D := (dC, dI)) (ci := 7) (v := .ref (A 20)) (C := RX7) (T := TX7) (N := 34) hx hb hts inX7 hown hK hP (hLK _ ha0 (by decide)) oY221 rfl 20 (by decide) (hts _ T_251) (fun _ h9 => h9) rfl dX7_works_274 ?_
                refine lv_bipush (v := 72) hx hb dX7_works_277 (by decide) ?_
                refine lv_iload hx hb dX7_works_279 (lv_at hl 0 rfl) ?_
                refine lv_iadd hx hb dX7_works_281 ?_
                refine lv_topi (fun v225 ev225 => ?_)
                refine lv_aload_n hx hb dX7_works_282 rfl (lv_at hl 4 rfl) ?_
                refine th_get (D := (dC, dI)) (ci := 7) (v := .ref (A 22)) (C := RX7) (T := TX7) (N := 34) hx hb hts inX7 hown hK hP (hLK _ ha0 (by decide)) oY221 rfl 22 (by decide) (hts _ T_253) (fun _ h9 => h9) rfl dX7_works_283 ?_
                refine lv_iload hx hb dX7_works_286 (lv_at hl 9 rfl) ?_
                obtain ⟨f226, o227, b228⟩ := y_op22 hI
                refine th_iald hx hb hK hP (hLK _ (y_k22 hA) (by decide)) 0 o227 rfl (th_in ⟨by omega, by omega⟩) dX7_works_288 ?_
                refine lv_topi (fun v229 ev229 => ?_)
                refine th_iast hx hb hK hP hD hS (hLK _ (y_k20 hA) (by decide)) 0 o223 rfl (th_in ⟨by omega, by omega⟩) dX7_works_289 (fun H locs hP hS => ?_)
                obtain ⟨f230, u231⟩ : ∃ g : Nat → Int32, g = upd f222 (v225 : Int32).toNatClampNeg v229 := ⟨_, rfl⟩
                rw [← u231] at hP
                have b232 : y_bd 20 f230 := trivial
                have hP : va_P (dC, dI) vwCl (va_pl L (va_up F215 (A 20) (.inl (cs 0, 918, .inl f230)))) H := hP
                obtain ⟨F233, hF234⟩ : ∃ G : Nat → va_E, G = va_up F215 (A 20) (.inl (cs 0, 918, .inl f230)) := ⟨_, rfl⟩
                rw [← hF234] at hP
                have hI : y_I K cs A F233 := by rw [hF234]; exact y_clA (i := 20) hA hI (by decide) b232
                have hfr : ∀ b, K b ∉ [70] → F233 b = F b := by rw [hF234]; exact s_fr hfr (y_k20 hA) (by decide)
                have o235 : F233 (A 13) = .inl (cs 0, 400, .inl f1) := by rw [hF234]; exact th_ne (th_kd (y_k13 hA) (y_k20 hA) (by decide)) o219
                have o236 : F233 (A 21) = .inl (cs 0, 8, .inl f94) := by rw [hF234]; exact th_ne (th_kd (y_k21 hA) (y_k20 hA) (by decide)) o220
                have o237 : F233 (A 22) = .inl (cs 0, 8, .inl f226) := by rw [hF234]; exact th_ne (th_kd (y_k22 hA) (y_k20 hA) (by decide)) o227
                have oY238 : F233 a0 = .inr (7, y_fl A z0 q0) := by rw [hF234]; exact th_ne (th_kd ha0 (y_k20 hA) (by decide)) oY221
                have o239 : F233 (A 20) = .inl (cs 0, 918, .inl f230) := by rw [hF234]; exact th_up
                have u240 : ∀ j : Int, 0 ≤ j → y_c f230 j = if j = v225.toInt then v229 else y_c f222 j := by rw [u231]; exact y_cu rfl (by omega)
                refine lv_goto (tgt := 360) hx hb dX7_works_290 (by decide) ?_
                exact K360 _ _ _ ⟨F233, _, rfl, lv_sub hl [4, 5, 6, 7, 8, 9] rfl, hP, hS, hI, hfr, (fun k hk => (y_fiZ oY238 (s_sub (by decide) hk)).trans (hz0 k hk)), ⟨by omega, by omega⟩, ⟨by omega, by omega⟩, ⟨by omega, by omega⟩, ⟨by omega, by omega⟩, (by rw [y_atE o239]; exact (y_E6_t (y_E6_t h79 h217) (y_E6_u u240 (by omega))))⟩
              · have c212 := mt (ax_eq (n := 10) (by decide)).mpr c212
                by_cases c241 : r8 = 11
                · refine ax_eqi c241 ?_
                  refine lv_tableIn (off := 187) (tgt := 293) hx hb dX7_works_106 (by decide) (by decide) (by decide) (by decide) ?_
                  have c241 := (ax_eq (n := 11) (by decide)).mp c241
                  refine lv_aload_n hx hb dX7_works_293 rfl (lv_at hl 4 rfl) ?_
                  refine th_get (D := (dC, dI)) (ci := 7) (v := .ref (A 20)) (C := RX7) (T := TX7) (N := 34) hx hb hts inX7 hown hK hP (hLK _ ha0 (by decide)) oY82 rfl 20 (by decide) (hts _ T_251) (fun _ h9 => h9) rfl dX7_works_294 ?_
                  refine lv_bipush (v := 72) hx hb dX7_works_297 (by decide) ?_
                  refine lv_iload hx hb dX7_works_299 (lv_at hl 0 rfl) ?_
                  refine lv_iadd hx hb dX7_works_301 ?_
                  refine lv_topi (fun v242 ev242 => ?_)
                  refine th_iald hx hb hK hP (hLK _ (y_k20 hA) (by decide)) 0 o84 rfl (th_in ⟨by omega, by omega⟩) dX7_works_302 ?_
                  refine lv_topi (fun v243 ev243 => ?_)
                  refine lv_istore (lv' := [(10, .int v243), (9, .int r108), (8, .int r100), (7, .int v93), (6, .int r87), (0, .ref a0), (1, .int x1), (2, .int x2), (3, .int x3), (4, .int r8), (5, .int w18)]) hx hb dX7_works_303 hl (by decide) rfl (fun ls hl => ?_)
                  refine lv_aload_n hx hb dX7_works_305 rfl (lv_at hl 5 rfl) ?_
                  refine th_get (D := (dC, dI)) (ci := 7) (v := .ref (A 20)) (C := RX7) (T := TX7) (N := 34) hx hb hts inX7 hown hK hP (hLK _ ha0 (by decide)) oY82 rfl 20 (by decide) (hts _ T_251) (fun _ h9 => h9) rfl dX7_works_306 ?_
                  refine lv_bipush (v := 72) hx hb dX7_works_309 (by decide) ?_
                  refine lv_iload hx hb dX7_works_311 (lv_at hl 1 rfl) ?_
                  refine lv_iadd hx hb dX7_works_313 ?_
                  refine lv_topi (fun v244 ev244 => ?_)
                  refine lv_aload_n hx hb dX7_works_314 rfl (lv_at hl 5 rfl) ?_
                  refine th_get (D := (dC, dI)) (ci := 7) (v := .ref (A 20)) (C := RX7) (T := TX7) (N := 34) hx hb hts inX7 hown hK hP (hLK _ ha0 (by decide)) oY82 rfl 20 (by decide) (hts _ T_251) (fun _ h9 => h9) rfl dX7_works_315 ?_
                  refine lv_iload hx hb dX7_works_318 (lv_at hl 4 rfl) ?_
                  refine th_iald hx hb hK hP (hLK _ (y_k20 hA) (by decide)) 0 o84 rfl (th_in ⟨by omega, by omega⟩) dX7_works_320 ?_
                  refine lv_topi (fun v245 ev245 => ?_)
                  refine th_iast hx hb hK hP hD hS (hLK _ (y_k20 hA) (by decide)) 0 o84 rfl (th_in ⟨by omega, by omega⟩) dX7_works_321 (fun H locs hP hS => ?_)
                  obtain ⟨f246, u247⟩ : ∃ g : Nat → Int32, g = upd f83 (v244 : Int32).toNatClampNeg v245 := ⟨_, rfl⟩
                  rw [← u247] at hP
                  have b248 : y_bd 20 f246 := trivial
                  have hP : va_P (dC, dI) vwCl (va_pl L (va_up F80 (A 20) (.inl (cs 0, 918, .inl f246)))) H := hP
                  obtain ⟨F249, hF250⟩ : ∃ G : Nat → va_E, G = va_up F80 (A 20) (.inl (cs 0, 918, .inl f246)) := ⟨_, rfl⟩
                  rw [← hF250] at hP
                  have hI : y_I K cs A F249 := by rw [hF250]; exact y_clA (i := 20) hA hI (by decide) b248
                  have hfr : ∀ b, K b ∉ [70] → F249 b = F b := by rw [hF250]; exact s_fr hfr (y_k20 hA) (by decide)
                  have o251 : F249 (A 13) = .inl (cs 0, 400, .inl f1) := by rw [hF250]; exact th_ne (th_kd (y_k13 hA) (y_k20 hA) (by decide)) o81
                  have o252 : F249 (A 21) = .inl (cs 0, 8, .inl f94) := by rw [hF250]; exact th_ne (th_kd (y_k21 hA) (y_k20 hA) (by decide)) o95
                  have oY253 : F249 a0 = .inr (7, y_fl A z0 q0) := by rw [hF250]; exact th_ne (th_kd ha0 (y_k20 hA) (by decide)) oY82
                  have o254 : F249 (A 20) = .inl (cs 0, 918, .inl f246) := by rw [hF250]; exact th_up
                  have u255 : ∀ j : Int, 0 ≤ j → y_c f246 j = if j = v244.toInt then v245 else y_c f83 j := by rw [u247]; exact y_cu rfl (by omega)
                  refine lv_aload_n hx hb dX7_works_322 rfl (lv_at hl 5 rfl) ?_
                  refine th_get (D := (dC, dI)) (ci := 7) (v := .ref (A 20)) (C := RX7) (T := TX7) (N := 34) hx hb hts inX7 hown hK hP (hLK _ ha0 (by decide)) oY253 rfl 20 (by decide) (hts _ T_251) (fun _ h9 => h9) rfl dX7_works_323 ?_
                  refine lv_iload hx hb dX7_works_326 (lv_at hl 4 rfl) ?_
                  refine lv_iload hx hb dX7_works_328 (lv_at hl 0 rfl) ?_
                  refine th_iast hx hb hK hP hD hS (hLK _ (y_k20 hA) (by decide)) 0 o254 rfl (th_in ⟨by omega, by omega⟩) dX7_works_330 (fun H locs hP hS => ?_)
                  obtain ⟨f256, u257⟩ : ∃ g : Nat → Int32, g = upd f246 (r87 : Int32).toNatClampNeg v243 := ⟨_, rfl⟩
                  rw [← u257] at hP
                  have b258 : y_bd 20 f256 := trivial
                  have hP : va_P (dC, dI) vwCl (va_pl L (va_up F249 (A 20) (.inl (cs 0, 918, .inl f256)))) H := hP
                  obtain ⟨F259, hF260⟩ : ∃ G : Nat → va_E, G = va_up F249 (A 20) (.inl (cs 0, 918, .inl f256)) := ⟨_, rfl⟩
                  rw [← hF260] at hP
                  have hI : y_I K cs A F259 := by rw [hF260]; exact y_clA (i := 20) hA hI (by decide) b258
                  have hfr : ∀ b, K b ∉ [70] → F259 b = F b := by rw [hF260]; exact s_fr hfr (y_k20 hA) (by decide)
                  have o261 : F259 (A 13) = .inl (cs 0, 400, .inl f1) := by rw [hF260]; exact th_ne (th_kd (y_k13 hA) (y_k20 hA) (by decide)) o251
                  have o262 : F259 (A 21) = .inl (cs 0, 8, .inl f94) := by rw [hF260]; exact th_ne (th_kd (y_k21 hA) (y_k20 hA) (by decide)) o252
                  have oY263 : F259 a0 = .inr (7, y_fl A z0 q0) := by rw [hF260]; exact th_ne (th_kd ha0 (y_k20 hA) (by decide)) oY253
                  have o264 : F259 (A 20) = .inl (cs 0, 918, .inl f256) := by rw [hF260]; exact th_up
                  have u265 : ∀ j : Int, 0 ≤ j → y_c f256 j = if j = r87.toInt then v243 else y_c f246 j := by rw [u257]; exact y_cu rfl (by omega)
                  refine lv_goto (tgt := 360) hx hb dX7_works_331 (by decide) ?_
                  exact K360 _ _ _ ⟨F259, _, rfl, lv_sub hl [5, 6, 7, 8, 9, 10] rfl, hP, hS, hI, hfr, (fun k hk => (y_fiZ oY263 (s_sub (by decide) hk)).trans (hz0 k hk)), ⟨by omega, by omega⟩, ⟨by omega, by omega⟩, ⟨by omega, by omega⟩, ⟨by omega, by omega⟩, (by rw [y_atE o264]; exact (y_E6_t (y_E6_t h79 (y_E6_u u255 (by omega))) (y_E6_u u265 (by omega))))⟩
                · have c241 := mt (ax_eq (n := 11) (by decide)).mpr c241
                  refine lv_tableOut (tgt := 334) hx hb dX7_works_106 (by omega) (by decide) ?_
                  refine lv_aload_n hx hb dX7_works_334 rfl (lv_at hl 4 rfl) ?_
                  refine th_get (D := (dC, dI)) (ci := 7) (v := .ref (A 20)) (C := RX7) (T := TX7) (N := 34) hx hb hts inX7 hown hK hP (hLK _ ha0 (by decide)) oY82 rfl 20 (by decide) (hts _ T_251) (fun _ h9 => h9) rfl dX7_works_335 ?_
                  refine lv_iload hx hb dX7_works_338 (lv_at hl 3 rfl) ?_
                  refine lv_iload hx hb dX7_works_340 (lv_at hl 8 rfl) ?_
                  refine lv_aload_n hx hb dX7_works_342 rfl (lv_at hl 4 rfl) ?_
                  refine th_get (D := (dC, dI)) (ci := 7) (v := .ref (A 21)) (C := RX7) (T := TX7) (N := 34) hx hb hts inX7 hown hK hP (hLK _ ha0 (by decide)) oY82 rfl 21 (by decide) (hts _ T_252) (fun _ h9 => h9) rfl dX7_works_343 ?_
                  refine lv_iload hx hb dX7_works_346 (lv_at hl 9 rfl) ?_
                  refine th_iald hx hb hK hP (hLK _ (y_k21 hA) (by decide)) 0 o95 rfl (th_in ⟨by omega, by omega⟩) dX7_works_348 ?_
                  refine lv_topi (fun v266 ev266 => ?_)
                  refine lv_aload_n hx hb dX7_works_349 rfl (lv_at hl 4 rfl) ?_
                  refine th_get (D := (dC, dI)) (ci := 7) (v := .ref (A 22)) (C := RX7) (T := TX7) (N := 34) hx hb hts inX7 hown hK hP (hLK _ ha0 (by decide)) oY82 rfl 22 (by decide) (hts _ T_253) (fun _ h9 => h9) rfl dX7_works_350 ?_
                  refine lv_iload hx hb dX7_works_353 (lv_at hl 9 rfl) ?_
                  obtain ⟨f267, o268, b269⟩ := y_op22 hI
                  refine th_iald hx hb hK hP (hLK _ (y_k22 hA) (by decide)) 0 o268 rfl (th_in ⟨by omega, by omega⟩) dX7_works_355 ?_
                  refine lv_topi (fun v270 ev270 => ?_)
                  refine va_calli (va_runS (As := [.int r8, .int v266, .int v270]) (rest := [.int r87, .ref (A 20)]) ⟨hx, hb, hml, hown, hts⟩ (y_X7_made l dC dI H.size F80 r8 v266 v270 (⟨by omega, by omega⟩)) (cwS 3 hts (ax_gS T_1338 T_1340 T_265 T_1339) rfl rfl rfl (by decide +kernel) ⟨Nat.le_of_ble_eq_true rfl, Nat.le_of_ble_eq_true rfl⟩) ⟨fun a U g mk q => ⟨q.1, s_pc rfl rfl q.2⟩, fun U hU hW => ⟨rfl, s_pw hU hW hP hK hD hN⟩⟩ rfl rfl hl.1 rfl (lv_room (Nat.le_of_ble_eq_true rfl)) dX7_works_356 ⟨Nat.zero_le _, Nat.zero_le _⟩) hS (fun q _ h => h) (fun q h => h) (fun r272 F273 t H1 locs ht hvm hw hB hz1 hk1 hS => ?_)
                  obtain ⟨hP, hK1⟩ := hB
                  rw [ht] at hP
                  generalize H1 = H at hP hS ⊢
                  obtain ⟨h274, h276, hG9, h275⟩ := hw
                  rw [hG9] at hP
                  refine th_iast hx hb hK hP hD hS (hLK _ (y_k20 hA) (by decide)) 0 o84 rfl (th_in ⟨by omega, by omega⟩) dX7_works_359 (fun H locs hP hS => ?_)
                  obtain ⟨f277, u278⟩ : ∃ g : Nat → Int32, g = upd f83 (r87 : Int32).toNatClampNeg r272 := ⟨_, rfl⟩
                  rw [← u278] at hP
                  have b279 : y_bd 20 f277 := trivial
                  have hP : va_P (dC, dI) vwCl (va_pl L (va_up F80 (A 20) (.inl (cs 0, 918, .inl f277)))) H := hP
                  obtain ⟨F280, hF281⟩ : ∃ G : Nat → va_E, G = va_up F80 (A 20) (.inl (cs 0, 918, .inl f277)) := ⟨_, rfl⟩
                  rw [← hF281] at hP
                  have hI : y_I K cs A F280 := by rw [hF281]; exact y_clA (i := 20) hA hI (by decide) b279
                  have hfr : ∀ b, K b ∉ [70] → F280 b = F b := by rw [hF281]; exact s_fr hfr (y_k20 hA) (by decide)
                  have o282 : F280 (A 13) = .inl (cs 0, 400, .inl f1) := by rw [hF281]; exact th_ne (th_kd (y_k13 hA) (y_k20 hA) (by decide)) o81
                  have o283 : F280 (A 21) = .inl (cs 0, 8, .inl f94) := by rw [hF281]; exact th_ne (th_kd (y_k21 hA) (y_k20 hA) (by decide)) o95
                  have o284 : F280 (A 22) = .inl (cs 0, 8, .inl f267) := by rw [hF281]; exact th_ne (th_kd (y_k22 hA) (y_k20 hA) (by decide)) o268
                  have oY285 : F280 a0 = .inr (7, y_fl A z0 q0) := by rw [hF281]; exact th_ne (th_kd ha0 (y_k20 hA) (by decide)) oY82
                  have o286 : F280 (A 20) = .inl (cs 0, 918, .inl f277) := by rw [hF281]; exact th_up
                  have u287 : ∀ j : Int, 0 ≤ j → y_c f277 j = if j = r87.toInt then r272 else y_c f83 j := by rw [u278]; exact y_cu rfl (by omega)
                  exact K360 _ _ _ ⟨F280, _, rfl, lv_sub hl [4, 5, 6, 7, 8, 9] rfl, hP, hS, hI, hfr, (fun k hk => (y_fiZ oY285 (s_sub (by decide) hk)).trans (hz0 k hk)), ⟨by omega, by omega⟩, ⟨by omega, by omega⟩, ⟨by omega, by omega⟩, ⟨by omega, by omega⟩, (by rw [y_atE o286]; exact (y_E6_t h79 (y_E6_u u287 (by omega))))⟩
  · intro g H locs hq
    obtain ⟨F293, ls, rfl, hl, hP, hS, hI, hfr, hz0, h288, h289, h290, h291, h292⟩ := hq
    have o294 : F293 (A 13) = .inl (cs 0, 400, .inl f1) := (hfr _ (by rw [(y_k13 hA)]; decide)).trans o2
    have oY295 : F293 a0 = .inr (7, y_fl A z0 q0) := (hfr _ (by rw [ha0]; decide)).trans oY0
    have hz0 : ∀ k, k ∈ ([1, 2, 3, 4, 5, 6, 7, 8, 11, 15, 16, 19, 25, 26, 27, 31, 32] : List Nat) → z0 k = z0 k := fun _ _ => rfl
    obtain ⟨f296, o297, b298⟩ := y_op20 hI
    have h292 : (y_E6 f4 f296) := by have q9 := h292; rw [y_atE o297] at q9; exact q9
    obtain ⟨v299, ev299⟩ : ∃ y : Int32, w18 + 1 = y := ⟨_, rfl⟩
    have qv299 : v299.toInt = w18.toInt + 1 := by rw [← ev299]; exact th_add rfl (by decide) ⟨by omega, by omega⟩
    refine lv_iinc (v := v299) (lv' := [(5, .int v299), (0, .ref a0), (1, .int x1), (2, .int x2), (3, .int x3), (4, .int r8)]) hx hb dX7_works_360 hl (k := 5) rfl ev299 (by decide) rfl (fun ls hl => ?_)
    refine lv_goto (tgt := 11) hx hb dX7_works_363 (by decide) ?_
    exact ih11 _ _ _ _ (by omega) ⟨F293, _, v299, rfl, lv_sub hl [1, 2, 3, 4, 5, 0] rfl, hP, hS, hI, hfr, (fun k hk => (y_fiZ oY295 (s_sub (by decide) hk)).trans (hz0 k hk)), ⟨by omega, by omega⟩, ⟨by omega, by omega⟩, ⟨by omega, by omega⟩, ⟨by omega, by omega⟩, (by rw [y_atE o297]; exact h292), rfl⟩
