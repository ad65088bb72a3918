set_option maxHeartbeats 4000000 in
set_option maxRecDepth 100000 in
theorem y_X7_works (l : Launch) (dC : Nat → ClassId) (dI : Nat → Nat → Nat) (sz : Nat) {L : List Nat} {K : Nat → Nat} {cs : Nat → ClassId} (hLK : ∀ a {k : Nat}, K a = k → k ≠ 0 → a ∈ L) (A : Nat → Nat) (hA : y_A K A) (F : Nat → va_E) (a0 : Nat) (x1 : Int32) (x2 : Int32) (x3 : Int32) (ha0 : K a0 = 9) (hx1 : 0 ≤ x1.toInt ∧ x1.toInt ≤ 3) (hx2 : 0 ≤ x2.toInt ∧ x2.toInt ≤ 39) (hI : y_I K cs A F) (hPG : y_PG (y_at F (A 13))) (hln : (x2.toInt < (y_c (y_at F (A 13)) 387).toInt)) : Met l yX7_works (Cond.code yX7_works cX7_works 11 none :: T0) ({ frames := 2, cells := 0, slots := 0, locals := 46 }) (va_Pc [.ref a0, .int x1, .int x2, .int x3] (s_W dC dI sz L F [(cs 0, .int), (cs 1, .byte), (cs 2, .long), (cs 3, .object RX5), (cs 4, .object RX4), (cs 5, .array .int), (cs 6, .char), (cs 7, .boolean)])) (va_Qv (fun (G : Nat → va_E) => True ∧ True ∧ y_I K cs A G ∧ (∀ b, K b ∉ [70] → G b = F b) ∧ (∀ k, k ∈ ([1, 2, 3, 4, 5, 6, 7, 8, 11, 15, 16, 19, 25, 26, 27, 31, 32] : List Nat) → y_fi G a0 k = y_fi F a0 k) ∧ (y_E6 (y_at F (A 20)) (y_at G (A 20)))) (fun (G : Nat → va_E) (t : State) => va_P (dC, dI) vwCl (va_pl L G) t.heap ∧ va_K (dC, dI) vwCl [(cs 0, .int), (cs 1, .byte), (cs 2, .long), (cs 3, .object RX5), (cs 4, .object RX4), (cs 5, .array .int), (cs 6, .char), (cs 7, .boolean)] t) (fun q => q ∈ L)) 0 0 (fun q => q ∈ L) := by
  refine Met.ofW (cc := cX7_works) (maxL := 11) (ret := none) (by decide) rfl ?_
  intro p e s m args below meth c s₁ B hml hv
  obtain ⟨rfl, hsz, hP, hK, hD, hN⟩ := hv
  have hx := B.exec
  have hb := B.bytes
  have hr := B.returns
  have hts : ∀ w ∈ T0, w.before _ s = true := fun w h => atoms_spec (ws := Cond.code yX7_works cX7_works 11 none :: T0) B.pre w (List.mem_cons_of_mem _ h)
  have hown : s.vm.findClass RX7 = some m.cls := findClass_of_methodNamed B.named
  have hlocks := B.notSynchronized
  have hS : va_S (fun q => q ∈ L) s.heap s.heap [] := va_S.rf
  have hfr : ∀ b, K b ∉ [70] → F b = F b := fun _ _ => rfl
  have hl := lv_entry ([.ref a0, .int x1, .int x2, .int x3]) (n := 11) (Nat.le_of_ble_eq_true rfl)
  rw [lg_entry_eq]
  generalize (lg_sl ([.ref a0, .int x1, .int x2, .int x3]) ++ List.replicate (11 - (lg_sl ([.ref a0, .int x1, .int x2, .int x3])).length) Slot.unset).toArray = ls at hl ⊢
  have hl : lv_has ls 11 [(0, .ref a0), (1, .int x1), (2, .int x2), (3, .int x3)] := hl
  refine s_gen hP hS (fun H locs hP hS => ?_)
  obtain ⟨z0, q0, oY0, bz0, bq0⟩ := y_opY hI ha0
  have hz0 : ∀ k, k ∈ ([1, 2, 3, 4, 5, 6, 7, 8, 11, 15, 16, 19, 25, 26, 27, 31, 32] : List Nat) → z0 k = z0 k := fun _ _ => rfl
  obtain ⟨f1, o2, b3⟩ := y_op13 hI
  obtain ⟨f4, o5, b6⟩ := y_op20 hI
  replace hPG : y_PG f1 := by have q9 := hPG; rw [y_atE o2] at q9; exact q9
  replace hln : (x2.toInt < (y_c f1 387).toInt) := by have q9 := hln; rw [y_atE o2] at q9; exact q9
  have hL := y_P0L hPG.1
  have hW := y_P0W hPG.1
  have hrg := hPG.1.1.1 x2.toInt (by omega) (by omega)
  unfold y_rg at hrg
  refine lv_aload_n hx hb dX7_works_0 rfl (lv_at hl 0 rfl) ?_
  refine lv_iload_n hx hb dX7_works_1 rfl (lv_at hl 2 rfl) ?_
  refine lv_iconst (v := 0) hx hb dX7_works_2 (by decide) ?_
  have rg7 : 0 ≤ x2.toInt ∧ x2.toInt ≤ 40 := ⟨by omega, by omega⟩
  refine va_calli (va_runV (As := [.int x2, .int 0]) (rest := []) ⟨hx, hb, hml, hown, hts⟩ (y_X7_of l dC dI H.size hLK A hA F a0 x2 0 ha0 rg7 (by decide) hI) (cwV 2 hts (ax_gV T_1131 T_1133 T_1134 T_265 T_1132) rfl rfl rfl (by decide +kernel) ⟨Nat.le_of_ble_eq_true rfl, Nat.le_of_ble_eq_true rfl⟩) ⟨fun a U g mk q => ⟨q.1, s_pc (U := U) rfl rfl q.2⟩, s_recv hK hP (hLK _ ha0 (by decide)) (ci := 7) rfl oY0, fun U hU hW => ⟨rfl, s_pw hU hW hP hK hD hN⟩⟩ rfl rfl hl.1 rfl (lv_room (Nat.le_of_ble_eq_true rfl)) dX7_works_3 ⟨Nat.zero_le _, Nat.zero_le _⟩) hS (fun q _ h => h) (fun q h => h) (fun r9 F10 t H1 locs ht hvm hw hB hz1 hk1 hS => ?_)
  obtain ⟨hP, hK1⟩ := hB
  rw [ht] at hP
  generalize H1 = H at hP hS ⊢
  clear hz1 hk1 hvm hK1
  obtain ⟨h11, h13, hI, hfr1, hzf, h12⟩ := hw
  have o14 : F10 (A 13) = .inl (cs 0, 400, .inl f1) := (hfr1 _ (by rw [(y_k13 hA)]; decide)).trans o2
  have o15 : F10 (A 20) = .inl (cs 0, 918, .inl f4) := (hfr1 _ (by rw [(y_k20 hA)]; decide)).trans o5
  have oY16 : F10 a0 = .inr (7, y_fl A z0 q0) := (hfr1 _ (by rw [ha0]; decide)).trans oY0
  have hfr : ∀ b, K b ∉ [70] → F10 b = F b := fun b hb9 => (hfr1 b (fun q => hb9 (s_sub (by decide) q))).trans (hfr b hb9)
  replace h12 : (r9 = y_c f1 (8 * x2.toInt + 0)) := by have q9 := h12; rw [y_atE o2] at q9; exact q9
  have h12 : r9 = y_c f1 (8 * x2.toInt) := h12.trans (congrArg (y_c f1) (by omega))
  have h17 := congrArg Int32.toInt h12
  have h18 : 0 ≤ r9.toInt ∧ r9.toInt ≤ 15 := by have q9 := congrArg Int32.toInt h12; exact ⟨by omega, by omega⟩
  refine lv_istore (lv' := [(4, .int r9), (0, .ref a0), (1, .int x1), (2, .int x2), (3, .int x3)]) hx hb dX7_works_6 hl (by decide) rfl (fun ls hl => ?_)
  refine lv_iconst (v := 0) hx hb dX7_works_8 (by decide) ?_
  refine lv_istore (lv' := [(5, .int 0), (4, .int r9), (0, .ref a0), (1, .int x1), (2, .int x2), (3, .int x3)]) hx hb dX7_works_9 hl (by decide) rfl (fun ls hl => ?_)
  have h20 : (0 : Int32).toInt = 0 := by decide
  refine th_loop (fun n g H locs => ∃ (G : Nat → va_E) (ls : Array Slot) (w19 : Int32), g = F0 m 11 ls [] ∧ lv_has ls 11 [(0, .ref a0), (1, .int x1), (2, .int x2), (3, .int x3), (4, .int r9), (5, .int w19)] ∧ va_P (dC, dI) vwCl (va_pl L G) H ∧ va_S (fun q => q ∈ L) s.heap H locs ∧ y_I K cs A G ∧ (∀ b, K b ∉ [70] → G b = F b) ∧ (∀ k, k ∈ ([1, 2, 3, 4, 5, 6, 7, 8, 11, 15, 16, 19, 25, 26, 27, 31, 32] : List Nat) → y_fi G a0 k = z0 k) ∧ (0 ≤ w19.toInt ∧ w19.toInt ≤ 8) ∧ (0 ≤ x1.toInt ∧ x1.toInt ≤ 3) ∧ (0 ≤ x2.toInt ∧ x2.toInt ≤ 39) ∧ (0 ≤ r9.toInt ∧ r9.toInt ≤ 15) ∧ (y_E6 f4 (y_at G (A 20))) ∧ n = (9 - w19.toInt).toNat) _ ⟨F10, _, 0, rfl, lv_sub hl [2, 3, 4, 5, 1, 0] rfl, hP, hS, hI, hfr, (fun k hk => (y_fiZ oY16 (s_sub (by decide) hk)).trans (hz0 k hk)), (by decide), ⟨by omega, by omega⟩, ⟨by omega, by omega⟩, ⟨by omega, by omega⟩, (by rw [y_atE o15]; exact (y_E6_r _)), rfl⟩ (fun n ih11 g H locs hq => ?_)
  obtain ⟨F26, ls, w19, rfl, hl, hP, hS, hI, hfr, hz0, h21, h22, h23, h24, h25, hn⟩ := hq
  have o27 : F26 (A 13) = .inl (cs 0, 400, .inl f1) := (hfr _ (by rw [(y_k13 hA)]; decide)).trans o2
  have oY28 : F26 a0 = .inr (7, y_fl A z0 q0) := (hfr _ (by rw [ha0]; decide)).trans oY0
  have hz0 : ∀ k, k ∈ ([1, 2, 3, 4, 5, 6, 7, 8, 11, 15, 16, 19, 25, 26, 27, 31, 32] : List Nat) → z0 k = z0 k := fun _ _ => rfl
  obtain ⟨f29, o30, b31⟩ := y_op20 hI
  replace h25 : (y_E6 f4 f29) := by have q9 := h25; rw [y_atE o30] at q9; exact q9
  have hn_31 := hn
  refine th_join (fun g H locs => ∃ (G : Nat → va_E) (ls : Array Slot), g = F0 m 360 ls [] ∧ lv_has ls 11 [(0, .ref a0), (1, .int x1), (2, .int x2), (3, .int x3), (4, .int r9), (5, .int w19)] ∧ va_P (dC, dI) vwCl (va_pl L G) H ∧ va_S (fun q => q ∈ L) s.heap H locs ∧ y_I K cs A G ∧ (∀ b, K b ∉ [70] → G b = F b) ∧ (∀ k, k ∈ ([1, 2, 3, 4, 5, 6, 7, 8, 11, 15, 16, 19, 25, 26, 27, 31, 32] : List Nat) → y_fi G a0 k = z0 k) ∧ (0 ≤ x1.toInt ∧ x1.toInt ≤ 3) ∧ (0 ≤ x2.toInt ∧ x2.toInt ≤ 39) ∧ (0 ≤ r9.toInt ∧ r9.toInt ≤ 15) ∧ (0 ≤ w19.toInt ∧ w19.toInt ≤ 7) ∧ (y_E6 f4 (y_at G (A 20)))) (fun K360 => ?_) ?_
  refine th_join (fun g H locs => ∃ (G : Nat → va_E) (ls : Array Slot) (w32 : Int32) (w33 : Int32) (w34 : Int32), g = F0 m 60 ls [.int w32, .int w33, .int w34] ∧ lv_has ls 11 [(0, .ref a0), (1, .int x1), (2, .int x2), (3, .int x3), (4, .int r9), (5, .int w19)] ∧ va_P (dC, dI) vwCl (va_pl L G) H ∧ va_S (fun q => q ∈ L) s.heap H locs ∧ y_I K cs A G ∧ (∀ b, K b ∉ [70] → G b = F b) ∧ (∀ k, k ∈ ([1, 2, 3, 4, 5, 6, 7, 8, 11, 15, 16, 19, 25, 26, 27, 31, 32] : List Nat) → y_fi G a0 k = z0 k) ∧ (0 ≤ w32.toInt ∧ w32.toInt ≤ 3) ∧ (0 ≤ w33.toInt ∧ w33.toInt ≤ 7) ∧ (0 ≤ w34.toInt ∧ w34.toInt ≤ 3) ∧ (0 ≤ x1.toInt ∧ x1.toInt ≤ 3) ∧ (0 ≤ x2.toInt ∧ x2.toInt ≤ 39) ∧ (0 ≤ r9.toInt ∧ r9.toInt ≤ 15) ∧ (0 ≤ w19.toInt ∧ w19.toInt ≤ 7) ∧ (y_E6 f4 (y_at G (A 20)))) (fun K60 => ?_) ?_
  · refine lv_iload hx hb dX7_works_11 (lv_at hl 5 rfl) ?_
    refine lv_bipush (v := 8) hx hb dX7_works_13 (by decide) ?_
    refine lv_icmp_ge (tgt := 366) hx hb dX7_works_15 (by decide) (fun c35 => ?_) (fun c35 => ?_)
    · have c35 := (ax_ge (n := 8) (by decide)).mp c35
      exact W.vret hx hb hr (fun t ht hW => ⟨⟨F26, rfl, ⟨trivial, trivial, hI, hfr, fun k hk => (y_fiZ oY28 (s_sub (by decide) hk)).trans ((hz0 k hk).trans (y_fiZ oY0 (s_sub (by decide) hk)).symm), (by rw [y_atE o5, y_atE o30]; exact h25)⟩, by rw [ht]; exact hP, va_K.moved hW.alike hK⟩, hS.F ht⟩) hS.2.2 dX7_works_366
    · have c35 := mt (ax_ge (n := 8) (by decide)).mpr c35
      refine lv_iload_n hx hb dX7_works_18 rfl (lv_at hl 3 rfl) ?_
      refine lv_iload hx hb dX7_works_19 (lv_at hl 5 rfl) ?_
      have rg36 : 0 ≤ w19.toInt ∧ w19.toInt ≤ 31 := ⟨by omega, by omega⟩
      refine va_calli (va_runS (As := [.int x3, .int w19]) (rest := []) ⟨hx, hb, hml, hown, hts⟩ (y_X7_isOf l dC dI H.size F26 x3 w19 rg36) (cwS 2 hts (ax_gS T_1027 T_1029 T_265 T_1028) rfl rfl rfl (by decide +kernel) ⟨Nat.le_of_ble_eq_true rfl, Nat.le_of_ble_eq_true rfl⟩) ⟨fun a U g mk q => ⟨q.1, s_pc (U := U) rfl rfl q.2⟩, fun U hU hW => ⟨rfl, s_pw hU hW hP hK hD hN⟩⟩ rfl rfl hl.1 rfl (lv_room (Nat.le_of_ble_eq_true rfl)) dX7_works_21 ⟨Nat.zero_le _, Nat.zero_le _⟩) hS (fun q _ h => h) (fun q h => h) (fun r38 F39 t H1 locs ht hvm hw hB hz1 hk1 hS => ?_)
      obtain ⟨hP, hK1⟩ := hB
      rw [ht] at hP
      generalize H1 = H at hP hS ⊢
      clear hz1 hk1 hvm hK1
      obtain ⟨h40, h42, hG9, h41⟩ := hw
      rw [hG9] at hP
      replace h41 : ((r38.toInt = 1 ∧ bt x3 w19.toInt.toNat = true) ∨ (r38.toInt = 0 ∧ bt x3 w19.toInt.toNat = false)) := by have q9 := h41; exact q9
      refine lv_if_ne (tgt := 30) hx hb dX7_works_24 (by decide) (fun c43 => ?_) (fun c43 => ?_)
      · have c43 := mt (ax_eq (n := 0) (by decide)).mpr c43
        refine lv_iload_n hx hb dX7_works_30 rfl (lv_at hl 1 rfl) ?_
        refine lv_iload hx hb dX7_works_31 (lv_at hl 5 rfl) ?_
        refine lv_aload_n hx hb dX7_works_33 rfl (lv_at hl 0 rfl) ?_
        refine lv_iload_n hx hb dX7_works_34 rfl (lv_at hl 2 rfl) ?_
        refine lv_iconst (v := 1) hx hb dX7_works_35 (by decide) ?_
        refine va_calli (va_runV (As := [.int x2, .int 1]) (rest := [.int w19, .int x1]) ⟨hx, hb, hml, hown, hts⟩ (y_X7_of l dC dI H.size hLK A hA F26 a0 x2 1 ha0 rg7 (by decide) hI) (cwV 2 hts (ax_gV T_1131 T_1133 T_1134 T_265 T_1132) rfl rfl rfl (by decide +kernel) ⟨Nat.le_of_ble_eq_true rfl, Nat.le_of_ble_eq_true rfl⟩) ⟨fun a U g mk q => ⟨q.1, s_pc (U := U) rfl rfl q.2⟩, s_recv hK hP (hLK _ ha0 (by decide)) (ci := 7) rfl oY28, fun U hU hW => ⟨rfl, s_pw hU hW hP hK hD hN⟩⟩ rfl rfl hl.1 rfl (lv_room (Nat.le_of_ble_eq_true rfl)) dX7_works_36 ⟨Nat.zero_le _, Nat.zero_le _⟩) hS (fun q _ h => h) (fun q h => h) (fun r45 F46 t H1 locs ht hvm hw hB hz1 hk1 hS => ?_)
        obtain ⟨hP, hK1⟩ := hB
        rw [ht] at hP
        generalize H1 = H at hP hS ⊢
        clear hz1 hk1 hvm hK1
        obtain ⟨h47, h49, hI, hfr1, hzf, h48⟩ := hw
        have o50 : F46 (A 13) = .inl (cs 0, 400, .inl f1) := (hfr1 _ (by rw [(y_k13 hA)]; decide)).trans o27
        have o51 : F46 (A 20) = .inl (cs 0, 918, .inl f29) := (hfr1 _ (by rw [(y_k20 hA)]; decide)).trans o30
        have oY52 : F46 a0 = .inr (7, y_fl A z0 q0) := (hfr1 _ (by rw [ha0]; decide)).trans oY28
        have hfr : ∀ b, K b ∉ [70] → F46 b = F b := fun b hb9 => (hfr1 b (fun q => hb9 (s_sub (by decide) q))).trans (hfr b hb9)
        replace h48 : (r45 = y_c f1 (8 * x2.toInt + 1)) := by have q9 := h48; rw [y_atE o27] at q9; exact q9
        have h48 : r45 = y_c f1 (8 * x2.toInt + 1) := h48.trans (congrArg (y_c f1) (by omega))
        have h53 := congrArg Int32.toInt h48
        refine lv_i2l hx hb dX7_works_39 rfl ?_
        refine lv_topl (fun v54 ev54 => ?_)
        have qv54 : v54.toInt = r45.toInt := y_i2l ev54
        refine lv_lconst (v := 0) hx hb dX7_works_40 (by decide) ?_
        refine lv_ldc2 hx hb hown (hts _ T_1238) dX7_works_41 ?_
        refine va_calli (va_runS (As := [.long v54, .long 0, .long 3]) (rest := [.int w19, .int x1]) ⟨hx, hb, hml, hown, hts⟩ (y_X7_isIn l dC dI H.size F46 v54 0 3) (cwS 3 hts (ax_gS T_267 T_268 T_265 T_21) rfl rfl rfl (by decide +kernel) ⟨Nat.le_of_ble_eq_true rfl, Nat.le_of_ble_eq_true rfl⟩) ⟨fun a U g mk q => ⟨q.1, s_pc (U := U) rfl rfl q.2⟩, fun U hU hW => ⟨rfl, s_pw hU hW hP hK hD hN⟩⟩ rfl rfl hl.1 rfl (lv_room (Nat.le_of_ble_eq_true rfl)) dX7_works_44 ⟨Nat.zero_le _, Nat.zero_le _⟩) hS (fun q _ h => h) (fun q h => h) (fun r56 F57 t H1 locs ht hvm hw hB hz1 hk1 hS => ?_)
        obtain ⟨hP, hK1⟩ := hB
        rw [ht] at hP
        generalize H1 = H at hP hS ⊢
        clear hz1 hk1 hvm hK1
        obtain ⟨h58, h60, hG9, h59⟩ := hw
        rw [hG9] at hP
        replace h59 : ((r56.toInt = 0 ∧ (v54.toInt < 0 ∨ 3 < v54.toInt)) ∨ (r56.toInt = 1 ∧ 0 ≤ v54.toInt ∧ v54.toInt ≤ 3)) := by have q9 := h59; exact q9
        refine lv_if_eq (tgt := 59) hx hb dX7_works_47 (by decide) (fun c61 => ?_) (fun c61 => ?_)
        · have c61 := (ax_eq (n := 0) (by decide)).mp c61
          refine lv_iconst (v := 0) hx hb dX7_works_59 (by decide) ?_
          have h62 : (0 : Int32).toInt = 0 := by decide
          exact K60 _ _ _ ⟨F46, _, 0, w19, x1, rfl, lv_sub hl [0, 1, 2, 3, 4, 5] rfl, hP, hS, hI, hfr, (fun k hk => (y_fiZ oY52 (s_sub (by decide) hk)).trans (hz0 k hk)), (by decide), ⟨by omega, by omega⟩, ⟨by omega, by omega⟩, ⟨by omega, by omega⟩, ⟨by omega, by omega⟩, ⟨by omega, by omega⟩, ⟨by omega, by omega⟩, (by rw [y_atE o51]; exact h25)⟩
        · have c61 := mt (ax_eq (n := 0) (by decide)).mpr c61
          refine lv_aload_n hx hb dX7_works_50 rfl (lv_at hl 0 rfl) ?_
          refine lv_iload_n hx hb dX7_works_51 rfl (lv_at hl 2 rfl) ?_
          refine lv_iconst (v := 1) hx hb dX7_works_52 (by decide) ?_
          refine va_calli (va_runV (As := [.int x2, .int 1]) (rest := [.int w19, .int x1]) ⟨hx, hb, hml, hown, hts⟩ (y_X7_of l dC dI H.size hLK A hA F46 a0 x2 1 ha0 rg7 (by decide) hI) (cwV 2 hts (ax_gV T_1131 T_1133 T_1134 T_265 T_1132) rfl rfl rfl (by decide +kernel) ⟨Nat.le_of_ble_eq_true rfl, Nat.le_of_ble_eq_true rfl⟩) ⟨fun a U g mk q => ⟨q.1, s_pc (U := U) rfl rfl q.2⟩, s_recv hK hP (hLK _ ha0 (by decide)) (ci := 7) rfl oY52, fun U hU hW => ⟨rfl, s_pw hU hW hP hK hD hN⟩⟩ rfl rfl hl.1 rfl (lv_room (Nat.le_of_ble_eq_true rfl)) dX7_works_53 ⟨Nat.zero_le _, Nat.zero_le _⟩) hS (fun q _ h => h) (fun q h => h) (fun r64 F65 t H1 locs ht hvm hw hB hz1 hk1 hS => ?_)
          obtain ⟨hP, hK1⟩ := hB
          rw [ht] at hP
          generalize H1 = H at hP hS ⊢
          clear hz1 hk1 hvm hK1
          obtain ⟨h66, h68, hI, hfr1, hzf, h67⟩ := hw
          have o69 : F65 (A 13) = .inl (cs 0, 400, .inl f1) := (hfr1 _ (by rw [(y_k13 hA)]; decide)).trans o50
          have o70 : F65 (A 20) = .inl (cs 0, 918, .inl f29) := (hfr1 _ (by rw [(y_k20 hA)]; decide)).trans o51
          have oY71 : F65 a0 = .inr (7, y_fl A z0 q0) := (hfr1 _ (by rw [ha0]; decide)).trans oY52
          have hfr : ∀ b, K b ∉ [70] → F65 b = F b := fun b hb9 => (hfr1 b (fun q => hb9 (s_sub (by decide) q))).trans (hfr b hb9)
          replace h67 : (r64 = y_c f1 (8 * x2.toInt + 1)) := by have q9 := h67; rw [y_atE o50] at q9; exact q9
          have h67 : r64 = y_c f1 (8 * x2.toInt + 1) := h67.trans (congrArg (y_c f1) (by omega))
          have h72 := congrArg Int32.toInt h67
          have h73 : 0 ≤ r64.toInt ∧ r64.toInt ≤ 3 := by have q8 := h48; have q9 := h67; have q7 := congrArg Int32.toInt (q9.trans q8.symm); exact ⟨by omega, by omega⟩
          refine lv_goto (tgt := 60) hx hb dX7_works_56 (by decide) ?_
          exact K60 _ _ _ ⟨F65, _, r64, w19, x1, rfl, lv_sub hl [0, 1, 2, 3, 4, 5] rfl, hP, hS, hI, hfr, (fun k hk => (y_fiZ oY71 (s_sub (by decide) hk)).trans (hz0 k hk)), ⟨by omega, by omega⟩, ⟨by omega, by omega⟩, ⟨by omega, by omega⟩, ⟨by omega, by omega⟩, ⟨by omega, by omega⟩, ⟨by omega, by omega⟩, ⟨by omega, by omega⟩, (by rw [y_atE o70]; exact h25)⟩
      · have c43 := (ax_eq (n := 0) (by decide)).mp c43
        refine lv_goto (tgt := 360) hx hb dX7_works_27 (by decide) ?_
        exact K360 _ _ _ ⟨F26, _, rfl, lv_sub hl [0, 1, 2, 3, 4, 5] rfl, hP, hS, hI, hfr, (fun k hk => (y_fiZ oY28 (s_sub (by decide) hk)).trans (hz0 k hk)), ⟨by omega, by omega⟩, ⟨by omega, by omega⟩, ⟨by omega, by omega⟩, ⟨by omega, by omega⟩, (by rw [y_atE o30]; exact h25)⟩
  · intro g H locs hq
    obtain ⟨F82, ls, w32, w33, w34, rfl, hl, hP, hS, hI, hfr, hz0, h74, h75, h76, h77, h78, h79, h80, h81⟩ := hq
    have o83 : F82 (A 13) = .inl (cs 0, 400, .inl f1) := (hfr _ (by rw [(y_k13 hA)]; decide)).trans o2
    have oY84 : F82 a0 = .inr (7, y_fl A z0 q0) := (hfr _ (by rw [ha0]; decide)).trans oY0
    have hz0 : ∀ k, k ∈ ([1, 2, 3, 4, 5, 6, 7, 8, 11, 15, 16, 19, 25, 26, 27, 31, 32] : List Nat) → z0 k = z0 k := fun _ _ => rfl
    obtain ⟨f85, o86, b87⟩ := y_op20 hI
    replace h81 : (y_E6 f4 f85) := by have q9 := h81; rw [y_atE o86] at q9; exact q9
    have rg88 : 0 ≤ w34.toInt ∧ w34.toInt ≤ 3 := ⟨by omega, by omega⟩
    have rg89 : 0 ≤ w33.toInt ∧ w33.toInt ≤ 7 := ⟨by omega, by omega⟩
    have rg90 : 0 ≤ w32.toInt ∧ w32.toInt ≤ 3 := ⟨by omega, by omega⟩
    refine va_calli (va_runS (As := [.int w34, .int w33, .int w32]) (rest := []) ⟨hx, hb, hml, hown, hts⟩ (y_X7_registerAt l dC dI H.size F82 w34 w33 w32 rg88 rg89 rg90) (cwS 3 hts (ax_gS T_1095 T_1097 T_265 T_1096) rfl rfl rfl (by decide +kernel) ⟨Nat.le_of_ble_eq_true rfl, Nat.le_of_ble_eq_true rfl⟩) ⟨fun a U g mk q => ⟨q.1, s_pc (U := U) rfl rfl q.2⟩, fun U hU hW => ⟨rfl, s_pw hU hW hP hK hD hN⟩⟩ rfl rfl hl.1 rfl (lv_room (Nat.le_of_ble_eq_true rfl)) dX7_works_60 ⟨Nat.zero_le _, Nat.zero_le _⟩) hS (fun q _ h => h) (fun q h => h) (fun r92 F93 t H1 locs ht hvm hw hB hz1 hk1 hS => ?_)
    obtain ⟨hP, hK1⟩ := hB
    rw [ht] at hP
    generalize H1 = H at hP hS ⊢
    clear hz1 hk1 hvm hK1
    obtain ⟨h94, h96, hG9, h95⟩ := hw
    rw [hG9] at hP
    replace h95 : (r92.toInt = 128 + 32 * w34.toInt + 4 * w33.toInt + w32.toInt) := by have q9 := h95; exact q9
    refine lv_istore (lv' := [(6, .int r92), (0, .ref a0), (1, .int x1), (2, .int x2), (3, .int x3), (4, .int r9), (5, .int w19)]) hx hb dX7_works_63 hl (by decide) rfl (fun ls hl => ?_)
    refine lv_bipush (v := 8) hx hb dX7_works_65 (by decide) ?_
    refine lv_iload_n hx hb dX7_works_67 rfl (lv_at hl 2 rfl) ?_
    refine lv_imul hx hb dX7_works_68 ?_
    refine lv_topi (fun v97 ev97 => ?_)
    have qv97 : v97.toInt = 8 * x1.toInt := by rw [ev97]; exact th_mul (by decide) rfl ⟨by omega, by omega⟩
    refine lv_iload hx hb dX7_works_69 (lv_at hl 6 rfl) ?_
    refine lv_iadd hx hb dX7_works_71 ?_
    refine lv_topi (fun v98 ev98 => ?_)
    have qv98 : v98.toInt = v97.toInt + w19.toInt := by rw [ev98]; exact th_add rfl rfl ⟨by omega, by omega⟩
    refine lv_istore (lv' := [(7, .int v98), (6, .int r92), (0, .ref a0), (1, .int x1), (2, .int x2), (3, .int x3), (4, .int r9), (5, .int w19)]) hx hb dX7_works_72 hl (by decide) rfl (fun ls hl => ?_)
    refine lv_aload_n hx hb dX7_works_74 rfl (lv_at hl 2 rfl) ?_
    refine th_get (D := (dC, dI)) (ci := 7) (v := .ref (A 21)) (C := RX7) (T := TX7) (N := 34) hx hb hts inX7 hown hK hP (hLK _ ha0 (by decide)) oY84 rfl 21 (by decide) (hts _ T_252) (fun _ h9 => h9) rfl dX7_works_75 ?_
    refine lv_iload hx hb dX7_works_78 (lv_at hl 7 rfl) ?_
    obtain ⟨f99, o100, b101⟩ := y_op21 hI
    refine th_iald hx hb hK hP (hLK _ (y_k21 hA) (by decide)) 0 o100 rfl (th_in ⟨by omega, by omega⟩) dX7_works_80 ?_
    refine lv_topi (fun v102 ev102 => ?_)
    refine lv_i2l hx hb dX7_works_81 rfl ?_
    refine lv_topl (fun v103 ev103 => ?_)
    have qv103 : v103.toInt = v102.toInt := y_i2l ev103
    refine lv_bipush (v := 64) hx hb dX7_works_82 (by decide) ?_
    refine va_calli (va_runS (As := [.long v103, .int 64]) (rest := []) ⟨hx, hb, hml, hown, hts⟩ (y_X7_modulo l dC dI H.size F82 v103 64 (by decide)) (cwS 2 hts (ax_gS T_1204 T_1206 T_265 T_1205) rfl rfl rfl (by decide +kernel) ⟨Nat.le_of_ble_eq_true rfl, Nat.le_of_ble_eq_true rfl⟩) ⟨fun a U g mk q => ⟨q.1, s_pc (U := U) rfl rfl q.2⟩, fun U hU hW => ⟨rfl, s_pw hU hW hP hK hD hN⟩⟩ rfl rfl hl.1 rfl (lv_room (Nat.le_of_ble_eq_true rfl)) dX7_works_84 ⟨Nat.zero_le _, Nat.zero_le _⟩) hS (fun q _ h => h) (fun q h => h) (fun r105 F106 t H1 locs ht hvm hw hB hz1 hk1 hS => ?_)
    obtain ⟨hP, hK1⟩ := hB
    rw [ht] at hP
    generalize H1 = H at hP hS ⊢
    clear hz1 hk1 hvm hK1
    obtain ⟨h107, h109, hG9, h108⟩ := hw
    rw [hG9] at hP
    replace h108 : (0 ≤ r105.toInt ∧ r105.toInt < 64) := by have q9 := h108; exact q9
    have h110 : 0 ≤ r105.toInt ∧ r105.toInt ≤ 63 := ⟨by omega, by omega⟩
    refine lv_istore (lv' := [(8, .int r105), (7, .int v98), (6, .int r92), (0, .ref a0), (1, .int x1), (2, .int x2), (3, .int x3), (4, .int r9), (5, .int w19)]) hx hb dX7_works_87 hl (by decide) rfl (fun ls hl => ?_)
    refine lv_aload_n hx hb dX7_works_89 rfl (lv_at hl 3 rfl) ?_
    refine th_get (D := (dC, dI)) (ci := 7) (v := .ref (A 21)) (C := RX7) (T := TX7) (N := 34) hx hb hts inX7 hown hK hP (hLK _ ha0 (by decide)) oY84 rfl 21 (by decide) (hts _ T_252) (fun _ h9 => h9) rfl dX7_works_90 ?_
    refine lv_iload hx hb dX7_works_93 (lv_at hl 8 rfl) ?_
    refine th_iald hx hb hK hP (hLK _ (y_k21 hA) (by decide)) 0 o100 rfl (th_in ⟨by omega, by omega⟩) dX7_works_95 ?_
    refine lv_topi (fun v111 ev111 => ?_)
    refine lv_i2l hx hb dX7_works_96 rfl ?_
    refine lv_topl (fun v112 ev112 => ?_)
    have qv112 : v112.toInt = v111.toInt := y_i2l ev112
    refine lv_bipush (v := 32) hx hb dX7_works_97 (by decide) ?_
    refine va_calli (va_runS (As := [.long v112, .int 32]) (rest := []) ⟨hx, hb, hml, hown, hts⟩ (y_X7_modulo l dC dI H.size F82 v112 32 (by decide)) (cwS 2 hts (ax_gS T_1204 T_1206 T_265 T_1205) rfl rfl rfl (by decide +kernel) ⟨Nat.le_of_ble_eq_true rfl, Nat.le_of_ble_eq_true rfl⟩) ⟨fun a U g mk q => ⟨q.1, s_pc (U := U) rfl rfl q.2⟩, fun U hU hW => ⟨rfl, s_pw hU hW hP hK hD hN⟩⟩ rfl rfl hl.1 rfl (lv_room (Nat.le_of_ble_eq_true rfl)) dX7_works_99 ⟨Nat.zero_le _, Nat.zero_le _⟩) hS (fun q _ h => h) (fun q h => h) (fun r114 F115 t H1 locs ht hvm hw hB hz1 hk1 hS => ?_)
    obtain ⟨hP, hK1⟩ := hB
    rw [ht] at hP
    generalize H1 = H at hP hS ⊢
    clear hz1 hk1 hvm hK1
    obtain ⟨h116, h118, hG9, h117⟩ := hw
    rw [hG9] at hP
    replace h117 : (0 ≤ r114.toInt ∧ r114.toInt < 32) := by have q9 := h117; exact q9
    have h119 : 0 ≤ r114.toInt ∧ r114.toInt ≤ 31 := ⟨by omega, by omega⟩
    refine lv_istore (lv' := [(9, .int r114), (8, .int r105), (7, .int v98), (6, .int r92), (0, .ref a0), (1, .int x1), (2, .int x2), (3, .int x3), (4, .int r9), (5, .int w19)]) hx hb dX7_works_102 hl (by decide) rfl (fun ls hl => ?_)
    refine lv_iload hx hb dX7_works_104 (lv_at hl 8 rfl) ?_
    by_cases c120 : r9 = 5
    · refine ax_eqi c120 ?_
      refine lv_tableIn (off := 42) (tgt := 148) hx hb dX7_works_106 (by decide) (by decide) (by decide) (by decide) ?_
      have c120 := (ax_eq (n := 5) (by decide)).mp c120
      refine lv_aload_n hx hb dX7_works_148 rfl (lv_at hl 4 rfl) ?_
      refine th_get (D := (dC, dI)) (ci := 7) (v := .ref (A 20)) (C := RX7) (T := TX7) (N := 34) hx hb hts inX7 hown hK hP (hLK _ ha0 (by decide)) oY84 rfl 20 (by decide) (hts _ T_251) (fun _ h9 => h9) rfl dX7_works_149 ?_
      refine lv_iload hx hb dX7_works_152 (lv_at hl 3 rfl) ?_
      refine lv_iload hx hb dX7_works_154 (lv_at hl 9 rfl) ?_
      refine th_iast hx hb hK hP hD hS (hLK _ (y_k20 hA) (by decide)) 0 o86 rfl (th_in ⟨by omega, by omega⟩) dX7_works_156 (fun H locs hP hS => ?_)
      obtain ⟨f121, u122⟩ : ∃ g : Nat → Int32, g = upd f85 (r92 : Int32).toNatClampNeg w19 := ⟨_, rfl⟩
      rw [← u122] at hP
      have b123 : y_bd 20 f121 := trivial
      have hP : va_P (dC, dI) vwCl (va_pl L (va_up F82 (A 20) (.inl (cs 0, 918, .inl f121)))) H := hP
      obtain ⟨F124, hF125⟩ : ∃ G : Nat → va_E, G = va_up F82 (A 20) (.inl (cs 0, 918, .inl f121)) := ⟨_, rfl⟩
      rw [← hF125] at hP
      have hI : y_I K cs A F124 := by rw [hF125]; exact y_clA (i := 20) hA hI (by decide) b123
      have hfr : ∀ b, K b ∉ [70] → F124 b = F b := by rw [hF125]; exact s_fr hfr (y_k20 hA) (by decide)
      have o126 : F124 (A 13) = .inl (cs 0, 400, .inl f1) := by rw [hF125]; exact th_ne (th_kd (y_k13 hA) (y_k20 hA) (by decide)) o83
      have o127 : F124 (A 21) = .inl (cs 0, 8, .inl f99) := by rw [hF125]; exact th_ne (th_kd (y_k21 hA) (y_k20 hA) (by decide)) o100
      have oY128 : F124 a0 = .inr (7, y_fl A z0 q0) := by rw [hF125]; exact th_ne (th_kd ha0 (y_k20 hA) (by decide)) oY84
      have o129 : F124 (A 20) = .inl (cs 0, 918, .inl f121) := by rw [hF125]; exact th_up
      have u130 : ∀ j : Int, 0 ≤ j → y_c f121 j = if j = r92.toInt then w19 else y_c f85 j := by rw [u122]; exact y_cu rfl (by omega)
      refine lv_goto (tgt := 360) hx hb dX7_works_157 (by decide) ?_
      exact K360 _ _ _ ⟨F124, _, rfl, lv_sub hl [4, 5, 6, 7, 8, 9] rfl, hP, hS, hI, hfr, (fun k hk => (y_fiZ oY128 (s_sub (by decide) hk)).trans (hz0 k hk)), ⟨by omega, by omega⟩, ⟨by omega, by omega⟩, ⟨by omega, by omega⟩, ⟨by omega, by omega⟩, (by rw [y_atE o129]; exact (y_E6_t h81 (y_E6_u u130 (by omega))))⟩
    · have c120 := mt (ax_eq (n := 5) (by decide)).mpr c120
      by_cases c131 : r9 = 6
      · refine ax_eqi c131 ?_
        refine lv_tableIn (off := 54) (tgt := 160) hx hb dX7_works_106 (by decide) (by decide) (by decide) (by decide) ?_
        have c131 := (ax_eq (n := 6) (by decide)).mp c131
        refine lv_aload_n hx hb dX7_works_160 rfl (lv_at hl 4 rfl) ?_
        refine th_get (D := (dC, dI)) (ci := 7) (v := .ref (A 20)) (C := RX7) (T := TX7) (N := 34) hx hb hts inX7 hown hK hP (hLK _ ha0 (by decide)) oY84 rfl 20 (by decide) (hts _ T_251) (fun _ h9 => h9) rfl dX7_works_161 ?_
        refine lv_iload hx hb dX7_works_164 (lv_at hl 3 rfl) ?_
        refine lv_iload_n hx hb dX7_works_166 rfl (lv_at hl 5 rfl) ?_
        refine th_iast hx hb hK hP hD hS (hLK _ (y_k20 hA) (by decide)) 0 o86 rfl (th_in ⟨by omega, by omega⟩) dX7_works_167 (fun H locs hP hS => ?_)
        obtain ⟨f132, u133⟩ : ∃ g : Nat → Int32, g = upd f85 (r92 : Int32).toNatClampNeg x1 := ⟨_, rfl⟩
        rw [← u133] at hP
        have b134 : y_bd 20 f132 := trivial
        have hP : va_P (dC, dI) vwCl (va_pl L (va_up F82 (A 20) (.inl (cs 0, 918, .inl f132)))) H := hP
        obtain ⟨F135, hF136⟩ : ∃ G : Nat → va_E, G = va_up F82 (A 20) (.inl (cs 0, 918, .inl f132)) := ⟨_, rfl⟩
        rw [← hF136] at hP
        have hI : y_I K cs A F135 := by rw [hF136]; exact y_clA (i := 20) hA hI (by decide) b134
        have hfr : ∀ b, K b ∉ [70] → F135 b = F b := by rw [hF136]; exact s_fr hfr (y_k20 hA) (by decide)
        have o137 : F135 (A 13) = .inl (cs 0, 400, .inl f1) := by rw [hF136]; exact th_ne (th_kd (y_k13 hA) (y_k20 hA) (by decide)) o83
        have o138 : F135 (A 21) = .inl (cs 0, 8, .inl f99) := by rw [hF136]; exact th_ne (th_kd (y_k21 hA) (y_k20 hA) (by decide)) o100
        have oY139 : F135 a0 = .inr (7, y_fl A z0 q0) := by rw [hF136]; exact th_ne (th_kd ha0 (y_k20 hA) (by decide)) oY84
        have o140 : F135 (A 20) = .inl (cs 0, 918, .inl f132) := by rw [hF136]; exact th_up
        have u141 : ∀ j : Int, 0 ≤ j → y_c f132 j = if j = r92.toInt then x1 else y_c f85 j := by rw [u133]; exact y_cu rfl (by omega)
        refine lv_goto (tgt := 360) hx hb dX7_works_168 (by decide) ?_
        exact K360 _ _ _ ⟨F135, _, rfl, lv_sub hl [4, 5, 6, 7, 8, 9] rfl, hP, hS, hI, hfr, (fun k hk => (y_fiZ oY139 (s_sub (by decide) hk)).trans (hz0 k hk)), ⟨by omega, by omega⟩, ⟨by omega, by omega⟩, ⟨by omega, by omega⟩, ⟨by omega, by omega⟩, (by rw [y_atE o140]; exact (y_E6_t h81 (y_E6_u u141 (by omega))))⟩
      · have c131 := mt (ax_eq (n := 6) (by decide)).mpr c131
        by_cases c142 : r9 = 7
        · refine ax_eqi c142 ?_
          refine lv_tableIn (off := 65) (tgt := 171) hx hb dX7_works_106 (by decide) (by decide) (by decide) (by decide) ?_
          have c142 := (ax_eq (n := 7) (by decide)).mp c142
          refine lv_aload_n hx hb dX7_works_171 rfl (lv_at hl 4 rfl) ?_
          refine lv_iload hx hb dX7_works_172 (lv_at hl 1 rfl) ?_
          refine lv_iload hx hb dX7_works_174 (lv_at hl 2 rfl) ?_
          refine lv_iconst (v := 0) hx hb dX7_works_176 (by decide) ?_
          have rg143 : 0 ≤ r105.toInt ∧ r105.toInt ≤ 95 := ⟨by omega, by omega⟩
          have rg144 : 0 ≤ v98.toInt ∧ v98.toInt ≤ 31 := ⟨by omega, by omega⟩
          refine va_callv (va_runV (As := [.int r105, .int v98, .int 0]) (rest := []) ⟨hx, hb, hml, hown, hts⟩ (y_X7_touches l dC dI H.size hLK A hA F82 a0 r105 v98 0 ha0 rg143 rg144 (by decide) hI) (cwV 3 hts (ax_gV T_1334 T_1336 T_1337 T_265 T_1335) rfl rfl rfl (by decide +kernel) ⟨Nat.le_of_ble_eq_true rfl, Nat.le_of_ble_eq_true rfl⟩) ⟨fun a U g mk q => ⟨q.1, s_pc (U := U) rfl rfl q.2⟩, s_recv hK hP (hLK _ ha0 (by decide)) (ci := 7) rfl oY84, fun U hU hW => ⟨rfl, s_pw hU hW hP hK hD hN⟩⟩ rfl rfl hl.1 rfl (lv_room (Nat.le_of_ble_eq_true rfl)) dX7_works_177 ⟨Nat.zero_le _, Nat.zero_le _⟩) hS (fun q _ h => h) (fun q h => h) (fun F146 t H1 locs ht hvm hw hB hz1 hk1 hS => ?_)
          obtain ⟨hP, hK1⟩ := hB
          rw [ht] at hP
          generalize H1 = H at hP hS ⊢
          clear hz1 hk1 hvm hK1
          obtain ⟨h147, h149, hI, hfr1, hzf, h148⟩ := hw
          have o150 : F146 (A 13) = .inl (cs 0, 400, .inl f1) := (hfr1 _ (by rw [(y_k13 hA)]; decide)).trans o83
          have o151 : F146 (A 21) = .inl (cs 0, 8, .inl f99) := (hfr1 _ (by rw [(y_k21 hA)]; decide)).trans o100
          have oY152 : F146 a0 = .inr (7, y_fl A z0 q0) := (hfr1 _ (by rw [ha0]; decide)).trans oY84
          have hfr : ∀ b, K b ∉ [70] → F146 b = F b := fun b hb9 => (hfr1 b (fun q => hb9 (s_sub (by decide) q))).trans (hfr b hb9)
          obtain ⟨f153, o154, b155⟩ := y_op20 hI
          replace h148 : (y_E6 f85 f153) := by have q9 := h148; rw [y_atE o86, y_atE o154] at q9; exact q9
          refine lv_aload_n hx hb dX7_works_180 rfl (lv_at hl 4 rfl) ?_
          refine th_get (D := (dC, dI)) (ci := 7) (v := .ref (A 20)) (C := RX7) (T := TX7) (N := 34) hx hb hts inX7 hown hK hP (hLK _ ha0 (by decide)) oY152 rfl 20 (by decide) (hts _ T_251) (fun _ h9 => h9) rfl dX7_works_181 ?_
          refine lv_iload hx hb dX7_works_184 (lv_at hl 3 rfl) ?_
          refine lv_aload_n hx hb dX7_works_186 rfl (lv_at hl 4 rfl) ?_
          refine th_get (D := (dC, dI)) (ci := 7) (v := .ref (A 20)) (C := RX7) (T := TX7) (N := 34) hx hb hts inX7 hown hK hP (hLK _ ha0 (by decide)) oY152 rfl 20 (by decide) (hts _ T_251) (fun _ h9 => h9) rfl dX7_works_187 ?_
          refine lv_bipush (v := 8) hx hb dX7_works_190 (by decide) ?_
          refine lv_iload hx hb dX7_works_192 (lv_at hl 1 rfl) ?_
          refine lv_iadd hx hb dX7_works_194 ?_
          refine lv_topi (fun v156 ev156 => ?_)
          have qv156 : v156.toInt = 8 + r105.toInt := by rw [ev156]; exact th_add (by decide) rfl ⟨by omega, by omega⟩
          refine th_iald hx hb hK hP (hLK _ (y_k20 hA) (by decide)) 0 o154 rfl (th_in ⟨by omega, by omega⟩) dX7_works_195 ?_
          refine lv_topi (fun v157 ev157 => ?_)
          refine th_iast hx hb hK hP hD hS (hLK _ (y_k20 hA) (by decide)) 0 o154 rfl (th_in ⟨by omega, by omega⟩) dX7_works_196 (fun H locs hP hS => ?_)
          obtain ⟨f158, u159⟩ : ∃ g : Nat → Int32, g = upd f153 (r92 : Int32).toNatClampNeg v157 := ⟨_, rfl⟩
          rw [← u159] at hP
          have b160 : y_bd 20 f158 := trivial
          have hP : va_P (dC, dI) vwCl (va_pl L (va_up F146 (A 20) (.inl (cs 0, 918, .inl f158)))) H := hP
          obtain ⟨F161, hF162⟩ : ∃ G : Nat → va_E, G = va_up F146 (A 20) (.inl (cs 0, 918, .inl f158)) := ⟨_, rfl⟩
          rw [← hF162] at hP
          have hI : y_I K cs A F161 := by rw [hF162]; exact y_clA (i := 20) hA hI (by decide) b160
          have hfr : ∀ b, K b ∉ [70] → F161 b = F b := by rw [hF162]; exact s_fr hfr (y_k20 hA) (by decide)
          have o163 : F161 (A 13) = .inl (cs 0, 400, .inl f1) := by rw [hF162]; exact th_ne (th_kd (y_k13 hA) (y_k20 hA) (by decide)) o150
          have o164 : F161 (A 21) = .inl (cs 0, 8, .inl f99) := by rw [hF162]; exact th_ne (th_kd (y_k21 hA) (y_k20 hA) (by decide)) o151
          have oY165 : F161 a0 = .inr (7, y_fl A z0 q0) := by rw [hF162]; exact th_ne (th_kd ha0 (y_k20 hA) (by decide)) oY152
          have o166 : F161 (A 20) = .inl (cs 0, 918, .inl f158) := by rw [hF162]; exact th_up
          have u167 : ∀ j : Int, 0 ≤ j → y_c f158 j = if j = r92.toInt then v157 else y_c f153 j := by rw [u159]; exact y_cu rfl (by omega)
          refine lv_goto (tgt := 360) hx hb dX7_works_197 (by decide) ?_
          exact K360 _ _ _ ⟨F161, _, rfl, lv_sub hl [4, 5, 6, 7, 8, 9] rfl, hP, hS, hI, hfr, (fun k hk => (y_fiZ oY165 (s_sub (by decide) hk)).trans (hz0 k hk)), ⟨by omega, by omega⟩, ⟨by omega, by omega⟩, ⟨by omega, by omega⟩, ⟨by omega, by omega⟩, (by rw [y_atE o166]; exact (y_E6_t (y_E6_t h81 h148) (y_E6_u u167 (by omega))))⟩
        · have c142 := mt (ax_eq (n := 7) (by decide)).mpr c142
          by_cases c168 : r9 = 8
          · refine ax_eqi c168 ?_
            refine lv_tableIn (off := 94) (tgt := 200) hx hb dX7_works_106 (by decide) (by decide) (by decide) (by decide) ?_
            have c168 := (ax_eq (n := 8) (by decide)).mp c168
            refine lv_aload_n hx hb dX7_works_200 rfl (lv_at hl 4 rfl) ?_
            refine lv_iload hx hb dX7_works_201 (lv_at hl 1 rfl) ?_
            refine lv_iload hx hb dX7_works_203 (lv_at hl 2 rfl) ?_
            refine lv_iconst (v := 1) hx hb dX7_works_205 (by decide) ?_
            have rg169 : 0 ≤ r105.toInt ∧ r105.toInt ≤ 95 := ⟨by omega, by omega⟩
            have rg170 : 0 ≤ v98.toInt ∧ v98.toInt ≤ 31 := ⟨by omega, by omega⟩
            refine va_callv (va_runV (As := [.int r105, .int v98, .int 1]) (rest := []) ⟨hx, hb, hml, hown, hts⟩ (y_X7_touches l dC dI H.size hLK A hA F82 a0 r105 v98 1 ha0 rg169 rg170 (by decide) hI) (cwV 3 hts (ax_gV T_1334 T_1336 T_1337 T_265 T_1335) rfl rfl rfl (by decide +kernel) ⟨Nat.le_of_ble_eq_true rfl, Nat.le_of_ble_eq_true rfl⟩) ⟨fun a U g mk q => ⟨q.1, s_pc (U := U) rfl rfl q.2⟩, s_recv hK hP (hLK _ ha0 (by decide)) (ci := 7) rfl oY84, fun U hU hW => ⟨rfl, s_pw hU hW hP hK hD hN⟩⟩ rfl rfl hl.1 rfl (lv_room (Nat.le_of_ble_eq_true rfl)) dX7_works_206 ⟨Nat.zero_le _, Nat.zero_le _⟩) hS (fun q _ h => h) (fun q h => h) (fun F172 t H1 locs ht hvm hw hB hz1 hk1 hS => ?_)
            obtain ⟨hP, hK1⟩ := hB
            rw [ht] at hP
            generalize H1 = H at hP hS ⊢
            clear hz1 hk1 hvm hK1
            obtain ⟨h173, h175, hI, hfr1, hzf, h174⟩ := hw
            have o176 : F172 (A 13) = .inl (cs 0, 400, .inl f1) := (hfr1 _ (by rw [(y_k13 hA)]; decide)).trans o83
            have o177 : F172 (A 21) = .inl (cs 0, 8, .inl f99) := (hfr1 _ (by rw [(y_k21 hA)]; decide)).trans o100
            have oY178 : F172 a0 = .inr (7, y_fl A z0 q0) := (hfr1 _ (by rw [ha0]; decide)).trans oY84
            have hfr : ∀ b, K b ∉ [70] → F172 b = F b := fun b hb9 => (hfr1 b (fun q => hb9 (s_sub (by decide) q))).trans (hfr b hb9)
            obtain ⟨f179, o180, b181⟩ := y_op20 hI
            replace h174 : (y_E6 f85 f179) := by have q9 := h174; rw [y_atE o86, y_atE o180] at q9; exact q9
            refine lv_aload_n hx hb dX7_works_209 rfl (lv_at hl 4 rfl) ?_
            refine th_get (D := (dC, dI)) (ci := 7) (v := .ref (A 20)) (C := RX7) (T := TX7) (N := 34) hx hb hts inX7 hown hK hP (hLK _ ha0 (by decide)) oY178 rfl 20 (by decide) (hts _ T_251) (fun _ h9 => h9) rfl dX7_works_210 ?_
            refine lv_bipush (v := 8) hx hb dX7_works_213 (by decide) ?_
            refine lv_iload hx hb dX7_works_215 (lv_at hl 1 rfl) ?_
            refine lv_iadd hx hb dX7_works_217 ?_
            refine lv_topi (fun v182 ev182 => ?_)
            have qv182 : v182.toInt = 8 + r105.toInt := by rw [ev182]; exact th_add (by decide) rfl ⟨by omega, by omega⟩
            refine lv_aload_n hx hb dX7_works_218 rfl (lv_at hl 4 rfl) ?_
            refine th_get (D := (dC, dI)) (ci := 7) (v := .ref (A 22)) (C := RX7) (T := TX7) (N := 34) hx hb hts inX7 hown hK hP (hLK _ ha0 (by decide)) oY178 rfl 22 (by decide) (hts _ T_253) (fun _ h9 => h9) rfl dX7_works_219 ?_
            refine lv_iload hx hb dX7_works_222 (lv_at hl 9 rfl) ?_
            obtain ⟨f183, o184, b185⟩ := y_op22 hI
            refine th_iald hx hb hK hP (hLK _ (y_k22 hA) (by decide)) 0 o184 rfl (th_in ⟨by omega, by omega⟩) dX7_works_224 ?_
            refine lv_topi (fun v186 ev186 => ?_)
            refine th_iast hx hb hK hP hD hS (hLK _ (y_k20 hA) (by decide)) 0 o180 rfl (th_in ⟨by omega, by omega⟩) dX7_works_225 (fun H locs hP hS => ?_)
            obtain ⟨f187, u188⟩ : ∃ g : Nat → Int32, g = upd f179 (v182 : Int32).toNatClampNeg v186 := ⟨_, rfl⟩
            rw [← u188] at hP
            have b189 : y_bd 20 f187 := trivial
            have hP : va_P (dC, dI) vwCl (va_pl L (va_up F172 (A 20) (.inl (cs 0, 918, .inl f187)))) H := hP
            obtain ⟨F190, hF191⟩ : ∃ G : Nat → va_E, G = va_up F172 (A 20) (.inl (cs 0, 918, .inl f187)) := ⟨_, rfl⟩
            rw [← hF191] at hP
            have hI : y_I K cs A F190 := by rw [hF191]; exact y_clA (i := 20) hA hI (by decide) b189
            have hfr : ∀ b, K b ∉ [70] → F190 b = F b := by rw [hF191]; exact s_fr hfr (y_k20 hA) (by decide)
            have o192 : F190 (A 13) = .inl (cs 0, 400, .inl f1) := by rw [hF191]; exact th_ne (th_kd (y_k13 hA) (y_k20 hA) (by decide)) o176
            have o193 : F190 (A 21) = .inl (cs 0, 8, .inl f99) := by rw [hF191]; exact th_ne (th_kd (y_k21 hA) (y_k20 hA) (by decide)) o177
            have o194 : F190 (A 22) = .inl (cs 0, 8, .inl f183) := by rw [hF191]; exact th_ne (th_kd (y_k22 hA) (y_k20 hA) (by decide)) o184
            have oY195 : F190 a0 = .inr (7, y_fl A z0 q0) := by rw [hF191]; exact th_ne (th_kd ha0 (y_k20 hA) (by decide)) oY178
            have o196 : F190 (A 20) = .inl (cs 0, 918, .inl f187) := by rw [hF191]; exact th_up
            have u197 : ∀ j : Int, 0 ≤ j → y_c f187 j = if j = v182.toInt then v186 else y_c f179 j := by rw [u188]; exact y_cu rfl (by omega)
            refine lv_goto (tgt := 360) hx hb dX7_works_226 (by decide) ?_
            exact K360 _ _ _ ⟨F190, _, rfl, lv_sub hl [4, 5, 6, 7, 8, 9] rfl, hP, hS, hI, hfr, (fun k hk => (y_fiZ oY195 (s_sub (by decide) hk)).trans (hz0 k hk)), ⟨by omega, by omega⟩, ⟨by omega, by omega⟩, ⟨by omega, by omega⟩, ⟨by omega, by omega⟩, (by rw [y_atE o196]; exact (y_E6_t (y_E6_t h81 h174) (y_E6_u u197 (by omega))))⟩
          · have c168 := mt (ax_eq (n := 8) (by decide)).mpr c168
            by_cases c198 : r9 = 9
            · refine ax_eqi c198 ?_
              refine lv_tableIn (off := 123) (tgt := 229) hx hb dX7_works_106 (by decide) (by decide) (by decide) (by decide) ?_
              have c198 := (ax_eq (n := 9) (by decide)).mp c198
              refine lv_aload_n hx hb dX7_works_229 rfl (lv_at hl 4 rfl) ?_
              refine lv_bipush (v := 64) hx hb dX7_works_230 (by decide) ?_
              refine lv_iload hx hb dX7_works_232 (lv_at hl 0 rfl) ?_
              refine lv_iadd hx hb dX7_works_234 ?_
              refine lv_topi (fun v199 ev199 => ?_)
              have qv199 : v199.toInt = 64 + r114.toInt := by rw [ev199]; exact th_add (by decide) rfl ⟨by omega, by omega⟩
              refine lv_iload hx hb dX7_works_235 (lv_at hl 2 rfl) ?_
              refine lv_iconst (v := 0) hx hb dX7_works_237 (by decide) ?_
              have rg200 : 0 ≤ v199.toInt ∧ v199.toInt ≤ 95 := ⟨by omega, by omega⟩
              have rg201 : 0 ≤ v98.toInt ∧ v98.toInt ≤ 31 := ⟨by omega, by omega⟩
              refine va_callv (va_runV (As := [.int v199, .int v98, .int 0]) (rest := []) ⟨hx, hb, hml, hown, hts⟩ (y_X7_touches l dC dI H.size hLK A hA F82 a0 v199 v98 0 ha0 rg200 rg201 (by decide) hI) (cwV 3 hts (ax_gV T_1334 T_1336 T_1337 T_265 T_1335) rfl rfl rfl (by decide +kernel) ⟨Nat.le_of_ble_eq_true rfl, Nat.le_of_ble_eq_true rfl⟩) ⟨fun a U g mk q => ⟨q.1, s_pc (U := U) rfl rfl q.2⟩, s_recv hK hP (hLK _ ha0 (by decide)) (ci := 7) rfl oY84, fun U hU hW => ⟨rfl, s_pw hU hW hP hK hD hN⟩⟩ rfl rfl hl.1 rfl (lv_room (Nat.le_of_ble_eq_true rfl)) dX7_works_238 ⟨Nat.zero_le _, Nat.zero_le _⟩) hS (fun q _ h => h) (fun q h => h) (fun F203 t H1 locs ht hvm hw hB hz1 hk1 hS => ?_)
              obtain ⟨hP, hK1⟩ := hB
              rw [ht] at hP
              generalize H1 = H at hP hS ⊢
              clear hz1 hk1 hvm hK1
              obtain ⟨h204, h206, hI, hfr1, hzf, h205⟩ := hw
              have o207 : F203 (A 13) = .inl (cs 0, 400, .inl f1) := (hfr1 _ (by rw [(y_k13 hA)]; decide)).trans o83
              have o208 : F203 (A 21) = .inl (cs 0, 8, .inl f99) := (hfr1 _ (by rw [(y_k21 hA)]; decide)).trans o100
              have oY209 : F203 a0 = .inr (7, y_fl A z0 q0) := (hfr1 _ (by rw [ha0]; decide)).trans oY84
              have hfr : ∀ b, K b ∉ [70] → F203 b = F b := fun b hb9 => (hfr1 b (fun q => hb9 (s_sub (by decide) q))).trans (hfr b hb9)
              obtain ⟨f210, o211, b212⟩ := y_op20 hI
              replace h205 : (y_E6 f85 f210) := by have q9 := h205; rw [y_atE o86, y_atE o211] at q9; exact q9
              refine lv_aload_n hx hb dX7_works_241 rfl (lv_at hl 4 rfl) ?_
              refine th_get (D := (dC, dI)) (ci := 7) (v := .ref (A 20)) (C := RX7) (T := TX7) (N := 34) hx hb hts inX7 hown hK hP (hLK _ ha0 (by decide)) oY209 rfl 20 (by decide) (hts _ T_251) (fun _ h9 => h9) rfl dX7_works_242 ?_
              refine lv_iload hx hb dX7_works_245 (lv_at hl 3 rfl) ?_
              refine lv_aload_n hx hb dX7_works_247 rfl (lv_at hl 4 rfl) ?_
              refine th_get (D := (dC, dI)) (ci := 7) (v := .ref (A 20)) (C := RX7) (T := TX7) (N := 34) hx hb hts inX7 hown hK hP (hLK _ ha0 (by decide)) oY209 rfl 20 (by decide) (hts _ T_251) (fun _ h9 => h9) rfl dX7_works_248 ?_
              refine lv_bipush (v := 72) hx hb dX7_works_251 (by decide) ?_
              refine lv_iload hx hb dX7_works_253 (lv_at hl 0 rfl) ?_
              refine lv_iadd hx hb dX7_works_255 ?_
              refine lv_topi (fun v213 ev213 => ?_)
              have qv213 : v213.toInt = 72 + r114.toInt := by rw [ev213]; exact th_add (by decide) rfl ⟨by omega, by omega⟩
              refine th_iald hx hb hK hP (hLK _ (y_k20 hA) (by decide)) 0 o211 rfl (th_in ⟨by omega, by omega⟩) dX7_works_256 ?_
              refine lv_topi (fun v214 ev214 => ?_)
              refine th_iast hx hb hK hP hD hS (hLK _ (y_k20 hA) (by decide)) 0 o211 rfl (th_in ⟨by omega, by omega⟩) dX7_works_257 (fun H locs hP hS => ?_)
              obtain ⟨f215, u216⟩ : ∃ g : Nat → Int32, g = upd f210 (r92 : Int32).toNatClampNeg v214 := ⟨_, rfl⟩
              rw [← u216] at hP
              have b217 : y_bd 20 f215 := trivial
              have hP : va_P (dC, dI) vwCl (va_pl L (va_up F203 (A 20) (.inl (cs 0, 918, .inl f215)))) H := hP
              obtain ⟨F218, hF219⟩ : ∃ G : Nat → va_E, G = va_up F203 (A 20) (.inl (cs 0, 918, .inl f215)) := ⟨_, rfl⟩
              rw [← hF219] at hP
              have hI : y_I K cs A F218 := by rw [hF219]; exact y_clA (i := 20) hA hI (by decide) b217
              have hfr : ∀ b, K b ∉ [70] → F218 b = F b := by rw [hF219]; exact s_fr hfr (y_k20 hA) (by decide)
              have o220 : F218 (A 13) = .inl (cs 0, 400, .inl f1) := by rw [hF219]; exact th_ne (th_kd (y_k13 hA) (y_k20 hA) (by decide)) o207
              have o221 : F218 (A 21) = .inl (cs 0, 8, .inl f99) := by rw [hF219]; exact th_ne (th_kd (y_k21 hA) (y_k20 hA) (by decide)) o208
              have oY222 : F218 a0 = .inr (7, y_fl A z0 q0) := by rw [hF219]; exact th_ne (th_kd ha0 (y_k20 hA) (by decide)) oY209
              have o223 : F218 (A 20) = .inl (cs 0, 918, .inl f215) := by rw [hF219]; exact th_up
              have u224 : ∀ j : Int, 0 ≤ j → y_c f215 j = if j = r92.toInt then v214 else y_c f210 j := by rw [u216]; exact y_cu rfl (by omega)
              refine lv_goto (tgt := 360) hx hb dX7_works_258 (by decide) ?_
              exact K360 _ _ _ ⟨F218, _, rfl, lv_sub hl [4, 5, 6, 7, 8, 9] rfl, hP, hS, hI, hfr, (fun k hk => (y_fiZ oY222 (s_sub (by decide) hk)).trans (hz0 k hk)), ⟨by omega, by omega⟩, ⟨by omega, by omega⟩, ⟨by omega, by omega⟩, ⟨by omega, by omega⟩, (by rw [y_atE o223]; exact (y_E6_t (y_E6_t h81 h205) (y_E6_u u224 (by omega))))⟩
            · have c198 := mt (ax_eq (n := 9) (by decide)).mpr c198
              by_cases c225 : r9 = 10
              · refine ax_eqi c225 ?_
                refine lv_tableIn (off := 155) (tgt := 261) hx hb dX7_works_106 (by decide) (by decide) (by decide) (by decide) ?_
                have c225 := (ax_eq (n := 10) (by decide)).mp c225
                refine lv_aload_n hx hb dX7_works_261 rfl (lv_at hl 4 rfl) ?_
                refine lv_bipush (v := 64) hx hb dX7_works_262 (by decide) ?_
                refine lv_iload hx hb dX7_works_264 (lv_at hl 0 rfl) ?_
                refine lv_iadd hx hb dX7_works_266 ?_
                refine lv_topi (fun v226 ev226 => ?_)
                have qv226 : v226.toInt = 64 + r114.toInt := by rw [ev226]; exact th_add (by decide) rfl ⟨by omega, by omega⟩
                refine lv_iload hx hb dX7_works_267 (lv_at hl 2 rfl) ?_
                refine lv_iconst (v := 1) hx hb dX7_works_269 (by decide) ?_
                have rg227 : 0 ≤ v226.toInt ∧ v226.toInt ≤ 95 := ⟨by omega, by omega⟩
                have rg228 : 0 ≤ v98.toInt ∧ v98.toInt ≤ 31 := ⟨by omega, by omega⟩
                refine va_callv (va_runV (As := [.int v226, .int v98, .int 1]) (rest := []) ⟨hx, hb, hml, hown, hts⟩ (y_X7_touches l dC dI H.size hLK A hA F82 a0 v226 v98 1 ha0 rg227 rg228 (by decide) hI) (cwV 3 hts (ax_gV T_1334 T_1336 T_1337 T_265 T_1335) rfl rfl rfl (by decide +kernel) ⟨Nat.le_of_ble_eq_true rfl, Nat.le_of_ble_eq_true rfl⟩) ⟨fun a U g mk q => ⟨q.1, s_pc (U := U) rfl rfl q.2⟩, s_recv hK hP (hLK _ ha0 (by decide)) (ci := 7) rfl oY84, fun U hU hW => ⟨rfl, s_pw hU hW hP hK hD hN⟩⟩ rfl rfl hl.1 rfl (lv_room (Nat.le_of_ble_eq_true rfl)) dX7_works_270 ⟨Nat.zero_le _, Nat.zero_le _⟩) hS (fun q _ h => h) (fun q h => h) (fun F230 t H1 locs ht hvm hw hB hz1 hk1 hS => ?_)
                obtain ⟨hP, hK1⟩ := hB
                rw [ht] at hP
                generalize H1 = H at hP hS ⊢
                clear hz1 hk1 hvm hK1
                obtain ⟨h231, h233, hI, hfr1, hzf, h232⟩ := hw
                have o234 : F230 (A 13) = .inl (cs 0, 400, .inl f1) := (hfr1 _ (by rw [(y_k13 hA)]; decide)).trans o83
                have o235 : F230 (A 21) = .inl (cs 0, 8, .inl f99) := (hfr1 _ (by rw [(y_k21 hA)]; decide)).trans o100
                have oY236 : F230 a0 = .inr (7, y_fl A z0 q0) := (hfr1 _ (by rw [ha0]; decide)).trans oY84
                have hfr : ∀ b, K b ∉ [70] → F230 b = F b := fun b hb9 => (hfr1 b (fun q => hb9 (s_sub (by decide) q))).trans (hfr b hb9)
                obtain ⟨f237, o238, b239⟩ := y_op20 hI
                replace h232 : (y_E6 f85 f237) := by have q9 := h232; rw [y_atE o86, y_atE o238] at q9; exact q9
                refine lv_aload_n hx hb dX7_works_273 rfl (lv_at hl 4 rfl) ?_
                refine th_get (D := (dC, dI)) (ci := 7) (v := .ref (A 20)) (C := RX7) (T := TX7) (N := 34) hx hb hts inX7 hown hK hP (hLK _ ha0 (by decide)) oY236 rfl 20 (by decide) (hts _ T_251) (fun _ h9 => h9) rfl dX7_works_274 ?_
                refine lv_bipush (v := 72) hx hb dX7_works_277 (by decide) ?_
                refine lv_iload hx hb dX7_works_279 (lv_at hl 0 rfl) ?_
                refine lv_iadd hx hb dX7_works_281 ?_
                refine lv_topi (fun v240 ev240 => ?_)
                have qv240 : v240.toInt = 72 + r114.toInt := by rw [ev240]; exact th_add (by decide) rfl ⟨by omega, by omega⟩
                refine lv_aload_n hx hb dX7_works_282 rfl (lv_at hl 4 rfl) ?_
                refine th_get (D := (dC, dI)) (ci := 7) (v := .ref (A 22)) (C := RX7) (T := TX7) (N := 34) hx hb hts inX7 hown hK hP (hLK _ ha0 (by decide)) oY236 rfl 22 (by decide) (hts _ T_253) (fun _ h9 => h9) rfl dX7_works_283 ?_
                refine lv_iload hx hb dX7_works_286 (lv_at hl 9 rfl) ?_
                obtain ⟨f241, o242, b243⟩ := y_op22 hI
                refine th_iald hx hb hK hP (hLK _ (y_k22 hA) (by decide)) 0 o242 rfl (th_in ⟨by omega, by omega⟩) dX7_works_288 ?_
                refine lv_topi (fun v244 ev244 => ?_)
                refine th_iast hx hb hK hP hD hS (hLK _ (y_k20 hA) (by decide)) 0 o238 rfl (th_in ⟨by omega, by omega⟩) dX7_works_289 (fun H locs hP hS => ?_)
                obtain ⟨f245, u246⟩ : ∃ g : Nat → Int32, g = upd f237 (v240 : Int32).toNatClampNeg v244 := ⟨_, rfl⟩
                rw [← u246] at hP
                have b247 : y_bd 20 f245 := trivial
                have hP : va_P (dC, dI) vwCl (va_pl L (va_up F230 (A 20) (.inl (cs 0, 918, .inl f245)))) H := hP
                obtain ⟨F248, hF249⟩ : ∃ G : Nat → va_E, G = va_up F230 (A 20) (.inl (cs 0, 918, .inl f245)) := ⟨_, rfl⟩
                rw [← hF249] at hP
                have hI : y_I K cs A F248 := by rw [hF249]; exact y_clA (i := 20) hA hI (by decide) b247
                have hfr : ∀ b, K b ∉ [70] → F248 b = F b := by rw [hF249]; exact s_fr hfr (y_k20 hA) (by decide)
                have o250 : F248 (A 13) = .inl (cs 0, 400, .inl f1) := by rw [hF249]; exact th_ne (th_kd (y_k13 hA) (y_k20 hA) (by decide)) o234
                have o251 : F248 (A 21) = .inl (cs 0, 8, .inl f99) := by rw [hF249]; exact th_ne (th_kd (y_k21 hA) (y_k20 hA) (by decide)) o235
                have o252 : F248 (A 22) = .inl (cs 0, 8, .inl f241) := by rw [hF249]; exact th_ne (th_kd (y_k22 hA) (y_k20 hA) (by decide)) o242
                have oY253 : F248 a0 = .inr (7, y_fl A z0 q0) := by rw [hF249]; exact th_ne (th_kd ha0 (y_k20 hA) (by decide)) oY236
                have o254 : F248 (A 20) = .inl (cs 0, 918, .inl f245) := by rw [hF249]; exact th_up
                have u255 : ∀ j : Int, 0 ≤ j → y_c f245 j = if j = v240.toInt then v244 else y_c f237 j := by rw [u246]; exact y_cu rfl (by omega)
                refine lv_goto (tgt := 360) hx hb dX7_works_290 (by decide) ?_
                exact K360 _ _ _ ⟨F248, _, rfl, lv_sub hl [4, 5, 6, 7, 8, 9] rfl, hP, hS, hI, hfr, (fun k hk => (y_fiZ oY253 (s_sub (by decide) hk)).trans (hz0 k hk)), ⟨by omega, by omega⟩, ⟨by omega, by omega⟩, ⟨by omega, by omega⟩, ⟨by omega, by omega⟩, (by rw [y_atE o254]; exact (y_E6_t (y_E6_t h81 h232) (y_E6_u u255 (by omega))))⟩
              · have c225 := mt (ax_eq (n := 10) (by decide)).mpr c225
                by_cases c256 : r9 = 11
                · refine ax_eqi c256 ?_
                  refine lv_tableIn (off := 187) (tgt := 293) hx hb dX7_works_106 (by decide) (by decide) (by decide) (by decide) ?_
                  have c256 := (ax_eq (n := 11) (by decide)).mp c256
                  refine lv_aload_n hx hb dX7_works_293 rfl (lv_at hl 4 rfl) ?_
                  refine th_get (D := (dC, dI)) (ci := 7) (v := .ref (A 20)) (C := RX7) (T := TX7) (N := 34) hx hb hts inX7 hown hK hP (hLK _ ha0 (by decide)) oY84 rfl 20 (by decide) (hts _ T_251) (fun _ h9 => h9) rfl dX7_works_294 ?_
                  refine lv_bipush (v := 72) hx hb dX7_works_297 (by decide) ?_
                  refine lv_iload hx hb dX7_works_299 (lv_at hl 0 rfl) ?_
                  refine lv_iadd hx hb dX7_works_301 ?_
                  refine lv_topi (fun v257 ev257 => ?_)
                  have qv257 : v257.toInt = 72 + r114.toInt := by rw [ev257]; exact th_add (by decide) rfl ⟨by omega, by omega⟩
                  refine th_iald hx hb hK hP (hLK _ (y_k20 hA) (by decide)) 0 o86 rfl (th_in ⟨by omega, by omega⟩) dX7_works_302 ?_
                  refine lv_topi (fun v258 ev258 => ?_)
                  refine lv_istore (lv' := [(10, .int v258), (9, .int r114), (8, .int r105), (7, .int v98), (6, .int r92), (0, .ref a0), (1, .int x1), (2, .int x2), (3, .int x3), (4, .int r9), (5, .int w19)]) hx hb dX7_works_303 hl (by decide) rfl (fun ls hl => ?_)
                  refine lv_aload_n hx hb dX7_works_305 rfl (lv_at hl 5 rfl) ?_
                  refine th_get (D := (dC, dI)) (ci := 7) (v := .ref (A 20)) (C := RX7) (T := TX7) (N := 34) hx hb hts inX7 hown hK hP (hLK _ ha0 (by decide)) oY84 rfl 20 (by decide) (hts _ T_251) (fun _ h9 => h9) rfl dX7_works_306 ?_
                  refine lv_bipush (v := 72) hx hb dX7_works_309 (by decide) ?_
                  refine lv_iload hx hb dX7_works_311 (lv_at hl 1 rfl) ?_
                  refine lv_iadd hx hb dX7_works_313 ?_
                  refine lv_topi (fun v259 ev259 => ?_)
                  have qv259 : v259.toInt = 72 + r114.toInt := by rw [ev259]; exact th_add (by decide) rfl ⟨by omega, by omega⟩
                  refine lv_aload_n hx hb dX7_works_314 rfl (lv_at hl 5 rfl) ?_
                  refine th_get (D := (dC, dI)) (ci := 7) (v := .ref (A 20)) (C := RX7) (T := TX7) (N := 34) hx hb hts inX7 hown hK hP (hLK _ ha0 (by decide)) oY84 rfl 20 (by decide) (hts _ T_251) (fun _ h9 => h9) rfl dX7_works_315 ?_
                  refine lv_iload hx hb dX7_works_318 (lv_at hl 4 rfl) ?_
                  refine th_iald hx hb hK hP (hLK _ (y_k20 hA) (by decide)) 0 o86 rfl (th_in ⟨by omega, by omega⟩) dX7_works_320 ?_
                  refine lv_topi (fun v260 ev260 => ?_)
                  refine th_iast hx hb hK hP hD hS (hLK _ (y_k20 hA) (by decide)) 0 o86 rfl (th_in ⟨by omega, by omega⟩) dX7_works_321 (fun H locs hP hS => ?_)
                  obtain ⟨f261, u262⟩ : ∃ g : Nat → Int32, g = upd f85 (v259 : Int32).toNatClampNeg v260 := ⟨_, rfl⟩
                  rw [← u262] at hP
                  have b263 : y_bd 20 f261 := trivial
                  have hP : va_P (dC, dI) vwCl (va_pl L (va_up F82 (A 20) (.inl (cs 0, 918, .inl f261)))) H := hP
                  obtain ⟨F264, hF265⟩ : ∃ G : Nat → va_E, G = va_up F82 (A 20) (.inl (cs 0, 918, .inl f261)) := ⟨_, rfl⟩
                  rw [← hF265] at hP
                  have hI : y_I K cs A F264 := by rw [hF265]; exact y_clA (i := 20) hA hI (by decide) b263
                  have hfr : ∀ b, K b ∉ [70] → F264 b = F b := by rw [hF265]; exact s_fr hfr (y_k20 hA) (by decide)
                  have o266 : F264 (A 13) = .inl (cs 0, 400, .inl f1) := by rw [hF265]; exact th_ne (th_kd (y_k13 hA) (y_k20 hA) (by decide)) o83
                  have o267 : F264 (A 21) = .inl (cs 0, 8, .inl f99) := by rw [hF265]; exact th_ne (th_kd (y_k21 hA) (y_k20 hA) (by decide)) o100
                  have oY268 : F264 a0 = .inr (7, y_fl A z0 q0) := by rw [hF265]; exact th_ne (th_kd ha0 (y_k20 hA) (by decide)) oY84
                  have o269 : F264 (A 20) = .inl (cs 0, 918, .inl f261) := by rw [hF265]; exact th_up
                  have u270 : ∀ j : Int, 0 ≤ j → y_c f261 j = if j = v259.toInt then v260 else y_c f85 j := by rw [u262]; exact y_cu rfl (by omega)
                  refine lv_aload_n hx hb dX7_works_322 rfl (lv_at hl 5 rfl) ?_
                  refine th_get (D := (dC, dI)) (ci := 7) (v := .ref (A 20)) (C := RX7) (T := TX7) (N := 34) hx hb hts inX7 hown hK hP (hLK _ ha0 (by decide)) oY268 rfl 20 (by decide) (hts _ T_251) (fun _ h9 => h9) rfl dX7_works_323 ?_
                  refine lv_iload hx hb dX7_works_326 (lv_at hl 4 rfl) ?_
                  refine lv_iload hx hb dX7_works_328 (lv_at hl 0 rfl) ?_
                  refine th_iast hx hb hK hP hD hS (hLK _ (y_k20 hA) (by decide)) 0 o269 rfl (th_in ⟨by omega, by omega⟩) dX7_works_330 (fun H locs hP hS => ?_)
                  obtain ⟨f271, u272⟩ : ∃ g : Nat → Int32, g = upd f261 (r92 : Int32).toNatClampNeg v258 := ⟨_, rfl⟩
                  rw [← u272] at hP
                  have b273 : y_bd 20 f271 := trivial
                  have hP : va_P (dC, dI) vwCl (va_pl L (va_up F264 (A 20) (.inl (cs 0, 918, .inl f271)))) H := hP
                  obtain ⟨F274, hF275⟩ : ∃ G : Nat → va_E, G = va_up F264 (A 20) (.inl (cs 0, 918, .inl f271)) := ⟨_, rfl⟩
                  rw [← hF275] at hP
                  have hI : y_I K cs A F274 := by rw [hF275]; exact y_clA (i := 20) hA hI (by decide) b273
                  have hfr : ∀ b, K b ∉ [70] → F274 b = F b := by rw [hF275]; exact s_fr hfr (y_k20 hA) (by decide)
                  have o276 : F274 (A 13) = .inl (cs 0, 400, .inl f1) := by rw [hF275]; exact th_ne (th_kd (y_k13 hA) (y_k20 hA) (by decide)) o266
                  have o277 : F274 (A 21) = .inl (cs 0, 8, .inl f99) := by rw [hF275]; exact th_ne (th_kd (y_k21 hA) (y_k20 hA) (by decide)) o267
                  have oY278 : F274 a0 = .inr (7, y_fl A z0 q0) := by rw [hF275]; exact th_ne (th_kd ha0 (y_k20 hA) (by decide)) oY268
                  have o279 : F274 (A 20) = .inl (cs 0, 918, .inl f271) := by rw [hF275]; exact th_up
                  have u280 : ∀ j : Int, 0 ≤ j → y_c f271 j = if j = r92.toInt then v258 else y_c f261 j := by rw [u272]; exact y_cu rfl (by omega)
                  refine lv_goto (tgt := 360) hx hb dX7_works_331 (by decide) ?_
                  exact K360 _ _ _ ⟨F274, _, rfl, lv_sub hl [5, 6, 7, 8, 9, 10] rfl, hP, hS, hI, hfr, (fun k hk => (y_fiZ oY278 (s_sub (by decide) hk)).trans (hz0 k hk)), ⟨by omega, by omega⟩, ⟨by omega, by omega⟩, ⟨by omega, by omega⟩, ⟨by omega, by omega⟩, (by rw [y_atE o279]; exact (y_E6_t (y_E6_t h81 (y_E6_u u270 (by omega))) (y_E6_u u280 (by omega))))⟩
                · have c256 := mt (ax_eq (n := 11) (by decide)).mpr c256
                  refine lv_tableOut (tgt := 334) hx hb dX7_works_106 (by omega) (by decide) ?_
                  refine lv_aload_n hx hb dX7_works_334 rfl (lv_at hl 4 rfl) ?_
                  refine th_get (D := (dC, dI)) (ci := 7) (v := .ref (A 20)) (C := RX7) (T := TX7) (N := 34) hx hb hts inX7 hown hK hP (hLK _ ha0 (by decide)) oY84 rfl 20 (by decide) (hts _ T_251) (fun _ h9 => h9) rfl dX7_works_335 ?_
                  refine lv_iload hx hb dX7_works_338 (lv_at hl 3 rfl) ?_
                  refine lv_iload hx hb dX7_works_340 (lv_at hl 8 rfl) ?_
                  refine lv_aload_n hx hb dX7_works_342 rfl (lv_at hl 4 rfl) ?_
                  refine th_get (D := (dC, dI)) (ci := 7) (v := .ref (A 21)) (C := RX7) (T := TX7) (N := 34) hx hb hts inX7 hown hK hP (hLK _ ha0 (by decide)) oY84 rfl 21 (by decide) (hts _ T_252) (fun _ h9 => h9) rfl dX7_works_343 ?_
                  refine lv_iload hx hb dX7_works_346 (lv_at hl 9 rfl) ?_
                  refine th_iald hx hb hK hP (hLK _ (y_k21 hA) (by decide)) 0 o100 rfl (th_in ⟨by omega, by omega⟩) dX7_works_348 ?_
                  refine lv_topi (fun v281 ev281 => ?_)
                  refine lv_aload_n hx hb dX7_works_349 rfl (lv_at hl 4 rfl) ?_
                  refine th_get (D := (dC, dI)) (ci := 7) (v := .ref (A 22)) (C := RX7) (T := TX7) (N := 34) hx hb hts inX7 hown hK hP (hLK _ ha0 (by decide)) oY84 rfl 22 (by decide) (hts _ T_253) (fun _ h9 => h9) rfl dX7_works_350 ?_
                  refine lv_iload hx hb dX7_works_353 (lv_at hl 9 rfl) ?_
                  obtain ⟨f282, o283, b284⟩ := y_op22 hI
                  refine th_iald hx hb hK hP (hLK _ (y_k22 hA) (by decide)) 0 o283 rfl (th_in ⟨by omega, by omega⟩) dX7_works_355 ?_
                  refine lv_topi (fun v285 ev285 => ?_)
                  have rg286 : 0 ≤ r9.toInt ∧ r9.toInt ≤ 15 := ⟨by omega, by omega⟩
                  refine va_calli (va_runS (As := [.int r9, .int v281, .int v285]) (rest := [.int r92, .ref (A 20)]) ⟨hx, hb, hml, hown, hts⟩ (y_X7_made l dC dI H.size F82 r9 v281 v285 rg286) (cwS 3 hts (ax_gS T_1338 T_1340 T_265 T_1339) rfl rfl rfl (by decide +kernel) ⟨Nat.le_of_ble_eq_true rfl, Nat.le_of_ble_eq_true rfl⟩) ⟨fun a U g mk q => ⟨q.1, s_pc (U := U) rfl rfl q.2⟩, fun U hU hW => ⟨rfl, s_pw hU hW hP hK hD hN⟩⟩ rfl rfl hl.1 rfl (lv_room (Nat.le_of_ble_eq_true rfl)) dX7_works_356 ⟨Nat.zero_le _, Nat.zero_le _⟩) hS (fun q _ h => h) (fun q h => h) (fun r288 F289 t H1 locs ht hvm hw hB hz1 hk1 hS => ?_)
                  obtain ⟨hP, hK1⟩ := hB
                  rw [ht] at hP
                  generalize H1 = H at hP hS ⊢
                  clear hz1 hk1 hvm hK1
                  obtain ⟨h290, h292, hG9, h291⟩ := hw
                  rw [hG9] at hP
                  refine th_iast hx hb hK hP hD hS (hLK _ (y_k20 hA) (by decide)) 0 o86 rfl (th_in ⟨by omega, by omega⟩) dX7_works_359 (fun H locs hP hS => ?_)
                  obtain ⟨f293, u294⟩ : ∃ g : Nat → Int32, g = upd f85 (r92 : Int32).toNatClampNeg r288 := ⟨_, rfl⟩
                  rw [← u294] at hP
                  have b295 : y_bd 20 f293 := trivial
                  have hP : va_P (dC, dI) vwCl (va_pl L (va_up F82 (A 20) (.inl (cs 0, 918, .inl f293)))) H := hP
                  obtain ⟨F296, hF297⟩ : ∃ G : Nat → va_E, G = va_up F82 (A 20) (.inl (cs 0, 918, .inl f293)) := ⟨_, rfl⟩
                  rw [← hF297] at hP
                  have hI : y_I K cs A F296 := by rw [hF297]; exact y_clA (i := 20) hA hI (by decide) b295
                  have hfr : ∀ b, K b ∉ [70] → F296 b = F b := by rw [hF297]; exact s_fr hfr (y_k20 hA) (by decide)
                  have o298 : F296 (A 13) = .inl (cs 0, 400, .inl f1) := by rw [hF297]; exact th_ne (th_kd (y_k13 hA) (y_k20 hA) (by decide)) o83
                  have o299 : F296 (A 21) = .inl (cs 0, 8, .inl f99) := by rw [hF297]; exact th_ne (th_kd (y_k21 hA) (y_k20 hA) (by decide)) o100
                  have o300 : F296 (A 22) = .inl (cs 0, 8, .inl f282) := by rw [hF297]; exact th_ne (th_kd (y_k22 hA) (y_k20 hA) (by decide)) o283
                  have oY301 : F296 a0 = .inr (7, y_fl A z0 q0) := by rw [hF297]; exact th_ne (th_kd ha0 (y_k20 hA) (by decide)) oY84
                  have o302 : F296 (A 20) = .inl (cs 0, 918, .inl f293) := by rw [hF297]; exact th_up
                  have u303 : ∀ j : Int, 0 ≤ j → y_c f293 j = if j = r92.toInt then r288 else y_c f85 j := by rw [u294]; exact y_cu rfl (by omega)
                  exact K360 _ _ _ ⟨F296, _, rfl, lv_sub hl [4, 5, 6, 7, 8, 9] rfl, hP, hS, hI, hfr, (fun k hk => (y_fiZ oY301 (s_sub (by decide) hk)).trans (hz0 k hk)), ⟨by omega, by omega⟩, ⟨by omega, by omega⟩, ⟨by omega, by omega⟩, ⟨by omega, by omega⟩, (by rw [y_atE o302]; exact (y_E6_t h81 (y_E6_u u303 (by omega))))⟩
  · intro g H locs hq
    obtain ⟨F309, ls, rfl, hl, hP, hS, hI, hfr, hz0, h304, h305, h306, h307, h308⟩ := hq
    have o310 : F309 (A 13) = .inl (cs 0, 400, .inl f1) := (hfr _ (by rw [(y_k13 hA)]; decide)).trans o2
    have oY311 : F309 a0 = .inr (7, y_fl A z0 q0) := (hfr _ (by rw [ha0]; decide)).trans oY0
    have hz0 : ∀ k, k ∈ ([1, 2, 3, 4, 5, 6, 7, 8, 11, 15, 16, 19, 25, 26, 27, 31, 32] : List Nat) → z0 k = z0 k := fun _ _ => rfl
    obtain ⟨f312, o313, b314⟩ := y_op20 hI
    replace h308 : (y_E6 f4 f312) := by have q9 := h308; rw [y_atE o313] at q9; exact q9
    obtain ⟨v315, ev315⟩ : ∃ y : Int32, w19 + 1 = y := ⟨_, rfl⟩
    have qv315 : v315.toInt = w19.toInt + 1 := by rw [← ev315]; exact th_add rfl (by decide) ⟨by omega, by omega⟩
    refine lv_iinc (v := v315) (lv' := [(5, .int v315), (0, .ref a0), (1, .int x1), (2, .int x2), (3, .int x3), (4, .int r9)]) hx hb dX7_works_360 hl (k := 5) rfl ev315 (by decide) rfl (fun ls hl => ?_)
    refine lv_goto (tgt := 11) hx hb dX7_works_363 (by decide) ?_
    exact ih11 _ _ _ _ (by omega) ⟨F309, _, v315, rfl, lv_sub hl [1, 2, 3, 4, 5, 0] rfl, hP, hS, hI, hfr, (fun k hk => (y_fiZ oY311 (s_sub (by decide) hk)).trans (hz0 k hk)), ⟨by omega, by omega⟩, ⟨by omega, by omega⟩, ⟨by omega, by omega⟩, ⟨by omega, by omega⟩, (by rw [y_atE o313]; exact h308), rfl⟩
