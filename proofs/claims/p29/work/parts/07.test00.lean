set_option maxHeartbeats 4000000 in
set_option maxRecDepth 100000 in
theorem yt_X7_bankOf (l : Launch) (dC : Nat → ClassId) (dI : Nat → Nat → Nat) (sz : Nat) {L : List Nat} {K : Nat → Nat} {cs : Nat → ClassId} (hLK : ∀ a {k : Nat}, K a = k → k ≠ 0 → a ∈ L) (A : Nat → Nat) (hA : y_A K A) (F : Nat → va_E) (a0 : Nat) (x1 : Int32) (ha0 : K a0 = 9) (hx1 : 0 ≤ x1.toInt ∧ x1.toInt ≤ 31) (hI : y_I K cs A F) : Met l yX7_bankOf (Cond.code yX7_bankOf cX7_bankOf 2 (some .int) :: T0) ({ frames := 0, cells := 0, slots := 0, locals := 0 }) (va_Pc [.ref a0, .int x1] (s_W dC dI sz L F [(cs 0, .int), (cs 1, .byte), (cs 2, .long), (cs 3, .object RX5), (cs 4, .object RX4), (cs 5, .array .int), (cs 6, .char), (cs 7, .boolean)])) (va_Qi (fun (r : Int32) (G : Nat → va_E) => (-3 ≤ r.toInt ∧ r.toInt ≤ 3) ∧ True ∧ y_I K cs A G ∧ (∀ b, K b ∉ ([] : List Nat) → G b = F b) ∧ (∀ k, k ∈ ([1, 2, 3, 4, 5, 6, 7, 8, 11, 15, 16, 19, 25, 26, 27, 31, 32] : List Nat) → y_fi G a0 k = y_fi F a0 k) ∧ True) (fun (G : Nat → va_E) (t : State) => va_P (dC, dI) vwCl (va_pl L G) t.heap ∧ va_K (dC, dI) vwCl [(cs 0, .int), (cs 1, .byte), (cs 2, .long), (cs 3, .object RX5), (cs 4, .object RX4), (cs 5, .array .int), (cs 6, .char), (cs 7, .boolean)] t) (fun q => q ∈ L)) 0 0 (fun q => q ∈ L) := by
  refine Met.ofW (cc := cX7_bankOf) (maxL := 2) (ret := (some .int)) (by decide) rfl ?_
  intro p e s m args below meth c s₁ B hml hv
  obtain ⟨rfl, hsz, hP, hK, hD, hN⟩ := hv
  have hx := B.exec
  have hb := B.bytes
  have hr := B.returns
  have hts : ∀ w ∈ T0, w.before _ s = true := fun w h => atoms_spec (ws := Cond.code yX7_bankOf cX7_bankOf 2 (some .int) :: T0) B.pre w (List.mem_cons_of_mem _ h)
  have hown : s.vm.findClass RX7 = some m.cls := findClass_of_methodNamed B.named
  have hlocks := B.notSynchronized
  have hS : va_S (fun q => q ∈ L) s.heap s.heap [] := va_S.rf
  have hfr : ∀ b, K b ∉ ([] : List Nat) → F b = F b := fun _ _ => rfl
  have hl := lv_entry ([.ref a0, .int x1]) (n := 2) (Nat.le_of_ble_eq_true rfl)
  rw [lg_entry_eq]
  generalize (lg_sl ([.ref a0, .int x1]) ++ List.replicate (2 - (lg_sl ([.ref a0, .int x1])).length) Slot.unset).toArray = ls at hl ⊢
  have hl : lv_has ls 2 [(0, .ref a0), (1, .int x1)] := hl
  refine s_gen hP hS (fun H locs hP hS => ?_)
  obtain ⟨z0, q0, oY0, bz0, bq0⟩ := y_opY hI ha0
  have hz0 : ∀ k, k ∈ ([1, 2, 3, 4, 5, 6, 7, 8, 11, 15, 16, 19, 25, 26, 27, 31, 32] : List Nat) → z0 k = z0 k := fun _ _ => rfl
  refine lv_iload_n hx hb dX7_bankOf_0 rfl (lv_at hl 1 rfl) ?_
  refine lv_aload_n hx hb dX7_bankOf_1 rfl (lv_at hl 0 rfl) ?_
  refine th_get (D := (dC, dI)) (ci := 7) (v := .ref (A 20)) (C := RX7) (T := TX7) (N := 34) hx hb hts inX7 hown hK hP (hLK _ ha0 (by decide)) oY0 rfl 20 (by decide) (hts _ T_251) (fun _ h9 => h9) rfl dX7_bankOf_2 ?_
  refine lv_iconst (v := 5) hx hb dX7_bankOf_5 (by decide) ?_
  obtain ⟨f1, o2, b3⟩ := y_op20 hI
  refine th_iald hx hb hK hP (hLK _ (y_k20 hA) (by decide)) 0 o2 rfl (ax_in (by decide)) dX7_bankOf_6 ?_
  refine lv_topi (fun v4 ev4 => ?_)
  refine lv_iload_n hx hb dX7_bankOf_7 rfl (lv_at hl 1 rfl) ?_
  refine lv_iconst (v := 4) hx hb dX7_bankOf_8 (by decide) ?_
  refine lv_idiv hx hb dX7_bankOf_9 (by decide) ?_
  refine lv_topi (fun v5 ev5 => ?_)
  have qv5 : v5.toInt = x1.toInt / 4 := by rw [ev5]; exact th_div rfl (by decide) (by omega) (by decide)
  refine lv_imul hx hb dX7_bankOf_10 ?_
  refine lv_topi (fun v6 ev6 => ?_)
  refine lv_iadd hx hb dX7_bankOf_11 ?_
  refine lv_topi (fun v7 ev7 => ?_)
  refine lv_iconst (v := 4) hx hb dX7_bankOf_12 (by decide) ?_
  refine lv_irem hx hb dX7_bankOf_13 (by decide) ?_
  refine lv_topi (fun v8 ev8 => ?_)
  have qv8 : -4 < v8.toInt ∧ v8.toInt < 4 := by have q8 := (th_remS (x := v7) (y := 4) (by decide)).1; rw [← ev8] at q8; have q7 : (4 : Int32).toInt = 4 := (by decide); omega
  exact W.iret (v := v8) hx hb hr (fun t ht hW => ⟨⟨v8, F, rfl, ⟨⟨by omega, by omega⟩, trivial, hI, hfr, fun k hk => (y_fiZ oY0 (s_sub (by decide) hk)).trans ((hz0 k hk).trans (y_fiZ oY0 (s_sub (by decide) hk)).symm), trivial⟩, by rw [ht]; exact hP, va_K.moved hW.alike hK⟩, hS.F ht⟩) hS.2.2 dX7_bankOf_14

set_option maxHeartbeats 4000000 in
set_option maxRecDepth 100000 in
theorem yt_X7_works (l : Launch) (dC : Nat → ClassId) (dI : Nat → Nat → Nat) (sz : Nat) {L : List Nat} {K : Nat → Nat} {cs : Nat → ClassId} (hLK : ∀ a {k : Nat}, K a = k → k ≠ 0 → a ∈ L) (A : Nat → Nat) (hA : y_A K A) (F : Nat → va_E) (a0 : Nat) (x1 : Int32) (x2 : Int32) (x3 : Int32) (ha0 : K a0 = 9) (hx1 : 0 ≤ x1.toInt ∧ x1.toInt ≤ 3) (hx2 : 0 ≤ x2.toInt ∧ x2.toInt ≤ 39) (hI : y_I K cs A F) (hPG : y_PG (y_at F (A 13))) (hln : (x2.toInt < (y_c (y_at F (A 13)) 387).toInt)) : Met l yX7_works (Cond.code yX7_works cX7_works 11 none :: T0) ({ frames := 2, cells := 0, slots := 0, locals := 46 }) (va_Pc [.ref a0, .int x1, .int x2, .int x3] (s_W dC dI sz L F [(cs 0, .int), (cs 1, .byte), (cs 2, .long), (cs 3, .object RX5), (cs 4, .object RX4), (cs 5, .array .int), (cs 6, .char), (cs 7, .boolean)])) (va_Qv (fun (G : Nat → va_E) => True ∧ True ∧ y_I K cs A G ∧ (∀ b, K b ∉ [70] → G b = F b) ∧ (∀ k, k ∈ ([1, 2, 3, 4, 5, 6, 7, 8, 11, 15, 16, 19, 25, 26, 27, 31, 32] : List Nat) → y_fi G a0 k = y_fi F a0 k) ∧ (y_E6 (y_at F (A 20)) (y_at G (A 20)))) (fun (G : Nat → va_E) (t : State) => va_P (dC, dI) vwCl (va_pl L G) t.heap ∧ va_K (dC, dI) vwCl [(cs 0, .int), (cs 1, .byte), (cs 2, .long), (cs 3, .object RX5), (cs 4, .object RX4), (cs 5, .array .int), (cs 6, .char), (cs 7, .boolean)] t) (fun q => q ∈ L)) 0 0 (fun q => q ∈ L) := by
  refine Met.ofW (cc := cX7_works) (maxL := 11) (ret := none) (by decide) rfl ?_
  intro p e s m args below meth c s₁ B hml hv
  obtain ⟨rfl, hsz, hP, hK, hD, hN⟩ := hv
  have hx := B.exec
  have hb := B.bytes
  have hr := B.returns
  have hts : ∀ w ∈ T0, w.before _ s = true := fun w h => atoms_spec (ws := Cond.code yX7_works cX7_works 11 none :: T0) B.pre w (List.mem_cons_of_mem _ h)
  have hown : s.vm.findClass RX7 = some m.cls := findClass_of_methodNamed B.named
  have hlocks := B.notSynchronized
  have hS : va_S (fun q => q ∈ L) s.heap s.heap [] := va_S.rf
  have hfr : ∀ b, K b ∉ [70] → F b = F b := fun _ _ => rfl
  have hl := lv_entry ([.ref a0, .int x1, .int x2, .int x3]) (n := 11) (Nat.le_of_ble_eq_true rfl)
  rw [lg_entry_eq]
  generalize (lg_sl ([.ref a0, .int x1, .int x2, .int x3]) ++ List.replicate (11 - (lg_sl ([.ref a0, .int x1, .int x2, .int x3])).length) Slot.unset).toArray = ls at hl ⊢
  have hl : lv_has ls 11 [(0, .ref a0), (1, .int x1), (2, .int x2), (3, .int x3)] := hl
  refine s_gen hP hS (fun H locs hP hS => ?_)
  obtain ⟨z0, q0, oY0, bz0, bq0⟩ := y_opY hI ha0
  have hz0 : ∀ k, k ∈ ([1, 2, 3, 4, 5, 6, 7, 8, 11, 15, 16, 19, 25, 26, 27, 31, 32] : List Nat) → z0 k = z0 k := fun _ _ => rfl
  obtain ⟨f1, o2, b3⟩ := y_op13 hI
  obtain ⟨f4, o5, b6⟩ := y_op20 hI
  have hPG : y_PG f1 := by have q9 := hPG; rw [y_atE o2] at q9; exact q9
  have hln : (x2.toInt < (y_c f1 387).toInt) := by have q9 := hln; rw [y_atE o2] at q9; exact q9
  have hL := y_P0L hPG.1
  have hW := y_P0W hPG.1
  have hrg := hPG.1.1.1 x2.toInt (by omega) (by omega)
  unfold y_rg at hrg
  refine lv_aload_n hx hb dX7_works_0 rfl (lv_at hl 0 rfl) ?_
  refine lv_iload_n hx hb dX7_works_1 rfl (lv_at hl 2 rfl) ?_
  refine lv_iconst (v := 0) hx hb dX7_works_2 (by decide) ?_
  refine va_calli (va_runV (As := [.int x2, .int 0]) (rest := []) ⟨hx, hb, hml, hown, hts⟩ (y_X7_of l dC dI H.size hLK A hA F a0 x2 0 ha0 (⟨by omega, by omega⟩) (by decide) hI) (cwV 2 hts (ax_gV T_1131 T_1133 T_1134 T_265 T_1132) rfl rfl rfl (by decide +kernel) ⟨Nat.le_of_ble_eq_true rfl, Nat.le_of_ble_eq_true rfl⟩) ⟨fun a U g mk q => ⟨q.1, s_pc rfl rfl q.2⟩, s_recv hK hP (hLK _ ha0 (by decide)) (ci := 7) rfl oY0, fun U hU hW => ⟨rfl, s_pw hU hW hP hK hD hN⟩⟩ rfl rfl hl.1 rfl (lv_room (Nat.le_of_ble_eq_true rfl)) dX7_works_3 ⟨Nat.zero_le _, Nat.zero_le _⟩) hS (fun q _ h => h) (fun q h => h) (fun r8 F9 t H1 locs ht hvm hw hB hz1 hk1 hS => ?_)
  obtain ⟨hP, hK1⟩ := hB
  rw [ht] at hP
  generalize H1 = H at hP hS ⊢
  clear hz1 hk1 hvm hK1
  obtain ⟨h10, h12, hI, hfr1, hzf, h11⟩ := hw
  have o13 : F9 (A 13) = .inl (cs 0, 400, .inl f1) := (hfr1 _ (by rw [(y_k13 hA)]; decide)).trans o2
  have o14 : F9 (A 20) = .inl (cs 0, 918, .inl f4) := (hfr1 _ (by rw [(y_k20 hA)]; decide)).trans o5
  have oY15 : F9 a0 = .inr (7, y_fl A z0 q0) := (hfr1 _ (by rw [ha0]; decide)).trans oY0
  have hfr : ∀ b, K b ∉ [70] → F9 b = F b := fun b hb9 => (hfr1 b (fun q => hb9 (s_sub (by decide) q))).trans (hfr b hb9)
  have h11 : (r8 = y_c f1 (8 * x2.toInt + 0)) := by have q9 := h11; rw [y_atE o2] at q9; exact q9
  have h11 : r8 = y_c f1 (8 * x2.toInt) := h11.trans (congrArg (y_c f1) (by omega))
  have h16 := congrArg Int32.toInt h11
  have h17 : 0 ≤ r8.toInt ∧ r8.toInt ≤ 15 := by have q9 := congrArg Int32.toInt h11; exact ⟨by omega, by omega⟩
  refine lv_istore (lv' := [(4, .int r8), (0, .ref a0), (1, .int x1), (2, .int x2), (3, .int x3)]) hx hb dX7_works_6 hl (by decide) rfl (fun ls hl => ?_)
  refine lv_iconst (v := 0) hx hb dX7_works_8 (by decide) ?_
  refine lv_istore (lv' := [(5, .int 0), (4, .int r8), (0, .ref a0), (1, .int x1), (2, .int x2), (3, .int x3)]) hx hb dX7_works_9 hl (by decide) rfl (fun ls hl => ?_)
  have h19 : (0 : Int32).toInt = 0 := by decide
  refine th_loop (fun n g H locs => ∃ (G : Nat → va_E) (ls : Array Slot) (w18 : Int32), g = F0 m 11 ls [] ∧ lv_has ls 11 [(0, .ref a0), (1, .int x1), (2, .int x2), (3, .int x3), (4, .int r8), (5, .int w18)] ∧ va_P (dC, dI) vwCl (va_pl L G) H ∧ va_S (fun q => q ∈ L) s.heap H locs ∧ y_I K cs A G ∧ (∀ b, K b ∉ [70] → G b = F b) ∧ (∀ k, k ∈ ([1, 2, 3, 4, 5, 6, 7, 8, 11, 15, 16, 19, 25, 26, 27, 31, 32] : List Nat) → y_fi G a0 k = z0 k) ∧ (0 ≤ w18.toInt ∧ w18.toInt ≤ 8) ∧ (0 ≤ x1.toInt ∧ x1.toInt ≤ 3) ∧ (0 ≤ x2.toInt ∧ x2.toInt ≤ 39) ∧ (0 ≤ r8.toInt ∧ r8.toInt ≤ 15) ∧ (y_E6 f4 (y_at G (A 20))) ∧ n = (9 - w18.toInt).toNat) _ ⟨F9, _, 0, rfl, lv_sub hl [2, 3, 4, 5, 1, 0] rfl, hP, hS, hI, hfr, (fun k hk => (y_fiZ oY15 (s_sub (by decide) hk)).trans (hz0 k hk)), (by decide), ⟨by omega, by omega⟩, ⟨by omega, by omega⟩, ⟨by omega, by omega⟩, (by rw [y_atE o14]; exact (y_E6_r _)), rfl⟩ (fun n ih11 g H locs hq => ?_)
  obtain ⟨F25, ls, w18, rfl, hl, hP, hS, hI, hfr, hz0, h20, h21, h22, h23, h24, hn⟩ := hq
  have o26 : F25 (A 13) = .inl (cs 0, 400, .inl f1) := (hfr _ (by rw [(y_k13 hA)]; decide)).trans o2
  have oY27 : F25 a0 = .inr (7, y_fl A z0 q0) := (hfr _ (by rw [ha0]; decide)).trans oY0
  have hz0 : ∀ k, k ∈ ([1, 2, 3, 4, 5, 6, 7, 8, 11, 15, 16, 19, 25, 26, 27, 31, 32] : List Nat) → z0 k = z0 k := fun _ _ => rfl
  obtain ⟨f28, o29, b30⟩ := y_op20 hI
  have h24 : (y_E6 f4 f28) := by have q9 := h24; rw [y_atE o29] at q9; exact q9
  have hn_30 := hn
  refine th_join (fun g H locs => ∃ (G : Nat → va_E) (ls : Array Slot), g = F0 m 360 ls [] ∧ lv_has ls 11 [(0, .ref a0), (1, .int x1), (2, .int x2), (3, .int x3), (4, .int r8), (5, .int w18)] ∧ va_P (dC, dI) vwCl (va_pl L G) H ∧ va_S (fun q => q ∈ L) s.heap H locs ∧ y_I K cs A G ∧ (∀ b, K b ∉ [70] → G b = F b) ∧ (∀ k, k ∈ ([1, 2, 3, 4, 5, 6, 7, 8, 11, 15, 16, 19, 25, 26, 27, 31, 32] : List Nat) → y_fi G a0 k = z0 k) ∧ (0 ≤ x1.toInt ∧ x1.toInt ≤ 3) ∧ (0 ≤ x2.toInt ∧ x2.toInt ≤ 39) ∧ (0 ≤ r8.toInt ∧ r8.toInt ≤ 15) ∧ (0 ≤ w18.toInt ∧ w18.toInt ≤ 7) ∧ (y_E6 f4 (y_at G (A 20)))) (fun K360 => ?_) ?_
  refine th_join (fun g H locs => ∃ (G : Nat → va_E) (ls : Array Slot) (w31 : Int32) (w32 : Int32) (w33 : Int32), g = F0 m 60 ls [.int w31, .int w32, .int w33] ∧ lv_has ls 11 [(0, .ref a0), (1, .int x1), (2, .int x2), (3, .int x3), (4, .int r8), (5, .int w18)] ∧ va_P (dC, dI) vwCl (va_pl L G) H ∧ va_S (fun q => q ∈ L) s.heap H locs ∧ y_I K cs A G ∧ (∀ b, K b ∉ [70] → G b = F b) ∧ (∀ k, k ∈ ([1, 2, 3, 4, 5, 6, 7, 8, 11, 15, 16, 19, 25, 26, 27, 31, 32] : List Nat) → y_fi G a0 k = z0 k) ∧ (0 ≤ w31.toInt ∧ w31.toInt ≤ 3) ∧ (0 ≤ w32.toInt ∧ w32.toInt ≤ 7) ∧ (0 ≤ w33.toInt ∧ w33.toInt ≤ 3) ∧ (0 ≤ x1.toInt ∧ x1.toInt ≤ 3) ∧ (0 ≤ x2.toInt ∧ x2.toInt ≤ 39) ∧ (0 ≤ r8.toInt ∧ r8.toInt ≤ 15) ∧ (0 ≤ w18.toInt ∧ w18.toInt ≤ 7) ∧ (y_E6 f4 (y_at G (A 20)))) (fun K60 => ?_) ?_
  · refine lv_iload hx hb dX7_works_11 (lv_at hl 5 rfl) ?_
    refine lv_bipush (v := 8) hx hb dX7_works_13 (by decide) ?_
    refine lv_icmp_ge (tgt := 366) hx hb dX7_works_15 (by decide) (fun c34 => ?_) (fun c34 => ?_)
    · have c34 := (ax_ge (n := 8) (by decide)).mp c34
      exact W.vret hx hb hr (fun t ht hW => ⟨⟨F25, rfl, ⟨trivial, trivial, hI, hfr, fun k hk => (y_fiZ oY27 (s_sub (by decide) hk)).trans ((hz0 k hk).trans (y_fiZ oY0 (s_sub (by decide) hk)).symm), (by rw [y_atE o5, y_atE o29]; exact h24)⟩, by rw [ht]; exact hP, va_K.moved hW.alike hK⟩, hS.F ht⟩) hS.2.2 dX7_works_366
    · have c34 := mt (ax_ge (n := 8) (by decide)).mpr c34
      refine lv_iload_n hx hb dX7_works_18 rfl (lv_at hl 3 rfl) ?_
      refine lv_iload hx hb dX7_works_19 (lv_at hl 5 rfl) ?_
      refine va_calli (va_runS (As := [.int x3, .int w18]) (rest := []) ⟨hx, hb, hml, hown, hts⟩ (y_X7_isOf l dC dI H.size F25 x3 w18 (⟨by omega, by omega⟩)) (cwS 2 hts (ax_gS T_1027 T_1029 T_265 T_1028) rfl rfl rfl (by decide +kernel) ⟨Nat.le_of_ble_eq_true rfl, Nat.le_of_ble_eq_true rfl⟩) ⟨fun a U g mk q => ⟨q.1, s_pc rfl rfl q.2⟩, fun U hU hW => ⟨rfl, s_pw hU hW hP hK hD hN⟩⟩ rfl rfl hl.1 rfl (lv_room (Nat.le_of_ble_eq_true rfl)) dX7_works_21 ⟨Nat.zero_le _, Nat.zero_le _⟩) hS (fun q _ h => h) (fun q h => h) (fun r36 F37 t H1 locs ht hvm hw hB hz1 hk1 hS => ?_)
      obtain ⟨hP, hK1⟩ := hB
      rw [ht] at hP
      generalize H1 = H at hP hS ⊢
      clear hz1 hk1 hvm hK1
      obtain ⟨h38, h40, hG9, h39⟩ := hw
      rw [hG9] at hP
      have h39 : ((r36.toInt = 1 ∧ bt x3 w18.toInt.toNat = true) ∨ (r36.toInt = 0 ∧ bt x3 w18.toInt.toNat = false)) := by have q9 := h39; exact q9
      refine lv_if_ne (tgt := 30) hx hb dX7_works_24 (by decide) (fun c41 => ?_) (fun c41 => ?_)
      · have c41 := mt (ax_eq (n := 0) (by decide)).mpr c41
        refine lv_iload_n hx hb dX7_works_30 rfl (lv_at hl 1 rfl) ?_
        refine lv_iload hx hb dX7_works_31 (lv_at hl 5 rfl) ?_
        refine lv_aload_n hx hb dX7_works_33 rfl (lv_at hl 0 rfl) ?_
        refine lv_iload_n hx hb dX7_works_34 rfl (lv_at hl 2 rfl) ?_
        refine lv_iconst (v := 1) hx hb dX7_works_35 (by decide) ?_
        refine va_calli (va_runV (As := [.int x2, .int 1]) (rest := [.int w18, .int x1]) ⟨hx, hb, hml, hown, hts⟩ (y_X7_of l dC dI H.size hLK A hA F25 a0 x2 1 ha0 (⟨by omega, by omega⟩) (by decide) hI) (cwV 2 hts (ax_gV T_1131 T_1133 T_1134 T_265 T_1132) rfl rfl rfl (by decide +kernel) ⟨Nat.le_of_ble_eq_true rfl, Nat.le_of_ble_eq_true rfl⟩) ⟨fun a U g mk q => ⟨q.1, s_pc rfl rfl q.2⟩, s_recv hK hP (hLK _ ha0 (by decide)) (ci := 7) rfl oY27, fun U hU hW => ⟨rfl, s_pw hU hW hP hK hD hN⟩⟩ rfl rfl hl.1 rfl (lv_room (Nat.le_of_ble_eq_true rfl)) dX7_works_36 ⟨Nat.zero_le _, Nat.zero_le _⟩) hS (fun q _ h => h) (fun q h => h) (fun r43 F44 t H1 locs ht hvm hw hB hz1 hk1 hS => ?_)
        obtain ⟨hP, hK1⟩ := hB
        rw [ht] at hP
        generalize H1 = H at hP hS ⊢
        clear hz1 hk1 hvm hK1
        obtain ⟨h45, h47, hI, hfr1, hzf, h46⟩ := hw
        have o48 : F44 (A 13) = .inl (cs 0, 400, .inl f1) := (hfr1 _ (by rw [(y_k13 hA)]; decide)).trans o26
        have o49 : F44 (A 20) = .inl (cs 0, 918, .inl f28) := (hfr1 _ (by rw [(y_k20 hA)]; decide)).trans o29
        have oY50 : F44 a0 = .inr (7, y_fl A z0 q0) := (hfr1 _ (by rw [ha0]; decide)).trans oY27
        have hfr : ∀ b, K b ∉ [70] → F44 b = F b := fun b hb9 => (hfr1 b (fun q => hb9 (s_sub (by decide) q))).trans (hfr b hb9)
        have h46 : (r43 = y_c f1 (8 * x2.toInt + 1)) := by have q9 := h46; rw [y_atE o26] at q9; exact q9
        have h46 : r43 = y_c f1 (8 * x2.toInt + 1) := h46.trans (congrArg (y_c f1) (by omega))
        have h51 := congrArg Int32.toInt h46
        refine lv_i2l hx hb dX7_works_39 rfl ?_
        refine lv_topl (fun v52 ev52 => ?_)
        have qv52 : v52.toInt = r43.toInt := y_i2l ev52
        refine lv_lconst (v := 0) hx hb dX7_works_40 (by decide) ?_
        refine lv_ldc2 hx hb hown (hts _ T_1238) dX7_works_41 ?_
        refine va_calli (va_runS (As := [.long v52, .long 0, .long 3]) (rest := [.int w18, .int x1]) ⟨hx, hb, hml, hown, hts⟩ (y_X7_isIn l dC dI H.size F44 v52 0 3) (cwS 3 hts (ax_gS T_267 T_268 T_265 T_21) rfl rfl rfl (by decide +kernel) ⟨Nat.le_of_ble_eq_true rfl, Nat.le_of_ble_eq_true rfl⟩) ⟨fun a U g mk q => ⟨q.1, s_pc rfl rfl q.2⟩, fun U hU hW => ⟨rfl, s_pw hU hW hP hK hD hN⟩⟩ rfl rfl hl.1 rfl (lv_room (Nat.le_of_ble_eq_true rfl)) dX7_works_44 ⟨Nat.zero_le _, Nat.zero_le _⟩) hS (fun q _ h => h) (fun q h => h) (fun r54 F55 t H1 locs ht hvm hw hB hz1 hk1 hS => ?_)
        obtain ⟨hP, hK1⟩ := hB
        rw [ht] at hP
        generalize H1 = H at hP hS ⊢
        clear hz1 hk1 hvm hK1
        obtain ⟨h56, h58, hG9, h57⟩ := hw
        rw [hG9] at hP
        have h57 : ((r54.toInt = 0 ∧ (v52.toInt < 0 ∨ 3 < v52.toInt)) ∨ (r54.toInt = 1 ∧ 0 ≤ v52.toInt ∧ v52.toInt ≤ 3)) := by have q9 := h57; exact q9
        refine lv_if_eq (tgt := 59) hx hb dX7_works_47 (by decide) (fun c59 => ?_) (fun c59 => ?_)
        · have c59 := (ax_eq (n := 0) (by decide)).mp c59
          refine lv_iconst (v := 0) hx hb dX7_works_59 (by decide) ?_
          have h60 : (0 : Int32).toInt = 0 := by decide
          exact K60 _ _ _ ⟨F44, _, 0, w18, x1, rfl, lv_sub hl [0, 1, 2, 3, 4, 5] rfl, hP, hS, hI, hfr, (fun k hk => (y_fiZ oY50 (s_sub (by decide) hk)).trans (hz0 k hk)), (by decide), ⟨by omega, by omega⟩, ⟨by omega, by omega⟩, ⟨by omega, by omega⟩, ⟨by omega, by omega⟩, ⟨by omega, by omega⟩, ⟨by omega, by omega⟩, (by rw [y_atE o49]; exact h24)⟩
        · have c59 := mt (ax_eq (n := 0) (by decide)).mpr c59
          refine lv_aload_n hx hb dX7_works_50 rfl (lv_at hl 0 rfl) ?_
          refine lv_iload_n hx hb dX7_works_51 rfl (lv_at hl 2 rfl) ?_
          refine lv_iconst (v := 1) hx hb dX7_works_52 (by decide) ?_
          refine va_calli (va_runV (As := [.int x2, .int 1]) (rest := [.int w18, .int x1]) ⟨hx, hb, hml, hown, hts⟩ (y_X7_of l dC dI H.size hLK A hA F44 a0 x2 1 ha0 (⟨by omega, by omega⟩) (by decide) hI) (cwV 2 hts (ax_gV T_1131 T_1133 T_1134 T_265 T_1132) rfl rfl rfl (by decide +kernel) ⟨Nat.le_of_ble_eq_true rfl, Nat.le_of_ble_eq_true rfl⟩) ⟨fun a U g mk q => ⟨q.1, s_pc rfl rfl q.2⟩, s_recv hK hP (hLK _ ha0 (by decide)) (ci := 7) rfl oY50, fun U hU hW => ⟨rfl, s_pw hU hW hP hK hD hN⟩⟩ rfl rfl hl.1 rfl (lv_room (Nat.le_of_ble_eq_true rfl)) dX7_works_53 ⟨Nat.zero_le _, Nat.zero_le _⟩) hS (fun q _ h => h) (fun q h => h) (fun r62 F63 t H1 locs ht hvm hw hB hz1 hk1 hS => ?_)
          obtain ⟨hP, hK1⟩ := hB
          rw [ht] at hP
          generalize H1 = H at hP hS ⊢
          clear hz1 hk1 hvm hK1
          obtain ⟨h64, h66, hI, hfr1, hzf, h65⟩ := hw
          have o67 : F63 (A 13) = .inl (cs 0, 400, .inl f1) := (hfr1 _ (by rw [(y_k13 hA)]; decide)).trans o48
          have o68 : F63 (A 20) = .inl (cs 0, 918, .inl f28) := (hfr1 _ (by rw [(y_k20 hA)]; decide)).trans o49
          have oY69 : F63 a0 = .inr (7, y_fl A z0 q0) := (hfr1 _ (by rw [ha0]; decide)).trans oY50
          have hfr : ∀ b, K b ∉ [70] → F63 b = F b := fun b hb9 => (hfr1 b (fun q => hb9 (s_sub (by decide) q))).trans (hfr b hb9)
          have h65 : (r62 = y_c f1 (8 * x2.toInt + 1)) := by have q9 := h65; rw [y_atE o48] at q9; exact q9
          have h65 : r62 = y_c f1 (8 * x2.toInt + 1) := h65.trans (congrArg (y_c f1) (by omega))
          have h70 := congrArg Int32.toInt h65
          have h71 : 0 ≤ r62.toInt ∧ r62.toInt ≤ 3 := by have q8 := h46; have q9 := h65; have q7 := congrArg Int32.toInt (q9.trans q8.symm); exact ⟨by omega, by omega⟩
          refine lv_goto (tgt := 60) hx hb dX7_works_56 (by decide) ?_
          exact K60 _ _ _ ⟨F63, _, r62, w18, x1, rfl, lv_sub hl [0, 1, 2, 3, 4, 5] rfl, hP, hS, hI, hfr, (fun k hk => (y_fiZ oY69 (s_sub (by decide) hk)).trans (hz0 k hk)), ⟨by omega, by omega⟩, ⟨by omega, by omega⟩, ⟨by omega, by omega⟩, ⟨by omega, by omega⟩, ⟨by omega, by omega⟩, ⟨by omega, by omega⟩, ⟨by omega, by omega⟩, (by rw [y_atE o68]; exact h24)⟩
      · have c41 := (ax_eq (n := 0) (by decide)).mp c41
        refine lv_goto (tgt := 360) hx hb dX7_works_27 (by decide) ?_
        exact K360 _ _ _ ⟨F25, _, rfl, lv_sub hl [0, 1, 2, 3, 4, 5] rfl, hP, hS, hI, hfr, (fun k hk => (y_fiZ oY27 (s_sub (by decide) hk)).trans (hz0 k hk)), ⟨by omega, by omega⟩, ⟨by omega, by omega⟩, ⟨by omega, by omega⟩, ⟨by omega, by omega⟩, (by rw [y_atE o29]; exact h24)⟩
  · intro g H locs hq
    obtain ⟨F80, ls, w31, w32, w33, rfl, hl, hP, hS, hI, hfr, hz0, h72, h73, h74, h75, h76, h77, h78, h79⟩ := hq
    have o81 : F80 (A 13) = .inl (cs 0, 400, .inl f1) := (hfr _ (by rw [(y_k13 hA)]; decide)).trans o2
    have oY82 : F80 a0 = .inr (7, y_fl A z0 q0) := (hfr _ (by rw [ha0]; decide)).trans oY0
    have hz0 : ∀ k, k ∈ ([1, 2, 3, 4, 5, 6, 7, 8, 11, 15, 16, 19, 25, 26, 27, 31, 32] : List Nat) → z0 k = z0 k := fun _ _ => rfl
    obtain ⟨f83, o84, b85⟩ := y_op20 hI
    have h79 : (y_E6 f4 f83) := by have q9 := h79; rw [y_atE o84] at q9; exact q9
    refine va_calli (va_runS (As := [.int w33, .int w32, .int w31]) (rest := []) ⟨hx, hb, hml, hown, hts⟩ (y_X7_registerAt l dC dI H.size F80 w33 w32 w31 (⟨by omega, by omega⟩) (⟨by omega, by omega⟩) (⟨by omega, by omega⟩)) (cwS 3 hts (ax_gS T_1095 T_1097 T_265 T_1096) rfl rfl rfl (by decide +kernel) ⟨Nat.le_of_ble_eq_true rfl, Nat.le_of_ble_eq_true rfl⟩) ⟨fun a U g mk q => ⟨q.1, s_pc rfl rfl q.2⟩, fun U hU hW => ⟨rfl, s_pw hU hW hP hK hD hN⟩⟩ rfl rfl hl.1 rfl (lv_room (Nat.le_of_ble_eq_true rfl)) dX7_works_60 ⟨Nat.zero_le _, Nat.zero_le _⟩) hS (fun q _ h => h) (fun q h => h) (fun r87 F88 t H1 locs ht hvm hw hB hz1 hk1 hS => ?_)
    obtain ⟨hP, hK1⟩ := hB
    rw [ht] at hP
    generalize H1 = H at hP hS ⊢
    clear hz1 hk1 hvm hK1
    obtain ⟨h89, h91, hG9, h90⟩ := hw
    rw [hG9] at hP
    have h90 : (r87.toInt = 128 + 32 * w33.toInt + 4 * w32.toInt + w31.toInt) := by have q9 := h90; exact q9
    refine lv_istore (lv' := [(6, .int r87), (0, .ref a0), (1, .int x1), (2, .int x2), (3, .int x3), (4, .int r8), (5, .int w18)]) hx hb dX7_works_63 hl (by decide) rfl (fun ls hl => ?_)
    refine lv_bipush (v := 8) hx hb dX7_works_65 (by decide) ?_
    refine lv_iload_n hx hb dX7_works_67 rfl (lv_at hl 2 rfl) ?_
    refine lv_imul hx hb dX7_works_68 ?_
    refine lv_topi (fun v92 ev92 => ?_)
    have qv92 : v92.toInt = 8 * x1.toInt := by rw [ev92]; exact th_mul (by decide) rfl ⟨by omega, by omega⟩
    refine lv_iload hx hb dX7_works_69 (lv_at hl 6 rfl) ?_
    refine lv_iadd hx hb dX7_works_71 ?_
    refine lv_topi (fun v93 ev93 => ?_)
    have qv93 : v93.toInt = v92.toInt + w18.toInt := by rw [ev93]; exact th_add rfl rfl ⟨by omega, by omega⟩
    refine lv_istore (lv' := [(7, .int v93), (6, .int r87), (0, .ref a0), (1, .int x1), (2, .int x2), (3, .int x3), (4, .int r8), (5, .int w18)]) hx hb dX7_works_72 hl (by decide) rfl (fun ls hl => ?_)
    refine lv_aload_n hx hb dX7_works_74 rfl (lv_at hl 2 rfl) ?_
    refine th_get (D := (dC, dI)) (ci := 7) (v := .ref (A 21)) (C := RX7) (T := TX7) (N := 34) hx hb hts inX7 hown hK hP (hLK _ ha0 (by decide)) oY82 rfl 21 (by decide) (hts _ T_252) (fun _ h9 => h9) rfl dX7_works_75 ?_
    refine lv_iload hx hb dX7_works_78 (lv_at hl 7 rfl) ?_
    obtain ⟨f94, o95, b96⟩ := y_op21 hI
    refine th_iald hx hb hK hP (hLK _ (y_k21 hA) (by decide)) 0 o95 rfl (th_in ⟨by omega, by omega⟩) dX7_works_80 ?_
    refine lv_topi (fun v97 ev97 => ?_)
    refine lv_i2l hx hb dX7_works_81 rfl ?_
    refine lv_topl (fun v98 ev98 => ?_)
    have qv98 : v98.toInt = v97.toInt := y_i2l ev98
    refine lv_bipush (v := 64) hx hb dX7_works_82 (by decide) ?_
    refine va_calli (va_runS (As := [.long v98, .int 64]) (rest := []) ⟨hx, hb, hml, hown, hts⟩ (y_X7_modulo l dC dI H.size F80 v98 64 (by decide)) (cwS 2 hts (ax_gS T_1204 T_1206 T_265 T_1205) rfl rfl rfl (by decide +kernel) ⟨Nat.le_of_ble_eq_true rfl, Nat.le_of_ble_eq_true rfl⟩) ⟨fun a U g mk q => ⟨q.1, s_pc rfl rfl q.2⟩, fun U hU hW => ⟨rfl, s_pw hU hW hP hK hD hN⟩⟩ rfl rfl hl.1 rfl (lv_room (Nat.le_of_ble_eq_true rfl)) dX7_works_84 ⟨Nat.zero_le _, Nat.zero_le _⟩) hS (fun q _ h => h) (fun q h => h) (fun r100 F101 t H1 locs ht hvm hw hB hz1 hk1 hS => ?_)
    obtain ⟨hP, hK1⟩ := hB
    rw [ht] at hP
    generalize H1 = H at hP hS ⊢
    clear hz1 hk1 hvm hK1
    obtain ⟨h102, h104, hG9, h103⟩ := hw
    rw [hG9] at hP
    have h103 : (0 ≤ r100.toInt ∧ r100.toInt < 64) := by have q9 := h103; exact q9
    have h105 : 0 ≤ r100.toInt ∧ r100.toInt ≤ 63 := ⟨by omega, by omega⟩
    refine lv_istore (lv' := [(8, .int r100), (7, .int v93), (6, .int r87), (0, .ref a0), (1, .int x1), (2, .int x2), (3, .int x3), (4, .int r8), (5, .int w18)]) hx hb dX7_works_87 hl (by decide) rfl (fun ls hl => ?_)
    refine lv_aload_n hx hb dX7_works_89 rfl (lv_at hl 3 rfl) ?_
    refine th_get (D := (dC, dI)) (ci := 7) (v := .ref (A 21)) (C := RX7) (T := TX7) (N := 34) hx hb hts inX7 hown hK hP (hLK _ ha0 (by decide)) oY82 rfl 21 (by decide) (hts _ T_252) (fun _ h9 => h9) rfl dX7_works_90 ?_
    refine lv_iload hx hb dX7_works_93 (lv_at hl 8 rfl) ?_
    refine th_iald hx hb hK hP (hLK _ (y_k21 hA) (by decide)) 0 o95 rfl (th_in ⟨by omega, by omega⟩) dX7_works_95 ?_
    refine lv_topi (fun v106 ev106 => ?_)
    refine lv_i2l hx hb dX7_works_96 rfl ?_
    refine lv_topl (fun v107 ev107 => ?_)
    have qv107 : v107.toInt = v106.toInt := y_i2l ev107
    refine lv_bipush (v := 32) hx hb dX7_works_97 (by decide) ?_
    refine va_calli (va_runS (As := [.long v107, .int 32]) (rest := []) ⟨hx, hb, hml, hown, hts⟩ (y_X7_modulo l dC dI H.size F80 v107 32 (by decide)) (cwS 2 hts (ax_gS T_1204 T_1206 T_265 T_1205) rfl rfl rfl (by decide +kernel) ⟨Nat.le_of_ble_eq_true rfl, Nat.le_of_ble_eq_true rfl⟩) ⟨fun a U g mk q => ⟨q.1, s_pc rfl rfl q.2⟩, fun U hU hW => ⟨rfl, s_pw hU hW hP hK hD hN⟩⟩ rfl rfl hl.1 rfl (lv_room (Nat.le_of_ble_eq_true rfl)) dX7_works_99 ⟨Nat.zero_le _, Nat.zero_le _⟩) hS (fun q _ h => h) (fun q h => h) (fun r109 F110 t H1 locs ht hvm hw hB hz1 hk1 hS => ?_)
    obtain ⟨hP, hK1⟩ := hB
    rw [ht] at hP
    generalize H1 = H at hP hS ⊢
    clear hz1 hk1 hvm hK1
    obtain ⟨h111, h113, hG9, h112⟩ := hw
    rw [hG9] at hP
    have h112 : (0 ≤ r109.toInt ∧ r109.toInt < 32) := by have q9 := h112; exact q9
    have h114 : 0 ≤ r109.toInt ∧ r109.toInt ≤ 31 := ⟨by omega, by omega⟩
    refine lv_istore (lv' := [(9, .int r109), (8, .int r100), (7, .int v93), (6, .int r87), (0, .ref a0), (1, .int x1), (2, .int x2), (3, .int x3), (4, .int r8), (5, .int w18)]) hx hb dX7_works_102 hl (by decide) rfl (fun ls hl => ?_)
    refine lv_iload hx hb dX7_works_104 (lv_at hl 8 rfl) ?_
    by_cases c115 : r8 = 5
    · refine ax_eqi c115 ?_
      refine lv_tableIn (off := 42) (tgt := 148) hx hb dX7_works_106 (by decide) (by decide) (by decide) (by decide) ?_
      have c115 := (ax_eq (n := 5) (by decide)).mp c115
      refine lv_aload_n hx hb dX7_works_148 rfl (lv_at hl 4 rfl) ?_
      refine th_get (D := (dC, dI)) (ci := 7) (v := .ref (A 20)) (C := RX7) (T := TX7) (N := 34) hx hb hts inX7 hown hK hP (hLK _ ha0 (by decide)) oY82 rfl 20 (by decide) (hts _ T_251) (fun _ h9 => h9) rfl dX7_works_149 ?_
      refine lv_iload hx hb dX7_works_152 (lv_at hl 3 rfl) ?_
      refine lv_iload hx hb dX7_works_154 (lv_at hl 9 rfl) ?_
      refine th_iast hx hb hK hP hD hS (hLK _ (y_k20 hA) (by decide)) 0 o84 rfl (th_in ⟨by omega, by omega⟩) dX7_works_156 (fun H locs hP hS => ?_)
      obtain ⟨f116, u117⟩ : ∃ g : Nat → Int32, g = upd f83 (r87 : Int32).toNatClampNeg w18 := ⟨_, rfl⟩
      rw [← u117] at hP
      have b118 : y_bd 20 f116 := trivial
      have hP : va_P (dC, dI) vwCl (va_pl L (va_up F80 (A 20) (.inl (cs 0, 918, .inl f116)))) H := hP
      obtain ⟨F119, hF120⟩ : ∃ G : Nat → va_E, G = va_up F80 (A 20) (.inl (cs 0, 918, .inl f116)) := ⟨_, rfl⟩
      rw [← hF120] at hP
      have hI : y_I K cs A F119 := by rw [hF120]; exact y_clA (i := 20) hA hI (by decide) b118
      have hfr : ∀ b, K b ∉ [70] → F119 b = F b := by rw [hF120]; exact s_fr hfr (y_k20 hA) (by decide)
      have o121 : F119 (A 13) = .inl (cs 0, 400, .inl f1) := by rw [hF120]; exact th_ne (th_kd (y_k13 hA) (y_k20 hA) (by decide)) o81
      have o122 : F119 (A 21) = .inl (cs 0, 8, .inl f94) := by rw [hF120]; exact th_ne (th_kd (y_k21 hA) (y_k20 hA) (by decide)) o95
      have oY123 : F119 a0 = .inr (7, y_fl A z0 q0) := by rw [hF120]; exact th_ne (th_kd ha0 (y_k20 hA) (by decide)) oY82
      have o124 : F119 (A 20) = .inl (cs 0, 918, .inl f116) := by rw [hF120]; exact th_up
      have u125 : ∀ j : Int, 0 ≤ j → y_c f116 j = if j = r87.toInt then w18 else y_c f83 j := by rw [u117]; exact y_cu rfl (by omega)
      refine lv_goto (tgt := 360) hx hb dX7_works_157 (by decide) ?_
      exact K360 _ _ _ ⟨F119, _, rfl, lv_sub hl [4, 5, 6, 7, 8, 9] rfl, hP, hS, hI, hfr, (fun k hk => (y_fiZ oY123 (s_sub (by decide) hk)).trans (hz0 k hk)), ⟨by omega, by omega⟩, ⟨by omega, by omega⟩, ⟨by omega, by omega⟩, ⟨by omega, by omega⟩, (by rw [y_atE o124]; exact (y_E6_t h79 (y_E6_u u125 (by omega))))⟩
    · have c115 := mt (ax_eq (n := 5) (by decide)).mpr c115
      by_cases c126 : r8 = 6
      · refine ax_eqi c126 ?_
        refine lv_tableIn (off := 54) (tgt := 160) hx hb dX7_works_106 (by decide) (by decide) (by decide) (by decide) ?_
        have c126 := (ax_eq (n := 6) (by decide)).mp c126
        refine lv_aload_n hx hb dX7_works_160 rfl (lv_at hl 4 rfl) ?_
        refine th_get (D := (dC, dI)) (ci := 7) (v := .ref (A 20)) (C := RX7) (T := TX7) (N := 34) hx hb hts inX7 hown hK hP (hLK _ ha0 (by decide)) oY82 rfl 20 (by decide) (hts _ T_251) (fun _ h9 => h9) rfl dX7_works_161 ?_
        refine lv_iload hx hb dX7_works_164 (lv_at hl 3 rfl) ?_
        refine lv_iload_n hx hb dX7_works_166 rfl (lv_at hl 5 rfl) ?_
        refine th_iast hx hb hK hP hD hS (hLK _ (y_k20 hA) (by decide)) 0 o84 rfl (th_in ⟨by omega, by omega⟩) dX7_works_167 (fun H locs hP hS => ?_)
        obtain ⟨f127, u128⟩ : ∃ g : Nat → Int32, g = upd f83 (r87 : Int32).toNatClampNeg x1 := ⟨_, rfl⟩
        rw [← u128] at hP
        have b129 : y_bd 20 f127 := trivial
        have hP : va_P (dC, dI) vwCl (va_pl L (va_up F80 (A 20) (.inl (cs 0, 918, .inl f127)))) H := hP
        obtain ⟨F130, hF131⟩ : ∃ G : Nat → va_E, G = va_up F80 (A 20) (.inl (cs 0, 918, .inl f127)) := ⟨_, rfl⟩
        rw [← hF131] at hP
        have hI : y_I K cs A F130 := by rw [hF131]; exact y_clA (i := 20) hA hI (by decide) b129
        have hfr : ∀ b, K b ∉ [70] → F130 b = F b := by rw [hF131]; exact s_fr hfr (y_k20 hA) (by decide)
        have o132 : F130 (A 13) = .inl (cs 0, 400, .inl f1) := by rw [hF131]; exact th_ne (th_kd (y_k13 hA) (y_k20 hA) (by decide)) o81
        have o133 : F130 (A 21) = .inl (cs 0, 8, .inl f94) := by rw [hF131]; exact th_ne (th_kd (y_k21 hA) (y_k20 hA) (by decide)) o95
        have oY134 : F130 a0 = .inr (7, y_fl A z0 q0) := by rw [hF131]; exact th_ne (th_kd ha0 (y_k20 hA) (by decide)) oY82
        have o135 : F130 (A 20) = .inl (cs 0, 918, .inl f127) := by rw [hF131]; exact th_up
        have u136 : ∀ j : Int, 0 ≤ j → y_c f127 j = if j = r87.toInt then x1 else y_c f83 j := by rw [u128]; exact y_cu rfl (by omega)
        refine lv_goto (tgt := 360) hx hb dX7_works_168 (by decide) ?_
        exact K360 _ _ _ ⟨F130, _, rfl, lv_sub hl [4, 5, 6, 7, 8, 9] rfl, hP, hS, hI, hfr, (fun k hk => (y_fiZ oY134 (s_sub (by decide) hk)).trans (hz0 k hk)), ⟨by omega, by omega⟩, ⟨by omega, by omega⟩, ⟨by omega, by omega⟩, ⟨by omega, by omega⟩, (by rw [y_atE o135]; exact (y_E6_t h79 (y_E6_u u136 (by omega))))⟩
      · have c126 := mt (ax_eq (n := 6) (by decide)).mpr c126
        by_cases c137 : r8 = 7
        · refine ax_eqi c137 ?_
          refine lv_tableIn (off := 65) (tgt := 171) hx hb dX7_works_106 (by decide) (by decide) (by decide) (by decide) ?_
          have c137 := (ax_eq (n := 7) (by decide)).mp c137
          refine lv_aload_n hx hb dX7_works_171 rfl (lv_at hl 4 rfl) ?_
          refine lv_iload hx hb dX7_works_172 (lv_at hl 1 rfl) ?_
          refine lv_iload hx hb dX7_works_174 (lv_at hl 2 rfl) ?_
          refine lv_iconst (v := 0) hx hb dX7_works_176 (by decide) ?_
          refine va_callv (va_runV (As := [.int r100, .int v93, .int 0]) (rest := []) ⟨hx, hb, hml, hown, hts⟩ (y_X7_touches l dC dI H.size hLK A hA F80 a0 r100 v93 0 ha0 (⟨by omega, by omega⟩) (⟨by omega, by omega⟩) (by decide) hI) (cwV 3 hts (ax_gV T_1334 T_1336 T_1337 T_265 T_1335) rfl rfl rfl (by decide +kernel) ⟨Nat.le_of_ble_eq_true rfl, Nat.le_of_ble_eq_true rfl⟩) ⟨fun a U g mk q => ⟨q.1, s_pc rfl rfl q.2⟩, s_recv hK hP (hLK _ ha0 (by decide)) (ci := 7) rfl oY82, fun U hU hW => ⟨rfl, s_pw hU hW hP hK hD hN⟩⟩ rfl rfl hl.1 rfl (lv_room (Nat.le_of_ble_eq_true rfl)) dX7_works_177 ⟨Nat.zero_le _, Nat.zero_le _⟩) hS (fun q _ h => h) (fun q h => h) (fun F139 t H1 locs ht hvm hw hB hz1 hk1 hS => ?_)
          obtain ⟨hP, hK1⟩ := hB
          rw [ht] at hP
          generalize H1 = H at hP hS ⊢
          clear hz1 hk1 hvm hK1
          obtain ⟨h140, h142, hI, hfr1, hzf, h141⟩ := hw
          have o143 : F139 (A 13) = .inl (cs 0, 400, .inl f1) := (hfr1 _ (by rw [(y_k13 hA)]; decide)).trans o81
          have o144 : F139 (A 21) = .inl (cs 0, 8, .inl f94) := (hfr1 _ (by rw [(y_k21 hA)]; decide)).trans o95
          have oY145 : F139 a0 = .inr (7, y_fl A z0 q0) := (hfr1 _ (by rw [ha0]; decide)).trans oY82
          have hfr : ∀ b, K b ∉ [70] → F139 b = F b := fun b hb9 => (hfr1 b (fun q => hb9 (s_sub (by decide) q))).trans (hfr b hb9)
          obtain ⟨f146, o147, b148⟩ := y_op20 hI
          have h141 : (y_E6 f83 f146) := by have q9 := h141; rw [y_atE o84, y_atE o147] at q9; exact q9
          refine lv_aload_n hx hb dX7_works_180 rfl (lv_at hl 4 rfl) ?_
          refine th_get (D := (dC, dI)) (ci := 7) (v := .ref (A 20)) (C := RX7) (T := TX7) (N := 34) hx hb hts inX7 hown hK hP (hLK _ ha0 (by decide)) oY145 rfl 20 (by decide) (hts _ T_251) (fun _ h9 => h9) rfl dX7_works_181 ?_
          refine lv_iload hx hb dX7_works_184 (lv_at hl 3 rfl) ?_
          refine lv_aload_n hx hb dX7_works_186 rfl (lv_at hl 4 rfl) ?_
          refine th_get (D := (dC, dI)) (ci := 7) (v := .ref (A 20)) (C := RX7) (T := TX7) (N := 34) hx hb hts inX7 hown hK hP (hLK _ ha0 (by decide)) oY145 rfl 20 (by decide) (hts _ T_251) (fun _ h9 => h9) rfl dX7_works_187 ?_
          refine lv_bipush (v := 8) hx hb dX7_works_190 (by decide) ?_
          refine lv_iload hx hb dX7_works_192 (lv_at hl 1 rfl) ?_
          refine lv_iadd hx hb dX7_works_194 ?_
          refine lv_topi (fun v149 ev149 => ?_)
          have qv149 : v149.toInt = 8 + r100.toInt := by rw [ev149]; exact th_add (by decide) rfl ⟨by omega, by omega⟩
          refine th_iald hx hb hK hP (hLK _ (y_k20 hA) (by decide)) 0 o147 rfl (th_in ⟨by omega, by omega⟩) dX7_works_195 ?_
          refine lv_topi (fun v150 ev150 => ?_)
          refine th_iast hx hb hK hP hD hS (hLK _ (y_k20 hA) (by decide)) 0 o147 rfl (th_in ⟨by omega, by omega⟩) dX7_works_196 (fun H locs hP hS => ?_)
          obtain ⟨f151, u152⟩ : ∃ g : Nat → Int32, g = upd f146 (r87 : Int32).toNatClampNeg v150 := ⟨_, rfl⟩
          rw [← u152] at hP
          have b153 : y_bd 20 f151 := trivial
          have hP : va_P (dC, dI) vwCl (va_pl L (va_up F139 (A 20) (.inl (cs 0, 918, .inl f151)))) H := hP
          obtain ⟨F154, hF155⟩ : ∃ G : Nat → va_E, G = va_up F139 (A 20) (.inl (cs 0, 918, .inl f151)) := ⟨_, rfl⟩
          rw [← hF155] at hP
          have hI : y_I K cs A F154 := by rw [hF155]; exact y_clA (i := 20) hA hI (by decide) b153
          have hfr : ∀ b, K b ∉ [70] → F154 b = F b := by rw [hF155]; exact s_fr hfr (y_k20 hA) (by decide)
          have o156 : F154 (A 13) = .inl (cs 0, 400, .inl f1) := by rw [hF155]; exact th_ne (th_kd (y_k13 hA) (y_k20 hA) (by decide)) o143
          have o157 : F154 (A 21) = .inl (cs 0, 8, .inl f94) := by rw [hF155]; exact th_ne (th_kd (y_k21 hA) (y_k20 hA) (by decide)) o144
          have oY158 : F154 a0 = .inr (7, y_fl A z0 q0) := by rw [hF155]; exact th_ne (th_kd ha0 (y_k20 hA) (by decide)) oY145
          have o159 : F154 (A 20) = .inl (cs 0, 918, .inl f151) := by rw [hF155]; exact th_up
          have u160 : ∀ j : Int, 0 ≤ j → y_c f151 j = if j = r87.toInt then v150 else y_c f146 j := by rw [u152]; exact y_cu rfl (by omega)
          refine lv_goto (tgt := 360) hx hb dX7_works_197 (by decide) ?_
          exact K360 _ _ _ ⟨F154, _, rfl, lv_sub hl [4, 5, 6, 7, 8, 9] rfl, hP, hS, hI, hfr, (fun k hk => (y_fiZ oY158 (s_sub (by decide) hk)).trans (hz0 k hk)), ⟨by omega, by omega⟩, ⟨by omega, by omega⟩, ⟨by omega, by omega⟩, ⟨by omega, by omega⟩, (by rw [y_atE o159]; exact (y_E6_t (y_E6_t h79 h141) (y_E6_u u160 (by omega))))⟩
        · have c137 := mt (ax_eq (n := 7) (by decide)).mpr c137
          by_cases c161 : r8 = 8
          · refine ax_eqi c161 ?_
            refine lv_tableIn (off := 94) (tgt := 200) hx hb dX7_works_106 (by decide) (by decide) (by decide) (by decide) ?_
            have c161 := (ax_eq (n := 8) (by decide)).mp c161
            refine lv_aload_n hx hb dX7_works_200 rfl (lv_at hl 4 rfl) ?_
            refine lv_iload hx hb dX7_works_201 (lv_at hl 1 rfl) ?_
            refine lv_iload hx hb dX7_works_203 (lv_at hl 2 rfl) ?_
            refine lv_iconst (v := 1) hx hb dX7_works_205 (by decide) ?_
            refine va_callv (va_runV (As := [.int r100, .int v93, .int 1]) (rest := []) ⟨hx, hb, hml, hown, hts⟩ (y_X7_touches l dC dI H.size hLK A hA F80 a0 r100 v93 1 ha0 (⟨by omega, by omega⟩) (⟨by omega, by omega⟩) (by decide) hI) (cwV 3 hts (ax_gV T_1334 T_1336 T_1337 T_265 T_1335) rfl rfl rfl (by decide +kernel) ⟨Nat.le_of_ble_eq_true rfl, Nat.le_of_ble_eq_true rfl⟩) ⟨fun a U g mk q => ⟨q.1, s_pc rfl rfl q.2⟩, s_recv hK hP (hLK _ ha0 (by decide)) (ci := 7) rfl oY82, fun U hU hW => ⟨rfl, s_pw hU hW hP hK hD hN⟩⟩ rfl rfl hl.1 rfl (lv_room (Nat.le_of_ble_eq_true rfl)) dX7_works_206 ⟨Nat.zero_le _, Nat.zero_le _⟩) hS (fun q _ h => h) (fun q h => h) (fun F163 t H1 locs ht hvm hw hB hz1 hk1 hS => ?_)
            obtain ⟨hP, hK1⟩ := hB
            rw [ht] at hP
            generalize H1 = H at hP hS ⊢
            clear hz1 hk1 hvm hK1
            obtain ⟨h164, h166, hI, hfr1, hzf, h165⟩ := hw
            have o167 : F163 (A 13) = .inl (cs 0, 400, .inl f1) := (hfr1 _ (by rw [(y_k13 hA)]; decide)).trans o81
            have o168 : F163 (A 21) = .inl (cs 0, 8, .inl f94) := (hfr1 _ (by rw [(y_k21 hA)]; decide)).trans o95
            have oY169 : F163 a0 = .inr (7, y_fl A z0 q0) := (hfr1 _ (by rw [ha0]; decide)).trans oY82
            have hfr : ∀ b, K b ∉ [70] → F163 b = F b := fun b hb9 => (hfr1 b (fun q => hb9 (s_sub (by decide) q))).trans (hfr b hb9)
            obtain ⟨f170, o171, b172⟩ := y_op20 hI
            have h165 : (y_E6 f83 f170) := by have q9 := h165; rw [y_atE o84, y_atE o171] at q9; exact q9
            refine lv_aload_n hx hb dX7_works_209 rfl (lv_at hl 4 rfl) ?_
            refine th_get (D := (dC, dI)) (ci := 7) (v := .ref (A 20)) (C := RX7) (T := TX7) (N := 34) hx hb hts inX7 hown hK hP (hLK _ ha0 (by decide)) oY169 rfl 20 (by decide) (hts _ T_251) (fun _ h9 => h9) rfl dX7_works_210 ?_
            refine lv_bipush (v := 8) hx hb dX7_works_213 (by decide) ?_
            refine lv_iload hx hb dX7_works_215 (lv_at hl 1 rfl) ?_
            refine lv_iadd hx hb dX7_works_217 ?_
            refine lv_topi (fun v173 ev173 => ?_)
            have qv173 : v173.toInt = 8 + r100.toInt := by rw [ev173]; exact th_add (by decide) rfl ⟨by omega, by omega⟩
            refine lv_aload_n hx hb dX7_works_218 rfl (lv_at hl 4 rfl) ?_
            refine th_get (D := (dC, dI)) (ci := 7) (v := .ref (A 22)) (C := RX7) (T := TX7) (N := 34) hx hb hts inX7 hown hK hP (hLK _ ha0 (by decide)) oY169 rfl 22 (by decide) (hts _ T_253) (fun _ h9 => h9) rfl dX7_works_219 ?_
            refine lv_iload hx hb dX7_works_222 (lv_at hl 9 rfl) ?_
            obtain ⟨f174, o175, b176⟩ := y_op22 hI
            refine th_iald hx hb hK hP (hLK _ (y_k22 hA) (by decide)) 0 o175 rfl (th_in ⟨by omega, by omega⟩) dX7_works_224 ?_
            refine lv_topi (fun v177 ev177 => ?_)
            refine th_iast hx hb hK hP hD hS (hLK _ (y_k20 hA) (by decide)) 0 o171 rfl (th_in ⟨by omega, by omega⟩) dX7_works_225 (fun H locs hP hS => ?_)
            obtain ⟨f178, u179⟩ : ∃ g : Nat → Int32, g = upd f170 (v173 : Int32).toNatClampNeg v177 := ⟨_, rfl⟩
            rw [← u179] at hP
            have b180 : y_bd 20 f178 := trivial
            have hP : va_P (dC, dI) vwCl (va_pl L (va_up F163 (A 20) (.inl (cs 0, 918, .inl f178)))) H := hP
            obtain ⟨F181, hF182⟩ : ∃ G : Nat → va_E, G = va_up F163 (A 20) (.inl (cs 0, 918, .inl f178)) := ⟨_, rfl⟩
            rw [← hF182] at hP
            have hI : y_I K cs A F181 := by rw [hF182]; exact y_clA (i := 20) hA hI (by decide) b180
            have hfr : ∀ b, K b ∉ [70] → F181 b = F b := by rw [hF182]; exact s_fr hfr (y_k20 hA) (by decide)
            have o183 : F181 (A 13) = .inl (cs 0, 400, .inl f1) := by rw [hF182]; exact th_ne (th_kd (y_k13 hA) (y_k20 hA) (by decide)) o167
            have o184 : F181 (A 21) = .inl (cs 0, 8, .inl f94) := by rw [hF182]; exact th_ne (th_kd (y_k21 hA) (y_k20 hA) (by decide)) o168
            have o185 : F181 (A 22) = .inl (cs 0, 8, .inl f174) := by rw [hF182]; exact th_ne (th_kd (y_k22 hA) (y_k20 hA) (by decide)) o175
            have oY186 : F181 a0 = .inr (7, y_fl A z0 q0) := by rw [hF182]; exact th_ne (th_kd ha0 (y_k20 hA) (by decide)) oY169
            have o187 : F181 (A 20) = .inl (cs 0, 918, .inl f178) := by rw [hF182]; exact th_up
            have u188 : ∀ j : Int, 0 ≤ j → y_c f178 j = if j = v173.toInt then v177 else y_c f170 j := by rw [u179]; exact y_cu rfl (by omega)
            refine lv_goto (tgt := 360) hx hb dX7_works_226 (by decide) ?_
            exact K360 _ _ _ ⟨F181, _, rfl, lv_sub hl [4, 5, 6, 7, 8, 9] rfl, hP, hS, hI, hfr, (fun k hk => (y_fiZ oY186 (s_sub (by decide) hk)).trans (hz0 k hk)), ⟨by omega, by omega⟩, ⟨by omega, by omega⟩, ⟨by omega, by omega⟩, ⟨by omega, by omega⟩, (by rw [y_atE o187]; exact (y_E6_t (y_E6_t h79 h165) (y_E6_u u188 (by omega))))⟩
          · have c161 := mt (ax_eq (n := 8) (by decide)).mpr c161
            by_cases c189 : r8 = 9
            · refine ax_eqi c189 ?_
              refine lv_tableIn (off := 123) (tgt := 229) hx hb dX7_works_106 (by decide) (by decide) (by decide) (by decide) ?_
              have c189 := (ax_eq (n := 9) (by decide)).mp c189
              refine lv_aload_n hx hb dX7_works_229 rfl (lv_at hl 4 rfl) ?_
              refine lv_bipush (v := 64) hx hb dX7_works_230 (by decide) ?_
              refine lv_iload hx hb dX7_works_232 (lv_at hl 0 rfl) ?_
              refine lv_iadd hx hb dX7_works_234 ?_
              refine lv_topi (fun v190 ev190 => ?_)
              have qv190 : v190.toInt = 64 + r109.toInt := by rw [ev190]; exact th_add (by decide) rfl ⟨by omega, by omega⟩
              refine lv_iload hx hb dX7_works_235 (lv_at hl 2 rfl) ?_
              refine lv_iconst (v := 0) hx hb dX7_works_237 (by decide) ?_
              refine va_callv (va_runV (As := [.int v190, .int v93, .int 0]) (rest := []) ⟨hx, hb, hml, hown, hts⟩ (y_X7_touches l dC dI H.size hLK A hA F80 a0 v190 v93 0 ha0 (⟨by omega, by omega⟩) (⟨by omega, by omega⟩) (by decide) hI) (cwV 3 hts (ax_gV T_1334 T_1336 T_1337 T_265 T_1335) rfl rfl rfl (by decide +kernel) ⟨Nat.le_of_ble_eq_true rfl, Nat.le_of_ble_eq_true rfl⟩) ⟨fun a U g mk q => ⟨q.1, s_pc rfl rfl q.2⟩, s_recv hK hP (hLK _ ha0 (by decide)) (ci := 7) rfl oY82, fun U hU hW => ⟨rfl, s_pw hU hW hP hK hD hN⟩⟩ rfl rfl hl.1 rfl (lv_room (Nat.le_of_ble_eq_true rfl)) dX7_works_238 ⟨Nat.zero_le _, Nat.zero_le _⟩) hS (fun q _ h => h) (fun q h => h) (fun F192 t H1 locs ht hvm hw hB hz1 hk1 hS => ?_)
              obtain ⟨hP, hK1⟩ := hB
              rw [ht] at hP
              generalize H1 = H at hP hS ⊢
              clear hz1 hk1 hvm hK1
              obtain ⟨h193, h195, hI, hfr1, hzf, h194⟩ := hw
              have o196 : F192 (A 13) = .inl (cs 0, 400, .inl f1) := (hfr1 _ (by rw [(y_k13 hA)]; decide)).trans o81
              have o197 : F192 (A 21) = .inl (cs 0, 8, .inl f94) := (hfr1 _ (by rw [(y_k21 hA)]; decide)).trans o95
              have oY198 : F192 a0 = .inr (7, y_fl A z0 q0) := (hfr1 _ (by rw [ha0]; decide)).trans oY82
              have hfr : ∀ b, K b ∉ [70] → F192 b = F b := fun b hb9 => (hfr1 b (fun q => hb9 (s_sub (by decide) q))).trans (hfr b hb9)
              obtain ⟨f199, o200, b201⟩ := y_op20 hI
              have h194 : (y_E6 f83 f199) := by have q9 := h194; rw [y_atE o84, y_atE o200] at q9; exact q9
              refine lv_aload_n hx hb dX7_works_241 rfl (lv_at hl 4 rfl) ?_
              refine th_get (D := (dC, dI)) (ci := 7) (v := .ref (A 20)) (C := RX7) (T := TX7) (N := 34) hx hb hts inX7 hown hK hP (hLK _ ha0 (by decide)) oY198 rfl 20 (by decide) (hts _ T_251) (fun _ h9 => h9) rfl dX7_works_242 ?_
              refine lv_iload hx hb dX7_works_245 (lv_at hl 3 rfl) ?_
              refine lv_aload_n hx hb dX7_works_247 rfl (lv_at hl 4 rfl) ?_
              refine th_get (D := (dC, dI)) (ci := 7) (v := .ref (A 20)) (C := RX7) (T := TX7) (N := 34) hx hb hts inX7 hown hK hP (hLK _ ha0 (by decide)) oY198 rfl 20 (by decide) (hts _ T_251) (fun _ h9 => h9) rfl dX7_works_248 ?_
              refine lv_bipush (v := 72) hx hb dX7_works_251 (by decide) ?_
              refine lv_iload hx hb dX7_works_253 (lv_at hl 0 rfl) ?_
              refine lv_iadd hx hb dX7_works_255 ?_
              refine lv_topi (fun v202 ev202 => ?_)
              have qv202 : v202.toInt = 72 + r109.toInt := by rw [ev202]; exact th_add (by decide) rfl ⟨by omega, by omega⟩
              refine th_iald hx hb hK hP (hLK _ (y_k20 hA) (by decide)) 0 o200 rfl (th_in ⟨by omega, by omega⟩) dX7_works_256 ?_
              refine lv_topi (fun v203 ev203 => ?_)
              refine th_iast hx hb hK hP hD hS (hLK _ (y_k20 hA) (by decide)) 0 o200 rfl (th_in ⟨by omega, by omega⟩) dX7_works_257 (fun H locs hP hS => ?_)
              obtain ⟨f204, u205⟩ : ∃ g : Nat → Int32, g = upd f199 (r87 : Int32).toNatClampNeg v203 := ⟨_, rfl⟩
              rw [← u205] at hP
              have b206 : y_bd 20 f204 := trivial
              have hP : va_P (dC, dI) vwCl (va_pl L (va_up F192 (A 20) (.inl (cs 0, 918, .inl f204)))) H := hP
              obtain ⟨F207, hF208⟩ : ∃ G : Nat → va_E, G = va_up F192 (A 20) (.inl (cs 0, 918, .inl f204)) := ⟨_, rfl⟩
              rw [← hF208] at hP
              have hI : y_I K cs A F207 := by rw [hF208]; exact y_clA (i := 20) hA hI (by decide) b206
              have hfr : ∀ b, K b ∉ [70] → F207 b = F b := by rw [hF208]; exact s_fr hfr (y_k20 hA) (by decide)
              have o209 : F207 (A 13) = .inl (cs 0, 400, .inl f1) := by rw [hF208]; exact th_ne (th_kd (y_k13 hA) (y_k20 hA) (by decide)) o196
              have o210 : F207 (A 21) = .inl (cs 0, 8, .inl f94) := by rw [hF208]; exact th_ne (th_kd (y_k21 hA) (y_k20 hA) (by decide)) o197
              have oY211 : F207 a0 = .inr (7, y_fl A z0 q0) := by rw [hF208]; exact th_ne (th_kd ha0 (y_k20 hA) (by decide)) oY198
              have o212 : F207 (A 20) = .inl (cs 0, 918, .inl f204) := by rw [hF208]; exact th_up
              have u213 : ∀ j : Int, 0 ≤ j → y_c f204 j = if j = r87.toInt then v203 else y_c f199 j := by rw [u205]; exact y_cu rfl (by omega)
              refine lv_goto (tgt := 360) hx hb dX7_works_258 (by decide) ?_
              exact K360 _ _ _ ⟨F207, _, rfl, lv_sub hl [4, 5, 6, 7, 8, 9] rfl, hP, hS, hI, hfr, (fun k hk => (y_fiZ oY211 (s_sub (by decide) hk)).trans (hz0 k hk)), ⟨by omega, by omega⟩, ⟨by omega, by omega⟩, ⟨by omega, by omega⟩, ⟨by omega, by omega⟩, (by rw [y_atE o212]; exact (y_E6_t (y_E6_t h79 h194) (y_E6_u u213 (by omega))))⟩
            · have c189 := mt (ax_eq (n := 9) (by decide)).mpr c189
              by_cases c214 : r8 = 10
              · refine ax_eqi c214 ?_
                refine lv_tableIn (off := 155) (tgt := 261) hx hb dX7_works_106 (by decide) (by decide) (by decide) (by decide) ?_
                have c214 := (ax_eq (n := 10) (by decide)).mp c214
                refine lv_aload_n hx hb dX7_works_261 rfl (lv_at hl 4 rfl) ?_
                refine lv_bipush (v := 64) hx hb dX7_works_262 (by decide) ?_
                refine lv_iload hx hb dX7_works_264 (lv_at hl 0 rfl) ?_
                refine lv_iadd hx hb dX7_works_266 ?_
                refine lv_topi (fun v215 ev215 => ?_)
                have qv215 : v215.toInt = 64 + r109.toInt := by rw [ev215]; exact th_add (by decide) rfl ⟨by omega, by omega⟩
                refine lv_iload hx hb dX7_works_267 (lv_at hl 2 rfl) ?_
                refine lv_iconst (v := 1) hx hb dX7_works_269 (by decide) ?_
                refine va_callv (va_runV (As := [.int v215, .int v93, .int 1]) (rest := []) ⟨hx, hb, hml, hown, hts⟩ (y_X7_touches l dC dI H.size hLK A hA F80 a0 v215 v93 1 ha0 (⟨by omega, by omega⟩) (⟨by omega, by omega⟩) (by decide) hI) (cwV 3 hts (ax_gV T_1334 T_1336 T_1337 T_265 T_1335) rfl rfl rfl (by decide +kernel) ⟨Nat.le_of_ble_eq_true rfl, Nat.le_of_ble_eq_true rfl⟩) ⟨fun a U g mk q => ⟨q.1, s_pc rfl rfl q.2⟩, s_recv hK hP (hLK _ ha0 (by decide)) (ci := 7) rfl oY82, fun U hU hW => ⟨rfl, s_pw hU hW hP hK hD hN⟩⟩ rfl rfl hl.1 rfl (lv_room (Nat.le_of_ble_eq_true rfl)) dX7_works_270 ⟨Nat.zero_le _, Nat.zero_le _⟩) hS (fun q _ h => h) (fun q h => h) (fun F217 t H1 locs ht hvm hw hB hz1 hk1 hS => ?_)
                obtain ⟨hP, hK1⟩ := hB
                rw [ht] at hP
                generalize H1 = H at hP hS ⊢
                clear hz1 hk1 hvm hK1
                obtain ⟨h218, h220, hI, hfr1, hzf, h219⟩ := hw
                have o221 : F217 (A 13) = .inl (cs 0, 400, .inl f1) := (hfr1 _ (by rw [(y_k13 hA)]; decide)).trans o81
                have o222 : F217 (A 21) = .inl (cs 0, 8, .inl f94) := (hfr1 _ (by rw [(y_k21 hA)]; decide)).trans o95
                have oY223 : F217 a0 = .inr (7, y_fl A z0 q0) := (hfr1 _ (by rw [ha0]; decide)).trans oY82
                have hfr : ∀ b, K b ∉ [70] → F217 b = F b := fun b hb9 => (hfr1 b (fun q => hb9 (s_sub (by decide) q))).trans (hfr b hb9)
                obtain ⟨f224, o225, b226⟩ := y_op20 hI
                have h219 : (y_E6 f83 f224) := by have q9 := h219; rw [y_atE o84, y_atE o225] at q9; exact q9
                refine lv_aload_n hx hb dX7_works_273 rfl (lv_at hl 4 rfl) ?_
                refine th_get (D := (dC, dI)) (ci := 7) (v := .ref (A 20)) (C := RX7) (T := TX7) (N := 34) hx hb hts inX7 hown hK hP (hLK _ ha0 (by decide)) oY223 rfl 20 (by decide) (hts _ T_251) (fun _ h9 => h9) rfl dX7_works_274 ?_
                refine lv_bipush (v := 72) hx hb dX7_works_277 (by decide) ?_
                refine lv_iload hx hb dX7_works_279 (lv_at hl 0 rfl) ?_
                refine lv_iadd hx hb dX7_works_281 ?_
                refine lv_topi (fun v227 ev227 => ?_)
                have qv227 : v227.toInt = 72 + r109.toInt := by rw [ev227]; exact th_add (by decide) rfl ⟨by omega, by omega⟩
                refine lv_aload_n hx hb dX7_works_282 rfl (lv_at hl 4 rfl) ?_
                refine th_get (D := (dC, dI)) (ci := 7) (v := .ref (A 22)) (C := RX7) (T := TX7) (N := 34) hx hb hts inX7 hown hK hP (hLK _ ha0 (by decide)) oY223 rfl 22 (by decide) (hts _ T_253) (fun _ h9 => h9) rfl dX7_works_283 ?_
                refine lv_iload hx hb dX7_works_286 (lv_at hl 9 rfl) ?_
                obtain ⟨f228, o229, b230⟩ := y_op22 hI
                refine th_iald hx hb hK hP (hLK _ (y_k22 hA) (by decide)) 0 o229 rfl (th_in ⟨by omega, by omega⟩) dX7_works_288 ?_
                refine lv_topi (fun v231 ev231 => ?_)
                refine th_iast hx hb hK hP hD hS (hLK _ (y_k20 hA) (by decide)) 0 o225 rfl (th_in ⟨by omega, by omega⟩) dX7_works_289 (fun H locs hP hS => ?_)
                obtain ⟨f232, u233⟩ : ∃ g : Nat → Int32, g = upd f224 (v227 : Int32).toNatClampNeg v231 := ⟨_, rfl⟩
                rw [← u233] at hP
                have b234 : y_bd 20 f232 := trivial
                have hP : va_P (dC, dI) vwCl (va_pl L (va_up F217 (A 20) (.inl (cs 0, 918, .inl f232)))) H := hP
                obtain ⟨F235, hF236⟩ : ∃ G : Nat → va_E, G = va_up F217 (A 20) (.inl (cs 0, 918, .inl f232)) := ⟨_, rfl⟩
                rw [← hF236] at hP
                have hI : y_I K cs A F235 := by rw [hF236]; exact y_clA (i := 20) hA hI (by decide) b234
                have hfr : ∀ b, K b ∉ [70] → F235 b = F b := by rw [hF236]; exact s_fr hfr (y_k20 hA) (by decide)
                have o237 : F235 (A 13) = .inl (cs 0, 400, .inl f1) := by rw [hF236]; exact th_ne (th_kd (y_k13 hA) (y_k20 hA) (by decide)) o221
                have o238 : F235 (A 21) = .inl (cs 0, 8, .inl f94) := by rw [hF236]; exact th_ne (th_kd (y_k21 hA) (y_k20 hA) (by decide)) o222
                have o239 : F235 (A 22) = .inl (cs 0, 8, .inl f228) := by rw [hF236]; exact th_ne (th_kd (y_k22 hA) (y_k20 hA) (by decide)) o229
                have oY240 : F235 a0 = .inr (7, y_fl A z0 q0) := by rw [hF236]; exact th_ne (th_kd ha0 (y_k20 hA) (by decide)) oY223
                have o241 : F235 (A 20) = .inl (cs 0, 918, .inl f232) := by rw [hF236]; exact th_up
                have u242 : ∀ j : Int, 0 ≤ j → y_c f232 j = if j = v227.toInt then v231 else y_c f224 j := by rw [u233]; exact y_cu rfl (by omega)
                refine lv_goto (tgt := 360) hx hb dX7_works_290 (by decide) ?_
                exact K360 _ _ _ ⟨F235, _, rfl, lv_sub hl [4, 5, 6, 7, 8, 9] rfl, hP, hS, hI, hfr, (fun k hk => (y_fiZ oY240 (s_sub (by decide) hk)).trans (hz0 k hk)), ⟨by omega, by omega⟩, ⟨by omega, by omega⟩, ⟨by omega, by omega⟩, ⟨by omega, by omega⟩, (by rw [y_atE o241]; exact (y_E6_t (y_E6_t h79 h219) (y_E6_u u242 (by omega))))⟩
              · have c214 := mt (ax_eq (n := 10) (by decide)).mpr c214
                by_cases c243 : r8 = 11
                · refine ax_eqi c243 ?_
                  refine lv_tableIn (off := 187) (tgt := 293) hx hb dX7_works_106 (by decide) (by decide) (by decide) (by decide) ?_
                  have c243 := (ax_eq (n := 11) (by decide)).mp c243
                  refine lv_aload_n hx hb dX7_works_293 rfl (lv_at hl 4 rfl) ?_
                  refine th_get (D := (dC, dI)) (ci := 7) (v := .ref (A 20)) (C := RX7) (T := TX7) (N := 34) hx hb hts inX7 hown hK hP (hLK _ ha0 (by decide)) oY82 rfl 20 (by decide) (hts _ T_251) (fun _ h9 => h9) rfl dX7_works_294 ?_
                  refine lv_bipush (v := 72) hx hb dX7_works_297 (by decide) ?_
                  refine lv_iload hx hb dX7_works_299 (lv_at hl 0 rfl) ?_
                  refine lv_iadd hx hb dX7_works_301 ?_
                  refine lv_topi (fun v244 ev244 => ?_)
                  have qv244 : v244.toInt = 72 + r109.toInt := by rw [ev244]; exact th_add (by decide) rfl ⟨by omega, by omega⟩
                  refine th_iald hx hb hK hP (hLK _ (y_k20 hA) (by decide)) 0 o84 rfl (th_in ⟨by omega, by omega⟩) dX7_works_302 ?_
                  refine lv_topi (fun v245 ev245 => ?_)
                  refine lv_istore (lv' := [(10, .int v245), (9, .int r109), (8, .int r100), (7, .int v93), (6, .int r87), (0, .ref a0), (1, .int x1), (2, .int x2), (3, .int x3), (4, .int r8), (5, .int w18)]) hx hb dX7_works_303 hl (by decide) rfl (fun ls hl => ?_)
                  refine lv_aload_n hx hb dX7_works_305 rfl (lv_at hl 5 rfl) ?_
                  refine th_get (D := (dC, dI)) (ci := 7) (v := .ref (A 20)) (C := RX7) (T := TX7) (N := 34) hx hb hts inX7 hown hK hP (hLK _ ha0 (by decide)) oY82 rfl 20 (by decide) (hts _ T_251) (fun _ h9 => h9) rfl dX7_works_306 ?_
                  refine lv_bipush (v := 72) hx hb dX7_works_309 (by decide) ?_
                  refine lv_iload hx hb dX7_works_311 (lv_at hl 1 rfl) ?_
                  refine lv_iadd hx hb dX7_works_313 ?_
                  refine lv_topi (fun v246 ev246 => ?_)
                  have qv246 : v246.toInt = 72 + r109.toInt := by rw [ev246]; exact th_add (by decide) rfl ⟨by omega, by omega⟩
                  refine lv_aload_n hx hb dX7_works_314 rfl (lv_at hl 5 rfl) ?_
                  refine th_get (D := (dC, dI)) (ci := 7) (v := .ref (A 20)) (C := RX7) (T := TX7) (N := 34) hx hb hts inX7 hown hK hP (hLK _ ha0 (by decide)) oY82 rfl 20 (by decide) (hts _ T_251) (fun _ h9 => h9) rfl dX7_works_315 ?_
                  refine lv_iload hx hb dX7_works_318 (lv_at hl 4 rfl) ?_
                  refine th_iald hx hb hK hP (hLK _ (y_k20 hA) (by decide)) 0 o84 rfl (th_in ⟨by omega, by omega⟩) dX7_works_320 ?_
                  refine lv_topi (fun v247 ev247 => ?_)
                  refine th_iast hx hb hK hP hD hS (hLK _ (y_k20 hA) (by decide)) 0 o84 rfl (th_in ⟨by omega, by omega⟩) dX7_works_321 (fun H locs hP hS => ?_)
                  obtain ⟨f248, u249⟩ : ∃ g : Nat → Int32, g = upd f83 (v246 : Int32).toNatClampNeg v247 := ⟨_, rfl⟩
                  rw [← u249] at hP
                  have b250 : y_bd 20 f248 := trivial
                  have hP : va_P (dC, dI) vwCl (va_pl L (va_up F80 (A 20) (.inl (cs 0, 918, .inl f248)))) H := hP
                  obtain ⟨F251, hF252⟩ : ∃ G : Nat → va_E, G = va_up F80 (A 20) (.inl (cs 0, 918, .inl f248)) := ⟨_, rfl⟩
                  rw [← hF252] at hP
                  have hI : y_I K cs A F251 := by rw [hF252]; exact y_clA (i := 20) hA hI (by decide) b250
                  have hfr : ∀ b, K b ∉ [70] → F251 b = F b := by rw [hF252]; exact s_fr hfr (y_k20 hA) (by decide)
                  have o253 : F251 (A 13) = .inl (cs 0, 400, .inl f1) := by rw [hF252]; exact th_ne (th_kd (y_k13 hA) (y_k20 hA) (by decide)) o81
                  have o254 : F251 (A 21) = .inl (cs 0, 8, .inl f94) := by rw [hF252]; exact th_ne (th_kd (y_k21 hA) (y_k20 hA) (by decide)) o95
                  have oY255 : F251 a0 = .inr (7, y_fl A z0 q0) := by rw [hF252]; exact th_ne (th_kd ha0 (y_k20 hA) (by decide)) oY82
                  have o256 : F251 (A 20) = .inl (cs 0, 918, .inl f248) := by rw [hF252]; exact th_up
                  have u257 : ∀ j : Int, 0 ≤ j → y_c f248 j = if j = v246.toInt then v247 else y_c f83 j := by rw [u249]; exact y_cu rfl (by omega)
                  refine lv_aload_n hx hb dX7_works_322 rfl (lv_at hl 5 rfl) ?_
                  refine th_get (D := (dC, dI)) (ci := 7) (v := .ref (A 20)) (C := RX7) (T := TX7) (N := 34) hx hb hts inX7 hown hK hP (hLK _ ha0 (by decide)) oY255 rfl 20 (by decide) (hts _ T_251) (fun _ h9 => h9) rfl dX7_works_323 ?_
                  refine lv_iload hx hb dX7_works_326 (lv_at hl 4 rfl) ?_
                  refine lv_iload hx hb dX7_works_328 (lv_at hl 0 rfl) ?_
                  refine th_iast hx hb hK hP hD hS (hLK _ (y_k20 hA) (by decide)) 0 o256 rfl (th_in ⟨by omega, by omega⟩) dX7_works_330 (fun H locs hP hS => ?_)
                  obtain ⟨f258, u259⟩ : ∃ g : Nat → Int32, g = upd f248 (r87 : Int32).toNatClampNeg v245 := ⟨_, rfl⟩
                  rw [← u259] at hP
                  have b260 : y_bd 20 f258 := trivial
                  have hP : va_P (dC, dI) vwCl (va_pl L (va_up F251 (A 20) (.inl (cs 0, 918, .inl f258)))) H := hP
                  obtain ⟨F261, hF262⟩ : ∃ G : Nat → va_E, G = va_up F251 (A 20) (.inl (cs 0, 918, .inl f258)) := ⟨_, rfl⟩
                  rw [← hF262] at hP
                  have hI : y_I K cs A F261 := by rw [hF262]; exact y_clA (i := 20) hA hI (by decide) b260
                  have hfr : ∀ b, K b ∉ [70] → F261 b = F b := by rw [hF262]; exact s_fr hfr (y_k20 hA) (by decide)
                  have o263 : F261 (A 13) = .inl (cs 0, 400, .inl f1) := by rw [hF262]; exact th_ne (th_kd (y_k13 hA) (y_k20 hA) (by decide)) o253
                  have o264 : F261 (A 21) = .inl (cs 0, 8, .inl f94) := by rw [hF262]; exact th_ne (th_kd (y_k21 hA) (y_k20 hA) (by decide)) o254
                  have oY265 : F261 a0 = .inr (7, y_fl A z0 q0) := by rw [hF262]; exact th_ne (th_kd ha0 (y_k20 hA) (by decide)) oY255
                  have o266 : F261 (A 20) = .inl (cs 0, 918, .inl f258) := by rw [hF262]; exact th_up
                  have u267 : ∀ j : Int, 0 ≤ j → y_c f258 j = if j = r87.toInt then v245 else y_c f248 j := by rw [u259]; exact y_cu rfl (by omega)
                  refine lv_goto (tgt := 360) hx hb dX7_works_331 (by decide) ?_
                  exact K360 _ _ _ ⟨F261, _, rfl, lv_sub hl [5, 6, 7, 8, 9, 10] rfl, hP, hS, hI, hfr, (fun k hk => (y_fiZ oY265 (s_sub (by decide) hk)).trans (hz0 k hk)), ⟨by omega, by omega⟩, ⟨by omega, by omega⟩, ⟨by omega, by omega⟩, ⟨by omega, by omega⟩, (by rw [y_atE o266]; exact (y_E6_t (y_E6_t h79 (y_E6_u u257 (by omega))) (y_E6_u u267 (by omega))))⟩
                · have c243 := mt (ax_eq (n := 11) (by decide)).mpr c243
                  refine lv_tableOut (tgt := 334) hx hb dX7_works_106 (by omega) (by decide) ?_
                  refine lv_aload_n hx hb dX7_works_334 rfl (lv_at hl 4 rfl) ?_
                  refine th_get (D := (dC, dI)) (ci := 7) (v := .ref (A 20)) (C := RX7) (T := TX7) (N := 34) hx hb hts inX7 hown hK hP (hLK _ ha0 (by decide)) oY82 rfl 20 (by decide) (hts _ T_251) (fun _ h9 => h9) rfl dX7_works_335 ?_
                  refine lv_iload hx hb dX7_works_338 (lv_at hl 3 rfl) ?_
                  refine lv_iload hx hb dX7_works_340 (lv_at hl 8 rfl) ?_
                  refine lv_aload_n hx hb dX7_works_342 rfl (lv_at hl 4 rfl) ?_
                  refine th_get (D := (dC, dI)) (ci := 7) (v := .ref (A 21)) (C := RX7) (T := TX7) (N := 34) hx hb hts inX7 hown hK hP (hLK _ ha0 (by decide)) oY82 rfl 21 (by decide) (hts _ T_252) (fun _ h9 => h9) rfl dX7_works_343 ?_
                  refine lv_iload hx hb dX7_works_346 (lv_at hl 9 rfl) ?_
                  refine th_iald hx hb hK hP (hLK _ (y_k21 hA) (by decide)) 0 o95 rfl (th_in ⟨by omega, by omega⟩) dX7_works_348 ?_
                  refine lv_topi (fun v268 ev268 => ?_)
                  refine lv_aload_n hx hb dX7_works_349 rfl (lv_at hl 4 rfl) ?_
                  refine th_get (D := (dC, dI)) (ci := 7) (v := .ref (A 22)) (C := RX7) (T := TX7) (N := 34) hx hb hts inX7 hown hK hP (hLK _ ha0 (by decide)) oY82 rfl 22 (by decide) (hts _ T_253) (fun _ h9 => h9) rfl dX7_works_350 ?_
                  refine lv_iload hx hb dX7_works_353 (lv_at hl 9 rfl) ?_
                  obtain ⟨f269, o270, b271⟩ := y_op22 hI
                  refine th_iald hx hb hK hP (hLK _ (y_k22 hA) (by decide)) 0 o270 rfl (th_in ⟨by omega, by omega⟩) dX7_works_355 ?_
                  refine lv_topi (fun v272 ev272 => ?_)
                  refine va_calli (va_runS (As := [.int r8, .int v268, .int v272]) (rest := [.int r87, .ref (A 20)]) ⟨hx, hb, hml, hown, hts⟩ (y_X7_made l dC dI H.size F80 r8 v268 v272 (⟨by omega, by omega⟩)) (cwS 3 hts (ax_gS T_1338 T_1340 T_265 T_1339) rfl rfl rfl (by decide +kernel) ⟨Nat.le_of_ble_eq_true rfl, Nat.le_of_ble_eq_true rfl⟩) ⟨fun a U g mk q => ⟨q.1, s_pc rfl rfl q.2⟩, fun U hU hW => ⟨rfl, s_pw hU hW hP hK hD hN⟩⟩ rfl rfl hl.1 rfl (lv_room (Nat.le_of_ble_eq_true rfl)) dX7_works_356 ⟨Nat.zero_le _, Nat.zero_le _⟩) hS (fun q _ h => h) (fun q h => h) (fun r274 F275 t H1 locs ht hvm hw hB hz1 hk1 hS => ?_)
                  obtain ⟨hP, hK1⟩ := hB
                  rw [ht] at hP
                  generalize H1 = H at hP hS ⊢
                  clear hz1 hk1 hvm hK1
                  obtain ⟨h276, h278, hG9, h277⟩ := hw
                  rw [hG9] at hP
                  refine th_iast hx hb hK hP hD hS (hLK _ (y_k20 hA) (by decide)) 0 o84 rfl (th_in ⟨by omega, by omega⟩) dX7_works_359 (fun H locs hP hS => ?_)
                  obtain ⟨f279, u280⟩ : ∃ g : Nat → Int32, g = upd f83 (r87 : Int32).toNatClampNeg r274 := ⟨_, rfl⟩
                  rw [← u280] at hP
                  have b281 : y_bd 20 f279 := trivial
                  have hP : va_P (dC, dI) vwCl (va_pl L (va_up F80 (A 20) (.inl (cs 0, 918, .inl f279)))) H := hP
                  obtain ⟨F282, hF283⟩ : ∃ G : Nat → va_E, G = va_up F80 (A 20) (.inl (cs 0, 918, .inl f279)) := ⟨_, rfl⟩
                  rw [← hF283] at hP
                  have hI : y_I K cs A F282 := by rw [hF283]; exact y_clA (i := 20) hA hI (by decide) b281
                  have hfr : ∀ b, K b ∉ [70] → F282 b = F b := by rw [hF283]; exact s_fr hfr (y_k20 hA) (by decide)
                  have o284 : F282 (A 13) = .inl (cs 0, 400, .inl f1) := by rw [hF283]; exact th_ne (th_kd (y_k13 hA) (y_k20 hA) (by decide)) o81
                  have o285 : F282 (A 21) = .inl (cs 0, 8, .inl f94) := by rw [hF283]; exact th_ne (th_kd (y_k21 hA) (y_k20 hA) (by decide)) o95
                  have o286 : F282 (A 22) = .inl (cs 0, 8, .inl f269) := by rw [hF283]; exact th_ne (th_kd (y_k22 hA) (y_k20 hA) (by decide)) o270
                  have oY287 : F282 a0 = .inr (7, y_fl A z0 q0) := by rw [hF283]; exact th_ne (th_kd ha0 (y_k20 hA) (by decide)) oY82
                  have o288 : F282 (A 20) = .inl (cs 0, 918, .inl f279) := by rw [hF283]; exact th_up
                  have u289 : ∀ j : Int, 0 ≤ j → y_c f279 j = if j = r87.toInt then r274 else y_c f83 j := by rw [u280]; exact y_cu rfl (by omega)
                  exact K360 _ _ _ ⟨F282, _, rfl, lv_sub hl [4, 5, 6, 7, 8, 9] rfl, hP, hS, hI, hfr, (fun k hk => (y_fiZ oY287 (s_sub (by decide) hk)).trans (hz0 k hk)), ⟨by omega, by omega⟩, ⟨by omega, by omega⟩, ⟨by omega, by omega⟩, ⟨by omega, by omega⟩, (by rw [y_atE o288]; exact (y_E6_t h79 (y_E6_u u289 (by omega))))⟩
  · intro g H locs hq
    obtain ⟨F295, ls, rfl, hl, hP, hS, hI, hfr, hz0, h290, h291, h292, h293, h294⟩ := hq
    have o296 : F295 (A 13) = .inl (cs 0, 400, .inl f1) := (hfr _ (by rw [(y_k13 hA)]; decide)).trans o2
    have oY297 : F295 a0 = .inr (7, y_fl A z0 q0) := (hfr _ (by rw [ha0]; decide)).trans oY0
    have hz0 : ∀ k, k ∈ ([1, 2, 3, 4, 5, 6, 7, 8, 11, 15, 16, 19, 25, 26, 27, 31, 32] : List Nat) → z0 k = z0 k := fun _ _ => rfl
    obtain ⟨f298, o299, b300⟩ := y_op20 hI
    have h294 : (y_E6 f4 f298) := by have q9 := h294; rw [y_atE o299] at q9; exact q9
    obtain ⟨v301, ev301⟩ : ∃ y : Int32, w18 + 1 = y := ⟨_, rfl⟩
    have qv301 : v301.toInt = w18.toInt + 1 := by rw [← ev301]; exact th_add rfl (by decide) ⟨by omega, by omega⟩
    refine lv_iinc (v := v301) (lv' := [(5, .int v301), (0, .ref a0), (1, .int x1), (2, .int x2), (3, .int x3), (4, .int r8)]) hx hb dX7_works_360 hl (k := 5) rfl ev301 (by decide) rfl (fun ls hl => ?_)
    refine lv_goto (tgt := 11) hx hb dX7_works_363 (by decide) ?_
    exact ih11 _ _ _ _ (by omega) ⟨F295, _, v301, rfl, lv_sub hl [1, 2, 3, 4, 5, 0] rfl, hP, hS, hI, hfr, (fun k hk => (y_fiZ oY297 (s_sub (by decide) hk)).trans (hz0 k hk)), ⟨by omega, by omega⟩, ⟨by omega, by omega⟩, ⟨by omega, by omega⟩, ⟨by omega, by omega⟩, (by rw [y_atE o299]; exact h294), rfl⟩

set_option maxHeartbeats 4000000 in
set_option maxRecDepth 100000 in
theorem yt_X7_changesParts (l : Launch) (dC : Nat → ClassId) (dI : Nat → Nat → Nat) (sz : Nat) {L : List Nat} {K : Nat → Nat} {cs : Nat → ClassId} (hLK : ∀ a {k : Nat}, K a = k → k ≠ 0 → a ∈ L) (A : Nat → Nat) (hA : y_A K A) (F : Nat → va_E) (a0 : Nat) (x1 : Int32) (ha0 : K a0 = 9) (hx1 : 0 ≤ x1.toInt ∧ x1.toInt ≤ 3) (hI : y_I K cs A F) (hW0 : y_W0 (y_at F (A 20)) x1.toInt) (hWs : y_Ws (y_c (y_at F (A 13)) 387).toInt (y_at F (A 20)) x1.toInt) : Met l yX7_changesParts (Cond.code yX7_changesParts cX7_changesParts 5 none :: T0) ({ frames := 3, cells := 0, slots := 0, locals := 64 }) (va_Pc [.ref a0, .int x1] (s_W dC dI sz L F [(cs 0, .int), (cs 1, .byte), (cs 2, .long), (cs 3, .object RX5), (cs 4, .object RX4), (cs 5, .array .int), (cs 6, .char), (cs 7, .boolean)])) (va_Qv (fun (G : Nat → va_E) => True ∧ True ∧ y_I K cs A G ∧ (∀ b, K b ∉ [70] → G b = F b) ∧ (∀ k, k ∈ ([1, 2, 3, 4, 5, 6, 7, 8, 11, 15, 16, 19, 25, 26, 27, 31, 32] : List Nat) → y_fi G a0 k = y_fi F a0 k) ∧ (y_W0 (y_at G (A 20)) x1.toInt ∧ y_Ws (y_c (y_at F (A 13)) 387).toInt (y_at G (A 20)) x1.toInt ∧ y_fw x1.toInt (y_at F (A 20)) (y_at G (A 20)))) (fun (G : Nat → va_E) (t : State) => va_P (dC, dI) vwCl (va_pl L G) t.heap ∧ va_K (dC, dI) vwCl [(cs 0, .int), (cs 1, .byte), (cs 2, .long), (cs 3, .object RX5), (cs 4, .object RX4), (cs 5, .array .int), (cs 6, .char), (cs 7, .boolean)] t) (fun q => q ∈ L)) 0 0 (fun q => q ∈ L) := by
  refine Met.ofW (cc := cX7_changesParts) (maxL := 5) (ret := none) (by decide) rfl ?_
  intro p e s m args below meth c s₁ B hml hv
  obtain ⟨rfl, hsz, hP, hK, hD, hN⟩ := hv
  have hx := B.exec
  have hb := B.bytes
  have hr := B.returns
  have hts : ∀ w ∈ T0, w.before _ s = true := fun w h => atoms_spec (ws := Cond.code yX7_changesParts cX7_changesParts 5 none :: T0) B.pre w (List.mem_cons_of_mem _ h)
  have hown : s.vm.findClass RX7 = some m.cls := findClass_of_methodNamed B.named
  have hlocks := B.notSynchronized
  have hS : va_S (fun q => q ∈ L) s.heap s.heap [] := va_S.rf
  have hfr : ∀ b, K b ∉ [70] → F b = F b := fun _ _ => rfl
  have hl := lv_entry ([.ref a0, .int x1]) (n := 5) (Nat.le_of_ble_eq_true rfl)
  rw [lg_entry_eq]
  generalize (lg_sl ([.ref a0, .int x1]) ++ List.replicate (5 - (lg_sl ([.ref a0, .int x1])).length) Slot.unset).toArray = ls at hl ⊢
  have hl : lv_has ls 5 [(0, .ref a0), (1, .int x1)] := hl
  refine s_gen hP hS (fun H locs hP hS => ?_)
  obtain ⟨z0, q0, oY0, bz0, bq0⟩ := y_opY hI ha0
  have hz0 : ∀ k, k ∈ ([1, 2, 3, 4, 5, 6, 7, 8, 11, 15, 16, 19, 25, 26, 27, 31, 32] : List Nat) → z0 k = z0 k := fun _ _ => rfl
  obtain ⟨f1, o2, b3⟩ := y_op13 hI
  obtain ⟨f4, o5, b6⟩ := y_op20 hI
  have hW0 : y_W0 f4 x1.toInt := by have q9 := hW0; rw [y_atE o5] at q9; exact q9
  have hWs : y_Ws (y_c f1 387).toInt f4 x1.toInt := by have q9 := hWs; rw [y_atE o2, y_atE o5] at q9; exact q9
  have hnw := hW0.2.2.2
  refine lv_aload_n hx hb dX7_changesParts_0 rfl (lv_at hl 0 rfl) ?_
  refine lv_iload_n hx hb dX7_changesParts_1 rfl (lv_at hl 1 rfl) ?_
  refine va_calli (va_runV (As := [.int x1]) (rest := []) ⟨hx, hb, hml, hown, hts⟩ (y_X7_top l dC dI H.size hLK A hA F a0 x1 ha0 (⟨by omega, by omega⟩) hI) (cwV 1 hts (ax_gV T_1074 T_1076 T_1077 T_265 T_1075) rfl rfl rfl (by decide +kernel) ⟨Nat.le_of_ble_eq_true rfl, Nat.le_of_ble_eq_true rfl⟩) ⟨fun a U g mk q => ⟨q.1, s_pc rfl rfl q.2⟩, s_recv hK hP (hLK _ ha0 (by decide)) (ci := 7) rfl oY0, fun U hU hW => ⟨rfl, s_pw hU hW hP hK hD hN⟩⟩ rfl rfl hl.1 rfl (lv_room (Nat.le_of_ble_eq_true rfl)) dX7_changesParts_2 ⟨Nat.zero_le _, Nat.zero_le _⟩) hS (fun q _ h => h) (fun q h => h) (fun r8 F9 t H1 locs ht hvm hw hB hz1 hk1 hS => ?_)
  obtain ⟨hP, hK1⟩ := hB
  rw [ht] at hP
  generalize H1 = H at hP hS ⊢
  clear hz1 hk1 hvm hK1
  obtain ⟨h10, h12, hI, hfr1, hzf, h11⟩ := hw
  have o13 : F9 (A 13) = .inl (cs 0, 400, .inl f1) := (hfr1 _ (by rw [(y_k13 hA)]; decide)).trans o2
  have o14 : F9 (A 20) = .inl (cs 0, 918, .inl f4) := (hfr1 _ (by rw [(y_k20 hA)]; decide)).trans o5
  have oY15 : F9 a0 = .inr (7, y_fl A z0 q0) := (hfr1 _ (by rw [ha0]; decide)).trans oY0
  have hfr : ∀ b, K b ∉ [70] → F9 b = F b := fun b hb9 => (hfr1 b (fun q => hb9 (s_sub (by decide) q))).trans (hfr b hb9)
  have h11 : (r8 = y_c f4 (109 + 6 * x1.toInt) - 1) := by have q9 := h11; rw [y_atE o5] at q9; exact q9
  have h16 := congrArg Int32.toInt h11
  have h17 : -1 ≤ r8.toInt ∧ r8.toInt ≤ 14 := by have q9 : r8.toInt = (y_c f4 (109 + 6 * x1.toInt)).toInt - 1 := (by rw [h11]; exact th_sub rfl (by decide) ⟨by omega, by omega⟩); exact ⟨by omega, by omega⟩
  have h18 : r8.toInt = (y_c f4 (109 + 6 * x1.toInt)).toInt - 1 := by rw [h11]; exact th_sub rfl (by decide) ⟨by omega, by omega⟩
  refine lv_istore_n (lv' := [(2, .int r8), (0, .ref a0), (1, .int x1)]) hx hb dX7_changesParts_5 rfl hl (by decide) rfl (fun ls hl => ?_)
  refine lv_iload_n hx hb dX7_changesParts_6 rfl (lv_at hl 0 rfl) ?_
  refine lv_iconst (v := 1) hx hb dX7_changesParts_7 (by decide) ?_
  refine lv_icmp_lt (tgt := 67) hx hb dX7_changesParts_8 (by decide) (fun c19 => ?_) (fun c19 => ?_)
  · have c19 := (ax_lt (n := 1) (by decide)).mp c19
    exact W.vret hx hb hr (fun t ht hW => ⟨⟨F9, rfl, ⟨trivial, trivial, hI, hfr, fun k hk => (y_fiZ oY15 (s_sub (by decide) hk)).trans ((hz0 k hk).trans (y_fiZ oY0 (s_sub (by decide) hk)).symm), (by rw [y_atE o14, y_atE o2, y_atE o5]; exact ⟨hW0, hWs, y_fw_r _ _⟩)⟩, by rw [ht]; exact hP, va_K.moved hW.alike hK⟩, hS.F ht⟩) hS.2.2 dX7_changesParts_67
  · have c19 := mt (ax_lt (n := 1) (by decide)).mpr c19
    refine lv_aload_n hx hb dX7_changesParts_11 rfl (lv_at hl 1 rfl) ?_
    refine th_get (D := (dC, dI)) (ci := 7) (v := .ref (A 20)) (C := RX7) (T := TX7) (N := 34) hx hb hts inX7 hown hK hP (hLK _ ha0 (by decide)) oY15 rfl 20 (by decide) (hts _ T_251) (fun _ h9 => h9) rfl dX7_changesParts_12 ?_
    refine lv_iload_n hx hb dX7_changesParts_15 rfl (lv_at hl 2 rfl) ?_
    refine lv_iload_n hx hb dX7_changesParts_16 rfl (lv_at hl 0 rfl) ?_
    refine lv_iconst (v := 1) hx hb dX7_changesParts_17 (by decide) ?_
    refine va_calli (va_runS (As := [.int x1, .int r8, .int 1]) (rest := [.ref (A 20)]) ⟨hx, hb, hml, hown, hts⟩ (y_X7_partAt l dC dI H.size F9 x1 r8 1 (⟨by omega, by omega⟩) (⟨by omega, by omega⟩) (by decide)) (cwS 3 hts (ax_gS T_1078 T_1080 T_265 T_1079) rfl rfl rfl (by decide +kernel) ⟨Nat.le_of_ble_eq_true rfl, Nat.le_of_ble_eq_true rfl⟩) ⟨fun a U g mk q => ⟨q.1, s_pc rfl rfl q.2⟩, fun U hU hW => ⟨rfl, s_pw hU hW hP hK hD hN⟩⟩ rfl rfl hl.1 rfl (lv_room (Nat.le_of_ble_eq_true rfl)) dX7_changesParts_18 ⟨Nat.zero_le _, Nat.zero_le _⟩) hS (fun q _ h => h) (fun q h => h) (fun r21 F22 t H1 locs ht hvm hw hB hz1 hk1 hS => ?_)
    obtain ⟨hP, hK1⟩ := hB
    rw [ht] at hP
    generalize H1 = H at hP hS ⊢
    clear hz1 hk1 hvm hK1
    obtain ⟨h23, h25, hG9, h24⟩ := hw
    rw [hG9] at hP
    have h24 : (r21.toInt = 288 + 48 * x1.toInt + 3 * r8.toInt + 1) := by have q9 := h24; exact q9
    refine th_iald hx hb hK hP (hLK _ (y_k20 hA) (by decide)) 0 o14 rfl (th_in ⟨by omega, by omega⟩) dX7_changesParts_21 ?_
    refine lv_topi (fun v26 ev26 => ?_)
    have Ev26 : v26 = y_c f4 (286 + 48 * x1.toInt + 3 * (y_c f4 (109 + 6 * x1.toInt)).toInt) := ev26.trans (y_ci (by omega))
    have tEv26 := congrArg Int32.toInt Ev26
    refine lv_aload_n hx hb dX7_changesParts_22 rfl (lv_at hl 1 rfl) ?_
    refine th_get (D := (dC, dI)) (ci := 7) (v := .ref (A 20)) (C := RX7) (T := TX7) (N := 34) hx hb hts inX7 hown hK hP (hLK _ ha0 (by decide)) oY15 rfl 20 (by decide) (hts _ T_251) (fun _ h9 => h9) rfl dX7_changesParts_23 ?_
    refine lv_iload_n hx hb dX7_changesParts_26 rfl (lv_at hl 2 rfl) ?_
    refine lv_iload_n hx hb dX7_changesParts_27 rfl (lv_at hl 0 rfl) ?_
    refine lv_iconst (v := 1) hx hb dX7_changesParts_28 (by decide) ?_
    refine lv_isub hx hb dX7_changesParts_29 ?_
    refine lv_topi (fun v27 ev27 => ?_)
    have qv27 : v27.toInt = r8.toInt - 1 := by rw [ev27]; exact th_sub rfl (by decide) ⟨by omega, by omega⟩
    refine lv_iconst (v := 1) hx hb dX7_changesParts_30 (by decide) ?_
    refine va_calli (va_runS (As := [.int x1, .int v27, .int 1]) (rest := [.ref (A 20), .int v26]) ⟨hx, hb, hml, hown, hts⟩ (y_X7_partAt l dC dI H.size F9 x1 v27 1 (⟨by omega, by omega⟩) (⟨by omega, by omega⟩) (by decide)) (cwS 3 hts (ax_gS T_1078 T_1080 T_265 T_1079) rfl rfl rfl (by decide +kernel) ⟨Nat.le_of_ble_eq_true rfl, Nat.le_of_ble_eq_true rfl⟩) ⟨fun a U g mk q => ⟨q.1, s_pc rfl rfl q.2⟩, fun U hU hW => ⟨rfl, s_pw hU hW hP hK hD hN⟩⟩ rfl rfl hl.1 rfl (lv_room (Nat.le_of_ble_eq_true rfl)) dX7_changesParts_31 ⟨Nat.zero_le _, Nat.zero_le _⟩) hS (fun q _ h => h) (fun q h => h) (fun r29 F30 t H1 locs ht hvm hw hB hz1 hk1 hS => ?_)
    obtain ⟨hP, hK1⟩ := hB
    rw [ht] at hP
    generalize H1 = H at hP hS ⊢
    clear hz1 hk1 hvm hK1
    obtain ⟨h31, h33, hG9, h32⟩ := hw
    rw [hG9] at hP
    have h32 : (r29.toInt = 288 + 48 * x1.toInt + 3 * v27.toInt + 1) := by have q9 := h32; exact q9
    refine th_iald hx hb hK hP (hLK _ (y_k20 hA) (by decide)) 0 o14 rfl (th_in ⟨by omega, by omega⟩) dX7_changesParts_34 ?_
    refine lv_topi (fun v34 ev34 => ?_)
    have Ev34 : v34 = y_c f4 (283 + 48 * x1.toInt + 3 * (y_c f4 (109 + 6 * x1.toInt)).toInt) := ev34.trans (y_ci (by omega))
    have tEv34 := congrArg Int32.toInt Ev34
    refine lv_icmp_ne (tgt := 67) hx hb dX7_changesParts_35 (by decide) (fun c35 => ?_) (fun c35 => ?_)
    · have c35 := mt Int32.toInt_inj.symm.mpr c35
      exact W.vret hx hb hr (fun t ht hW => ⟨⟨F9, rfl, ⟨trivial, trivial, hI, hfr, fun k hk => (y_fiZ oY15 (s_sub (by decide) hk)).trans ((hz0 k hk).trans (y_fiZ oY0 (s_sub (by decide) hk)).symm), (by rw [y_atE o14, y_atE o2, y_atE o5]; exact ⟨hW0, hWs, y_fw_r _ _⟩)⟩, by rw [ht]; exact hP, va_K.moved hW.alike hK⟩, hS.F ht⟩) hS.2.2 dX7_changesParts_67
    · have c35 := Int32.toInt_inj.symm.mp c35
      refine lv_aload_n hx hb dX7_changesParts_38 rfl (lv_at hl 1 rfl) ?_
      refine th_get (D := (dC, dI)) (ci := 7) (v := .ref (A 20)) (C := RX7) (T := TX7) (N := 34) hx hb hts inX7 hown hK hP (hLK _ ha0 (by decide)) oY15 rfl 20 (by decide) (hts _ T_251) (fun _ h9 => h9) rfl dX7_changesParts_39 ?_
      refine lv_iload_n hx hb dX7_changesParts_42 rfl (lv_at hl 2 rfl) ?_
      refine lv_iload_n hx hb dX7_changesParts_43 rfl (lv_at hl 0 rfl) ?_
      refine lv_iconst (v := 1) hx hb dX7_changesParts_44 (by decide) ?_
      refine lv_isub hx hb dX7_changesParts_45 ?_
      refine lv_topi (fun v36 ev36 => ?_)
      have qv36 : v36.toInt = r8.toInt - 1 := by rw [ev36]; exact th_sub rfl (by decide) ⟨by omega, by omega⟩
      refine lv_iconst (v := 0) hx hb dX7_changesParts_46 (by decide) ?_
      refine va_calli (va_runS (As := [.int x1, .int v36, .int 0]) (rest := [.ref (A 20)]) ⟨hx, hb, hml, hown, hts⟩ (y_X7_partAt l dC dI H.size F9 x1 v36 0 (⟨by omega, by omega⟩) (⟨by omega, by omega⟩) (by decide)) (cwS 3 hts (ax_gS T_1078 T_1080 T_265 T_1079) rfl rfl rfl (by decide +kernel) ⟨Nat.le_of_ble_eq_true rfl, Nat.le_of_ble_eq_true rfl⟩) ⟨fun a U g mk q => ⟨q.1, s_pc rfl rfl q.2⟩, fun U hU hW => ⟨rfl, s_pw hU hW hP hK hD hN⟩⟩ rfl rfl hl.1 rfl (lv_room (Nat.le_of_ble_eq_true rfl)) dX7_changesParts_47 ⟨Nat.zero_le _, Nat.zero_le _⟩) hS (fun q _ h => h) (fun q h => h) (fun r38 F39 t H1 locs ht hvm hw hB hz1 hk1 hS => ?_)
      obtain ⟨hP, hK1⟩ := hB
      rw [ht] at hP
      generalize H1 = H at hP hS ⊢
      clear hz1 hk1 hvm hK1
      obtain ⟨h40, h42, hG9, h41⟩ := hw
      rw [hG9] at hP
      have h41 : (r38.toInt = 288 + 48 * x1.toInt + 3 * v36.toInt + 0) := by have q9 := h41; exact q9
      refine th_iald hx hb hK hP (hLK _ (y_k20 hA) (by decide)) 0 o14 rfl (th_in ⟨by omega, by omega⟩) dX7_changesParts_50 ?_
      refine lv_topi (fun v43 ev43 => ?_)
      have Ev43 : v43 = y_c f4 (282 + 48 * x1.toInt + 3 * (y_c f4 (109 + 6 * x1.toInt)).toInt) := ev43.trans (y_ci (by omega))
      have tEv43 := congrArg Int32.toInt Ev43
      refine lv_aload_n hx hb dX7_changesParts_51 rfl (lv_at hl 1 rfl) ?_
      refine th_get (D := (dC, dI)) (ci := 7) (v := .ref (A 20)) (C := RX7) (T := TX7) (N := 34) hx hb hts inX7 hown hK hP (hLK _ ha0 (by decide)) oY15 rfl 20 (by decide) (hts _ T_251) (fun _ h9 => h9) rfl dX7_changesParts_52 ?_
      refine lv_iload_n hx hb dX7_changesParts_55 rfl (lv_at hl 2 rfl) ?_
      refine lv_iload_n hx hb dX7_changesParts_56 rfl (lv_at hl 0 rfl) ?_
      refine lv_iconst (v := 1) hx hb dX7_changesParts_57 (by decide) ?_
      refine lv_isub hx hb dX7_changesParts_58 ?_
      refine lv_topi (fun v44 ev44 => ?_)
      have qv44 : v44.toInt = r8.toInt - 1 := by rw [ev44]; exact th_sub rfl (by decide) ⟨by omega, by omega⟩
      refine lv_iconst (v := 1) hx hb dX7_changesParts_59 (by decide) ?_
      refine va_calli (va_runS (As := [.int x1, .int v44, .int 1]) (rest := [.ref (A 20), .int v43]) ⟨hx, hb, hml, hown, hts⟩ (y_X7_partAt l dC dI H.size F9 x1 v44 1 (⟨by omega, by omega⟩) (⟨by omega, by omega⟩) (by decide)) (cwS 3 hts (ax_gS T_1078 T_1080 T_265 T_1079) rfl rfl rfl (by decide +kernel) ⟨Nat.le_of_ble_eq_true rfl, Nat.le_of_ble_eq_true rfl⟩) ⟨fun a U g mk q => ⟨q.1, s_pc rfl rfl q.2⟩, fun U hU hW => ⟨rfl, s_pw hU hW hP hK hD hN⟩⟩ rfl rfl hl.1 rfl (lv_room (Nat.le_of_ble_eq_true rfl)) dX7_changesParts_60 ⟨Nat.zero_le _, Nat.zero_le _⟩) hS (fun q _ h => h) (fun q h => h) (fun r46 F47 t H1 locs ht hvm hw hB hz1 hk1 hS => ?_)
      obtain ⟨hP, hK1⟩ := hB
      rw [ht] at hP
      generalize H1 = H at hP hS ⊢
      clear hz1 hk1 hvm hK1
      obtain ⟨h48, h50, hG9, h49⟩ := hw
      rw [hG9] at hP
      have h49 : (r46.toInt = 288 + 48 * x1.toInt + 3 * v44.toInt + 1) := by have q9 := h49; exact q9
      refine th_iald hx hb hK hP (hLK _ (y_k20 hA) (by decide)) 0 o14 rfl (th_in ⟨by omega, by omega⟩) dX7_changesParts_63 ?_
      refine lv_topi (fun v51 ev51 => ?_)
      have Ev51 : v51 = y_c f4 (283 + 48 * x1.toInt + 3 * (y_c f4 (109 + 6 * x1.toInt)).toInt) := ev51.trans (y_ci (by omega))
      have tEv51 := congrArg Int32.toInt Ev51
      refine lv_icmp_ne (tgt := 68) hx hb dX7_changesParts_64 (by decide) (fun c52 => ?_) (fun c52 => ?_)
      · have c52 := mt Int32.toInt_inj.symm.mpr c52
        refine lv_iconst (v := 0) hx hb dX7_changesParts_68 (by decide) ?_
        refine lv_istore_n (lv' := [(3, .int 0), (2, .int r8), (0, .ref a0), (1, .int x1)]) hx hb dX7_changesParts_69 rfl hl (by decide) rfl (fun ls hl => ?_)
        have h54 : (0 : Int32).toInt = 0 := by decide
        refine th_loop (fun n g H locs => ∃ (G : Nat → va_E) (ls : Array Slot) (w53 : Int32), g = F0 m 70 ls [] ∧ lv_has ls 5 [(0, .ref a0), (1, .int x1), (2, .int r8), (3, .int w53)] ∧ va_P (dC, dI) vwCl (va_pl L G) H ∧ va_S (fun q => q ∈ L) s.heap H locs ∧ y_I K cs A G ∧ (∀ b, K b ∉ [70] → G b = F b) ∧ (∀ k, k ∈ ([1, 2, 3, 4, 5, 6, 7, 8, 11, 15, 16, 19, 25, 26, 27, 31, 32] : List Nat) → y_fi G a0 k = z0 k) ∧ (0 ≤ w53.toInt ∧ w53.toInt ≤ 3) ∧ (0 ≤ x1.toInt ∧ x1.toInt ≤ 3) ∧ (1 ≤ r8.toInt ∧ r8.toInt ≤ 14) ∧ (y_sw f4 (285 + 48 * x1.toInt + 3 * (y_c f4 (109 + 6 * x1.toInt)).toInt) w53.toInt (y_at G (A 20))) ∧ (r8.toInt = (y_c f4 (109 + 6 * x1.toInt)).toInt - 1 ∧ 2 ≤ (y_c f4 (109 + 6 * x1.toInt)).toInt) ∧ ((y_c f4 (286 + 48 * x1.toInt + 3 * (y_c f4 (109 + 6 * x1.toInt)).toInt)).toInt = (y_c f4 (283 + 48 * x1.toInt + 3 * (y_c f4 (109 + 6 * x1.toInt)).toInt)).toInt ∧ ¬ (y_c f4 (282 + 48 * x1.toInt + 3 * (y_c f4 (109 + 6 * x1.toInt)).toInt)).toInt = (y_c f4 (283 + 48 * x1.toInt + 3 * (y_c f4 (109 + 6 * x1.toInt)).toInt)).toInt) ∧ n = (4 - w53.toInt).toNat) _ ⟨F9, _, 0, rfl, lv_sub hl [2, 3, 1, 0] rfl, hP, hS, hI, hfr, (fun k hk => (y_fiZ oY15 (s_sub (by decide) hk)).trans (hz0 k hk)), (by decide), ⟨by omega, by omega⟩, ⟨by omega, by omega⟩, (by rw [y_atE o14]; exact (by rw [show (0 : Int32).toInt = 0 by decide]; exact y_sw0)), (by omega), (by omega), rfl⟩ (fun n ih70 g H locs hq => ?_)
        obtain ⟨F61, ls, w53, rfl, hl, hP, hS, hI, hfr, hz0, h55, h56, h57, h58, h59, h60, hn⟩ := hq
        have o62 : F61 (A 13) = .inl (cs 0, 400, .inl f1) := (hfr _ (by rw [(y_k13 hA)]; decide)).trans o2
        have oY63 : F61 a0 = .inr (7, y_fl A z0 q0) := (hfr _ (by rw [ha0]; decide)).trans oY0
        have hz0 : ∀ k, k ∈ ([1, 2, 3, 4, 5, 6, 7, 8, 11, 15, 16, 19, 25, 26, 27, 31, 32] : List Nat) → z0 k = z0 k := fun _ _ => rfl
        obtain ⟨f64, o65, b66⟩ := y_op20 hI
        have h58 : (y_sw f4 (285 + 48 * x1.toInt + 3 * (y_c f4 (109 + 6 * x1.toInt)).toInt) w53.toInt f64) := by have q9 := h58; rw [y_atE o65] at q9; exact q9
        have hn_66 := hn
        refine lv_iload_n hx hb dX7_changesParts_70 rfl (lv_at hl 3 rfl) ?_
        refine lv_iconst (v := 3) hx hb dX7_changesParts_71 (by decide) ?_
        refine lv_icmp_ge (tgt := 133) hx hb dX7_changesParts_72 (by decide) (fun c67 => ?_) (fun c67 => ?_)
        · have c67 := (ax_ge (n := 3) (by decide)).mp c67
          exact W.vret hx hb hr (fun t ht hW => ⟨⟨F61, rfl, ⟨trivial, trivial, hI, hfr, fun k hk => (y_fiZ oY63 (s_sub (by decide) hk)).trans ((hz0 k hk).trans (y_fiZ oY0 (s_sub (by decide) hk)).symm), (by rw [y_atE o65, y_atE o2, y_atE o5]; exact y_swE ⟨by omega, by omega⟩ rfl hW0 (by omega) (by have q9 := h58; rw [show w53.toInt = 3 by omega] at q9; exact q9) (by omega) (by omega) hWs)⟩, by rw [ht]; exact hP, va_K.moved hW.alike hK⟩, hS.F ht⟩) hS.2.2 dX7_changesParts_133
        · have c67 := mt (ax_ge (n := 3) (by decide)).mpr c67
          refine lv_aload_n hx hb dX7_changesParts_75 rfl (lv_at hl 0 rfl) ?_
          refine th_get (D := (dC, dI)) (ci := 7) (v := .ref (A 20)) (C := RX7) (T := TX7) (N := 34) hx hb hts inX7 hown hK hP (hLK _ ha0 (by decide)) oY63 rfl 20 (by decide) (hts _ T_251) (fun _ h9 => h9) rfl dX7_changesParts_76 ?_
          refine lv_iload_n hx hb dX7_changesParts_79 rfl (lv_at hl 1 rfl) ?_
          refine lv_iload_n hx hb dX7_changesParts_80 rfl (lv_at hl 2 rfl) ?_
          refine lv_iload_n hx hb dX7_changesParts_81 rfl (lv_at hl 3 rfl) ?_
          refine va_calli (va_runS (As := [.int x1, .int r8, .int w53]) (rest := [.ref (A 20)]) ⟨hx, hb, hml, hown, hts⟩ (y_X7_partAt l dC dI H.size F61 x1 r8 w53 (⟨by omega, by omega⟩) (⟨by omega, by omega⟩) (⟨by omega, by omega⟩)) (cwS 3 hts (ax_gS T_1078 T_1080 T_265 T_1079) rfl rfl rfl (by decide +kernel) ⟨Nat.le_of_ble_eq_true rfl, Nat.le_of_ble_eq_true rfl⟩) ⟨fun a U g mk q => ⟨q.1, s_pc rfl rfl q.2⟩, fun U hU hW => ⟨rfl, s_pw hU hW hP hK hD hN⟩⟩ rfl rfl hl.1 rfl (lv_room (Nat.le_of_ble_eq_true rfl)) dX7_changesParts_82 ⟨Nat.zero_le _, Nat.zero_le _⟩) hS (fun q _ h => h) (fun q h => h) (fun r69 F70 t H1 locs ht hvm hw hB hz1 hk1 hS => ?_)
          obtain ⟨hP, hK1⟩ := hB
          rw [ht] at hP
          generalize H1 = H at hP hS ⊢
          clear hz1 hk1 hvm hK1
          obtain ⟨h71, h73, hG9, h72⟩ := hw
          rw [hG9] at hP
          have h72 : (r69.toInt = 288 + 48 * x1.toInt + 3 * r8.toInt + w53.toInt) := by have q9 := h72; exact q9
          refine th_iald hx hb hK hP (hLK _ (y_k20 hA) (by decide)) 0 o65 rfl (th_in ⟨by omega, by omega⟩) dX7_changesParts_85 ?_
          refine lv_topi (fun v74 ev74 => ?_)
          have Ev74 : v74 = y_c f64 (285 + 48 * x1.toInt + 3 * (y_c f4 (109 + 6 * x1.toInt)).toInt + w53.toInt) := ev74.trans (y_ci (by omega))
          have tEv74 := congrArg Int32.toInt Ev74
          refine lv_istore (lv' := [(4, .int v74), (0, .ref a0), (1, .int x1), (2, .int r8), (3, .int w53)]) hx hb dX7_changesParts_86 hl (by decide) rfl (fun ls hl => ?_)
          refine lv_aload_n hx hb dX7_changesParts_88 rfl (lv_at hl 1 rfl) ?_
          refine th_get (D := (dC, dI)) (ci := 7) (v := .ref (A 20)) (C := RX7) (T := TX7) (N := 34) hx hb hts inX7 hown hK hP (hLK _ ha0 (by decide)) oY63 rfl 20 (by decide) (hts _ T_251) (fun _ h9 => h9) rfl dX7_changesParts_89 ?_
          refine lv_iload_n hx hb dX7_changesParts_92 rfl (lv_at hl 2 rfl) ?_
          refine lv_iload_n hx hb dX7_changesParts_93 rfl (lv_at hl 3 rfl) ?_
          refine lv_iload_n hx hb dX7_changesParts_94 rfl (lv_at hl 4 rfl) ?_
          refine va_calli (va_runS (As := [.int x1, .int r8, .int w53]) (rest := [.ref (A 20)]) ⟨hx, hb, hml, hown, hts⟩ (y_X7_partAt l dC dI H.size F61 x1 r8 w53 (⟨by omega, by omega⟩) (⟨by omega, by omega⟩) (⟨by omega, by omega⟩)) (cwS 3 hts (ax_gS T_1078 T_1080 T_265 T_1079) rfl rfl rfl (by decide +kernel) ⟨Nat.le_of_ble_eq_true rfl, Nat.le_of_ble_eq_true rfl⟩) ⟨fun a U g mk q => ⟨q.1, s_pc rfl rfl q.2⟩, fun U hU hW => ⟨rfl, s_pw hU hW hP hK hD hN⟩⟩ rfl rfl hl.1 rfl (lv_room (Nat.le_of_ble_eq_true rfl)) dX7_changesParts_95 ⟨Nat.zero_le _, Nat.zero_le _⟩) hS (fun q _ h => h) (fun q h => h) (fun r76 F77 t H1 locs ht hvm hw hB hz1 hk1 hS => ?_)
          obtain ⟨hP, hK1⟩ := hB
          rw [ht] at hP
          generalize H1 = H at hP hS ⊢
          clear hz1 hk1 hvm hK1
          obtain ⟨h78, h80, hG9, h79⟩ := hw
          rw [hG9] at hP
          have h79 : (r76.toInt = 288 + 48 * x1.toInt + 3 * r8.toInt + w53.toInt) := by have q9 := h79; exact q9
          refine lv_aload_n hx hb dX7_changesParts_98 rfl (lv_at hl 1 rfl) ?_
          refine th_get (D := (dC, dI)) (ci := 7) (v := .ref (A 20)) (C := RX7) (T := TX7) (N := 34) hx hb hts inX7 hown hK hP (hLK _ ha0 (by decide)) oY63 rfl 20 (by decide) (hts _ T_251) (fun _ h9 => h9) rfl dX7_changesParts_99 ?_
          refine lv_iload_n hx hb dX7_changesParts_102 rfl (lv_at hl 2 rfl) ?_
          refine lv_iload_n hx hb dX7_changesParts_103 rfl (lv_at hl 3 rfl) ?_
          refine lv_iconst (v := 1) hx hb dX7_changesParts_104 (by decide) ?_
          refine lv_isub hx hb dX7_changesParts_105 ?_
          refine lv_topi (fun v81 ev81 => ?_)
          have qv81 : v81.toInt = r8.toInt - 1 := by rw [ev81]; exact th_sub rfl (by decide) ⟨by omega, by omega⟩
          refine lv_iload_n hx hb dX7_changesParts_106 rfl (lv_at hl 4 rfl) ?_
          refine va_calli (va_runS (As := [.int x1, .int v81, .int w53]) (rest := [.ref (A 20), .int r76, .ref (A 20)]) ⟨hx, hb, hml, hown, hts⟩ (y_X7_partAt l dC dI H.size F61 x1 v81 w53 (⟨by omega, by omega⟩) (⟨by omega, by omega⟩) (⟨by omega, by omega⟩)) (cwS 3 hts (ax_gS T_1078 T_1080 T_265 T_1079) rfl rfl rfl (by decide +kernel) ⟨Nat.le_of_ble_eq_true rfl, Nat.le_of_ble_eq_true rfl⟩) ⟨fun a U g mk q => ⟨q.1, s_pc rfl rfl q.2⟩, fun U hU hW => ⟨rfl, s_pw hU hW hP hK hD hN⟩⟩ rfl rfl hl.1 rfl (lv_room (Nat.le_of_ble_eq_true rfl)) dX7_changesParts_107 ⟨Nat.zero_le _, Nat.zero_le _⟩) hS (fun q _ h => h) (fun q h => h) (fun r83 F84 t H1 locs ht hvm hw hB hz1 hk1 hS => ?_)
          obtain ⟨hP, hK1⟩ := hB
          rw [ht] at hP
          generalize H1 = H at hP hS ⊢
          clear hz1 hk1 hvm hK1
          obtain ⟨h85, h87, hG9, h86⟩ := hw
          rw [hG9] at hP
          have h86 : (r83.toInt = 288 + 48 * x1.toInt + 3 * v81.toInt + w53.toInt) := by have q9 := h86; exact q9
          refine th_iald hx hb hK hP (hLK _ (y_k20 hA) (by decide)) 0 o65 rfl (th_in ⟨by omega, by omega⟩) dX7_changesParts_110 ?_
          refine lv_topi (fun v88 ev88 => ?_)
          have Ev88 : v88 = y_c f64 (282 + 48 * x1.toInt + 3 * (y_c f4 (109 + 6 * x1.toInt)).toInt + w53.toInt) := ev88.trans (y_ci (by omega))
          have tEv88 := congrArg Int32.toInt Ev88
          refine th_iast hx hb hK hP hD hS (hLK _ (y_k20 hA) (by decide)) 0 o65 rfl (th_in ⟨by omega, by omega⟩) dX7_changesParts_111 (fun H locs hP hS => ?_)
          obtain ⟨f89, u90⟩ : ∃ g : Nat → Int32, g = upd f64 (r76 : Int32).toNatClampNeg v88 := ⟨_, rfl⟩
          rw [← u90] at hP
          have b91 : y_bd 20 f89 := trivial
          have hP : va_P (dC, dI) vwCl (va_pl L (va_up F61 (A 20) (.inl (cs 0, 918, .inl f89)))) H := hP
          obtain ⟨F92, hF93⟩ : ∃ G : Nat → va_E, G = va_up F61 (A 20) (.inl (cs 0, 918, .inl f89)) := ⟨_, rfl⟩
          rw [← hF93] at hP
          have hI : y_I K cs A F92 := by rw [hF93]; exact y_clA (i := 20) hA hI (by decide) b91
          have hfr : ∀ b, K b ∉ [70] → F92 b = F b := by rw [hF93]; exact s_fr hfr (y_k20 hA) (by decide)
          have o94 : F92 (A 13) = .inl (cs 0, 400, .inl f1) := by rw [hF93]; exact th_ne (th_kd (y_k13 hA) (y_k20 hA) (by decide)) o62
          have oY95 : F92 a0 = .inr (7, y_fl A z0 q0) := by rw [hF93]; exact th_ne (th_kd ha0 (y_k20 hA) (by decide)) oY63
          have o96 : F92 (A 20) = .inl (cs 0, 918, .inl f89) := by rw [hF93]; exact th_up
          have u97 : ∀ j : Int, 0 ≤ j → y_c f89 j = if j = r76.toInt then v88 else y_c f64 j := by rw [u90]; exact y_cu rfl (by omega)
          refine lv_aload_n hx hb dX7_changesParts_112 rfl (lv_at hl 1 rfl) ?_
          refine th_get (D := (dC, dI)) (ci := 7) (v := .ref (A 20)) (C := RX7) (T := TX7) (N := 34) hx hb hts inX7 hown hK hP (hLK _ ha0 (by decide)) oY95 rfl 20 (by decide) (hts _ T_251) (fun _ h9 => h9) rfl dX7_changesParts_113 ?_
          refine lv_iload_n hx hb dX7_changesParts_116 rfl (lv_at hl 2 rfl) ?_
          refine lv_iload_n hx hb dX7_changesParts_117 rfl (lv_at hl 3 rfl) ?_
          refine lv_iconst (v := 1) hx hb dX7_changesParts_118 (by decide) ?_
          refine lv_isub hx hb dX7_changesParts_119 ?_
          refine lv_topi (fun v98 ev98 => ?_)
          have qv98 : v98.toInt = r8.toInt - 1 := by rw [ev98]; exact th_sub rfl (by decide) ⟨by omega, by omega⟩
          refine lv_iload_n hx hb dX7_changesParts_120 rfl (lv_at hl 4 rfl) ?_
          refine va_calli (va_runS (As := [.int x1, .int v98, .int w53]) (rest := [.ref (A 20)]) ⟨hx, hb, hml, hown, hts⟩ (y_X7_partAt l dC dI H.size F92 x1 v98 w53 (⟨by omega, by omega⟩) (⟨by omega, by omega⟩) (⟨by omega, by omega⟩)) (cwS 3 hts (ax_gS T_1078 T_1080 T_265 T_1079) rfl rfl rfl (by decide +kernel) ⟨Nat.le_of_ble_eq_true rfl, Nat.le_of_ble_eq_true rfl⟩) ⟨fun a U g mk q => ⟨q.1, s_pc rfl rfl q.2⟩, fun U hU hW => ⟨rfl, s_pw hU hW hP hK hD hN⟩⟩ rfl rfl hl.1 rfl (lv_room (Nat.le_of_ble_eq_true rfl)) dX7_changesParts_121 ⟨Nat.zero_le _, Nat.zero_le _⟩) hS (fun q _ h => h) (fun q h => h) (fun r100 F101 t H1 locs ht hvm hw hB hz1 hk1 hS => ?_)
          obtain ⟨hP, hK1⟩ := hB
          rw [ht] at hP
          generalize H1 = H at hP hS ⊢
          clear hz1 hk1 hvm hK1
          obtain ⟨h102, h104, hG9, h103⟩ := hw
          rw [hG9] at hP
          have h103 : (r100.toInt = 288 + 48 * x1.toInt + 3 * v98.toInt + w53.toInt) := by have q9 := h103; exact q9
          refine lv_iload hx hb dX7_changesParts_124 (lv_at hl 0 rfl) ?_
          refine th_iast hx hb hK hP hD hS (hLK _ (y_k20 hA) (by decide)) 0 o96 rfl (th_in ⟨by omega, by omega⟩) dX7_changesParts_126 (fun H locs hP hS => ?_)
          obtain ⟨f105, u106⟩ : ∃ g : Nat → Int32, g = upd f89 (r100 : Int32).toNatClampNeg v74 := ⟨_, rfl⟩
          rw [← u106] at hP
          have b107 : y_bd 20 f105 := trivial
          have hP : va_P (dC, dI) vwCl (va_pl L (va_up F92 (A 20) (.inl (cs 0, 918, .inl f105)))) H := hP
          obtain ⟨F108, hF109⟩ : ∃ G : Nat → va_E, G = va_up F92 (A 20) (.inl (cs 0, 918, .inl f105)) := ⟨_, rfl⟩
          rw [← hF109] at hP
          have hI : y_I K cs A F108 := by rw [hF109]; exact y_clA (i := 20) hA hI (by decide) b107
          have hfr : ∀ b, K b ∉ [70] → F108 b = F b := by rw [hF109]; exact s_fr hfr (y_k20 hA) (by decide)
          have o110 : F108 (A 13) = .inl (cs 0, 400, .inl f1) := by rw [hF109]; exact th_ne (th_kd (y_k13 hA) (y_k20 hA) (by decide)) o94
          have oY111 : F108 a0 = .inr (7, y_fl A z0 q0) := by rw [hF109]; exact th_ne (th_kd ha0 (y_k20 hA) (by decide)) oY95
          have o112 : F108 (A 20) = .inl (cs 0, 918, .inl f105) := by rw [hF109]; exact th_up
          have u113 : ∀ j : Int, 0 ≤ j → y_c f105 j = if j = r100.toInt then v74 else y_c f89 j := by rw [u106]; exact y_cu rfl (by omega)
          obtain ⟨v114, ev114⟩ : ∃ y : Int32, w53 + 1 = y := ⟨_, rfl⟩
          have qv114 : v114.toInt = w53.toInt + 1 := by rw [← ev114]; exact th_add rfl (by decide) ⟨by omega, by omega⟩
          refine lv_iinc (v := v114) (lv' := [(3, .int v114), (4, .int v74), (0, .ref a0), (1, .int x1), (2, .int r8)]) hx hb dX7_changesParts_127 hl (k := 4) rfl ev114 (by decide) rfl (fun ls hl => ?_)
          refine lv_goto (tgt := 70) hx hb dX7_changesParts_130 (by decide) ?_
          exact ih70 _ _ _ _ (by omega) ⟨F108, _, v114, rfl, lv_sub hl [2, 3, 4, 0] rfl, hP, hS, hI, hfr, (fun k hk => (y_fiZ oY111 (s_sub (by decide) hk)).trans (hz0 k hk)), ⟨by omega, by omega⟩, ⟨by omega, by omega⟩, ⟨by omega, by omega⟩, (by rw [y_atE o112]; exact (by rw [show v114.toInt = w53.toInt + 1 by omega]; exact y_swS (by omega) ⟨by omega, by omega⟩ h58 u97 u113 (by omega) (by omega) (Ev88.trans (congrArg _ (by omega))) (Ev74.trans (congrArg _ (by omega))))), (by omega), (by omega), rfl⟩
      · have c52 := Int32.toInt_inj.symm.mp c52
        exact W.vret hx hb hr (fun t ht hW => ⟨⟨F9, rfl, ⟨trivial, trivial, hI, hfr, fun k hk => (y_fiZ oY15 (s_sub (by decide) hk)).trans ((hz0 k hk).trans (y_fiZ oY0 (s_sub (by decide) hk)).symm), (by rw [y_atE o14, y_atE o2, y_atE o5]; exact ⟨hW0, hWs, y_fw_r _ _⟩)⟩, by rw [ht]; exact hP, va_K.moved hW.alike hK⟩, hS.F ht⟩) hS.2.2 dX7_changesParts_67

set_option maxHeartbeats 4000000 in
set_option maxRecDepth 100000 in
theorem yt_X7_goesByStack (l : Launch) (dC : Nat → ClassId) (dI : Nat → Nat → Nat) (sz : Nat) {L : List Nat} {K : Nat → Nat} {cs : Nat → ClassId} (hLK : ∀ a {k : Nat}, K a = k → k ≠ 0 → a ∈ L) (A : Nat → Nat) (hA : y_A K A) (F : Nat → va_E) (a0 : Nat) (x1 : Int32) (x2 : Int32) (x3 : Int32) (ha0 : K a0 = 9) (hx1 : 0 ≤ x1.toInt ∧ x1.toInt ≤ 3) (hx2 : 0 ≤ x2.toInt ∧ x2.toInt ≤ 39) (hI : y_I K cs A F) (hPG : y_PG (y_at F (A 13))) (hln : (x2.toInt < (y_c (y_at F (A 13)) 387).toInt)) (hW0 : y_W0 (y_at F (A 20)) x1.toInt) (hWs : y_Ws (y_c (y_at F (A 13)) 387).toInt (y_at F (A 20)) x1.toInt) (hws3 : (0 < (y_c (y_at F (A 20)) (109 + 6 * x1.toInt)).toInt ∧ y_sub x3 (y_c (y_at F (A 20)) (287 + 48 * x1.toInt + 3 * (y_c (y_at F (A 20)) (109 + 6 * x1.toInt)).toInt)))) : Met l yX7_goesByStack (Cond.code yX7_goesByStack cX7_goesByStack 5 none :: T0) ({ frames := 5, cells := 0, slots := 0, locals := 118 }) (va_Pc [.ref a0, .int x1, .int x2, .int x3] (s_W dC dI sz L F [(cs 0, .int), (cs 1, .byte), (cs 2, .long), (cs 3, .object RX5), (cs 4, .object RX4), (cs 5, .array .int), (cs 6, .char), (cs 7, .boolean)])) (va_Qv (fun (G : Nat → va_E) => True ∧ True ∧ y_I K cs A G ∧ (∀ b, K b ∉ [70] → G b = F b) ∧ (∀ k, k ∈ ([1, 2, 3, 4, 5, 6, 7, 8, 11, 15, 16, 19, 25, 26, 27, 31, 32] : List Nat) → y_fi G a0 k = y_fi F a0 k) ∧ (y_W0 (y_at G (A 20)) x1.toInt ∧ y_Ws (y_c (y_at F (A 13)) 387).toInt (y_at G (A 20)) x1.toInt ∧ y_Wt (y_c (y_at F (A 13)) 387).toInt (y_at G (A 20)) x1.toInt ∧ y_fw x1.toInt (y_at F (A 20)) (y_at G (A 20)))) (fun (G : Nat → va_E) (t : State) => va_P (dC, dI) vwCl (va_pl L G) t.heap ∧ va_K (dC, dI) vwCl [(cs 0, .int), (cs 1, .byte), (cs 2, .long), (cs 3, .object RX5), (cs 4, .object RX4), (cs 5, .array .int), (cs 6, .char), (cs 7, .boolean)] t) (fun q => q ∈ L)) 0 0 (fun q => q ∈ L) := by
  refine Met.ofW (cc := cX7_goesByStack) (maxL := 5) (ret := none) (by decide) rfl ?_
  intro p e s m args below meth c s₁ B hml hv
  obtain ⟨rfl, hsz, hP, hK, hD, hN⟩ := hv
  have hx := B.exec
  have hb := B.bytes
  have hr := B.returns
  have hts : ∀ w ∈ T0, w.before _ s = true := fun w h => atoms_spec (ws := Cond.code yX7_goesByStack cX7_goesByStack 5 none :: T0) B.pre w (List.mem_cons_of_mem _ h)
  have hown : s.vm.findClass RX7 = some m.cls := findClass_of_methodNamed B.named
  have hlocks := B.notSynchronized
  have hS : va_S (fun q => q ∈ L) s.heap s.heap [] := va_S.rf
  have hfr : ∀ b, K b ∉ [70] → F b = F b := fun _ _ => rfl
  have hl := lv_entry ([.ref a0, .int x1, .int x2, .int x3]) (n := 5) (Nat.le_of_ble_eq_true rfl)
  rw [lg_entry_eq]
  generalize (lg_sl ([.ref a0, .int x1, .int x2, .int x3]) ++ List.replicate (5 - (lg_sl ([.ref a0, .int x1, .int x2, .int x3])).length) Slot.unset).toArray = ls at hl ⊢
  have hl : lv_has ls 5 [(0, .ref a0), (1, .int x1), (2, .int x2), (3, .int x3)] := hl
  refine s_gen hP hS (fun H locs hP hS => ?_)
  obtain ⟨z0, q0, oY0, bz0, bq0⟩ := y_opY hI ha0
  have hz0 : ∀ k, k ∈ ([1, 2, 3, 4, 5, 6, 7, 8, 11, 15, 16, 19, 25, 26, 27, 31, 32] : List Nat) → z0 k = z0 k := fun _ _ => rfl
  obtain ⟨f1, o2, b3⟩ := y_op13 hI
  obtain ⟨f4, o5, b6⟩ := y_op20 hI
  have hPG : y_PG f1 := by have q9 := hPG; rw [y_atE o2] at q9; exact q9
  have hln : (x2.toInt < (y_c f1 387).toInt) := by have q9 := hln; rw [y_atE o2] at q9; exact q9
  have hW0 : y_W0 f4 x1.toInt := by have q9 := hW0; rw [y_atE o5] at q9; exact q9
  have hWs : y_Ws (y_c f1 387).toInt f4 x1.toInt := by have q9 := hWs; rw [y_atE o2, y_atE o5] at q9; exact q9
  have hws3 : (0 < (y_c f4 (109 + 6 * x1.toInt)).toInt ∧ y_sub x3 (y_c f4 (287 + 48 * x1.toInt + 3 * (y_c f4 (109 + 6 * x1.toInt)).toInt))) := by have q9 := hws3; rw [y_atE o5] at q9; exact q9
  have hL := y_P0L hPG.1
  have hW := y_P0W hPG.1
  have hn7 := hW0.2.2.2
  have hn0 := hws3.1
  have hrg := hPG.1.1.1 x2.toInt (by omega) (by omega)
  unfold y_rg at hrg
  refine th_join (fun g H locs => ∃ (G : Nat → va_E) (ls : Array Slot), g = F0 m 69 ls [] ∧ lv_has ls 5 [(0, .ref a0), (1, .int x1)] ∧ va_P (dC, dI) vwCl (va_pl L G) H ∧ va_S (fun q => q ∈ L) s.heap H locs ∧ y_I K cs A G ∧ (∀ b, K b ∉ [70] → G b = F b) ∧ (∀ k, k ∈ ([1, 2, 3, 4, 5, 6, 7, 8, 11, 15, 16, 19, 25, 26, 27, 31, 32] : List Nat) → y_fi G a0 k = z0 k) ∧ (0 ≤ x1.toInt ∧ x1.toInt ≤ 3) ∧ y_W0 (y_at G (A 20)) x1.toInt ∧ y_Ws (y_c f1 387).toInt (y_at G (A 20)) x1.toInt ∧ y_fw x1.toInt f4 (y_at G (A 20))) (fun K69 => ?_) ?_
  refine th_join (fun g H locs => ∃ (G : Nat → va_E) (ls : Array Slot) (w8 : Int32), g = F0 m 57 ls [] ∧ lv_has ls 5 [(0, .ref a0), (1, .int x1), (4, .int w8)] ∧ va_P (dC, dI) vwCl (va_pl L G) H ∧ va_S (fun q => q ∈ L) s.heap H locs ∧ y_I K cs A G ∧ (∀ b, K b ∉ [70] → G b = F b) ∧ (∀ k, k ∈ ([1, 2, 3, 4, 5, 6, 7, 8, 11, 15, 16, 19, 25, 26, 27, 31, 32] : List Nat) → y_fi G a0 k = z0 k) ∧ (0 ≤ w8.toInt ∧ w8.toInt ≤ 15) ∧ (0 ≤ x1.toInt ∧ x1.toInt ≤ 3) ∧ y_W0 (y_at G (A 20)) x1.toInt ∧ y_Ws (y_c f1 387).toInt (y_at G (A 20)) x1.toInt ∧ y_fw x1.toInt f4 (y_at G (A 20))) (fun K57 => ?_) ?_
  · refine lv_aload_n hx hb dX7_goesByStack_0 rfl (lv_at hl 0 rfl) ?_
    refine lv_iload_n hx hb dX7_goesByStack_1 rfl (lv_at hl 2 rfl) ?_
    refine lv_iconst (v := 0) hx hb dX7_goesByStack_2 (by decide) ?_
    refine va_calli (va_runV (As := [.int x2, .int 0]) (rest := []) ⟨hx, hb, hml, hown, hts⟩ (y_X7_of l dC dI H.size hLK A hA F a0 x2 0 ha0 (⟨by omega, by omega⟩) (by decide) hI) (cwV 2 hts (ax_gV T_1131 T_1133 T_1134 T_265 T_1132) rfl rfl rfl (by decide +kernel) ⟨Nat.le_of_ble_eq_true rfl, Nat.le_of_ble_eq_true rfl⟩) ⟨fun a U g mk q => ⟨q.1, s_pc rfl rfl q.2⟩, s_recv hK hP (hLK _ ha0 (by decide)) (ci := 7) rfl oY0, fun U hU hW => ⟨rfl, s_pw hU hW hP hK hD hN⟩⟩ rfl rfl hl.1 rfl (lv_room (Nat.le_of_ble_eq_true rfl)) dX7_goesByStack_3 ⟨Nat.zero_le _, Nat.zero_le _⟩) hS (fun q _ h => h) (fun q h => h) (fun r10 F11 t H1 locs ht hvm hw hB hz1 hk1 hS => ?_)
    obtain ⟨hP, hK1⟩ := hB
    rw [ht] at hP
    generalize H1 = H at hP hS ⊢
    clear hz1 hk1 hvm hK1
    obtain ⟨h12, h14, hI, hfr1, hzf, h13⟩ := hw
    have o15 : F11 (A 13) = .inl (cs 0, 400, .inl f1) := (hfr1 _ (by rw [(y_k13 hA)]; decide)).trans o2
    have o16 : F11 (A 20) = .inl (cs 0, 918, .inl f4) := (hfr1 _ (by rw [(y_k20 hA)]; decide)).trans o5
    have oY17 : F11 a0 = .inr (7, y_fl A z0 q0) := (hfr1 _ (by rw [ha0]; decide)).trans oY0
    have hfr : ∀ b, K b ∉ [70] → F11 b = F b := fun b hb9 => (hfr1 b (fun q => hb9 (s_sub (by decide) q))).trans (hfr b hb9)
    have h13 : (r10 = y_c f1 (8 * x2.toInt + 0)) := by have q9 := h13; rw [y_atE o2] at q9; exact q9
    have h13 : r10 = y_c f1 (8 * x2.toInt) := h13.trans (congrArg (y_c f1) (by omega))
    have h18 := congrArg Int32.toInt h13
    have h19 : 0 ≤ r10.toInt ∧ r10.toInt ≤ 15 := by have q9 := congrArg Int32.toInt h13; exact ⟨by omega, by omega⟩
    refine lv_istore (lv' := [(4, .int r10), (0, .ref a0), (1, .int x1), (2, .int x2), (3, .int x3)]) hx hb dX7_goesByStack_6 hl (by decide) rfl (fun ls hl => ?_)
    refine lv_iload hx hb dX7_goesByStack_8 (lv_at hl 0 rfl) ?_
    refine lv_bipush (v := 12) hx hb dX7_goesByStack_10 (by decide) ?_
    refine lv_icmp_ne (tgt := 25) hx hb dX7_goesByStack_12 (by decide) (fun c20 => ?_) (fun c20 => ?_)
    · have c20 := mt (ax_eq (n := 12) (by decide)).mpr c20
      refine lv_aload_n hx hb dX7_goesByStack_25 rfl (lv_at hl 1 rfl) ?_
      refine th_get (D := (dC, dI)) (ci := 7) (v := .ref (A 20)) (C := RX7) (T := TX7) (N := 34) hx hb hts inX7 hown hK hP (hLK _ ha0 (by decide)) oY17 rfl 20 (by decide) (hts _ T_251) (fun _ h9 => h9) rfl dX7_goesByStack_26 ?_
      refine lv_iload_n hx hb dX7_goesByStack_29 rfl (lv_at hl 2 rfl) ?_
      refine lv_aload_n hx hb dX7_goesByStack_30 rfl (lv_at hl 1 rfl) ?_
      refine lv_iload_n hx hb dX7_goesByStack_31 rfl (lv_at hl 2 rfl) ?_
      refine va_calli (va_runV (As := [.int x1]) (rest := [.int x1, .ref (A 20)]) ⟨hx, hb, hml, hown, hts⟩ (y_X7_top l dC dI H.size hLK A hA F11 a0 x1 ha0 (⟨by omega, by omega⟩) hI) (cwV 1 hts (ax_gV T_1074 T_1076 T_1077 T_265 T_1075) rfl rfl rfl (by decide +kernel) ⟨Nat.le_of_ble_eq_true rfl, Nat.le_of_ble_eq_true rfl⟩) ⟨fun a U g mk q => ⟨q.1, s_pc rfl rfl q.2⟩, s_recv hK hP (hLK _ ha0 (by decide)) (ci := 7) rfl oY17, fun U hU hW => ⟨rfl, s_pw hU hW hP hK hD hN⟩⟩ rfl rfl hl.1 rfl (lv_room (Nat.le_of_ble_eq_true rfl)) dX7_goesByStack_32 ⟨Nat.zero_le _, Nat.zero_le _⟩) hS (fun q _ h => h) (fun q h => h) (fun r22 F23 t H1 locs ht hvm hw hB hz1 hk1 hS => ?_)
      obtain ⟨hP, hK1⟩ := hB
      rw [ht] at hP
      generalize H1 = H at hP hS ⊢
      clear hz1 hk1 hvm hK1
      obtain ⟨h24, h26, hI, hfr1, hzf, h25⟩ := hw
      have o27 : F23 (A 13) = .inl (cs 0, 400, .inl f1) := (hfr1 _ (by rw [(y_k13 hA)]; decide)).trans o15
      have o28 : F23 (A 20) = .inl (cs 0, 918, .inl f4) := (hfr1 _ (by rw [(y_k20 hA)]; decide)).trans o16
      have oY29 : F23 a0 = .inr (7, y_fl A z0 q0) := (hfr1 _ (by rw [ha0]; decide)).trans oY17
      have hfr : ∀ b, K b ∉ [70] → F23 b = F b := fun b hb9 => (hfr1 b (fun q => hb9 (s_sub (by decide) q))).trans (hfr b hb9)
      have h25 : (r22 = y_c f4 (109 + 6 * x1.toInt) - 1) := by have q9 := h25; rw [y_atE o16] at q9; exact q9
      have h30 := congrArg Int32.toInt h25
      have h31 : 0 ≤ r22.toInt ∧ r22.toInt ≤ 14 := by have q9 : r22.toInt = (y_c f4 (109 + 6 * x1.toInt)).toInt - 1 := (by rw [h25]; exact th_sub rfl (by decide) ⟨by omega, by omega⟩); exact ⟨by omega, by omega⟩
      have h32 : r22.toInt = (y_c f4 (109 + 6 * x1.toInt)).toInt - 1 := by rw [h25]; exact th_sub rfl (by decide) ⟨by omega, by omega⟩
      refine lv_iconst (v := 0) hx hb dX7_goesByStack_35 (by decide) ?_
      refine va_calli (va_runS (As := [.int x1, .int r22, .int 0]) (rest := [.ref (A 20)]) ⟨hx, hb, hml, hown, hts⟩ (y_X7_partAt l dC dI H.size F23 x1 r22 0 (⟨by omega, by omega⟩) (⟨by omega, by omega⟩) (by decide)) (cwS 3 hts (ax_gS T_1078 T_1080 T_265 T_1079) rfl rfl rfl (by decide +kernel) ⟨Nat.le_of_ble_eq_true rfl, Nat.le_of_ble_eq_true rfl⟩) ⟨fun a U g mk q => ⟨q.1, s_pc rfl rfl q.2⟩, fun U hU hW => ⟨rfl, s_pw hU hW hP hK hD hN⟩⟩ rfl rfl hl.1 rfl (lv_room (Nat.le_of_ble_eq_true rfl)) dX7_goesByStack_36 ⟨Nat.zero_le _, Nat.zero_le _⟩) hS (fun q _ h => h) (fun q h => h) (fun r34 F35 t H1 locs ht hvm hw hB hz1 hk1 hS => ?_)
      obtain ⟨hP, hK1⟩ := hB
      rw [ht] at hP
      generalize H1 = H at hP hS ⊢
      clear hz1 hk1 hvm hK1
      obtain ⟨h36, h38, hG9, h37⟩ := hw
      rw [hG9] at hP
      have h37 : (r34.toInt = 288 + 48 * x1.toInt + 3 * r22.toInt + 0) := by have q9 := h37; exact q9
      refine lv_iload hx hb dX7_goesByStack_39 (lv_at hl 0 rfl) ?_
      refine lv_bipush (v := 15) hx hb dX7_goesByStack_41 (by decide) ?_
      refine lv_icmp_ne (tgt := 53) hx hb dX7_goesByStack_43 (by decide) (fun c39 => ?_) (fun c39 => ?_)
      · have c39 := mt (ax_eq (n := 15) (by decide)).mpr c39
        refine lv_iload_n hx hb dX7_goesByStack_53 rfl (lv_at hl 3 rfl) ?_
        refine lv_iconst (v := 1) hx hb dX7_goesByStack_54 (by decide) ?_
        refine lv_iadd hx hb dX7_goesByStack_55 ?_
        refine lv_topi (fun v40 ev40 => ?_)
        have qv40 : v40.toInt = x2.toInt + 1 := by rw [ev40]; exact th_add rfl (by decide) ⟨by omega, by omega⟩
        refine th_iast hx hb hK hP hD hS (hLK _ (y_k20 hA) (by decide)) 0 o28 rfl (th_in ⟨by omega, by omega⟩) dX7_goesByStack_56 (fun H locs hP hS => ?_)
        obtain ⟨f41, u42⟩ : ∃ g : Nat → Int32, g = upd f4 (r34 : Int32).toNatClampNeg v40 := ⟨_, rfl⟩
        rw [← u42] at hP
        have b43 : y_bd 20 f41 := trivial
        have hP : va_P (dC, dI) vwCl (va_pl L (va_up F23 (A 20) (.inl (cs 0, 918, .inl f41)))) H := hP
        obtain ⟨F44, hF45⟩ : ∃ G : Nat → va_E, G = va_up F23 (A 20) (.inl (cs 0, 918, .inl f41)) := ⟨_, rfl⟩
        rw [← hF45] at hP
        have hI : y_I K cs A F44 := by rw [hF45]; exact y_clA (i := 20) hA hI (by decide) b43
        have hfr : ∀ b, K b ∉ [70] → F44 b = F b := by rw [hF45]; exact s_fr hfr (y_k20 hA) (by decide)
        have o46 : F44 (A 13) = .inl (cs 0, 400, .inl f1) := by rw [hF45]; exact th_ne (th_kd (y_k13 hA) (y_k20 hA) (by decide)) o27
        have oY47 : F44 a0 = .inr (7, y_fl A z0 q0) := by rw [hF45]; exact th_ne (th_kd ha0 (y_k20 hA) (by decide)) oY29
        have o48 : F44 (A 20) = .inl (cs 0, 918, .inl f41) := by rw [hF45]; exact th_up
        have u49 : ∀ j : Int, 0 ≤ j → y_c f41 j = if j = r34.toInt then v40 else y_c f4 j := by rw [u42]; exact y_cu rfl (by omega)
        obtain ⟨k50a, k50b⟩ := y_Ws_top (L := (y_c f1 387).toInt) (v := v40) ⟨by omega, by omega⟩ u49 (by omega) ⟨by omega, by omega⟩ hW0 (by omega) hWs
        have hn51 := k50a.2.2.2
        exact K57 _ _ _ ⟨F44, _, r10, rfl, lv_sub hl [1, 2, 0] rfl, hP, hS, hI, hfr, (fun k hk => (y_fiZ oY47 (s_sub (by decide) hk)).trans (hz0 k hk)), ⟨by omega, by omega⟩, ⟨by omega, by omega⟩, (by rw [y_atE o48]; exact k50a), (by rw [y_atE o48]; exact k50b), (by rw [y_atE o48]; exact (y_fw_u u49 (by omega)))⟩
      · have c39 := (ax_eq (n := 15) (by decide)).mp c39
        refine lv_aload_n hx hb dX7_goesByStack_46 rfl (lv_at hl 1 rfl) ?_
        refine va_calli (va_runV (As := []) (rest := [.int r34, .ref (A 20)]) ⟨hx, hb, hml, hown, hts⟩ (y_X7_lines l dC dI H.size hLK A hA F23 a0 ha0 hI) (cwV 0 hts (ax_gV T_1030 T_1032 T_1033 T_265 T_1031) rfl rfl rfl (by decide +kernel) ⟨Nat.le_of_ble_eq_true rfl, Nat.le_of_ble_eq_true rfl⟩) ⟨fun a U g mk q => ⟨q.1, s_pc rfl rfl q.2⟩, s_recv hK hP (hLK _ ha0 (by decide)) (ci := 7) rfl oY29, fun U hU hW => ⟨rfl, s_pw hU hW hP hK hD hN⟩⟩ rfl rfl hl.1 rfl (lv_room (Nat.le_of_ble_eq_true rfl)) dX7_goesByStack_47 ⟨Nat.zero_le _, Nat.zero_le _⟩) hS (fun q _ h => h) (fun q h => h) (fun r53 F54 t H1 locs ht hvm hw hB hz1 hk1 hS => ?_)
        obtain ⟨hP, hK1⟩ := hB
        rw [ht] at hP
        generalize H1 = H at hP hS ⊢
        clear hz1 hk1 hvm hK1
        obtain ⟨h55, h57, hI, hfr1, hzf, h56⟩ := hw
        have o58 : F54 (A 13) = .inl (cs 0, 400, .inl f1) := (hfr1 _ (by rw [(y_k13 hA)]; decide)).trans o27
        have o59 : F54 (A 20) = .inl (cs 0, 918, .inl f4) := (hfr1 _ (by rw [(y_k20 hA)]; decide)).trans o28
        have oY60 : F54 a0 = .inr (7, y_fl A z0 q0) := (hfr1 _ (by rw [ha0]; decide)).trans oY29
        have hfr : ∀ b, K b ∉ [70] → F54 b = F b := fun b hb9 => (hfr1 b (fun q => hb9 (s_sub (by decide) q))).trans (hfr b hb9)
        have h56 : (r53 = y_c f1 387) := by have q9 := h56; rw [y_atE o27] at q9; exact q9
        have h61 := congrArg Int32.toInt h56
        have h62 : 1 ≤ r53.toInt ∧ r53.toInt ≤ 40 := ⟨by omega, by omega⟩
        refine lv_goto (tgt := 56) hx hb dX7_goesByStack_50 (by decide) ?_
        refine th_iast hx hb hK hP hD hS (hLK _ (y_k20 hA) (by decide)) 0 o59 rfl (th_in ⟨by omega, by omega⟩) dX7_goesByStack_56 (fun H locs hP hS => ?_)
        obtain ⟨f63, u64⟩ : ∃ g : Nat → Int32, g = upd f4 (r34 : Int32).toNatClampNeg r53 := ⟨_, rfl⟩
        rw [← u64] at hP
        have b65 : y_bd 20 f63 := trivial
        have hP : va_P (dC, dI) vwCl (va_pl L (va_up F54 (A 20) (.inl (cs 0, 918, .inl f63)))) H := hP
        obtain ⟨F66, hF67⟩ : ∃ G : Nat → va_E, G = va_up F54 (A 20) (.inl (cs 0, 918, .inl f63)) := ⟨_, rfl⟩
        rw [← hF67] at hP
        have hI : y_I K cs A F66 := by rw [hF67]; exact y_clA (i := 20) hA hI (by decide) b65
        have hfr : ∀ b, K b ∉ [70] → F66 b = F b := by rw [hF67]; exact s_fr hfr (y_k20 hA) (by decide)
        have o68 : F66 (A 13) = .inl (cs 0, 400, .inl f1) := by rw [hF67]; exact th_ne (th_kd (y_k13 hA) (y_k20 hA) (by decide)) o58
        have oY69 : F66 a0 = .inr (7, y_fl A z0 q0) := by rw [hF67]; exact th_ne (th_kd ha0 (y_k20 hA) (by decide)) oY60
        have o70 : F66 (A 20) = .inl (cs 0, 918, .inl f63) := by rw [hF67]; exact th_up
        have u71 : ∀ j : Int, 0 ≤ j → y_c f63 j = if j = r34.toInt then r53 else y_c f4 j := by rw [u64]; exact y_cu rfl (by omega)
        obtain ⟨k72a, k72b⟩ := y_Ws_top (L := (y_c f1 387).toInt) (v := r53) ⟨by omega, by omega⟩ u71 (by omega) ⟨by omega, by omega⟩ hW0 (by omega) hWs
        have hn73 := k72a.2.2.2
        exact K57 _ _ _ ⟨F66, _, r10, rfl, lv_sub hl [1, 2, 0] rfl, hP, hS, hI, hfr, (fun k hk => (y_fiZ oY69 (s_sub (by decide) hk)).trans (hz0 k hk)), ⟨by omega, by omega⟩, ⟨by omega, by omega⟩, (by rw [y_atE o70]; exact k72a), (by rw [y_atE o70]; exact k72b), (by rw [y_atE o70]; exact (y_fw_u u71 (by omega)))⟩
    · have c20 := (ax_eq (n := 12) (by decide)).mp c20
      refine lv_aload_n hx hb dX7_goesByStack_15 rfl (lv_at hl 1 rfl) ?_
      refine lv_iload_n hx hb dX7_goesByStack_16 rfl (lv_at hl 2 rfl) ?_
      refine lv_iload_n hx hb dX7_goesByStack_17 rfl (lv_at hl 3 rfl) ?_
      refine lv_iload_n hx hb dX7_goesByStack_18 rfl (lv_at hl 4 rfl) ?_
      refine va_callv (va_runV (As := [.int x1, .int x2, .int x3]) (rest := []) ⟨hx, hb, hml, hown, hts⟩ (y_X7_partsWays l dC dI H.size hLK A hA F11 a0 x1 x2 x3 ha0 (⟨by omega, by omega⟩) (⟨by omega, by omega⟩) hI (by rw [y_atE o15]; exact hPG) (by first | (rw [y_atE o15]; omega) | rw [y_atE o15]) (by rw [y_atE o16]; exact hW0) (by rw [y_atE o15, y_atE o16]; exact hWs) (by rw [y_atE o16]; exact hws3) (by first | (rw [y_atE o15]; omega) | rw [y_atE o15])) (cwV 3 hts (ax_gV T_1155 T_1157 T_1158 T_265 T_1156) rfl rfl rfl (by decide +kernel) ⟨Nat.le_of_ble_eq_true rfl, Nat.le_of_ble_eq_true rfl⟩) ⟨fun a U g mk q => ⟨q.1, s_pc rfl rfl q.2⟩, s_recv hK hP (hLK _ ha0 (by decide)) (ci := 7) rfl oY17, fun U hU hW => ⟨rfl, s_pw hU hW hP hK hD hN⟩⟩ rfl rfl hl.1 rfl (lv_room (Nat.le_of_ble_eq_true rfl)) dX7_goesByStack_19 ⟨Nat.zero_le _, Nat.zero_le _⟩) hS (fun q _ h => h) (fun q h => h) (fun F75 t H1 locs ht hvm hw hB hz1 hk1 hS => ?_)
      obtain ⟨hP, hK1⟩ := hB
      rw [ht] at hP
      generalize H1 = H at hP hS ⊢
      clear hz1 hk1 hvm hK1
      obtain ⟨h76, h78, hI, hfr1, hzf, h77⟩ := hw
      have o79 : F75 (A 13) = .inl (cs 0, 400, .inl f1) := (hfr1 _ (by rw [(y_k13 hA)]; decide)).trans o15
      have oY80 : F75 a0 = .inr (7, y_fl A z0 q0) := (hfr1 _ (by rw [ha0]; decide)).trans oY17
      have hfr : ∀ b, K b ∉ [70] → F75 b = F b := fun b hb9 => (hfr1 b (fun q => hb9 (s_sub (by decide) q))).trans (hfr b hb9)
      obtain ⟨f81, o82, b83⟩ := y_op20 hI
      have h77 : (y_W0 f81 x1.toInt ∧ y_Ws (y_c f1 387).toInt f81 x1.toInt ∧ y_fw x1.toInt f4 f81 ∧ 0 < (y_c f81 (109 + 6 * x1.toInt)).toInt) := by have q9 := h77; rw [y_atE o82, y_atE o15, y_atE o16] at q9; exact q9
      have hn84 := h77.1.2.2.2
      refine lv_goto (tgt := 57) hx hb dX7_goesByStack_22 (by decide) ?_
      exact K57 _ _ _ ⟨F75, _, r10, rfl, lv_sub hl [1, 2, 0] rfl, hP, hS, hI, hfr, (fun k hk => (y_fiZ oY80 (s_sub (by decide) hk)).trans (hz0 k hk)), ⟨by omega, by omega⟩, ⟨by omega, by omega⟩, (by rw [y_atE o82]; exact h77.1), (by rw [y_atE o82]; exact h77.2.1), (by rw [y_atE o82]; exact h77.2.2.1)⟩
  · intro g H locs hq
    obtain ⟨F90, ls, w8, rfl, hl, hP, hS, hI, hfr, hz0, h85, h86, h87, h88, h89⟩ := hq
    have o91 : F90 (A 13) = .inl (cs 0, 400, .inl f1) := (hfr _ (by rw [(y_k13 hA)]; decide)).trans o2
    have oY92 : F90 a0 = .inr (7, y_fl A z0 q0) := (hfr _ (by rw [ha0]; decide)).trans oY0
    have hz0 : ∀ k, k ∈ ([1, 2, 3, 4, 5, 6, 7, 8, 11, 15, 16, 19, 25, 26, 27, 31, 32] : List Nat) → z0 k = z0 k := fun _ _ => rfl
    obtain ⟨f93, o94, b95⟩ := y_op20 hI
    have h87 : y_W0 f93 x1.toInt := by have q9 := h87; rw [y_atE o94] at q9; exact q9
    have h88 : y_Ws (y_c f1 387).toInt f93 x1.toInt := by have q9 := h88; rw [y_atE o94] at q9; exact q9
    have h89 : y_fw x1.toInt f4 f93 := by have q9 := h89; rw [y_atE o94] at q9; exact q9
    have hn96 := h87.2.2.2
    refine lv_iload hx hb dX7_goesByStack_57 (lv_at hl 2 rfl) ?_
    refine lv_bipush (v := 14) hx hb dX7_goesByStack_59 (by decide) ?_
    refine lv_icmp_ne (tgt := 69) hx hb dX7_goesByStack_61 (by decide) (fun c97 => ?_) (fun c97 => ?_)
    · have c97 := mt (ax_eq (n := 14) (by decide)).mpr c97
      exact K69 _ _ _ ⟨F90, _, rfl, lv_sub hl [0, 1] rfl, hP, hS, hI, hfr, (fun k hk => (y_fiZ oY92 (s_sub (by decide) hk)).trans (hz0 k hk)), ⟨by omega, by omega⟩, (by rw [y_atE o94]; exact h87), (by rw [y_atE o94]; exact h88), (by rw [y_atE o94]; exact h89)⟩
    · have c97 := (ax_eq (n := 14) (by decide)).mp c97
      refine lv_aload_n hx hb dX7_goesByStack_64 rfl (lv_at hl 0 rfl) ?_
      refine lv_iload_n hx hb dX7_goesByStack_65 rfl (lv_at hl 1 rfl) ?_
      refine va_callv (va_runV (As := [.int x1]) (rest := []) ⟨hx, hb, hml, hown, hts⟩ (y_X7_changesParts l dC dI H.size hLK A hA F90 a0 x1 ha0 (⟨by omega, by omega⟩) hI (by rw [y_atE o94]; exact h87) (by rw [y_atE o91, y_atE o94]; exact h88)) (cwV 1 hts (ax_gV T_1159 T_1161 T_1162 T_265 T_1160) rfl rfl rfl (by decide +kernel) ⟨Nat.le_of_ble_eq_true rfl, Nat.le_of_ble_eq_true rfl⟩) ⟨fun a U g mk q => ⟨q.1, s_pc rfl rfl q.2⟩, s_recv hK hP (hLK _ ha0 (by decide)) (ci := 7) rfl oY92, fun U hU hW => ⟨rfl, s_pw hU hW hP hK hD hN⟩⟩ rfl rfl hl.1 rfl (lv_room (Nat.le_of_ble_eq_true rfl)) dX7_goesByStack_66 ⟨Nat.zero_le _, Nat.zero_le _⟩) hS (fun q _ h => h) (fun q h => h) (fun F99 t H1 locs ht hvm hw hB hz1 hk1 hS => ?_)
      obtain ⟨hP, hK1⟩ := hB
      rw [ht] at hP
      generalize H1 = H at hP hS ⊢
      clear hz1 hk1 hvm hK1
      obtain ⟨h100, h102, hI, hfr1, hzf, h101⟩ := hw
      have o103 : F99 (A 13) = .inl (cs 0, 400, .inl f1) := (hfr1 _ (by rw [(y_k13 hA)]; decide)).trans o91
      have oY104 : F99 a0 = .inr (7, y_fl A z0 q0) := (hfr1 _ (by rw [ha0]; decide)).trans oY92
      have hfr : ∀ b, K b ∉ [70] → F99 b = F b := fun b hb9 => (hfr1 b (fun q => hb9 (s_sub (by decide) q))).trans (hfr b hb9)
      obtain ⟨f105, o106, b107⟩ := y_op20 hI
      have h101 : (y_W0 f105 x1.toInt ∧ y_Ws (y_c f1 387).toInt f105 x1.toInt ∧ y_fw x1.toInt f93 f105) := by have q9 := h101; rw [y_atE o106, y_atE o91, y_atE o94] at q9; exact q9
      have hn108 := h101.1.2.2.2
      exact K69 _ _ _ ⟨F99, _, rfl, lv_sub hl [0, 1] rfl, hP, hS, hI, hfr, (fun k hk => (y_fiZ oY104 (s_sub (by decide) hk)).trans (hz0 k hk)), ⟨by omega, by omega⟩, (by rw [y_atE o106]; exact h101.1), (by rw [y_atE o106]; exact h101.2.1), (by rw [y_atE o106]; exact (y_fw_t h89 h101.2.2))⟩
  · intro g H locs hq
    obtain ⟨F113, ls, rfl, hl, hP, hS, hI, hfr, hz0, h109, h110, h111, h112⟩ := hq
    have o114 : F113 (A 13) = .inl (cs 0, 400, .inl f1) := (hfr _ (by rw [(y_k13 hA)]; decide)).trans o2
    have oY115 : F113 a0 = .inr (7, y_fl A z0 q0) := (hfr _ (by rw [ha0]; decide)).trans oY0
    have hz0 : ∀ k, k ∈ ([1, 2, 3, 4, 5, 6, 7, 8, 11, 15, 16, 19, 25, 26, 27, 31, 32] : List Nat) → z0 k = z0 k := fun _ _ => rfl
    obtain ⟨f116, o117, b118⟩ := y_op20 hI
    have h110 : y_W0 f116 x1.toInt := by have q9 := h110; rw [y_atE o117] at q9; exact q9
    have h111 : y_Ws (y_c f1 387).toInt f116 x1.toInt := by have q9 := h111; rw [y_atE o117] at q9; exact q9
    have h112 : y_fw x1.toInt f4 f116 := by have q9 := h112; rw [y_atE o117] at q9; exact q9
    have hn119 := h110.2.2.2
    refine lv_aload_n hx hb dX7_goesByStack_69 rfl (lv_at hl 0 rfl) ?_
    refine lv_iload_n hx hb dX7_goesByStack_70 rfl (lv_at hl 1 rfl) ?_
    refine va_callv (va_runV (As := [.int x1]) (rest := []) ⟨hx, hb, hml, hown, hts⟩ (y_X7_clears l dC dI H.size hLK A hA F113 a0 x1 ha0 (⟨by omega, by omega⟩) hI (by rw [y_atE o117]; exact h110) (by rw [y_atE o114, y_atE o117]; exact h111)) (cwV 1 hts (ax_gV T_1163 T_1165 T_1166 T_265 T_1164) rfl rfl rfl (by decide +kernel) ⟨Nat.le_of_ble_eq_true rfl, Nat.le_of_ble_eq_true rfl⟩) ⟨fun a U g mk q => ⟨q.1, s_pc rfl rfl q.2⟩, s_recv hK hP (hLK _ ha0 (by decide)) (ci := 7) rfl oY115, fun U hU hW => ⟨rfl, s_pw hU hW hP hK hD hN⟩⟩ rfl rfl hl.1 rfl (lv_room (Nat.le_of_ble_eq_true rfl)) dX7_goesByStack_71 ⟨Nat.zero_le _, Nat.zero_le _⟩) hS (fun q _ h => h) (fun q h => h) (fun F121 t H1 locs ht hvm hw hB hz1 hk1 hS => ?_)
    obtain ⟨hP, hK1⟩ := hB
    rw [ht] at hP
    generalize H1 = H at hP hS ⊢
    clear hz1 hk1 hvm hK1
    obtain ⟨h122, h124, hI, hfr1, hzf, h123⟩ := hw
    have o125 : F121 (A 13) = .inl (cs 0, 400, .inl f1) := (hfr1 _ (by rw [(y_k13 hA)]; decide)).trans o114
    have oY126 : F121 a0 = .inr (7, y_fl A z0 q0) := (hfr1 _ (by rw [ha0]; decide)).trans oY115
    have hfr : ∀ b, K b ∉ [70] → F121 b = F b := fun b hb9 => (hfr1 b (fun q => hb9 (s_sub (by decide) q))).trans (hfr b hb9)
    obtain ⟨f127, o128, b129⟩ := y_op20 hI
    have h123 : (y_W0 f127 x1.toInt ∧ y_Ws (y_c f1 387).toInt f127 x1.toInt ∧ y_Wt (y_c f1 387).toInt f127 x1.toInt ∧ y_fw x1.toInt f116 f127) := by have q9 := h123; rw [y_atE o128, y_atE o114, y_atE o117] at q9; exact q9
    exact W.vret hx hb hr (fun t ht hW => ⟨⟨F121, rfl, ⟨trivial, trivial, hI, hfr, fun k hk => (y_fiZ oY126 (s_sub (by decide) hk)).trans ((hz0 k hk).trans (y_fiZ oY0 (s_sub (by decide) hk)).symm), (by rw [y_atE o128, y_atE o2, y_atE o5]; exact ⟨h123.1, h123.2.1, h123.2.2.1, y_fw_t h112 h123.2.2.2⟩)⟩, by rw [ht]; exact hP, va_K.moved hW.alike hK⟩, hS.F ht⟩) hS.2.2 dX7_goesByStack_74

set_option maxHeartbeats 4000000 in
set_option maxRecDepth 100000 in
theorem yt_X7_goesFair (l : Launch) (dC : Nat → ClassId) (dI : Nat → Nat → Nat) (sz : Nat) {L : List Nat} {K : Nat → Nat} {cs : Nat → ClassId} (hLK : ∀ a {k : Nat}, K a = k → k ≠ 0 → a ∈ L) (A : Nat → Nat) (hA : y_A K A) (F : Nat → va_E) (a0 : Nat) (x1 : Int32) (x2 : Int32) (x3 : Int32) (ha0 : K a0 = 9) (hx1 : 0 ≤ x1.toInt ∧ x1.toInt ≤ 3) (hx2 : 0 ≤ x2.toInt ∧ x2.toInt ≤ 39) (hI : y_I K cs A F) (hPG : y_PG (y_at F (A 13))) (hln : (x2.toInt < (y_c (y_at F (A 13)) 387).toInt)) (hW0 : y_W0 (y_at F (A 20)) x1.toInt) (hWf : y_Wf (y_c (y_at F (A 13)) 387).toInt (y_at F (A 20)) x1.toInt) (hm1 : ((y_c (y_at F (A 20)) 3).toInt = 1)) (hl3 : (¬ x3 = 0 ∧ y_sub x3 (y_c (y_at F (A 20)) (107 + 6 * x1.toInt)))) : Met l yX7_goesFair (Cond.code yX7_goesFair cX7_goesFair 7 none :: T0) ({ frames := 4, cells := 0, slots := 0, locals := 90 }) (va_Pc [.ref a0, .int x1, .int x2, .int x3] (s_W dC dI sz L F [(cs 0, .int), (cs 1, .byte), (cs 2, .long), (cs 3, .object RX5), (cs 4, .object RX4), (cs 5, .array .int), (cs 6, .char), (cs 7, .boolean)])) (va_Qv (fun (G : Nat → va_E) => True ∧ True ∧ y_I K cs A G ∧ (∀ b, K b ∉ [70] → G b = F b) ∧ (∀ k, k ∈ ([1, 2, 3, 4, 5, 6, 7, 8, 11, 15, 16, 19, 25, 26, 27, 31, 32] : List Nat) → y_fi G a0 k = y_fi F a0 k) ∧ (y_W0 (y_at G (A 20)) x1.toInt ∧ y_Wf (y_c (y_at F (A 13)) 387).toInt (y_at G (A 20)) x1.toInt ∧ y_fw x1.toInt (y_at F (A 20)) (y_at G (A 20)))) (fun (G : Nat → va_E) (t : State) => va_P (dC, dI) vwCl (va_pl L G) t.heap ∧ va_K (dC, dI) vwCl [(cs 0, .int), (cs 1, .byte), (cs 2, .long), (cs 3, .object RX5), (cs 4, .object RX4), (cs 5, .array .int), (cs 6, .char), (cs 7, .boolean)] t) (fun q => q ∈ L)) 0 0 (fun q => q ∈ L) := by
  refine Met.ofW (cc := cX7_goesFair) (maxL := 7) (ret := none) (by decide) rfl ?_
  intro p e s m args below meth c s₁ B hml hv
  obtain ⟨rfl, hsz, hP, hK, hD, hN⟩ := hv
  have hx := B.exec
  have hb := B.bytes
  have hr := B.returns
  have hts : ∀ w ∈ T0, w.before _ s = true := fun w h => atoms_spec (ws := Cond.code yX7_goesFair cX7_goesFair 7 none :: T0) B.pre w (List.mem_cons_of_mem _ h)
  have hown : s.vm.findClass RX7 = some m.cls := findClass_of_methodNamed B.named
  have hlocks := B.notSynchronized
  have hS : va_S (fun q => q ∈ L) s.heap s.heap [] := va_S.rf
  have hfr : ∀ b, K b ∉ [70] → F b = F b := fun _ _ => rfl
  have hl := lv_entry ([.ref a0, .int x1, .int x2, .int x3]) (n := 7) (Nat.le_of_ble_eq_true rfl)
  rw [lg_entry_eq]
  generalize (lg_sl ([.ref a0, .int x1, .int x2, .int x3]) ++ List.replicate (7 - (lg_sl ([.ref a0, .int x1, .int x2, .int x3])).length) Slot.unset).toArray = ls at hl ⊢
  have hl : lv_has ls 7 [(0, .ref a0), (1, .int x1), (2, .int x2), (3, .int x3)] := hl
  refine s_gen hP hS (fun H locs hP hS => ?_)
  obtain ⟨z0, q0, oY0, bz0, bq0⟩ := y_opY hI ha0
  have hz0 : ∀ k, k ∈ ([1, 2, 3, 4, 5, 6, 7, 8, 11, 15, 16, 19, 25, 26, 27, 31, 32] : List Nat) → z0 k = z0 k := fun _ _ => rfl
  obtain ⟨f1, o2, b3⟩ := y_op13 hI
  obtain ⟨f4, o5, b6⟩ := y_op20 hI
  have hPG : y_PG f1 := by have q9 := hPG; rw [y_atE o2] at q9; exact q9
  have hln : (x2.toInt < (y_c f1 387).toInt) := by have q9 := hln; rw [y_atE o2] at q9; exact q9
  have hW0 : y_W0 f4 x1.toInt := by have q9 := hW0; rw [y_atE o5] at q9; exact q9
  have hWf : y_Wf (y_c f1 387).toInt f4 x1.toInt := by have q9 := hWf; rw [y_atE o2, y_atE o5] at q9; exact q9
  have hm1 : ((y_c f4 3).toInt = 1) := by have q9 := hm1; rw [y_atE o5] at q9; exact q9
  have hl3 : (¬ x3 = 0 ∧ y_sub x3 (y_c f4 (107 + 6 * x1.toInt))) := by have q9 := hl3; rw [y_atE o5] at q9; exact q9
  have hL := y_P0L hPG.1
  have hW := y_P0W hPG.1
  have hnw := hW0.2.2
  have hrg := hPG.1.1.1 x2.toInt (by omega) (by omega)
  unfold y_rg at hrg
  obtain ⟨i0, hi0, hbi⟩ := y_ex (y_8s hl3.2 hW0.1) hl3.1
  obtain ⟨ii, hii0, hii1, hii2⟩ := y_nat8 hi0
  rw [← hii2] at hbi
  refine th_join (fun g H locs => ∃ (G : Nat → va_E) (ls : Array Slot) (w7 : Int32) (w8 : Int32), g = F0 m 99 ls [] ∧ lv_has ls 7 [(0, .ref a0), (1, .int x1), (2, .int x2), (3, .int x3), (4, .int w7), (6, .int w8)] ∧ va_P (dC, dI) vwCl (va_pl L G) H ∧ va_S (fun q => q ∈ L) s.heap H locs ∧ y_I K cs A G ∧ (∀ b, K b ∉ [70] → G b = F b) ∧ (∀ k, k ∈ ([1, 2, 3, 4, 5, 6, 7, 8, 11, 15, 16, 19, 25, 26, 27, 31, 32] : List Nat) → y_fi G a0 k = z0 k) ∧ (0 ≤ w7.toInt ∧ w7.toInt ≤ 15) ∧ True ∧ (0 ≤ x1.toInt ∧ x1.toInt ≤ 3) ∧ (0 ≤ x2.toInt ∧ x2.toInt ≤ 39) ∧ y_W0 (y_at G (A 20)) x1.toInt ∧ y_Wf (y_c f1 387).toInt (y_at G (A 20)) x1.toInt ∧ y_fw x1.toInt f4 (y_at G (A 20)) ∧ (w7.toInt = (y_c f1 (8 * x2.toInt)).toInt)) (fun K99 => ?_) ?_
  · refine lv_aload_n hx hb dX7_goesFair_0 rfl (lv_at hl 0 rfl) ?_
    refine lv_iload_n hx hb dX7_goesFair_1 rfl (lv_at hl 2 rfl) ?_
    refine lv_iconst (v := 0) hx hb dX7_goesFair_2 (by decide) ?_
    refine va_calli (va_runV (As := [.int x2, .int 0]) (rest := []) ⟨hx, hb, hml, hown, hts⟩ (y_X7_of l dC dI H.size hLK A hA F a0 x2 0 ha0 (⟨by omega, by omega⟩) (by decide) hI) (cwV 2 hts (ax_gV T_1131 T_1133 T_1134 T_265 T_1132) rfl rfl rfl (by decide +kernel) ⟨Nat.le_of_ble_eq_true rfl, Nat.le_of_ble_eq_true rfl⟩) ⟨fun a U g mk q => ⟨q.1, s_pc rfl rfl q.2⟩, s_recv hK hP (hLK _ ha0 (by decide)) (ci := 7) rfl oY0, fun U hU hW => ⟨rfl, s_pw hU hW hP hK hD hN⟩⟩ rfl rfl hl.1 rfl (lv_room (Nat.le_of_ble_eq_true rfl)) dX7_goesFair_3 ⟨Nat.zero_le _, Nat.zero_le _⟩) hS (fun q _ h => h) (fun q h => h) (fun r10 F11 t H1 locs ht hvm hw hB hz1 hk1 hS => ?_)
    obtain ⟨hP, hK1⟩ := hB
    rw [ht] at hP
    generalize H1 = H at hP hS ⊢
    clear hz1 hk1 hvm hK1
    obtain ⟨h12, h14, hI, hfr1, hzf, h13⟩ := hw
    have o15 : F11 (A 13) = .inl (cs 0, 400, .inl f1) := (hfr1 _ (by rw [(y_k13 hA)]; decide)).trans o2
    have o16 : F11 (A 20) = .inl (cs 0, 918, .inl f4) := (hfr1 _ (by rw [(y_k20 hA)]; decide)).trans o5
    have oY17 : F11 a0 = .inr (7, y_fl A z0 q0) := (hfr1 _ (by rw [ha0]; decide)).trans oY0
    have hfr : ∀ b, K b ∉ [70] → F11 b = F b := fun b hb9 => (hfr1 b (fun q => hb9 (s_sub (by decide) q))).trans (hfr b hb9)
    have h13 : (r10 = y_c f1 (8 * x2.toInt + 0)) := by have q9 := h13; rw [y_atE o2] at q9; exact q9
    have h13 : r10 = y_c f1 (8 * x2.toInt) := h13.trans (congrArg (y_c f1) (by omega))
    have h18 := congrArg Int32.toInt h13
    have h19 : 0 ≤ r10.toInt ∧ r10.toInt ≤ 15 := by have q9 := congrArg Int32.toInt h13; exact ⟨by omega, by omega⟩
    refine lv_istore (lv' := [(4, .int r10), (0, .ref a0), (1, .int x1), (2, .int x2), (3, .int x3)]) hx hb dX7_goesFair_6 hl (by decide) rfl (fun ls hl => ?_)
    refine lv_aload_n hx hb dX7_goesFair_8 rfl (lv_at hl 1 rfl) ?_
    refine lv_iload_n hx hb dX7_goesFair_9 rfl (lv_at hl 2 rfl) ?_
    refine lv_iconst (v := 1) hx hb dX7_goesFair_10 (by decide) ?_
    refine va_calli (va_runV (As := [.int x1, .int 1]) (rest := []) ⟨hx, hb, hml, hown, hts⟩ (y_X7_its l dC dI H.size hLK A hA F11 a0 x1 1 ha0 (⟨by omega, by omega⟩) (by decide) hI) (cwV 2 hts (ax_gV T_1057 T_1059 T_1060 T_265 T_1058) rfl rfl rfl (by decide +kernel) ⟨Nat.le_of_ble_eq_true rfl, Nat.le_of_ble_eq_true rfl⟩) ⟨fun a U g mk q => ⟨q.1, s_pc rfl rfl q.2⟩, s_recv hK hP (hLK _ ha0 (by decide)) (ci := 7) rfl oY17, fun U hU hW => ⟨rfl, s_pw hU hW hP hK hD hN⟩⟩ rfl rfl hl.1 rfl (lv_room (Nat.le_of_ble_eq_true rfl)) dX7_goesFair_11 ⟨Nat.zero_le _, Nat.zero_le _⟩) hS (fun q _ h => h) (fun q h => h) (fun r21 F22 t H1 locs ht hvm hw hB hz1 hk1 hS => ?_)
    obtain ⟨hP, hK1⟩ := hB
    rw [ht] at hP
    generalize H1 = H at hP hS ⊢
    clear hz1 hk1 hvm hK1
    obtain ⟨h23, h25, hI, hfr1, hzf, h24⟩ := hw
    have o26 : F22 (A 13) = .inl (cs 0, 400, .inl f1) := (hfr1 _ (by rw [(y_k13 hA)]; decide)).trans o15
    have o27 : F22 (A 20) = .inl (cs 0, 918, .inl f4) := (hfr1 _ (by rw [(y_k20 hA)]; decide)).trans o16
    have oY28 : F22 a0 = .inr (7, y_fl A z0 q0) := (hfr1 _ (by rw [ha0]; decide)).trans oY17
    have hfr : ∀ b, K b ∉ [70] → F22 b = F b := fun b hb9 => (hfr1 b (fun q => hb9 (s_sub (by decide) q))).trans (hfr b hb9)
    have h24 : (r21 = y_c f4 (104 + 6 * x1.toInt + 1)) := by have q9 := h24; rw [y_atE o16] at q9; exact q9
    have h24 : r21 = y_c f4 (105 + 6 * x1.toInt) := h24.trans (congrArg (y_c f4) (by omega))
    have h29 := congrArg Int32.toInt h24
    have h30 : 0 ≤ r21.toInt ∧ r21.toInt ≤ 7 := by have q9 := congrArg Int32.toInt h24; omega
    refine lv_istore (lv' := [(5, .int r21), (4, .int r10), (0, .ref a0), (1, .int x1), (2, .int x2), (3, .int x3)]) hx hb dX7_goesFair_14 hl (by decide) rfl (fun ls hl => ?_)
    refine th_loop (fun n g H locs => ∃ (G : Nat → va_E) (ls : Array Slot) (w31 : Int32), g = F0 m 16 ls [] ∧ lv_has ls 7 [(0, .ref a0), (1, .int x1), (2, .int x2), (3, .int x3), (4, .int r10), (5, .int w31)] ∧ va_P (dC, dI) vwCl (va_pl L G) H ∧ va_S (fun q => q ∈ L) s.heap H locs ∧ y_I K cs A G ∧ (∀ b, K b ∉ [70] → G b = F b) ∧ (∀ k, k ∈ ([1, 2, 3, 4, 5, 6, 7, 8, 11, 15, 16, 19, 25, 26, 27, 31, 32] : List Nat) → y_fi G a0 k = z0 k) ∧ (0 ≤ w31.toInt ∧ w31.toInt ≤ 7) ∧ (0 ≤ x1.toInt ∧ x1.toInt ≤ 3) ∧ (0 ≤ x2.toInt ∧ x2.toInt ≤ 39) ∧ (0 ≤ r10.toInt ∧ r10.toInt ≤ 15) ∧ ((y_at G (A 20)) = f4) ∧ n = ((ii + 8 - w31.toInt) % 8).toNat) _ ⟨F22, _, r21, rfl, lv_sub hl [2, 3, 4, 5, 1, 0] rfl, hP, hS, hI, hfr, (fun k hk => (y_fiZ oY28 (s_sub (by decide) hk)).trans (hz0 k hk)), ⟨by omega, by omega⟩, ⟨by omega, by omega⟩, ⟨by omega, by omega⟩, ⟨by omega, by omega⟩, (by first | (rw [y_atE o27]; exact rfl) | rw [y_atE o27]), rfl⟩ (fun n ih16 g H locs hq => ?_)
    obtain ⟨F37, ls, w31, rfl, hl, hP, hS, hI, hfr, hz0, h32, h33, h34, h35, h36, hn⟩ := hq
    have o38 : F37 (A 13) = .inl (cs 0, 400, .inl f1) := (hfr _ (by rw [(y_k13 hA)]; decide)).trans o2
    have oY39 : F37 a0 = .inr (7, y_fl A z0 q0) := (hfr _ (by rw [ha0]; decide)).trans oY0
    have hz0 : ∀ k, k ∈ ([1, 2, 3, 4, 5, 6, 7, 8, 11, 15, 16, 19, 25, 26, 27, 31, 32] : List Nat) → z0 k = z0 k := fun _ _ => rfl
    obtain ⟨f40, o41, b42⟩ := y_op20 hI
    have h36 : (f40 = f4) := by have q9 := h36; rw [y_atE o41] at q9; exact q9
    have hn_42 := hn
    refine lv_iload_n hx hb dX7_goesFair_16 rfl (lv_at hl 3 rfl) ?_
    refine lv_iload hx hb dX7_goesFair_17 (lv_at hl 5 rfl) ?_
    refine va_calli (va_runS (As := [.int x3, .int w31]) (rest := []) ⟨hx, hb, hml, hown, hts⟩ (y_X7_isOf l dC dI H.size F37 x3 w31 (⟨by omega, by omega⟩)) (cwS 2 hts (ax_gS T_1027 T_1029 T_265 T_1028) rfl rfl rfl (by decide +kernel) ⟨Nat.le_of_ble_eq_true rfl, Nat.le_of_ble_eq_true rfl⟩) ⟨fun a U g mk q => ⟨q.1, s_pc rfl rfl q.2⟩, fun U hU hW => ⟨rfl, s_pw hU hW hP hK hD hN⟩⟩ rfl rfl hl.1 rfl (lv_room (Nat.le_of_ble_eq_true rfl)) dX7_goesFair_19 ⟨Nat.zero_le _, Nat.zero_le _⟩) hS (fun q _ h => h) (fun q h => h) (fun r44 F45 t H1 locs ht hvm hw hB hz1 hk1 hS => ?_)
    obtain ⟨hP, hK1⟩ := hB
    rw [ht] at hP
    generalize H1 = H at hP hS ⊢
    clear hz1 hk1 hvm hK1
    obtain ⟨h46, h48, hG9, h47⟩ := hw
    rw [hG9] at hP
    have h47 : ((r44.toInt = 1 ∧ bt x3 w31.toInt.toNat = true) ∨ (r44.toInt = 0 ∧ bt x3 w31.toInt.toNat = false)) := by have q9 := h47; exact q9
    refine lv_if_ne (tgt := 37) hx hb dX7_goesFair_22 (by decide) (fun c49 => ?_) (fun c49 => ?_)
    · have c49 := mt (ax_eq (n := 0) (by decide)).mpr c49
      refine lv_aload_n hx hb dX7_goesFair_37 rfl (lv_at hl 0 rfl) ?_
      refine th_get (D := (dC, dI)) (ci := 7) (v := .ref (A 20)) (C := RX7) (T := TX7) (N := 34) hx hb hts inX7 hown hK hP (hLK _ ha0 (by decide)) oY39 rfl 20 (by decide) (hts _ T_251) (fun _ h9 => h9) rfl dX7_goesFair_38 ?_
      refine lv_iload_n hx hb dX7_goesFair_41 rfl (lv_at hl 1 rfl) ?_
      refine lv_iconst (v := 1) hx hb dX7_goesFair_42 (by decide) ?_
      refine va_calli (va_runS (As := [.int x1, .int 1]) (rest := [.ref (A 20)]) ⟨hx, hb, hml, hown, hts⟩ (y_X7_warpAt l dC dI H.size F37 x1 1 (⟨by omega, by omega⟩) (by decide)) (cwS 2 hts (ax_gS T_1021 T_1023 T_265 T_1022) rfl rfl rfl (by decide +kernel) ⟨Nat.le_of_ble_eq_true rfl, Nat.le_of_ble_eq_true rfl⟩) ⟨fun a U g mk q => ⟨q.1, s_pc rfl rfl q.2⟩, fun U hU hW => ⟨rfl, s_pw hU hW hP hK hD hN⟩⟩ rfl rfl hl.1 rfl (lv_room (Nat.le_of_ble_eq_true rfl)) dX7_goesFair_43 ⟨Nat.zero_le _, Nat.zero_le _⟩) hS (fun q _ h => h) (fun q h => h) (fun r51 F52 t H1 locs ht hvm hw hB hz1 hk1 hS => ?_)
      obtain ⟨hP, hK1⟩ := hB
      rw [ht] at hP
      generalize H1 = H at hP hS ⊢
      clear hz1 hk1 hvm hK1
      obtain ⟨h53, h55, hG9, h54⟩ := hw
      rw [hG9] at hP
      have h54 : (r51.toInt = 104 + 6 * x1.toInt + 1) := by have q9 := h54; exact q9
      refine lv_iload hx hb dX7_goesFair_46 (lv_at hl 5 rfl) ?_
      refine lv_iconst (v := 1) hx hb dX7_goesFair_48 (by decide) ?_
      refine lv_iadd hx hb dX7_goesFair_49 ?_
      refine lv_topi (fun v56 ev56 => ?_)
      have qv56 : v56.toInt = w31.toInt + 1 := by rw [ev56]; exact th_add rfl (by decide) ⟨by omega, by omega⟩
      refine lv_bipush (v := 8) hx hb dX7_goesFair_50 (by decide) ?_
      refine lv_irem hx hb dX7_goesFair_52 (by decide) ?_
      refine lv_topi (fun v57 ev57 => ?_)
      have qv57 : v57.toInt = v56.toInt % 8 := by rw [ev57]; exact th_rem rfl (by decide) (by omega) (by decide)
      refine th_iast hx hb hK hP hD hS (hLK _ (y_k20 hA) (by decide)) 0 o41 rfl (th_in ⟨by omega, by omega⟩) dX7_goesFair_53 (fun H locs hP hS => ?_)
      obtain ⟨f58, u59⟩ : ∃ g : Nat → Int32, g = upd f40 (r51 : Int32).toNatClampNeg v57 := ⟨_, rfl⟩
      rw [← u59] at hP
      have b60 : y_bd 20 f58 := trivial
      have hP : va_P (dC, dI) vwCl (va_pl L (va_up F37 (A 20) (.inl (cs 0, 918, .inl f58)))) H := hP
      obtain ⟨F61, hF62⟩ : ∃ G : Nat → va_E, G = va_up F37 (A 20) (.inl (cs 0, 918, .inl f58)) := ⟨_, rfl⟩
      rw [← hF62] at hP
      have hI : y_I K cs A F61 := by rw [hF62]; exact y_clA (i := 20) hA hI (by decide) b60
      have hfr : ∀ b, K b ∉ [70] → F61 b = F b := by rw [hF62]; exact s_fr hfr (y_k20 hA) (by decide)
      have o63 : F61 (A 13) = .inl (cs 0, 400, .inl f1) := by rw [hF62]; exact th_ne (th_kd (y_k13 hA) (y_k20 hA) (by decide)) o38
      have oY64 : F61 a0 = .inr (7, y_fl A z0 q0) := by rw [hF62]; exact th_ne (th_kd ha0 (y_k20 hA) (by decide)) oY39
      have o65 : F61 (A 20) = .inl (cs 0, 918, .inl f58) := by rw [hF62]; exact th_up
      have u66 : ∀ j : Int, 0 ≤ j → y_c f58 j = if j = r51.toInt then v57 else y_c f40 j := by rw [u59]; exact y_cu rfl (by omega)
      rw [h36] at u66
      obtain ⟨k67a, k67b, k67c⟩ := y_turn (L := (y_c f1 387).toInt) ⟨by omega, by omega⟩ u66 (by omega) ⟨by omega, by omega⟩ hW0 hWf
      refine lv_iload hx hb dX7_goesFair_54 (lv_at hl 4 rfl) ?_
      refine lv_bipush (v := 13) hx hb dX7_goesFair_56 (by decide) ?_
      refine lv_icmp_ne (tgt := 62) hx hb dX7_goesFair_58 (by decide) (fun c68 => ?_) (fun c68 => ?_)
      · have c68 := mt (ax_eq (n := 13) (by decide)).mpr c68
        refine lv_iload hx hb dX7_goesFair_62 (lv_at hl 4 rfl) ?_
        refine lv_bipush (v := 12) hx hb dX7_goesFair_64 (by decide) ?_
        refine lv_icmp_ne (tgt := 78) hx hb dX7_goesFair_66 (by decide) (fun c69 => ?_) (fun c69 => ?_)
        · have c69 := mt (ax_eq (n := 12) (by decide)).mpr c69
          refine lv_iconst (v := 0) hx hb dX7_goesFair_78 (by decide) ?_
          refine lv_istore (lv' := [(6, .int 0), (0, .ref a0), (1, .int x1), (2, .int x2), (3, .int x3), (4, .int r10), (5, .int w31)]) hx hb dX7_goesFair_79 hl (by decide) rfl (fun ls hl => ?_)
          refine lv_iload hx hb dX7_goesFair_81 (lv_at hl 0 rfl) ?_
          refine lv_if_eq (tgt := 99) hx hb dX7_goesFair_83 (by decide) (fun _ => ?_) (fun c => absurd (by decide) c)
          have h71 : (0 : Int32).toInt = 0 := by decide
          exact K99 _ _ _ ⟨F61, _, r10, 0, rfl, lv_sub hl [1, 2, 3, 4, 5, 0] rfl, hP, hS, hI, hfr, (fun k hk => (y_fiZ oY64 (s_sub (by decide) hk)).trans (hz0 k hk)), ⟨by omega, by omega⟩, trivial, ⟨by omega, by omega⟩, ⟨by omega, by omega⟩, (by rw [y_atE o65]; exact k67a), (by rw [y_atE o65]; exact k67b), (by rw [y_atE o65]; exact k67c), (by omega)⟩
        · have c69 := (ax_eq (n := 12) (by decide)).mp c69
          refine lv_aload_n hx hb dX7_goesFair_69 rfl (lv_at hl 0 rfl) ?_
          refine lv_iload_n hx hb dX7_goesFair_70 rfl (lv_at hl 2 rfl) ?_
          refine lv_iload_n hx hb dX7_goesFair_71 rfl (lv_at hl 3 rfl) ?_
          refine va_calli (va_runV (As := [.int x2, .int x3]) (rest := []) ⟨hx, hb, hml, hown, hts⟩ (y_X7_holding l dC dI H.size hLK A hA F61 a0 x2 x3 ha0 (⟨by omega, by omega⟩) hI (by rw [y_atE o63]; exact hPG) (by first | (rw [y_atE o63]; omega) | rw [y_atE o63])) (cwV 2 hts (ax_gV T_1167 T_1169 T_1170 T_265 T_1168) rfl rfl rfl (by decide +kernel) ⟨Nat.le_of_ble_eq_true rfl, Nat.le_of_ble_eq_true rfl⟩) ⟨fun a U g mk q => ⟨q.1, s_pc rfl rfl q.2⟩, s_recv hK hP (hLK _ ha0 (by decide)) (ci := 7) rfl oY64, fun U hU hW => ⟨rfl, s_pw hU hW hP hK hD hN⟩⟩ rfl rfl hl.1 rfl (lv_room (Nat.le_of_ble_eq_true rfl)) dX7_goesFair_72 ⟨Nat.zero_le _, Nat.zero_le _⟩) hS (fun q _ h => h) (fun q h => h) (fun r73 F74 t H1 locs ht hvm hw hB hz1 hk1 hS => ?_)
          obtain ⟨hP, hK1⟩ := hB
          rw [ht] at hP
          generalize H1 = H at hP hS ⊢
          clear hz1 hk1 hvm hK1
          obtain ⟨h75, h77, hI, hfr1, hzf, h76⟩ := hw
          have o78 : F74 (A 13) = .inl (cs 0, 400, .inl f1) := (hfr1 _ (by rw [(y_k13 hA)]; decide)).trans o63
          have o79 : F74 (A 20) = .inl (cs 0, 918, .inl f58) := (hfr1 _ (by rw [(y_k20 hA)]; decide)).trans o65
          have oY80 : F74 a0 = .inr (7, y_fl A z0 q0) := (hfr1 _ (by rw [ha0]; decide)).trans oY64
          have hfr : ∀ b, K b ∉ [70] → F74 b = F b := fun b hb9 => (hfr1 b (fun q => hb9 (s_sub (by decide) q))).trans (hfr b hb9)
          have h76 : (y_sub r73 x3 ∧ (r73 = x3 ∨ ((y_c f1 (8 * x2.toInt)).toInt = 12 ∧ ¬ (y_c f1 (8 * x2.toInt + 5)).toInt = -1000000))) := by have q9 := h76; rw [y_atE o63] at q9; exact q9
          refine lv_goto (tgt := 79) hx hb dX7_goesFair_75 (by decide) ?_
          refine lv_istore (lv' := [(6, .int r73), (0, .ref a0), (1, .int x1), (2, .int x2), (3, .int x3), (4, .int r10), (5, .int w31)]) hx hb dX7_goesFair_79 hl (by decide) rfl (fun ls hl => ?_)
          refine lv_iload hx hb dX7_goesFair_81 (lv_at hl 0 rfl) ?_
          refine lv_if_eq (tgt := 99) hx hb dX7_goesFair_83 (by decide) (fun c81 => ?_) (fun c81 => ?_)
          · have c81 := (ax_eq (n := 0) (by decide)).mp c81
            exact K99 _ _ _ ⟨F74, _, r10, r73, rfl, lv_sub hl [1, 2, 3, 4, 5, 0] rfl, hP, hS, hI, hfr, (fun k hk => (y_fiZ oY80 (s_sub (by decide) hk)).trans (hz0 k hk)), ⟨by omega, by omega⟩, trivial, ⟨by omega, by omega⟩, ⟨by omega, by omega⟩, (by rw [y_atE o79]; exact k67a), (by rw [y_atE o79]; exact k67b), (by rw [y_atE o79]; exact k67c), (by omega)⟩
          · have c81 := mt (ax_eq (n := 0) (by decide)).mpr c81
            refine lv_aload_n hx hb dX7_goesFair_86 rfl (lv_at hl 1 rfl) ?_
            refine lv_iload_n hx hb dX7_goesFair_87 rfl (lv_at hl 2 rfl) ?_
            refine lv_iload hx hb dX7_goesFair_88 (lv_at hl 0 rfl) ?_
            refine lv_aload_n hx hb dX7_goesFair_90 rfl (lv_at hl 1 rfl) ?_
            refine lv_iload_n hx hb dX7_goesFair_91 rfl (lv_at hl 3 rfl) ?_
            refine lv_iconst (v := 4) hx hb dX7_goesFair_92 (by decide) ?_
            refine va_calli (va_runV (As := [.int x2, .int 4]) (rest := [.int r73, .int x1, .ref a0]) ⟨hx, hb, hml, hown, hts⟩ (y_X7_of l dC dI H.size hLK A hA F74 a0 x2 4 ha0 (⟨by omega, by omega⟩) (by decide) hI) (cwV 2 hts (ax_gV T_1131 T_1133 T_1134 T_265 T_1132) rfl rfl rfl (by decide +kernel) ⟨Nat.le_of_ble_eq_true rfl, Nat.le_of_ble_eq_true rfl⟩) ⟨fun a U g mk q => ⟨q.1, s_pc rfl rfl q.2⟩, s_recv hK hP (hLK _ ha0 (by decide)) (ci := 7) rfl oY80, fun U hU hW => ⟨rfl, s_pw hU hW hP hK hD hN⟩⟩ rfl rfl hl.1 rfl (lv_room (Nat.le_of_ble_eq_true rfl)) dX7_goesFair_93 ⟨Nat.zero_le _, Nat.zero_le _⟩) hS (fun q _ h => h) (fun q h => h) (fun r83 F84 t H1 locs ht hvm hw hB hz1 hk1 hS => ?_)
            obtain ⟨hP, hK1⟩ := hB
            rw [ht] at hP
            generalize H1 = H at hP hS ⊢
            clear hz1 hk1 hvm hK1
            obtain ⟨h85, h87, hI, hfr1, hzf, h86⟩ := hw
            have o88 : F84 (A 13) = .inl (cs 0, 400, .inl f1) := (hfr1 _ (by rw [(y_k13 hA)]; decide)).trans o78
            have o89 : F84 (A 20) = .inl (cs 0, 918, .inl f58) := (hfr1 _ (by rw [(y_k20 hA)]; decide)).trans o79
            have oY90 : F84 a0 = .inr (7, y_fl A z0 q0) := (hfr1 _ (by rw [ha0]; decide)).trans oY80
            have hfr : ∀ b, K b ∉ [70] → F84 b = F b := fun b hb9 => (hfr1 b (fun q => hb9 (s_sub (by decide) q))).trans (hfr b hb9)
            have h86 : (r83 = y_c f1 (8 * x2.toInt + 4)) := by have q9 := h86; rw [y_atE o78] at q9; exact q9
            have h86 : r83 = y_c f1 (8 * x2.toInt + 4) := h86.trans (congrArg (y_c f1) (by omega))
            have h91 := congrArg Int32.toInt h86
            refine va_callv (va_runV (As := [.int x1, .int r73, .int r83]) (rest := []) ⟨hx, hb, hml, hown, hts⟩ (y_X7_nexts l dC dI H.size hLK A hA F84 a0 x1 r73 r83 ha0 (⟨by omega, by omega⟩) hI (by rw [y_atE o88]; exact hPG.1) (by rw [y_atE o89]; exact k67a) (by rw [y_atE o88, y_atE o89]; exact k67b) (by rw [y_atE o89]; exact (congrArg Int32.toInt (y_fw3 (by omega) k67c)).trans hm1) (by rw [y_atE o88]; have q9 := congrArg Int32.toInt h86; have q8 := y_PGt hPG (i := x2.toInt) (by omega) (by omega) (by omega); exact ⟨by omega, by omega⟩)) (cwV 3 hts (ax_gV T_1171 T_1173 T_1174 T_265 T_1172) rfl rfl rfl (by decide +kernel) ⟨Nat.le_of_ble_eq_true rfl, Nat.le_of_ble_eq_true rfl⟩) ⟨fun a U g mk q => ⟨q.1, s_pc rfl rfl q.2⟩, s_recv hK hP (hLK _ ha0 (by decide)) (ci := 7) rfl oY90, fun U hU hW => ⟨rfl, s_pw hU hW hP hK hD hN⟩⟩ rfl rfl hl.1 rfl (lv_room (Nat.le_of_ble_eq_true rfl)) dX7_goesFair_96 ⟨Nat.zero_le _, Nat.zero_le _⟩) hS (fun q _ h => h) (fun q h => h) (fun F93 t H1 locs ht hvm hw hB hz1 hk1 hS => ?_)
            obtain ⟨hP, hK1⟩ := hB
            rw [ht] at hP
            generalize H1 = H at hP hS ⊢
            clear hz1 hk1 hvm hK1
            obtain ⟨h94, h96, hI, hfr1, hzf, h95⟩ := hw
            have o97 : F93 (A 13) = .inl (cs 0, 400, .inl f1) := (hfr1 _ (by rw [(y_k13 hA)]; decide)).trans o88
            have oY98 : F93 a0 = .inr (7, y_fl A z0 q0) := (hfr1 _ (by rw [ha0]; decide)).trans oY90
            have hfr : ∀ b, K b ∉ [70] → F93 b = F b := fun b hb9 => (hfr1 b (fun q => hb9 (s_sub (by decide) q))).trans (hfr b hb9)
            obtain ⟨f99, o100, b101⟩ := y_op20 hI
            have h95 : (y_W0 f99 x1.toInt ∧ y_Wf (y_c f1 387).toInt f99 x1.toInt ∧ y_fw x1.toInt f58 f99 ∧ ∀ i, bt r73 i = false → bt (y_c f99 (107 + 6 * x1.toInt)) i = bt (y_c f58 (107 + 6 * x1.toInt)) i) := by have q9 := h95; rw [y_atE o100, y_atE o88, y_atE o89] at q9; exact q9
            exact K99 _ _ _ ⟨F93, _, r10, r73, rfl, lv_sub hl [1, 2, 3, 4, 5, 0] rfl, hP, hS, hI, hfr, (fun k hk => (y_fiZ oY98 (s_sub (by decide) hk)).trans (hz0 k hk)), ⟨by omega, by omega⟩, trivial, ⟨by omega, by omega⟩, ⟨by omega, by omega⟩, (by rw [y_atE o100]; exact h95.1), (by rw [y_atE o100]; exact h95.2.1), (by rw [y_atE o100]; exact (y_fw_t k67c h95.2.2.1)), (by omega)⟩
      · have c68 := (ax_eq (n := 13) (by decide)).mp c68
        exact W.vret hx hb hr (fun t ht hW => ⟨⟨F61, rfl, ⟨trivial, trivial, hI, hfr, fun k hk => (y_fiZ oY64 (s_sub (by decide) hk)).trans ((hz0 k hk).trans (y_fiZ oY0 (s_sub (by decide) hk)).symm), (by rw [y_atE o65, y_atE o2, y_atE o5]; exact ⟨k67a, k67b, k67c⟩)⟩, by rw [ht]; exact hP, va_K.moved hW.alike hK⟩, hS.F ht⟩) hS.2.2 dX7_goesFair_61
    · have c49 := (ax_eq (n := 0) (by decide)).mp c49
      have hne9 : ¬ w31.toInt = ii := fun q => by have q8 := y_bF h47 c49; rw [q, hbi] at q8; cases q8
      refine lv_iload hx hb dX7_goesFair_25 (lv_at hl 5 rfl) ?_
      refine lv_iconst (v := 1) hx hb dX7_goesFair_27 (by decide) ?_
      refine lv_iadd hx hb dX7_goesFair_28 ?_
      refine lv_topi (fun v102 ev102 => ?_)
      have qv102 : v102.toInt = w31.toInt + 1 := by rw [ev102]; exact th_add rfl (by decide) ⟨by omega, by omega⟩
      refine lv_bipush (v := 8) hx hb dX7_goesFair_29 (by decide) ?_
      refine lv_irem hx hb dX7_goesFair_31 (by decide) ?_
      refine lv_topi (fun v103 ev103 => ?_)
      have qv103 : v103.toInt = v102.toInt % 8 := by rw [ev103]; exact th_rem rfl (by decide) (by omega) (by decide)
      refine lv_istore (lv' := [(5, .int v103), (0, .ref a0), (1, .int x1), (2, .int x2), (3, .int x3), (4, .int r10)]) hx hb dX7_goesFair_32 hl (by decide) rfl (fun ls hl => ?_)
      have h104 : 0 ≤ v103.toInt ∧ v103.toInt ≤ 7 := ⟨by omega, by omega⟩
      refine lv_goto (tgt := 16) hx hb dX7_goesFair_34 (by decide) ?_
      exact ih16 _ _ _ _ (by omega) ⟨F37, _, v103, rfl, lv_sub hl [1, 2, 3, 4, 5, 0] rfl, hP, hS, hI, hfr, (fun k hk => (y_fiZ oY39 (s_sub (by decide) hk)).trans (hz0 k hk)), ⟨by omega, by omega⟩, ⟨by omega, by omega⟩, ⟨by omega, by omega⟩, ⟨by omega, by omega⟩, (by rw [y_atE o41]; exact h36), rfl⟩
  · intro g H locs hq
    obtain ⟨F113, ls, w7, w8, rfl, hl, hP, hS, hI, hfr, hz0, h105, h106, h107, h108, h109, h110, h111, h112⟩ := hq
    have o114 : F113 (A 13) = .inl (cs 0, 400, .inl f1) := (hfr _ (by rw [(y_k13 hA)]; decide)).trans o2
    have oY115 : F113 a0 = .inr (7, y_fl A z0 q0) := (hfr _ (by rw [ha0]; decide)).trans oY0
    have hz0 : ∀ k, k ∈ ([1, 2, 3, 4, 5, 6, 7, 8, 11, 15, 16, 19, 25, 26, 27, 31, 32] : List Nat) → z0 k = z0 k := fun _ _ => rfl
    obtain ⟨f116, o117, b118⟩ := y_op20 hI
    have h109 : y_W0 f116 x1.toInt := by have q9 := h109; rw [y_atE o117] at q9; exact q9
    have h110 : y_Wf (y_c f1 387).toInt f116 x1.toInt := by have q9 := h110; rw [y_atE o117] at q9; exact q9
    have h111 : y_fw x1.toInt f4 f116 := by have q9 := h111; rw [y_atE o117] at q9; exact q9
    refine lv_iload_n hx hb dX7_goesFair_99 rfl (lv_at hl 3 rfl) ?_
    refine lv_iload hx hb dX7_goesFair_100 (lv_at hl 5 rfl) ?_
    refine lv_iconst (v := (-1)) hx hb dX7_goesFair_102 (by decide) ?_
    refine lv_ixor hx hb dX7_goesFair_103 ?_
    refine lv_topi (fun v119 ev119 => ?_)
    refine lv_iand hx hb dX7_goesFair_104 ?_
    refine lv_topi (fun v120 ev120 => ?_)
    refine lv_if_eq (tgt := 136) hx hb dX7_goesFair_105 (by decide) (fun c121 => ?_) (fun c121 => ?_)
    · have c121 := (ax_eq (n := 0) (by decide)).mp c121
      exact W.vret hx hb hr (fun t ht hW => ⟨⟨F113, rfl, ⟨trivial, trivial, hI, hfr, fun k hk => (y_fiZ oY115 (s_sub (by decide) hk)).trans ((hz0 k hk).trans (y_fiZ oY0 (s_sub (by decide) hk)).symm), (by rw [y_atE o117, y_atE o2, y_atE o5]; exact ⟨h109, h110, h111⟩)⟩, by rw [ht]; exact hP, va_K.moved hW.alike hK⟩, hS.F ht⟩) hS.2.2 dX7_goesFair_136
    · have c121 := mt (ax_eq (n := 0) (by decide)).mpr c121
      refine lv_aload_n hx hb dX7_goesFair_108 rfl (lv_at hl 0 rfl) ?_
      refine lv_iload_n hx hb dX7_goesFair_109 rfl (lv_at hl 1 rfl) ?_
      refine lv_iload_n hx hb dX7_goesFair_110 rfl (lv_at hl 3 rfl) ?_
      refine lv_iload hx hb dX7_goesFair_111 (lv_at hl 5 rfl) ?_
      refine lv_iconst (v := (-1)) hx hb dX7_goesFair_113 (by decide) ?_
      refine lv_ixor hx hb dX7_goesFair_114 ?_
      refine lv_topi (fun v122 ev122 => ?_)
      refine lv_iand hx hb dX7_goesFair_115 ?_
      refine lv_topi (fun v123 ev123 => ?_)
      refine lv_iload hx hb dX7_goesFair_116 (lv_at hl 4 rfl) ?_
      refine lv_bipush (v := 15) hx hb dX7_goesFair_118 (by decide) ?_
      refine lv_icmp_ne (tgt := 130) hx hb dX7_goesFair_120 (by decide) (fun c124 => ?_) (fun c124 => ?_)
      · have c124 := mt (ax_eq (n := 15) (by decide)).mpr c124
        refine lv_iload_n hx hb dX7_goesFair_130 rfl (lv_at hl 2 rfl) ?_
        refine lv_iconst (v := 1) hx hb dX7_goesFair_131 (by decide) ?_
        refine lv_iadd hx hb dX7_goesFair_132 ?_
        refine lv_topi (fun v125 ev125 => ?_)
        have qv125 : v125.toInt = x2.toInt + 1 := by rw [ev125]; exact th_add rfl (by decide) ⟨by omega, by omega⟩
        refine va_callv (va_runV (As := [.int x1, .int v123, .int v125]) (rest := []) ⟨hx, hb, hml, hown, hts⟩ (y_X7_nexts l dC dI H.size hLK A hA F113 a0 x1 v123 v125 ha0 (⟨by omega, by omega⟩) hI (by rw [y_atE o114]; exact hPG.1) (by rw [y_atE o117]; exact h109) (by rw [y_atE o114, y_atE o117]; exact h110) (by rw [y_atE o117]; exact (congrArg Int32.toInt (y_fw3 (by omega) h111)).trans hm1) (by rw [y_atE o114]; exact ⟨by omega, by omega⟩)) (cwV 3 hts (ax_gV T_1171 T_1173 T_1174 T_265 T_1172) rfl rfl rfl (by decide +kernel) ⟨Nat.le_of_ble_eq_true rfl, Nat.le_of_ble_eq_true rfl⟩) ⟨fun a U g mk q => ⟨q.1, s_pc rfl rfl q.2⟩, s_recv hK hP (hLK _ ha0 (by decide)) (ci := 7) rfl oY115, fun U hU hW => ⟨rfl, s_pw hU hW hP hK hD hN⟩⟩ rfl rfl hl.1 rfl (lv_room (Nat.le_of_ble_eq_true rfl)) dX7_goesFair_133 ⟨Nat.zero_le _, Nat.zero_le _⟩) hS (fun q _ h => h) (fun q h => h) (fun F127 t H1 locs ht hvm hw hB hz1 hk1 hS => ?_)
        obtain ⟨hP, hK1⟩ := hB
        rw [ht] at hP
        generalize H1 = H at hP hS ⊢
        clear hz1 hk1 hvm hK1
        obtain ⟨h128, h130, hI, hfr1, hzf, h129⟩ := hw
        have o131 : F127 (A 13) = .inl (cs 0, 400, .inl f1) := (hfr1 _ (by rw [(y_k13 hA)]; decide)).trans o114
        have oY132 : F127 a0 = .inr (7, y_fl A z0 q0) := (hfr1 _ (by rw [ha0]; decide)).trans oY115
        have hfr : ∀ b, K b ∉ [70] → F127 b = F b := fun b hb9 => (hfr1 b (fun q => hb9 (s_sub (by decide) q))).trans (hfr b hb9)
        obtain ⟨f133, o134, b135⟩ := y_op20 hI
        have h129 : (y_W0 f133 x1.toInt ∧ y_Wf (y_c f1 387).toInt f133 x1.toInt ∧ y_fw x1.toInt f116 f133 ∧ ∀ i, bt v123 i = false → bt (y_c f133 (107 + 6 * x1.toInt)) i = bt (y_c f116 (107 + 6 * x1.toInt)) i) := by have q9 := h129; rw [y_atE o134, y_atE o114, y_atE o117] at q9; exact q9
        exact W.vret hx hb hr (fun t ht hW => ⟨⟨F127, rfl, ⟨trivial, trivial, hI, hfr, fun k hk => (y_fiZ oY132 (s_sub (by decide) hk)).trans ((hz0 k hk).trans (y_fiZ oY0 (s_sub (by decide) hk)).symm), (by rw [y_atE o134, y_atE o2, y_atE o5]; exact ⟨h129.1, h129.2.1, (y_fw_t h111 h129.2.2.1)⟩)⟩, by rw [ht]; exact hP, va_K.moved hW.alike hK⟩, hS.F ht⟩) hS.2.2 dX7_goesFair_136
      · have c124 := (ax_eq (n := 15) (by decide)).mp c124
        refine lv_aload_n hx hb dX7_goesFair_123 rfl (lv_at hl 0 rfl) ?_
        refine va_calli (va_runV (As := []) (rest := [.int v123, .int x1, .ref a0]) ⟨hx, hb, hml, hown, hts⟩ (y_X7_lines l dC dI H.size hLK A hA F113 a0 ha0 hI) (cwV 0 hts (ax_gV T_1030 T_1032 T_1033 T_265 T_1031) rfl rfl rfl (by decide +kernel) ⟨Nat.le_of_ble_eq_true rfl, Nat.le_of_ble_eq_true rfl⟩) ⟨fun a U g mk q => ⟨q.1, s_pc rfl rfl q.2⟩, s_recv hK hP (hLK _ ha0 (by decide)) (ci := 7) rfl oY115, fun U hU hW => ⟨rfl, s_pw hU hW hP hK hD hN⟩⟩ rfl rfl hl.1 rfl (lv_room (Nat.le_of_ble_eq_true rfl)) dX7_goesFair_124 ⟨Nat.zero_le _, Nat.zero_le _⟩) hS (fun q _ h => h) (fun q h => h) (fun r137 F138 t H1 locs ht hvm hw hB hz1 hk1 hS => ?_)
        obtain ⟨hP, hK1⟩ := hB
        rw [ht] at hP
        generalize H1 = H at hP hS ⊢
        clear hz1 hk1 hvm hK1
        obtain ⟨h139, h141, hI, hfr1, hzf, h140⟩ := hw
        have o142 : F138 (A 13) = .inl (cs 0, 400, .inl f1) := (hfr1 _ (by rw [(y_k13 hA)]; decide)).trans o114
        have o143 : F138 (A 20) = .inl (cs 0, 918, .inl f116) := (hfr1 _ (by rw [(y_k20 hA)]; decide)).trans o117
        have oY144 : F138 a0 = .inr (7, y_fl A z0 q0) := (hfr1 _ (by rw [ha0]; decide)).trans oY115
        have hfr : ∀ b, K b ∉ [70] → F138 b = F b := fun b hb9 => (hfr1 b (fun q => hb9 (s_sub (by decide) q))).trans (hfr b hb9)
        have h140 : (r137 = y_c f1 387) := by have q9 := h140; rw [y_atE o114] at q9; exact q9
        have h145 := congrArg Int32.toInt h140
        have h146 : 1 ≤ r137.toInt ∧ r137.toInt ≤ 40 := ⟨by omega, by omega⟩
        refine lv_goto (tgt := 133) hx hb dX7_goesFair_127 (by decide) ?_
        refine va_callv (va_runV (As := [.int x1, .int v123, .int r137]) (rest := []) ⟨hx, hb, hml, hown, hts⟩ (y_X7_nexts l dC dI H.size hLK A hA F138 a0 x1 v123 r137 ha0 (⟨by omega, by omega⟩) hI (by rw [y_atE o142]; exact hPG.1) (by rw [y_atE o143]; exact h109) (by rw [y_atE o142, y_atE o143]; exact h110) (by rw [y_atE o143]; exact (congrArg Int32.toInt (y_fw3 (by omega) h111)).trans hm1) (by rw [y_atE o142]; exact ⟨by omega, by omega⟩)) (cwV 3 hts (ax_gV T_1171 T_1173 T_1174 T_265 T_1172) rfl rfl rfl (by decide +kernel) ⟨Nat.le_of_ble_eq_true rfl, Nat.le_of_ble_eq_true rfl⟩) ⟨fun a U g mk q => ⟨q.1, s_pc rfl rfl q.2⟩, s_recv hK hP (hLK _ ha0 (by decide)) (ci := 7) rfl oY144, fun U hU hW => ⟨rfl, s_pw hU hW hP hK hD hN⟩⟩ rfl rfl hl.1 rfl (lv_room (Nat.le_of_ble_eq_true rfl)) dX7_goesFair_133 ⟨Nat.zero_le _, Nat.zero_le _⟩) hS (fun q _ h => h) (fun q h => h) (fun F148 t H1 locs ht hvm hw hB hz1 hk1 hS => ?_)
        obtain ⟨hP, hK1⟩ := hB
        rw [ht] at hP
        generalize H1 = H at hP hS ⊢
        clear hz1 hk1 hvm hK1
        obtain ⟨h149, h151, hI, hfr1, hzf, h150⟩ := hw
        have o152 : F148 (A 13) = .inl (cs 0, 400, .inl f1) := (hfr1 _ (by rw [(y_k13 hA)]; decide)).trans o142
        have oY153 : F148 a0 = .inr (7, y_fl A z0 q0) := (hfr1 _ (by rw [ha0]; decide)).trans oY144
        have hfr : ∀ b, K b ∉ [70] → F148 b = F b := fun b hb9 => (hfr1 b (fun q => hb9 (s_sub (by decide) q))).trans (hfr b hb9)
        obtain ⟨f154, o155, b156⟩ := y_op20 hI
        have h150 : (y_W0 f154 x1.toInt ∧ y_Wf (y_c f1 387).toInt f154 x1.toInt ∧ y_fw x1.toInt f116 f154 ∧ ∀ i, bt v123 i = false → bt (y_c f154 (107 + 6 * x1.toInt)) i = bt (y_c f116 (107 + 6 * x1.toInt)) i) := by have q9 := h150; rw [y_atE o155, y_atE o142, y_atE o143] at q9; exact q9
        exact W.vret hx hb hr (fun t ht hW => ⟨⟨F148, rfl, ⟨trivial, trivial, hI, hfr, fun k hk => (y_fiZ oY153 (s_sub (by decide) hk)).trans ((hz0 k hk).trans (y_fiZ oY0 (s_sub (by decide) hk)).symm), (by rw [y_atE o155, y_atE o2, y_atE o5]; exact ⟨h150.1, h150.2.1, (y_fw_t h111 h150.2.2.1)⟩)⟩, by rw [ht]; exact hP, va_K.moved hW.alike hK⟩, hS.F ht⟩) hS.2.2 dX7_goesFair_136

set_option maxHeartbeats 4000000 in
set_option maxRecDepth 100000 in
theorem yt_X7_keepsLine (l : Launch) (dC : Nat → ClassId) (dI : Nat → Nat → Nat) (sz : Nat) {L : List Nat} {K : Nat → Nat} {cs : Nat → ClassId} (hLK : ∀ a {k : Nat}, K a = k → k ≠ 0 → a ∈ L) (A : Nat → Nat) (hA : y_A K A) (F : Nat → va_E) (a0 : Nat) (x1 : Int32) (x2 : Int32) (x3 : Int32) (x4 : Int32) (ha0 : K a0 = 9) (hx1 : 0 ≤ x1.toInt ∧ x1.toInt ≤ 3) (hI : y_I K cs A F) (hk7 : (0 ≤ (y_c (y_at F (A 20)) 7).toInt ∧ (y_c (y_at F (A 20)) 7).toInt ≤ 30)) : Met l yX7_keepsLine (Cond.code yX7_keepsLine cX7_keepsLine 6 none :: T0) ({ frames := 0, cells := 0, slots := 0, locals := 0 }) (va_Pc [.ref a0, .int x1, .int x2, .int x3, .int x4] (s_W dC dI sz L F [(cs 0, .int), (cs 1, .byte), (cs 2, .long), (cs 3, .object RX5), (cs 4, .object RX4), (cs 5, .array .int), (cs 6, .char), (cs 7, .boolean)])) (va_Qv (fun (G : Nat → va_E) => True ∧ True ∧ y_I K cs A G ∧ (∀ b, K b ∉ [70] → G b = F b) ∧ (∀ k, k ∈ ([1, 2, 3, 4, 5, 6, 7, 8, 11, 15, 16, 19, 25, 26, 27, 31, 32] : List Nat) → y_fi G a0 k = y_fi F a0 k) ∧ (y_K7 (y_at F (A 20)) (y_at G (A 20)) ∧ (0 ≤ (y_c (y_at G (A 20)) 7).toInt ∧ (y_c (y_at G (A 20)) 7).toInt ≤ 30))) (fun (G : Nat → va_E) (t : State) => va_P (dC, dI) vwCl (va_pl L G) t.heap ∧ va_K (dC, dI) vwCl [(cs 0, .int), (cs 1, .byte), (cs 2, .long), (cs 3, .object RX5), (cs 4, .object RX4), (cs 5, .array .int), (cs 6, .char), (cs 7, .boolean)] t) (fun q => q ∈ L)) 0 0 (fun q => q ∈ L) := by
  refine Met.ofW (cc := cX7_keepsLine) (maxL := 6) (ret := none) (by decide) rfl ?_
  intro p e s m args below meth c s₁ B hml hv
  obtain ⟨rfl, hsz, hP, hK, hD, hN⟩ := hv
  have hx := B.exec
  have hb := B.bytes
  have hr := B.returns
  have hts : ∀ w ∈ T0, w.before _ s = true := fun w h => atoms_spec (ws := Cond.code yX7_keepsLine cX7_keepsLine 6 none :: T0) B.pre w (List.mem_cons_of_mem _ h)
  have hown : s.vm.findClass RX7 = some m.cls := findClass_of_methodNamed B.named
  have hlocks := B.notSynchronized
  have hS : va_S (fun q => q ∈ L) s.heap s.heap [] := va_S.rf
  have hfr : ∀ b, K b ∉ [70] → F b = F b := fun _ _ => rfl
  have hl := lv_entry ([.ref a0, .int x1, .int x2, .int x3, .int x4]) (n := 6) (Nat.le_of_ble_eq_true rfl)
  rw [lg_entry_eq]
  generalize (lg_sl ([.ref a0, .int x1, .int x2, .int x3, .int x4]) ++ List.replicate (6 - (lg_sl ([.ref a0, .int x1, .int x2, .int x3, .int x4])).length) Slot.unset).toArray = ls at hl ⊢
  have hl : lv_has ls 6 [(0, .ref a0), (1, .int x1), (2, .int x2), (3, .int x3), (4, .int x4)] := hl
  refine s_gen hP hS (fun H locs hP hS => ?_)
  obtain ⟨z0, q0, oY0, bz0, bq0⟩ := y_opY hI ha0
  have hz0 : ∀ k, k ∈ ([1, 2, 3, 4, 5, 6, 7, 8, 11, 15, 16, 19, 25, 26, 27, 31, 32] : List Nat) → z0 k = z0 k := fun _ _ => rfl
  obtain ⟨f1, o2, b3⟩ := y_op20 hI
  have hk7 : (0 ≤ (y_c f1 7).toInt ∧ (y_c f1 7).toInt ≤ 30) := by have q9 := hk7; rw [y_atE o2] at q9; exact q9
  refine th_join (fun g H locs => ∃ (G : Nat → va_E) (ls : Array Slot), g = F0 m 61 ls [] ∧ lv_has ls 6 [(0, .ref a0), (1, .int x1), (2, .int x2), (3, .int x3), (4, .int x4)] ∧ va_P (dC, dI) vwCl (va_pl L G) H ∧ va_S (fun q => q ∈ L) s.heap H locs ∧ y_I K cs A G ∧ (∀ b, K b ∉ [70] → G b = F b) ∧ (∀ k, k ∈ ([1, 2, 3, 4, 5, 6, 7, 8, 11, 15, 16, 19, 25, 26, 27, 31, 32] : List Nat) → y_fi G a0 k = z0 k) ∧ (0 ≤ x1.toInt ∧ x1.toInt ≤ 3) ∧ (y_K7 f1 (y_at G (A 20))) ∧ (1 ≤ (y_c (y_at G (A 20)) 7).toInt ∧ (y_c (y_at G (A 20)) 7).toInt ≤ 30)) (fun K61 => ?_) ?_
  · refine lv_aload_n hx hb dX7_keepsLine_0 rfl (lv_at hl 0 rfl) ?_
    refine th_get (D := (dC, dI)) (ci := 7) (v := .ref (A 20)) (C := RX7) (T := TX7) (N := 34) hx hb hts inX7 hown hK hP (hLK _ ha0 (by decide)) oY0 rfl 20 (by decide) (hts _ T_251) (fun _ h9 => h9) rfl dX7_keepsLine_1 ?_
    refine lv_bipush (v := 7) hx hb dX7_keepsLine_4 (by decide) ?_
    refine th_iald hx hb hK hP (hLK _ (y_k20 hA) (by decide)) 0 o2 rfl (ax_in (by decide)) dX7_keepsLine_6 ?_
    refine lv_topi (fun v4 ev4 => ?_)
    have Ev4 : v4 = y_c f1 (7) := ev4.trans (y_ci (by decide))
    have tEv4 := congrArg Int32.toInt Ev4
    have h5 : 0 ≤ v4.toInt ∧ v4.toInt ≤ 30 := by have q9 : v4.toInt = (y_c f1 7).toInt := congrArg Int32.toInt (ev4.trans (y_ci (by decide))); omega
    refine lv_bipush (v := 30) hx hb dX7_keepsLine_7 (by decide) ?_
    refine lv_icmp_ne (tgt := 50) hx hb dX7_keepsLine_9 (by decide) (fun c6 => ?_) (fun c6 => ?_)
    · have c6 := mt (ax_eq (n := 30) (by decide)).mpr c6
      refine lv_aload_n hx hb dX7_keepsLine_50 rfl (lv_at hl 0 rfl) ?_
      refine th_get (D := (dC, dI)) (ci := 7) (v := .ref (A 20)) (C := RX7) (T := TX7) (N := 34) hx hb hts inX7 hown hK hP (hLK _ ha0 (by decide)) oY0 rfl 20 (by decide) (hts _ T_251) (fun _ h9 => h9) rfl dX7_keepsLine_51 ?_
      refine lv_bipush (v := 7) hx hb dX7_keepsLine_54 (by decide) ?_
      refine lv_dup2_11 hx hb dX7_keepsLine_56 rfl rfl ?_
      refine th_iald hx hb hK hP (hLK _ (y_k20 hA) (by decide)) 0 o2 rfl (ax_in (by decide)) dX7_keepsLine_57 ?_
      refine lv_topi (fun v7 ev7 => ?_)
      have Ev7 : v7 = y_c f1 (7) := ev7.trans (y_ci (by decide))
      have tEv7 := congrArg Int32.toInt Ev7
      have h8 : 0 ≤ v7.toInt ∧ v7.toInt ≤ 30 := by have q9 : v7.toInt = (y_c f1 7).toInt := congrArg Int32.toInt (ev7.trans (y_ci (by decide))); omega
      refine lv_iconst (v := 1) hx hb dX7_keepsLine_58 (by decide) ?_
      refine lv_iadd hx hb dX7_keepsLine_59 ?_
      refine lv_topi (fun v9 ev9 => ?_)
      have qv9 : v9.toInt = v7.toInt + 1 := by rw [ev9]; exact th_add rfl (by decide) ⟨by omega, by omega⟩
      refine th_iast hx hb hK hP hD hS (hLK _ (y_k20 hA) (by decide)) 0 o2 rfl (ax_in (by decide)) dX7_keepsLine_60 (fun H locs hP hS => ?_)
      obtain ⟨f10, u11⟩ : ∃ g : Nat → Int32, g = upd f1 (7 : Int32).toNatClampNeg v9 := ⟨_, rfl⟩
      rw [← u11] at hP
      have b12 : y_bd 20 f10 := trivial
      have hP : va_P (dC, dI) vwCl (va_pl L (va_up F (A 20) (.inl (cs 0, 918, .inl f10)))) H := hP
      obtain ⟨F13, hF14⟩ : ∃ G : Nat → va_E, G = va_up F (A 20) (.inl (cs 0, 918, .inl f10)) := ⟨_, rfl⟩
      rw [← hF14] at hP
      have hI : y_I K cs A F13 := by rw [hF14]; exact y_clA (i := 20) hA hI (by decide) b12
      have hfr : ∀ b, K b ∉ [70] → F13 b = F b := by rw [hF14]; exact s_fr hfr (y_k20 hA) (by decide)
      have oY15 : F13 a0 = .inr (7, y_fl A z0 q0) := by rw [hF14]; exact th_ne (th_kd ha0 (y_k20 hA) (by decide)) oY0
      have o16 : F13 (A 20) = .inl (cs 0, 918, .inl f10) := by rw [hF14]; exact th_up
      have u17 : ∀ j : Int, 0 ≤ j → y_c f10 j = if j = 7 then v9 else y_c f1 j := by rw [u11]; exact y_cu (by decide) (by decide)
      have h18 : (y_c f10 7).toInt = v9.toInt := by rw [u17 7 (by omega), if_pos (by omega)]
      exact K61 _ _ _ ⟨F13, _, rfl, lv_sub hl [0, 1, 2, 3, 4] rfl, hP, hS, hI, hfr, (fun k hk => (y_fiZ oY15 (s_sub (by decide) hk)).trans (hz0 k hk)), ⟨by omega, by omega⟩, (by rw [y_atE o16]; exact (y_K7_t (y_K7_r _) (y_K7_u u17 (by omega)))), (by first | (rw [y_atE o16]; omega) | rw [y_atE o16])⟩
    · have c6 := (ax_eq (n := 30) (by decide)).mp c6
      refine lv_sipush (v := 768) hx hb dX7_keepsLine_12 (by decide) ?_
      refine lv_istore (lv' := [(5, .int 768), (0, .ref a0), (1, .int x1), (2, .int x2), (3, .int x3), (4, .int x4)]) hx hb dX7_keepsLine_15 hl (by decide) rfl (fun ls hl => ?_)
      have h20 : (768 : Int32).toInt = 768 := by decide
      refine th_loop (fun n g H locs => ∃ (G : Nat → va_E) (ls : Array Slot) (w19 : Int32), g = F0 m 17 ls [] ∧ lv_has ls 6 [(0, .ref a0), (1, .int x1), (2, .int x2), (3, .int x3), (4, .int x4), (5, .int w19)] ∧ va_P (dC, dI) vwCl (va_pl L G) H ∧ va_S (fun q => q ∈ L) s.heap H locs ∧ y_I K cs A G ∧ (∀ b, K b ∉ [70] → G b = F b) ∧ (∀ k, k ∈ ([1, 2, 3, 4, 5, 6, 7, 8, 11, 15, 16, 19, 25, 26, 27, 31, 32] : List Nat) → y_fi G a0 k = z0 k) ∧ (768 ≤ w19.toInt ∧ w19.toInt ≤ 913) ∧ (0 ≤ x1.toInt ∧ x1.toInt ≤ 3) ∧ (y_K7 f1 (y_at G (A 20))) ∧ ((y_c (y_at G (A 20)) 7).toInt = 30) ∧ n = (914 - w19.toInt).toNat) _ ⟨F, _, 768, rfl, lv_sub hl [1, 2, 3, 4, 5, 0] rfl, hP, hS, hI, hfr, (fun k hk => (y_fiZ oY0 (s_sub (by decide) hk)).trans (hz0 k hk)), (by decide), ⟨by omega, by omega⟩, (by rw [y_atE o2]; exact (y_K7_r _)), (by first | (rw [y_atE o2]; omega) | rw [y_atE o2]), rfl⟩ (fun n ih17 g H locs hq => ?_)
      obtain ⟨F25, ls, w19, rfl, hl, hP, hS, hI, hfr, hz0, h21, h22, h23, h24, hn⟩ := hq
      have oY26 : F25 a0 = .inr (7, y_fl A z0 q0) := (hfr _ (by rw [ha0]; decide)).trans oY0
      have hz0 : ∀ k, k ∈ ([1, 2, 3, 4, 5, 6, 7, 8, 11, 15, 16, 19, 25, 26, 27, 31, 32] : List Nat) → z0 k = z0 k := fun _ _ => rfl
      obtain ⟨f27, o28, b29⟩ := y_op20 hI
      have h23 : (y_K7 f1 f27) := by have q9 := h23; rw [y_atE o28] at q9; exact q9
      have h24 : ((y_c f27 7).toInt = 30) := by have q9 := h24; rw [y_atE o28] at q9; exact q9
      have hn_29 := hn
      refine lv_iload hx hb dX7_keepsLine_17 (lv_at hl 5 rfl) ?_
      refine lv_sipush (v := 913) hx hb dX7_keepsLine_19 (by decide) ?_
      refine lv_icmp_ge (tgt := 47) hx hb dX7_keepsLine_22 (by decide) (fun c30 => ?_) (fun c30 => ?_)
      · have c30 := (ax_ge (n := 913) (by decide)).mp c30
        refine lv_goto (tgt := 61) hx hb dX7_keepsLine_47 (by decide) ?_
        exact K61 _ _ _ ⟨F25, _, rfl, lv_sub hl [0, 1, 2, 3, 4] rfl, hP, hS, hI, hfr, (fun k hk => (y_fiZ oY26 (s_sub (by decide) hk)).trans (hz0 k hk)), ⟨by omega, by omega⟩, (by rw [y_atE o28]; exact h23), (by first | (rw [y_atE o28]; omega) | rw [y_atE o28])⟩
      · have c30 := mt (ax_ge (n := 913) (by decide)).mpr c30
        refine lv_aload_n hx hb dX7_keepsLine_25 rfl (lv_at hl 0 rfl) ?_
        refine th_get (D := (dC, dI)) (ci := 7) (v := .ref (A 20)) (C := RX7) (T := TX7) (N := 34) hx hb hts inX7 hown hK hP (hLK _ ha0 (by decide)) oY26 rfl 20 (by decide) (hts _ T_251) (fun _ h9 => h9) rfl dX7_keepsLine_26 ?_
        refine lv_iload hx hb dX7_keepsLine_29 (lv_at hl 5 rfl) ?_
        refine lv_aload_n hx hb dX7_keepsLine_31 rfl (lv_at hl 0 rfl) ?_
        refine th_get (D := (dC, dI)) (ci := 7) (v := .ref (A 20)) (C := RX7) (T := TX7) (N := 34) hx hb hts inX7 hown hK hP (hLK _ ha0 (by decide)) oY26 rfl 20 (by decide) (hts _ T_251) (fun _ h9 => h9) rfl dX7_keepsLine_32 ?_
        refine lv_iload hx hb dX7_keepsLine_35 (lv_at hl 5 rfl) ?_
        refine lv_iconst (v := 5) hx hb dX7_keepsLine_37 (by decide) ?_
        refine lv_iadd hx hb dX7_keepsLine_38 ?_
        refine lv_topi (fun v31 ev31 => ?_)
        have qv31 : v31.toInt = w19.toInt + 5 := by rw [ev31]; exact th_add rfl (by decide) ⟨by omega, by omega⟩
        refine th_iald hx hb hK hP (hLK _ (y_k20 hA) (by decide)) 0 o28 rfl (th_in ⟨by omega, by omega⟩) dX7_keepsLine_39 ?_
        refine lv_topi (fun v32 ev32 => ?_)
        refine th_iast hx hb hK hP hD hS (hLK _ (y_k20 hA) (by decide)) 0 o28 rfl (th_in ⟨by omega, by omega⟩) dX7_keepsLine_40 (fun H locs hP hS => ?_)
        obtain ⟨f33, u34⟩ : ∃ g : Nat → Int32, g = upd f27 (w19 : Int32).toNatClampNeg v32 := ⟨_, rfl⟩
        rw [← u34] at hP
        have b35 : y_bd 20 f33 := trivial
        have hP : va_P (dC, dI) vwCl (va_pl L (va_up F25 (A 20) (.inl (cs 0, 918, .inl f33)))) H := hP
        obtain ⟨F36, hF37⟩ : ∃ G : Nat → va_E, G = va_up F25 (A 20) (.inl (cs 0, 918, .inl f33)) := ⟨_, rfl⟩
        rw [← hF37] at hP
        have hI : y_I K cs A F36 := by rw [hF37]; exact y_clA (i := 20) hA hI (by decide) b35
        have hfr : ∀ b, K b ∉ [70] → F36 b = F b := by rw [hF37]; exact s_fr hfr (y_k20 hA) (by decide)
        have oY38 : F36 a0 = .inr (7, y_fl A z0 q0) := by rw [hF37]; exact th_ne (th_kd ha0 (y_k20 hA) (by decide)) oY26
        have o39 : F36 (A 20) = .inl (cs 0, 918, .inl f33) := by rw [hF37]; exact th_up
        have u40 : ∀ j : Int, 0 ≤ j → y_c f33 j = if j = w19.toInt then v32 else y_c f27 j := by rw [u34]; exact y_cu rfl (by omega)
        have h41 : (y_c f33 7).toInt = (y_c f27 7).toInt := by rw [u40 7 (by omega), if_neg (by omega)]
        obtain ⟨v42, ev42⟩ : ∃ y : Int32, w19 + 1 = y := ⟨_, rfl⟩
        have qv42 : v42.toInt = w19.toInt + 1 := by rw [← ev42]; exact th_add rfl (by decide) ⟨by omega, by omega⟩
        refine lv_iinc (v := v42) (lv' := [(5, .int v42), (0, .ref a0), (1, .int x1), (2, .int x2), (3, .int x3), (4, .int x4)]) hx hb dX7_keepsLine_41 hl (k := 5) rfl ev42 (by decide) rfl (fun ls hl => ?_)
        refine lv_goto (tgt := 17) hx hb dX7_keepsLine_44 (by decide) ?_
        exact ih17 _ _ _ _ (by omega) ⟨F36, _, v42, rfl, lv_sub hl [1, 2, 3, 4, 5, 0] rfl, hP, hS, hI, hfr, (fun k hk => (y_fiZ oY38 (s_sub (by decide) hk)).trans (hz0 k hk)), ⟨by omega, by omega⟩, ⟨by omega, by omega⟩, (by rw [y_atE o39]; exact (y_K7_t h23 (y_K7_u u40 (by omega)))), (by first | (rw [y_atE o39]; omega) | rw [y_atE o39]), rfl⟩
  · intro g H locs hq
    obtain ⟨F46, ls, rfl, hl, hP, hS, hI, hfr, hz0, h43, h44, h45⟩ := hq
    have oY47 : F46 a0 = .inr (7, y_fl A z0 q0) := (hfr _ (by rw [ha0]; decide)).trans oY0
    have hz0 : ∀ k, k ∈ ([1, 2, 3, 4, 5, 6, 7, 8, 11, 15, 16, 19, 25, 26, 27, 31, 32] : List Nat) → z0 k = z0 k := fun _ _ => rfl
    obtain ⟨f48, o49, b50⟩ := y_op20 hI
    have h44 : (y_K7 f1 f48) := by have q9 := h44; rw [y_atE o49] at q9; exact q9
    have h45 : (1 ≤ (y_c f48 7).toInt ∧ (y_c f48 7).toInt ≤ 30) := by have q9 := h45; rw [y_atE o49] at q9; exact q9
    refine lv_sipush (v := 768) hx hb dX7_keepsLine_61 (by decide) ?_
    refine lv_iconst (v := 5) hx hb dX7_keepsLine_64 (by decide) ?_
    refine lv_aload_n hx hb dX7_keepsLine_65 rfl (lv_at hl 0 rfl) ?_
    refine th_get (D := (dC, dI)) (ci := 7) (v := .ref (A 20)) (C := RX7) (T := TX7) (N := 34) hx hb hts inX7 hown hK hP (hLK _ ha0 (by decide)) oY47 rfl 20 (by decide) (hts _ T_251) (fun _ h9 => h9) rfl dX7_keepsLine_66 ?_
    refine lv_bipush (v := 7) hx hb dX7_keepsLine_69 (by decide) ?_
    refine th_iald hx hb hK hP (hLK _ (y_k20 hA) (by decide)) 0 o49 rfl (ax_in (by decide)) dX7_keepsLine_71 ?_
    refine lv_topi (fun v51 ev51 => ?_)
    have Ev51 : v51 = y_c f48 (7) := ev51.trans (y_ci (by decide))
    have tEv51 := congrArg Int32.toInt Ev51
    have h52 : 1 ≤ v51.toInt ∧ v51.toInt ≤ 30 := by have q9 : v51.toInt = (y_c f48 7).toInt := congrArg Int32.toInt (ev51.trans (y_ci (by decide))); omega
    refine lv_imul hx hb dX7_keepsLine_72 ?_
    refine lv_topi (fun v53 ev53 => ?_)
    have qv53 : v53.toInt = 5 * v51.toInt := by rw [ev53]; exact th_mul (by decide) rfl ⟨by omega, by omega⟩
    refine lv_iadd hx hb dX7_keepsLine_73 ?_
    refine lv_topi (fun v54 ev54 => ?_)
    have qv54 : v54.toInt = 768 + v53.toInt := by rw [ev54]; exact th_add (by decide) rfl ⟨by omega, by omega⟩
    refine lv_iconst (v := 5) hx hb dX7_keepsLine_74 (by decide) ?_
    refine lv_isub hx hb dX7_keepsLine_75 ?_
    refine lv_topi (fun v55 ev55 => ?_)
    have qv55 : v55.toInt = v54.toInt - 5 := by rw [ev55]; exact th_sub rfl (by decide) ⟨by omega, by omega⟩
    refine lv_istore (lv' := [(5, .int v55), (0, .ref a0), (1, .int x1), (2, .int x2), (3, .int x3), (4, .int x4)]) hx hb dX7_keepsLine_76 hl (by decide) rfl (fun ls hl => ?_)
    refine lv_aload_n hx hb dX7_keepsLine_78 rfl (lv_at hl 1 rfl) ?_
    refine th_get (D := (dC, dI)) (ci := 7) (v := .ref (A 20)) (C := RX7) (T := TX7) (N := 34) hx hb hts inX7 hown hK hP (hLK _ ha0 (by decide)) oY47 rfl 20 (by decide) (hts _ T_251) (fun _ h9 => h9) rfl dX7_keepsLine_79 ?_
    refine lv_iload hx hb dX7_keepsLine_82 (lv_at hl 0 rfl) ?_
    refine lv_aload_n hx hb dX7_keepsLine_84 rfl (lv_at hl 1 rfl) ?_
    refine th_get (D := (dC, dI)) (ci := 7) (v := .ref (A 20)) (C := RX7) (T := TX7) (N := 34) hx hb hts inX7 hown hK hP (hLK _ ha0 (by decide)) oY47 rfl 20 (by decide) (hts _ T_251) (fun _ h9 => h9) rfl dX7_keepsLine_85 ?_
    refine lv_iconst (v := 0) hx hb dX7_keepsLine_88 (by decide) ?_
    refine th_iald hx hb hK hP (hLK _ (y_k20 hA) (by decide)) 0 o49 rfl (ax_in (by decide)) dX7_keepsLine_89 ?_
    refine lv_topi (fun v56 ev56 => ?_)
    refine th_iast hx hb hK hP hD hS (hLK _ (y_k20 hA) (by decide)) 0 o49 rfl (th_in ⟨by omega, by omega⟩) dX7_keepsLine_90 (fun H locs hP hS => ?_)
    obtain ⟨f57, u58⟩ : ∃ g : Nat → Int32, g = upd f48 (v55 : Int32).toNatClampNeg v56 := ⟨_, rfl⟩
    rw [← u58] at hP
    have b59 : y_bd 20 f57 := trivial
    have hP : va_P (dC, dI) vwCl (va_pl L (va_up F46 (A 20) (.inl (cs 0, 918, .inl f57)))) H := hP
    obtain ⟨F60, hF61⟩ : ∃ G : Nat → va_E, G = va_up F46 (A 20) (.inl (cs 0, 918, .inl f57)) := ⟨_, rfl⟩
    rw [← hF61] at hP
    have hI : y_I K cs A F60 := by rw [hF61]; exact y_clA (i := 20) hA hI (by decide) b59
    have hfr : ∀ b, K b ∉ [70] → F60 b = F b := by rw [hF61]; exact s_fr hfr (y_k20 hA) (by decide)
    have oY62 : F60 a0 = .inr (7, y_fl A z0 q0) := by rw [hF61]; exact th_ne (th_kd ha0 (y_k20 hA) (by decide)) oY47
    have o63 : F60 (A 20) = .inl (cs 0, 918, .inl f57) := by rw [hF61]; exact th_up
    have u64 : ∀ j : Int, 0 ≤ j → y_c f57 j = if j = v55.toInt then v56 else y_c f48 j := by rw [u58]; exact y_cu rfl (by omega)
    have h65 : (y_c f57 7).toInt = (y_c f48 7).toInt := by rw [u64 7 (by omega), if_neg (by omega)]
    refine lv_aload_n hx hb dX7_keepsLine_91 rfl (lv_at hl 1 rfl) ?_
    refine th_get (D := (dC, dI)) (ci := 7) (v := .ref (A 20)) (C := RX7) (T := TX7) (N := 34) hx hb hts inX7 hown hK hP (hLK _ ha0 (by decide)) oY62 rfl 20 (by decide) (hts _ T_251) (fun _ h9 => h9) rfl dX7_keepsLine_92 ?_
    refine lv_iload hx hb dX7_keepsLine_95 (lv_at hl 0 rfl) ?_
    refine lv_iconst (v := 1) hx hb dX7_keepsLine_97 (by decide) ?_
    refine lv_iadd hx hb dX7_keepsLine_98 ?_
    refine lv_topi (fun v66 ev66 => ?_)
    have qv66 : v66.toInt = v55.toInt + 1 := by rw [ev66]; exact th_add rfl (by decide) ⟨by omega, by omega⟩
    refine lv_iload_n hx hb dX7_keepsLine_99 rfl (lv_at hl 2 rfl) ?_
    refine th_iast hx hb hK hP hD hS (hLK _ (y_k20 hA) (by decide)) 0 o63 rfl (th_in ⟨by omega, by omega⟩) dX7_keepsLine_100 (fun H locs hP hS => ?_)
    obtain ⟨f67, u68⟩ : ∃ g : Nat → Int32, g = upd f57 (v66 : Int32).toNatClampNeg x1 := ⟨_, rfl⟩
    rw [← u68] at hP
    have b69 : y_bd 20 f67 := trivial
    have hP : va_P (dC, dI) vwCl (va_pl L (va_up F60 (A 20) (.inl (cs 0, 918, .inl f67)))) H := hP
    obtain ⟨F70, hF71⟩ : ∃ G : Nat → va_E, G = va_up F60 (A 20) (.inl (cs 0, 918, .inl f67)) := ⟨_, rfl⟩
    rw [← hF71] at hP
    have hI : y_I K cs A F70 := by rw [hF71]; exact y_clA (i := 20) hA hI (by decide) b69
    have hfr : ∀ b, K b ∉ [70] → F70 b = F b := by rw [hF71]; exact s_fr hfr (y_k20 hA) (by decide)
    have oY72 : F70 a0 = .inr (7, y_fl A z0 q0) := by rw [hF71]; exact th_ne (th_kd ha0 (y_k20 hA) (by decide)) oY62
    have o73 : F70 (A 20) = .inl (cs 0, 918, .inl f67) := by rw [hF71]; exact th_up
    have u74 : ∀ j : Int, 0 ≤ j → y_c f67 j = if j = v66.toInt then x1 else y_c f57 j := by rw [u68]; exact y_cu rfl (by omega)
    have h75 : (y_c f67 7).toInt = (y_c f57 7).toInt := by rw [u74 7 (by omega), if_neg (by omega)]
    refine lv_aload_n hx hb dX7_keepsLine_101 rfl (lv_at hl 1 rfl) ?_
    refine th_get (D := (dC, dI)) (ci := 7) (v := .ref (A 20)) (C := RX7) (T := TX7) (N := 34) hx hb hts inX7 hown hK hP (hLK _ ha0 (by decide)) oY72 rfl 20 (by decide) (hts _ T_251) (fun _ h9 => h9) rfl dX7_keepsLine_102 ?_
    refine lv_iload hx hb dX7_keepsLine_105 (lv_at hl 0 rfl) ?_
    refine lv_iconst (v := 2) hx hb dX7_keepsLine_107 (by decide) ?_
    refine lv_iadd hx hb dX7_keepsLine_108 ?_
    refine lv_topi (fun v76 ev76 => ?_)
    have qv76 : v76.toInt = v55.toInt + 2 := by rw [ev76]; exact th_add rfl (by decide) ⟨by omega, by omega⟩
    refine lv_iload_n hx hb dX7_keepsLine_109 rfl (lv_at hl 3 rfl) ?_
    refine th_iast hx hb hK hP hD hS (hLK _ (y_k20 hA) (by decide)) 0 o73 rfl (th_in ⟨by omega, by omega⟩) dX7_keepsLine_110 (fun H locs hP hS => ?_)
    obtain ⟨f77, u78⟩ : ∃ g : Nat → Int32, g = upd f67 (v76 : Int32).toNatClampNeg x2 := ⟨_, rfl⟩
    rw [← u78] at hP
    have b79 : y_bd 20 f77 := trivial
    have hP : va_P (dC, dI) vwCl (va_pl L (va_up F70 (A 20) (.inl (cs 0, 918, .inl f77)))) H := hP
    obtain ⟨F80, hF81⟩ : ∃ G : Nat → va_E, G = va_up F70 (A 20) (.inl (cs 0, 918, .inl f77)) := ⟨_, rfl⟩
    rw [← hF81] at hP
    have hI : y_I K cs A F80 := by rw [hF81]; exact y_clA (i := 20) hA hI (by decide) b79
    have hfr : ∀ b, K b ∉ [70] → F80 b = F b := by rw [hF81]; exact s_fr hfr (y_k20 hA) (by decide)
    have oY82 : F80 a0 = .inr (7, y_fl A z0 q0) := by rw [hF81]; exact th_ne (th_kd ha0 (y_k20 hA) (by decide)) oY72
    have o83 : F80 (A 20) = .inl (cs 0, 918, .inl f77) := by rw [hF81]; exact th_up
    have u84 : ∀ j : Int, 0 ≤ j → y_c f77 j = if j = v76.toInt then x2 else y_c f67 j := by rw [u78]; exact y_cu rfl (by omega)
    have h85 : (y_c f77 7).toInt = (y_c f67 7).toInt := by rw [u84 7 (by omega), if_neg (by omega)]
    refine lv_aload_n hx hb dX7_keepsLine_111 rfl (lv_at hl 1 rfl) ?_
    refine th_get (D := (dC, dI)) (ci := 7) (v := .ref (A 20)) (C := RX7) (T := TX7) (N := 34) hx hb hts inX7 hown hK hP (hLK _ ha0 (by decide)) oY82 rfl 20 (by decide) (hts _ T_251) (fun _ h9 => h9) rfl dX7_keepsLine_112 ?_
    refine lv_iload hx hb dX7_keepsLine_115 (lv_at hl 0 rfl) ?_
    refine lv_iconst (v := 3) hx hb dX7_keepsLine_117 (by decide) ?_
    refine lv_iadd hx hb dX7_keepsLine_118 ?_
    refine lv_topi (fun v86 ev86 => ?_)
    have qv86 : v86.toInt = v55.toInt + 3 := by rw [ev86]; exact th_add rfl (by decide) ⟨by omega, by omega⟩
    refine lv_iload_n hx hb dX7_keepsLine_119 rfl (lv_at hl 4 rfl) ?_
    refine th_iast hx hb hK hP hD hS (hLK _ (y_k20 hA) (by decide)) 0 o83 rfl (th_in ⟨by omega, by omega⟩) dX7_keepsLine_120 (fun H locs hP hS => ?_)
    obtain ⟨f87, u88⟩ : ∃ g : Nat → Int32, g = upd f77 (v86 : Int32).toNatClampNeg x3 := ⟨_, rfl⟩
    rw [← u88] at hP
    have b89 : y_bd 20 f87 := trivial
    have hP : va_P (dC, dI) vwCl (va_pl L (va_up F80 (A 20) (.inl (cs 0, 918, .inl f87)))) H := hP
    obtain ⟨F90, hF91⟩ : ∃ G : Nat → va_E, G = va_up F80 (A 20) (.inl (cs 0, 918, .inl f87)) := ⟨_, rfl⟩
    rw [← hF91] at hP
    have hI : y_I K cs A F90 := by rw [hF91]; exact y_clA (i := 20) hA hI (by decide) b89
    have hfr : ∀ b, K b ∉ [70] → F90 b = F b := by rw [hF91]; exact s_fr hfr (y_k20 hA) (by decide)
    have oY92 : F90 a0 = .inr (7, y_fl A z0 q0) := by rw [hF91]; exact th_ne (th_kd ha0 (y_k20 hA) (by decide)) oY82
    have o93 : F90 (A 20) = .inl (cs 0, 918, .inl f87) := by rw [hF91]; exact th_up
    have u94 : ∀ j : Int, 0 ≤ j → y_c f87 j = if j = v86.toInt then x3 else y_c f77 j := by rw [u88]; exact y_cu rfl (by omega)
    have h95 : (y_c f87 7).toInt = (y_c f77 7).toInt := by rw [u94 7 (by omega), if_neg (by omega)]
    refine lv_aload_n hx hb dX7_keepsLine_121 rfl (lv_at hl 1 rfl) ?_
    refine th_get (D := (dC, dI)) (ci := 7) (v := .ref (A 20)) (C := RX7) (T := TX7) (N := 34) hx hb hts inX7 hown hK hP (hLK _ ha0 (by decide)) oY92 rfl 20 (by decide) (hts _ T_251) (fun _ h9 => h9) rfl dX7_keepsLine_122 ?_
    refine lv_iload hx hb dX7_keepsLine_125 (lv_at hl 0 rfl) ?_
    refine lv_iconst (v := 4) hx hb dX7_keepsLine_127 (by decide) ?_
    refine lv_iadd hx hb dX7_keepsLine_128 ?_
    refine lv_topi (fun v96 ev96 => ?_)
    have qv96 : v96.toInt = v55.toInt + 4 := by rw [ev96]; exact th_add rfl (by decide) ⟨by omega, by omega⟩
    refine lv_iload hx hb dX7_keepsLine_129 (lv_at hl 5 rfl) ?_
    refine th_iast hx hb hK hP hD hS (hLK _ (y_k20 hA) (by decide)) 0 o93 rfl (th_in ⟨by omega, by omega⟩) dX7_keepsLine_131 (fun H locs hP hS => ?_)
    obtain ⟨f97, u98⟩ : ∃ g : Nat → Int32, g = upd f87 (v96 : Int32).toNatClampNeg x4 := ⟨_, rfl⟩
    rw [← u98] at hP
    have b99 : y_bd 20 f97 := trivial
    have hP : va_P (dC, dI) vwCl (va_pl L (va_up F90 (A 20) (.inl (cs 0, 918, .inl f97)))) H := hP
    obtain ⟨F100, hF101⟩ : ∃ G : Nat → va_E, G = va_up F90 (A 20) (.inl (cs 0, 918, .inl f97)) := ⟨_, rfl⟩
    rw [← hF101] at hP
    have hI : y_I K cs A F100 := by rw [hF101]; exact y_clA (i := 20) hA hI (by decide) b99
    have hfr : ∀ b, K b ∉ [70] → F100 b = F b := by rw [hF101]; exact s_fr hfr (y_k20 hA) (by decide)
    have oY102 : F100 a0 = .inr (7, y_fl A z0 q0) := by rw [hF101]; exact th_ne (th_kd ha0 (y_k20 hA) (by decide)) oY92
    have o103 : F100 (A 20) = .inl (cs 0, 918, .inl f97) := by rw [hF101]; exact th_up
    have u104 : ∀ j : Int, 0 ≤ j → y_c f97 j = if j = v96.toInt then x4 else y_c f87 j := by rw [u98]; exact y_cu rfl (by omega)
    have h105 : (y_c f97 7).toInt = (y_c f87 7).toInt := by rw [u104 7 (by omega), if_neg (by omega)]
    exact W.vret hx hb hr (fun t ht hW => ⟨⟨F100, rfl, ⟨trivial, trivial, hI, hfr, fun k hk => (y_fiZ oY102 (s_sub (by decide) hk)).trans ((hz0 k hk).trans (y_fiZ oY0 (s_sub (by decide) hk)).symm), (by rw [y_atE o2, y_atE o103]; exact ⟨(y_K7_t (y_K7_t (y_K7_t (y_K7_t (y_K7_t h44 (y_K7_u u64 (by omega))) (y_K7_u u74 (by omega))) (y_K7_u u84 (by omega))) (y_K7_u u94 (by omega))) (y_K7_u u104 (by omega))), by omega, by omega⟩)⟩, by rw [ht]; exact hP, va_K.moved hW.alike hK⟩, hS.F ht⟩) hS.2.2 dX7_keepsLine_132
