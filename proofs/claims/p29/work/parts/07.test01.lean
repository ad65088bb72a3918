set_option maxHeartbeats 4000000 in
set_option maxRecDepth 100000 in
theorem yt_X7_goes0 (l : Launch) (dC : Nat → ClassId) (dI : Nat → Nat → Nat) (sz : Nat) {L : List Nat} {K : Nat → Nat} {cs : Nat → ClassId} (hLK : ∀ a {k : Nat}, K a = k → k ≠ 0 → a ∈ L) (A : Nat → Nat) (hA : y_A K A) (F : Nat → va_E) (a0 : Nat) (x1 : Int32) (ha0 : K a0 = 9) (hx1 : 0 ≤ x1.toInt ∧ x1.toInt ≤ 3) (hI : y_I K cs A F) (hPG : y_PG (y_at F (A 13))) (hNG : y_NG (y_at F (A 13)) (y_at F (A 20))) (hxw : (x1.toInt < (y_c (y_at F (A 13)) 384).toInt)) (hgo : y_go (y_at F (A 20)) x1.toInt) : Met l yX7_goes0 (Cond.code yX7_goes0 cX7_goes0 6 none :: T0) ({ frames := 6, cells := 0, slots := 0, locals := 142 }) (va_Pc [.ref a0, .int x1] (s_W dC dI sz L F [(cs 0, .int), (cs 1, .byte), (cs 2, .long), (cs 3, .object RX5), (cs 4, .object RX4), (cs 5, .array .int), (cs 6, .char), (cs 7, .boolean)])) (va_Qv (fun (G : Nat → va_E) => True ∧ True ∧ y_I K cs A G ∧ (∀ b, K b ∉ [70, 71, 72] → G b = F b) ∧ (∀ k, k ∈ ([1, 2, 3, 4, 5, 6, 7, 8, 11, 15, 16, 19, 25, 26, 27, 31, 32] : List Nat) → y_fi G a0 k = y_fi F a0 k) ∧ (y_NG (y_at F (A 13)) (y_at G (A 20)) ∧ y_c (y_at G (A 20)) 3 = y_c (y_at F (A 20)) 3 ∧ y_c (y_at G (A 20)) 4 = y_c (y_at F (A 20)) 4)) (fun (G : Nat → va_E) (t : State) => va_P (dC, dI) vwCl (va_pl L G) t.heap ∧ va_K (dC, dI) vwCl [(cs 0, .int), (cs 1, .byte), (cs 2, .long), (cs 3, .object RX5), (cs 4, .object RX4), (cs 5, .array .int), (cs 6, .char), (cs 7, .boolean)] t) (fun q => q ∈ L)) 0 0 (fun q => q ∈ L) := by
  refine Met.ofW (cc := cX7_goes0) (maxL := 6) (ret := none) (by decide) rfl ?_
  intro p e s m args below meth c s₁ B hml hv
  obtain ⟨rfl, hsz, hP, hK, hD, hN⟩ := hv
  have hx := B.exec
  have hb := B.bytes
  have hr := B.returns
  have hts : ∀ w ∈ T0, w.before _ s = true := fun w h => atoms_spec (ws := Cond.code yX7_goes0 cX7_goes0 6 none :: T0) B.pre w (List.mem_cons_of_mem _ h)
  have hown : s.vm.findClass RX7 = some m.cls := findClass_of_methodNamed B.named
  have hlocks := B.notSynchronized
  have hS : va_S (fun q => q ∈ L) s.heap s.heap [] := va_S.rf
  have hfr : ∀ b, K b ∉ [70, 71, 72] → F b = F b := fun _ _ => rfl
  have hl := lv_entry ([.ref a0, .int x1]) (n := 6) (Nat.le_of_ble_eq_true rfl)
  rw [lg_entry_eq]
  generalize (lg_sl ([.ref a0, .int x1]) ++ List.replicate (6 - (lg_sl ([.ref a0, .int x1])).length) Slot.unset).toArray = ls at hl ⊢
  have hl : lv_has ls 6 [(0, .ref a0), (1, .int x1)] := hl
  refine s_gen hP hS (fun H locs hP hS => ?_)
  obtain ⟨z0, q0, oY0, bz0, bq0⟩ := y_opY hI ha0
  have hz0 : ∀ k, k ∈ ([1, 2, 3, 4, 5, 6, 7, 8, 11, 15, 16, 19, 25, 26, 27, 31, 32] : List Nat) → z0 k = z0 k := fun _ _ => rfl
  obtain ⟨f1, o2, b3⟩ := y_op13 hI
  obtain ⟨f4, o5, b6⟩ := y_op20 hI
  have hPG : y_PG f1 := by have q9 := hPG; rw [y_atE o2] at q9; exact q9
  have hNG : y_NG f1 f4 := by have q9 := hNG; rw [y_atE o2, y_atE o5] at q9; exact q9
  have hxw : (x1.toInt < (y_c f1 384).toInt) := by have q9 := hxw; rw [y_atE o2] at q9; exact q9
  have hgo : y_go f4 x1.toInt := by have q9 := hgo; rw [y_atE o5] at q9; exact q9
  have hL := y_P0L hPG.1
  have hW := y_P0W hPG.1
  have hnn := And.intro hNG.1 (And.intro hNG.2.1 (And.intro hNG.2.2.1 hNG.2.2.2.1))
  have hNW := hNG.2.2.2.2 x1.toInt (by omega) hxw
  have hnw := hNW.1.2.2
  refine th_join (fun g H locs => ∃ (G : Nat → va_E) (ls : Array Slot) (w7 : Int32) (w8 : Int32) (w9 : Int32), g = F0 m 124 ls [] ∧ lv_has ls 6 [(0, .ref a0), (1, .int x1), (2, .int w7), (3, .int w8), (4, .int w9)] ∧ va_P (dC, dI) vwCl (va_pl L G) H ∧ va_S (fun q => q ∈ L) s.heap H locs ∧ y_I K cs A G ∧ (∀ b, K b ∉ [70, 71, 72] → G b = F b) ∧ (∀ k, k ∈ ([1, 2, 3, 4, 5, 6, 7, 8, 11, 15, 16, 19, 25, 26, 27, 31, 32] : List Nat) → y_fi G a0 k = z0 k) ∧ True ∧ (0 ≤ w8.toInt ∧ w8.toInt ≤ 39) ∧ (0 ≤ w9.toInt ∧ w9.toInt ≤ 15) ∧ (0 ≤ x1.toInt ∧ x1.toInt ≤ 3) ∧ (y_NG f1 (y_at G (A 20))) ∧ (y_TG f4 x1.toInt w7) ∧ (w8.toInt < (y_c f1 387).toInt ∧ w9.toInt = (y_c f1 (8 * w8.toInt)).toInt) ∧ (y_c (y_at G (A 20)) (107 + 6 * x1.toInt) = y_c f4 (107 + 6 * x1.toInt) ∧ y_c (y_at G (A 20)) (109 + 6 * x1.toInt) = y_c f4 (109 + 6 * x1.toInt) ∧ y_c (y_at G (A 20)) 3 = y_c f4 3 ∧ y_c (y_at G (A 20)) 4 = y_c f4 4) ∧ (0 < (y_c f4 (109 + 6 * x1.toInt)).toInt → y_c (y_at G (A 20)) (287 + 48 * x1.toInt + 3 * (y_c f4 (109 + 6 * x1.toInt)).toInt) = y_c f4 (287 + 48 * x1.toInt + 3 * (y_c f4 (109 + 6 * x1.toInt)).toInt))) (fun K124 => ?_) ?_
  refine th_join (fun g H locs => ∃ (G : Nat → va_E) (ls : Array Slot) (w10 : Int32) (w11 : Int32) (w12 : Int32) (w13 : Int32), g = F0 m 52 ls [] ∧ lv_has ls 6 [(0, .ref a0), (1, .int x1), (2, .int w10), (3, .int w11), (4, .int w12), (5, .int w13)] ∧ va_P (dC, dI) vwCl (va_pl L G) H ∧ va_S (fun q => q ∈ L) s.heap H locs ∧ y_I K cs A G ∧ (∀ b, K b ∉ [70, 71, 72] → G b = F b) ∧ (∀ k, k ∈ ([1, 2, 3, 4, 5, 6, 7, 8, 11, 15, 16, 19, 25, 26, 27, 31, 32] : List Nat) → y_fi G a0 k = z0 k) ∧ True ∧ (0 ≤ w11.toInt ∧ w11.toInt ≤ 39) ∧ (0 ≤ w12.toInt ∧ w12.toInt ≤ 15) ∧ True ∧ (0 ≤ x1.toInt ∧ x1.toInt ≤ 3) ∧ (y_E f4 (y_at G (A 20))) ∧ (0 ≤ (y_c (y_at G (A 20)) 7).toInt ∧ (y_c (y_at G (A 20)) 7).toInt ≤ 30) ∧ (y_TG f4 x1.toInt w10) ∧ (w11.toInt < (y_c f1 387).toInt ∧ w12.toInt = (y_c f1 (8 * w11.toInt)).toInt)) (fun K52 => ?_) ?_
  · refine lv_aload_n hx hb dX7_goes0_0 rfl (lv_at hl 0 rfl) ?_
    refine lv_iload_n hx hb dX7_goes0_1 rfl (lv_at hl 1 rfl) ?_
    refine va_calli (va_runV (As := [.int x1]) (rest := []) ⟨hx, hb, hml, hown, hts⟩ (y_X7_together l dC dI H.size hLK A hA F a0 x1 ha0 (⟨by omega, by omega⟩) hI (by rw [y_atE o5]; exact hNW.1)) (cwV 1 hts (ax_gV T_1061 T_1063 T_1064 T_265 T_1062) rfl rfl rfl (by decide +kernel) ⟨Nat.le_of_ble_eq_true rfl, Nat.le_of_ble_eq_true rfl⟩) ⟨fun a U g mk q => ⟨q.1, s_pc rfl rfl q.2⟩, s_recv hK hP (hLK _ ha0 (by decide)) (ci := 7) rfl oY0, fun U hU hW => ⟨rfl, s_pw hU hW hP hK hD hN⟩⟩ rfl rfl hl.1 rfl (lv_room (Nat.le_of_ble_eq_true rfl)) dX7_goes0_2 ⟨Nat.zero_le _, Nat.zero_le _⟩) hS (fun q _ h => h) (fun q h => h) (fun r15 F16 t H1 locs ht hvm hw hB hz1 hk1 hS => ?_)
    obtain ⟨hP, hK1⟩ := hB
    rw [ht] at hP
    generalize H1 = H at hP hS ⊢
    clear hz1 hk1 hvm hK1
    obtain ⟨h17, h19, hI, hfr1, hzf, h18⟩ := hw
    have o20 : F16 (A 13) = .inl (cs 0, 400, .inl f1) := (hfr1 _ (by rw [(y_k13 hA)]; decide)).trans o2
    have o21 : F16 (A 20) = .inl (cs 0, 918, .inl f4) := (hfr1 _ (by rw [(y_k20 hA)]; decide)).trans o5
    have oY22 : F16 a0 = .inr (7, y_fl A z0 q0) := (hfr1 _ (by rw [ha0]; decide)).trans oY0
    have hfr : ∀ b, K b ∉ [70, 71, 72] → F16 b = F b := fun b hb9 => (hfr1 b (fun q => hb9 (s_sub (by decide) q))).trans (hfr b hb9)
    have h18 : (y_TG f4 x1.toInt r15) := by have q9 := h18; rw [y_atE o5] at q9; exact q9
    refine lv_istore_n (lv' := [(2, .int r15), (0, .ref a0), (1, .int x1)]) hx hb dX7_goes0_5 rfl hl (by decide) rfl (fun ls hl => ?_)
    refine lv_aload_n hx hb dX7_goes0_6 rfl (lv_at hl 1 rfl) ?_
    refine lv_iload_n hx hb dX7_goes0_7 rfl (lv_at hl 2 rfl) ?_
    refine va_calli (va_runV (As := [.int x1]) (rest := []) ⟨hx, hb, hml, hown, hts⟩ (y_X7_lineOf l dC dI H.size hLK A hA F16 a0 x1 ha0 (⟨by omega, by omega⟩) hI (by rw [y_atE o20, y_atE o21]; exact hNW) (by rw [y_atE o21]; exact hgo)) (cwV 1 hts (ax_gV T_1127 T_1129 T_1130 T_265 T_1128) rfl rfl rfl (by decide +kernel) ⟨Nat.le_of_ble_eq_true rfl, Nat.le_of_ble_eq_true rfl⟩) ⟨fun a U g mk q => ⟨q.1, s_pc rfl rfl q.2⟩, s_recv hK hP (hLK _ ha0 (by decide)) (ci := 7) rfl oY22, fun U hU hW => ⟨rfl, s_pw hU hW hP hK hD hN⟩⟩ rfl rfl hl.1 rfl (lv_room (Nat.le_of_ble_eq_true rfl)) dX7_goes0_8 ⟨Nat.zero_le _, Nat.zero_le _⟩) hS (fun q _ h => h) (fun q h => h) (fun r24 F25 t H1 locs ht hvm hw hB hz1 hk1 hS => ?_)
    obtain ⟨hP, hK1⟩ := hB
    rw [ht] at hP
    generalize H1 = H at hP hS ⊢
    clear hz1 hk1 hvm hK1
    obtain ⟨h26, h28, hI, hfr1, hzf, h27⟩ := hw
    have o29 : F25 (A 13) = .inl (cs 0, 400, .inl f1) := (hfr1 _ (by rw [(y_k13 hA)]; decide)).trans o20
    have o30 : F25 (A 20) = .inl (cs 0, 918, .inl f4) := (hfr1 _ (by rw [(y_k20 hA)]; decide)).trans o21
    have oY31 : F25 a0 = .inr (7, y_fl A z0 q0) := (hfr1 _ (by rw [ha0]; decide)).trans oY22
    have hfr : ∀ b, K b ∉ [70, 71, 72] → F25 b = F b := fun b hb9 => (hfr1 b (fun q => hb9 (s_sub (by decide) q))).trans (hfr b hb9)
    have h27 : (0 ≤ r24.toInt ∧ r24.toInt < (y_c f1 387).toInt) := by have q9 := h27; rw [y_atE o20] at q9; exact q9
    have h32 : 0 ≤ r24.toInt ∧ r24.toInt ≤ 39 := ⟨by omega, by omega⟩
    refine lv_istore_n (lv' := [(3, .int r24), (2, .int r15), (0, .ref a0), (1, .int x1)]) hx hb dX7_goes0_11 rfl hl (by decide) rfl (fun ls hl => ?_)
    refine lv_aload_n hx hb dX7_goes0_12 rfl (lv_at hl 2 rfl) ?_
    refine lv_iload_n hx hb dX7_goes0_13 rfl (lv_at hl 0 rfl) ?_
    refine lv_iconst (v := 0) hx hb dX7_goes0_14 (by decide) ?_
    have hrg := hPG.1.1.1 r24.toInt (by omega) (by omega)
    unfold y_rg at hrg
    refine va_calli (va_runV (As := [.int r24, .int 0]) (rest := []) ⟨hx, hb, hml, hown, hts⟩ (y_X7_of l dC dI H.size hLK A hA F25 a0 r24 0 ha0 (⟨by omega, by omega⟩) (by decide) hI) (cwV 2 hts (ax_gV T_1131 T_1133 T_1134 T_265 T_1132) rfl rfl rfl (by decide +kernel) ⟨Nat.le_of_ble_eq_true rfl, Nat.le_of_ble_eq_true rfl⟩) ⟨fun a U g mk q => ⟨q.1, s_pc rfl rfl q.2⟩, s_recv hK hP (hLK _ ha0 (by decide)) (ci := 7) rfl oY31, fun U hU hW => ⟨rfl, s_pw hU hW hP hK hD hN⟩⟩ rfl rfl hl.1 rfl (lv_room (Nat.le_of_ble_eq_true rfl)) dX7_goes0_15 ⟨Nat.zero_le _, Nat.zero_le _⟩) hS (fun q _ h => h) (fun q h => h) (fun r34 F35 t H1 locs ht hvm hw hB hz1 hk1 hS => ?_)
    obtain ⟨hP, hK1⟩ := hB
    rw [ht] at hP
    generalize H1 = H at hP hS ⊢
    clear hz1 hk1 hvm hK1
    obtain ⟨h36, h38, hI, hfr1, hzf, h37⟩ := hw
    have o39 : F35 (A 13) = .inl (cs 0, 400, .inl f1) := (hfr1 _ (by rw [(y_k13 hA)]; decide)).trans o29
    have o40 : F35 (A 20) = .inl (cs 0, 918, .inl f4) := (hfr1 _ (by rw [(y_k20 hA)]; decide)).trans o30
    have oY41 : F35 a0 = .inr (7, y_fl A z0 q0) := (hfr1 _ (by rw [ha0]; decide)).trans oY31
    have hfr : ∀ b, K b ∉ [70, 71, 72] → F35 b = F b := fun b hb9 => (hfr1 b (fun q => hb9 (s_sub (by decide) q))).trans (hfr b hb9)
    have h37 : (r34 = y_c f1 (8 * r24.toInt + 0)) := by have q9 := h37; rw [y_atE o29] at q9; exact q9
    have h37 : r34 = y_c f1 (8 * r24.toInt) := h37.trans (congrArg (y_c f1) (by omega))
    have h42 := congrArg Int32.toInt h37
    have h43 : 0 ≤ r34.toInt ∧ r34.toInt ≤ 15 := by have q9 := congrArg Int32.toInt h37; exact ⟨by omega, by omega⟩
    refine lv_istore (lv' := [(4, .int r34), (3, .int r24), (2, .int r15), (0, .ref a0), (1, .int x1)]) hx hb dX7_goes0_18 hl (by decide) rfl (fun ls hl => ?_)
    refine lv_aload_n hx hb dX7_goes0_20 rfl (lv_at hl 3 rfl) ?_
    refine lv_iload_n hx hb dX7_goes0_21 rfl (lv_at hl 4 rfl) ?_
    refine lv_iload_n hx hb dX7_goes0_22 rfl (lv_at hl 1 rfl) ?_
    refine lv_iload_n hx hb dX7_goes0_23 rfl (lv_at hl 2 rfl) ?_
    refine va_calli (va_runV (As := [.int x1, .int r24, .int r15]) (rest := []) ⟨hx, hb, hml, hown, hts⟩ (y_X7_takes0 l dC dI H.size hLK A hA F35 a0 x1 r24 r15 ha0 (⟨by omega, by omega⟩) (⟨by omega, by omega⟩) hI (by rw [y_atE o39]; exact hPG) (by first | (rw [y_atE o39]; omega) | rw [y_atE o39])) (cwV 3 hts (ax_gV T_1135 T_1137 T_1138 T_265 T_1136) rfl rfl rfl (by decide +kernel) ⟨Nat.le_of_ble_eq_true rfl, Nat.le_of_ble_eq_true rfl⟩) ⟨fun a U g mk q => ⟨q.1, s_pc rfl rfl q.2⟩, s_recv hK hP (hLK _ ha0 (by decide)) (ci := 7) rfl oY41, fun U hU hW => ⟨rfl, s_pw hU hW hP hK hD hN⟩⟩ rfl rfl hl.1 rfl (lv_room (Nat.le_of_ble_eq_true rfl)) dX7_goes0_24 ⟨Nat.zero_le _, Nat.zero_le _⟩) hS (fun q _ h => h) (fun q h => h) (fun r45 F46 t H1 locs ht hvm hw hB hz1 hk1 hS => ?_)
    obtain ⟨hP, hK1⟩ := hB
    rw [ht] at hP
    generalize H1 = H at hP hS ⊢
    clear hz1 hk1 hvm hK1
    obtain ⟨h47, h49, hI, hfr1, hzf, h48⟩ := hw
    have o50 : F46 (A 13) = .inl (cs 0, 400, .inl f1) := (hfr1 _ (by rw [(y_k13 hA)]; decide)).trans o39
    have o51 : F46 (A 20) = .inl (cs 0, 918, .inl f4) := (hfr1 _ (by rw [(y_k20 hA)]; decide)).trans o40
    have oY52 : F46 a0 = .inr (7, y_fl A z0 q0) := (hfr1 _ (by rw [ha0]; decide)).trans oY41
    have hfr : ∀ b, K b ∉ [70, 71, 72] → F46 b = F b := fun b hb9 => (hfr1 b (fun q => hb9 (s_sub (by decide) q))).trans (hfr b hb9)
    refine lv_istore (lv' := [(5, .int r45), (4, .int r34), (3, .int r24), (2, .int r15), (0, .ref a0), (1, .int x1)]) hx hb dX7_goes0_27 hl (by decide) rfl (fun ls hl => ?_)
    refine lv_aload_n hx hb dX7_goes0_29 rfl (lv_at hl 4 rfl) ?_
    refine lv_iload_n hx hb dX7_goes0_30 rfl (lv_at hl 5 rfl) ?_
    refine lv_iload_n hx hb dX7_goes0_31 rfl (lv_at hl 2 rfl) ?_
    refine lv_iload_n hx hb dX7_goes0_32 rfl (lv_at hl 3 rfl) ?_
    refine lv_iload hx hb dX7_goes0_33 (lv_at hl 0 rfl) ?_
    refine va_callv (va_runV (As := [.int x1, .int r24, .int r15, .int r45]) (rest := []) ⟨hx, hb, hml, hown, hts⟩ (y_X7_keepsLine l dC dI H.size hLK A hA F46 a0 x1 r24 r15 r45 ha0 (⟨by omega, by omega⟩) hI (by rw [y_atE o51]; exact ⟨by omega, by omega⟩)) (cwV 4 hts (ax_gV T_1139 T_1141 T_1142 T_265 T_1140) rfl rfl rfl (by decide +kernel) ⟨Nat.le_of_ble_eq_true rfl, Nat.le_of_ble_eq_true rfl⟩) ⟨fun a U g mk q => ⟨q.1, s_pc rfl rfl q.2⟩, s_recv hK hP (hLK _ ha0 (by decide)) (ci := 7) rfl oY52, fun U hU hW => ⟨rfl, s_pw hU hW hP hK hD hN⟩⟩ rfl rfl hl.1 rfl (lv_room (Nat.le_of_ble_eq_true rfl)) dX7_goes0_35 ⟨Nat.zero_le _, Nat.zero_le _⟩) hS (fun q _ h => h) (fun q h => h) (fun F54 t H1 locs ht hvm hw hB hz1 hk1 hS => ?_)
    obtain ⟨hP, hK1⟩ := hB
    rw [ht] at hP
    generalize H1 = H at hP hS ⊢
    clear hz1 hk1 hvm hK1
    obtain ⟨h55, h57, hI, hfr1, hzf, h56⟩ := hw
    have o58 : F54 (A 13) = .inl (cs 0, 400, .inl f1) := (hfr1 _ (by rw [(y_k13 hA)]; decide)).trans o50
    have oY59 : F54 a0 = .inr (7, y_fl A z0 q0) := (hfr1 _ (by rw [ha0]; decide)).trans oY52
    have hfr : ∀ b, K b ∉ [70, 71, 72] → F54 b = F b := fun b hb9 => (hfr1 b (fun q => hb9 (s_sub (by decide) q))).trans (hfr b hb9)
    obtain ⟨f60, o61, b62⟩ := y_op20 hI
    have h56 : (y_K7 f4 f60 ∧ (0 ≤ (y_c f60 7).toInt ∧ (y_c f60 7).toInt ≤ 30)) := by have q9 := h56; rw [y_atE o51, y_atE o61] at q9; exact q9
    have h63 := h56.2
    refine lv_iload hx hb dX7_goes0_38 (lv_at hl 1 rfl) ?_
    refine lv_bipush (v := 12) hx hb dX7_goes0_40 (by decide) ?_
    refine lv_icmp_ge (tgt := 52) hx hb dX7_goes0_42 (by decide) (fun c64 => ?_) (fun c64 => ?_)
    · have c64 := (ax_ge (n := 12) (by decide)).mp c64
      exact K52 _ _ _ ⟨F54, _, r15, r24, r34, r45, rfl, lv_sub hl [4, 5, 3, 2, 1, 0] rfl, hP, hS, hI, hfr, (fun k hk => (y_fiZ oY59 (s_sub (by decide) hk)).trans (hz0 k hk)), trivial, ⟨by omega, by omega⟩, ⟨by omega, by omega⟩, trivial, ⟨by omega, by omega⟩, (by rw [y_atE o61]; exact h56.1.1), (by first | (rw [y_atE o61]; omega) | rw [y_atE o61]), (show (y_TG f4 x1.toInt r15) from h18), (by omega)⟩
    · have c64 := mt (ax_ge (n := 12) (by decide)).mpr c64
      refine lv_aload_n hx hb dX7_goes0_45 rfl (lv_at hl 4 rfl) ?_
      refine lv_iload_n hx hb dX7_goes0_46 rfl (lv_at hl 5 rfl) ?_
      refine lv_iload_n hx hb dX7_goes0_47 rfl (lv_at hl 2 rfl) ?_
      refine lv_iload_n hx hb dX7_goes0_48 rfl (lv_at hl 3 rfl) ?_
      refine va_callv (va_runV (As := [.int x1, .int r24, .int r15]) (rest := []) ⟨hx, hb, hml, hown, hts⟩ (y_X7_works l dC dI H.size hLK A hA F54 a0 x1 r24 r15 ha0 (⟨by omega, by omega⟩) (⟨by omega, by omega⟩) hI (by rw [y_atE o58]; exact hPG) (by first | (rw [y_atE o58]; omega) | rw [y_atE o58])) (cwV 3 hts (ax_gV T_1143 T_1145 T_1146 T_265 T_1144) rfl rfl rfl (by decide +kernel) ⟨Nat.le_of_ble_eq_true rfl, Nat.le_of_ble_eq_true rfl⟩) ⟨fun a U g mk q => ⟨q.1, s_pc rfl rfl q.2⟩, s_recv hK hP (hLK _ ha0 (by decide)) (ci := 7) rfl oY59, fun U hU hW => ⟨rfl, s_pw hU hW hP hK hD hN⟩⟩ rfl rfl hl.1 rfl (lv_room (Nat.le_of_ble_eq_true rfl)) dX7_goes0_49 ⟨Nat.zero_le _, Nat.zero_le _⟩) hS (fun q _ h => h) (fun q h => h) (fun F66 t H1 locs ht hvm hw hB hz1 hk1 hS => ?_)
      obtain ⟨hP, hK1⟩ := hB
      rw [ht] at hP
      generalize H1 = H at hP hS ⊢
      clear hz1 hk1 hvm hK1
      obtain ⟨h67, h69, hI, hfr1, hzf, h68⟩ := hw
      have o70 : F66 (A 13) = .inl (cs 0, 400, .inl f1) := (hfr1 _ (by rw [(y_k13 hA)]; decide)).trans o58
      have oY71 : F66 a0 = .inr (7, y_fl A z0 q0) := (hfr1 _ (by rw [ha0]; decide)).trans oY59
      have hfr : ∀ b, K b ∉ [70, 71, 72] → F66 b = F b := fun b hb9 => (hfr1 b (fun q => hb9 (s_sub (by decide) q))).trans (hfr b hb9)
      obtain ⟨f72, o73, b74⟩ := y_op20 hI
      have h68 : (y_E6 f60 f72) := by have q9 := h68; rw [y_atE o61, y_atE o73] at q9; exact q9
      have h75 := congrArg Int32.toInt h68.2.2
      exact K52 _ _ _ ⟨F66, _, r15, r24, r34, r45, rfl, lv_sub hl [4, 5, 3, 2, 1, 0] rfl, hP, hS, hI, hfr, (fun k hk => (y_fiZ oY71 (s_sub (by decide) hk)).trans (hz0 k hk)), trivial, ⟨by omega, by omega⟩, ⟨by omega, by omega⟩, trivial, ⟨by omega, by omega⟩, (by rw [y_atE o73]; exact (y_E_t h56.1.1 h68.1)), (by first | (rw [y_atE o73]; omega) | rw [y_atE o73]), (show (y_TG f4 x1.toInt r15) from h18), (by omega)⟩
  · intro g H locs hq
    obtain ⟨F85, ls, w10, w11, w12, w13, rfl, hl, hP, hS, hI, hfr, hz0, h76, h77, h78, h79, h80, h81, h82, h83, h84⟩ := hq
    have o86 : F85 (A 13) = .inl (cs 0, 400, .inl f1) := (hfr _ (by rw [(y_k13 hA)]; decide)).trans o2
    have oY87 : F85 a0 = .inr (7, y_fl A z0 q0) := (hfr _ (by rw [ha0]; decide)).trans oY0
    have hz0 : ∀ k, k ∈ ([1, 2, 3, 4, 5, 6, 7, 8, 11, 15, 16, 19, 25, 26, 27, 31, 32] : List Nat) → z0 k = z0 k := fun _ _ => rfl
    obtain ⟨f88, o89, b90⟩ := y_op20 hI
    have h81 : (y_E f4 f88) := by have q9 := h81; rw [y_atE o89] at q9; exact q9
    have h82 : (0 ≤ (y_c f88 7).toInt ∧ (y_c f88 7).toInt ≤ 30) := by have q9 := h82; rw [y_atE o89] at q9; exact q9
    refine lv_aload_n hx hb dX7_goes0_52 rfl (lv_at hl 0 rfl) ?_
    refine th_get (D := (dC, dI)) (ci := 7) (v := .ref (A 20)) (C := RX7) (T := TX7) (N := 34) hx hb hts inX7 hown hK hP (hLK _ ha0 (by decide)) oY87 rfl 20 (by decide) (hts _ T_251) (fun _ h9 => h9) rfl dX7_goes0_53 ?_
    refine lv_iload_n hx hb dX7_goes0_56 rfl (lv_at hl 1 rfl) ?_
    refine lv_iconst (v := 0) hx hb dX7_goes0_57 (by decide) ?_
    refine va_calli (va_runS (As := [.int x1, .int 0]) (rest := [.ref (A 20)]) ⟨hx, hb, hml, hown, hts⟩ (y_X7_warpAt l dC dI H.size F85 x1 0 (⟨by omega, by omega⟩) (by decide)) (cwS 2 hts (ax_gS T_1021 T_1023 T_265 T_1022) rfl rfl rfl (by decide +kernel) ⟨Nat.le_of_ble_eq_true rfl, Nat.le_of_ble_eq_true rfl⟩) ⟨fun a U g mk q => ⟨q.1, s_pc rfl rfl q.2⟩, fun U hU hW => ⟨rfl, s_pw hU hW hP hK hD hN⟩⟩ rfl rfl hl.1 rfl (lv_room (Nat.le_of_ble_eq_true rfl)) dX7_goes0_58 ⟨Nat.zero_le _, Nat.zero_le _⟩) hS (fun q _ h => h) (fun q h => h) (fun r92 F93 t H1 locs ht hvm hw hB hz1 hk1 hS => ?_)
    obtain ⟨hP, hK1⟩ := hB
    rw [ht] at hP
    generalize H1 = H at hP hS ⊢
    clear hz1 hk1 hvm hK1
    obtain ⟨h94, h96, hG9, h95⟩ := hw
    rw [hG9] at hP
    have h95 : (r92.toInt = 104 + 6 * x1.toInt + 0) := by have q9 := h95; exact q9
    refine lv_aload_n hx hb dX7_goes0_61 rfl (lv_at hl 0 rfl) ?_
    refine th_get (D := (dC, dI)) (ci := 7) (v := .ref (A 20)) (C := RX7) (T := TX7) (N := 34) hx hb hts inX7 hown hK hP (hLK _ ha0 (by decide)) oY87 rfl 20 (by decide) (hts _ T_251) (fun _ h9 => h9) rfl dX7_goes0_62 ?_
    refine lv_iconst (v := 0) hx hb dX7_goes0_65 (by decide) ?_
    refine th_iald hx hb hK hP (hLK _ (y_k20 hA) (by decide)) 0 o89 rfl (ax_in (by decide)) dX7_goes0_66 ?_
    refine lv_topi (fun v97 ev97 => ?_)
    refine lv_iload hx hb dX7_goes0_67 (lv_at hl 5 rfl) ?_
    refine lv_iadd hx hb dX7_goes0_69 ?_
    refine lv_topi (fun v98 ev98 => ?_)
    refine th_iast hx hb hK hP hD hS (hLK _ (y_k20 hA) (by decide)) 0 o89 rfl (th_in ⟨by omega, by omega⟩) dX7_goes0_70 (fun H locs hP hS => ?_)
    obtain ⟨f99, u100⟩ : ∃ g : Nat → Int32, g = upd f88 (r92 : Int32).toNatClampNeg v98 := ⟨_, rfl⟩
    rw [← u100] at hP
    have b101 : y_bd 20 f99 := trivial
    have hP : va_P (dC, dI) vwCl (va_pl L (va_up F85 (A 20) (.inl (cs 0, 918, .inl f99)))) H := hP
    obtain ⟨F102, hF103⟩ : ∃ G : Nat → va_E, G = va_up F85 (A 20) (.inl (cs 0, 918, .inl f99)) := ⟨_, rfl⟩
    rw [← hF103] at hP
    have hI : y_I K cs A F102 := by rw [hF103]; exact y_clA (i := 20) hA hI (by decide) b101
    have hfr : ∀ b, K b ∉ [70, 71, 72] → F102 b = F b := by rw [hF103]; exact s_fr hfr (y_k20 hA) (by decide)
    have o104 : F102 (A 13) = .inl (cs 0, 400, .inl f1) := by rw [hF103]; exact th_ne (th_kd (y_k13 hA) (y_k20 hA) (by decide)) o86
    have oY105 : F102 a0 = .inr (7, y_fl A z0 q0) := by rw [hF103]; exact th_ne (th_kd ha0 (y_k20 hA) (by decide)) oY87
    have o106 : F102 (A 20) = .inl (cs 0, 918, .inl f99) := by rw [hF103]; exact th_up
    have u107 : ∀ j : Int, 0 ≤ j → y_c f99 j = if j = r92.toInt then v98 else y_c f88 j := by rw [u100]; exact y_cu rfl (by omega)
    have h108 : (y_c f99 7).toInt = (y_c f88 7).toInt := by rw [u107 7 (by omega), if_neg (by omega)]
    refine lv_aload_n hx hb dX7_goes0_71 rfl (lv_at hl 0 rfl) ?_
    refine th_get (D := (dC, dI)) (ci := 7) (v := .ref (A 20)) (C := RX7) (T := TX7) (N := 34) hx hb hts inX7 hown hK hP (hLK _ ha0 (by decide)) oY105 rfl 20 (by decide) (hts _ T_251) (fun _ h9 => h9) rfl dX7_goes0_72 ?_
    refine lv_iload_n hx hb dX7_goes0_75 rfl (lv_at hl 1 rfl) ?_
    refine lv_iconst (v := 2) hx hb dX7_goes0_76 (by decide) ?_
    refine va_calli (va_runS (As := [.int x1, .int 2]) (rest := [.ref (A 20)]) ⟨hx, hb, hml, hown, hts⟩ (y_X7_warpAt l dC dI H.size F102 x1 2 (⟨by omega, by omega⟩) (by decide)) (cwS 2 hts (ax_gS T_1021 T_1023 T_265 T_1022) rfl rfl rfl (by decide +kernel) ⟨Nat.le_of_ble_eq_true rfl, Nat.le_of_ble_eq_true rfl⟩) ⟨fun a U g mk q => ⟨q.1, s_pc rfl rfl q.2⟩, fun U hU hW => ⟨rfl, s_pw hU hW hP hK hD hN⟩⟩ rfl rfl hl.1 rfl (lv_room (Nat.le_of_ble_eq_true rfl)) dX7_goes0_77 ⟨Nat.zero_le _, Nat.zero_le _⟩) hS (fun q _ h => h) (fun q h => h) (fun r110 F111 t H1 locs ht hvm hw hB hz1 hk1 hS => ?_)
    obtain ⟨hP, hK1⟩ := hB
    rw [ht] at hP
    generalize H1 = H at hP hS ⊢
    clear hz1 hk1 hvm hK1
    obtain ⟨h112, h114, hG9, h113⟩ := hw
    rw [hG9] at hP
    have h113 : (r110.toInt = 104 + 6 * x1.toInt + 2) := by have q9 := h113; exact q9
    refine lv_dup2_11 hx hb dX7_goes0_80 rfl rfl ?_
    refine th_iald hx hb hK hP (hLK _ (y_k20 hA) (by decide)) 0 o106 rfl (th_in ⟨by omega, by omega⟩) dX7_goes0_81 ?_
    refine lv_topi (fun v115 ev115 => ?_)
    refine lv_iconst (v := 1) hx hb dX7_goes0_82 (by decide) ?_
    refine lv_iadd hx hb dX7_goes0_83 ?_
    refine lv_topi (fun v116 ev116 => ?_)
    refine th_iast hx hb hK hP hD hS (hLK _ (y_k20 hA) (by decide)) 0 o106 rfl (th_in ⟨by omega, by omega⟩) dX7_goes0_84 (fun H locs hP hS => ?_)
    obtain ⟨f117, u118⟩ : ∃ g : Nat → Int32, g = upd f99 (r110 : Int32).toNatClampNeg v116 := ⟨_, rfl⟩
    rw [← u118] at hP
    have b119 : y_bd 20 f117 := trivial
    have hP : va_P (dC, dI) vwCl (va_pl L (va_up F102 (A 20) (.inl (cs 0, 918, .inl f117)))) H := hP
    obtain ⟨F120, hF121⟩ : ∃ G : Nat → va_E, G = va_up F102 (A 20) (.inl (cs 0, 918, .inl f117)) := ⟨_, rfl⟩
    rw [← hF121] at hP
    have hI : y_I K cs A F120 := by rw [hF121]; exact y_clA (i := 20) hA hI (by decide) b119
    have hfr : ∀ b, K b ∉ [70, 71, 72] → F120 b = F b := by rw [hF121]; exact s_fr hfr (y_k20 hA) (by decide)
    have o122 : F120 (A 13) = .inl (cs 0, 400, .inl f1) := by rw [hF121]; exact th_ne (th_kd (y_k13 hA) (y_k20 hA) (by decide)) o104
    have oY123 : F120 a0 = .inr (7, y_fl A z0 q0) := by rw [hF121]; exact th_ne (th_kd ha0 (y_k20 hA) (by decide)) oY105
    have o124 : F120 (A 20) = .inl (cs 0, 918, .inl f117) := by rw [hF121]; exact th_up
    have u125 : ∀ j : Int, 0 ≤ j → y_c f117 j = if j = r110.toInt then v116 else y_c f99 j := by rw [u118]; exact y_cu rfl (by omega)
    have h126 : (y_c f117 7).toInt = (y_c f99 7).toInt := by rw [u125 7 (by omega), if_neg (by omega)]
    refine lv_aload_n hx hb dX7_goes0_85 rfl (lv_at hl 0 rfl) ?_
    refine th_get (D := (dC, dI)) (ci := 7) (v := .ref (A 20)) (C := RX7) (T := TX7) (N := 34) hx hb hts inX7 hown hK hP (hLK _ ha0 (by decide)) oY123 rfl 20 (by decide) (hts _ T_251) (fun _ h9 => h9) rfl dX7_goes0_86 ?_
    refine lv_iconst (v := 1) hx hb dX7_goes0_89 (by decide) ?_
    refine lv_dup2_11 hx hb dX7_goes0_90 rfl rfl ?_
    refine th_iald hx hb hK hP (hLK _ (y_k20 hA) (by decide)) 0 o124 rfl (ax_in (by decide)) dX7_goes0_91 ?_
    refine lv_topi (fun v127 ev127 => ?_)
    refine lv_iconst (v := 1) hx hb dX7_goes0_92 (by decide) ?_
    refine lv_iadd hx hb dX7_goes0_93 ?_
    refine lv_topi (fun v128 ev128 => ?_)
    refine th_iast hx hb hK hP hD hS (hLK _ (y_k20 hA) (by decide)) 0 o124 rfl (ax_in (by decide)) dX7_goes0_94 (fun H locs hP hS => ?_)
    obtain ⟨f129, u130⟩ : ∃ g : Nat → Int32, g = upd f117 (1 : Int32).toNatClampNeg v128 := ⟨_, rfl⟩
    rw [← u130] at hP
    have b131 : y_bd 20 f129 := trivial
    have hP : va_P (dC, dI) vwCl (va_pl L (va_up F120 (A 20) (.inl (cs 0, 918, .inl f129)))) H := hP
    obtain ⟨F132, hF133⟩ : ∃ G : Nat → va_E, G = va_up F120 (A 20) (.inl (cs 0, 918, .inl f129)) := ⟨_, rfl⟩
    rw [← hF133] at hP
    have hI : y_I K cs A F132 := by rw [hF133]; exact y_clA (i := 20) hA hI (by decide) b131
    have hfr : ∀ b, K b ∉ [70, 71, 72] → F132 b = F b := by rw [hF133]; exact s_fr hfr (y_k20 hA) (by decide)
    have o134 : F132 (A 13) = .inl (cs 0, 400, .inl f1) := by rw [hF133]; exact th_ne (th_kd (y_k13 hA) (y_k20 hA) (by decide)) o122
    have oY135 : F132 a0 = .inr (7, y_fl A z0 q0) := by rw [hF133]; exact th_ne (th_kd ha0 (y_k20 hA) (by decide)) oY123
    have o136 : F132 (A 20) = .inl (cs 0, 918, .inl f129) := by rw [hF133]; exact th_up
    have u137 : ∀ j : Int, 0 ≤ j → y_c f129 j = if j = 1 then v128 else y_c f117 j := by rw [u130]; exact y_cu (by decide) (by decide)
    have h138 : (y_c f129 7).toInt = (y_c f117 7).toInt := by rw [u137 7 (by omega), if_neg (by omega)]
    refine lv_aload_n hx hb dX7_goes0_95 rfl (lv_at hl 0 rfl) ?_
    refine th_get (D := (dC, dI)) (ci := 7) (v := .ref (A 20)) (C := RX7) (T := TX7) (N := 34) hx hb hts inX7 hown hK hP (hLK _ ha0 (by decide)) oY135 rfl 20 (by decide) (hts _ T_251) (fun _ h9 => h9) rfl dX7_goes0_96 ?_
    refine lv_bipush (v := 6) hx hb dX7_goes0_99 (by decide) ?_
    refine lv_iload_n hx hb dX7_goes0_101 rfl (lv_at hl 1 rfl) ?_
    refine th_iast hx hb hK hP hD hS (hLK _ (y_k20 hA) (by decide)) 0 o136 rfl (ax_in (by decide)) dX7_goes0_102 (fun H locs hP hS => ?_)
    obtain ⟨f139, u140⟩ : ∃ g : Nat → Int32, g = upd f129 (6 : Int32).toNatClampNeg x1 := ⟨_, rfl⟩
    rw [← u140] at hP
    have b141 : y_bd 20 f139 := trivial
    have hP : va_P (dC, dI) vwCl (va_pl L (va_up F132 (A 20) (.inl (cs 0, 918, .inl f139)))) H := hP
    obtain ⟨F142, hF143⟩ : ∃ G : Nat → va_E, G = va_up F132 (A 20) (.inl (cs 0, 918, .inl f139)) := ⟨_, rfl⟩
    rw [← hF143] at hP
    have hI : y_I K cs A F142 := by rw [hF143]; exact y_clA (i := 20) hA hI (by decide) b141
    have hfr : ∀ b, K b ∉ [70, 71, 72] → F142 b = F b := by rw [hF143]; exact s_fr hfr (y_k20 hA) (by decide)
    have o144 : F142 (A 13) = .inl (cs 0, 400, .inl f1) := by rw [hF143]; exact th_ne (th_kd (y_k13 hA) (y_k20 hA) (by decide)) o134
    have oY145 : F142 a0 = .inr (7, y_fl A z0 q0) := by rw [hF143]; exact th_ne (th_kd ha0 (y_k20 hA) (by decide)) oY135
    have o146 : F142 (A 20) = .inl (cs 0, 918, .inl f139) := by rw [hF143]; exact th_up
    have u147 : ∀ j : Int, 0 ≤ j → y_c f139 j = if j = 6 then x1 else y_c f129 j := by rw [u140]; exact y_cu (by decide) (by decide)
    have h148 : (y_c f139 7).toInt = (y_c f129 7).toInt := by rw [u147 7 (by omega), if_neg (by omega)]
    have hE := (y_E_t (y_E_t (y_E_t (y_E_t h81 (y_E_u u107 (by omega))) (y_E_u u125 (by omega))) (y_E_u u137 (by omega))) (y_E_u u147 (by omega)))
    have hNG2 : y_NG f1 f139 := y_NGe hE hNG (by rw [u147 6 (by omega), if_pos (by omega)]; exact ⟨by omega, by omega⟩) ⟨by omega, by omega⟩ (by omega)
    have hc1 : y_c f139 (107 + 6 * x1.toInt) = y_c f4 (107 + 6 * x1.toInt) := hE _ (by omega) (by omega)
    have hc2 : y_c f139 (109 + 6 * x1.toInt) = y_c f4 (109 + 6 * x1.toInt) := hE _ (by omega) (by omega)
    have hc3 : y_c f139 3 = y_c f4 3 := hE _ (by omega) (by omega)
    have hc4 : y_c f139 4 = y_c f4 4 := hE _ (by omega) (by omega)
    have hc5 : 0 < (y_c f4 (109 + 6 * x1.toInt)).toInt → y_c f139 (287 + 48 * x1.toInt + 3 * (y_c f4 (109 + 6 * x1.toInt)).toInt) = y_c f4 (287 + 48 * x1.toInt + 3 * (y_c f4 (109 + 6 * x1.toInt)).toInt) := fun h9 => hE _ (by omega) (by omega)
    refine lv_iload hx hb dX7_goes0_103 (lv_at hl 4 rfl) ?_
    refine lv_bipush (v := 13) hx hb dX7_goes0_105 (by decide) ?_
    refine lv_icmp_ne (tgt := 124) hx hb dX7_goes0_107 (by decide) (fun c149 => ?_) (fun c149 => ?_)
    · have c149 := mt (ax_eq (n := 13) (by decide)).mpr c149
      exact K124 _ _ _ ⟨F142, _, w10, w11, w12, rfl, lv_sub hl [0, 1, 2, 3, 4] rfl, hP, hS, hI, hfr, (fun k hk => (y_fiZ oY145 (s_sub (by decide) hk)).trans (hz0 k hk)), trivial, ⟨by omega, by omega⟩, ⟨by omega, by omega⟩, ⟨by omega, by omega⟩, (by rw [y_atE o146]; exact hNG2), (show (y_TG f4 x1.toInt w10) from h83), (by omega), (by rw [y_atE o146]; exact ⟨hc1, hc2, hc3, hc4⟩), (by rw [y_atE o146]; exact hc5)⟩
    · have c149 := (ax_eq (n := 13) (by decide)).mp c149
      refine lv_aload_n hx hb dX7_goes0_110 rfl (lv_at hl 0 rfl) ?_
      refine th_get (D := (dC, dI)) (ci := 7) (v := .ref (A 20)) (C := RX7) (T := TX7) (N := 34) hx hb hts inX7 hown hK hP (hLK _ ha0 (by decide)) oY145 rfl 20 (by decide) (hts _ T_251) (fun _ h9 => h9) rfl dX7_goes0_111 ?_
      refine lv_iload_n hx hb dX7_goes0_114 rfl (lv_at hl 1 rfl) ?_
      refine lv_iconst (v := 4) hx hb dX7_goes0_115 (by decide) ?_
      refine va_calli (va_runS (As := [.int x1, .int 4]) (rest := [.ref (A 20)]) ⟨hx, hb, hml, hown, hts⟩ (y_X7_warpAt l dC dI H.size F142 x1 4 (⟨by omega, by omega⟩) (by decide)) (cwS 2 hts (ax_gS T_1021 T_1023 T_265 T_1022) rfl rfl rfl (by decide +kernel) ⟨Nat.le_of_ble_eq_true rfl, Nat.le_of_ble_eq_true rfl⟩) ⟨fun a U g mk q => ⟨q.1, s_pc rfl rfl q.2⟩, fun U hU hW => ⟨rfl, s_pw hU hW hP hK hD hN⟩⟩ rfl rfl hl.1 rfl (lv_room (Nat.le_of_ble_eq_true rfl)) dX7_goes0_116 ⟨Nat.zero_le _, Nat.zero_le _⟩) hS (fun q _ h => h) (fun q h => h) (fun r151 F152 t H1 locs ht hvm hw hB hz1 hk1 hS => ?_)
      obtain ⟨hP, hK1⟩ := hB
      rw [ht] at hP
      generalize H1 = H at hP hS ⊢
      clear hz1 hk1 hvm hK1
      obtain ⟨h153, h155, hG9, h154⟩ := hw
      rw [hG9] at hP
      have h154 : (r151.toInt = 104 + 6 * x1.toInt + 4) := by have q9 := h154; exact q9
      refine lv_dup2_11 hx hb dX7_goes0_119 rfl rfl ?_
      refine th_iald hx hb hK hP (hLK _ (y_k20 hA) (by decide)) 0 o146 rfl (th_in ⟨by omega, by omega⟩) dX7_goes0_120 ?_
      refine lv_topi (fun v156 ev156 => ?_)
      have Ev156 : v156 = y_c f139 (108 + 6 * x1.toInt) := ev156.trans (y_ci (by omega))
      have tEv156 := congrArg Int32.toInt Ev156
      refine lv_iload_n hx hb dX7_goes0_121 rfl (lv_at hl 2 rfl) ?_
      refine lv_ior hx hb dX7_goes0_122 ?_
      refine lv_topi (fun v157 ev157 => ?_)
      refine th_iast hx hb hK hP hD hS (hLK _ (y_k20 hA) (by decide)) 0 o146 rfl (th_in ⟨by omega, by omega⟩) dX7_goes0_123 (fun H locs hP hS => ?_)
      obtain ⟨f158, u159⟩ : ∃ g : Nat → Int32, g = upd f139 (r151 : Int32).toNatClampNeg v157 := ⟨_, rfl⟩
      rw [← u159] at hP
      have b160 : y_bd 20 f158 := trivial
      have hP : va_P (dC, dI) vwCl (va_pl L (va_up F142 (A 20) (.inl (cs 0, 918, .inl f158)))) H := hP
      obtain ⟨F161, hF162⟩ : ∃ G : Nat → va_E, G = va_up F142 (A 20) (.inl (cs 0, 918, .inl f158)) := ⟨_, rfl⟩
      rw [← hF162] at hP
      have hI : y_I K cs A F161 := by rw [hF162]; exact y_clA (i := 20) hA hI (by decide) b160
      have hfr : ∀ b, K b ∉ [70, 71, 72] → F161 b = F b := by rw [hF162]; exact s_fr hfr (y_k20 hA) (by decide)
      have o163 : F161 (A 13) = .inl (cs 0, 400, .inl f1) := by rw [hF162]; exact th_ne (th_kd (y_k13 hA) (y_k20 hA) (by decide)) o144
      have oY164 : F161 a0 = .inr (7, y_fl A z0 q0) := by rw [hF162]; exact th_ne (th_kd ha0 (y_k20 hA) (by decide)) oY145
      have o165 : F161 (A 20) = .inl (cs 0, 918, .inl f158) := by rw [hF162]; exact th_up
      have u166 : ∀ j : Int, 0 ≤ j → y_c f158 j = if j = r151.toInt then v157 else y_c f139 j := by rw [u159]; exact y_cu rfl (by omega)
      have hor9 : y_sub v157 (y_c f139 (107 + 6 * x1.toInt)) := fun i9 h9 => by rw [ev157, b_or, Bool.or_eq_true] at h9; rcases h9 with q9 | q9; rw [Ev156] at q9; exact (hNG2.2.2.2.2 x1.toInt (by omega) hxw).1.2.1 i9 q9; rw [hc1]; exact h83.1 i9 q9
      obtain ⟨k167a, k167b⟩ := y_wait ⟨by omega, by omega⟩ u166 (by omega) hor9 (hNG2.2.2.2.2 x1.toInt (by omega) hxw)
      have k167c := y_NGw ⟨by omega, by omega⟩ k167b hNG2 k167a (by omega)
      have hc1 : y_c f158 (107 + 6 * x1.toInt) = y_c f4 (107 + 6 * x1.toInt) := by rw [u166 _ (by omega), if_neg (by omega)]; exact hc1
      have hc2 : y_c f158 (109 + 6 * x1.toInt) = y_c f4 (109 + 6 * x1.toInt) := by rw [u166 _ (by omega), if_neg (by omega)]; exact hc2
      have hc3 : y_c f158 (3) = y_c f4 (3) := by rw [u166 _ (by omega), if_neg (by omega)]; exact hc3
      have hc4 : y_c f158 (4) = y_c f4 (4) := by rw [u166 _ (by omega), if_neg (by omega)]; exact hc4
      have hc5 : 0 < (y_c f4 (109 + 6 * x1.toInt)).toInt → y_c f158 (287 + 48 * x1.toInt + 3 * (y_c f4 (109 + 6 * x1.toInt)).toInt) = y_c f4 (287 + 48 * x1.toInt + 3 * (y_c f4 (109 + 6 * x1.toInt)).toInt) := fun h9 => by rw [u166 _ (by omega), if_neg (by omega)]; exact hc5 h9
      exact K124 _ _ _ ⟨F161, _, w10, w11, w12, rfl, lv_sub hl [0, 1, 2, 3, 4] rfl, hP, hS, hI, hfr, (fun k hk => (y_fiZ oY164 (s_sub (by decide) hk)).trans (hz0 k hk)), trivial, ⟨by omega, by omega⟩, ⟨by omega, by omega⟩, ⟨by omega, by omega⟩, (by rw [y_atE o165]; exact k167c), (show (y_TG f4 x1.toInt w10) from h83), (by omega), (by rw [y_atE o165]; exact ⟨hc1, hc2, hc3, hc4⟩), (by rw [y_atE o165]; exact hc5)⟩
  · intro g H locs hq
    obtain ⟨F177, ls, w7, w8, w9, rfl, hl, hP, hS, hI, hfr, hz0, h168, h169, h170, h171, h172, h173, h174, h175, h176⟩ := hq
    have o178 : F177 (A 13) = .inl (cs 0, 400, .inl f1) := (hfr _ (by rw [(y_k13 hA)]; decide)).trans o2
    have oY179 : F177 a0 = .inr (7, y_fl A z0 q0) := (hfr _ (by rw [ha0]; decide)).trans oY0
    have hz0 : ∀ k, k ∈ ([1, 2, 3, 4, 5, 6, 7, 8, 11, 15, 16, 19, 25, 26, 27, 31, 32] : List Nat) → z0 k = z0 k := fun _ _ => rfl
    obtain ⟨f180, o181, b182⟩ := y_op20 hI
    have h172 : (y_NG f1 f180) := by have q9 := h172; rw [y_atE o181] at q9; exact q9
    have h175 : (y_c f180 (107 + 6 * x1.toInt) = y_c f4 (107 + 6 * x1.toInt) ∧ y_c f180 (109 + 6 * x1.toInt) = y_c f4 (109 + 6 * x1.toInt) ∧ y_c f180 3 = y_c f4 3 ∧ y_c f180 4 = y_c f4 4) := by have q9 := h175; rw [y_atE o181] at q9; exact q9
    have h176 : (0 < (y_c f4 (109 + 6 * x1.toInt)).toInt → y_c f180 (287 + 48 * x1.toInt + 3 * (y_c f4 (109 + 6 * x1.toInt)).toInt) = y_c f4 (287 + 48 * x1.toInt + 3 * (y_c f4 (109 + 6 * x1.toInt)).toInt)) := by have q9 := h176; rw [y_atE o181] at q9; exact q9
    obtain ⟨hc1, hc2, hc3, hc4⟩ := h175
    have hc5 := h176
    have hm3 := congrArg Int32.toInt hc3
    have hNWg := h172.2.2.2.2 x1.toInt (by omega) hxw
    have htz := h173.2.2.2.mpr hgo
    refine lv_aload_n hx hb dX7_goes0_124 rfl (lv_at hl 0 rfl) ?_
    refine th_get (D := (dC, dI)) (ci := 7) (v := .ref (A 20)) (C := RX7) (T := TX7) (N := 34) hx hb hts inX7 hown hK hP (hLK _ ha0 (by decide)) oY179 rfl 20 (by decide) (hts _ T_251) (fun _ h9 => h9) rfl dX7_goes0_125 ?_
    refine lv_iconst (v := 3) hx hb dX7_goes0_128 (by decide) ?_
    refine th_iald hx hb hK hP (hLK _ (y_k20 hA) (by decide)) 0 o181 rfl (ax_in (by decide)) dX7_goes0_129 ?_
    refine lv_topi (fun v183 ev183 => ?_)
    have Ev183 : v183 = y_c f180 (3) := ev183.trans (y_ci (by decide))
    have tEv183 := congrArg Int32.toInt Ev183
    refine lv_iconst (v := 1) hx hb dX7_goes0_130 (by decide) ?_
    refine lv_icmp_ne (tgt := 144) hx hb dX7_goes0_131 (by decide) (fun c184 => ?_) (fun c184 => ?_)
    · have c184 := mt (ax_eq (n := 1) (by decide)).mpr c184
      refine lv_iload hx hb dX7_goes0_144 (lv_at hl 4 rfl) ?_
      refine lv_bipush (v := 13) hx hb dX7_goes0_146 (by decide) ?_
      refine lv_icmp_eq (tgt := 158) hx hb dX7_goes0_148 (by decide) (fun c185 => ?_) (fun c185 => ?_)
      · have c185 := (ax_eq (n := 13) (by decide)).mp c185
        exact W.vret hx hb hr (fun t ht hW => ⟨⟨F177, rfl, ⟨trivial, trivial, hI, hfr, fun k hk => (y_fiZ oY179 (s_sub (by decide) hk)).trans ((hz0 k hk).trans (y_fiZ oY0 (s_sub (by decide) hk)).symm), (by rw [y_atE o2, y_atE o181, y_atE o5]; exact ⟨h172, hc3, hc4⟩)⟩, by rw [ht]; exact hP, va_K.moved hW.alike hK⟩, hS.F ht⟩) hS.2.2 dX7_goes0_158
      · have c185 := mt (ax_eq (n := 13) (by decide)).mpr c185
        refine lv_aload_n hx hb dX7_goes0_151 rfl (lv_at hl 0 rfl) ?_
        refine lv_iload_n hx hb dX7_goes0_152 rfl (lv_at hl 1 rfl) ?_
        refine lv_iload_n hx hb dX7_goes0_153 rfl (lv_at hl 3 rfl) ?_
        refine lv_iload_n hx hb dX7_goes0_154 rfl (lv_at hl 2 rfl) ?_
        refine va_callv (va_runV (As := [.int x1, .int w8, .int w7]) (rest := []) ⟨hx, hb, hml, hown, hts⟩ (y_X7_goesByStack l dC dI H.size hLK A hA F177 a0 x1 w8 w7 ha0 (⟨by omega, by omega⟩) (⟨by omega, by omega⟩) hI (by rw [y_atE o178]; exact hPG) (by first | (rw [y_atE o178]; omega) | rw [y_atE o178]) (by rw [y_atE o181]; exact hNWg.1) (by rw [y_atE o178, y_atE o181]; exact (hNWg.2.1 (by omega)).1) (by rw [y_atE o181]; rw [hc2]; have q9 := (h173.2.2.1 (by omega)).resolve_left htz; rw [hc5 q9.1]; exact q9)) (cwV 3 hts (ax_gV T_1151 T_1153 T_1154 T_265 T_1152) rfl rfl rfl (by decide +kernel) ⟨Nat.le_of_ble_eq_true rfl, Nat.le_of_ble_eq_true rfl⟩) ⟨fun a U g mk q => ⟨q.1, s_pc rfl rfl q.2⟩, s_recv hK hP (hLK _ ha0 (by decide)) (ci := 7) rfl oY179, fun U hU hW => ⟨rfl, s_pw hU hW hP hK hD hN⟩⟩ rfl rfl hl.1 rfl (lv_room (Nat.le_of_ble_eq_true rfl)) dX7_goes0_155 ⟨Nat.zero_le _, Nat.zero_le _⟩) hS (fun q _ h => h) (fun q h => h) (fun F187 t H1 locs ht hvm hw hB hz1 hk1 hS => ?_)
        obtain ⟨hP, hK1⟩ := hB
        rw [ht] at hP
        generalize H1 = H at hP hS ⊢
        clear hz1 hk1 hvm hK1
        obtain ⟨h188, h190, hI, hfr1, hzf, h189⟩ := hw
        have o191 : F187 (A 13) = .inl (cs 0, 400, .inl f1) := (hfr1 _ (by rw [(y_k13 hA)]; decide)).trans o178
        have oY192 : F187 a0 = .inr (7, y_fl A z0 q0) := (hfr1 _ (by rw [ha0]; decide)).trans oY179
        have hfr : ∀ b, K b ∉ [70, 71, 72] → F187 b = F b := fun b hb9 => (hfr1 b (fun q => hb9 (s_sub (by decide) q))).trans (hfr b hb9)
        obtain ⟨f193, o194, b195⟩ := y_op20 hI
        have h189 : (y_W0 f193 x1.toInt ∧ y_Ws (y_c f1 387).toInt f193 x1.toInt ∧ y_Wt (y_c f1 387).toInt f193 x1.toInt ∧ y_fw x1.toInt f180 f193) := by have q9 := h189; rw [y_atE o194, y_atE o178, y_atE o181] at q9; exact q9
        exact W.vret hx hb hr (fun t ht hW => ⟨⟨F187, rfl, ⟨trivial, trivial, hI, hfr, fun k hk => (y_fiZ oY192 (s_sub (by decide) hk)).trans ((hz0 k hk).trans (y_fiZ oY0 (s_sub (by decide) hk)).symm), (by rw [y_atE o2, y_atE o194, y_atE o5]; exact ⟨y_NGw ⟨by omega, by omega⟩ h189.2.2.2 h172 (y_NW0 (by rw [(congrArg Int32.toInt (y_fw3 (by omega) h189.2.2.2))]; omega) h189.1 h189.2.1 h189.2.2.1) (by omega), (y_fw3 (by omega) h189.2.2.2).trans hc3, (h189.2.2.2 4 (by omega) (by omega) (by omega) (by omega)).trans hc4⟩)⟩, by rw [ht]; exact hP, va_K.moved hW.alike hK⟩, hS.F ht⟩) hS.2.2 dX7_goes0_158
    · have c184 := (ax_eq (n := 1) (by decide)).mp c184
      refine lv_aload_n hx hb dX7_goes0_134 rfl (lv_at hl 0 rfl) ?_
      refine lv_iload_n hx hb dX7_goes0_135 rfl (lv_at hl 1 rfl) ?_
      refine lv_iload_n hx hb dX7_goes0_136 rfl (lv_at hl 3 rfl) ?_
      refine lv_iload_n hx hb dX7_goes0_137 rfl (lv_at hl 2 rfl) ?_
      refine va_callv (va_runV (As := [.int x1, .int w8, .int w7]) (rest := []) ⟨hx, hb, hml, hown, hts⟩ (y_X7_goesFair l dC dI H.size hLK A hA F177 a0 x1 w8 w7 ha0 (⟨by omega, by omega⟩) (⟨by omega, by omega⟩) hI (by rw [y_atE o178]; exact hPG) (by first | (rw [y_atE o178]; omega) | rw [y_atE o178]) (by rw [y_atE o181]; exact hNWg.1) (by rw [y_atE o178, y_atE o181]; exact (hNWg.2.2 (by omega))) (by first | (rw [y_atE o181]; omega) | rw [y_atE o181]) (by rw [y_atE o181]; exact ⟨htz, by rw [hc1]; exact h173.1⟩)) (cwV 3 hts (ax_gV T_1147 T_1149 T_1150 T_265 T_1148) rfl rfl rfl (by decide +kernel) ⟨Nat.le_of_ble_eq_true rfl, Nat.le_of_ble_eq_true rfl⟩) ⟨fun a U g mk q => ⟨q.1, s_pc rfl rfl q.2⟩, s_recv hK hP (hLK _ ha0 (by decide)) (ci := 7) rfl oY179, fun U hU hW => ⟨rfl, s_pw hU hW hP hK hD hN⟩⟩ rfl rfl hl.1 rfl (lv_room (Nat.le_of_ble_eq_true rfl)) dX7_goes0_138 ⟨Nat.zero_le _, Nat.zero_le _⟩) hS (fun q _ h => h) (fun q h => h) (fun F197 t H1 locs ht hvm hw hB hz1 hk1 hS => ?_)
      obtain ⟨hP, hK1⟩ := hB
      rw [ht] at hP
      generalize H1 = H at hP hS ⊢
      clear hz1 hk1 hvm hK1
      obtain ⟨h198, h200, hI, hfr1, hzf, h199⟩ := hw
      have o201 : F197 (A 13) = .inl (cs 0, 400, .inl f1) := (hfr1 _ (by rw [(y_k13 hA)]; decide)).trans o178
      have oY202 : F197 a0 = .inr (7, y_fl A z0 q0) := (hfr1 _ (by rw [ha0]; decide)).trans oY179
      have hfr : ∀ b, K b ∉ [70, 71, 72] → F197 b = F b := fun b hb9 => (hfr1 b (fun q => hb9 (s_sub (by decide) q))).trans (hfr b hb9)
      obtain ⟨f203, o204, b205⟩ := y_op20 hI
      have h199 : (y_W0 f203 x1.toInt ∧ y_Wf (y_c f1 387).toInt f203 x1.toInt ∧ y_fw x1.toInt f180 f203) := by have q9 := h199; rw [y_atE o204, y_atE o178, y_atE o181] at q9; exact q9
      refine lv_goto (tgt := 158) hx hb dX7_goes0_141 (by decide) ?_
      exact W.vret hx hb hr (fun t ht hW => ⟨⟨F197, rfl, ⟨trivial, trivial, hI, hfr, fun k hk => (y_fiZ oY202 (s_sub (by decide) hk)).trans ((hz0 k hk).trans (y_fiZ oY0 (s_sub (by decide) hk)).symm), (by rw [y_atE o2, y_atE o204, y_atE o5]; exact ⟨y_NGw ⟨by omega, by omega⟩ h199.2.2 h172 (y_NW1 (by rw [(congrArg Int32.toInt (y_fw3 (by omega) h199.2.2))]; omega) h199.1 h199.2.1) (by omega), (y_fw3 (by omega) h199.2.2).trans hc3, (h199.2.2 4 (by omega) (by omega) (by omega) (by omega)).trans hc4⟩)⟩, by rw [ht]; exact hP, va_K.moved hW.alike hK⟩, hS.F ht⟩) hS.2.2 dX7_goes0_158
