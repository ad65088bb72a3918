set_option maxHeartbeats 4000000 in
set_option maxRecDepth 100000 in
theorem y_X7_isLane (l : Launch) (dC : Nat → ClassId) (dI : Nat → Nat → Nat) (sz : Nat) {L : List Nat} {K : Nat → Nat} {cs : Nat → ClassId} (hLK : ∀ a {k : Nat}, K a = k → k ≠ 0 → a ∈ L) (A : Nat → Nat) (hA : y_A K A) (F : Nat → va_E) (a0 : Nat) (x1 : Int32) (x2 : Int32) (ha0 : K a0 = 9) (hI : y_I K cs A F) (hT : y_T (y_fi F a0 15) (y_at F (A 13)) (y_at F (A 20)) (y_at F (A 30)) (y_fi F a0 31) (y_fi F a0 32)) : Met l yX7_isLane (Cond.code yX7_isLane cX7_isLane 3 (some .boolean) :: T0) ({ frames := 2, cells := 0, slots := 0, locals := 46 }) (va_Pc [.ref a0, .int x1, .int x2] (s_W dC dI sz L F [(cs 0, .int), (cs 1, .byte), (cs 2, .long), (cs 3, .object RX5), (cs 4, .object RX4), (cs 5, .array .int), (cs 6, .char), (cs 7, .boolean)])) (va_Qi (fun (r : Int32) (G : Nat → va_E) => (0 ≤ r.toInt ∧ r.toInt ≤ 1) ∧ True ∧ y_I K cs A G ∧ (∀ b, K b ∉ ([] : List Nat) → G b = F b) ∧ (∀ k, k ∈ ([1, 2, 3, 4, 5, 6, 7, 8, 11, 15, 16, 19, 25, 26, 27, 31, 32] : List Nat) → y_fi G a0 k = y_fi F a0 k) ∧ (r.toInt = 0 ∨ ((y_fi F a0 15).toInt = 1 ∧ (0 ≤ x1.toInt ∧ x1.toInt < (y_c (y_at F (A 13)) 384).toInt) ∧ (0 ≤ x2.toInt ∧ x2.toInt ≤ 7)))) (fun (G : Nat → va_E) (t : State) => va_P (dC, dI) vwCl (va_pl L G) t.heap ∧ va_K (dC, dI) vwCl [(cs 0, .int), (cs 1, .byte), (cs 2, .long), (cs 3, .object RX5), (cs 4, .object RX4), (cs 5, .array .int), (cs 6, .char), (cs 7, .boolean)] t) (fun q => q ∈ L)) 0 0 (fun q => q ∈ L) := by
  refine Met.ofW (cc := cX7_isLane) (maxL := 3) (ret := (some .boolean)) (by decide) rfl ?_
  intro p e s m args below meth c s₁ B hml hv
  obtain ⟨rfl, hsz, hP, hK, hD, hN⟩ := hv
  have hx := B.exec
  have hb := B.bytes
  have hr := B.returns
  have hts : ∀ w ∈ T0, w.before _ s = true := fun w h => atoms_spec (ws := Cond.code yX7_isLane cX7_isLane 3 (some .boolean) :: T0) B.pre w (List.mem_cons_of_mem _ h)
  have hown : s.vm.findClass RX7 = some m.cls := findClass_of_methodNamed B.named
  have hlocks := B.notSynchronized
  have hS : va_S (fun q => q ∈ L) s.heap s.heap [] := va_S.rf
  have hfr : ∀ b, K b ∉ ([] : List Nat) → F b = F b := fun _ _ => rfl
  have hl := lv_entry ([.ref a0, .int x1, .int x2]) (n := 3) (Nat.le_of_ble_eq_true rfl)
  rw [lg_entry_eq]
  generalize (lg_sl ([.ref a0, .int x1, .int x2]) ++ List.replicate (3 - (lg_sl ([.ref a0, .int x1, .int x2])).length) Slot.unset).toArray = ls at hl ⊢
  have hl : lv_has ls 3 [(0, .ref a0), (1, .int x1), (2, .int x2)] := hl
  refine s_gen hP hS (fun H locs hP hS => ?_)
  obtain ⟨z0, q0, oY0, bz0, bq0⟩ := y_opY hI ha0
  have hz0 : ∀ k, k ∈ ([1, 2, 3, 4, 5, 6, 7, 8, 11, 15, 16, 19, 25, 26, 27, 31, 32] : List Nat) → z0 k = z0 k := fun _ _ => rfl
  obtain ⟨f1, o2, b3⟩ := y_op13 hI
  obtain ⟨f4, o5, b6⟩ := y_op20 hI
  obtain ⟨f7, o8, b9⟩ := y_op30 hI
  obtain ⟨v10, ev10⟩ : ∃ y : Int32, y = z0 15 := ⟨_, rfl⟩
  have qv10 : 0 ≤ v10.toInt ∧ v10.toInt ≤ 1 := by rw [ev10]; exact y_bY15 bz0
  have eF_15 := ev10
  obtain ⟨v11, ev11⟩ : ∃ y : Int32, y = z0 31 := ⟨_, rfl⟩
  have qv11 : 0 ≤ v11.toInt ∧ v11.toInt ≤ 20 := by rw [ev11]; exact y_bY31 bz0
  have eF_31 := ev11
  obtain ⟨v12, ev12⟩ : ∃ y : Int32, y = z0 32 := ⟨_, rfl⟩
  have qv12 : 0 ≤ v12.toInt ∧ v12.toInt ≤ 19 := by rw [ev12]; exact y_bY32 bz0
  have eF_32 := ev12
  replace hT : y_T v10 f1 f4 f7 v11 v12 := by have q9 := hT; rw [y_fiZ oY0 (k := 15) (by decide), ← ev10, y_atE o2, y_atE o5, y_atE o8, y_fiZ oY0 (k := 31) (by decide), ← ev11, y_fiZ oY0 (k := 32) (by decide), ← ev12] at q9; exact q9
  have e0_v10 := ev10
  have e0_v11 := ev11
  have e0_v12 := ev12
  refine lv_aload_n hx hb dX7_isLane_0 rfl (lv_at hl 0 rfl) ?_
  refine lv_iload_n hx hb dX7_isLane_1 rfl (lv_at hl 1 rfl) ?_
  have ep13_15 := ev10
  refine va_calli (va_runV (As := [.int x1]) (rest := []) ⟨hx, hb, hml, hown, hts⟩ (y_X7_isWarp l dC dI H.size hLK A hA F a0 x1 ha0 hI (by rw [y_fiZ oY0 (k := 15) (by decide), ← ev10, y_atE o2, y_atE o5, y_atE o8, y_fiZ oY0 (k := 31) (by decide), ← ev11, y_fiZ oY0 (k := 32) (by decide), ← ev12]; exact hT)) (cwV 1 hts (ax_gV T_313 T_314 T_315 T_265 T_34) rfl rfl rfl (by decide +kernel) ⟨Nat.le_of_ble_eq_true rfl, Nat.le_of_ble_eq_true rfl⟩) ⟨fun a U g mk q => ⟨q.1, s_pc (U := U) rfl rfl q.2⟩, s_recv hK hP (hLK _ ha0 (by decide)) (ci := 7) rfl oY0, fun U hU hW => ⟨rfl, s_pw hU hW hP hK hD hN⟩⟩ rfl rfl hl.1 rfl (lv_room (Nat.le_of_ble_eq_true rfl)) dX7_isLane_2 ⟨Nat.zero_le _, Nat.zero_le _⟩) hS (fun q _ h => h) (fun q h => h) (fun r14 F15 t H1 locs ht hvm hw hB hz1 hk1 hS => ?_)
  obtain ⟨hP, hK1⟩ := hB
  rw [ht] at hP
  generalize H1 = H at hP hS ⊢
  clear hz1 hk1 hvm hK1
  obtain ⟨h16, h18, hI, hfr1, hzf, h17⟩ := hw
  have o19 : F15 (A 13) = .inl (cs 0, 400, .inl f1) := (hfr1 _ (by rw [(y_k13 hA)]; decide)).trans o2
  have o20 : F15 (A 20) = .inl (cs 0, 918, .inl f4) := (hfr1 _ (by rw [(y_k20 hA)]; decide)).trans o5
  have o21 : F15 (A 30) = .inl (cs 0, 18360, .inl f7) := (hfr1 _ (by rw [(y_k30 hA)]; decide)).trans o8
  have oY22 : F15 a0 = .inr (7, y_fl A z0 q0) := (hfr1 _ (by rw [ha0]; decide)).trans oY0
  have hfr : ∀ b, K b ∉ ([] : List Nat) → F15 b = F b := fun b hb9 => (hfr1 b (fun q => hb9 (s_sub (by decide) q))).trans (hfr b hb9)
  replace h17 : (r14.toInt = 0 ∨ (v10.toInt = 1 ∧ 0 ≤ x1.toInt ∧ x1.toInt < (y_c f1 384).toInt)) := by have q9 := h17; rw [y_fiZ oY0 (k := 15) (by decide), ← ep13_15, y_atE o2] at q9; exact q9
  refine lv_if_eq (tgt := 24) hx hb dX7_isLane_5 (by decide) (fun c23 => ?_) (fun c23 => ?_)
  · have c23 := (ax_eq (n := 0) (by decide)).mp c23
    refine lv_iconst (v := 0) hx hb dX7_isLane_24 (by decide) ?_
    have h24 : (0 : Int32).toInt = 0 := by decide
    exact W.zret (v := 0) (ty := .boolean) hx hb hr (by decide) (fun t ht hW => ⟨⟨0, F15, rfl, ⟨(by decide), trivial, hI, hfr, fun k hk => (y_fiZ oY22 (s_sub (by decide) hk)).trans ((hz0 k hk).trans (y_fiZ oY0 (s_sub (by decide) hk)).symm), (by first | (rw [y_fiZ oY0 (k := 15) (by decide), ← eF_15, y_atE o2]; omega) | rw [y_fiZ oY0 (k := 15) (by decide), ← eF_15, y_atE o2])⟩, by rw [ht]; exact hP, va_K.moved hW.alike hK⟩, hS.F ht⟩) hS.2.2 dX7_isLane_25
  · have c23 := mt (ax_eq (n := 0) (by decide)).mpr c23
    refine lv_iload_n hx hb dX7_isLane_8 rfl (lv_at hl 2 rfl) ?_
    refine lv_i2l hx hb dX7_isLane_9 rfl ?_
    refine lv_topl (fun v25 ev25 => ?_)
    have qv25 : v25.toInt = x2.toInt := y_i2l ev25
    refine lv_lconst (v := 0) hx hb dX7_isLane_10 (by decide) ?_
    refine lv_ldc2 hx hb hown (hts _ T_1215) dX7_isLane_11 ?_
    refine va_calli (va_runS (As := [.long v25, .long 0, .long 7]) (rest := []) ⟨hx, hb, hml, hown, hts⟩ (y_X7_isIn l dC dI H.size F15 v25 0 7) (cwS 3 hts (ax_gS T_267 T_268 T_265 T_21) rfl rfl rfl (by decide +kernel) ⟨Nat.le_of_ble_eq_true rfl, Nat.le_of_ble_eq_true rfl⟩) ⟨fun a U g mk q => ⟨q.1, s_pc (U := U) rfl rfl q.2⟩, fun U hU hW => ⟨rfl, s_pw hU hW hP hK hD hN⟩⟩ rfl rfl hl.1 rfl (lv_room (Nat.le_of_ble_eq_true rfl)) dX7_isLane_14 ⟨Nat.zero_le _, Nat.zero_le _⟩) hS (fun q _ h => h) (fun q h => h) (fun r27 F28 t H1 locs ht hvm hw hB hz1 hk1 hS => ?_)
    obtain ⟨hP, hK1⟩ := hB
    rw [ht] at hP
    generalize H1 = H at hP hS ⊢
    clear hz1 hk1 hvm hK1
    obtain ⟨h29, h31, hG9, h30⟩ := hw
    rw [hG9] at hP
    replace h30 : ((r27.toInt = 0 ∧ (v25.toInt < 0 ∨ 7 < v25.toInt)) ∨ (r27.toInt = 1 ∧ 0 ≤ v25.toInt ∧ v25.toInt ≤ 7)) := by have q9 := h30; exact q9
    refine lv_if_eq (tgt := 24) hx hb dX7_isLane_17 (by decide) (fun c32 => ?_) (fun c32 => ?_)
    · have c32 := (ax_eq (n := 0) (by decide)).mp c32
      refine lv_iconst (v := 0) hx hb dX7_isLane_24 (by decide) ?_
      have h33 : (0 : Int32).toInt = 0 := by decide
      exact W.zret (v := 0) (ty := .boolean) hx hb hr (by decide) (fun t ht hW => ⟨⟨0, F15, rfl, ⟨(by decide), trivial, hI, hfr, fun k hk => (y_fiZ oY22 (s_sub (by decide) hk)).trans ((hz0 k hk).trans (y_fiZ oY0 (s_sub (by decide) hk)).symm), (by first | (rw [y_fiZ oY0 (k := 15) (by decide), ← eF_15, y_atE o2]; omega) | rw [y_fiZ oY0 (k := 15) (by decide), ← eF_15, y_atE o2])⟩, by rw [ht]; exact hP, va_K.moved hW.alike hK⟩, hS.F ht⟩) hS.2.2 dX7_isLane_25
    · have c32 := mt (ax_eq (n := 0) (by decide)).mpr c32
      refine lv_iconst (v := 1) hx hb dX7_isLane_20 (by decide) ?_
      refine lv_goto (tgt := 25) hx hb dX7_isLane_21 (by decide) ?_
      have h34 : (1 : Int32).toInt = 1 := by decide
      exact W.zret (v := 1) (ty := .boolean) hx hb hr (by decide) (fun t ht hW => ⟨⟨1, F15, rfl, ⟨(by decide), trivial, hI, hfr, fun k hk => (y_fiZ oY22 (s_sub (by decide) hk)).trans ((hz0 k hk).trans (y_fiZ oY0 (s_sub (by decide) hk)).symm), (by first | (rw [y_fiZ oY0 (k := 15) (by decide), ← eF_15, y_atE o2]; omega) | rw [y_fiZ oY0 (k := 15) (by decide), ← eF_15, y_atE o2])⟩, by rw [ht]; exact hP, va_K.moved hW.alike hK⟩, hS.F ht⟩) hS.2.2 dX7_isLane_25

set_option maxHeartbeats 4000000 in
set_option maxRecDepth 100000 in
theorem y_X7_nextOf (l : Launch) (dC : Nat → ClassId) (dI : Nat → Nat → Nat) (sz : Nat) {L : List Nat} {K : Nat → Nat} {cs : Nat → ClassId} (hLK : ∀ a {k : Nat}, K a = k → k ≠ 0 → a ∈ L) (A : Nat → Nat) (hA : y_A K A) (F : Nat → va_E) (a0 : Nat) (x1 : Int32) (x2 : Int32) (ha0 : K a0 = 9) (hx1 : 0 ≤ x1.toInt ∧ x1.toInt ≤ 3) (hx2 : 0 ≤ x2.toInt ∧ x2.toInt ≤ 7) (hI : y_I K cs A F) (hNW : y_NW (y_c (y_at F (A 13)) 387).toInt (y_at F (A 20)) x1.toInt) (hmd : (0 ≤ (y_c (y_at F (A 20)) 3).toInt ∧ (y_c (y_at F (A 20)) 3).toInt ≤ 1)) : Met l yX7_nextOf (Cond.code yX7_nextOf cX7_nextOf 4 (some .int) :: T0) ({ frames := 3, cells := 0, slots := 0, locals := 64 }) (va_Pc [.ref a0, .int x1, .int x2] (s_W dC dI sz L F [(cs 0, .int), (cs 1, .byte), (cs 2, .long), (cs 3, .object RX5), (cs 4, .object RX4), (cs 5, .array .int), (cs 6, .char), (cs 7, .boolean)])) (va_Qi (fun (r : Int32) (G : Nat → va_E) => True ∧ True ∧ y_I K cs A G ∧ (∀ b, K b ∉ ([] : List Nat) → G b = F b) ∧ (∀ k, k ∈ ([1, 2, 3, 4, 5, 6, 7, 8, 11, 15, 16, 19, 25, 26, 27, 31, 32] : List Nat) → y_fi G a0 k = y_fi F a0 k) ∧ True) (fun (G : Nat → va_E) (t : State) => va_P (dC, dI) vwCl (va_pl L G) t.heap ∧ va_K (dC, dI) vwCl [(cs 0, .int), (cs 1, .byte), (cs 2, .long), (cs 3, .object RX5), (cs 4, .object RX4), (cs 5, .array .int), (cs 6, .char), (cs 7, .boolean)] t) (fun q => q ∈ L)) 0 0 (fun q => q ∈ L) := by
  refine Met.ofW (cc := cX7_nextOf) (maxL := 4) (ret := (some .int)) (by decide) rfl ?_
  intro p e s m args below meth c s₁ B hml hv
  obtain ⟨rfl, hsz, hP, hK, hD, hN⟩ := hv
  have hx := B.exec
  have hb := B.bytes
  have hr := B.returns
  have hts : ∀ w ∈ T0, w.before _ s = true := fun w h => atoms_spec (ws := Cond.code yX7_nextOf cX7_nextOf 4 (some .int) :: T0) B.pre w (List.mem_cons_of_mem _ h)
  have hown : s.vm.findClass RX7 = some m.cls := findClass_of_methodNamed B.named
  have hlocks := B.notSynchronized
  have hS : va_S (fun q => q ∈ L) s.heap s.heap [] := va_S.rf
  have hfr : ∀ b, K b ∉ ([] : List Nat) → F b = F b := fun _ _ => rfl
  have hl := lv_entry ([.ref a0, .int x1, .int x2]) (n := 4) (Nat.le_of_ble_eq_true rfl)
  rw [lg_entry_eq]
  generalize (lg_sl ([.ref a0, .int x1, .int x2]) ++ List.replicate (4 - (lg_sl ([.ref a0, .int x1, .int x2])).length) Slot.unset).toArray = ls at hl ⊢
  have hl : lv_has ls 4 [(0, .ref a0), (1, .int x1), (2, .int x2)] := hl
  refine s_gen hP hS (fun H locs hP hS => ?_)
  obtain ⟨z0, q0, oY0, bz0, bq0⟩ := y_opY hI ha0
  have hz0 : ∀ k, k ∈ ([1, 2, 3, 4, 5, 6, 7, 8, 11, 15, 16, 19, 25, 26, 27, 31, 32] : List Nat) → z0 k = z0 k := fun _ _ => rfl
  obtain ⟨f1, o2, b3⟩ := y_op13 hI
  obtain ⟨f4, o5, b6⟩ := y_op20 hI
  replace hNW : y_NW (y_c f1 387).toInt f4 x1.toInt := by have q9 := hNW; rw [y_atE o2, y_atE o5] at q9; exact q9
  replace hmd : (0 ≤ (y_c f4 3).toInt ∧ (y_c f4 3).toInt ≤ 1) := by have q9 := hmd; rw [y_atE o5] at q9; exact q9
  have hnw := hNW.1.2.2
  refine lv_aload_n hx hb dX7_nextOf_0 rfl (lv_at hl 0 rfl) ?_
  refine lv_iload_n hx hb dX7_nextOf_1 rfl (lv_at hl 1 rfl) ?_
  refine lv_iconst (v := 3) hx hb dX7_nextOf_2 (by decide) ?_
  have rg7 : 0 ≤ x1.toInt ∧ x1.toInt ≤ 3 := ⟨by omega, by omega⟩
  refine va_calli (va_runV (As := [.int x1, .int 3]) (rest := []) ⟨hx, hb, hml, hown, hts⟩ (y_X7_its l dC dI H.size hLK A hA F a0 x1 3 ha0 rg7 (by decide) hI) (cwV 2 hts (ax_gV T_1057 T_1059 T_1060 T_265 T_1058) rfl rfl rfl (by decide +kernel) ⟨Nat.le_of_ble_eq_true rfl, Nat.le_of_ble_eq_true rfl⟩) ⟨fun a U g mk q => ⟨q.1, s_pc (U := U) rfl rfl q.2⟩, s_recv hK hP (hLK _ ha0 (by decide)) (ci := 7) rfl oY0, fun U hU hW => ⟨rfl, s_pw hU hW hP hK hD hN⟩⟩ rfl rfl hl.1 rfl (lv_room (Nat.le_of_ble_eq_true rfl)) dX7_nextOf_3 ⟨Nat.zero_le _, Nat.zero_le _⟩) hS (fun q _ h => h) (fun q h => h) (fun r9 F10 t H1 locs ht hvm hw hB hz1 hk1 hS => ?_)
  obtain ⟨hP, hK1⟩ := hB
  rw [ht] at hP
  generalize H1 = H at hP hS ⊢
  clear hz1 hk1 hvm hK1
  obtain ⟨h11, h13, hI, hfr1, hzf, h12⟩ := hw
  have o14 : F10 (A 13) = .inl (cs 0, 400, .inl f1) := (hfr1 _ (by rw [(y_k13 hA)]; decide)).trans o2
  have o15 : F10 (A 20) = .inl (cs 0, 918, .inl f4) := (hfr1 _ (by rw [(y_k20 hA)]; decide)).trans o5
  have oY16 : F10 a0 = .inr (7, y_fl A z0 q0) := (hfr1 _ (by rw [ha0]; decide)).trans oY0
  have hfr : ∀ b, K b ∉ ([] : List Nat) → F10 b = F b := fun b hb9 => (hfr1 b (fun q => hb9 (s_sub (by decide) q))).trans (hfr b hb9)
  replace h12 : (r9 = y_c f4 (104 + 6 * x1.toInt + 3)) := by have q9 := h12; rw [y_atE o5] at q9; exact q9
  have h12 : r9 = y_c f4 (107 + 6 * x1.toInt) := h12.trans (congrArg (y_c f4) (by omega))
  have h17 := congrArg Int32.toInt h12
  refine lv_iload_n hx hb dX7_nextOf_6 rfl (lv_at hl 2 rfl) ?_
  have rg18 : 0 ≤ x2.toInt ∧ x2.toInt ≤ 31 := ⟨by omega, by omega⟩
  refine va_calli (va_runS (As := [.int r9, .int x2]) (rest := []) ⟨hx, hb, hml, hown, hts⟩ (y_X7_isOf l dC dI H.size F10 r9 x2 rg18) (cwS 2 hts (ax_gS T_1027 T_1029 T_265 T_1028) rfl rfl rfl (by decide +kernel) ⟨Nat.le_of_ble_eq_true rfl, Nat.le_of_ble_eq_true rfl⟩) ⟨fun a U g mk q => ⟨q.1, s_pc (U := U) rfl rfl q.2⟩, fun U hU hW => ⟨rfl, s_pw hU hW hP hK hD hN⟩⟩ rfl rfl hl.1 rfl (lv_room (Nat.le_of_ble_eq_true rfl)) dX7_nextOf_7 ⟨Nat.zero_le _, Nat.zero_le _⟩) hS (fun q _ h => h) (fun q h => h) (fun r20 F21 t H1 locs ht hvm hw hB hz1 hk1 hS => ?_)
  obtain ⟨hP, hK1⟩ := hB
  rw [ht] at hP
  generalize H1 = H at hP hS ⊢
  clear hz1 hk1 hvm hK1
  obtain ⟨h22, h24, hG9, h23⟩ := hw
  rw [hG9] at hP
  replace h23 : ((r20.toInt = 1 ∧ bt r9 x2.toInt.toNat = true) ∨ (r20.toInt = 0 ∧ bt r9 x2.toInt.toNat = false)) := by have q9 := h23; exact q9
  refine lv_if_ne (tgt := 18) hx hb dX7_nextOf_10 (by decide) (fun c25 => ?_) (fun c25 => ?_)
  · have c25 := mt (ax_eq (n := 0) (by decide)).mpr c25
    have hbl := y_bT h23 c25
    rw [h12] at hbl
    refine lv_aload_n hx hb dX7_nextOf_18 rfl (lv_at hl 0 rfl) ?_
    refine th_get (D := (dC, dI)) (ci := 7) (v := .ref (A 20)) (C := RX7) (T := TX7) (N := 34) hx hb hts inX7 hown hK hP (hLK _ ha0 (by decide)) oY16 rfl 20 (by decide) (hts _ T_251) (fun _ h9 => h9) rfl dX7_nextOf_19 ?_
    refine lv_iconst (v := 3) hx hb dX7_nextOf_22 (by decide) ?_
    refine th_iald hx hb hK hP (hLK _ (y_k20 hA) (by decide)) 0 o15 rfl (ax_in (by decide)) dX7_nextOf_23 ?_
    refine lv_topi (fun v26 ev26 => ?_)
    have Ev26 : v26 = y_c f4 (3) := ev26.trans (y_ci (by decide))
    have tEv26 := congrArg Int32.toInt Ev26
    refine lv_iconst (v := 1) hx hb dX7_nextOf_24 (by decide) ?_
    refine lv_icmp_ne (tgt := 39) hx hb dX7_nextOf_25 (by decide) (fun c27 => ?_) (fun c27 => ?_)
    · have c27 := mt (ax_eq (n := 1) (by decide)).mpr c27
      obtain ⟨hS1, hS2⟩ := hNW.2.1 (by omega)
      have hgn : 0 < (y_c f4 (109 + 6 * x1.toInt)).toInt := by apply Classical.byContradiction; intro hh; have q9 := hS1.2.2.1 (by omega); rw [q9, b_0] at hbl; cases hbl
      have hb0 := hS1.2.2.2 hgn _ hbl
      refine lv_aload_n hx hb dX7_nextOf_39 rfl (lv_at hl 0 rfl) ?_
      refine lv_iload_n hx hb dX7_nextOf_40 rfl (lv_at hl 1 rfl) ?_
      refine va_calli (va_runV (As := [.int x1]) (rest := []) ⟨hx, hb, hml, hown, hts⟩ (y_X7_top l dC dI H.size hLK A hA F10 a0 x1 ha0 rg7 hI) (cwV 1 hts (ax_gV T_1074 T_1076 T_1077 T_265 T_1075) rfl rfl rfl (by decide +kernel) ⟨Nat.le_of_ble_eq_true rfl, Nat.le_of_ble_eq_true rfl⟩) ⟨fun a U g mk q => ⟨q.1, s_pc (U := U) rfl rfl q.2⟩, s_recv hK hP (hLK _ ha0 (by decide)) (ci := 7) rfl oY16, fun U hU hW => ⟨rfl, s_pw hU hW hP hK hD hN⟩⟩ rfl rfl hl.1 rfl (lv_room (Nat.le_of_ble_eq_true rfl)) dX7_nextOf_41 ⟨Nat.zero_le _, Nat.zero_le _⟩) hS (fun q _ h => h) (fun q h => h) (fun r29 F30 t H1 locs ht hvm hw hB hz1 hk1 hS => ?_)
      obtain ⟨hP, hK1⟩ := hB
      rw [ht] at hP
      generalize H1 = H at hP hS ⊢
      clear hz1 hk1 hvm hK1
      obtain ⟨h31, h33, hI, hfr1, hzf, h32⟩ := hw
      have o34 : F30 (A 13) = .inl (cs 0, 400, .inl f1) := (hfr1 _ (by rw [(y_k13 hA)]; decide)).trans o14
      have o35 : F30 (A 20) = .inl (cs 0, 918, .inl f4) := (hfr1 _ (by rw [(y_k20 hA)]; decide)).trans o15
      have oY36 : F30 a0 = .inr (7, y_fl A z0 q0) := (hfr1 _ (by rw [ha0]; decide)).trans oY16
      have hfr : ∀ b, K b ∉ ([] : List Nat) → F30 b = F b := fun b hb9 => (hfr1 b (fun q => hb9 (s_sub (by decide) q))).trans (hfr b hb9)
      replace h32 : (r29 = y_c f4 (109 + 6 * x1.toInt) - 1) := by have q9 := h32; rw [y_atE o15] at q9; exact q9
      have h37 := congrArg Int32.toInt h32
      have h38 : 0 ≤ r29.toInt ∧ r29.toInt ≤ 14 := by have q9 : r29.toInt = (y_c f4 (109 + 6 * x1.toInt)).toInt - 1 := (by rw [h32]; exact th_sub rfl (by decide) ⟨by omega, by omega⟩); exact ⟨by omega, by omega⟩
      have h39 : r29.toInt = (y_c f4 (109 + 6 * x1.toInt)).toInt - 1 := by rw [h32]; exact th_sub rfl (by decide) ⟨by omega, by omega⟩
      refine lv_istore_n (lv' := [(3, .int r29), (0, .ref a0), (1, .int x1), (2, .int x2)]) hx hb dX7_nextOf_44 rfl hl (by decide) rfl (fun ls hl => ?_)
      refine th_loop (fun n g H locs => ∃ (G : Nat → va_E) (ls : Array Slot) (w40 : Int32), g = F0 m 45 ls [] ∧ lv_has ls 4 [(0, .ref a0), (1, .int x1), (2, .int x2), (3, .int w40)] ∧ va_P (dC, dI) vwCl (va_pl L G) H ∧ va_S (fun q => q ∈ L) s.heap H locs ∧ y_I K cs A G ∧ (∀ b, K b ∉ ([] : List Nat) → G b = F b) ∧ (∀ k, k ∈ ([1, 2, 3, 4, 5, 6, 7, 8, 11, 15, 16, 19, 25, 26, 27, 31, 32] : List Nat) → y_fi G a0 k = z0 k) ∧ (0 ≤ w40.toInt ∧ w40.toInt ≤ 14) ∧ (0 ≤ x1.toInt ∧ x1.toInt ≤ 3) ∧ (0 ≤ x2.toInt ∧ x2.toInt ≤ 7) ∧ (0 ≤ w40.toInt ∧ w40.toInt < (y_c f4 (109 + 6 * x1.toInt)).toInt) ∧ n = (w40.toInt - (-1)).toNat) _ ⟨F30, _, r29, rfl, lv_sub hl [1, 2, 3, 0] rfl, hP, hS, hI, hfr, (fun k hk => (y_fiZ oY36 (s_sub (by decide) hk)).trans (hz0 k hk)), ⟨by omega, by omega⟩, ⟨by omega, by omega⟩, ⟨by omega, by omega⟩, (by omega), rfl⟩ (fun n ih45 g H locs hq => ?_)
      obtain ⟨F45, ls, w40, rfl, hl, hP, hS, hI, hfr, hz0, h41, h42, h43, h44, hn⟩ := hq
      have o46 : F45 (A 13) = .inl (cs 0, 400, .inl f1) := (hfr _ (by rw [(y_k13 hA)]; decide)).trans o2
      have o47 : F45 (A 20) = .inl (cs 0, 918, .inl f4) := (hfr _ (by rw [(y_k20 hA)]; decide)).trans o5
      have oY48 : F45 a0 = .inr (7, y_fl A z0 q0) := (hfr _ (by rw [ha0]; decide)).trans oY0
      have hz0 : ∀ k, k ∈ ([1, 2, 3, 4, 5, 6, 7, 8, 11, 15, 16, 19, 25, 26, 27, 31, 32] : List Nat) → z0 k = z0 k := fun _ _ => rfl
      have hn_48 := hn
      refine lv_aload_n hx hb dX7_nextOf_45 rfl (lv_at hl 0 rfl) ?_
      refine th_get (D := (dC, dI)) (ci := 7) (v := .ref (A 20)) (C := RX7) (T := TX7) (N := 34) hx hb hts inX7 hown hK hP (hLK _ ha0 (by decide)) oY48 rfl 20 (by decide) (hts _ T_251) (fun _ h9 => h9) rfl dX7_nextOf_46 ?_
      refine lv_iload_n hx hb dX7_nextOf_49 rfl (lv_at hl 1 rfl) ?_
      refine lv_iload_n hx hb dX7_nextOf_50 rfl (lv_at hl 3 rfl) ?_
      refine lv_iconst (v := 2) hx hb dX7_nextOf_51 (by decide) ?_
      have rg49 : 0 ≤ w40.toInt ∧ w40.toInt ≤ 15 := ⟨by omega, by omega⟩
      refine va_calli (va_runS (As := [.int x1, .int w40, .int 2]) (rest := [.ref (A 20)]) ⟨hx, hb, hml, hown, hts⟩ (y_X7_partAt l dC dI H.size F45 x1 w40 2 rg7 rg49 (by decide)) (cwS 3 hts (ax_gS T_1078 T_1080 T_265 T_1079) rfl rfl rfl (by decide +kernel) ⟨Nat.le_of_ble_eq_true rfl, Nat.le_of_ble_eq_true rfl⟩) ⟨fun a U g mk q => ⟨q.1, s_pc (U := U) rfl rfl q.2⟩, fun U hU hW => ⟨rfl, s_pw hU hW hP hK hD hN⟩⟩ rfl rfl hl.1 rfl (lv_room (Nat.le_of_ble_eq_true rfl)) dX7_nextOf_52 ⟨Nat.zero_le _, Nat.zero_le _⟩) hS (fun q _ h => h) (fun q h => h) (fun r51 F52 t H1 locs ht hvm hw hB hz1 hk1 hS => ?_)
      obtain ⟨hP, hK1⟩ := hB
      rw [ht] at hP
      generalize H1 = H at hP hS ⊢
      clear hz1 hk1 hvm hK1
      obtain ⟨h53, h55, hG9, h54⟩ := hw
      rw [hG9] at hP
      replace h54 : (r51.toInt = 288 + 48 * x1.toInt + 3 * w40.toInt + 2) := by have q9 := h54; exact q9
      refine th_iald hx hb hK hP (hLK _ (y_k20 hA) (by decide)) 0 o47 rfl (th_in ⟨by omega, by omega⟩) dX7_nextOf_55 ?_
      refine lv_topi (fun v56 ev56 => ?_)
      have Ev56 : v56 = y_c f4 (290 + 48 * x1.toInt + 3 * w40.toInt) := ev56.trans (y_ci (by omega))
      have tEv56 := congrArg Int32.toInt Ev56
      refine lv_iload_n hx hb dX7_nextOf_56 rfl (lv_at hl 2 rfl) ?_
      refine va_calli (va_runS (As := [.int v56, .int x2]) (rest := []) ⟨hx, hb, hml, hown, hts⟩ (y_X7_isOf l dC dI H.size F45 v56 x2 rg18) (cwS 2 hts (ax_gS T_1027 T_1029 T_265 T_1028) rfl rfl rfl (by decide +kernel) ⟨Nat.le_of_ble_eq_true rfl, Nat.le_of_ble_eq_true rfl⟩) ⟨fun a U g mk q => ⟨q.1, s_pc (U := U) rfl rfl q.2⟩, fun U hU hW => ⟨rfl, s_pw hU hW hP hK hD hN⟩⟩ rfl rfl hl.1 rfl (lv_room (Nat.le_of_ble_eq_true rfl)) dX7_nextOf_57 ⟨Nat.zero_le _, Nat.zero_le _⟩) hS (fun q _ h => h) (fun q h => h) (fun r58 F59 t H1 locs ht hvm hw hB hz1 hk1 hS => ?_)
      obtain ⟨hP, hK1⟩ := hB
      rw [ht] at hP
      generalize H1 = H at hP hS ⊢
      clear hz1 hk1 hvm hK1
      obtain ⟨h60, h62, hG9, h61⟩ := hw
      rw [hG9] at hP
      replace h61 : ((r58.toInt = 1 ∧ bt v56 x2.toInt.toNat = true) ∨ (r58.toInt = 0 ∧ bt v56 x2.toInt.toNat = false)) := by have q9 := h61; exact q9
      refine lv_if_ne (tgt := 69) hx hb dX7_nextOf_60 (by decide) (fun c63 => ?_) (fun c63 => ?_)
      · have c63 := mt (ax_eq (n := 0) (by decide)).mpr c63
        refine lv_aload_n hx hb dX7_nextOf_69 rfl (lv_at hl 0 rfl) ?_
        refine th_get (D := (dC, dI)) (ci := 7) (v := .ref (A 20)) (C := RX7) (T := TX7) (N := 34) hx hb hts inX7 hown hK hP (hLK _ ha0 (by decide)) oY48 rfl 20 (by decide) (hts _ T_251) (fun _ h9 => h9) rfl dX7_nextOf_70 ?_
        refine lv_iload_n hx hb dX7_nextOf_73 rfl (lv_at hl 1 rfl) ?_
        refine lv_iload_n hx hb dX7_nextOf_74 rfl (lv_at hl 3 rfl) ?_
        refine lv_iconst (v := 0) hx hb dX7_nextOf_75 (by decide) ?_
        refine va_calli (va_runS (As := [.int x1, .int w40, .int 0]) (rest := [.ref (A 20)]) ⟨hx, hb, hml, hown, hts⟩ (y_X7_partAt l dC dI H.size F45 x1 w40 0 rg7 rg49 (by decide)) (cwS 3 hts (ax_gS T_1078 T_1080 T_265 T_1079) rfl rfl rfl (by decide +kernel) ⟨Nat.le_of_ble_eq_true rfl, Nat.le_of_ble_eq_true rfl⟩) ⟨fun a U g mk q => ⟨q.1, s_pc (U := U) rfl rfl q.2⟩, fun U hU hW => ⟨rfl, s_pw hU hW hP hK hD hN⟩⟩ rfl rfl hl.1 rfl (lv_room (Nat.le_of_ble_eq_true rfl)) dX7_nextOf_76 ⟨Nat.zero_le _, Nat.zero_le _⟩) hS (fun q _ h => h) (fun q h => h) (fun r65 F66 t H1 locs ht hvm hw hB hz1 hk1 hS => ?_)
        obtain ⟨hP, hK1⟩ := hB
        rw [ht] at hP
        generalize H1 = H at hP hS ⊢
        clear hz1 hk1 hvm hK1
        obtain ⟨h67, h69, hG9, h68⟩ := hw
        rw [hG9] at hP
        replace h68 : (r65.toInt = 288 + 48 * x1.toInt + 3 * w40.toInt + 0) := by have q9 := h68; exact q9
        refine th_iald hx hb hK hP (hLK _ (y_k20 hA) (by decide)) 0 o47 rfl (th_in ⟨by omega, by omega⟩) dX7_nextOf_79 ?_
        refine lv_topi (fun v70 ev70 => ?_)
        exact W.iret (v := v70) hx hb hr (fun t ht hW => ⟨⟨v70, F45, rfl, ⟨trivial, trivial, hI, hfr, fun k hk => (y_fiZ oY48 (s_sub (by decide) hk)).trans ((hz0 k hk).trans (y_fiZ oY0 (s_sub (by decide) hk)).symm), trivial⟩, by rw [ht]; exact hP, va_K.moved hW.alike hK⟩, hS.F ht⟩) hS.2.2 dX7_nextOf_80
      · have c63 := (ax_eq (n := 0) (by decide)).mp c63
        have hbx := y_bF h61 c63
        have hk0 : ¬ w40.toInt = 0 := fun q => by rw [Ev56, q, show 290 + 48 * x1.toInt + 3 * 0 = 290 + 48 * x1.toInt by omega, hb0] at hbx; cases hbx
        obtain ⟨v71, ev71⟩ : ∃ y : Int32, w40 + (-1) = y := ⟨_, rfl⟩
        have qv71 : v71.toInt = w40.toInt + (-1) := by rw [← ev71]; exact th_add rfl (by decide) ⟨by omega, by omega⟩
        refine lv_iinc (v := v71) (lv' := [(3, .int v71), (0, .ref a0), (1, .int x1), (2, .int x2)]) hx hb dX7_nextOf_63 hl (k := 3) rfl ev71 (by decide) rfl (fun ls hl => ?_)
        have h72 : 0 ≤ v71.toInt ∧ v71.toInt ≤ 14 := ⟨by omega, by omega⟩
        refine lv_goto (tgt := 45) hx hb dX7_nextOf_66 (by decide) ?_
        exact ih45 _ _ _ _ (by omega) ⟨F45, _, v71, rfl, lv_sub hl [1, 2, 3, 0] rfl, hP, hS, hI, hfr, (fun k hk => (y_fiZ oY48 (s_sub (by decide) hk)).trans (hz0 k hk)), ⟨by omega, by omega⟩, ⟨by omega, by omega⟩, ⟨by omega, by omega⟩, (by omega), rfl⟩
    · have c27 := (ax_eq (n := 1) (by decide)).mp c27
      refine lv_aload_n hx hb dX7_nextOf_28 rfl (lv_at hl 0 rfl) ?_
      refine th_get (D := (dC, dI)) (ci := 7) (v := .ref (A 20)) (C := RX7) (T := TX7) (N := 34) hx hb hts inX7 hown hK hP (hLK _ ha0 (by decide)) oY16 rfl 20 (by decide) (hts _ T_251) (fun _ h9 => h9) rfl dX7_nextOf_29 ?_
      refine lv_iload_n hx hb dX7_nextOf_32 rfl (lv_at hl 1 rfl) ?_
      refine lv_iload_n hx hb dX7_nextOf_33 rfl (lv_at hl 2 rfl) ?_
      have rg73 : 0 ≤ x2.toInt ∧ x2.toInt ≤ 7 := ⟨by omega, by omega⟩
      refine va_calli (va_runS (As := [.int x1, .int x2]) (rest := [.ref (A 20)]) ⟨hx, hb, hml, hown, hts⟩ (y_X7_nextAt l dC dI H.size F10 x1 x2 rg7 rg73) (cwS 2 hts (ax_gS T_1024 T_1026 T_265 T_1025) rfl rfl rfl (by decide +kernel) ⟨Nat.le_of_ble_eq_true rfl, Nat.le_of_ble_eq_true rfl⟩) ⟨fun a U g mk q => ⟨q.1, s_pc (U := U) rfl rfl q.2⟩, fun U hU hW => ⟨rfl, s_pw hU hW hP hK hD hN⟩⟩ rfl rfl hl.1 rfl (lv_room (Nat.le_of_ble_eq_true rfl)) dX7_nextOf_34 ⟨Nat.zero_le _, Nat.zero_le _⟩) hS (fun q _ h => h) (fun q h => h) (fun r75 F76 t H1 locs ht hvm hw hB hz1 hk1 hS => ?_)
      obtain ⟨hP, hK1⟩ := hB
      rw [ht] at hP
      generalize H1 = H at hP hS ⊢
      clear hz1 hk1 hvm hK1
      obtain ⟨h77, h79, hG9, h78⟩ := hw
      rw [hG9] at hP
      replace h78 : (r75.toInt = 256 + 8 * x1.toInt + x2.toInt) := by have q9 := h78; exact q9
      refine th_iald hx hb hK hP (hLK _ (y_k20 hA) (by decide)) 0 o15 rfl (th_in ⟨by omega, by omega⟩) dX7_nextOf_37 ?_
      refine lv_topi (fun v80 ev80 => ?_)
      exact W.iret (v := v80) hx hb hr (fun t ht hW => ⟨⟨v80, F10, rfl, ⟨trivial, trivial, hI, hfr, fun k hk => (y_fiZ oY16 (s_sub (by decide) hk)).trans ((hz0 k hk).trans (y_fiZ oY0 (s_sub (by decide) hk)).symm), trivial⟩, by rw [ht]; exact hP, va_K.moved hW.alike hK⟩, hS.F ht⟩) hS.2.2 dX7_nextOf_38
  · have c25 := (ax_eq (n := 0) (by decide)).mp c25
    refine lv_aload_n hx hb dX7_nextOf_13 rfl (lv_at hl 0 rfl) ?_
    refine va_calli (va_runV (As := []) (rest := []) ⟨hx, hb, hml, hown, hts⟩ (y_X7_lines l dC dI H.size hLK A hA F10 a0 ha0 hI) (cwV 0 hts (ax_gV T_1030 T_1032 T_1033 T_265 T_1031) rfl rfl rfl (by decide +kernel) ⟨Nat.le_of_ble_eq_true rfl, Nat.le_of_ble_eq_true rfl⟩) ⟨fun a U g mk q => ⟨q.1, s_pc (U := U) rfl rfl q.2⟩, s_recv hK hP (hLK _ ha0 (by decide)) (ci := 7) rfl oY16, fun U hU hW => ⟨rfl, s_pw hU hW hP hK hD hN⟩⟩ rfl rfl hl.1 rfl (lv_room (Nat.le_of_ble_eq_true rfl)) dX7_nextOf_14 ⟨Nat.zero_le _, Nat.zero_le _⟩) hS (fun q _ h => h) (fun q h => h) (fun r82 F83 t H1 locs ht hvm hw hB hz1 hk1 hS => ?_)
    obtain ⟨hP, hK1⟩ := hB
    rw [ht] at hP
    generalize H1 = H at hP hS ⊢
    clear hz1 hk1 hvm hK1
    obtain ⟨h84, h86, hI, hfr1, hzf, h85⟩ := hw
    have o87 : F83 (A 13) = .inl (cs 0, 400, .inl f1) := (hfr1 _ (by rw [(y_k13 hA)]; decide)).trans o14
    have o88 : F83 (A 20) = .inl (cs 0, 918, .inl f4) := (hfr1 _ (by rw [(y_k20 hA)]; decide)).trans o15
    have oY89 : F83 a0 = .inr (7, y_fl A z0 q0) := (hfr1 _ (by rw [ha0]; decide)).trans oY16
    have hfr : ∀ b, K b ∉ ([] : List Nat) → F83 b = F b := fun b hb9 => (hfr1 b (fun q => hb9 (s_sub (by decide) q))).trans (hfr b hb9)
    replace h85 : (r82 = y_c f1 387) := by have q9 := h85; rw [y_atE o14] at q9; exact q9
    have h90 := congrArg Int32.toInt h85
    exact W.iret (v := r82) hx hb hr (fun t ht hW => ⟨⟨r82, F83, rfl, ⟨trivial, trivial, hI, hfr, fun k hk => (y_fiZ oY89 (s_sub (by decide) hk)).trans ((hz0 k hk).trans (y_fiZ oY0 (s_sub (by decide) hk)).symm), trivial⟩, by rw [ht]; exact hP, va_K.moved hW.alike hK⟩, hS.F ht⟩) hS.2.2 dX7_nextOf_17

set_option maxHeartbeats 4000000 in
set_option maxRecDepth 100000 in
theorem y_X7_lane (l : Launch) (dC : Nat → ClassId) (dI : Nat → Nat → Nat) (sz : Nat) {L : List Nat} {K : Nat → Nat} {cs : Nat → ClassId} (hLK : ∀ a {k : Nat}, K a = k → k ≠ 0 → a ∈ L) (A : Nat → Nat) (hA : y_A K A) (F : Nat → va_E) (a0 : Nat) (x1 : Int32) (x2 : Int32) (x3 : Int32) (ha0 : K a0 = 9) (hI : y_I K cs A F) (hT : y_T (y_fi F a0 15) (y_at F (A 13)) (y_at F (A 20)) (y_at F (A 30)) (y_fi F a0 31) (y_fi F a0 32)) : Met l yX7_lane (Cond.code yX7_lane cX7_lane 4 (some .int) :: T0) ({ frames := 4, cells := 0, slots := 0, locals := 87 }) (va_Pc [.ref a0, .int x1, .int x2, .int x3] (s_W dC dI sz L F [(cs 0, .int), (cs 1, .byte), (cs 2, .long), (cs 3, .object RX5), (cs 4, .object RX4), (cs 5, .array .int), (cs 6, .char), (cs 7, .boolean)])) (va_Qi (fun (r : Int32) (G : Nat → va_E) => True ∧ True ∧ y_I K cs A G ∧ (∀ b, K b ∉ ([] : List Nat) → G b = F b) ∧ (∀ k, k ∈ ([1, 2, 3, 4, 5, 6, 7, 8, 11, 15, 16, 19, 25, 26, 27, 31, 32] : List Nat) → y_fi G a0 k = y_fi F a0 k) ∧ (y_T (y_fi G a0 15) (y_at G (A 13)) (y_at G (A 20)) (y_at G (A 30)) (y_fi G a0 31) (y_fi G a0 32))) (fun (G : Nat → va_E) (t : State) => va_P (dC, dI) vwCl (va_pl L G) t.heap ∧ va_K (dC, dI) vwCl [(cs 0, .int), (cs 1, .byte), (cs 2, .long), (cs 3, .object RX5), (cs 4, .object RX4), (cs 5, .array .int), (cs 6, .char), (cs 7, .boolean)] t) (fun q => q ∈ L)) 0 0 (fun q => q ∈ L) := by
  refine Met.ofW (cc := cX7_lane) (maxL := 4) (ret := (some .int)) (by decide) rfl ?_
  intro p e s m args below meth c s₁ B hml hv
  obtain ⟨rfl, hsz, hP, hK, hD, hN⟩ := hv
  have hx := B.exec
  have hb := B.bytes
  have hr := B.returns
  have hts : ∀ w ∈ T0, w.before _ s = true := fun w h => atoms_spec (ws := Cond.code yX7_lane cX7_lane 4 (some .int) :: T0) B.pre w (List.mem_cons_of_mem _ h)
  have hown : s.vm.findClass RX7 = some m.cls := findClass_of_methodNamed B.named
  have hlocks := B.notSynchronized
  have hS : va_S (fun q => q ∈ L) s.heap s.heap [] := va_S.rf
  have hfr : ∀ b, K b ∉ ([] : List Nat) → F b = F b := fun _ _ => rfl
  have hl := lv_entry ([.ref a0, .int x1, .int x2, .int x3]) (n := 4) (Nat.le_of_ble_eq_true rfl)
  rw [lg_entry_eq]
  generalize (lg_sl ([.ref a0, .int x1, .int x2, .int x3]) ++ List.replicate (4 - (lg_sl ([.ref a0, .int x1, .int x2, .int x3])).length) Slot.unset).toArray = ls at hl ⊢
  have hl : lv_has ls 4 [(0, .ref a0), (1, .int x1), (2, .int x2), (3, .int x3)] := hl
  refine s_gen hP hS (fun H locs hP hS => ?_)
  obtain ⟨z0, q0, oY0, bz0, bq0⟩ := y_opY hI ha0
  have hz0 : ∀ k, k ∈ ([1, 2, 3, 4, 5, 6, 7, 8, 11, 15, 16, 19, 25, 26, 27, 31, 32] : List Nat) → z0 k = z0 k := fun _ _ => rfl
  obtain ⟨f1, o2, b3⟩ := y_op13 hI
  obtain ⟨f4, o5, b6⟩ := y_op20 hI
  obtain ⟨f7, o8, b9⟩ := y_op30 hI
  obtain ⟨v10, ev10⟩ : ∃ y : Int32, y = z0 15 := ⟨_, rfl⟩
  have qv10 : 0 ≤ v10.toInt ∧ v10.toInt ≤ 1 := by rw [ev10]; exact y_bY15 bz0
  have eF_15 := ev10
  obtain ⟨v11, ev11⟩ : ∃ y : Int32, y = z0 31 := ⟨_, rfl⟩
  have qv11 : 0 ≤ v11.toInt ∧ v11.toInt ≤ 20 := by rw [ev11]; exact y_bY31 bz0
  have eF_31 := ev11
  obtain ⟨v12, ev12⟩ : ∃ y : Int32, y = z0 32 := ⟨_, rfl⟩
  have qv12 : 0 ≤ v12.toInt ∧ v12.toInt ≤ 19 := by rw [ev12]; exact y_bY32 bz0
  have eF_32 := ev12
  replace hT : y_T v10 f1 f4 f7 v11 v12 := by have q9 := hT; rw [y_fiZ oY0 (k := 15) (by decide), ← ev10, y_atE o2, y_atE o5, y_atE o8, y_fiZ oY0 (k := 31) (by decide), ← ev11, y_fiZ oY0 (k := 32) (by decide), ← ev12] at q9; exact q9
  have e0_v10 := ev10
  have e0_v11 := ev11
  have e0_v12 := ev12
  refine lv_aload_n hx hb dX7_lane_0 rfl (lv_at hl 0 rfl) ?_
  refine lv_iload_n hx hb dX7_lane_1 rfl (lv_at hl 1 rfl) ?_
  refine lv_iload_n hx hb dX7_lane_2 rfl (lv_at hl 2 rfl) ?_
  have ep13_15 := ev10
  refine va_calli (va_runV (As := [.int x1, .int x2]) (rest := []) ⟨hx, hb, hml, hown, hts⟩ (y_X7_isLane l dC dI H.size hLK A hA F a0 x1 x2 ha0 hI (by rw [y_fiZ oY0 (k := 15) (by decide), ← ev10, y_atE o2, y_atE o5, y_atE o8, y_fiZ oY0 (k := 31) (by decide), ← ev11, y_fiZ oY0 (k := 32) (by decide), ← ev12]; exact hT)) (cwV 2 hts (ax_gV T_317 T_318 T_319 T_265 T_35) rfl rfl rfl (by decide +kernel) ⟨Nat.le_of_ble_eq_true rfl, Nat.le_of_ble_eq_true rfl⟩) ⟨fun a U g mk q => ⟨q.1, s_pc (U := U) rfl rfl q.2⟩, s_recv hK hP (hLK _ ha0 (by decide)) (ci := 7) rfl oY0, fun U hU hW => ⟨rfl, s_pw hU hW hP hK hD hN⟩⟩ rfl rfl hl.1 rfl (lv_room (Nat.le_of_ble_eq_true rfl)) dX7_lane_3 ⟨Nat.zero_le _, Nat.zero_le _⟩) hS (fun q _ h => h) (fun q h => h) (fun r14 F15 t H1 locs ht hvm hw hB hz1 hk1 hS => ?_)
  obtain ⟨hP, hK1⟩ := hB
  rw [ht] at hP
  generalize H1 = H at hP hS ⊢
  clear hz1 hk1 hvm hK1
  obtain ⟨h16, h18, hI, hfr1, hzf, h17⟩ := hw
  have o19 : F15 (A 13) = .inl (cs 0, 400, .inl f1) := (hfr1 _ (by rw [(y_k13 hA)]; decide)).trans o2
  have o20 : F15 (A 20) = .inl (cs 0, 918, .inl f4) := (hfr1 _ (by rw [(y_k20 hA)]; decide)).trans o5
  have o21 : F15 (A 30) = .inl (cs 0, 18360, .inl f7) := (hfr1 _ (by rw [(y_k30 hA)]; decide)).trans o8
  have oY22 : F15 a0 = .inr (7, y_fl A z0 q0) := (hfr1 _ (by rw [ha0]; decide)).trans oY0
  have hfr : ∀ b, K b ∉ ([] : List Nat) → F15 b = F b := fun b hb9 => (hfr1 b (fun q => hb9 (s_sub (by decide) q))).trans (hfr b hb9)
  replace h17 : (r14.toInt = 0 ∨ (v10.toInt = 1 ∧ (0 ≤ x1.toInt ∧ x1.toInt < (y_c f1 384).toInt) ∧ (0 ≤ x2.toInt ∧ x2.toInt ≤ 7))) := by have q9 := h17; rw [y_fiZ oY0 (k := 15) (by decide), ← ep13_15, y_atE o2] at q9; exact q9
  refine lv_if_eq (tgt := 21) hx hb dX7_lane_6 (by decide) (fun c23 => ?_) (fun c23 => ?_)
  · have c23 := (ax_eq (n := 0) (by decide)).mp c23
    refine lv_ldc (v := (-1000000)) hx hb hown (hts _ T_316) dX7_lane_21 ?_
    have h24 : ((-1000000) : Int32).toInt = (-1000000) := by decide
    exact W.iret (v := (-1000000)) hx hb hr (fun t ht hW => ⟨⟨(-1000000), F15, rfl, ⟨trivial, trivial, hI, hfr, fun k hk => (y_fiZ oY22 (s_sub (by decide) hk)).trans ((hz0 k hk).trans (y_fiZ oY0 (s_sub (by decide) hk)).symm), (by rw [y_fiZ oY22 (k := 15) (by decide), ← ev10, y_atE o19, y_atE o20, y_atE o21, y_fiZ oY22 (k := 31) (by decide), ← ev11, y_fiZ oY22 (k := 32) (by decide), ← ev12]; exact hT)⟩, by rw [ht]; exact hP, va_K.moved hW.alike hK⟩, hS.F ht⟩) hS.2.2 dX7_lane_23
  · have c23 := mt (ax_eq (n := 0) (by decide)).mpr c23
    have hln9 := h17.resolve_left c23
    obtain ⟨htd, hPG, hNG, hUG⟩ := y_TT hT (by omega)
    have hL := y_P0L hPG.1
    have hW := y_P0W hPG.1
    have hnn := And.intro hNG.1 (And.intro hNG.2.1 (And.intro hNG.2.2.1 hNG.2.2.2.1))
    refine lv_iload_n hx hb dX7_lane_9 rfl (lv_at hl 3 rfl) ?_
    refine lv_i2l hx hb dX7_lane_10 rfl ?_
    refine lv_topl (fun v25 ev25 => ?_)
    have qv25 : v25.toInt = x3.toInt := y_i2l ev25
    refine lv_lconst (v := 0) hx hb dX7_lane_11 (by decide) ?_
    refine lv_ldc2 hx hb hown (hts _ T_1233) dX7_lane_12 ?_
    refine va_calli (va_runS (As := [.long v25, .long 0, .long 6]) (rest := []) ⟨hx, hb, hml, hown, hts⟩ (y_X7_isIn l dC dI H.size F15 v25 0 6) (cwS 3 hts (ax_gS T_267 T_268 T_265 T_21) rfl rfl rfl (by decide +kernel) ⟨Nat.le_of_ble_eq_true rfl, Nat.le_of_ble_eq_true rfl⟩) ⟨fun a U g mk q => ⟨q.1, s_pc (U := U) rfl rfl q.2⟩, fun U hU hW => ⟨rfl, s_pw hU hW hP hK hD hN⟩⟩ rfl rfl hl.1 rfl (lv_room (Nat.le_of_ble_eq_true rfl)) dX7_lane_15 ⟨Nat.zero_le _, Nat.zero_le _⟩) hS (fun q _ h => h) (fun q h => h) (fun r27 F28 t H1 locs ht hvm hw hB hz1 hk1 hS => ?_)
    obtain ⟨hP, hK1⟩ := hB
    rw [ht] at hP
    generalize H1 = H at hP hS ⊢
    clear hz1 hk1 hvm hK1
    obtain ⟨h29, h31, hG9, h30⟩ := hw
    rw [hG9] at hP
    replace h30 : ((r27.toInt = 0 ∧ (v25.toInt < 0 ∨ 6 < v25.toInt)) ∨ (r27.toInt = 1 ∧ 0 ≤ v25.toInt ∧ v25.toInt ≤ 6)) := by have q9 := h30; exact q9
    refine lv_if_ne (tgt := 24) hx hb dX7_lane_18 (by decide) (fun c32 => ?_) (fun c32 => ?_)
    · have c32 := mt (ax_eq (n := 0) (by decide)).mpr c32
      refine lv_iload_n hx hb dX7_lane_24 rfl (lv_at hl 3 rfl) ?_
      by_cases c33 : x3 = 4
      · refine ax_eqi c33 ?_
        refine lv_tableIn (off := 27) (tgt := 52) hx hb dX7_lane_25 (by decide) (by decide) (by decide) (by decide) ?_
        have c33 := (ax_eq (n := 4) (by decide)).mp c33
        refine lv_aload_n hx hb dX7_lane_52 rfl (lv_at hl 0 rfl) ?_
        refine lv_iload_n hx hb dX7_lane_53 rfl (lv_at hl 1 rfl) ?_
        refine lv_iconst (v := 3) hx hb dX7_lane_54 (by decide) ?_
        have rg34 : 0 ≤ x1.toInt ∧ x1.toInt ≤ 3 := ⟨by omega, by omega⟩
        refine va_calli (va_runV (As := [.int x1, .int 3]) (rest := []) ⟨hx, hb, hml, hown, hts⟩ (y_X7_its l dC dI H.size hLK A hA F15 a0 x1 3 ha0 rg34 (by decide) hI) (cwV 2 hts (ax_gV T_1057 T_1059 T_1060 T_265 T_1058) rfl rfl rfl (by decide +kernel) ⟨Nat.le_of_ble_eq_true rfl, Nat.le_of_ble_eq_true rfl⟩) ⟨fun a U g mk q => ⟨q.1, s_pc (U := U) rfl rfl q.2⟩, s_recv hK hP (hLK _ ha0 (by decide)) (ci := 7) rfl oY22, fun U hU hW => ⟨rfl, s_pw hU hW hP hK hD hN⟩⟩ rfl rfl hl.1 rfl (lv_room (Nat.le_of_ble_eq_true rfl)) dX7_lane_55 ⟨Nat.zero_le _, Nat.zero_le _⟩) hS (fun q _ h => h) (fun q h => h) (fun r36 F37 t H1 locs ht hvm hw hB hz1 hk1 hS => ?_)
        obtain ⟨hP, hK1⟩ := hB
        rw [ht] at hP
        generalize H1 = H at hP hS ⊢
        clear hz1 hk1 hvm hK1
        obtain ⟨h38, h40, hI, hfr1, hzf, h39⟩ := hw
        have o41 : F37 (A 13) = .inl (cs 0, 400, .inl f1) := (hfr1 _ (by rw [(y_k13 hA)]; decide)).trans o19
        have o42 : F37 (A 20) = .inl (cs 0, 918, .inl f4) := (hfr1 _ (by rw [(y_k20 hA)]; decide)).trans o20
        have o43 : F37 (A 30) = .inl (cs 0, 18360, .inl f7) := (hfr1 _ (by rw [(y_k30 hA)]; decide)).trans o21
        have oY44 : F37 a0 = .inr (7, y_fl A z0 q0) := (hfr1 _ (by rw [ha0]; decide)).trans oY22
        have hfr : ∀ b, K b ∉ ([] : List Nat) → F37 b = F b := fun b hb9 => (hfr1 b (fun q => hb9 (s_sub (by decide) q))).trans (hfr b hb9)
        replace h39 : (r36 = y_c f4 (104 + 6 * x1.toInt + 3)) := by have q9 := h39; rw [y_atE o20] at q9; exact q9
        have h39 : r36 = y_c f4 (107 + 6 * x1.toInt) := h39.trans (congrArg (y_c f4) (by omega))
        have h45 := congrArg Int32.toInt h39
        refine lv_iload_n hx hb dX7_lane_58 rfl (lv_at hl 2 rfl) ?_
        refine lv_ishr hx hb dX7_lane_59 ?_
        refine lv_topi (fun v46 ev46 => ?_)
        refine lv_iconst (v := 1) hx hb dX7_lane_60 (by decide) ?_
        refine lv_iand hx hb dX7_lane_61 ?_
        refine lv_topi (fun v47 ev47 => ?_)
        have qv47 : 0 ≤ v47.toInt ∧ v47.toInt ≤ 1 := by rw [ev47]; exact th_and 1 (by decide) (by decide)
        exact W.iret (v := v47) hx hb hr (fun t ht hW => ⟨⟨v47, F37, rfl, ⟨trivial, trivial, hI, hfr, fun k hk => (y_fiZ oY44 (s_sub (by decide) hk)).trans ((hz0 k hk).trans (y_fiZ oY0 (s_sub (by decide) hk)).symm), (by rw [y_fiZ oY44 (k := 15) (by decide), ← ev10, y_atE o41, y_atE o42, y_atE o43, y_fiZ oY44 (k := 31) (by decide), ← ev11, y_fiZ oY44 (k := 32) (by decide), ← ev12]; exact hT)⟩, by rw [ht]; exact hP, va_K.moved hW.alike hK⟩, hS.F ht⟩) hS.2.2 dX7_lane_62
      · have c33 := mt (ax_eq (n := 4) (by decide)).mpr c33
        by_cases c48 : x3 = 5
        · refine ax_eqi c48 ?_
          refine lv_tableIn (off := 38) (tgt := 63) hx hb dX7_lane_25 (by decide) (by decide) (by decide) (by decide) ?_
          have c48 := (ax_eq (n := 5) (by decide)).mp c48
          refine lv_aload_n hx hb dX7_lane_63 rfl (lv_at hl 0 rfl) ?_
          refine lv_iload_n hx hb dX7_lane_64 rfl (lv_at hl 1 rfl) ?_
          refine lv_iconst (v := 4) hx hb dX7_lane_65 (by decide) ?_
          have rg49 : 0 ≤ x1.toInt ∧ x1.toInt ≤ 3 := ⟨by omega, by omega⟩
          refine va_calli (va_runV (As := [.int x1, .int 4]) (rest := []) ⟨hx, hb, hml, hown, hts⟩ (y_X7_its l dC dI H.size hLK A hA F15 a0 x1 4 ha0 rg49 (by decide) hI) (cwV 2 hts (ax_gV T_1057 T_1059 T_1060 T_265 T_1058) rfl rfl rfl (by decide +kernel) ⟨Nat.le_of_ble_eq_true rfl, Nat.le_of_ble_eq_true rfl⟩) ⟨fun a U g mk q => ⟨q.1, s_pc (U := U) rfl rfl q.2⟩, s_recv hK hP (hLK _ ha0 (by decide)) (ci := 7) rfl oY22, fun U hU hW => ⟨rfl, s_pw hU hW hP hK hD hN⟩⟩ rfl rfl hl.1 rfl (lv_room (Nat.le_of_ble_eq_true rfl)) dX7_lane_66 ⟨Nat.zero_le _, Nat.zero_le _⟩) hS (fun q _ h => h) (fun q h => h) (fun r51 F52 t H1 locs ht hvm hw hB hz1 hk1 hS => ?_)
          obtain ⟨hP, hK1⟩ := hB
          rw [ht] at hP
          generalize H1 = H at hP hS ⊢
          clear hz1 hk1 hvm hK1
          obtain ⟨h53, h55, hI, hfr1, hzf, h54⟩ := hw
          have o56 : F52 (A 13) = .inl (cs 0, 400, .inl f1) := (hfr1 _ (by rw [(y_k13 hA)]; decide)).trans o19
          have o57 : F52 (A 20) = .inl (cs 0, 918, .inl f4) := (hfr1 _ (by rw [(y_k20 hA)]; decide)).trans o20
          have o58 : F52 (A 30) = .inl (cs 0, 18360, .inl f7) := (hfr1 _ (by rw [(y_k30 hA)]; decide)).trans o21
          have oY59 : F52 a0 = .inr (7, y_fl A z0 q0) := (hfr1 _ (by rw [ha0]; decide)).trans oY22
          have hfr : ∀ b, K b ∉ ([] : List Nat) → F52 b = F b := fun b hb9 => (hfr1 b (fun q => hb9 (s_sub (by decide) q))).trans (hfr b hb9)
          replace h54 : (r51 = y_c f4 (104 + 6 * x1.toInt + 4)) := by have q9 := h54; rw [y_atE o20] at q9; exact q9
          have h54 : r51 = y_c f4 (108 + 6 * x1.toInt) := h54.trans (congrArg (y_c f4) (by omega))
          have h60 := congrArg Int32.toInt h54
          refine lv_iload_n hx hb dX7_lane_69 rfl (lv_at hl 2 rfl) ?_
          refine lv_ishr hx hb dX7_lane_70 ?_
          refine lv_topi (fun v61 ev61 => ?_)
          refine lv_iconst (v := 1) hx hb dX7_lane_71 (by decide) ?_
          refine lv_iand hx hb dX7_lane_72 ?_
          refine lv_topi (fun v62 ev62 => ?_)
          have qv62 : 0 ≤ v62.toInt ∧ v62.toInt ≤ 1 := by rw [ev62]; exact th_and 1 (by decide) (by decide)
          exact W.iret (v := v62) hx hb hr (fun t ht hW => ⟨⟨v62, F52, rfl, ⟨trivial, trivial, hI, hfr, fun k hk => (y_fiZ oY59 (s_sub (by decide) hk)).trans ((hz0 k hk).trans (y_fiZ oY0 (s_sub (by decide) hk)).symm), (by rw [y_fiZ oY59 (k := 15) (by decide), ← ev10, y_atE o56, y_atE o57, y_atE o58, y_fiZ oY59 (k := 31) (by decide), ← ev11, y_fiZ oY59 (k := 32) (by decide), ← ev12]; exact hT)⟩, by rw [ht]; exact hP, va_K.moved hW.alike hK⟩, hS.F ht⟩) hS.2.2 dX7_lane_73
        · have c48 := mt (ax_eq (n := 5) (by decide)).mpr c48
          by_cases c63 : x3 = 6
          · refine ax_eqi c63 ?_
            refine lv_tableIn (off := 49) (tgt := 74) hx hb dX7_lane_25 (by decide) (by decide) (by decide) (by decide) ?_
            have c63 := (ax_eq (n := 6) (by decide)).mp c63
            refine lv_aload_n hx hb dX7_lane_74 rfl (lv_at hl 0 rfl) ?_
            refine lv_iload_n hx hb dX7_lane_75 rfl (lv_at hl 1 rfl) ?_
            refine lv_iload_n hx hb dX7_lane_76 rfl (lv_at hl 2 rfl) ?_
            have rg64 : 0 ≤ x1.toInt ∧ x1.toInt ≤ 3 := ⟨by omega, by omega⟩
            have rg65 : 0 ≤ x2.toInt ∧ x2.toInt ≤ 7 := ⟨by omega, by omega⟩
            refine va_calli (va_runV (As := [.int x1, .int x2]) (rest := []) ⟨hx, hb, hml, hown, hts⟩ (y_X7_nextOf l dC dI H.size hLK A hA F15 a0 x1 x2 ha0 rg64 rg65 hI (by rw [y_atE o19, y_atE o20]; exact (hNG.2.2.2.2 x1.toInt (by omega) (by omega))) (by rw [y_atE o20]; exact hNG.1)) (cwV 2 hts (ax_gV T_1234 T_1236 T_1237 T_265 T_1235) rfl rfl rfl (by decide +kernel) ⟨Nat.le_of_ble_eq_true rfl, Nat.le_of_ble_eq_true rfl⟩) ⟨fun a U g mk q => ⟨q.1, s_pc (U := U) rfl rfl q.2⟩, s_recv hK hP (hLK _ ha0 (by decide)) (ci := 7) rfl oY22, fun U hU hW => ⟨rfl, s_pw hU hW hP hK hD hN⟩⟩ rfl rfl hl.1 rfl (lv_room (Nat.le_of_ble_eq_true rfl)) dX7_lane_77 ⟨Nat.zero_le _, Nat.zero_le _⟩) hS (fun q _ h => h) (fun q h => h) (fun r67 F68 t H1 locs ht hvm hw hB hz1 hk1 hS => ?_)
            obtain ⟨hP, hK1⟩ := hB
            rw [ht] at hP
            generalize H1 = H at hP hS ⊢
            clear hz1 hk1 hvm hK1
            obtain ⟨h69, h71, hI, hfr1, hzf, h70⟩ := hw
            have o72 : F68 (A 13) = .inl (cs 0, 400, .inl f1) := (hfr1 _ (by rw [(y_k13 hA)]; decide)).trans o19
            have o73 : F68 (A 20) = .inl (cs 0, 918, .inl f4) := (hfr1 _ (by rw [(y_k20 hA)]; decide)).trans o20
            have o74 : F68 (A 30) = .inl (cs 0, 18360, .inl f7) := (hfr1 _ (by rw [(y_k30 hA)]; decide)).trans o21
            have oY75 : F68 a0 = .inr (7, y_fl A z0 q0) := (hfr1 _ (by rw [ha0]; decide)).trans oY22
            have hfr : ∀ b, K b ∉ ([] : List Nat) → F68 b = F b := fun b hb9 => (hfr1 b (fun q => hb9 (s_sub (by decide) q))).trans (hfr b hb9)
            exact W.iret (v := r67) hx hb hr (fun t ht hW => ⟨⟨r67, F68, rfl, ⟨trivial, trivial, hI, hfr, fun k hk => (y_fiZ oY75 (s_sub (by decide) hk)).trans ((hz0 k hk).trans (y_fiZ oY0 (s_sub (by decide) hk)).symm), (by rw [y_fiZ oY75 (k := 15) (by decide), ← ev10, y_atE o72, y_atE o73, y_atE o74, y_fiZ oY75 (k := 31) (by decide), ← ev11, y_fiZ oY75 (k := 32) (by decide), ← ev12]; exact hT)⟩, by rw [ht]; exact hP, va_K.moved hW.alike hK⟩, hS.F ht⟩) hS.2.2 dX7_lane_80
          · have c63 := mt (ax_eq (n := 6) (by decide)).mpr c63
            refine lv_tableOut (tgt := 81) hx hb dX7_lane_25 (by omega) (by decide) ?_
            refine lv_aload_n hx hb dX7_lane_81 rfl (lv_at hl 0 rfl) ?_
            refine th_get (D := (dC, dI)) (ci := 7) (v := .ref (A 20)) (C := RX7) (T := TX7) (N := 34) hx hb hts inX7 hown hK hP (hLK _ ha0 (by decide)) oY22 rfl 20 (by decide) (hts _ T_251) (fun _ h9 => h9) rfl dX7_lane_82 ?_
            refine lv_iload_n hx hb dX7_lane_85 rfl (lv_at hl 1 rfl) ?_
            refine lv_iload_n hx hb dX7_lane_86 rfl (lv_at hl 2 rfl) ?_
            refine lv_iload_n hx hb dX7_lane_87 rfl (lv_at hl 3 rfl) ?_
            have rg76 : 0 ≤ x1.toInt ∧ x1.toInt ≤ 3 := ⟨by omega, by omega⟩
            have rg77 : 0 ≤ x2.toInt ∧ x2.toInt ≤ 7 := ⟨by omega, by omega⟩
            have rg78 : 0 ≤ x3.toInt ∧ x3.toInt ≤ 3 := ⟨by omega, by omega⟩
            refine va_calli (va_runS (As := [.int x1, .int x2, .int x3]) (rest := [.ref (A 20)]) ⟨hx, hb, hml, hown, hts⟩ (y_X7_registerAt l dC dI H.size F15 x1 x2 x3 rg76 rg77 rg78) (cwS 3 hts (ax_gS T_1095 T_1097 T_265 T_1096) rfl rfl rfl (by decide +kernel) ⟨Nat.le_of_ble_eq_true rfl, Nat.le_of_ble_eq_true rfl⟩) ⟨fun a U g mk q => ⟨q.1, s_pc (U := U) rfl rfl q.2⟩, fun U hU hW => ⟨rfl, s_pw hU hW hP hK hD hN⟩⟩ rfl rfl hl.1 rfl (lv_room (Nat.le_of_ble_eq_true rfl)) dX7_lane_88 ⟨Nat.zero_le _, Nat.zero_le _⟩) hS (fun q _ h => h) (fun q h => h) (fun r80 F81 t H1 locs ht hvm hw hB hz1 hk1 hS => ?_)
            obtain ⟨hP, hK1⟩ := hB
            rw [ht] at hP
            generalize H1 = H at hP hS ⊢
            clear hz1 hk1 hvm hK1
            obtain ⟨h82, h84, hG9, h83⟩ := hw
            rw [hG9] at hP
            replace h83 : (r80.toInt = 128 + 32 * x1.toInt + 4 * x2.toInt + x3.toInt) := by have q9 := h83; exact q9
            refine th_iald hx hb hK hP (hLK _ (y_k20 hA) (by decide)) 0 o20 rfl (th_in ⟨by omega, by omega⟩) dX7_lane_91 ?_
            refine lv_topi (fun v85 ev85 => ?_)
            exact W.iret (v := v85) hx hb hr (fun t ht hW => ⟨⟨v85, F15, rfl, ⟨trivial, trivial, hI, hfr, fun k hk => (y_fiZ oY22 (s_sub (by decide) hk)).trans ((hz0 k hk).trans (y_fiZ oY0 (s_sub (by decide) hk)).symm), (by rw [y_fiZ oY22 (k := 15) (by decide), ← ev10, y_atE o19, y_atE o20, y_atE o21, y_fiZ oY22 (k := 31) (by decide), ← ev11, y_fiZ oY22 (k := 32) (by decide), ← ev12]; exact hT)⟩, by rw [ht]; exact hP, va_K.moved hW.alike hK⟩, hS.F ht⟩) hS.2.2 dX7_lane_92
    · have c32 := (ax_eq (n := 0) (by decide)).mp c32
      refine lv_ldc (v := (-1000000)) hx hb hown (hts _ T_316) dX7_lane_21 ?_
      have h86 : ((-1000000) : Int32).toInt = (-1000000) := by decide
      exact W.iret (v := (-1000000)) hx hb hr (fun t ht hW => ⟨⟨(-1000000), F15, rfl, ⟨trivial, trivial, hI, hfr, fun k hk => (y_fiZ oY22 (s_sub (by decide) hk)).trans ((hz0 k hk).trans (y_fiZ oY0 (s_sub (by decide) hk)).symm), (by rw [y_fiZ oY22 (k := 15) (by decide), ← ev10, y_atE o19, y_atE o20, y_atE o21, y_fiZ oY22 (k := 31) (by decide), ← ev11, y_fiZ oY22 (k := 32) (by decide), ← ev12]; exact hT)⟩, by rw [ht]; exact hP, va_K.moved hW.alike hK⟩, hS.F ht⟩) hS.2.2 dX7_lane_23
