set_option maxHeartbeats 4000000 in
set_option maxRecDepth 100000 in
theorem y_X7_kept (l : Launch) (dC : Nat → ClassId) (dI : Nat → Nat → Nat) (sz : Nat) {L : List Nat} {K : Nat → Nat} {cs : Nat → ClassId} (hLK : ∀ a {k : Nat}, K a = k → k ≠ 0 → a ∈ L) (A : Nat → Nat) (hA : y_A K A) (F : Nat → va_E) (a0 : Nat) (x1 : Int32) (x2 : Int32) (ha0 : K a0 = 9) (hI : y_I K cs A F) (hT : y_T (y_fi F a0 15) (y_at F (A 13)) (y_at F (A 20)) (y_at F (A 30)) (y_fi F a0 31) (y_fi F a0 32)) : Met l yX7_kept (Cond.code yX7_kept cX7_kept 3 (some .int) :: T0) ({ frames := 1, cells := 0, slots := 0, locals := 25 }) (va_Pc [.ref a0, .int x1, .int x2] (s_W dC dI sz L F [(cs 0, .int), (cs 1, .byte), (cs 2, .long), (cs 3, .object RX5), (cs 4, .object RX4), (cs 5, .array .int), (cs 6, .char), (cs 7, .boolean)])) (va_Qi (fun (r : Int32) (G : Nat → va_E) => True ∧ True ∧ y_I K cs A G ∧ (∀ b, K b ∉ ([] : List Nat) → G b = F b) ∧ (∀ k, k ∈ ([1, 2, 3, 4, 5, 6, 7, 8, 11, 15, 16, 19, 25, 26, 27, 31, 32] : List Nat) → y_fi G a0 k = y_fi F a0 k) ∧ (y_T (y_fi G a0 15) (y_at G (A 13)) (y_at G (A 20)) (y_at G (A 30)) (y_fi G a0 31) (y_fi G a0 32))) (fun (G : Nat → va_E) (t : State) => va_P (dC, dI) vwCl (va_pl L G) t.heap ∧ va_K (dC, dI) vwCl [(cs 0, .int), (cs 1, .byte), (cs 2, .long), (cs 3, .object RX5), (cs 4, .object RX4), (cs 5, .array .int), (cs 6, .char), (cs 7, .boolean)] t) (fun q => q ∈ L)) 0 0 (fun q => q ∈ L) := by
  refine Met.ofW (cc := cX7_kept) (maxL := 3) (ret := (some .int)) (by decide) rfl ?_
  intro p e s m args below meth c s₁ B hml hv
  obtain ⟨rfl, hsz, hP, hK, hD, hN⟩ := hv
  have hx := B.exec
  have hb := B.bytes
  have hr := B.returns
  have hts : ∀ w ∈ T0, w.before _ s = true := fun w h => atoms_spec (ws := Cond.code yX7_kept cX7_kept 3 (some .int) :: T0) B.pre w (List.mem_cons_of_mem _ h)
  have hown : s.vm.findClass RX7 = some m.cls := findClass_of_methodNamed B.named
  have hlocks := B.notSynchronized
  have hS : va_S (fun q => q ∈ L) s.heap s.heap [] := va_S.rf
  have hfr : ∀ b, K b ∉ ([] : List Nat) → F b = F b := fun _ _ => rfl
  have hl := lv_entry ([.ref a0, .int x1, .int x2]) (n := 3) (Nat.le_of_ble_eq_true rfl)
  rw [lg_entry_eq]
  generalize (lg_sl ([.ref a0, .int x1, .int x2]) ++ List.replicate (3 - (lg_sl ([.ref a0, .int x1, .int x2])).length) Slot.unset).toArray = ls at hl ⊢
  have hl : lv_has ls 3 [(0, .ref a0), (1, .int x1), (2, .int x2)] := hl
  refine s_gen hP hS (fun H locs hP hS => ?_)
  obtain ⟨z0, q0, oY0, bz0, bq0⟩ := y_opY hI ha0
  have hz0 : ∀ k, k ∈ ([1, 2, 3, 4, 5, 6, 7, 8, 11, 15, 16, 19, 25, 26, 27, 31, 32] : List Nat) → z0 k = z0 k := fun _ _ => rfl
  obtain ⟨f1, o2, b3⟩ := y_op13 hI
  obtain ⟨f4, o5, b6⟩ := y_op20 hI
  obtain ⟨f7, o8, b9⟩ := y_op30 hI
  obtain ⟨v10, ev10⟩ : ∃ y : Int32, y = z0 15 := ⟨_, rfl⟩
  have qv10 : 0 ≤ v10.toInt ∧ v10.toInt ≤ 1 := by rw [ev10]; exact y_bY15 bz0
  have eF_15 := ev10
  obtain ⟨v11, ev11⟩ : ∃ y : Int32, y = z0 31 := ⟨_, rfl⟩
  have qv11 : 0 ≤ v11.toInt ∧ v11.toInt ≤ 20 := by rw [ev11]; exact y_bY31 bz0
  have eF_31 := ev11
  obtain ⟨v12, ev12⟩ : ∃ y : Int32, y = z0 32 := ⟨_, rfl⟩
  have qv12 : 0 ≤ v12.toInt ∧ v12.toInt ≤ 19 := by rw [ev12]; exact y_bY32 bz0
  have eF_32 := ev12
  replace hT : y_T v10 f1 f4 f7 v11 v12 := by have q9 := hT; rw [y_fiZ oY0 (k := 15) (by decide), ← ev10, y_atE o2, y_atE o5, y_atE o8, y_fiZ oY0 (k := 31) (by decide), ← ev11, y_fiZ oY0 (k := 32) (by decide), ← ev12] at q9; exact q9
  have h77 := y_T7 hT
  have e0_v10 := ev10
  have e0_v11 := ev11
  have e0_v12 := ev12
  refine lv_iload_n hx hb dX7_kept_0 rfl (lv_at hl 1 rfl) ?_
  refine lv_i2l hx hb dX7_kept_1 rfl ?_
  refine lv_topl (fun v13 ev13 => ?_)
  have qv13 : v13.toInt = x1.toInt := y_i2l ev13
  refine lv_lconst (v := 0) hx hb dX7_kept_2 (by decide) ?_
  refine lv_aload_n hx hb dX7_kept_3 rfl (lv_at hl 0 rfl) ?_
  refine th_get (D := (dC, dI)) (ci := 7) (v := .ref (A 20)) (C := RX7) (T := TX7) (N := 34) hx hb hts inX7 hown hK hP (hLK _ ha0 (by decide)) oY0 rfl 20 (by decide) (hts _ T_251) (fun _ h9 => h9) rfl dX7_kept_4 ?_
  refine lv_bipush (v := 7) hx hb dX7_kept_7 (by decide) ?_
  refine th_iald hx hb hK hP (hLK _ (y_k20 hA) (by decide)) 0 o5 rfl (ax_in (by decide)) dX7_kept_9 ?_
  refine lv_topi (fun v14 ev14 => ?_)
  have Ev14 : v14 = y_c f4 (7) := ev14.trans (y_ci (by decide))
  have tEv14 := congrArg Int32.toInt Ev14
  have h15 : 0 ≤ v14.toInt ∧ v14.toInt ≤ 30 := by have q9 : v14.toInt = (y_c f4 7).toInt := congrArg Int32.toInt (ev14.trans (y_ci (by decide))); omega
  refine lv_iconst (v := 1) hx hb dX7_kept_10 (by decide) ?_
  refine lv_isub hx hb dX7_kept_11 ?_
  refine lv_topi (fun v16 ev16 => ?_)
  have qv16 : v16.toInt = v14.toInt - 1 := by rw [ev16]; exact th_sub rfl (by decide) ⟨by omega, by omega⟩
  refine lv_i2l hx hb dX7_kept_12 rfl ?_
  refine lv_topl (fun v17 ev17 => ?_)
  have qv17 : v17.toInt = v16.toInt := y_i2l ev17
  refine va_calli (va_runS (As := [.long v13, .long 0, .long v17]) (rest := []) ⟨hx, hb, hml, hown, hts⟩ (y_X7_isIn l dC dI H.size F v13 0 v17) (cwS 3 hts (ax_gS T_267 T_268 T_265 T_21) rfl rfl rfl (by decide +kernel) ⟨Nat.le_of_ble_eq_true rfl, Nat.le_of_ble_eq_true rfl⟩) ⟨fun a U g mk q => ⟨q.1, s_pc (U := U) rfl rfl q.2⟩, fun U hU hW => ⟨rfl, s_pw hU hW hP hK hD hN⟩⟩ rfl rfl hl.1 rfl (lv_room (Nat.le_of_ble_eq_true rfl)) dX7_kept_13 ⟨Nat.zero_le _, Nat.zero_le _⟩) hS (fun q _ h => h) (fun q h => h) (fun r19 F20 t H1 locs ht hvm hw hB hz1 hk1 hS => ?_)
  obtain ⟨hP, hK1⟩ := hB
  rw [ht] at hP
  generalize H1 = H at hP hS ⊢
  clear hz1 hk1 hvm hK1
  obtain ⟨h21, h23, hG9, h22⟩ := hw
  rw [hG9] at hP
  replace h22 : ((r19.toInt = 0 ∧ (v13.toInt < 0 ∨ v17.toInt < v13.toInt)) ∨ (r19.toInt = 1 ∧ 0 ≤ v13.toInt ∧ v13.toInt ≤ v17.toInt)) := by have q9 := h22; exact q9
  refine lv_if_eq (tgt := 48) hx hb dX7_kept_16 (by decide) (fun c24 => ?_) (fun c24 => ?_)
  · have c24 := (ax_eq (n := 0) (by decide)).mp c24
    refine lv_iconst (v := (-1)) hx hb dX7_kept_48 (by decide) ?_
    have h25 : ((-1) : Int32).toInt = (-1) := by decide
    exact W.iret (v := (-1)) hx hb hr (fun t ht hW => ⟨⟨(-1), F, rfl, ⟨trivial, trivial, hI, hfr, fun k hk => (y_fiZ oY0 (s_sub (by decide) hk)).trans ((hz0 k hk).trans (y_fiZ oY0 (s_sub (by decide) hk)).symm), (by rw [y_fiZ oY0 (k := 15) (by decide), ← ev10, y_atE o2, y_atE o5, y_atE o8, y_fiZ oY0 (k := 31) (by decide), ← ev11, y_fiZ oY0 (k := 32) (by decide), ← ev12]; exact hT)⟩, by rw [ht]; exact hP, va_K.moved hW.alike hK⟩, hS.F ht⟩) hS.2.2 dX7_kept_49
  · have c24 := mt (ax_eq (n := 0) (by decide)).mpr c24
    refine lv_iload_n hx hb dX7_kept_19 rfl (lv_at hl 2 rfl) ?_
    refine lv_i2l hx hb dX7_kept_20 rfl ?_
    refine lv_topl (fun v26 ev26 => ?_)
    have qv26 : v26.toInt = x2.toInt := y_i2l ev26
    refine lv_lconst (v := 0) hx hb dX7_kept_21 (by decide) ?_
    refine lv_ldc2 hx hb hown (hts _ T_1004) dX7_kept_22 ?_
    refine va_calli (va_runS (As := [.long v26, .long 0, .long 4]) (rest := []) ⟨hx, hb, hml, hown, hts⟩ (y_X7_isIn l dC dI H.size F v26 0 4) (cwS 3 hts (ax_gS T_267 T_268 T_265 T_21) rfl rfl rfl (by decide +kernel) ⟨Nat.le_of_ble_eq_true rfl, Nat.le_of_ble_eq_true rfl⟩) ⟨fun a U g mk q => ⟨q.1, s_pc (U := U) rfl rfl q.2⟩, fun U hU hW => ⟨rfl, s_pw hU hW hP hK hD hN⟩⟩ rfl rfl hl.1 rfl (lv_room (Nat.le_of_ble_eq_true rfl)) dX7_kept_25 ⟨Nat.zero_le _, Nat.zero_le _⟩) hS (fun q _ h => h) (fun q h => h) (fun r28 F29 t H1 locs ht hvm hw hB hz1 hk1 hS => ?_)
    obtain ⟨hP, hK1⟩ := hB
    rw [ht] at hP
    generalize H1 = H at hP hS ⊢
    clear hz1 hk1 hvm hK1
    obtain ⟨h30, h32, hG9, h31⟩ := hw
    rw [hG9] at hP
    replace h31 : ((r28.toInt = 0 ∧ (v26.toInt < 0 ∨ 4 < v26.toInt)) ∨ (r28.toInt = 1 ∧ 0 ≤ v26.toInt ∧ v26.toInt ≤ 4)) := by have q9 := h31; exact q9
    refine lv_if_eq (tgt := 48) hx hb dX7_kept_28 (by decide) (fun c33 => ?_) (fun c33 => ?_)
    · have c33 := (ax_eq (n := 0) (by decide)).mp c33
      refine lv_iconst (v := (-1)) hx hb dX7_kept_48 (by decide) ?_
      have h34 : ((-1) : Int32).toInt = (-1) := by decide
      exact W.iret (v := (-1)) hx hb hr (fun t ht hW => ⟨⟨(-1), F, rfl, ⟨trivial, trivial, hI, hfr, fun k hk => (y_fiZ oY0 (s_sub (by decide) hk)).trans ((hz0 k hk).trans (y_fiZ oY0 (s_sub (by decide) hk)).symm), (by rw [y_fiZ oY0 (k := 15) (by decide), ← ev10, y_atE o2, y_atE o5, y_atE o8, y_fiZ oY0 (k := 31) (by decide), ← ev11, y_fiZ oY0 (k := 32) (by decide), ← ev12]; exact hT)⟩, by rw [ht]; exact hP, va_K.moved hW.alike hK⟩, hS.F ht⟩) hS.2.2 dX7_kept_49
    · have c33 := mt (ax_eq (n := 0) (by decide)).mpr c33
      refine lv_aload_n hx hb dX7_kept_31 rfl (lv_at hl 0 rfl) ?_
      refine th_get (D := (dC, dI)) (ci := 7) (v := .ref (A 20)) (C := RX7) (T := TX7) (N := 34) hx hb hts inX7 hown hK hP (hLK _ ha0 (by decide)) oY0 rfl 20 (by decide) (hts _ T_251) (fun _ h9 => h9) rfl dX7_kept_32 ?_
      refine lv_sipush (v := 768) hx hb dX7_kept_35 (by decide) ?_
      refine lv_iconst (v := 5) hx hb dX7_kept_38 (by decide) ?_
      refine lv_iload_n hx hb dX7_kept_39 rfl (lv_at hl 1 rfl) ?_
      have h35 : 0 ≤ x1.toInt ∧ x1.toInt ≤ 29 := ⟨by omega, by omega⟩
      refine lv_imul hx hb dX7_kept_40 ?_
      refine lv_topi (fun v36 ev36 => ?_)
      have qv36 : v36.toInt = 5 * x1.toInt := by rw [ev36]; exact th_mul (by decide) rfl ⟨by omega, by omega⟩
      refine lv_iadd hx hb dX7_kept_41 ?_
      refine lv_topi (fun v37 ev37 => ?_)
      have qv37 : v37.toInt = 768 + v36.toInt := by rw [ev37]; exact th_add (by decide) rfl ⟨by omega, by omega⟩
      refine lv_iload_n hx hb dX7_kept_42 rfl (lv_at hl 2 rfl) ?_
      have h38 : 0 ≤ x2.toInt ∧ x2.toInt ≤ 4 := ⟨by omega, by omega⟩
      refine lv_iadd hx hb dX7_kept_43 ?_
      refine lv_topi (fun v39 ev39 => ?_)
      have qv39 : v39.toInt = v37.toInt + x2.toInt := by rw [ev39]; exact th_add rfl rfl ⟨by omega, by omega⟩
      refine th_iald hx hb hK hP (hLK _ (y_k20 hA) (by decide)) 0 o5 rfl (th_in ⟨by omega, by omega⟩) dX7_kept_44 ?_
      refine lv_topi (fun v40 ev40 => ?_)
      refine lv_goto (tgt := 49) hx hb dX7_kept_45 (by decide) ?_
      exact W.iret (v := v40) hx hb hr (fun t ht hW => ⟨⟨v40, F, rfl, ⟨trivial, trivial, hI, hfr, fun k hk => (y_fiZ oY0 (s_sub (by decide) hk)).trans ((hz0 k hk).trans (y_fiZ oY0 (s_sub (by decide) hk)).symm), (by rw [y_fiZ oY0 (k := 15) (by decide), ← ev10, y_atE o2, y_atE o5, y_atE o8, y_fiZ oY0 (k := 31) (by decide), ← ev11, y_fiZ oY0 (k := 32) (by decide), ← ev12]; exact hT)⟩, by rw [ht]; exact hP, va_K.moved hW.alike hK⟩, hS.F ht⟩) hS.2.2 dX7_kept_49

set_option maxHeartbeats 4000000 in
set_option maxRecDepth 100000 in
theorem y_X7_next (l : Launch) (dC : Nat → ClassId) (dI : Nat → Nat → Nat) (sz : Nat) {L : List Nat} {K : Nat → Nat} {cs : Nat → ClassId} (hLK : ∀ a {k : Nat}, K a = k → k ≠ 0 → a ∈ L) (A : Nat → Nat) (hA : y_A K A) (F : Nat → va_E) (a0 : Nat) (x1 : Int32) (ha0 : K a0 = 9) (hI : y_I K cs A F) (hT : y_T (y_fi F a0 15) (y_at F (A 13)) (y_at F (A 20)) (y_at F (A 30)) (y_fi F a0 31) (y_fi F a0 32)) : Met l yX7_next (Cond.code yX7_next cX7_next 3 (some .int) :: T0) ({ frames := 6, cells := 0, slots := 0, locals := 132 }) (va_Pc [.ref a0, .int x1] (s_W dC dI sz L F [(cs 0, .int), (cs 1, .byte), (cs 2, .long), (cs 3, .object RX5), (cs 4, .object RX4), (cs 5, .array .int), (cs 6, .char), (cs 7, .boolean)])) (va_Qi (fun (r : Int32) (G : Nat → va_E) => True ∧ True ∧ y_I K cs A G ∧ (∀ b, K b ∉ [71, 72] → G b = F b) ∧ (∀ k, k ∈ ([1, 2, 3, 4, 5, 6, 7, 8, 11, 15, 16, 19, 25, 26, 27, 31, 32] : List Nat) → y_fi G a0 k = y_fi F a0 k) ∧ (y_T (y_fi G a0 15) (y_at G (A 13)) (y_at G (A 20)) (y_at G (A 30)) (y_fi G a0 31) (y_fi G a0 32))) (fun (G : Nat → va_E) (t : State) => va_P (dC, dI) vwCl (va_pl L G) t.heap ∧ va_K (dC, dI) vwCl [(cs 0, .int), (cs 1, .byte), (cs 2, .long), (cs 3, .object RX5), (cs 4, .object RX4), (cs 5, .array .int), (cs 6, .char), (cs 7, .boolean)] t) (fun q => q ∈ L)) 0 0 (fun q => q ∈ L) := by
  refine Met.ofW (cc := cX7_next) (maxL := 3) (ret := (some .int)) (by decide) rfl ?_
  intro p e s m args below meth c s₁ B hml hv
  obtain ⟨rfl, hsz, hP, hK, hD, hN⟩ := hv
  have hx := B.exec
  have hb := B.bytes
  have hr := B.returns
  have hts : ∀ w ∈ T0, w.before _ s = true := fun w h => atoms_spec (ws := Cond.code yX7_next cX7_next 3 (some .int) :: T0) B.pre w (List.mem_cons_of_mem _ h)
  have hown : s.vm.findClass RX7 = some m.cls := findClass_of_methodNamed B.named
  have hlocks := B.notSynchronized
  have hS : va_S (fun q => q ∈ L) s.heap s.heap [] := va_S.rf
  have hfr : ∀ b, K b ∉ [71, 72] → F b = F b := fun _ _ => rfl
  have hl := lv_entry ([.ref a0, .int x1]) (n := 3) (Nat.le_of_ble_eq_true rfl)
  rw [lg_entry_eq]
  generalize (lg_sl ([.ref a0, .int x1]) ++ List.replicate (3 - (lg_sl ([.ref a0, .int x1])).length) Slot.unset).toArray = ls at hl ⊢
  have hl : lv_has ls 3 [(0, .ref a0), (1, .int x1)] := hl
  refine s_gen hP hS (fun H locs hP hS => ?_)
  obtain ⟨z0, q0, oY0, bz0, bq0⟩ := y_opY hI ha0
  have hz0 : ∀ k, k ∈ ([1, 2, 3, 4, 5, 6, 7, 8, 11, 15, 16, 19, 25, 26, 27, 31, 32] : List Nat) → z0 k = z0 k := fun _ _ => rfl
  obtain ⟨f1, o2, b3⟩ := y_op13 hI
  obtain ⟨f4, o5, b6⟩ := y_op20 hI
  obtain ⟨f7, o8, b9⟩ := y_op30 hI
  obtain ⟨v10, ev10⟩ : ∃ y : Int32, y = z0 15 := ⟨_, rfl⟩
  have qv10 : 0 ≤ v10.toInt ∧ v10.toInt ≤ 1 := by rw [ev10]; exact y_bY15 bz0
  have eF_15 := ev10
  obtain ⟨v11, ev11⟩ : ∃ y : Int32, y = z0 31 := ⟨_, rfl⟩
  have qv11 : 0 ≤ v11.toInt ∧ v11.toInt ≤ 20 := by rw [ev11]; exact y_bY31 bz0
  have eF_31 := ev11
  obtain ⟨v12, ev12⟩ : ∃ y : Int32, y = z0 32 := ⟨_, rfl⟩
  have qv12 : 0 ≤ v12.toInt ∧ v12.toInt ≤ 19 := by rw [ev12]; exact y_bY32 bz0
  have eF_32 := ev12
  replace hT : y_T v10 f1 f4 f7 v11 v12 := by have q9 := hT; rw [y_fiZ oY0 (k := 15) (by decide), ← ev10, y_atE o2, y_atE o5, y_atE o8, y_fiZ oY0 (k := 31) (by decide), ← ev11, y_fiZ oY0 (k := 32) (by decide), ← ev12] at q9; exact q9
  have e0_v10 := ev10
  have e0_v11 := ev11
  have e0_v12 := ev12
  refine lv_aload_n hx hb dX7_next_0 rfl (lv_at hl 0 rfl) ?_
  refine th_get (D := (dC, dI)) (ci := 7) (v := .int (z0 15)) (C := RX7) (T := TX7) (N := 34) hx hb hts inX7 hown hK hP (hLK _ ha0 (by decide)) oY0 rfl 15 (by decide) (hts _ T_271) (fun _ h9 => h9) rfl dX7_next_1 ?_
  refine ax_eqi (y := v10) ev10.symm ?_
  refine lv_if_eq (tgt := 38) hx hb dX7_next_4 (by decide) (fun c13 => ?_) (fun c13 => ?_)
  · have c13 := (ax_eq (n := 0) (by decide)).mp c13
    refine lv_iconst (v := (-1)) hx hb dX7_next_38 (by decide) ?_
    refine lv_istore_n (lv' := [(2, .int (-1)), (0, .ref a0), (1, .int x1)]) hx hb dX7_next_39 rfl hl (by decide) rfl (fun ls hl => ?_)
    refine lv_iload_n hx hb dX7_next_40 rfl (lv_at hl 0 rfl) ?_
    refine lv_iconst (v := (-1)) hx hb dX7_next_41 (by decide) ?_
    refine lv_icmp_ne (tgt := 47) hx hb dX7_next_42 (by decide) (fun c => absurd (by decide) c) (fun _ => ?_)
    refine lv_iconst (v := (-1)) hx hb dX7_next_45 (by decide) ?_
    have h15 : ((-1) : Int32).toInt = (-1) := by decide
    exact W.iret (v := (-1)) hx hb hr (fun t ht hW => ⟨⟨(-1), F, rfl, ⟨trivial, trivial, hI, hfr, fun k hk => (y_fiZ oY0 (s_sub (by decide) hk)).trans ((hz0 k hk).trans (y_fiZ oY0 (s_sub (by decide) hk)).symm), (by rw [y_fiZ oY0 (k := 15) (by decide), ← ev10, y_atE o2, y_atE o5, y_atE o8, y_fiZ oY0 (k := 31) (by decide), ← ev11, y_fiZ oY0 (k := 32) (by decide), ← ev12]; exact hT)⟩, by rw [ht]; exact hP, va_K.moved hW.alike hK⟩, hS.F ht⟩) hS.2.2 dX7_next_46
  · have c13 := mt (ax_eq (n := 0) (by decide)).mpr c13
    obtain ⟨htd, hPG, hNG, hUG⟩ := y_TT hT (by omega)
    have hL := y_P0L hPG.1
    have hW := y_P0W hPG.1
    have hnn := And.intro hNG.1 (And.intro hNG.2.1 (And.intro hNG.2.2.1 hNG.2.2.2.1))
    refine lv_iload_n hx hb dX7_next_7 rfl (lv_at hl 1 rfl) ?_
    refine lv_i2l hx hb dX7_next_8 rfl ?_
    refine lv_topl (fun v16 ev16 => ?_)
    have qv16 : v16.toInt = x1.toInt := y_i2l ev16
    refine lv_lconst (v := 0) hx hb dX7_next_9 (by decide) ?_
    refine lv_ldc2 hx hb hown (hts _ T_1238) dX7_next_10 ?_
    refine va_calli (va_runS (As := [.long v16, .long 0, .long 3]) (rest := []) ⟨hx, hb, hml, hown, hts⟩ (y_X7_isIn l dC dI H.size F v16 0 3) (cwS 3 hts (ax_gS T_267 T_268 T_265 T_21) rfl rfl rfl (by decide +kernel) ⟨Nat.le_of_ble_eq_true rfl, Nat.le_of_ble_eq_true rfl⟩) ⟨fun a U g mk q => ⟨q.1, s_pc (U := U) rfl rfl q.2⟩, fun U hU hW => ⟨rfl, s_pw hU hW hP hK hD hN⟩⟩ rfl rfl hl.1 rfl (lv_room (Nat.le_of_ble_eq_true rfl)) dX7_next_13 ⟨Nat.zero_le _, Nat.zero_le _⟩) hS (fun q _ h => h) (fun q h => h) (fun r18 F19 t H1 locs ht hvm hw hB hz1 hk1 hS => ?_)
    obtain ⟨hP, hK1⟩ := hB
    rw [ht] at hP
    generalize H1 = H at hP hS ⊢
    clear hz1 hk1 hvm hK1
    obtain ⟨h20, h22, hG9, h21⟩ := hw
    rw [hG9] at hP
    replace h21 : ((r18.toInt = 0 ∧ (v16.toInt < 0 ∨ 3 < v16.toInt)) ∨ (r18.toInt = 1 ∧ 0 ≤ v16.toInt ∧ v16.toInt ≤ 3)) := by have q9 := h21; exact q9
    refine lv_if_eq (tgt := 38) hx hb dX7_next_16 (by decide) (fun c23 => ?_) (fun c23 => ?_)
    · have c23 := (ax_eq (n := 0) (by decide)).mp c23
      refine lv_iconst (v := (-1)) hx hb dX7_next_38 (by decide) ?_
      refine lv_istore_n (lv' := [(2, .int (-1)), (0, .ref a0), (1, .int x1)]) hx hb dX7_next_39 rfl hl (by decide) rfl (fun ls hl => ?_)
      refine lv_iload_n hx hb dX7_next_40 rfl (lv_at hl 0 rfl) ?_
      refine lv_iconst (v := (-1)) hx hb dX7_next_41 (by decide) ?_
      refine lv_icmp_ne (tgt := 47) hx hb dX7_next_42 (by decide) (fun c => absurd (by decide) c) (fun _ => ?_)
      refine lv_iconst (v := (-1)) hx hb dX7_next_45 (by decide) ?_
      have h25 : ((-1) : Int32).toInt = (-1) := by decide
      exact W.iret (v := (-1)) hx hb hr (fun t ht hW => ⟨⟨(-1), F, rfl, ⟨trivial, trivial, hI, hfr, fun k hk => (y_fiZ oY0 (s_sub (by decide) hk)).trans ((hz0 k hk).trans (y_fiZ oY0 (s_sub (by decide) hk)).symm), (by rw [y_fiZ oY0 (k := 15) (by decide), ← ev10, y_atE o2, y_atE o5, y_atE o8, y_fiZ oY0 (k := 31) (by decide), ← ev11, y_fiZ oY0 (k := 32) (by decide), ← ev12]; exact hT)⟩, by rw [ht]; exact hP, va_K.moved hW.alike hK⟩, hS.F ht⟩) hS.2.2 dX7_next_46
    · have c23 := mt (ax_eq (n := 0) (by decide)).mpr c23
      refine lv_aload_n hx hb dX7_next_19 rfl (lv_at hl 0 rfl) ?_
      refine th_get (D := (dC, dI)) (ci := 7) (v := .ref (A 20)) (C := RX7) (T := TX7) (N := 34) hx hb hts inX7 hown hK hP (hLK _ ha0 (by decide)) oY0 rfl 20 (by decide) (hts _ T_251) (fun _ h9 => h9) rfl dX7_next_20 ?_
      refine lv_iconst (v := 0) hx hb dX7_next_23 (by decide) ?_
      refine th_iald hx hb hK hP (hLK _ (y_k20 hA) (by decide)) 0 o5 rfl (ax_in (by decide)) dX7_next_24 ?_
      refine lv_topi (fun v26 ev26 => ?_)
      refine lv_sipush (v := 9999) hx hb dX7_next_25 (by decide) ?_
      refine lv_icmp_ge (tgt := 38) hx hb dX7_next_28 (by decide) (fun c27 => ?_) (fun c27 => ?_)
      · have c27 := (ax_ge (n := 9999) (by decide)).mp c27
        refine lv_iconst (v := (-1)) hx hb dX7_next_38 (by decide) ?_
        refine lv_istore_n (lv' := [(2, .int (-1)), (0, .ref a0), (1, .int x1)]) hx hb dX7_next_39 rfl hl (by decide) rfl (fun ls hl => ?_)
        refine lv_iload_n hx hb dX7_next_40 rfl (lv_at hl 0 rfl) ?_
        refine lv_iconst (v := (-1)) hx hb dX7_next_41 (by decide) ?_
        refine lv_icmp_ne (tgt := 47) hx hb dX7_next_42 (by decide) (fun c => absurd (by decide) c) (fun _ => ?_)
        refine lv_iconst (v := (-1)) hx hb dX7_next_45 (by decide) ?_
        have h29 : ((-1) : Int32).toInt = (-1) := by decide
        exact W.iret (v := (-1)) hx hb hr (fun t ht hW => ⟨⟨(-1), F, rfl, ⟨trivial, trivial, hI, hfr, fun k hk => (y_fiZ oY0 (s_sub (by decide) hk)).trans ((hz0 k hk).trans (y_fiZ oY0 (s_sub (by decide) hk)).symm), (by rw [y_fiZ oY0 (k := 15) (by decide), ← ev10, y_atE o2, y_atE o5, y_atE o8, y_fiZ oY0 (k := 31) (by decide), ← ev11, y_fiZ oY0 (k := 32) (by decide), ← ev12]; exact hT)⟩, by rw [ht]; exact hP, va_K.moved hW.alike hK⟩, hS.F ht⟩) hS.2.2 dX7_next_46
      · have c27 := mt (ax_ge (n := 9999) (by decide)).mpr c27
        refine lv_aload_n hx hb dX7_next_31 rfl (lv_at hl 0 rfl) ?_
        refine va_calli (va_runV (As := []) (rest := []) ⟨hx, hb, hml, hown, hts⟩ (y_X7_goer l dC dI H.size hLK A hA F a0 ha0 hI (by rw [y_atE o2]; exact hPG) (by rw [y_atE o2, y_atE o5]; exact hNG)) (cwV 0 hts (ax_gV T_981 T_983 T_984 T_265 T_982) rfl rfl rfl (by decide +kernel) ⟨Nat.le_of_ble_eq_true rfl, Nat.le_of_ble_eq_true rfl⟩) ⟨fun a U g mk q => ⟨q.1, s_pc (U := U) rfl rfl q.2⟩, s_recv hK hP (hLK _ ha0 (by decide)) (ci := 7) rfl oY0, fun U hU hW => ⟨rfl, s_pw hU hW hP hK hD hN⟩⟩ rfl rfl hl.1 rfl (lv_room (Nat.le_of_ble_eq_true rfl)) dX7_next_32 ⟨Nat.zero_le _, Nat.zero_le _⟩) hS (fun q _ h => h) (fun q h => h) (fun r31 F32 t H1 locs ht hvm hw hB hz1 hk1 hS => ?_)
        obtain ⟨hP, hK1⟩ := hB
        rw [ht] at hP
        generalize H1 = H at hP hS ⊢
        clear hz1 hk1 hvm hK1
        obtain ⟨h33, h35, hI, hfr1, hzf, h34⟩ := hw
        have o36 : F32 (A 13) = .inl (cs 0, 400, .inl f1) := (hfr1 _ (by rw [(y_k13 hA)]; decide)).trans o2
        have o37 : F32 (A 20) = .inl (cs 0, 918, .inl f4) := (hfr1 _ (by rw [(y_k20 hA)]; decide)).trans o5
        have o38 : F32 (A 30) = .inl (cs 0, 18360, .inl f7) := (hfr1 _ (by rw [(y_k30 hA)]; decide)).trans o8
        have oY39 : F32 a0 = .inr (7, y_fl A z0 q0) := (hfr1 _ (by rw [ha0]; decide)).trans oY0
        have hfr : ∀ b, K b ∉ [71, 72] → F32 b = F b := fun b hb9 => (hfr1 b (fun q => hb9 (s_sub (by decide) q))).trans (hfr b hb9)
        replace h34 : (r31.toInt = -1 ∨ (0 ≤ r31.toInt ∧ r31.toInt < (y_c f1 384).toInt ∧ y_go f4 r31.toInt)) := by have q9 := h34; rw [y_atE o2, y_atE o5] at q9; exact q9
        refine lv_goto (tgt := 39) hx hb dX7_next_35 (by decide) ?_
        refine lv_istore_n (lv' := [(2, .int r31), (0, .ref a0), (1, .int x1)]) hx hb dX7_next_39 rfl hl (by decide) rfl (fun ls hl => ?_)
        refine lv_iload_n hx hb dX7_next_40 rfl (lv_at hl 0 rfl) ?_
        refine lv_iconst (v := (-1)) hx hb dX7_next_41 (by decide) ?_
        refine lv_icmp_ne (tgt := 47) hx hb dX7_next_42 (by decide) (fun c40 => ?_) (fun c40 => ?_)
        · have c40 := mt (ax_eq (n := (-1)) (by decide)).mpr c40
          have hgo9 := h34.resolve_left (by omega)
          refine lv_iload_n hx hb dX7_next_47 rfl (lv_at hl 2 rfl) ?_
          refine lv_if_ne (tgt := 53) hx hb dX7_next_48 (by decide) (fun c41 => ?_) (fun c41 => ?_)
          · have c41 := mt (ax_eq (n := 0) (by decide)).mpr c41
            refine lv_iload_n hx hb dX7_next_53 rfl (lv_at hl 2 rfl) ?_
            refine lv_iconst (v := 1) hx hb dX7_next_54 (by decide) ?_
            refine lv_icmp_ne (tgt := 64) hx hb dX7_next_55 (by decide) (fun c42 => ?_) (fun c42 => ?_)
            · have c42 := mt (ax_eq (n := 1) (by decide)).mpr c42
              refine lv_iload_n hx hb dX7_next_64 rfl (lv_at hl 2 rfl) ?_
              refine lv_iconst (v := 2) hx hb dX7_next_65 (by decide) ?_
              refine lv_icmp_ne (tgt := 77) hx hb dX7_next_66 (by decide) (fun c43 => ?_) (fun c43 => ?_)
              · have c43 := mt (ax_eq (n := 2) (by decide)).mpr c43
                refine lv_aload_n hx hb dX7_next_77 rfl (lv_at hl 1 rfl) ?_
                refine lv_iload_n hx hb dX7_next_78 rfl (lv_at hl 0 rfl) ?_
                refine lv_aload_n hx hb dX7_next_79 rfl (lv_at hl 1 rfl) ?_
                refine lv_iload_n hx hb dX7_next_80 rfl (lv_at hl 0 rfl) ?_
                have rg44 : 0 ≤ r31.toInt ∧ r31.toInt ≤ 3 := ⟨by omega, by omega⟩
                refine va_calli (va_runV (As := [.int r31]) (rest := [.int r31, .ref a0]) ⟨hx, hb, hml, hown, hts⟩ (y_X7_lineOf l dC dI H.size hLK A hA F32 a0 r31 ha0 rg44 hI (by rw [y_atE o36, y_atE o37]; exact (hNG.2.2.2.2 r31.toInt (by omega) (by omega))) (by rw [y_atE o37]; exact hgo9.2.2)) (cwV 1 hts (ax_gV T_1127 T_1129 T_1130 T_265 T_1128) rfl rfl rfl (by decide +kernel) ⟨Nat.le_of_ble_eq_true rfl, Nat.le_of_ble_eq_true rfl⟩) ⟨fun a U g mk q => ⟨q.1, s_pc (U := U) rfl rfl q.2⟩, s_recv hK hP (hLK _ ha0 (by decide)) (ci := 7) rfl oY39, fun U hU hW => ⟨rfl, s_pw hU hW hP hK hD hN⟩⟩ rfl rfl hl.1 rfl (lv_room (Nat.le_of_ble_eq_true rfl)) dX7_next_81 ⟨Nat.zero_le _, Nat.zero_le _⟩) hS (fun q _ h => h) (fun q h => h) (fun r46 F47 t H1 locs ht hvm hw hB hz1 hk1 hS => ?_)
                obtain ⟨hP, hK1⟩ := hB
                rw [ht] at hP
                generalize H1 = H at hP hS ⊢
                clear hz1 hk1 hvm hK1
                obtain ⟨h48, h50, hI, hfr1, hzf, h49⟩ := hw
                have o51 : F47 (A 13) = .inl (cs 0, 400, .inl f1) := (hfr1 _ (by rw [(y_k13 hA)]; decide)).trans o36
                have o52 : F47 (A 20) = .inl (cs 0, 918, .inl f4) := (hfr1 _ (by rw [(y_k20 hA)]; decide)).trans o37
                have o53 : F47 (A 30) = .inl (cs 0, 18360, .inl f7) := (hfr1 _ (by rw [(y_k30 hA)]; decide)).trans o38
                have oY54 : F47 a0 = .inr (7, y_fl A z0 q0) := (hfr1 _ (by rw [ha0]; decide)).trans oY39
                have hfr : ∀ b, K b ∉ [71, 72] → F47 b = F b := fun b hb9 => (hfr1 b (fun q => hb9 (s_sub (by decide) q))).trans (hfr b hb9)
                replace h49 : (0 ≤ r46.toInt ∧ r46.toInt < (y_c f1 387).toInt) := by have q9 := h49; rw [y_atE o36] at q9; exact q9
                have h55 : 0 ≤ r46.toInt ∧ r46.toInt ≤ 39 := ⟨by omega, by omega⟩
                refine lv_aload_n hx hb dX7_next_84 rfl (lv_at hl 1 rfl) ?_
                refine lv_iload_n hx hb dX7_next_85 rfl (lv_at hl 0 rfl) ?_
                refine va_calli (va_runV (As := [.int r31]) (rest := [.int r46, .int r31, .ref a0]) ⟨hx, hb, hml, hown, hts⟩ (y_X7_together l dC dI H.size hLK A hA F47 a0 r31 ha0 rg44 hI (by rw [y_atE o52]; exact (hNG.2.2.2.2 r31.toInt (by omega) (by omega)).1)) (cwV 1 hts (ax_gV T_1061 T_1063 T_1064 T_265 T_1062) rfl rfl rfl (by decide +kernel) ⟨Nat.le_of_ble_eq_true rfl, Nat.le_of_ble_eq_true rfl⟩) ⟨fun a U g mk q => ⟨q.1, s_pc (U := U) rfl rfl q.2⟩, s_recv hK hP (hLK _ ha0 (by decide)) (ci := 7) rfl oY54, fun U hU hW => ⟨rfl, s_pw hU hW hP hK hD hN⟩⟩ rfl rfl hl.1 rfl (lv_room (Nat.le_of_ble_eq_true rfl)) dX7_next_86 ⟨Nat.zero_le _, Nat.zero_le _⟩) hS (fun q _ h => h) (fun q h => h) (fun r57 F58 t H1 locs ht hvm hw hB hz1 hk1 hS => ?_)
                obtain ⟨hP, hK1⟩ := hB
                rw [ht] at hP
                generalize H1 = H at hP hS ⊢
                clear hz1 hk1 hvm hK1
                obtain ⟨h59, h61, hI, hfr1, hzf, h60⟩ := hw
                have o62 : F58 (A 13) = .inl (cs 0, 400, .inl f1) := (hfr1 _ (by rw [(y_k13 hA)]; decide)).trans o51
                have o63 : F58 (A 20) = .inl (cs 0, 918, .inl f4) := (hfr1 _ (by rw [(y_k20 hA)]; decide)).trans o52
                have o64 : F58 (A 30) = .inl (cs 0, 18360, .inl f7) := (hfr1 _ (by rw [(y_k30 hA)]; decide)).trans o53
                have oY65 : F58 a0 = .inr (7, y_fl A z0 q0) := (hfr1 _ (by rw [ha0]; decide)).trans oY54
                have hfr : ∀ b, K b ∉ [71, 72] → F58 b = F b := fun b hb9 => (hfr1 b (fun q => hb9 (s_sub (by decide) q))).trans (hfr b hb9)
                replace h60 : (y_TG f4 r31.toInt r57) := by have q9 := h60; rw [y_atE o52] at q9; exact q9
                have rg66 : 0 ≤ r46.toInt ∧ r46.toInt ≤ 39 := ⟨by omega, by omega⟩
                refine va_calli (va_runV (As := [.int r31, .int r46, .int r57]) (rest := []) ⟨hx, hb, hml, hown, hts⟩ (y_X7_takes0 l dC dI H.size hLK A hA F58 a0 r31 r46 r57 ha0 rg44 rg66 hI (by rw [y_atE o62]; exact hPG) (by first | (rw [y_atE o62]; omega) | rw [y_atE o62])) (cwV 3 hts (ax_gV T_1135 T_1137 T_1138 T_265 T_1136) rfl rfl rfl (by decide +kernel) ⟨Nat.le_of_ble_eq_true rfl, Nat.le_of_ble_eq_true rfl⟩) ⟨fun a U g mk q => ⟨q.1, s_pc (U := U) rfl rfl q.2⟩, s_recv hK hP (hLK _ ha0 (by decide)) (ci := 7) rfl oY65, fun U hU hW => ⟨rfl, s_pw hU hW hP hK hD hN⟩⟩ rfl rfl hl.1 rfl (lv_room (Nat.le_of_ble_eq_true rfl)) dX7_next_89 ⟨Nat.zero_le _, Nat.zero_le _⟩) hS (fun q _ h => h) (fun q h => h) (fun r68 F69 t H1 locs ht hvm hw hB hz1 hk1 hS => ?_)
                obtain ⟨hP, hK1⟩ := hB
                rw [ht] at hP
                generalize H1 = H at hP hS ⊢
                clear hz1 hk1 hvm hK1
                obtain ⟨h70, h72, hI, hfr1, hzf, h71⟩ := hw
                have o73 : F69 (A 13) = .inl (cs 0, 400, .inl f1) := (hfr1 _ (by rw [(y_k13 hA)]; decide)).trans o62
                have o74 : F69 (A 20) = .inl (cs 0, 918, .inl f4) := (hfr1 _ (by rw [(y_k20 hA)]; decide)).trans o63
                have o75 : F69 (A 30) = .inl (cs 0, 18360, .inl f7) := (hfr1 _ (by rw [(y_k30 hA)]; decide)).trans o64
                have oY76 : F69 a0 = .inr (7, y_fl A z0 q0) := (hfr1 _ (by rw [ha0]; decide)).trans oY65
                have hfr : ∀ b, K b ∉ [71, 72] → F69 b = F b := fun b hb9 => (hfr1 b (fun q => hb9 (s_sub (by decide) q))).trans (hfr b hb9)
                exact W.iret (v := r68) hx hb hr (fun t ht hW => ⟨⟨r68, F69, rfl, ⟨trivial, trivial, hI, hfr, fun k hk => (y_fiZ oY76 (s_sub (by decide) hk)).trans ((hz0 k hk).trans (y_fiZ oY0 (s_sub (by decide) hk)).symm), (by rw [y_fiZ oY76 (k := 15) (by decide), ← ev10, y_atE o73, y_atE o74, y_atE o75, y_fiZ oY76 (k := 31) (by decide), ← ev11, y_fiZ oY76 (k := 32) (by decide), ← ev12]; exact hT)⟩, by rw [ht]; exact hP, va_K.moved hW.alike hK⟩, hS.F ht⟩) hS.2.2 dX7_next_92
              · have c43 := (ax_eq (n := 2) (by decide)).mp c43
                refine lv_aload_n hx hb dX7_next_69 rfl (lv_at hl 1 rfl) ?_
                refine lv_iload_n hx hb dX7_next_70 rfl (lv_at hl 0 rfl) ?_
                have rg77 : 0 ≤ r31.toInt ∧ r31.toInt ≤ 3 := ⟨by omega, by omega⟩
                refine va_calli (va_runV (As := [.int r31]) (rest := []) ⟨hx, hb, hml, hown, hts⟩ (y_X7_together l dC dI H.size hLK A hA F32 a0 r31 ha0 rg77 hI (by rw [y_atE o37]; exact (hNG.2.2.2.2 r31.toInt (by omega) (by omega)).1)) (cwV 1 hts (ax_gV T_1061 T_1063 T_1064 T_265 T_1062) rfl rfl rfl (by decide +kernel) ⟨Nat.le_of_ble_eq_true rfl, Nat.le_of_ble_eq_true rfl⟩) ⟨fun a U g mk q => ⟨q.1, s_pc (U := U) rfl rfl q.2⟩, s_recv hK hP (hLK _ ha0 (by decide)) (ci := 7) rfl oY39, fun U hU hW => ⟨rfl, s_pw hU hW hP hK hD hN⟩⟩ rfl rfl hl.1 rfl (lv_room (Nat.le_of_ble_eq_true rfl)) dX7_next_71 ⟨Nat.zero_le _, Nat.zero_le _⟩) hS (fun q _ h => h) (fun q h => h) (fun r79 F80 t H1 locs ht hvm hw hB hz1 hk1 hS => ?_)
                obtain ⟨hP, hK1⟩ := hB
                rw [ht] at hP
                generalize H1 = H at hP hS ⊢
                clear hz1 hk1 hvm hK1
                obtain ⟨h81, h83, hI, hfr1, hzf, h82⟩ := hw
                have o84 : F80 (A 13) = .inl (cs 0, 400, .inl f1) := (hfr1 _ (by rw [(y_k13 hA)]; decide)).trans o36
                have o85 : F80 (A 20) = .inl (cs 0, 918, .inl f4) := (hfr1 _ (by rw [(y_k20 hA)]; decide)).trans o37
                have o86 : F80 (A 30) = .inl (cs 0, 18360, .inl f7) := (hfr1 _ (by rw [(y_k30 hA)]; decide)).trans o38
                have oY87 : F80 a0 = .inr (7, y_fl A z0 q0) := (hfr1 _ (by rw [ha0]; decide)).trans oY39
                have hfr : ∀ b, K b ∉ [71, 72] → F80 b = F b := fun b hb9 => (hfr1 b (fun q => hb9 (s_sub (by decide) q))).trans (hfr b hb9)
                replace h82 : (y_TG f4 r31.toInt r79) := by have q9 := h82; rw [y_atE o37] at q9; exact q9
                refine lv_goto (tgt := 92) hx hb dX7_next_74 (by decide) ?_
                exact W.iret (v := r79) hx hb hr (fun t ht hW => ⟨⟨r79, F80, rfl, ⟨trivial, trivial, hI, hfr, fun k hk => (y_fiZ oY87 (s_sub (by decide) hk)).trans ((hz0 k hk).trans (y_fiZ oY0 (s_sub (by decide) hk)).symm), (by rw [y_fiZ oY87 (k := 15) (by decide), ← ev10, y_atE o84, y_atE o85, y_atE o86, y_fiZ oY87 (k := 31) (by decide), ← ev11, y_fiZ oY87 (k := 32) (by decide), ← ev12]; exact hT)⟩, by rw [ht]; exact hP, va_K.moved hW.alike hK⟩, hS.F ht⟩) hS.2.2 dX7_next_92
            · have c42 := (ax_eq (n := 1) (by decide)).mp c42
              refine lv_aload_n hx hb dX7_next_58 rfl (lv_at hl 1 rfl) ?_
              refine lv_iload_n hx hb dX7_next_59 rfl (lv_at hl 0 rfl) ?_
              have rg88 : 0 ≤ r31.toInt ∧ r31.toInt ≤ 3 := ⟨by omega, by omega⟩
              refine va_calli (va_runV (As := [.int r31]) (rest := []) ⟨hx, hb, hml, hown, hts⟩ (y_X7_lineOf l dC dI H.size hLK A hA F32 a0 r31 ha0 rg88 hI (by rw [y_atE o36, y_atE o37]; exact (hNG.2.2.2.2 r31.toInt (by omega) (by omega))) (by rw [y_atE o37]; exact hgo9.2.2)) (cwV 1 hts (ax_gV T_1127 T_1129 T_1130 T_265 T_1128) rfl rfl rfl (by decide +kernel) ⟨Nat.le_of_ble_eq_true rfl, Nat.le_of_ble_eq_true rfl⟩) ⟨fun a U g mk q => ⟨q.1, s_pc (U := U) rfl rfl q.2⟩, s_recv hK hP (hLK _ ha0 (by decide)) (ci := 7) rfl oY39, fun U hU hW => ⟨rfl, s_pw hU hW hP hK hD hN⟩⟩ rfl rfl hl.1 rfl (lv_room (Nat.le_of_ble_eq_true rfl)) dX7_next_60 ⟨Nat.zero_le _, Nat.zero_le _⟩) hS (fun q _ h => h) (fun q h => h) (fun r90 F91 t H1 locs ht hvm hw hB hz1 hk1 hS => ?_)
              obtain ⟨hP, hK1⟩ := hB
              rw [ht] at hP
              generalize H1 = H at hP hS ⊢
              clear hz1 hk1 hvm hK1
              obtain ⟨h92, h94, hI, hfr1, hzf, h93⟩ := hw
              have o95 : F91 (A 13) = .inl (cs 0, 400, .inl f1) := (hfr1 _ (by rw [(y_k13 hA)]; decide)).trans o36
              have o96 : F91 (A 20) = .inl (cs 0, 918, .inl f4) := (hfr1 _ (by rw [(y_k20 hA)]; decide)).trans o37
              have o97 : F91 (A 30) = .inl (cs 0, 18360, .inl f7) := (hfr1 _ (by rw [(y_k30 hA)]; decide)).trans o38
              have oY98 : F91 a0 = .inr (7, y_fl A z0 q0) := (hfr1 _ (by rw [ha0]; decide)).trans oY39
              have hfr : ∀ b, K b ∉ [71, 72] → F91 b = F b := fun b hb9 => (hfr1 b (fun q => hb9 (s_sub (by decide) q))).trans (hfr b hb9)
              replace h93 : (0 ≤ r90.toInt ∧ r90.toInt < (y_c f1 387).toInt) := by have q9 := h93; rw [y_atE o36] at q9; exact q9
              exact W.iret (v := r90) hx hb hr (fun t ht hW => ⟨⟨r90, F91, rfl, ⟨trivial, trivial, hI, hfr, fun k hk => (y_fiZ oY98 (s_sub (by decide) hk)).trans ((hz0 k hk).trans (y_fiZ oY0 (s_sub (by decide) hk)).symm), (by rw [y_fiZ oY98 (k := 15) (by decide), ← ev10, y_atE o95, y_atE o96, y_atE o97, y_fiZ oY98 (k := 31) (by decide), ← ev11, y_fiZ oY98 (k := 32) (by decide), ← ev12]; exact hT)⟩, by rw [ht]; exact hP, va_K.moved hW.alike hK⟩, hS.F ht⟩) hS.2.2 dX7_next_63
          · have c41 := (ax_eq (n := 0) (by decide)).mp c41
            refine lv_iload_n hx hb dX7_next_51 rfl (lv_at hl 0 rfl) ?_
            exact W.iret (v := r31) hx hb hr (fun t ht hW => ⟨⟨r31, F32, rfl, ⟨trivial, trivial, hI, hfr, fun k hk => (y_fiZ oY39 (s_sub (by decide) hk)).trans ((hz0 k hk).trans (y_fiZ oY0 (s_sub (by decide) hk)).symm), (by rw [y_fiZ oY39 (k := 15) (by decide), ← ev10, y_atE o36, y_atE o37, y_atE o38, y_fiZ oY39 (k := 31) (by decide), ← ev11, y_fiZ oY39 (k := 32) (by decide), ← ev12]; exact hT)⟩, by rw [ht]; exact hP, va_K.moved hW.alike hK⟩, hS.F ht⟩) hS.2.2 dX7_next_52
        · have c40 := (ax_eq (n := (-1)) (by decide)).mp c40
          refine lv_iconst (v := (-1)) hx hb dX7_next_45 (by decide) ?_
          have h99 : ((-1) : Int32).toInt = (-1) := by decide
          exact W.iret (v := (-1)) hx hb hr (fun t ht hW => ⟨⟨(-1), F32, rfl, ⟨trivial, trivial, hI, hfr, fun k hk => (y_fiZ oY39 (s_sub (by decide) hk)).trans ((hz0 k hk).trans (y_fiZ oY0 (s_sub (by decide) hk)).symm), (by rw [y_fiZ oY39 (k := 15) (by decide), ← ev10, y_atE o36, y_atE o37, y_atE o38, y_fiZ oY39 (k := 31) (by decide), ← ev11, y_fiZ oY39 (k := 32) (by decide), ← ev12]; exact hT)⟩, by rw [ht]; exact hP, va_K.moved hW.alike hK⟩, hS.F ht⟩) hS.2.2 dX7_next_46

set_option maxHeartbeats 4000000 in
set_option maxRecDepth 100000 in
theorem y_X7_putsAside (l : Launch) (dC : Nat → ClassId) (dI : Nat → Nat → Nat) (sz : Nat) {L : List Nat} {K : Nat → Nat} {cs : Nat → ClassId} (hLK : ∀ a {k : Nat}, K a = k → k ≠ 0 → a ∈ L) (A : Nat → Nat) (hA : y_A K A) (F : Nat → va_E) (a0 : Nat) (ha0 : K a0 = 9) (hI : y_I K cs A F) : Met l yX7_putsAside (Cond.code yX7_putsAside cX7_putsAside 2 none :: T0) ({ frames := 0, cells := 0, slots := 0, locals := 0 }) (va_Pc [.ref a0] (s_W dC dI sz L F [(cs 0, .int), (cs 1, .byte), (cs 2, .long), (cs 3, .object RX5), (cs 4, .object RX4), (cs 5, .array .int), (cs 6, .char), (cs 7, .boolean)])) (va_Qv (fun (G : Nat → va_E) => True ∧ True ∧ y_I K cs A G ∧ (∀ b, K b ∉ [73] → G b = F b) ∧ (∀ k, k ∈ ([1, 2, 3, 4, 5, 6, 7, 8, 11, 15, 16, 19, 25, 26, 27, 31, 32] : List Nat) → y_fi G a0 k = y_fi F a0 k) ∧ (y_CP (y_at F (A 20)) (y_at G (A 23)))) (fun (G : Nat → va_E) (t : State) => va_P (dC, dI) vwCl (va_pl L G) t.heap ∧ va_K (dC, dI) vwCl [(cs 0, .int), (cs 1, .byte), (cs 2, .long), (cs 3, .object RX5), (cs 4, .object RX4), (cs 5, .array .int), (cs 6, .char), (cs 7, .boolean)] t) (fun q => q ∈ L)) 0 0 (fun q => q ∈ L) := by
  refine Met.ofW (cc := cX7_putsAside) (maxL := 2) (ret := none) (by decide) rfl ?_
  intro p e s m args below meth c s₁ B hml hv
  obtain ⟨rfl, hsz, hP, hK, hD, hN⟩ := hv
  have hx := B.exec
  have hb := B.bytes
  have hr := B.returns
  have hts : ∀ w ∈ T0, w.before _ s = true := fun w h => atoms_spec (ws := Cond.code yX7_putsAside cX7_putsAside 2 none :: T0) B.pre w (List.mem_cons_of_mem _ h)
  have hown : s.vm.findClass RX7 = some m.cls := findClass_of_methodNamed B.named
  have hlocks := B.notSynchronized
  have hS : va_S (fun q => q ∈ L) s.heap s.heap [] := va_S.rf
  have hfr : ∀ b, K b ∉ [73] → F b = F b := fun _ _ => rfl
  have hl := lv_entry ([.ref a0]) (n := 2) (Nat.le_of_ble_eq_true rfl)
  rw [lg_entry_eq]
  generalize (lg_sl ([.ref a0]) ++ List.replicate (2 - (lg_sl ([.ref a0])).length) Slot.unset).toArray = ls at hl ⊢
  have hl : lv_has ls 2 [(0, .ref a0)] := hl
  refine s_gen hP hS (fun H locs hP hS => ?_)
  obtain ⟨z0, q0, oY0, bz0, bq0⟩ := y_opY hI ha0
  have hz0 : ∀ k, k ∈ ([1, 2, 3, 4, 5, 6, 7, 8, 11, 15, 16, 19, 25, 26, 27, 31, 32] : List Nat) → z0 k = z0 k := fun _ _ => rfl
  obtain ⟨f1, o2, b3⟩ := y_op20 hI
  obtain ⟨f4, o5, b6⟩ := y_op23 hI
  refine lv_iconst (v := 0) hx hb dX7_putsAside_0 (by decide) ?_
  refine lv_istore_n (lv' := [(1, .int 0), (0, .ref a0)]) hx hb dX7_putsAside_1 rfl hl (by decide) rfl (fun ls hl => ?_)
  have h8 : (0 : Int32).toInt = 0 := by decide
  refine th_loop (fun n g H locs => ∃ (G : Nat → va_E) (ls : Array Slot) (w7 : Int32), g = F0 m 2 ls [] ∧ lv_has ls 2 [(0, .ref a0), (1, .int w7)] ∧ va_P (dC, dI) vwCl (va_pl L G) H ∧ va_S (fun q => q ∈ L) s.heap H locs ∧ y_I K cs A G ∧ (∀ b, K b ∉ [73] → G b = F b) ∧ (∀ k, k ∈ ([1, 2, 3, 4, 5, 6, 7, 8, 11, 15, 16, 19, 25, 26, 27, 31, 32] : List Nat) → y_fi G a0 k = z0 k) ∧ (0 ≤ w7.toInt ∧ w7.toInt ≤ 918) ∧ (∀ j : Int, 0 ≤ j → j < w7.toInt → y_c (y_at G (A 23)) j = y_c f1 j) ∧ n = (919 - w7.toInt).toNat) _ ⟨F, _, 0, rfl, lv_sub hl [1, 0] rfl, hP, hS, hI, hfr, (fun k hk => (y_fiZ oY0 (s_sub (by decide) hk)).trans (hz0 k hk)), (by decide), (by rw [y_atE o5]; exact (fun j h0 h1 => absurd h1 (by omega))), rfl⟩ (fun n ih2 g H locs hq => ?_)
  obtain ⟨F11, ls, w7, rfl, hl, hP, hS, hI, hfr, hz0, h9, h10, hn⟩ := hq
  have o12 : F11 (A 20) = .inl (cs 0, 918, .inl f1) := (hfr _ (by rw [(y_k20 hA)]; decide)).trans o2
  have oY13 : F11 a0 = .inr (7, y_fl A z0 q0) := (hfr _ (by rw [ha0]; decide)).trans oY0
  have hz0 : ∀ k, k ∈ ([1, 2, 3, 4, 5, 6, 7, 8, 11, 15, 16, 19, 25, 26, 27, 31, 32] : List Nat) → z0 k = z0 k := fun _ _ => rfl
  obtain ⟨f14, o15, b16⟩ := y_op23 hI
  replace h10 : (∀ j : Int, 0 ≤ j → j < w7.toInt → y_c f14 j = y_c f1 j) := by have q9 := h10; rw [y_atE o15] at q9; exact q9
  have hn_16 := hn
  refine lv_iload_n hx hb dX7_putsAside_2 rfl (lv_at hl 1 rfl) ?_
  refine lv_sipush (v := 918) hx hb dX7_putsAside_3 (by decide) ?_
  refine lv_icmp_ge (tgt := 27) hx hb dX7_putsAside_6 (by decide) (fun c17 => ?_) (fun c17 => ?_)
  · have c17 := (ax_ge (n := 918) (by decide)).mp c17
    exact W.vret hx hb hr (fun t ht hW => ⟨⟨F11, rfl, ⟨trivial, trivial, hI, hfr, fun k hk => (y_fiZ oY13 (s_sub (by decide) hk)).trans ((hz0 k hk).trans (y_fiZ oY0 (s_sub (by decide) hk)).symm), (by rw [y_atE o2, y_atE o15]; exact (fun j h0 h1 => h10 j h0 (by omega)))⟩, by rw [ht]; exact hP, va_K.moved hW.alike hK⟩, hS.F ht⟩) hS.2.2 dX7_putsAside_27
  · have c17 := mt (ax_ge (n := 918) (by decide)).mpr c17
    refine lv_aload_n hx hb dX7_putsAside_9 rfl (lv_at hl 0 rfl) ?_
    refine th_get (D := (dC, dI)) (ci := 7) (v := .ref (A 23)) (C := RX7) (T := TX7) (N := 34) hx hb hts inX7 hown hK hP (hLK _ ha0 (by decide)) oY13 rfl 23 (by decide) (hts _ T_254) (fun _ h9 => h9) rfl dX7_putsAside_10 ?_
    refine lv_iload_n hx hb dX7_putsAside_13 rfl (lv_at hl 1 rfl) ?_
    refine lv_aload_n hx hb dX7_putsAside_14 rfl (lv_at hl 0 rfl) ?_
    refine th_get (D := (dC, dI)) (ci := 7) (v := .ref (A 20)) (C := RX7) (T := TX7) (N := 34) hx hb hts inX7 hown hK hP (hLK _ ha0 (by decide)) oY13 rfl 20 (by decide) (hts _ T_251) (fun _ h9 => h9) rfl dX7_putsAside_15 ?_
    refine lv_iload_n hx hb dX7_putsAside_18 rfl (lv_at hl 1 rfl) ?_
    refine th_iald hx hb hK hP (hLK _ (y_k20 hA) (by decide)) 0 o12 rfl (th_in ⟨by omega, by omega⟩) dX7_putsAside_19 ?_
    refine lv_topi (fun v18 ev18 => ?_)
    have Ev18 : v18 = y_c f1 (w7.toInt) := ev18.trans (y_ci (by omega))
    have tEv18 := congrArg Int32.toInt Ev18
    refine th_iast hx hb hK hP hD hS (hLK _ (y_k23 hA) (by decide)) 0 o15 rfl (th_in ⟨by omega, by omega⟩) dX7_putsAside_20 (fun H locs hP hS => ?_)
    obtain ⟨f19, u20⟩ : ∃ g : Nat → Int32, g = upd f14 (w7 : Int32).toNatClampNeg v18 := ⟨_, rfl⟩
    rw [← u20] at hP
    have b21 : y_bd 23 f19 := trivial
    have hP : va_P (dC, dI) vwCl (va_pl L (va_up F11 (A 23) (.inl (cs 0, 918, .inl f19)))) H := hP
    obtain ⟨F22, hF23⟩ : ∃ G : Nat → va_E, G = va_up F11 (A 23) (.inl (cs 0, 918, .inl f19)) := ⟨_, rfl⟩
    rw [← hF23] at hP
    have hI : y_I K cs A F22 := by rw [hF23]; exact y_clA (i := 23) hA hI (by decide) b21
    have hfr : ∀ b, K b ∉ [73] → F22 b = F b := by rw [hF23]; exact s_fr hfr (y_k23 hA) (by decide)
    have o24 : F22 (A 20) = .inl (cs 0, 918, .inl f1) := by rw [hF23]; exact th_ne (th_kd (y_k20 hA) (y_k23 hA) (by decide)) o12
    have oY25 : F22 a0 = .inr (7, y_fl A z0 q0) := by rw [hF23]; exact th_ne (th_kd ha0 (y_k23 hA) (by decide)) oY13
    have o26 : F22 (A 23) = .inl (cs 0, 918, .inl f19) := by rw [hF23]; exact th_up
    have u27 : ∀ j : Int, 0 ≤ j → y_c f19 j = if j = w7.toInt then v18 else y_c f14 j := by rw [u20]; exact y_cu rfl (by omega)
    obtain ⟨v28, ev28⟩ : ∃ y : Int32, w7 + 1 = y := ⟨_, rfl⟩
    have qv28 : v28.toInt = w7.toInt + 1 := by rw [← ev28]; exact th_add rfl (by decide) ⟨by omega, by omega⟩
    refine lv_iinc (v := v28) (lv' := [(1, .int v28), (0, .ref a0)]) hx hb dX7_putsAside_21 hl (k := 1) rfl ev28 (by decide) rfl (fun ls hl => ?_)
    refine lv_goto (tgt := 2) hx hb dX7_putsAside_24 (by decide) ?_
    exact ih2 _ _ _ _ (by omega) ⟨F22, _, v28, rfl, lv_sub hl [1, 0] rfl, hP, hS, hI, hfr, (fun k hk => (y_fiZ oY25 (s_sub (by decide) hk)).trans (hz0 k hk)), ⟨by omega, by omega⟩, (by rw [y_atE o26]; exact (fun j h0 h1 => by rw [u27 j h0]; split; rename_i q9; rw [q9]; exact Ev18; exact h10 j h0 (by omega))), rfl⟩

set_option maxHeartbeats 4000000 in
set_option maxRecDepth 100000 in
theorem y_X7_takesBack (l : Launch) (dC : Nat → ClassId) (dI : Nat → Nat → Nat) (sz : Nat) {L : List Nat} {K : Nat → Nat} {cs : Nat → ClassId} (hLK : ∀ a {k : Nat}, K a = k → k ≠ 0 → a ∈ L) (A : Nat → Nat) (hA : y_A K A) (F : Nat → va_E) (a0 : Nat) (ha0 : K a0 = 9) (hI : y_I K cs A F) : Met l yX7_takesBack (Cond.code yX7_takesBack cX7_takesBack 2 none :: T0) ({ frames := 0, cells := 0, slots := 0, locals := 0 }) (va_Pc [.ref a0] (s_W dC dI sz L F [(cs 0, .int), (cs 1, .byte), (cs 2, .long), (cs 3, .object RX5), (cs 4, .object RX4), (cs 5, .array .int), (cs 6, .char), (cs 7, .boolean)])) (va_Qv (fun (G : Nat → va_E) => True ∧ True ∧ y_I K cs A G ∧ (∀ b, K b ∉ [70] → G b = F b) ∧ (∀ k, k ∈ ([1, 2, 3, 4, 5, 6, 7, 8, 11, 15, 16, 19, 25, 26, 27, 31, 32] : List Nat) → y_fi G a0 k = y_fi F a0 k) ∧ (y_CP (y_at F (A 23)) (y_at G (A 20)))) (fun (G : Nat → va_E) (t : State) => va_P (dC, dI) vwCl (va_pl L G) t.heap ∧ va_K (dC, dI) vwCl [(cs 0, .int), (cs 1, .byte), (cs 2, .long), (cs 3, .object RX5), (cs 4, .object RX4), (cs 5, .array .int), (cs 6, .char), (cs 7, .boolean)] t) (fun q => q ∈ L)) 0 0 (fun q => q ∈ L) := by
  refine Met.ofW (cc := cX7_takesBack) (maxL := 2) (ret := none) (by decide) rfl ?_
  intro p e s m args below meth c s₁ B hml hv
  obtain ⟨rfl, hsz, hP, hK, hD, hN⟩ := hv
  have hx := B.exec
  have hb := B.bytes
  have hr := B.returns
  have hts : ∀ w ∈ T0, w.before _ s = true := fun w h => atoms_spec (ws := Cond.code yX7_takesBack cX7_takesBack 2 none :: T0) B.pre w (List.mem_cons_of_mem _ h)
  have hown : s.vm.findClass RX7 = some m.cls := findClass_of_methodNamed B.named
  have hlocks := B.notSynchronized
  have hS : va_S (fun q => q ∈ L) s.heap s.heap [] := va_S.rf
  have hfr : ∀ b, K b ∉ [70] → F b = F b := fun _ _ => rfl
  have hl := lv_entry ([.ref a0]) (n := 2) (Nat.le_of_ble_eq_true rfl)
  rw [lg_entry_eq]
  generalize (lg_sl ([.ref a0]) ++ List.replicate (2 - (lg_sl ([.ref a0])).length) Slot.unset).toArray = ls at hl ⊢
  have hl : lv_has ls 2 [(0, .ref a0)] := hl
  refine s_gen hP hS (fun H locs hP hS => ?_)
  obtain ⟨z0, q0, oY0, bz0, bq0⟩ := y_opY hI ha0
  have hz0 : ∀ k, k ∈ ([1, 2, 3, 4, 5, 6, 7, 8, 11, 15, 16, 19, 25, 26, 27, 31, 32] : List Nat) → z0 k = z0 k := fun _ _ => rfl
  obtain ⟨f1, o2, b3⟩ := y_op20 hI
  obtain ⟨f4, o5, b6⟩ := y_op23 hI
  refine lv_iconst (v := 0) hx hb dX7_takesBack_0 (by decide) ?_
  refine lv_istore_n (lv' := [(1, .int 0), (0, .ref a0)]) hx hb dX7_takesBack_1 rfl hl (by decide) rfl (fun ls hl => ?_)
  have h8 : (0 : Int32).toInt = 0 := by decide
  refine th_loop (fun n g H locs => ∃ (G : Nat → va_E) (ls : Array Slot) (w7 : Int32), g = F0 m 2 ls [] ∧ lv_has ls 2 [(0, .ref a0), (1, .int w7)] ∧ va_P (dC, dI) vwCl (va_pl L G) H ∧ va_S (fun q => q ∈ L) s.heap H locs ∧ y_I K cs A G ∧ (∀ b, K b ∉ [70] → G b = F b) ∧ (∀ k, k ∈ ([1, 2, 3, 4, 5, 6, 7, 8, 11, 15, 16, 19, 25, 26, 27, 31, 32] : List Nat) → y_fi G a0 k = z0 k) ∧ (0 ≤ w7.toInt ∧ w7.toInt ≤ 918) ∧ (∀ j : Int, 0 ≤ j → j < w7.toInt → y_c (y_at G (A 20)) j = y_c f4 j) ∧ n = (919 - w7.toInt).toNat) _ ⟨F, _, 0, rfl, lv_sub hl [1, 0] rfl, hP, hS, hI, hfr, (fun k hk => (y_fiZ oY0 (s_sub (by decide) hk)).trans (hz0 k hk)), (by decide), (by rw [y_atE o2]; exact (fun j h0 h1 => absurd h1 (by omega))), rfl⟩ (fun n ih2 g H locs hq => ?_)
  obtain ⟨F11, ls, w7, rfl, hl, hP, hS, hI, hfr, hz0, h9, h10, hn⟩ := hq
  have o12 : F11 (A 23) = .inl (cs 0, 918, .inl f4) := (hfr _ (by rw [(y_k23 hA)]; decide)).trans o5
  have oY13 : F11 a0 = .inr (7, y_fl A z0 q0) := (hfr _ (by rw [ha0]; decide)).trans oY0
  have hz0 : ∀ k, k ∈ ([1, 2, 3, 4, 5, 6, 7, 8, 11, 15, 16, 19, 25, 26, 27, 31, 32] : List Nat) → z0 k = z0 k := fun _ _ => rfl
  obtain ⟨f14, o15, b16⟩ := y_op20 hI
  replace h10 : (∀ j : Int, 0 ≤ j → j < w7.toInt → y_c f14 j = y_c f4 j) := by have q9 := h10; rw [y_atE o15] at q9; exact q9
  have hn_16 := hn
  refine lv_iload_n hx hb dX7_takesBack_2 rfl (lv_at hl 1 rfl) ?_
  refine lv_sipush (v := 918) hx hb dX7_takesBack_3 (by decide) ?_
  refine lv_icmp_ge (tgt := 27) hx hb dX7_takesBack_6 (by decide) (fun c17 => ?_) (fun c17 => ?_)
  · have c17 := (ax_ge (n := 918) (by decide)).mp c17
    exact W.vret hx hb hr (fun t ht hW => ⟨⟨F11, rfl, ⟨trivial, trivial, hI, hfr, fun k hk => (y_fiZ oY13 (s_sub (by decide) hk)).trans ((hz0 k hk).trans (y_fiZ oY0 (s_sub (by decide) hk)).symm), (by rw [y_atE o5, y_atE o15]; exact (fun j h0 h1 => h10 j h0 (by omega)))⟩, by rw [ht]; exact hP, va_K.moved hW.alike hK⟩, hS.F ht⟩) hS.2.2 dX7_takesBack_27
  · have c17 := mt (ax_ge (n := 918) (by decide)).mpr c17
    refine lv_aload_n hx hb dX7_takesBack_9 rfl (lv_at hl 0 rfl) ?_
    refine th_get (D := (dC, dI)) (ci := 7) (v := .ref (A 20)) (C := RX7) (T := TX7) (N := 34) hx hb hts inX7 hown hK hP (hLK _ ha0 (by decide)) oY13 rfl 20 (by decide) (hts _ T_251) (fun _ h9 => h9) rfl dX7_takesBack_10 ?_
    refine lv_iload_n hx hb dX7_takesBack_13 rfl (lv_at hl 1 rfl) ?_
    refine lv_aload_n hx hb dX7_takesBack_14 rfl (lv_at hl 0 rfl) ?_
    refine th_get (D := (dC, dI)) (ci := 7) (v := .ref (A 23)) (C := RX7) (T := TX7) (N := 34) hx hb hts inX7 hown hK hP (hLK _ ha0 (by decide)) oY13 rfl 23 (by decide) (hts _ T_254) (fun _ h9 => h9) rfl dX7_takesBack_15 ?_
    refine lv_iload_n hx hb dX7_takesBack_18 rfl (lv_at hl 1 rfl) ?_
    refine th_iald hx hb hK hP (hLK _ (y_k23 hA) (by decide)) 0 o12 rfl (th_in ⟨by omega, by omega⟩) dX7_takesBack_19 ?_
    refine lv_topi (fun v18 ev18 => ?_)
    have Ev18 : v18 = y_c f4 (w7.toInt) := ev18.trans (y_ci (by omega))
    have tEv18 := congrArg Int32.toInt Ev18
    refine th_iast hx hb hK hP hD hS (hLK _ (y_k20 hA) (by decide)) 0 o15 rfl (th_in ⟨by omega, by omega⟩) dX7_takesBack_20 (fun H locs hP hS => ?_)
    obtain ⟨f19, u20⟩ : ∃ g : Nat → Int32, g = upd f14 (w7 : Int32).toNatClampNeg v18 := ⟨_, rfl⟩
    rw [← u20] at hP
    have b21 : y_bd 20 f19 := trivial
    have hP : va_P (dC, dI) vwCl (va_pl L (va_up F11 (A 20) (.inl (cs 0, 918, .inl f19)))) H := hP
    obtain ⟨F22, hF23⟩ : ∃ G : Nat → va_E, G = va_up F11 (A 20) (.inl (cs 0, 918, .inl f19)) := ⟨_, rfl⟩
    rw [← hF23] at hP
    have hI : y_I K cs A F22 := by rw [hF23]; exact y_clA (i := 20) hA hI (by decide) b21
    have hfr : ∀ b, K b ∉ [70] → F22 b = F b := by rw [hF23]; exact s_fr hfr (y_k20 hA) (by decide)
    have o24 : F22 (A 23) = .inl (cs 0, 918, .inl f4) := by rw [hF23]; exact th_ne (th_kd (y_k23 hA) (y_k20 hA) (by decide)) o12
    have oY25 : F22 a0 = .inr (7, y_fl A z0 q0) := by rw [hF23]; exact th_ne (th_kd ha0 (y_k20 hA) (by decide)) oY13
    have o26 : F22 (A 20) = .inl (cs 0, 918, .inl f19) := by rw [hF23]; exact th_up
    have u27 : ∀ j : Int, 0 ≤ j → y_c f19 j = if j = w7.toInt then v18 else y_c f14 j := by rw [u20]; exact y_cu rfl (by omega)
    obtain ⟨v28, ev28⟩ : ∃ y : Int32, w7 + 1 = y := ⟨_, rfl⟩
    have qv28 : v28.toInt = w7.toInt + 1 := by rw [← ev28]; exact th_add rfl (by decide) ⟨by omega, by omega⟩
    refine lv_iinc (v := v28) (lv' := [(1, .int v28), (0, .ref a0)]) hx hb dX7_takesBack_21 hl (k := 1) rfl ev28 (by decide) rfl (fun ls hl => ?_)
    refine lv_goto (tgt := 2) hx hb dX7_takesBack_24 (by decide) ?_
    exact ih2 _ _ _ _ (by omega) ⟨F22, _, v28, rfl, lv_sub hl [1, 0] rfl, hP, hS, hI, hfr, (fun k hk => (y_fiZ oY25 (s_sub (by decide) hk)).trans (hz0 k hk)), ⟨by omega, by omega⟩, (by rw [y_atE o26]; exact (fun j h0 h1 => by rw [u27 j h0]; split; rename_i q9; rw [q9]; exact Ev18; exact h10 j h0 (by omega))), rfl⟩

set_option maxHeartbeats 4000000 in
set_option maxRecDepth 100000 in
theorem y_X7_isEnded (l : Launch) (dC : Nat → ClassId) (dI : Nat → Nat → Nat) (sz : Nat) {L : List Nat} {K : Nat → Nat} {cs : Nat → ClassId} (hLK : ∀ a {k : Nat}, K a = k → k ≠ 0 → a ∈ L) (A : Nat → Nat) (hA : y_A K A) (F : Nat → va_E) (a0 : Nat) (ha0 : K a0 = 9) (hI : y_I K cs A F) (hPG : y_PG (y_at F (A 13))) : Met l yX7_isEnded (Cond.code yX7_isEnded cX7_isEnded 1 (some .boolean) :: T0) ({ frames := 3, cells := 0, slots := 0, locals := 66 }) (va_Pc [.ref a0] (s_W dC dI sz L F [(cs 0, .int), (cs 1, .byte), (cs 2, .long), (cs 3, .object RX5), (cs 4, .object RX4), (cs 5, .array .int), (cs 6, .char), (cs 7, .boolean)])) (va_Qi (fun (r : Int32) (G : Nat → va_E) => (0 ≤ r.toInt ∧ r.toInt ≤ 1) ∧ True ∧ y_I K cs A G ∧ (∀ b, K b ∉ ([] : List Nat) → G b = F b) ∧ (∀ k, k ∈ ([1, 2, 3, 4, 5, 6, 7, 8, 11, 15, 16, 19, 25, 26, 27, 31, 32] : List Nat) → y_fi G a0 k = y_fi F a0 k) ∧ True) (fun (G : Nat → va_E) (t : State) => va_P (dC, dI) vwCl (va_pl L G) t.heap ∧ va_K (dC, dI) vwCl [(cs 0, .int), (cs 1, .byte), (cs 2, .long), (cs 3, .object RX5), (cs 4, .object RX4), (cs 5, .array .int), (cs 6, .char), (cs 7, .boolean)] t) (fun q => q ∈ L)) 0 0 (fun q => q ∈ L) := by
  refine Met.ofW (cc := cX7_isEnded) (maxL := 1) (ret := (some .boolean)) (by decide) rfl ?_
  intro p e s m args below meth c s₁ B hml hv
  obtain ⟨rfl, hsz, hP, hK, hD, hN⟩ := hv
  have hx := B.exec
  have hb := B.bytes
  have hr := B.returns
  have hts : ∀ w ∈ T0, w.before _ s = true := fun w h => atoms_spec (ws := Cond.code yX7_isEnded cX7_isEnded 1 (some .boolean) :: T0) B.pre w (List.mem_cons_of_mem _ h)
  have hown : s.vm.findClass RX7 = some m.cls := findClass_of_methodNamed B.named
  have hlocks := B.notSynchronized
  have hS : va_S (fun q => q ∈ L) s.heap s.heap [] := va_S.rf
  have hfr : ∀ b, K b ∉ ([] : List Nat) → F b = F b := fun _ _ => rfl
  have hl := lv_entry ([.ref a0]) (n := 1) (Nat.le_of_ble_eq_true rfl)
  rw [lg_entry_eq]
  generalize (lg_sl ([.ref a0]) ++ List.replicate (1 - (lg_sl ([.ref a0])).length) Slot.unset).toArray = ls at hl ⊢
  have hl : lv_has ls 1 [(0, .ref a0)] := hl
  refine s_gen hP hS (fun H locs hP hS => ?_)
  obtain ⟨z0, q0, oY0, bz0, bq0⟩ := y_opY hI ha0
  have hz0 : ∀ k, k ∈ ([1, 2, 3, 4, 5, 6, 7, 8, 11, 15, 16, 19, 25, 26, 27, 31, 32] : List Nat) → z0 k = z0 k := fun _ _ => rfl
  obtain ⟨f1, o2, b3⟩ := y_op13 hI
  replace hPG : y_PG f1 := by have q9 := hPG; rw [y_atE o2] at q9; exact q9
  have hL := y_P0L hPG.1
  have hW := y_P0W hPG.1
  refine lv_aload_n hx hb dX7_isEnded_0 rfl (lv_at hl 0 rfl) ?_
  refine lv_iconst (v := 3) hx hb dX7_isEnded_1 (by decide) ?_
  refine va_calli (va_runV (As := [.int 3]) (rest := []) ⟨hx, hb, hml, hown, hts⟩ (y_X7_sumOf l dC dI H.size hLK A hA F a0 3 ha0 (by decide) hI (by rw [y_atE o2]; exact hPG)) (cwV 1 hts (ax_gV T_1189 T_1191 T_1192 T_265 T_1190) rfl rfl rfl (by decide +kernel) ⟨Nat.le_of_ble_eq_true rfl, Nat.le_of_ble_eq_true rfl⟩) ⟨fun a U g mk q => ⟨q.1, s_pc (U := U) rfl rfl q.2⟩, s_recv hK hP (hLK _ ha0 (by decide)) (ci := 7) rfl oY0, fun U hU hW => ⟨rfl, s_pw hU hW hP hK hD hN⟩⟩ rfl rfl hl.1 rfl (lv_room (Nat.le_of_ble_eq_true rfl)) dX7_isEnded_2 ⟨Nat.zero_le _, Nat.zero_le _⟩) hS (fun q _ h => h) (fun q h => h) (fun r5 F6 t H1 locs ht hvm hw hB hz1 hk1 hS => ?_)
  obtain ⟨hP, hK1⟩ := hB
  rw [ht] at hP
  generalize H1 = H at hP hS ⊢
  clear hz1 hk1 hvm hK1
  obtain ⟨h7, h9, hI, hfr1, hzf, h8⟩ := hw
  have o10 : F6 (A 13) = .inl (cs 0, 400, .inl f1) := (hfr1 _ (by rw [(y_k13 hA)]; decide)).trans o2
  have oY11 : F6 a0 = .inr (7, y_fl A z0 q0) := (hfr1 _ (by rw [ha0]; decide)).trans oY0
  have hfr : ∀ b, K b ∉ ([] : List Nat) → F6 b = F b := fun b hb9 => (hfr1 b (fun q => hb9 (s_sub (by decide) q))).trans (hfr b hb9)
  refine lv_if_ne (tgt := 12) hx hb dX7_isEnded_5 (by decide) (fun c12 => ?_) (fun c12 => ?_)
  · have c12 := mt (ax_eq (n := 0) (by decide)).mpr c12
    refine lv_iconst (v := 0) hx hb dX7_isEnded_12 (by decide) ?_
    have h13 : (0 : Int32).toInt = 0 := by decide
    exact W.zret (v := 0) (ty := .boolean) hx hb hr (by decide) (fun t ht hW => ⟨⟨0, F6, rfl, ⟨(by decide), trivial, hI, hfr, fun k hk => (y_fiZ oY11 (s_sub (by decide) hk)).trans ((hz0 k hk).trans (y_fiZ oY0 (s_sub (by decide) hk)).symm), trivial⟩, by rw [ht]; exact hP, va_K.moved hW.alike hK⟩, hS.F ht⟩) hS.2.2 dX7_isEnded_13
  · have c12 := (ax_eq (n := 0) (by decide)).mp c12
    refine lv_iconst (v := 1) hx hb dX7_isEnded_8 (by decide) ?_
    refine lv_goto (tgt := 13) hx hb dX7_isEnded_9 (by decide) ?_
    have h14 : (1 : Int32).toInt = 1 := by decide
    exact W.zret (v := 1) (ty := .boolean) hx hb hr (by decide) (fun t ht hW => ⟨⟨1, F6, rfl, ⟨(by decide), trivial, hI, hfr, fun k hk => (y_fiZ oY11 (s_sub (by decide) hk)).trans ((hz0 k hk).trans (y_fiZ oY0 (s_sub (by decide) hk)).symm), trivial⟩, by rw [ht]; exact hP, va_K.moved hW.alike hK⟩, hS.F ht⟩) hS.2.2 dX7_isEnded_13

set_option maxHeartbeats 4000000 in
set_option maxRecDepth 100000 in
theorem y_X7_isStuck (l : Launch) (dC : Nat → ClassId) (dI : Nat → Nat → Nat) (sz : Nat) {L : List Nat} {K : Nat → Nat} {cs : Nat → ClassId} (hLK : ∀ a {k : Nat}, K a = k → k ≠ 0 → a ∈ L) (A : Nat → Nat) (hA : y_A K A) (F : Nat → va_E) (a0 : Nat) (ha0 : K a0 = 9) (hI : y_I K cs A F) (hPG : y_PG (y_at F (A 13))) (hNG : y_NG (y_at F (A 13)) (y_at F (A 20))) : Met l yX7_isStuck (Cond.code yX7_isStuck cX7_isStuck 2 (some .boolean) :: T0) ({ frames := 4, cells := 0, slots := 0, locals := 89 }) (va_Pc [.ref a0] (s_W dC dI sz L F [(cs 0, .int), (cs 1, .byte), (cs 2, .long), (cs 3, .object RX5), (cs 4, .object RX4), (cs 5, .array .int), (cs 6, .char), (cs 7, .boolean)])) (va_Qi (fun (r : Int32) (G : Nat → va_E) => (0 ≤ r.toInt ∧ r.toInt ≤ 1) ∧ True ∧ y_I K cs A G ∧ (∀ b, K b ∉ ([] : List Nat) → G b = F b) ∧ (∀ k, k ∈ ([1, 2, 3, 4, 5, 6, 7, 8, 11, 15, 16, 19, 25, 26, 27, 31, 32] : List Nat) → y_fi G a0 k = y_fi F a0 k) ∧ True) (fun (G : Nat → va_E) (t : State) => va_P (dC, dI) vwCl (va_pl L G) t.heap ∧ va_K (dC, dI) vwCl [(cs 0, .int), (cs 1, .byte), (cs 2, .long), (cs 3, .object RX5), (cs 4, .object RX4), (cs 5, .array .int), (cs 6, .char), (cs 7, .boolean)] t) (fun q => q ∈ L)) 0 0 (fun q => q ∈ L) := by
  refine Met.ofW (cc := cX7_isStuck) (maxL := 2) (ret := (some .boolean)) (by decide) rfl ?_
  intro p e s m args below meth c s₁ B hml hv
  obtain ⟨rfl, hsz, hP, hK, hD, hN⟩ := hv
  have hx := B.exec
  have hb := B.bytes
  have hr := B.returns
  have hts : ∀ w ∈ T0, w.before _ s = true := fun w h => atoms_spec (ws := Cond.code yX7_isStuck cX7_isStuck 2 (some .boolean) :: T0) B.pre w (List.mem_cons_of_mem _ h)
  have hown : s.vm.findClass RX7 = some m.cls := findClass_of_methodNamed B.named
  have hlocks := B.notSynchronized
  have hS : va_S (fun q => q ∈ L) s.heap s.heap [] := va_S.rf
  have hfr : ∀ b, K b ∉ ([] : List Nat) → F b = F b := fun _ _ => rfl
  have hl := lv_entry ([.ref a0]) (n := 2) (Nat.le_of_ble_eq_true rfl)
  rw [lg_entry_eq]
  generalize (lg_sl ([.ref a0]) ++ List.replicate (2 - (lg_sl ([.ref a0])).length) Slot.unset).toArray = ls at hl ⊢
  have hl : lv_has ls 2 [(0, .ref a0)] := hl
  refine s_gen hP hS (fun H locs hP hS => ?_)
  obtain ⟨z0, q0, oY0, bz0, bq0⟩ := y_opY hI ha0
  have hz0 : ∀ k, k ∈ ([1, 2, 3, 4, 5, 6, 7, 8, 11, 15, 16, 19, 25, 26, 27, 31, 32] : List Nat) → z0 k = z0 k := fun _ _ => rfl
  obtain ⟨f1, o2, b3⟩ := y_op13 hI
  obtain ⟨f4, o5, b6⟩ := y_op20 hI
  replace hPG : y_PG f1 := by have q9 := hPG; rw [y_atE o2] at q9; exact q9
  replace hNG : y_NG f1 f4 := by have q9 := hNG; rw [y_atE o2, y_atE o5] at q9; exact q9
  have hL := y_P0L hPG.1
  have hW := y_P0W hPG.1
  have hnn := And.intro hNG.1 (And.intro hNG.2.1 (And.intro hNG.2.2.1 hNG.2.2.2.1))
  refine lv_iconst (v := 0) hx hb dX7_isStuck_0 (by decide) ?_
  refine lv_istore_n (lv' := [(1, .int 0), (0, .ref a0)]) hx hb dX7_isStuck_1 rfl hl (by decide) rfl (fun ls hl => ?_)
  have h8 : (0 : Int32).toInt = 0 := by decide
  refine th_loop (fun n g H locs => ∃ (G : Nat → va_E) (ls : Array Slot) (w7 : Int32), g = F0 m 2 ls [] ∧ lv_has ls 2 [(0, .ref a0), (1, .int w7)] ∧ va_P (dC, dI) vwCl (va_pl L G) H ∧ va_S (fun q => q ∈ L) s.heap H locs ∧ y_I K cs A G ∧ (∀ b, K b ∉ ([] : List Nat) → G b = F b) ∧ (∀ k, k ∈ ([1, 2, 3, 4, 5, 6, 7, 8, 11, 15, 16, 19, 25, 26, 27, 31, 32] : List Nat) → y_fi G a0 k = z0 k) ∧ (0 ≤ w7.toInt ∧ w7.toInt ≤ 4) ∧ n = (5 - w7.toInt).toNat) _ ⟨F, _, 0, rfl, lv_sub hl [1, 0] rfl, hP, hS, hI, hfr, (fun k hk => (y_fiZ oY0 (s_sub (by decide) hk)).trans (hz0 k hk)), (by decide), rfl⟩ (fun n ih2 g H locs hq => ?_)
  obtain ⟨F10, ls, w7, rfl, hl, hP, hS, hI, hfr, hz0, h9, hn⟩ := hq
  have o11 : F10 (A 13) = .inl (cs 0, 400, .inl f1) := (hfr _ (by rw [(y_k13 hA)]; decide)).trans o2
  have o12 : F10 (A 20) = .inl (cs 0, 918, .inl f4) := (hfr _ (by rw [(y_k20 hA)]; decide)).trans o5
  have oY13 : F10 a0 = .inr (7, y_fl A z0 q0) := (hfr _ (by rw [ha0]; decide)).trans oY0
  have hz0 : ∀ k, k ∈ ([1, 2, 3, 4, 5, 6, 7, 8, 11, 15, 16, 19, 25, 26, 27, 31, 32] : List Nat) → z0 k = z0 k := fun _ _ => rfl
  have hn_13 := hn
  refine lv_iload_n hx hb dX7_isStuck_2 rfl (lv_at hl 1 rfl) ?_
  refine lv_aload_n hx hb dX7_isStuck_3 rfl (lv_at hl 0 rfl) ?_
  refine va_calli (va_runV (As := []) (rest := [.int w7]) ⟨hx, hb, hml, hown, hts⟩ (y_X7_warps l dC dI H.size hLK A hA F10 a0 ha0 hI) (cwV 0 hts (ax_gV T_993 T_995 T_996 T_265 T_994) rfl rfl rfl (by decide +kernel) ⟨Nat.le_of_ble_eq_true rfl, Nat.le_of_ble_eq_true rfl⟩) ⟨fun a U g mk q => ⟨q.1, s_pc (U := U) rfl rfl q.2⟩, s_recv hK hP (hLK _ ha0 (by decide)) (ci := 7) rfl oY13, fun U hU hW => ⟨rfl, s_pw hU hW hP hK hD hN⟩⟩ rfl rfl hl.1 rfl (lv_room (Nat.le_of_ble_eq_true rfl)) dX7_isStuck_4 ⟨Nat.zero_le _, Nat.zero_le _⟩) hS (fun q _ h => h) (fun q h => h) (fun r15 F16 t H1 locs ht hvm hw hB hz1 hk1 hS => ?_)
  obtain ⟨hP, hK1⟩ := hB
  rw [ht] at hP
  generalize H1 = H at hP hS ⊢
  clear hz1 hk1 hvm hK1
  obtain ⟨h17, h19, hI, hfr1, hzf, h18⟩ := hw
  have o20 : F16 (A 13) = .inl (cs 0, 400, .inl f1) := (hfr1 _ (by rw [(y_k13 hA)]; decide)).trans o11
  have o21 : F16 (A 20) = .inl (cs 0, 918, .inl f4) := (hfr1 _ (by rw [(y_k20 hA)]; decide)).trans o12
  have oY22 : F16 a0 = .inr (7, y_fl A z0 q0) := (hfr1 _ (by rw [ha0]; decide)).trans oY13
  have hfr : ∀ b, K b ∉ ([] : List Nat) → F16 b = F b := fun b hb9 => (hfr1 b (fun q => hb9 (s_sub (by decide) q))).trans (hfr b hb9)
  replace h18 : (r15 = y_c f1 384) := by have q9 := h18; rw [y_atE o11] at q9; exact q9
  have h23 := congrArg Int32.toInt h18
  have h24 : 1 ≤ r15.toInt ∧ r15.toInt ≤ 4 := ⟨by omega, by omega⟩
  refine lv_icmp_ge (tgt := 26) hx hb dX7_isStuck_7 (by decide) (fun c25 => ?_) (fun c25 => ?_)
  · have c25 := Int32.le_iff_toInt_le.mp c25
    refine lv_aload_n hx hb dX7_isStuck_26 rfl (lv_at hl 0 rfl) ?_
    refine va_calli (va_runV (As := []) (rest := []) ⟨hx, hb, hml, hown, hts⟩ (y_X7_isEnded l dC dI H.size hLK A hA F16 a0 ha0 hI (by rw [y_atE o20]; exact hPG)) (cwV 0 hts (ax_gV T_1102 T_1104 T_1105 T_265 T_1103) rfl rfl rfl (by decide +kernel) ⟨Nat.le_of_ble_eq_true rfl, Nat.le_of_ble_eq_true rfl⟩) ⟨fun a U g mk q => ⟨q.1, s_pc (U := U) rfl rfl q.2⟩, s_recv hK hP (hLK _ ha0 (by decide)) (ci := 7) rfl oY22, fun U hU hW => ⟨rfl, s_pw hU hW hP hK hD hN⟩⟩ rfl rfl hl.1 rfl (lv_room (Nat.le_of_ble_eq_true rfl)) dX7_isStuck_27 ⟨Nat.zero_le _, Nat.zero_le _⟩) hS (fun q _ h => h) (fun q h => h) (fun r27 F28 t H1 locs ht hvm hw hB hz1 hk1 hS => ?_)
    obtain ⟨hP, hK1⟩ := hB
    rw [ht] at hP
    generalize H1 = H at hP hS ⊢
    clear hz1 hk1 hvm hK1
    obtain ⟨h29, h31, hI, hfr1, hzf, h30⟩ := hw
    have o32 : F28 (A 13) = .inl (cs 0, 400, .inl f1) := (hfr1 _ (by rw [(y_k13 hA)]; decide)).trans o20
    have o33 : F28 (A 20) = .inl (cs 0, 918, .inl f4) := (hfr1 _ (by rw [(y_k20 hA)]; decide)).trans o21
    have oY34 : F28 a0 = .inr (7, y_fl A z0 q0) := (hfr1 _ (by rw [ha0]; decide)).trans oY22
    have hfr : ∀ b, K b ∉ ([] : List Nat) → F28 b = F b := fun b hb9 => (hfr1 b (fun q => hb9 (s_sub (by decide) q))).trans (hfr b hb9)
    refine lv_if_ne (tgt := 37) hx hb dX7_isStuck_30 (by decide) (fun c35 => ?_) (fun c35 => ?_)
    · have c35 := mt (ax_eq (n := 0) (by decide)).mpr c35
      refine lv_iconst (v := 0) hx hb dX7_isStuck_37 (by decide) ?_
      have h36 : (0 : Int32).toInt = 0 := by decide
      exact W.zret (v := 0) (ty := .boolean) hx hb hr (by decide) (fun t ht hW => ⟨⟨0, F28, rfl, ⟨(by decide), trivial, hI, hfr, fun k hk => (y_fiZ oY34 (s_sub (by decide) hk)).trans ((hz0 k hk).trans (y_fiZ oY0 (s_sub (by decide) hk)).symm), trivial⟩, by rw [ht]; exact hP, va_K.moved hW.alike hK⟩, hS.F ht⟩) hS.2.2 dX7_isStuck_38
    · have c35 := (ax_eq (n := 0) (by decide)).mp c35
      refine lv_iconst (v := 1) hx hb dX7_isStuck_33 (by decide) ?_
      refine lv_goto (tgt := 38) hx hb dX7_isStuck_34 (by decide) ?_
      have h37 : (1 : Int32).toInt = 1 := by decide
      exact W.zret (v := 1) (ty := .boolean) hx hb hr (by decide) (fun t ht hW => ⟨⟨1, F28, rfl, ⟨(by decide), trivial, hI, hfr, fun k hk => (y_fiZ oY34 (s_sub (by decide) hk)).trans ((hz0 k hk).trans (y_fiZ oY0 (s_sub (by decide) hk)).symm), trivial⟩, by rw [ht]; exact hP, va_K.moved hW.alike hK⟩, hS.F ht⟩) hS.2.2 dX7_isStuck_38
  · have c25 := mt Int32.le_iff_toInt_le.mpr c25
    refine lv_aload_n hx hb dX7_isStuck_10 rfl (lv_at hl 0 rfl) ?_
    refine lv_iload_n hx hb dX7_isStuck_11 rfl (lv_at hl 1 rfl) ?_
    have rg38 : 0 ≤ w7.toInt ∧ w7.toInt ≤ 3 := ⟨by omega, by omega⟩
    refine va_calli (va_runV (As := [.int w7]) (rest := []) ⟨hx, hb, hml, hown, hts⟩ (y_X7_together l dC dI H.size hLK A hA F16 a0 w7 ha0 rg38 hI (by rw [y_atE o21]; exact (hNG.2.2.2.2 w7.toInt (by omega) (by omega)).1)) (cwV 1 hts (ax_gV T_1061 T_1063 T_1064 T_265 T_1062) rfl rfl rfl (by decide +kernel) ⟨Nat.le_of_ble_eq_true rfl, Nat.le_of_ble_eq_true rfl⟩) ⟨fun a U g mk q => ⟨q.1, s_pc (U := U) rfl rfl q.2⟩, s_recv hK hP (hLK _ ha0 (by decide)) (ci := 7) rfl oY22, fun U hU hW => ⟨rfl, s_pw hU hW hP hK hD hN⟩⟩ rfl rfl hl.1 rfl (lv_room (Nat.le_of_ble_eq_true rfl)) dX7_isStuck_12 ⟨Nat.zero_le _, Nat.zero_le _⟩) hS (fun q _ h => h) (fun q h => h) (fun r40 F41 t H1 locs ht hvm hw hB hz1 hk1 hS => ?_)
    obtain ⟨hP, hK1⟩ := hB
    rw [ht] at hP
    generalize H1 = H at hP hS ⊢
    clear hz1 hk1 hvm hK1
    obtain ⟨h42, h44, hI, hfr1, hzf, h43⟩ := hw
    have o45 : F41 (A 13) = .inl (cs 0, 400, .inl f1) := (hfr1 _ (by rw [(y_k13 hA)]; decide)).trans o20
    have o46 : F41 (A 20) = .inl (cs 0, 918, .inl f4) := (hfr1 _ (by rw [(y_k20 hA)]; decide)).trans o21
    have oY47 : F41 a0 = .inr (7, y_fl A z0 q0) := (hfr1 _ (by rw [ha0]; decide)).trans oY22
    have hfr : ∀ b, K b ∉ ([] : List Nat) → F41 b = F b := fun b hb9 => (hfr1 b (fun q => hb9 (s_sub (by decide) q))).trans (hfr b hb9)
    replace h43 : (y_TG f4 w7.toInt r40) := by have q9 := h43; rw [y_atE o21] at q9; exact q9
    refine lv_if_eq (tgt := 20) hx hb dX7_isStuck_15 (by decide) (fun c48 => ?_) (fun c48 => ?_)
    · have c48 := (ax_eq (n := 0) (by decide)).mp c48
      obtain ⟨v49, ev49⟩ : ∃ y : Int32, w7 + 1 = y := ⟨_, rfl⟩
      have qv49 : v49.toInt = w7.toInt + 1 := by rw [← ev49]; exact th_add rfl (by decide) ⟨by omega, by omega⟩
      refine lv_iinc (v := v49) (lv' := [(1, .int v49), (0, .ref a0)]) hx hb dX7_isStuck_20 hl (k := 1) rfl ev49 (by decide) rfl (fun ls hl => ?_)
      refine lv_goto (tgt := 2) hx hb dX7_isStuck_23 (by decide) ?_
      exact ih2 _ _ _ _ (by omega) ⟨F41, _, v49, rfl, lv_sub hl [1, 0] rfl, hP, hS, hI, hfr, (fun k hk => (y_fiZ oY47 (s_sub (by decide) hk)).trans (hz0 k hk)), ⟨by omega, by omega⟩, rfl⟩
    · have c48 := mt (ax_eq (n := 0) (by decide)).mpr c48
      refine lv_iconst (v := 0) hx hb dX7_isStuck_18 (by decide) ?_
      have h50 : (0 : Int32).toInt = 0 := by decide
      exact W.zret (v := 0) (ty := .boolean) hx hb hr (by decide) (fun t ht hW => ⟨⟨0, F41, rfl, ⟨(by decide), trivial, hI, hfr, fun k hk => (y_fiZ oY47 (s_sub (by decide) hk)).trans ((hz0 k hk).trans (y_fiZ oY0 (s_sub (by decide) hk)).symm), trivial⟩, by rw [ht]; exact hP, va_K.moved hW.alike hK⟩, hS.F ht⟩) hS.2.2 dX7_isStuck_19
