set_option maxHeartbeats 4000000 in
set_option maxRecDepth 100000 in
theorem y_X7_set (l : Launch) (dC : Nat → ClassId) (dI : Nat → Nat → Nat) (sz : Nat) {L : List Nat} {K : Nat → Nat} {cs : Nat → ClassId} (hLK : ∀ a {k : Nat}, K a = k → k ≠ 0 → a ∈ L) (A : Nat → Nat) (hA : y_A K A) (F : Nat → va_E) (a0 : Nat) (x1 : Int32) (x2 : Int32) (x3 : Int32) (ha0 : K a0 = 9) (hI : y_I K cs A F) (hT : y_T (y_fi F a0 15) (y_at F (A 13)) (y_at F (A 20)) (y_at F (A 30)) (y_fi F a0 31) (y_fi F a0 32)) : Met l yX7_set (Cond.code yX7_set cX7_set 4 (some .boolean) :: T0) ({ frames := 4, cells := 0, slots := 0, locals := 92 }) (va_Pc [.ref a0, .int x1, .int x2, .int x3] (s_W dC dI sz L F [(cs 0, .int), (cs 1, .byte), (cs 2, .long), (cs 3, .object RX5), (cs 4, .object RX4), (cs 5, .array .int), (cs 6, .char), (cs 7, .boolean)])) (va_Qi (fun (r : Int32) (G : Nat → va_E) => (0 ≤ r.toInt ∧ r.toInt ≤ 1) ∧ True ∧ y_I K cs A G ∧ (∀ b, K b ∉ [9, 59, 70, 80] → G b = F b) ∧ (∀ k, k ∈ ([1, 2, 3, 4, 5, 6, 7, 8, 11, 15, 16, 19, 25, 26, 27] : List Nat) → y_fi G a0 k = y_fi F a0 k) ∧ (y_T (y_fi G a0 15) (y_at G (A 13)) (y_at G (A 20)) (y_at G (A 30)) (y_fi G a0 31) (y_fi G a0 32))) (fun (G : Nat → va_E) (t : State) => va_P (dC, dI) vwCl (va_pl L G) t.heap ∧ va_K (dC, dI) vwCl [(cs 0, .int), (cs 1, .byte), (cs 2, .long), (cs 3, .object RX5), (cs 4, .object RX4), (cs 5, .array .int), (cs 6, .char), (cs 7, .boolean)] t) (fun q => q ∈ L)) 0 0 (fun q => q ∈ L) := by
  refine Met.ofW (cc := cX7_set) (maxL := 4) (ret := (some .boolean)) (by decide) rfl ?_
  intro p e s m args below meth c s₁ B hml hv
  obtain ⟨rfl, hsz, hP, hK, hD, hN⟩ := hv
  have hx := B.exec
  have hb := B.bytes
  have hr := B.returns
  have hts : ∀ w ∈ T0, w.before _ s = true := fun w h => atoms_spec (ws := Cond.code yX7_set cX7_set 4 (some .boolean) :: T0) B.pre w (List.mem_cons_of_mem _ h)
  have hown : s.vm.findClass RX7 = some m.cls := findClass_of_methodNamed B.named
  have hlocks := B.notSynchronized
  have hS : va_S (fun q => q ∈ L) s.heap s.heap [] := va_S.rf
  have hfr : ∀ b, K b ∉ [9, 59, 70, 80] → F b = F b := fun _ _ => rfl
  have hl := lv_entry ([.ref a0, .int x1, .int x2, .int x3]) (n := 4) (Nat.le_of_ble_eq_true rfl)
  rw [lg_entry_eq]
  generalize (lg_sl ([.ref a0, .int x1, .int x2, .int x3]) ++ List.replicate (4 - (lg_sl ([.ref a0, .int x1, .int x2, .int x3])).length) Slot.unset).toArray = ls at hl ⊢
  have hl : lv_has ls 4 [(0, .ref a0), (1, .int x1), (2, .int x2), (3, .int x3)] := hl
  refine s_gen hP hS (fun H locs hP hS => ?_)
  obtain ⟨z0, q0, oY0, bz0, bq0⟩ := y_opY hI ha0
  have hz0 : ∀ k, k ∈ ([1, 2, 3, 4, 5, 6, 7, 8, 11, 15, 16, 19, 25, 26, 27] : List Nat) → z0 k = z0 k := fun _ _ => rfl
  obtain ⟨f1, o2, b3⟩ := y_op13 hI
  obtain ⟨f4, o5, b6⟩ := y_op20 hI
  obtain ⟨f7, o8, b9⟩ := y_op30 hI
  obtain ⟨v10, ev10⟩ : ∃ y : Int32, y = z0 15 := ⟨_, rfl⟩
  have qv10 : 0 ≤ v10.toInt ∧ v10.toInt ≤ 1 := by rw [ev10]; exact y_bY15 bz0
  have eF_15 := ev10
  obtain ⟨v11, ev11⟩ : ∃ y : Int32, y = z0 31 := ⟨_, rfl⟩
  have qv11 : 0 ≤ v11.toInt ∧ v11.toInt ≤ 20 := by rw [ev11]; exact y_bY31 bz0
  have eF_31 := ev11
  obtain ⟨v12, ev12⟩ : ∃ y : Int32, y = z0 32 := ⟨_, rfl⟩
  have qv12 : 0 ≤ v12.toInt ∧ v12.toInt ≤ 19 := by rw [ev12]; exact y_bY32 bz0
  have eF_32 := ev12
  replace hT : y_T v10 f1 f4 f7 v11 v12 := by have q9 := hT; rw [y_fiZ oY0 (k := 15) (by decide), ← ev10, y_atE o2, y_atE o5, y_atE o8, y_fiZ oY0 (k := 31) (by decide), ← ev11, y_fiZ oY0 (k := 32) (by decide), ← ev12] at q9; exact q9
  have e0_v10 := ev10
  have e0_v11 := ev11
  have e0_v12 := ev12
  refine lv_aload_n hx hb dX7_set_0 rfl (lv_at hl 0 rfl) ?_
  refine th_get (D := (dC, dI)) (ci := 7) (v := .int (z0 15)) (C := RX7) (T := TX7) (N := 34) hx hb hts inX7 hown hK hP (hLK _ ha0 (by decide)) oY0 rfl 15 (by decide) (hts _ T_271) (fun _ h9 => h9) rfl dX7_set_1 ?_
  refine ax_eqi (y := v10) ev10.symm ?_
  refine lv_if_eq (tgt := 39) hx hb dX7_set_4 (by decide) (fun c13 => ?_) (fun c13 => ?_)
  · have c13 := (ax_eq (n := 0) (by decide)).mp c13
    refine lv_aload_n hx hb dX7_set_39 rfl (lv_at hl 0 rfl) ?_
    refine lv_iconst (v := 3) hx hb dX7_set_40 (by decide) ?_
    refine va_calli (va_runV (As := [.int 3]) (rest := []) ⟨hx, hb, hml, hown, hts⟩ (y_X7_isRefused l dC dI H.size hLK A hA F a0 3 ha0 (by decide) hI) (cwV 1 hts (ax_gV T_262 T_263 T_264 T_265 T_20) rfl rfl rfl (by decide +kernel) ⟨Nat.le_of_ble_eq_true rfl, Nat.le_of_ble_eq_true rfl⟩) ⟨fun a U g mk q => ⟨q.1, s_pc (U := U) rfl rfl q.2⟩, s_recv hK hP (hLK _ ha0 (by decide)) (ci := 7) rfl oY0, fun U hU hW => ⟨rfl, s_pw hU hW hP hK hD hN⟩⟩ rfl rfl hl.1 rfl (lv_room (Nat.le_of_ble_eq_true rfl)) dX7_set_41 ⟨Nat.zero_le _, Nat.zero_le _⟩) hS (fun q _ h => h) (fun q h => h) (fun r15 F16 t H1 locs ht hvm hw hB hz1 hk1 hS => ?_)
    obtain ⟨hP, hK1⟩ := hB
    rw [ht] at hP
    generalize H1 = H at hP hS ⊢
    clear hz1 hk1 hvm hK1
    obtain ⟨h17, h19, hI, hfr1, hzf, h18⟩ := hw
    have o20 : F16 (A 13) = .inl (cs 0, 400, .inl f1) := (hfr1 _ (by rw [(y_k13 hA)]; decide)).trans o2
    have o21 : F16 (A 20) = .inl (cs 0, 918, .inl f4) := (hfr1 _ (by rw [(y_k20 hA)]; decide)).trans o5
    have o22 : F16 (A 30) = .inl (cs 0, 18360, .inl f7) := (hfr1 _ (by rw [(y_k30 hA)]; decide)).trans o8
    have oY23 : F16 a0 = .inr (7, y_fl A z0 q0) := (hfr1 _ (by rw [ha0]; decide)).trans oY0
    have hfr : ∀ b, K b ∉ [9, 59, 70, 80] → F16 b = F b := fun b hb9 => (hfr1 b (fun q => hb9 (s_sub (by decide) q))).trans (hfr b hb9)
    exact W.zret (v := r15) (ty := .boolean) hx hb hr (th_nz ⟨by omega, by omega⟩) (fun t ht hW => ⟨⟨r15, F16, rfl, ⟨⟨by omega, by omega⟩, trivial, hI, hfr, fun k hk => (y_fiZ oY23 (s_sub (by decide) hk)).trans ((hz0 k hk).trans (y_fiZ oY0 (s_sub (by decide) hk)).symm), (by rw [y_fiZ oY23 (k := 15) (by decide), ← ev10, y_atE o20, y_atE o21, y_atE o22, y_fiZ oY23 (k := 31) (by decide), ← ev11, y_fiZ oY23 (k := 32) (by decide), ← ev12]; exact hT)⟩, by rw [ht]; exact hP, va_K.moved hW.alike hK⟩, hS.F ht⟩) hS.2.2 dX7_set_44
  · have c13 := mt (ax_eq (n := 0) (by decide)).mpr c13
    obtain ⟨htd, hPG, hNG, hUG⟩ := y_TT hT (by omega)
    have hL := y_P0L hPG.1
    have hW := y_P0W hPG.1
    have hnn := And.intro hNG.1 (And.intro hNG.2.1 (And.intro hNG.2.2.1 hNG.2.2.2.1))
    refine lv_iload_n hx hb dX7_set_7 rfl (lv_at hl 1 rfl) ?_
    refine lv_i2l hx hb dX7_set_8 rfl ?_
    refine lv_topl (fun v24 ev24 => ?_)
    have qv24 : v24.toInt = x1.toInt := y_i2l ev24
    refine lv_lconst (v := 0) hx hb dX7_set_9 (by decide) ?_
    refine lv_lconst (v := 1) hx hb dX7_set_10 (by decide) ?_
    refine va_calli (va_runS (As := [.long v24, .long 0, .long 1]) (rest := []) ⟨hx, hb, hml, hown, hts⟩ (y_X7_isIn l dC dI H.size F v24 0 1) (cwS 3 hts (ax_gS T_267 T_268 T_265 T_21) rfl rfl rfl (by decide +kernel) ⟨Nat.le_of_ble_eq_true rfl, Nat.le_of_ble_eq_true rfl⟩) ⟨fun a U g mk q => ⟨q.1, s_pc (U := U) rfl rfl q.2⟩, fun U hU hW => ⟨rfl, s_pw hU hW hP hK hD hN⟩⟩ rfl rfl hl.1 rfl (lv_room (Nat.le_of_ble_eq_true rfl)) dX7_set_11 ⟨Nat.zero_le _, Nat.zero_le _⟩) hS (fun q _ h => h) (fun q h => h) (fun r26 F27 t H1 locs ht hvm hw hB hz1 hk1 hS => ?_)
    obtain ⟨hP, hK1⟩ := hB
    rw [ht] at hP
    generalize H1 = H at hP hS ⊢
    clear hz1 hk1 hvm hK1
    obtain ⟨h28, h30, hG9, h29⟩ := hw
    rw [hG9] at hP
    replace h29 : ((r26.toInt = 0 ∧ (v24.toInt < 0 ∨ 1 < v24.toInt)) ∨ (r26.toInt = 1 ∧ 0 ≤ v24.toInt ∧ v24.toInt ≤ 1)) := by have q9 := h29; exact q9
    refine lv_if_eq (tgt := 39) hx hb dX7_set_14 (by decide) (fun c31 => ?_) (fun c31 => ?_)
    · have c31 := (ax_eq (n := 0) (by decide)).mp c31
      refine lv_aload_n hx hb dX7_set_39 rfl (lv_at hl 0 rfl) ?_
      refine lv_iconst (v := 3) hx hb dX7_set_40 (by decide) ?_
      refine va_calli (va_runV (As := [.int 3]) (rest := []) ⟨hx, hb, hml, hown, hts⟩ (y_X7_isRefused l dC dI H.size hLK A hA F a0 3 ha0 (by decide) hI) (cwV 1 hts (ax_gV T_262 T_263 T_264 T_265 T_20) rfl rfl rfl (by decide +kernel) ⟨Nat.le_of_ble_eq_true rfl, Nat.le_of_ble_eq_true rfl⟩) ⟨fun a U g mk q => ⟨q.1, s_pc (U := U) rfl rfl q.2⟩, s_recv hK hP (hLK _ ha0 (by decide)) (ci := 7) rfl oY0, fun U hU hW => ⟨rfl, s_pw hU hW hP hK hD hN⟩⟩ rfl rfl hl.1 rfl (lv_room (Nat.le_of_ble_eq_true rfl)) dX7_set_41 ⟨Nat.zero_le _, Nat.zero_le _⟩) hS (fun q _ h => h) (fun q h => h) (fun r33 F34 t H1 locs ht hvm hw hB hz1 hk1 hS => ?_)
      obtain ⟨hP, hK1⟩ := hB
      rw [ht] at hP
      generalize H1 = H at hP hS ⊢
      clear hz1 hk1 hvm hK1
      obtain ⟨h35, h37, hI, hfr1, hzf, h36⟩ := hw
      have o38 : F34 (A 13) = .inl (cs 0, 400, .inl f1) := (hfr1 _ (by rw [(y_k13 hA)]; decide)).trans o2
      have o39 : F34 (A 20) = .inl (cs 0, 918, .inl f4) := (hfr1 _ (by rw [(y_k20 hA)]; decide)).trans o5
      have o40 : F34 (A 30) = .inl (cs 0, 18360, .inl f7) := (hfr1 _ (by rw [(y_k30 hA)]; decide)).trans o8
      have oY41 : F34 a0 = .inr (7, y_fl A z0 q0) := (hfr1 _ (by rw [ha0]; decide)).trans oY0
      have hfr : ∀ b, K b ∉ [9, 59, 70, 80] → F34 b = F b := fun b hb9 => (hfr1 b (fun q => hb9 (s_sub (by decide) q))).trans (hfr b hb9)
      exact W.zret (v := r33) (ty := .boolean) hx hb hr (th_nz ⟨by omega, by omega⟩) (fun t ht hW => ⟨⟨r33, F34, rfl, ⟨⟨by omega, by omega⟩, trivial, hI, hfr, fun k hk => (y_fiZ oY41 (s_sub (by decide) hk)).trans ((hz0 k hk).trans (y_fiZ oY0 (s_sub (by decide) hk)).symm), (by rw [y_fiZ oY41 (k := 15) (by decide), ← ev10, y_atE o38, y_atE o39, y_atE o40, y_fiZ oY41 (k := 31) (by decide), ← ev11, y_fiZ oY41 (k := 32) (by decide), ← ev12]; exact hT)⟩, by rw [ht]; exact hP, va_K.moved hW.alike hK⟩, hS.F ht⟩) hS.2.2 dX7_set_44
    · have c31 := mt (ax_eq (n := 0) (by decide)).mpr c31
      refine lv_iload_n hx hb dX7_set_17 rfl (lv_at hl 2 rfl) ?_
      refine lv_i2l hx hb dX7_set_18 rfl ?_
      refine lv_topl (fun v42 ev42 => ?_)
      have qv42 : v42.toInt = x2.toInt := y_i2l ev42
      refine lv_lconst (v := 0) hx hb dX7_set_19 (by decide) ?_
      refine lv_lconst (v := 1) hx hb dX7_set_20 (by decide) ?_
      refine va_calli (va_runS (As := [.long v42, .long 0, .long 1]) (rest := []) ⟨hx, hb, hml, hown, hts⟩ (y_X7_isIn l dC dI H.size F v42 0 1) (cwS 3 hts (ax_gS T_267 T_268 T_265 T_21) rfl rfl rfl (by decide +kernel) ⟨Nat.le_of_ble_eq_true rfl, Nat.le_of_ble_eq_true rfl⟩) ⟨fun a U g mk q => ⟨q.1, s_pc (U := U) rfl rfl q.2⟩, fun U hU hW => ⟨rfl, s_pw hU hW hP hK hD hN⟩⟩ rfl rfl hl.1 rfl (lv_room (Nat.le_of_ble_eq_true rfl)) dX7_set_21 ⟨Nat.zero_le _, Nat.zero_le _⟩) hS (fun q _ h => h) (fun q h => h) (fun r44 F45 t H1 locs ht hvm hw hB hz1 hk1 hS => ?_)
      obtain ⟨hP, hK1⟩ := hB
      rw [ht] at hP
      generalize H1 = H at hP hS ⊢
      clear hz1 hk1 hvm hK1
      obtain ⟨h46, h48, hG9, h47⟩ := hw
      rw [hG9] at hP
      replace h47 : ((r44.toInt = 0 ∧ (v42.toInt < 0 ∨ 1 < v42.toInt)) ∨ (r44.toInt = 1 ∧ 0 ≤ v42.toInt ∧ v42.toInt ≤ 1)) := by have q9 := h47; exact q9
      refine lv_if_eq (tgt := 39) hx hb dX7_set_24 (by decide) (fun c49 => ?_) (fun c49 => ?_)
      · have c49 := (ax_eq (n := 0) (by decide)).mp c49
        refine lv_aload_n hx hb dX7_set_39 rfl (lv_at hl 0 rfl) ?_
        refine lv_iconst (v := 3) hx hb dX7_set_40 (by decide) ?_
        refine va_calli (va_runV (As := [.int 3]) (rest := []) ⟨hx, hb, hml, hown, hts⟩ (y_X7_isRefused l dC dI H.size hLK A hA F a0 3 ha0 (by decide) hI) (cwV 1 hts (ax_gV T_262 T_263 T_264 T_265 T_20) rfl rfl rfl (by decide +kernel) ⟨Nat.le_of_ble_eq_true rfl, Nat.le_of_ble_eq_true rfl⟩) ⟨fun a U g mk q => ⟨q.1, s_pc (U := U) rfl rfl q.2⟩, s_recv hK hP (hLK _ ha0 (by decide)) (ci := 7) rfl oY0, fun U hU hW => ⟨rfl, s_pw hU hW hP hK hD hN⟩⟩ rfl rfl hl.1 rfl (lv_room (Nat.le_of_ble_eq_true rfl)) dX7_set_41 ⟨Nat.zero_le _, Nat.zero_le _⟩) hS (fun q _ h => h) (fun q h => h) (fun r51 F52 t H1 locs ht hvm hw hB hz1 hk1 hS => ?_)
        obtain ⟨hP, hK1⟩ := hB
        rw [ht] at hP
        generalize H1 = H at hP hS ⊢
        clear hz1 hk1 hvm hK1
        obtain ⟨h53, h55, hI, hfr1, hzf, h54⟩ := hw
        have o56 : F52 (A 13) = .inl (cs 0, 400, .inl f1) := (hfr1 _ (by rw [(y_k13 hA)]; decide)).trans o2
        have o57 : F52 (A 20) = .inl (cs 0, 918, .inl f4) := (hfr1 _ (by rw [(y_k20 hA)]; decide)).trans o5
        have o58 : F52 (A 30) = .inl (cs 0, 18360, .inl f7) := (hfr1 _ (by rw [(y_k30 hA)]; decide)).trans o8
        have oY59 : F52 a0 = .inr (7, y_fl A z0 q0) := (hfr1 _ (by rw [ha0]; decide)).trans oY0
        have hfr : ∀ b, K b ∉ [9, 59, 70, 80] → F52 b = F b := fun b hb9 => (hfr1 b (fun q => hb9 (s_sub (by decide) q))).trans (hfr b hb9)
        exact W.zret (v := r51) (ty := .boolean) hx hb hr (th_nz ⟨by omega, by omega⟩) (fun t ht hW => ⟨⟨r51, F52, rfl, ⟨⟨by omega, by omega⟩, trivial, hI, hfr, fun k hk => (y_fiZ oY59 (s_sub (by decide) hk)).trans ((hz0 k hk).trans (y_fiZ oY0 (s_sub (by decide) hk)).symm), (by rw [y_fiZ oY59 (k := 15) (by decide), ← ev10, y_atE o56, y_atE o57, y_atE o58, y_fiZ oY59 (k := 31) (by decide), ← ev11, y_fiZ oY59 (k := 32) (by decide), ← ev12]; exact hT)⟩, by rw [ht]; exact hP, va_K.moved hW.alike hK⟩, hS.F ht⟩) hS.2.2 dX7_set_44
      · have c49 := mt (ax_eq (n := 0) (by decide)).mpr c49
        refine lv_iload_n hx hb dX7_set_27 rfl (lv_at hl 3 rfl) ?_
        refine lv_i2l hx hb dX7_set_28 rfl ?_
        refine lv_topl (fun v60 ev60 => ?_)
        have qv60 : v60.toInt = x3.toInt := y_i2l ev60
        refine lv_lconst (v := 0) hx hb dX7_set_29 (by decide) ?_
        refine lv_ldc2 hx hb hown (hts _ T_1238) dX7_set_30 ?_
        refine va_calli (va_runS (As := [.long v60, .long 0, .long 3]) (rest := []) ⟨hx, hb, hml, hown, hts⟩ (y_X7_isIn l dC dI H.size F v60 0 3) (cwS 3 hts (ax_gS T_267 T_268 T_265 T_21) rfl rfl rfl (by decide +kernel) ⟨Nat.le_of_ble_eq_true rfl, Nat.le_of_ble_eq_true rfl⟩) ⟨fun a U g mk q => ⟨q.1, s_pc (U := U) rfl rfl q.2⟩, fun U hU hW => ⟨rfl, s_pw hU hW hP hK hD hN⟩⟩ rfl rfl hl.1 rfl (lv_room (Nat.le_of_ble_eq_true rfl)) dX7_set_33 ⟨Nat.zero_le _, Nat.zero_le _⟩) hS (fun q _ h => h) (fun q h => h) (fun r62 F63 t H1 locs ht hvm hw hB hz1 hk1 hS => ?_)
        obtain ⟨hP, hK1⟩ := hB
        rw [ht] at hP
        generalize H1 = H at hP hS ⊢
        clear hz1 hk1 hvm hK1
        obtain ⟨h64, h66, hG9, h65⟩ := hw
        rw [hG9] at hP
        replace h65 : ((r62.toInt = 0 ∧ (v60.toInt < 0 ∨ 3 < v60.toInt)) ∨ (r62.toInt = 1 ∧ 0 ≤ v60.toInt ∧ v60.toInt ≤ 3)) := by have q9 := h65; exact q9
        refine lv_if_ne (tgt := 45) hx hb dX7_set_36 (by decide) (fun c67 => ?_) (fun c67 => ?_)
        · have c67 := mt (ax_eq (n := 0) (by decide)).mpr c67
          refine lv_aload_n hx hb dX7_set_45 rfl (lv_at hl 0 rfl) ?_
          refine va_callv (va_runV (As := []) (rest := []) ⟨hx, hb, hml, hown, hts⟩ (y_X7_keeps l dC dI H.size hLK A hA F a0 ha0 hI (by rw [y_atE o2]; exact hPG) (by rw [y_atE o2, y_atE o5]; exact hNG) (by rw [y_atE o2, y_atE o8, y_fiZ oY0 (k := 31) (by decide), ← ev11, y_fiZ oY0 (k := 32) (by decide), ← ev12]; exact hUG)) (cwV 0 hts (ax_gV T_1013 T_1015 T_1016 T_265 T_1014) rfl rfl rfl (by decide +kernel) ⟨Nat.le_of_ble_eq_true rfl, Nat.le_of_ble_eq_true rfl⟩) ⟨fun a U g mk q => ⟨q.1, s_pc (U := U) rfl rfl q.2⟩, s_recv hK hP (hLK _ ha0 (by decide)) (ci := 7) rfl oY0, fun U hU hW => ⟨rfl, s_pw hU hW hP hK hD hN⟩⟩ rfl rfl hl.1 rfl (lv_room (Nat.le_of_ble_eq_true rfl)) dX7_set_46 ⟨Nat.zero_le _, Nat.zero_le _⟩) hS (fun q _ h => h) (fun q h => h) (fun F69 t H1 locs ht hvm hw hB hz1 hk1 hS => ?_)
          obtain ⟨hP, hK1⟩ := hB
          rw [ht] at hP
          generalize H1 = H at hP hS ⊢
          clear hz1 hk1 hvm hK1
          obtain ⟨h70, h72, hI, hfr1, hzf, h71⟩ := hw
          have o73 : F69 (A 13) = .inl (cs 0, 400, .inl f1) := (hfr1 _ (by rw [(y_k13 hA)]; decide)).trans o2
          have o74 : F69 (A 20) = .inl (cs 0, 918, .inl f4) := (hfr1 _ (by rw [(y_k20 hA)]; decide)).trans o5
          obtain ⟨z75, q76, oY77, bz78, bq79⟩ := y_opY hI ha0
          have hzf : ∀ k, k ∈ ([1, 2, 3, 4, 5, 6, 7, 8, 11, 15, 16, 19, 25, 26, 27] : List Nat) → z75 k = z0 k := fun k hk => by have q9 := hzf k hk; rw [y_fiZ oY77 (s_sub (by decide) hk), y_fiZ oY0 (s_sub (by decide) hk)] at q9; exact q9
          have hz0 : ∀ k, k ∈ ([1, 2, 3, 4, 5, 6, 7, 8, 11, 15, 16, 19, 25, 26, 27] : List Nat) → z75 k = z0 k := fun k hk => (hzf k (s_sub (by decide) hk)).trans (hz0 k hk)
          have ev10 : v10 = z75 15 := ev10.trans (hzf 15 (by decide)).symm
          have hfr : ∀ b, K b ∉ [9, 59, 70, 80] → F69 b = F b := fun b hb9 => (hfr1 b (fun q => hb9 (s_sub (by decide) q))).trans (hfr b hb9)
          obtain ⟨f80, o81, b82⟩ := y_op30 hI
          obtain ⟨v83, ev83⟩ : ∃ y : Int32, y = z75 31 := ⟨_, rfl⟩
          have qv83 : 0 ≤ v83.toInt ∧ v83.toInt ≤ 20 := by rw [ev83]; exact y_bY31 bz78
          obtain ⟨v84, ev84⟩ : ∃ y : Int32, y = z75 32 := ⟨_, rfl⟩
          have qv84 : 0 ≤ v84.toInt ∧ v84.toInt ≤ 19 := by rw [ev84]; exact y_bY32 bz78
          replace h71 : (y_UG f1 f80 v83.toInt v84.toInt) := by have q9 := h71; rw [y_atE o2, y_atE o81, y_fiZ oY77 (k := 31) (by decide), ← ev83, y_fiZ oY77 (k := 32) (by decide), ← ev84] at q9; exact q9
          refine lv_aload_n hx hb dX7_set_49 rfl (lv_at hl 0 rfl) ?_
          refine th_get (D := (dC, dI)) (ci := 7) (v := .ref (A 20)) (C := RX7) (T := TX7) (N := 34) hx hb hts inX7 hown hK hP (hLK _ ha0 (by decide)) oY77 rfl 20 (by decide) (hts _ T_251) (fun _ h9 => h9) rfl dX7_set_50 ?_
          refine lv_iconst (v := 3) hx hb dX7_set_53 (by decide) ?_
          refine lv_iload_n hx hb dX7_set_54 rfl (lv_at hl 1 rfl) ?_
          refine th_iast hx hb hK hP hD hS (hLK _ (y_k20 hA) (by decide)) 0 o74 rfl (ax_in (by decide)) dX7_set_55 (fun H locs hP hS => ?_)
          obtain ⟨f85, u86⟩ : ∃ g : Nat → Int32, g = upd f4 (3 : Int32).toNatClampNeg x1 := ⟨_, rfl⟩
          rw [← u86] at hP
          have b87 : y_bd 20 f85 := trivial
          have hP : va_P (dC, dI) vwCl (va_pl L (va_up F69 (A 20) (.inl (cs 0, 918, .inl f85)))) H := hP
          obtain ⟨F88, hF89⟩ : ∃ G : Nat → va_E, G = va_up F69 (A 20) (.inl (cs 0, 918, .inl f85)) := ⟨_, rfl⟩
          rw [← hF89] at hP
          have hI : y_I K cs A F88 := by rw [hF89]; exact y_clA (i := 20) hA hI (by decide) b87
          have hfr : ∀ b, K b ∉ [9, 59, 70, 80] → F88 b = F b := by rw [hF89]; exact s_fr hfr (y_k20 hA) (by decide)
          have o90 : F88 (A 13) = .inl (cs 0, 400, .inl f1) := by rw [hF89]; exact th_ne (th_kd (y_k13 hA) (y_k20 hA) (by decide)) o73
          have o91 : F88 (A 30) = .inl (cs 0, 18360, .inl f80) := by rw [hF89]; exact th_ne (th_kd (y_k30 hA) (y_k20 hA) (by decide)) o81
          have oY92 : F88 a0 = .inr (7, y_fl A z75 q76) := by rw [hF89]; exact th_ne (th_kd ha0 (y_k20 hA) (by decide)) oY77
          have o93 : F88 (A 20) = .inl (cs 0, 918, .inl f85) := by rw [hF89]; exact th_up
          have u94 : ∀ j : Int, 0 ≤ j → y_c f85 j = if j = 3 then x1 else y_c f4 j := by rw [u86]; exact y_cu (by decide) (by decide)
          refine lv_aload_n hx hb dX7_set_56 rfl (lv_at hl 0 rfl) ?_
          refine th_get (D := (dC, dI)) (ci := 7) (v := .ref (A 20)) (C := RX7) (T := TX7) (N := 34) hx hb hts inX7 hown hK hP (hLK _ ha0 (by decide)) oY92 rfl 20 (by decide) (hts _ T_251) (fun _ h9 => h9) rfl dX7_set_57 ?_
          refine lv_iconst (v := 4) hx hb dX7_set_60 (by decide) ?_
          refine lv_iload_n hx hb dX7_set_61 rfl (lv_at hl 2 rfl) ?_
          refine th_iast hx hb hK hP hD hS (hLK _ (y_k20 hA) (by decide)) 0 o93 rfl (ax_in (by decide)) dX7_set_62 (fun H locs hP hS => ?_)
          obtain ⟨f95, u96⟩ : ∃ g : Nat → Int32, g = upd f85 (4 : Int32).toNatClampNeg x2 := ⟨_, rfl⟩
          rw [← u96] at hP
          have b97 : y_bd 20 f95 := trivial
          have hP : va_P (dC, dI) vwCl (va_pl L (va_up F88 (A 20) (.inl (cs 0, 918, .inl f95)))) H := hP
          obtain ⟨F98, hF99⟩ : ∃ G : Nat → va_E, G = va_up F88 (A 20) (.inl (cs 0, 918, .inl f95)) := ⟨_, rfl⟩
          rw [← hF99] at hP
          have hI : y_I K cs A F98 := by rw [hF99]; exact y_clA (i := 20) hA hI (by decide) b97
          have hfr : ∀ b, K b ∉ [9, 59, 70, 80] → F98 b = F b := by rw [hF99]; exact s_fr hfr (y_k20 hA) (by decide)
          have o100 : F98 (A 13) = .inl (cs 0, 400, .inl f1) := by rw [hF99]; exact th_ne (th_kd (y_k13 hA) (y_k20 hA) (by decide)) o90
          have o101 : F98 (A 30) = .inl (cs 0, 18360, .inl f80) := by rw [hF99]; exact th_ne (th_kd (y_k30 hA) (y_k20 hA) (by decide)) o91
          have oY102 : F98 a0 = .inr (7, y_fl A z75 q76) := by rw [hF99]; exact th_ne (th_kd ha0 (y_k20 hA) (by decide)) oY92
          have o103 : F98 (A 20) = .inl (cs 0, 918, .inl f95) := by rw [hF99]; exact th_up
          have u104 : ∀ j : Int, 0 ≤ j → y_c f95 j = if j = 4 then x2 else y_c f85 j := by rw [u96]; exact y_cu (by decide) (by decide)
          refine lv_aload_n hx hb dX7_set_63 rfl (lv_at hl 0 rfl) ?_
          refine th_get (D := (dC, dI)) (ci := 7) (v := .ref (A 20)) (C := RX7) (T := TX7) (N := 34) hx hb hts inX7 hown hK hP (hLK _ ha0 (by decide)) oY102 rfl 20 (by decide) (hts _ T_251) (fun _ h9 => h9) rfl dX7_set_64 ?_
          refine lv_iconst (v := 5) hx hb dX7_set_67 (by decide) ?_
          refine lv_iload_n hx hb dX7_set_68 rfl (lv_at hl 3 rfl) ?_
          refine th_iast hx hb hK hP hD hS (hLK _ (y_k20 hA) (by decide)) 0 o103 rfl (ax_in (by decide)) dX7_set_69 (fun H locs hP hS => ?_)
          obtain ⟨f105, u106⟩ : ∃ g : Nat → Int32, g = upd f95 (5 : Int32).toNatClampNeg x3 := ⟨_, rfl⟩
          rw [← u106] at hP
          have b107 : y_bd 20 f105 := trivial
          have hP : va_P (dC, dI) vwCl (va_pl L (va_up F98 (A 20) (.inl (cs 0, 918, .inl f105)))) H := hP
          obtain ⟨F108, hF109⟩ : ∃ G : Nat → va_E, G = va_up F98 (A 20) (.inl (cs 0, 918, .inl f105)) := ⟨_, rfl⟩
          rw [← hF109] at hP
          have hI : y_I K cs A F108 := by rw [hF109]; exact y_clA (i := 20) hA hI (by decide) b107
          have hfr : ∀ b, K b ∉ [9, 59, 70, 80] → F108 b = F b := by rw [hF109]; exact s_fr hfr (y_k20 hA) (by decide)
          have o110 : F108 (A 13) = .inl (cs 0, 400, .inl f1) := by rw [hF109]; exact th_ne (th_kd (y_k13 hA) (y_k20 hA) (by decide)) o100
          have o111 : F108 (A 30) = .inl (cs 0, 18360, .inl f80) := by rw [hF109]; exact th_ne (th_kd (y_k30 hA) (y_k20 hA) (by decide)) o101
          have oY112 : F108 a0 = .inr (7, y_fl A z75 q76) := by rw [hF109]; exact th_ne (th_kd ha0 (y_k20 hA) (by decide)) oY102
          have o113 : F108 (A 20) = .inl (cs 0, 918, .inl f105) := by rw [hF109]; exact th_up
          have u114 : ∀ j : Int, 0 ≤ j → y_c f105 j = if j = 5 then x3 else y_c f95 j := by rw [u106]; exact y_cu (by decide) (by decide)
          have hmo9 : (y_c f105 3).toInt = x1.toInt ∧ (y_c f105 4).toInt = x2.toInt := ⟨by rw [u114 3 (by omega), if_neg (by omega), u104 3 (by omega), if_neg (by omega), u94 3 (by omega), if_pos (by omega)], by rw [u114 4 (by omega), if_neg (by omega), u104 4 (by omega), if_pos (by omega)]⟩
          refine lv_aload_n hx hb dX7_set_70 rfl (lv_at hl 0 rfl) ?_
          refine lv_iconst (v := (-1)) hx hb dX7_set_71 (by decide) ?_
          refine va_callv (va_runV (As := [.int (-1)]) (rest := []) ⟨hx, hb, hml, hown, hts⟩ (y_X7_begins l dC dI H.size hLK A hA F108 a0 (-1) ha0 (by decide) hI (by rw [y_atE o110]; exact hPG) (by first | (rw [y_atE o113]; omega) | rw [y_atE o113])) (cwV 1 hts (ax_gV T_1017 T_1019 T_1020 T_265 T_1018) rfl rfl rfl (by decide +kernel) ⟨Nat.le_of_ble_eq_true rfl, Nat.le_of_ble_eq_true rfl⟩) ⟨fun a U g mk q => ⟨q.1, s_pc (U := U) rfl rfl q.2⟩, s_recv hK hP (hLK _ ha0 (by decide)) (ci := 7) rfl oY112, fun U hU hW => ⟨rfl, s_pw hU hW hP hK hD hN⟩⟩ rfl rfl hl.1 rfl (lv_room (Nat.le_of_ble_eq_true rfl)) dX7_set_72 ⟨Nat.zero_le _, Nat.zero_le _⟩) hS (fun q _ h => h) (fun q h => h) (fun F116 t H1 locs ht hvm hw hB hz1 hk1 hS => ?_)
          obtain ⟨hP, hK1⟩ := hB
          rw [ht] at hP
          generalize H1 = H at hP hS ⊢
          clear hz1 hk1 hvm hK1
          obtain ⟨h117, h119, hI, hfr1, hzf, h118⟩ := hw
          have o120 : F116 (A 13) = .inl (cs 0, 400, .inl f1) := (hfr1 _ (by rw [(y_k13 hA)]; decide)).trans o110
          have o121 : F116 (A 30) = .inl (cs 0, 18360, .inl f80) := (hfr1 _ (by rw [(y_k30 hA)]; decide)).trans o111
          have oY122 : F116 a0 = .inr (7, y_fl A z75 q76) := (hfr1 _ (by rw [ha0]; decide)).trans oY112
          have hfr : ∀ b, K b ∉ [9, 59, 70, 80] → F116 b = F b := fun b hb9 => (hfr1 b (fun q => hb9 (s_sub (by decide) q))).trans (hfr b hb9)
          obtain ⟨f123, o124, b125⟩ := y_op20 hI
          replace h118 : (y_NG f1 f123) := by have q9 := h118; rw [y_atE o110, y_atE o124] at q9; exact q9
          refine lv_iconst (v := 1) hx hb dX7_set_75 (by decide) ?_
          have h126 : (1 : Int32).toInt = 1 := by decide
          exact W.zret (v := 1) (ty := .boolean) hx hb hr (by decide) (fun t ht hW => ⟨⟨1, F116, rfl, ⟨(by decide), trivial, hI, hfr, fun k hk => (y_fiZ oY122 (s_sub (by decide) hk)).trans ((hz0 k hk).trans (y_fiZ oY0 (s_sub (by decide) hk)).symm), (by rw [y_fiZ oY122 (k := 15) (by decide), ← ev10, y_atE o120, y_atE o124, y_atE o121, y_fiZ oY122 (k := 31) (by decide), ← ev83, y_fiZ oY122 (k := 32) (by decide), ← ev84]; exact (Or.inr ⟨by omega, hPG, h118, h71⟩))⟩, by rw [ht]; exact hP, va_K.moved hW.alike hK⟩, hS.F ht⟩) hS.2.2 dX7_set_76
        · have c67 := (ax_eq (n := 0) (by decide)).mp c67
          refine lv_aload_n hx hb dX7_set_39 rfl (lv_at hl 0 rfl) ?_
          refine lv_iconst (v := 3) hx hb dX7_set_40 (by decide) ?_
          refine va_calli (va_runV (As := [.int 3]) (rest := []) ⟨hx, hb, hml, hown, hts⟩ (y_X7_isRefused l dC dI H.size hLK A hA F a0 3 ha0 (by decide) hI) (cwV 1 hts (ax_gV T_262 T_263 T_264 T_265 T_20) rfl rfl rfl (by decide +kernel) ⟨Nat.le_of_ble_eq_true rfl, Nat.le_of_ble_eq_true rfl⟩) ⟨fun a U g mk q => ⟨q.1, s_pc (U := U) rfl rfl q.2⟩, s_recv hK hP (hLK _ ha0 (by decide)) (ci := 7) rfl oY0, fun U hU hW => ⟨rfl, s_pw hU hW hP hK hD hN⟩⟩ rfl rfl hl.1 rfl (lv_room (Nat.le_of_ble_eq_true rfl)) dX7_set_41 ⟨Nat.zero_le _, Nat.zero_le _⟩) hS (fun q _ h => h) (fun q h => h) (fun r128 F129 t H1 locs ht hvm hw hB hz1 hk1 hS => ?_)
          obtain ⟨hP, hK1⟩ := hB
          rw [ht] at hP
          generalize H1 = H at hP hS ⊢
          clear hz1 hk1 hvm hK1
          obtain ⟨h130, h132, hI, hfr1, hzf, h131⟩ := hw
          have o133 : F129 (A 13) = .inl (cs 0, 400, .inl f1) := (hfr1 _ (by rw [(y_k13 hA)]; decide)).trans o2
          have o134 : F129 (A 20) = .inl (cs 0, 918, .inl f4) := (hfr1 _ (by rw [(y_k20 hA)]; decide)).trans o5
          have o135 : F129 (A 30) = .inl (cs 0, 18360, .inl f7) := (hfr1 _ (by rw [(y_k30 hA)]; decide)).trans o8
          have oY136 : F129 a0 = .inr (7, y_fl A z0 q0) := (hfr1 _ (by rw [ha0]; decide)).trans oY0
          have hfr : ∀ b, K b ∉ [9, 59, 70, 80] → F129 b = F b := fun b hb9 => (hfr1 b (fun q => hb9 (s_sub (by decide) q))).trans (hfr b hb9)
          exact W.zret (v := r128) (ty := .boolean) hx hb hr (th_nz ⟨by omega, by omega⟩) (fun t ht hW => ⟨⟨r128, F129, rfl, ⟨⟨by omega, by omega⟩, trivial, hI, hfr, fun k hk => (y_fiZ oY136 (s_sub (by decide) hk)).trans ((hz0 k hk).trans (y_fiZ oY0 (s_sub (by decide) hk)).symm), (by rw [y_fiZ oY136 (k := 15) (by decide), ← ev10, y_atE o133, y_atE o134, y_atE o135, y_fiZ oY136 (k := 31) (by decide), ← ev11, y_fiZ oY136 (k := 32) (by decide), ← ev12]; exact hT)⟩, by rw [ht]; exact hP, va_K.moved hW.alike hK⟩, hS.F ht⟩) hS.2.2 dX7_set_44

set_option maxHeartbeats 4000000 in
set_option maxRecDepth 100000 in
theorem y_X7_begin (l : Launch) (dC : Nat → ClassId) (dI : Nat → Nat → Nat) (sz : Nat) {L : List Nat} {K : Nat → Nat} {cs : Nat → ClassId} (hLK : ∀ a {k : Nat}, K a = k → k ≠ 0 → a ∈ L) (A : Nat → Nat) (hA : y_A K A) (F : Nat → va_E) (a0 : Nat) (ha0 : K a0 = 9) (hI : y_I K cs A F) (hT : y_T (y_fi F a0 15) (y_at F (A 13)) (y_at F (A 20)) (y_at F (A 30)) (y_fi F a0 31) (y_fi F a0 32)) : Met l yX7_begin (Cond.code yX7_begin cX7_begin 1 (some .boolean) :: T0) ({ frames := 4, cells := 0, slots := 0, locals := 92 }) (va_Pc [.ref a0] (s_W dC dI sz L F [(cs 0, .int), (cs 1, .byte), (cs 2, .long), (cs 3, .object RX5), (cs 4, .object RX4), (cs 5, .array .int), (cs 6, .char), (cs 7, .boolean)])) (va_Qi (fun (r : Int32) (G : Nat → va_E) => (0 ≤ r.toInt ∧ r.toInt ≤ 1) ∧ True ∧ y_I K cs A G ∧ (∀ b, K b ∉ [9, 59, 70, 80] → G b = F b) ∧ (∀ k, k ∈ ([1, 2, 3, 4, 5, 6, 7, 8, 11, 15, 16, 19, 25, 26, 27] : List Nat) → y_fi G a0 k = y_fi F a0 k) ∧ (y_T (y_fi G a0 15) (y_at G (A 13)) (y_at G (A 20)) (y_at G (A 30)) (y_fi G a0 31) (y_fi G a0 32))) (fun (G : Nat → va_E) (t : State) => va_P (dC, dI) vwCl (va_pl L G) t.heap ∧ va_K (dC, dI) vwCl [(cs 0, .int), (cs 1, .byte), (cs 2, .long), (cs 3, .object RX5), (cs 4, .object RX4), (cs 5, .array .int), (cs 6, .char), (cs 7, .boolean)] t) (fun q => q ∈ L)) 0 0 (fun q => q ∈ L) := by
  refine Met.ofW (cc := cX7_begin) (maxL := 1) (ret := (some .boolean)) (by decide) rfl ?_
  intro p e s m args below meth c s₁ B hml hv
  obtain ⟨rfl, hsz, hP, hK, hD, hN⟩ := hv
  have hx := B.exec
  have hb := B.bytes
  have hr := B.returns
  have hts : ∀ w ∈ T0, w.before _ s = true := fun w h => atoms_spec (ws := Cond.code yX7_begin cX7_begin 1 (some .boolean) :: T0) B.pre w (List.mem_cons_of_mem _ h)
  have hown : s.vm.findClass RX7 = some m.cls := findClass_of_methodNamed B.named
  have hlocks := B.notSynchronized
  have hS : va_S (fun q => q ∈ L) s.heap s.heap [] := va_S.rf
  have hfr : ∀ b, K b ∉ [9, 59, 70, 80] → F b = F b := fun _ _ => rfl
  have hl := lv_entry ([.ref a0]) (n := 1) (Nat.le_of_ble_eq_true rfl)
  rw [lg_entry_eq]
  generalize (lg_sl ([.ref a0]) ++ List.replicate (1 - (lg_sl ([.ref a0])).length) Slot.unset).toArray = ls at hl ⊢
  have hl : lv_has ls 1 [(0, .ref a0)] := hl
  refine s_gen hP hS (fun H locs hP hS => ?_)
  obtain ⟨z0, q0, oY0, bz0, bq0⟩ := y_opY hI ha0
  have hz0 : ∀ k, k ∈ ([1, 2, 3, 4, 5, 6, 7, 8, 11, 15, 16, 19, 25, 26, 27] : List Nat) → z0 k = z0 k := fun _ _ => rfl
  obtain ⟨f1, o2, b3⟩ := y_op13 hI
  obtain ⟨f4, o5, b6⟩ := y_op20 hI
  obtain ⟨f7, o8, b9⟩ := y_op30 hI
  obtain ⟨v10, ev10⟩ : ∃ y : Int32, y = z0 15 := ⟨_, rfl⟩
  have qv10 : 0 ≤ v10.toInt ∧ v10.toInt ≤ 1 := by rw [ev10]; exact y_bY15 bz0
  have eF_15 := ev10
  obtain ⟨v11, ev11⟩ : ∃ y : Int32, y = z0 31 := ⟨_, rfl⟩
  have qv11 : 0 ≤ v11.toInt ∧ v11.toInt ≤ 20 := by rw [ev11]; exact y_bY31 bz0
  have eF_31 := ev11
  obtain ⟨v12, ev12⟩ : ∃ y : Int32, y = z0 32 := ⟨_, rfl⟩
  have qv12 : 0 ≤ v12.toInt ∧ v12.toInt ≤ 19 := by rw [ev12]; exact y_bY32 bz0
  have eF_32 := ev12
  replace hT : y_T v10 f1 f4 f7 v11 v12 := by have q9 := hT; rw [y_fiZ oY0 (k := 15) (by decide), ← ev10, y_atE o2, y_atE o5, y_atE o8, y_fiZ oY0 (k := 31) (by decide), ← ev11, y_fiZ oY0 (k := 32) (by decide), ← ev12] at q9; exact q9
  have e0_v10 := ev10
  have e0_v11 := ev11
  have e0_v12 := ev12
  refine lv_aload_n hx hb dX7_begin_0 rfl (lv_at hl 0 rfl) ?_
  refine th_get (D := (dC, dI)) (ci := 7) (v := .int (z0 15)) (C := RX7) (T := TX7) (N := 34) hx hb hts inX7 hown hK hP (hLK _ ha0 (by decide)) oY0 rfl 15 (by decide) (hts _ T_271) (fun _ h9 => h9) rfl dX7_begin_1 ?_
  refine ax_eqi (y := v10) ev10.symm ?_
  refine lv_if_ne (tgt := 13) hx hb dX7_begin_4 (by decide) (fun c13 => ?_) (fun c13 => ?_)
  · have c13 := mt (ax_eq (n := 0) (by decide)).mpr c13
    obtain ⟨htd, hPG, hNG, hUG⟩ := y_TT hT (by omega)
    have hL := y_P0L hPG.1
    have hW := y_P0W hPG.1
    have hnn := And.intro hNG.1 (And.intro hNG.2.1 (And.intro hNG.2.2.1 hNG.2.2.2.1))
    refine lv_aload_n hx hb dX7_begin_13 rfl (lv_at hl 0 rfl) ?_
    refine va_callv (va_runV (As := []) (rest := []) ⟨hx, hb, hml, hown, hts⟩ (y_X7_keeps l dC dI H.size hLK A hA F a0 ha0 hI (by rw [y_atE o2]; exact hPG) (by rw [y_atE o2, y_atE o5]; exact hNG) (by rw [y_atE o2, y_atE o8, y_fiZ oY0 (k := 31) (by decide), ← ev11, y_fiZ oY0 (k := 32) (by decide), ← ev12]; exact hUG)) (cwV 0 hts (ax_gV T_1013 T_1015 T_1016 T_265 T_1014) rfl rfl rfl (by decide +kernel) ⟨Nat.le_of_ble_eq_true rfl, Nat.le_of_ble_eq_true rfl⟩) ⟨fun a U g mk q => ⟨q.1, s_pc (U := U) rfl rfl q.2⟩, s_recv hK hP (hLK _ ha0 (by decide)) (ci := 7) rfl oY0, fun U hU hW => ⟨rfl, s_pw hU hW hP hK hD hN⟩⟩ rfl rfl hl.1 rfl (lv_room (Nat.le_of_ble_eq_true rfl)) dX7_begin_14 ⟨Nat.zero_le _, Nat.zero_le _⟩) hS (fun q _ h => h) (fun q h => h) (fun F15 t H1 locs ht hvm hw hB hz1 hk1 hS => ?_)
    obtain ⟨hP, hK1⟩ := hB
    rw [ht] at hP
    generalize H1 = H at hP hS ⊢
    clear hz1 hk1 hvm hK1
    obtain ⟨h16, h18, hI, hfr1, hzf, h17⟩ := hw
    have o19 : F15 (A 13) = .inl (cs 0, 400, .inl f1) := (hfr1 _ (by rw [(y_k13 hA)]; decide)).trans o2
    have o20 : F15 (A 20) = .inl (cs 0, 918, .inl f4) := (hfr1 _ (by rw [(y_k20 hA)]; decide)).trans o5
    obtain ⟨z21, q22, oY23, bz24, bq25⟩ := y_opY hI ha0
    have hzf : ∀ k, k ∈ ([1, 2, 3, 4, 5, 6, 7, 8, 11, 15, 16, 19, 25, 26, 27] : List Nat) → z21 k = z0 k := fun k hk => by have q9 := hzf k hk; rw [y_fiZ oY23 (s_sub (by decide) hk), y_fiZ oY0 (s_sub (by decide) hk)] at q9; exact q9
    have hz0 : ∀ k, k ∈ ([1, 2, 3, 4, 5, 6, 7, 8, 11, 15, 16, 19, 25, 26, 27] : List Nat) → z21 k = z0 k := fun k hk => (hzf k (s_sub (by decide) hk)).trans (hz0 k hk)
    have ev10 : v10 = z21 15 := ev10.trans (hzf 15 (by decide)).symm
    have hfr : ∀ b, K b ∉ [9, 59, 70, 80] → F15 b = F b := fun b hb9 => (hfr1 b (fun q => hb9 (s_sub (by decide) q))).trans (hfr b hb9)
    obtain ⟨f26, o27, b28⟩ := y_op30 hI
    obtain ⟨v29, ev29⟩ : ∃ y : Int32, y = z21 31 := ⟨_, rfl⟩
    have qv29 : 0 ≤ v29.toInt ∧ v29.toInt ≤ 20 := by rw [ev29]; exact y_bY31 bz24
    obtain ⟨v30, ev30⟩ : ∃ y : Int32, y = z21 32 := ⟨_, rfl⟩
    have qv30 : 0 ≤ v30.toInt ∧ v30.toInt ≤ 19 := by rw [ev30]; exact y_bY32 bz24
    replace h17 : (y_UG f1 f26 v29.toInt v30.toInt) := by have q9 := h17; rw [y_atE o2, y_atE o27, y_fiZ oY23 (k := 31) (by decide), ← ev29, y_fiZ oY23 (k := 32) (by decide), ← ev30] at q9; exact q9
    refine lv_aload_n hx hb dX7_begin_17 rfl (lv_at hl 0 rfl) ?_
    refine lv_iconst (v := (-1)) hx hb dX7_begin_18 (by decide) ?_
    refine va_callv (va_runV (As := [.int (-1)]) (rest := []) ⟨hx, hb, hml, hown, hts⟩ (y_X7_begins l dC dI H.size hLK A hA F15 a0 (-1) ha0 (by decide) hI (by rw [y_atE o19]; exact hPG) (by rw [y_atE o20]; exact ⟨hNG.1, hNG.2.1⟩)) (cwV 1 hts (ax_gV T_1017 T_1019 T_1020 T_265 T_1018) rfl rfl rfl (by decide +kernel) ⟨Nat.le_of_ble_eq_true rfl, Nat.le_of_ble_eq_true rfl⟩) ⟨fun a U g mk q => ⟨q.1, s_pc (U := U) rfl rfl q.2⟩, s_recv hK hP (hLK _ ha0 (by decide)) (ci := 7) rfl oY23, fun U hU hW => ⟨rfl, s_pw hU hW hP hK hD hN⟩⟩ rfl rfl hl.1 rfl (lv_room (Nat.le_of_ble_eq_true rfl)) dX7_begin_19 ⟨Nat.zero_le _, Nat.zero_le _⟩) hS (fun q _ h => h) (fun q h => h) (fun F32 t H1 locs ht hvm hw hB hz1 hk1 hS => ?_)
    obtain ⟨hP, hK1⟩ := hB
    rw [ht] at hP
    generalize H1 = H at hP hS ⊢
    clear hz1 hk1 hvm hK1
    obtain ⟨h33, h35, hI, hfr1, hzf, h34⟩ := hw
    have o36 : F32 (A 13) = .inl (cs 0, 400, .inl f1) := (hfr1 _ (by rw [(y_k13 hA)]; decide)).trans o19
    have o37 : F32 (A 30) = .inl (cs 0, 18360, .inl f26) := (hfr1 _ (by rw [(y_k30 hA)]; decide)).trans o27
    have oY38 : F32 a0 = .inr (7, y_fl A z21 q22) := (hfr1 _ (by rw [ha0]; decide)).trans oY23
    have hfr : ∀ b, K b ∉ [9, 59, 70, 80] → F32 b = F b := fun b hb9 => (hfr1 b (fun q => hb9 (s_sub (by decide) q))).trans (hfr b hb9)
    obtain ⟨f39, o40, b41⟩ := y_op20 hI
    replace h34 : (y_NG f1 f39) := by have q9 := h34; rw [y_atE o19, y_atE o40] at q9; exact q9
    refine lv_iconst (v := 1) hx hb dX7_begin_22 (by decide) ?_
    have h42 : (1 : Int32).toInt = 1 := by decide
    exact W.zret (v := 1) (ty := .boolean) hx hb hr (by decide) (fun t ht hW => ⟨⟨1, F32, rfl, ⟨(by decide), trivial, hI, hfr, fun k hk => (y_fiZ oY38 (s_sub (by decide) hk)).trans ((hz0 k hk).trans (y_fiZ oY0 (s_sub (by decide) hk)).symm), (by rw [y_fiZ oY38 (k := 15) (by decide), ← ev10, y_atE o36, y_atE o40, y_atE o37, y_fiZ oY38 (k := 31) (by decide), ← ev29, y_fiZ oY38 (k := 32) (by decide), ← ev30]; exact (Or.inr ⟨by omega, hPG, h34, h17⟩))⟩, by rw [ht]; exact hP, va_K.moved hW.alike hK⟩, hS.F ht⟩) hS.2.2 dX7_begin_23
  · have c13 := (ax_eq (n := 0) (by decide)).mp c13
    refine lv_aload_n hx hb dX7_begin_7 rfl (lv_at hl 0 rfl) ?_
    refine lv_iconst (v := 3) hx hb dX7_begin_8 (by decide) ?_
    refine va_calli (va_runV (As := [.int 3]) (rest := []) ⟨hx, hb, hml, hown, hts⟩ (y_X7_isRefused l dC dI H.size hLK A hA F a0 3 ha0 (by decide) hI) (cwV 1 hts (ax_gV T_262 T_263 T_264 T_265 T_20) rfl rfl rfl (by decide +kernel) ⟨Nat.le_of_ble_eq_true rfl, Nat.le_of_ble_eq_true rfl⟩) ⟨fun a U g mk q => ⟨q.1, s_pc (U := U) rfl rfl q.2⟩, s_recv hK hP (hLK _ ha0 (by decide)) (ci := 7) rfl oY0, fun U hU hW => ⟨rfl, s_pw hU hW hP hK hD hN⟩⟩ rfl rfl hl.1 rfl (lv_room (Nat.le_of_ble_eq_true rfl)) dX7_begin_9 ⟨Nat.zero_le _, Nat.zero_le _⟩) hS (fun q _ h => h) (fun q h => h) (fun r44 F45 t H1 locs ht hvm hw hB hz1 hk1 hS => ?_)
    obtain ⟨hP, hK1⟩ := hB
    rw [ht] at hP
    generalize H1 = H at hP hS ⊢
    clear hz1 hk1 hvm hK1
    obtain ⟨h46, h48, hI, hfr1, hzf, h47⟩ := hw
    have o49 : F45 (A 13) = .inl (cs 0, 400, .inl f1) := (hfr1 _ (by rw [(y_k13 hA)]; decide)).trans o2
    have o50 : F45 (A 20) = .inl (cs 0, 918, .inl f4) := (hfr1 _ (by rw [(y_k20 hA)]; decide)).trans o5
    have o51 : F45 (A 30) = .inl (cs 0, 18360, .inl f7) := (hfr1 _ (by rw [(y_k30 hA)]; decide)).trans o8
    have oY52 : F45 a0 = .inr (7, y_fl A z0 q0) := (hfr1 _ (by rw [ha0]; decide)).trans oY0
    have hfr : ∀ b, K b ∉ [9, 59, 70, 80] → F45 b = F b := fun b hb9 => (hfr1 b (fun q => hb9 (s_sub (by decide) q))).trans (hfr b hb9)
    exact W.zret (v := r44) (ty := .boolean) hx hb hr (th_nz ⟨by omega, by omega⟩) (fun t ht hW => ⟨⟨r44, F45, rfl, ⟨⟨by omega, by omega⟩, trivial, hI, hfr, fun k hk => (y_fiZ oY52 (s_sub (by decide) hk)).trans ((hz0 k hk).trans (y_fiZ oY0 (s_sub (by decide) hk)).symm), (by rw [y_fiZ oY52 (k := 15) (by decide), ← ev10, y_atE o49, y_atE o50, y_atE o51, y_fiZ oY52 (k := 31) (by decide), ← ev11, y_fiZ oY52 (k := 32) (by decide), ← ev12]; exact hT)⟩, by rw [ht]; exact hP, va_K.moved hW.alike hK⟩, hS.F ht⟩) hS.2.2 dX7_begin_12

set_option maxHeartbeats 4000000 in
set_option maxRecDepth 100000 in
theorem y_X7_seed (l : Launch) (dC : Nat → ClassId) (dI : Nat → Nat → Nat) (sz : Nat) {L : List Nat} {K : Nat → Nat} {cs : Nat → ClassId} (hLK : ∀ a {k : Nat}, K a = k → k ≠ 0 → a ∈ L) (A : Nat → Nat) (hA : y_A K A) (F : Nat → va_E) (a0 : Nat) (x1 : Int32) (ha0 : K a0 = 9) (hI : y_I K cs A F) : Met l yX7_seed (Cond.code yX7_seed cX7_seed 2 (some .boolean) :: T0) ({ frames := 1, cells := 0, slots := 0, locals := 21 }) (va_Pc [.ref a0, .int x1] (s_W dC dI sz L F [(cs 0, .int), (cs 1, .byte), (cs 2, .long), (cs 3, .object RX5), (cs 4, .object RX4), (cs 5, .array .int), (cs 6, .char), (cs 7, .boolean)])) (va_Qi (fun (r : Int32) (G : Nat → va_E) => (0 ≤ r.toInt ∧ r.toInt ≤ 1) ∧ (¬ r = 0 → 0 ≤ x1.toInt ∧ x1.toInt ≤ 2147483647) ∧ y_I K cs A G ∧ (∀ b, K b ∉ [9, 59] → G b = F b) ∧ (∀ k, k ∈ ([1, 2, 3, 4, 5, 6, 7, 8, 11, 15, 16, 19, 25, 26, 27, 31, 32] : List Nat) → y_fi G a0 k = y_fi F a0 k) ∧ ((x1.toInt < 0 ∧ r.toInt = 0) ∨ (0 ≤ x1.toInt ∧ r.toInt = 1))) (fun (G : Nat → va_E) (t : State) => va_P (dC, dI) vwCl (va_pl L G) t.heap ∧ va_K (dC, dI) vwCl [(cs 0, .int), (cs 1, .byte), (cs 2, .long), (cs 3, .object RX5), (cs 4, .object RX4), (cs 5, .array .int), (cs 6, .char), (cs 7, .boolean)] t) (fun q => q ∈ L)) 0 0 (fun q => q ∈ L) := by
  refine Met.ofW (cc := cX7_seed) (maxL := 2) (ret := (some .boolean)) (by decide) rfl ?_
  intro p e s m args below meth c s₁ B hml hv
  obtain ⟨rfl, hsz, hP, hK, hD, hN⟩ := hv
  have hx := B.exec
  have hb := B.bytes
  have hr := B.returns
  have hts : ∀ w ∈ T0, w.before _ s = true := fun w h => atoms_spec (ws := Cond.code yX7_seed cX7_seed 2 (some .boolean) :: T0) B.pre w (List.mem_cons_of_mem _ h)
  have hown : s.vm.findClass RX7 = some m.cls := findClass_of_methodNamed B.named
  have hlocks := B.notSynchronized
  have hS : va_S (fun q => q ∈ L) s.heap s.heap [] := va_S.rf
  have hfr : ∀ b, K b ∉ [9, 59] → F b = F b := fun _ _ => rfl
  have hl := lv_entry ([.ref a0, .int x1]) (n := 2) (Nat.le_of_ble_eq_true rfl)
  rw [lg_entry_eq]
  generalize (lg_sl ([.ref a0, .int x1]) ++ List.replicate (2 - (lg_sl ([.ref a0, .int x1])).length) Slot.unset).toArray = ls at hl ⊢
  have hl : lv_has ls 2 [(0, .ref a0), (1, .int x1)] := hl
  refine s_gen hP hS (fun H locs hP hS => ?_)
  obtain ⟨z0, q0, oY0, bz0, bq0⟩ := y_opY hI ha0
  have hz0 : ∀ k, k ∈ ([1, 2, 3, 4, 5, 6, 7, 8, 11, 15, 16, 19, 25, 26, 27, 31, 32] : List Nat) → z0 k = z0 k := fun _ _ => rfl
  refine lv_iload_n hx hb dX7_seed_0 rfl (lv_at hl 1 rfl) ?_
  refine lv_if_ge (tgt := 10) hx hb dX7_seed_1 (by decide) (fun c1 => ?_) (fun c1 => ?_)
  · have c1 := (ax_ge (n := 0) (by decide)).mp c1
    refine lv_aload_n hx hb dX7_seed_10 rfl (lv_at hl 0 rfl) ?_
    refine lv_iload_n hx hb dX7_seed_11 rfl (lv_at hl 1 rfl) ?_
    refine lv_i2l hx hb dX7_seed_12 rfl ?_
    refine lv_topl (fun v2 ev2 => ?_)
    have qv2 : v2.toInt = x1.toInt := y_i2l ev2
    refine th_put (D := (dC, dI)) (ci := 7) (v := .long v2) (ty := .long) (C := RX7) (T := TX7) (N := 34) hx hb hts inX7 tyX7 tyX7_ok nmX7 hown hK hP hD hS (hLK _ ha0 (by decide)) oY0 rfl 33 (by decide) (hts _ T_260) (fun _ h9 => h9) rfl (by decide +kernel) rfl rfl (Nat.le_of_ble_eq_true rfl) dX7_seed_13 (fun H locs hP hS => ?_)
    have bq3 : 0 ≤ (v2 : Int64).toInt ∧ (v2 : Int64).toInt < 2147483648 := ⟨by omega, by have q9 := th_hi x1; omega⟩
    rw [y_fsq] at hP
    have hP : va_P (dC, dI) vwCl (va_pl L (va_up F a0 (.inr (7, y_fl A z0 v2)))) H := hP
    obtain ⟨F4, hF5⟩ : ∃ G : Nat → va_E, G = va_up F a0 (.inr (7, y_fl A z0 v2)) := ⟨_, rfl⟩
    rw [← hF5] at hP
    have hI : y_I K cs A F4 := by rw [hF5]; exact y_clY hA hI ha0 bz0 bq3
    have hfr : ∀ b, K b ∉ [9, 59] → F4 b = F b := by rw [hF5]; exact s_fr hfr ha0 (by decide)
    have oY6 : F4 a0 = .inr (7, y_fl A z0 v2) := by rw [hF5]; exact th_up
    refine lv_iconst (v := 1) hx hb dX7_seed_16 (by decide) ?_
    have h7 : (1 : Int32).toInt = 1 := by decide
    exact W.zret (v := 1) (ty := .boolean) hx hb hr (by decide) (fun t ht hW => ⟨⟨1, F4, rfl, ⟨(by decide), (fun q => ⟨by omega, by have q9 := th_hi x1; omega⟩), hI, hfr, fun k hk => (y_fiZ oY6 (s_sub (by decide) hk)).trans ((hz0 k hk).trans (y_fiZ oY0 (s_sub (by decide) hk)).symm), (by omega)⟩, by rw [ht]; exact hP, va_K.moved hW.alike hK⟩, hS.F ht⟩) hS.2.2 dX7_seed_17
  · have c1 := mt (ax_ge (n := 0) (by decide)).mpr c1
    refine lv_aload_n hx hb dX7_seed_4 rfl (lv_at hl 0 rfl) ?_
    refine lv_iconst (v := 5) hx hb dX7_seed_5 (by decide) ?_
    refine va_calli (va_runV (As := [.int 5]) (rest := []) ⟨hx, hb, hml, hown, hts⟩ (y_X7_isRefused l dC dI H.size hLK A hA F a0 5 ha0 (by decide) hI) (cwV 1 hts (ax_gV T_262 T_263 T_264 T_265 T_20) rfl rfl rfl (by decide +kernel) ⟨Nat.le_of_ble_eq_true rfl, Nat.le_of_ble_eq_true rfl⟩) ⟨fun a U g mk q => ⟨q.1, s_pc (U := U) rfl rfl q.2⟩, s_recv hK hP (hLK _ ha0 (by decide)) (ci := 7) rfl oY0, fun U hU hW => ⟨rfl, s_pw hU hW hP hK hD hN⟩⟩ rfl rfl hl.1 rfl (lv_room (Nat.le_of_ble_eq_true rfl)) dX7_seed_6 ⟨Nat.zero_le _, Nat.zero_le _⟩) hS (fun q _ h => h) (fun q h => h) (fun r9 F10 t H1 locs ht hvm hw hB hz1 hk1 hS => ?_)
    obtain ⟨hP, hK1⟩ := hB
    rw [ht] at hP
    generalize H1 = H at hP hS ⊢
    clear hz1 hk1 hvm hK1
    obtain ⟨h11, h13, hI, hfr1, hzf, h12⟩ := hw
    have oY14 : F10 a0 = .inr (7, y_fl A z0 q0) := (hfr1 _ (by rw [ha0]; decide)).trans oY0
    have hfr : ∀ b, K b ∉ [9, 59] → F10 b = F b := fun b hb9 => (hfr1 b (fun q => hb9 (s_sub (by decide) q))).trans (hfr b hb9)
    exact W.zret (v := r9) (ty := .boolean) hx hb hr (th_nz ⟨by omega, by omega⟩) (fun t ht hW => ⟨⟨r9, F10, rfl, ⟨⟨by omega, by omega⟩, (fun q => absurd (y_z0 ⟨by omega, by omega⟩) q), hI, hfr, fun k hk => (y_fiZ oY14 (s_sub (by decide) hk)).trans ((hz0 k hk).trans (y_fiZ oY0 (s_sub (by decide) hk)).symm), (by omega)⟩, by rw [ht]; exact hP, va_K.moved hW.alike hK⟩, hS.F ht⟩) hS.2.2 dX7_seed_9

set_option maxHeartbeats 4000000 in
set_option maxRecDepth 100000 in
theorem y_X7_drawOf (l : Launch) (dC : Nat → ClassId) (dI : Nat → Nat → Nat) (sz : Nat) {L : List Nat} {K : Nat → Nat} {cs : Nat → ClassId} (hLK : ∀ a {k : Nat}, K a = k → k ≠ 0 → a ∈ L) (A : Nat → Nat) (hA : y_A K A) (F : Nat → va_E) (a0 : Nat) (x1 : Int32) (ha0 : K a0 = 9) (hx1 : 1 ≤ x1.toInt ∧ x1.toInt ≤ 64) (hI : y_I K cs A F) : Met l yX7_drawOf (Cond.code yX7_drawOf cX7_drawOf 2 (some .int) :: T0) ({ frames := 0, cells := 0, slots := 0, locals := 0 }) (va_Pc [.ref a0, .int x1] (s_W dC dI sz L F [(cs 0, .int), (cs 1, .byte), (cs 2, .long), (cs 3, .object RX5), (cs 4, .object RX4), (cs 5, .array .int), (cs 6, .char), (cs 7, .boolean)])) (va_Qi (fun (r : Int32) (G : Nat → va_E) => (0 ≤ r.toInt ∧ r.toInt ≤ 63) ∧ True ∧ y_I K cs A G ∧ (∀ b, K b ∉ [9] → G b = F b) ∧ (∀ k, k ∈ ([1, 2, 3, 4, 5, 6, 7, 8, 11, 15, 16, 19, 25, 26, 27, 31, 32] : List Nat) → y_fi G a0 k = y_fi F a0 k) ∧ (0 ≤ r.toInt ∧ r.toInt < x1.toInt)) (fun (G : Nat → va_E) (t : State) => va_P (dC, dI) vwCl (va_pl L G) t.heap ∧ va_K (dC, dI) vwCl [(cs 0, .int), (cs 1, .byte), (cs 2, .long), (cs 3, .object RX5), (cs 4, .object RX4), (cs 5, .array .int), (cs 6, .char), (cs 7, .boolean)] t) (fun q => q ∈ L)) 0 0 (fun q => q ∈ L) := by
  refine Met.ofW (cc := cX7_drawOf) (maxL := 2) (ret := (some .int)) (by decide) rfl ?_
  intro p e s m args below meth c s₁ B hml hv
  obtain ⟨rfl, hsz, hP, hK, hD, hN⟩ := hv
  have hx := B.exec
  have hb := B.bytes
  have hr := B.returns
  have hts : ∀ w ∈ T0, w.before _ s = true := fun w h => atoms_spec (ws := Cond.code yX7_drawOf cX7_drawOf 2 (some .int) :: T0) B.pre w (List.mem_cons_of_mem _ h)
  have hown : s.vm.findClass RX7 = some m.cls := findClass_of_methodNamed B.named
  have hlocks := B.notSynchronized
  have hS : va_S (fun q => q ∈ L) s.heap s.heap [] := va_S.rf
  have hfr : ∀ b, K b ∉ [9] → F b = F b := fun _ _ => rfl
  have hl := lv_entry ([.ref a0, .int x1]) (n := 2) (Nat.le_of_ble_eq_true rfl)
  rw [lg_entry_eq]
  generalize (lg_sl ([.ref a0, .int x1]) ++ List.replicate (2 - (lg_sl ([.ref a0, .int x1])).length) Slot.unset).toArray = ls at hl ⊢
  have hl : lv_has ls 2 [(0, .ref a0), (1, .int x1)] := hl
  refine s_gen hP hS (fun H locs hP hS => ?_)
  obtain ⟨z0, q0, oY0, bz0, bq0⟩ := y_opY hI ha0
  have hz0 : ∀ k, k ∈ ([1, 2, 3, 4, 5, 6, 7, 8, 11, 15, 16, 19, 25, 26, 27, 31, 32] : List Nat) → z0 k = z0 k := fun _ _ => rfl
  refine lv_aload_n hx hb dX7_drawOf_0 rfl (lv_at hl 0 rfl) ?_
  refine lv_ldc2 hx hb hown (hts _ T_1098) dX7_drawOf_1 ?_
  refine lv_aload_n hx hb dX7_drawOf_4 rfl (lv_at hl 0 rfl) ?_
  refine th_get (D := (dC, dI)) (ci := 7) (v := .long q0) (C := RX7) (T := TX7) (N := 34) hx hb hts inX7 hown hK hP (hLK _ ha0 (by decide)) oY0 rfl 33 (by decide) (hts _ T_260) (fun _ h9 => h9) rfl dX7_drawOf_5 ?_
  refine lv_lmul hx hb dX7_drawOf_8 ?_
  refine lv_topl (fun v1 ev1 => ?_)
  have qv1 : v1.toInt = 1103515245 * q0.toInt := by rw [ev1]; exact y_lmul bq0
  refine lv_ldc2 hx hb hown (hts _ T_1099) dX7_drawOf_9 ?_
  refine lv_ladd hx hb dX7_drawOf_12 ?_
  refine lv_topl (fun v2 ev2 => ?_)
  have qv2 : v2.toInt = v1.toInt + 12345 := by rw [ev2]; exact y_l12 ⟨by omega, by omega⟩
  refine lv_ldc2 hx hb hown (hts _ T_1100) dX7_drawOf_13 ?_
  refine lv_lrem hx hb dX7_drawOf_16 (by decide) ?_
  refine lv_topl (fun v3 ev3 => ?_)
  have qv3 : 0 ≤ v3.toInt ∧ v3.toInt < 2147483648 := by have q9 := y_modA (x := v2) (y := 2147483648) (by decide); rw [← ev3] at q9; have q8 : (2147483648 : Int64).toInt = 2147483648 := (by decide); omega
  refine th_put (D := (dC, dI)) (ci := 7) (v := .long v3) (ty := .long) (C := RX7) (T := TX7) (N := 34) hx hb hts inX7 tyX7 tyX7_ok nmX7 hown hK hP hD hS (hLK _ ha0 (by decide)) oY0 rfl 33 (by decide) (hts _ T_260) (fun _ h9 => h9) rfl (by decide +kernel) rfl rfl (Nat.le_of_ble_eq_true rfl) dX7_drawOf_17 (fun H locs hP hS => ?_)
  have bq4 : 0 ≤ (v3 : Int64).toInt ∧ (v3 : Int64).toInt < 2147483648 := ⟨by omega, by omega⟩
  rw [y_fsq] at hP
  have hP : va_P (dC, dI) vwCl (va_pl L (va_up F a0 (.inr (7, y_fl A z0 v3)))) H := hP
  obtain ⟨F5, hF6⟩ : ∃ G : Nat → va_E, G = va_up F a0 (.inr (7, y_fl A z0 v3)) := ⟨_, rfl⟩
  rw [← hF6] at hP
  have hI : y_I K cs A F5 := by rw [hF6]; exact y_clY hA hI ha0 bz0 bq4
  have hfr : ∀ b, K b ∉ [9] → F5 b = F b := by rw [hF6]; exact s_fr hfr ha0 (by decide)
  have oY7 : F5 a0 = .inr (7, y_fl A z0 v3) := by rw [hF6]; exact th_up
  refine lv_aload_n hx hb dX7_drawOf_20 rfl (lv_at hl 0 rfl) ?_
  refine th_get (D := (dC, dI)) (ci := 7) (v := .long v3) (C := RX7) (T := TX7) (N := 34) hx hb hts inX7 hown hK hP (hLK _ ha0 (by decide)) oY7 rfl 33 (by decide) (hts _ T_260) (fun _ h9 => h9) rfl dX7_drawOf_21 ?_
  refine lv_ldc2 hx hb hown (hts _ T_1101) dX7_drawOf_24 ?_
  refine lv_ldiv hx hb dX7_drawOf_27 (by decide) ?_
  refine lv_topl (fun v8 ev8 => ?_)
  have qv8 := th_divL (x := v3) (y := 64) bq4.1 (by decide)
  rw [← ev8] at qv8
  refine lv_iload_n hx hb dX7_drawOf_28 rfl (lv_at hl 1 rfl) ?_
  refine lv_i2l hx hb dX7_drawOf_29 rfl ?_
  refine lv_topl (fun v9 ev9 => ?_)
  have qv9 : v9.toInt = x1.toInt := y_i2l ev9
  refine lv_lrem hx hb dX7_drawOf_30 (by rw [ev9]; exact th_nzL (by omega)) ?_
  refine lv_topl (fun v10 ev10 => ?_)
  have qv10 : 0 ≤ v10.toInt ∧ v10.toInt < x1.toInt := by have q9 := y_modA (x := v8) (y := v9) (by omega); rw [← ev10] at q9; omega
  refine lv_l2i hx hb dX7_drawOf_31 rfl ?_
  refine lv_topi (fun v11 ev11 => ?_)
  have qv11 : v11.toInt = v10.toInt := by rw [ev11]; exact th_l32 ⟨by omega, by omega⟩
  exact W.iret (v := v11) hx hb hr (fun t ht hW => ⟨⟨v11, F5, rfl, ⟨⟨by omega, by omega⟩, trivial, hI, hfr, fun k hk => (y_fiZ oY7 (s_sub (by decide) hk)).trans ((hz0 k hk).trans (y_fiZ oY0 (s_sub (by decide) hk)).symm), (by omega)⟩, by rw [ht]; exact hP, va_K.moved hW.alike hK⟩, hS.F ht⟩) hS.2.2 dX7_drawOf_32
