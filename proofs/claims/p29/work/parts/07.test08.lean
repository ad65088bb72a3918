set_option maxHeartbeats 4000000 in
set_option maxRecDepth 100000 in
theorem yt_X7_cycles (l : Launch) (dC : Nat → ClassId) (dI : Nat → Nat → Nat) (sz : Nat) {L : List Nat} {K : Nat → Nat} {cs : Nat → ClassId} (hLK : ∀ a {k : Nat}, K a = k → k ≠ 0 → a ∈ L) (A : Nat → Nat) (hA : y_A K A) (F : Nat → va_E) (a0 : Nat) (x1 : Int32) (ha0 : K a0 = 9) (hI : y_I K cs A F) (hT : y_T (y_fi F a0 15) (y_at F (A 13)) (y_at F (A 20)) (y_at F (A 30)) (y_fi F a0 31) (y_fi F a0 32)) : Met l yX7_cycles (Cond.code yX7_cycles cX7_cycles 4 (some .int) :: T0) ({ frames := 8, cells := 0, slots := 0, locals := 188 }) (va_Pc [.ref a0, .int x1] (s_W dC dI sz L F [(cs 0, .int), (cs 1, .byte), (cs 2, .long), (cs 3, .object RX5), (cs 4, .object RX4), (cs 5, .array .int), (cs 6, .char), (cs 7, .boolean)])) (va_Qi (fun (r : Int32) (G : Nat → va_E) => True ∧ True ∧ y_I K cs A G ∧ (∀ b, K b ∉ [9, 59, 70, 71, 72, 80] → G b = F b) ∧ (∀ k, k ∈ ([1, 2, 3, 4, 5, 6, 7, 8, 11, 15, 16, 19, 25, 26, 27] : List Nat) → y_fi G a0 k = y_fi F a0 k) ∧ (y_T (y_fi G a0 15) (y_at G (A 13)) (y_at G (A 20)) (y_at G (A 30)) (y_fi G a0 31) (y_fi G a0 32))) (fun (G : Nat → va_E) (t : State) => va_P (dC, dI) vwCl (va_pl L G) t.heap ∧ va_K (dC, dI) vwCl [(cs 0, .int), (cs 1, .byte), (cs 2, .long), (cs 3, .object RX5), (cs 4, .object RX4), (cs 5, .array .int), (cs 6, .char), (cs 7, .boolean)] t) (fun q => q ∈ L)) 0 0 (fun q => q ∈ L) := by
  refine Met.ofW (cc := cX7_cycles) (maxL := 4) (ret := (some .int)) (by decide) rfl ?_
  intro p e s m args below meth c s₁ B hml hv
  obtain ⟨rfl, hsz, hP, hK, hD, hN⟩ := hv
  have hx := B.exec
  have hb := B.bytes
  have hr := B.returns
  have hts : ∀ w ∈ T0, w.before _ s = true := fun w h => atoms_spec (ws := Cond.code yX7_cycles cX7_cycles 4 (some .int) :: T0) B.pre w (List.mem_cons_of_mem _ h)
  have hown : s.vm.findClass RX7 = some m.cls := findClass_of_methodNamed B.named
  have hlocks := B.notSynchronized
  have hS : va_S (fun q => q ∈ L) s.heap s.heap [] := va_S.rf
  have hfr : ∀ b, K b ∉ [9, 59, 70, 71, 72, 80] → F b = F b := fun _ _ => rfl
  have hl := lv_entry ([.ref a0, .int x1]) (n := 4) (Nat.le_of_ble_eq_true rfl)
  rw [lg_entry_eq]
  generalize (lg_sl ([.ref a0, .int x1]) ++ List.replicate (4 - (lg_sl ([.ref a0, .int x1])).length) Slot.unset).toArray = ls at hl ⊢
  have hl : lv_has ls 4 [(0, .ref a0), (1, .int x1)] := hl
  refine s_gen hP hS (fun H locs hP hS => ?_)
  obtain ⟨z0, q0, oY0, bz0, bq0⟩ := y_opY hI ha0
  have hz0 : ∀ k, k ∈ ([1, 2, 3, 4, 5, 6, 7, 8, 11, 15, 16, 19, 25, 26, 27] : List Nat) → z0 k = z0 k := fun _ _ => rfl
  obtain ⟨f1, o2, b3⟩ := y_op13 hI
  obtain ⟨f4, o5, b6⟩ := y_op20 hI
  obtain ⟨f7, o8, b9⟩ := y_op30 hI
  obtain ⟨v10, ev10⟩ : ∃ y : Int32, y = z0 15 := ⟨_, rfl⟩
  have qv10 : 0 ≤ v10.toInt ∧ v10.toInt ≤ 1 := by rw [ev10]; exact y_bY15 bz0
  have eF_15 := ev10
  obtain ⟨v11, ev11⟩ : ∃ y : Int32, y = z0 31 := ⟨_, rfl⟩
  have qv11 : 0 ≤ v11.toInt ∧ v11.toInt ≤ 20 := by rw [ev11]; exact y_bY31 bz0
  have eF_31 := ev11
  obtain ⟨v12, ev12⟩ : ∃ y : Int32, y = z0 32 := ⟨_, rfl⟩
  have qv12 : 0 ≤ v12.toInt ∧ v12.toInt ≤ 19 := by rw [ev12]; exact y_bY32 bz0
  have eF_32 := ev12
  have hT : y_T v10 f1 f4 f7 v11 v12 := by have q9 := hT; rw [y_fiZ oY0 (k := 15) (by decide), ← ev10, y_atE o2, y_atE o5, y_atE o8, y_fiZ oY0 (k := 31) (by decide), ← ev11, y_fiZ oY0 (k := 32) (by decide), ← ev12] at q9; exact q9
  have e0_v10 := ev10
  have e0_v11 := ev11
  have e0_v12 := ev12
  refine lv_aload_n hx hb dX7_cycles_0 rfl (lv_at hl 0 rfl) ?_
  refine th_get (D := (dC, dI)) (ci := 7) (v := .int (z0 15)) (C := RX7) (T := TX7) (N := 34) hx hb hts inX7 hown hK hP (hLK _ ha0 (by decide)) oY0 rfl 15 (by decide) (hts _ T_271) (fun _ h9 => h9) rfl dX7_cycles_1 ?_
  refine ax_eqi (y := v10) ev10.symm ?_
  refine lv_if_eq (tgt := 33) hx hb dX7_cycles_4 (by decide) (fun c13 => ?_) (fun c13 => ?_)
  · have c13 := (ax_eq (n := 0) (by decide)).mp c13
    refine lv_aload_n hx hb dX7_cycles_33 rfl (lv_at hl 0 rfl) ?_
    refine lv_iconst (v := 2) hx hb dX7_cycles_34 (by decide) ?_
    refine va_calli (va_runV (As := [.int 2]) (rest := []) ⟨hx, hb, hml, hown, hts⟩ (y_X7_refuses l dC dI H.size hLK A hA F a0 2 ha0 (by decide) hI) (cwV 1 hts (ax_gV T_310 T_311 T_312 T_265 T_33) rfl rfl rfl (by decide +kernel) ⟨Nat.le_of_ble_eq_true rfl, Nat.le_of_ble_eq_true rfl⟩) ⟨fun a U g mk q => ⟨q.1, s_pc (U := U) rfl rfl q.2⟩, s_recv hK hP (hLK _ ha0 (by decide)) (ci := 7) rfl oY0, fun U hU hW => ⟨rfl, s_pw hU hW hP hK hD hN⟩⟩ rfl rfl hl.1 rfl (lv_room (Nat.le_of_ble_eq_true rfl)) dX7_cycles_35 ⟨Nat.zero_le _, Nat.zero_le _⟩) hS (fun q _ h => h) (fun q h => h) (fun r15 F16 t H1 locs ht hvm hw hB hz1 hk1 hS => ?_)
    obtain ⟨hP, hK1⟩ := hB
    rw [ht] at hP
    generalize H1 = H at hP hS ⊢
    clear hz1 hk1 hvm hK1
    obtain ⟨h17, h19, hI, hfr1, hzf, h18⟩ := hw
    have o20 : F16 (A 13) = .inl (cs 0, 400, .inl f1) := (hfr1 _ (by rw [(y_k13 hA)]; decide)).trans o2
    have o21 : F16 (A 20) = .inl (cs 0, 918, .inl f4) := (hfr1 _ (by rw [(y_k20 hA)]; decide)).trans o5
    have o22 : F16 (A 30) = .inl (cs 0, 18360, .inl f7) := (hfr1 _ (by rw [(y_k30 hA)]; decide)).trans o8
    have oY23 : F16 a0 = .inr (7, y_fl A z0 q0) := (hfr1 _ (by rw [ha0]; decide)).trans oY0
    have hfr : ∀ b, K b ∉ [9, 59, 70, 71, 72, 80] → F16 b = F b := fun b hb9 => (hfr1 b (fun q => hb9 (s_sub (by decide) q))).trans (hfr b hb9)
    exact W.iret (v := r15) hx hb hr (fun t ht hW => ⟨⟨r15, F16, rfl, ⟨trivial, trivial, hI, hfr, fun k hk => (y_fiZ oY23 (s_sub (by decide) hk)).trans ((hz0 k hk).trans (y_fiZ oY0 (s_sub (by decide) hk)).symm), (by rw [y_fiZ oY23 (k := 15) (by decide), ← ev10, y_atE o20, y_atE o21, y_atE o22, y_fiZ oY23 (k := 31) (by decide), ← ev11, y_fiZ oY23 (k := 32) (by decide), ← ev12]; exact hT)⟩, by rw [ht]; exact hP, va_K.moved hW.alike hK⟩, hS.F ht⟩) hS.2.2 dX7_cycles_38
  · have c13 := mt (ax_eq (n := 0) (by decide)).mpr c13
    obtain ⟨htd, hPG, hNG, hUG⟩ := y_TT hT (by omega)
    have hL := y_P0L hPG.1
    have hW := y_P0W hPG.1
    have hnn := And.intro hNG.1 (And.intro hNG.2.1 (And.intro hNG.2.2.1 hNG.2.2.2.1))
    refine lv_iload_n hx hb dX7_cycles_7 rfl (lv_at hl 1 rfl) ?_
    refine lv_i2l hx hb dX7_cycles_8 rfl ?_
    refine lv_topl (fun v24 ev24 => ?_)
    have qv24 : v24.toInt = x1.toInt := y_i2l ev24
    refine lv_lconst (v := 1) hx hb dX7_cycles_9 (by decide) ?_
    refine lv_ldc2 hx hb hown (hts _ T_1094) dX7_cycles_10 ?_
    refine va_calli (va_runS (As := [.long v24, .long 1, .long 400]) (rest := []) ⟨hx, hb, hml, hown, hts⟩ (y_X7_isIn l dC dI H.size F v24 1 400) (cwS 3 hts (ax_gS T_267 T_268 T_265 T_21) rfl rfl rfl (by decide +kernel) ⟨Nat.le_of_ble_eq_true rfl, Nat.le_of_ble_eq_true rfl⟩) ⟨fun a U g mk q => ⟨q.1, s_pc (U := U) rfl rfl q.2⟩, fun U hU hW => ⟨rfl, s_pw hU hW hP hK hD hN⟩⟩ rfl rfl hl.1 rfl (lv_room (Nat.le_of_ble_eq_true rfl)) dX7_cycles_13 ⟨Nat.zero_le _, Nat.zero_le _⟩) hS (fun q _ h => h) (fun q h => h) (fun r26 F27 t H1 locs ht hvm hw hB hz1 hk1 hS => ?_)
    obtain ⟨hP, hK1⟩ := hB
    rw [ht] at hP
    generalize H1 = H at hP hS ⊢
    clear hz1 hk1 hvm hK1
    obtain ⟨h28, h30, hG9, h29⟩ := hw
    rw [hG9] at hP
    have h29 : ((r26.toInt = 0 ∧ (v24.toInt < 1 ∨ 400 < v24.toInt)) ∨ (r26.toInt = 1 ∧ 1 ≤ v24.toInt ∧ v24.toInt ≤ 400)) := by have q9 := h29; exact q9
    refine lv_if_eq (tgt := 33) hx hb dX7_cycles_16 (by decide) (fun c31 => ?_) (fun c31 => ?_)
    · have c31 := (ax_eq (n := 0) (by decide)).mp c31
      refine lv_aload_n hx hb dX7_cycles_33 rfl (lv_at hl 0 rfl) ?_
      refine lv_iconst (v := 2) hx hb dX7_cycles_34 (by decide) ?_
      refine va_calli (va_runV (As := [.int 2]) (rest := []) ⟨hx, hb, hml, hown, hts⟩ (y_X7_refuses l dC dI H.size hLK A hA F a0 2 ha0 (by decide) hI) (cwV 1 hts (ax_gV T_310 T_311 T_312 T_265 T_33) rfl rfl rfl (by decide +kernel) ⟨Nat.le_of_ble_eq_true rfl, Nat.le_of_ble_eq_true rfl⟩) ⟨fun a U g mk q => ⟨q.1, s_pc (U := U) rfl rfl q.2⟩, s_recv hK hP (hLK _ ha0 (by decide)) (ci := 7) rfl oY0, fun U hU hW => ⟨rfl, s_pw hU hW hP hK hD hN⟩⟩ rfl rfl hl.1 rfl (lv_room (Nat.le_of_ble_eq_true rfl)) dX7_cycles_35 ⟨Nat.zero_le _, Nat.zero_le _⟩) hS (fun q _ h => h) (fun q h => h) (fun r33 F34 t H1 locs ht hvm hw hB hz1 hk1 hS => ?_)
      obtain ⟨hP, hK1⟩ := hB
      rw [ht] at hP
      generalize H1 = H at hP hS ⊢
      clear hz1 hk1 hvm hK1
      obtain ⟨h35, h37, hI, hfr1, hzf, h36⟩ := hw
      have o38 : F34 (A 13) = .inl (cs 0, 400, .inl f1) := (hfr1 _ (by rw [(y_k13 hA)]; decide)).trans o2
      have o39 : F34 (A 20) = .inl (cs 0, 918, .inl f4) := (hfr1 _ (by rw [(y_k20 hA)]; decide)).trans o5
      have o40 : F34 (A 30) = .inl (cs 0, 18360, .inl f7) := (hfr1 _ (by rw [(y_k30 hA)]; decide)).trans o8
      have oY41 : F34 a0 = .inr (7, y_fl A z0 q0) := (hfr1 _ (by rw [ha0]; decide)).trans oY0
      have hfr : ∀ b, K b ∉ [9, 59, 70, 71, 72, 80] → F34 b = F b := fun b hb9 => (hfr1 b (fun q => hb9 (s_sub (by decide) q))).trans (hfr b hb9)
      exact W.iret (v := r33) hx hb hr (fun t ht hW => ⟨⟨r33, F34, rfl, ⟨trivial, trivial, hI, hfr, fun k hk => (y_fiZ oY41 (s_sub (by decide) hk)).trans ((hz0 k hk).trans (y_fiZ oY0 (s_sub (by decide) hk)).symm), (by rw [y_fiZ oY41 (k := 15) (by decide), ← ev10, y_atE o38, y_atE o39, y_atE o40, y_fiZ oY41 (k := 31) (by decide), ← ev11, y_fiZ oY41 (k := 32) (by decide), ← ev12]; exact hT)⟩, by rw [ht]; exact hP, va_K.moved hW.alike hK⟩, hS.F ht⟩) hS.2.2 dX7_cycles_38
    · have c31 := mt (ax_eq (n := 0) (by decide)).mpr c31
      refine lv_aload_n hx hb dX7_cycles_19 rfl (lv_at hl 0 rfl) ?_
      refine th_get (D := (dC, dI)) (ci := 7) (v := .ref (A 20)) (C := RX7) (T := TX7) (N := 34) hx hb hts inX7 hown hK hP (hLK _ ha0 (by decide)) oY0 rfl 20 (by decide) (hts _ T_251) (fun _ h9 => h9) rfl dX7_cycles_20 ?_
      refine lv_iconst (v := 0) hx hb dX7_cycles_23 (by decide) ?_
      refine th_iald hx hb hK hP (hLK _ (y_k20 hA) (by decide)) 0 o5 rfl (ax_in (by decide)) dX7_cycles_24 ?_
      refine lv_topi (fun v42 ev42 => ?_)
      refine lv_iload_n hx hb dX7_cycles_25 rfl (lv_at hl 1 rfl) ?_
      refine lv_iadd hx hb dX7_cycles_26 ?_
      refine lv_topi (fun v43 ev43 => ?_)
      refine lv_sipush (v := 9999) hx hb dX7_cycles_27 (by decide) ?_
      refine lv_icmp_le (tgt := 39) hx hb dX7_cycles_30 (by decide) (fun c44 => ?_) (fun c44 => ?_)
      · have c44 := (ax_le (n := 9999) (by decide)).mp c44
        refine lv_aload_n hx hb dX7_cycles_39 rfl (lv_at hl 0 rfl) ?_
        refine va_callv (va_runV (As := []) (rest := []) ⟨hx, hb, hml, hown, hts⟩ (y_X7_keeps l dC dI H.size hLK A hA F a0 ha0 hI (by rw [y_atE o2]; exact hPG) (by rw [y_atE o2, y_atE o5]; exact hNG) (by rw [y_atE o2, y_atE o8, y_fiZ oY0 (k := 31) (by decide), ← ev11, y_fiZ oY0 (k := 32) (by decide), ← ev12]; exact hUG)) (cwV 0 hts (ax_gV T_1013 T_1015 T_1016 T_265 T_1014) rfl rfl rfl (by decide +kernel) ⟨Nat.le_of_ble_eq_true rfl, Nat.le_of_ble_eq_true rfl⟩) ⟨fun a U g mk q => ⟨q.1, s_pc (U := U) rfl rfl q.2⟩, s_recv hK hP (hLK _ ha0 (by decide)) (ci := 7) rfl oY0, fun U hU hW => ⟨rfl, s_pw hU hW hP hK hD hN⟩⟩ rfl rfl hl.1 rfl (lv_room (Nat.le_of_ble_eq_true rfl)) dX7_cycles_40 ⟨Nat.zero_le _, Nat.zero_le _⟩) hS (fun q _ h => h) (fun q h => h) (fun F46 t H1 locs ht hvm hw hB hz1 hk1 hS => ?_)
        obtain ⟨hP, hK1⟩ := hB
        rw [ht] at hP
        generalize H1 = H at hP hS ⊢
        clear hz1 hk1 hvm hK1
        obtain ⟨h47, h49, hI, hfr1, hzf, h48⟩ := hw
        have o50 : F46 (A 13) = .inl (cs 0, 400, .inl f1) := (hfr1 _ (by rw [(y_k13 hA)]; decide)).trans o2
        have o51 : F46 (A 20) = .inl (cs 0, 918, .inl f4) := (hfr1 _ (by rw [(y_k20 hA)]; decide)).trans o5
        obtain ⟨z52, q53, oY54, bz55, bq56⟩ := y_opY hI ha0
        have hzf : ∀ k, k ∈ ([1, 2, 3, 4, 5, 6, 7, 8, 11, 15, 16, 19, 25, 26, 27] : List Nat) → z52 k = z0 k := fun k hk => by have q9 := hzf k hk; rw [y_fiZ oY54 (s_sub (by decide) hk), y_fiZ oY0 (s_sub (by decide) hk)] at q9; exact q9
        have hz0 : ∀ k, k ∈ ([1, 2, 3, 4, 5, 6, 7, 8, 11, 15, 16, 19, 25, 26, 27] : List Nat) → z52 k = z0 k := fun k hk => (hzf k (s_sub (by decide) hk)).trans (hz0 k hk)
        have ev10 : v10 = z52 15 := ev10.trans (hzf 15 (by decide)).symm
        have hfr : ∀ b, K b ∉ [9, 59, 70, 71, 72, 80] → F46 b = F b := fun b hb9 => (hfr1 b (fun q => hb9 (s_sub (by decide) q))).trans (hfr b hb9)
        obtain ⟨f57, o58, b59⟩ := y_op30 hI
        obtain ⟨v60, ev60⟩ : ∃ y : Int32, y = z52 31 := ⟨_, rfl⟩
        have qv60 : 0 ≤ v60.toInt ∧ v60.toInt ≤ 20 := by rw [ev60]; exact y_bY31 bz55
        obtain ⟨v61, ev61⟩ : ∃ y : Int32, y = z52 32 := ⟨_, rfl⟩
        have qv61 : 0 ≤ v61.toInt ∧ v61.toInt ≤ 19 := by rw [ev61]; exact y_bY32 bz55
        have h48 : (y_UG f1 f57 v60.toInt v61.toInt) := by have q9 := h48; rw [y_atE o2, y_atE o58, y_fiZ oY54 (k := 31) (by decide), ← ev60, y_fiZ oY54 (k := 32) (by decide), ← ev61] at q9; exact q9
        refine lv_aload_n hx hb dX7_cycles_43 rfl (lv_at hl 0 rfl) ?_
        refine th_get (D := (dC, dI)) (ci := 7) (v := .ref (A 20)) (C := RX7) (T := TX7) (N := 34) hx hb hts inX7 hown hK hP (hLK _ ha0 (by decide)) oY54 rfl 20 (by decide) (hts _ T_251) (fun _ h9 => h9) rfl dX7_cycles_44 ?_
        refine lv_iconst (v := 1) hx hb dX7_cycles_47 (by decide) ?_
        refine th_iald hx hb hK hP (hLK _ (y_k20 hA) (by decide)) 0 o51 rfl (ax_in (by decide)) dX7_cycles_48 ?_
        refine lv_topi (fun v62 ev62 => ?_)
        refine lv_istore_n (lv' := [(2, .int v62), (0, .ref a0), (1, .int x1)]) hx hb dX7_cycles_49 rfl hl (by decide) rfl (fun ls hl => ?_)
        refine lv_iconst (v := 0) hx hb dX7_cycles_50 (by decide) ?_
        refine lv_istore_n (lv' := [(3, .int 0), (2, .int v62), (0, .ref a0), (1, .int x1)]) hx hb dX7_cycles_51 rfl hl (by decide) rfl (fun ls hl => ?_)
        have h64 : (0 : Int32).toInt = 0 := by decide
        refine th_loop (fun n g H locs => ∃ (G : Nat → va_E) (ls : Array Slot) (w63 : Int32), g = F0 m 52 ls [] ∧ lv_has ls 4 [(0, .ref a0), (1, .int x1), (2, .int v62), (3, .int w63)] ∧ va_P (dC, dI) vwCl (va_pl L G) H ∧ va_S (fun q => q ∈ L) s.heap H locs ∧ y_I K cs A G ∧ (∀ b, K b ∉ [9, 59, 70, 71, 72, 80] → G b = F b) ∧ (∀ k, k ∈ ([1, 2, 3, 4, 5, 6, 7, 8, 11, 15, 16, 19, 25, 26, 27] : List Nat) → y_fi G a0 k = z0 k) ∧ (0 ≤ w63.toInt ∧ w63.toInt ≤ 400) ∧ (y_NG f1 (y_at G (A 20))) ∧ (y_UG f1 (y_at G (A 30)) (y_fi G a0 31).toInt (y_fi G a0 32).toInt) ∧ n = (401 - w63.toInt).toNat) _ ⟨F46, _, 0, rfl, lv_sub hl [2, 3, 1, 0] rfl, hP, hS, hI, hfr, (fun k hk => (y_fiZ oY54 (s_sub (by decide) hk)).trans (hz0 k hk)), (by decide), (by rw [y_atE o51]; exact hNG), (by rw [y_atE o58, y_fiZ oY54 (k := 31) (by decide), ← ev60, y_fiZ oY54 (k := 32) (by decide), ← ev61]; exact h48), rfl⟩ (fun n ih52 g H locs hq => ?_)
        obtain ⟨F68, ls, w63, rfl, hl, hP, hS, hI, hfr, hz0, h65, h66, h67, hn⟩ := hq
        have o69 : F68 (A 13) = .inl (cs 0, 400, .inl f1) := (hfr _ (by rw [(y_k13 hA)]; decide)).trans o2
        obtain ⟨z70, q71, oY72, bz73, bq74⟩ := y_opY hI ha0
        have hz0 : ∀ k, k ∈ ([1, 2, 3, 4, 5, 6, 7, 8, 11, 15, 16, 19, 25, 26, 27] : List Nat) → z70 k = z0 k := fun k hk => (y_fiZ oY72 (s_sub (by decide) hk)).symm.trans (hz0 k hk)
        have ev10 : v10 = z70 15 := e0_v10.trans (hz0 15 (by decide)).symm
        obtain ⟨f75, o76, b77⟩ := y_op20 hI
        have h66 : (y_NG f1 f75) := by have q9 := h66; rw [y_atE o76] at q9; exact q9
        obtain ⟨f78, o79, b80⟩ := y_op30 hI
        obtain ⟨v81, ev81⟩ : ∃ y : Int32, y = z70 31 := ⟨_, rfl⟩
        have qv81 : 0 ≤ v81.toInt ∧ v81.toInt ≤ 20 := by rw [ev81]; exact y_bY31 bz73
        obtain ⟨v82, ev82⟩ : ∃ y : Int32, y = z70 32 := ⟨_, rfl⟩
        have qv82 : 0 ≤ v82.toInt ∧ v82.toInt ≤ 19 := by rw [ev82]; exact y_bY32 bz73
        have h67 : (y_UG f1 f78 v81.toInt v82.toInt) := by have q9 := h67; rw [y_atE o79, y_fiZ oY72 (k := 31) (by decide), ← ev81, y_fiZ oY72 (k := 32) (by decide), ← ev82] at q9; exact q9
        have hn_82 := hn
        refine lv_iload_n hx hb dX7_cycles_52 rfl (lv_at hl 3 rfl) ?_
        refine lv_iload_n hx hb dX7_cycles_53 rfl (lv_at hl 1 rfl) ?_
        have h83 : 1 ≤ x1.toInt ∧ x1.toInt ≤ 400 := ⟨by omega, by omega⟩
        refine lv_icmp_ge (tgt := 67) hx hb dX7_cycles_54 (by decide) (fun c84 => ?_) (fun c84 => ?_)
        · have c84 := Int32.le_iff_toInt_le.mp c84
          refine lv_aload_n hx hb dX7_cycles_67 rfl (lv_at hl 0 rfl) ?_
          refine th_get (D := (dC, dI)) (ci := 7) (v := .ref (A 20)) (C := RX7) (T := TX7) (N := 34) hx hb hts inX7 hown hK hP (hLK _ ha0 (by decide)) oY72 rfl 20 (by decide) (hts _ T_251) (fun _ h9 => h9) rfl dX7_cycles_68 ?_
          refine lv_iconst (v := 1) hx hb dX7_cycles_71 (by decide) ?_
          refine th_iald hx hb hK hP (hLK _ (y_k20 hA) (by decide)) 0 o76 rfl (ax_in (by decide)) dX7_cycles_72 ?_
          refine lv_topi (fun v85 ev85 => ?_)
          refine lv_iload_n hx hb dX7_cycles_73 rfl (lv_at hl 2 rfl) ?_
          refine lv_isub hx hb dX7_cycles_74 ?_
          refine lv_topi (fun v86 ev86 => ?_)
          exact W.iret (v := v86) hx hb hr (fun t ht hW => ⟨⟨v86, F68, rfl, ⟨trivial, trivial, hI, hfr, fun k hk => (y_fiZ oY72 (s_sub (by decide) hk)).trans ((hz0 k hk).trans (y_fiZ oY0 (s_sub (by decide) hk)).symm), (by rw [y_fiZ oY72 (k := 15) (by decide), ← ev10, y_atE o69, y_atE o76, y_atE o79, y_fiZ oY72 (k := 31) (by decide), ← ev81, y_fiZ oY72 (k := 32) (by decide), ← ev82]; exact (Or.inr ⟨by omega, hPG, h66, h67⟩))⟩, by rw [ht]; exact hP, va_K.moved hW.alike hK⟩, hS.F ht⟩) hS.2.2 dX7_cycles_75
        · have c84 := mt Int32.le_iff_toInt_le.mpr c84
          refine lv_aload_n hx hb dX7_cycles_57 rfl (lv_at hl 0 rfl) ?_
          refine va_callv (va_runV (As := []) (rest := []) ⟨hx, hb, hml, hown, hts⟩ (y_X7_aCycle l dC dI H.size hLK A hA F68 a0 ha0 hI (by rw [y_atE o69]; exact hPG) (by rw [y_atE o69, y_atE o76]; exact h66)) (cwV 0 hts (ax_gV T_1070 T_1072 T_1073 T_265 T_1071) rfl rfl rfl (by decide +kernel) ⟨Nat.le_of_ble_eq_true rfl, Nat.le_of_ble_eq_true rfl⟩) ⟨fun a U g mk q => ⟨q.1, s_pc (U := U) rfl rfl q.2⟩, s_recv hK hP (hLK _ ha0 (by decide)) (ci := 7) rfl oY72, fun U hU hW => ⟨rfl, s_pw hU hW hP hK hD hN⟩⟩ rfl rfl hl.1 rfl (lv_room (Nat.le_of_ble_eq_true rfl)) dX7_cycles_58 ⟨Nat.zero_le _, Nat.zero_le _⟩) hS (fun q _ h => h) (fun q h => h) (fun F88 t H1 locs ht hvm hw hB hz1 hk1 hS => ?_)
          obtain ⟨hP, hK1⟩ := hB
          rw [ht] at hP
          generalize H1 = H at hP hS ⊢
          clear hz1 hk1 hvm hK1
          obtain ⟨h89, h91, hI, hfr1, hzf, h90⟩ := hw
          have o92 : F88 (A 13) = .inl (cs 0, 400, .inl f1) := (hfr1 _ (by rw [(y_k13 hA)]; decide)).trans o69
          have o93 : F88 (A 30) = .inl (cs 0, 18360, .inl f78) := (hfr1 _ (by rw [(y_k30 hA)]; decide)).trans o79
          have oY94 : F88 a0 = .inr (7, y_fl A z70 q71) := (hfr1 _ (by rw [ha0]; decide)).trans oY72
          have hfr : ∀ b, K b ∉ [9, 59, 70, 71, 72, 80] → F88 b = F b := fun b hb9 => (hfr1 b (fun q => hb9 (s_sub (by decide) q))).trans (hfr b hb9)
          obtain ⟨f95, o96, b97⟩ := y_op20 hI
          have h90 : (y_NG f1 f95 ∧ y_c f95 3 = y_c f75 3 ∧ y_c f95 4 = y_c f75 4) := by have q9 := h90; rw [y_atE o69, y_atE o96, y_atE o76] at q9; exact q9
          obtain ⟨v98, ev98⟩ : ∃ y : Int32, w63 + 1 = y := ⟨_, rfl⟩
          have qv98 : v98.toInt = w63.toInt + 1 := by rw [← ev98]; exact th_add rfl (by decide) ⟨by omega, by omega⟩
          refine lv_iinc (v := v98) (lv' := [(3, .int v98), (0, .ref a0), (1, .int x1), (2, .int v62)]) hx hb dX7_cycles_61 hl (k := 3) rfl ev98 (by decide) rfl (fun ls hl => ?_)
          refine lv_goto (tgt := 52) hx hb dX7_cycles_64 (by decide) ?_
          exact ih52 _ _ _ _ (by omega) ⟨F88, _, v98, rfl, lv_sub hl [1, 2, 3, 0] rfl, hP, hS, hI, hfr, (fun k hk => (y_fiZ oY94 (s_sub (by decide) hk)).trans (hz0 k hk)), ⟨by omega, by omega⟩, (by rw [y_atE o96]; exact h90.1), (by rw [y_atE o93, y_fiZ oY94 (k := 31) (by decide), ← ev81, y_fiZ oY94 (k := 32) (by decide), ← ev82]; exact h67), rfl⟩
      · have c44 := mt (ax_le (n := 9999) (by decide)).mpr c44
        refine lv_aload_n hx hb dX7_cycles_33 rfl (lv_at hl 0 rfl) ?_
        refine lv_iconst (v := 2) hx hb dX7_cycles_34 (by decide) ?_
        refine va_calli (va_runV (As := [.int 2]) (rest := []) ⟨hx, hb, hml, hown, hts⟩ (y_X7_refuses l dC dI H.size hLK A hA F a0 2 ha0 (by decide) hI) (cwV 1 hts (ax_gV T_310 T_311 T_312 T_265 T_33) rfl rfl rfl (by decide +kernel) ⟨Nat.le_of_ble_eq_true rfl, Nat.le_of_ble_eq_true rfl⟩) ⟨fun a U g mk q => ⟨q.1, s_pc (U := U) rfl rfl q.2⟩, s_recv hK hP (hLK _ ha0 (by decide)) (ci := 7) rfl oY0, fun U hU hW => ⟨rfl, s_pw hU hW hP hK hD hN⟩⟩ rfl rfl hl.1 rfl (lv_room (Nat.le_of_ble_eq_true rfl)) dX7_cycles_35 ⟨Nat.zero_le _, Nat.zero_le _⟩) hS (fun q _ h => h) (fun q h => h) (fun r100 F101 t H1 locs ht hvm hw hB hz1 hk1 hS => ?_)
        obtain ⟨hP, hK1⟩ := hB
        rw [ht] at hP
        generalize H1 = H at hP hS ⊢
        clear hz1 hk1 hvm hK1
        obtain ⟨h102, h104, hI, hfr1, hzf, h103⟩ := hw
        have o105 : F101 (A 13) = .inl (cs 0, 400, .inl f1) := (hfr1 _ (by rw [(y_k13 hA)]; decide)).trans o2
        have o106 : F101 (A 20) = .inl (cs 0, 918, .inl f4) := (hfr1 _ (by rw [(y_k20 hA)]; decide)).trans o5
        have o107 : F101 (A 30) = .inl (cs 0, 18360, .inl f7) := (hfr1 _ (by rw [(y_k30 hA)]; decide)).trans o8
        have oY108 : F101 a0 = .inr (7, y_fl A z0 q0) := (hfr1 _ (by rw [ha0]; decide)).trans oY0
        have hfr : ∀ b, K b ∉ [9, 59, 70, 71, 72, 80] → F101 b = F b := fun b hb9 => (hfr1 b (fun q => hb9 (s_sub (by decide) q))).trans (hfr b hb9)
        exact W.iret (v := r100) hx hb hr (fun t ht hW => ⟨⟨r100, F101, rfl, ⟨trivial, trivial, hI, hfr, fun k hk => (y_fiZ oY108 (s_sub (by decide) hk)).trans ((hz0 k hk).trans (y_fiZ oY0 (s_sub (by decide) hk)).symm), (by rw [y_fiZ oY108 (k := 15) (by decide), ← ev10, y_atE o105, y_atE o106, y_atE o107, y_fiZ oY108 (k := 31) (by decide), ← ev11, y_fiZ oY108 (k := 32) (by decide), ← ev12]; exact hT)⟩, by rw [ht]; exact hP, va_K.moved hW.alike hK⟩, hS.F ht⟩) hS.2.2 dX7_cycles_38

set_option maxHeartbeats 4000000 in
set_option maxRecDepth 100000 in
theorem yt_X7_poke (l : Launch) (dC : Nat → ClassId) (dI : Nat → Nat → Nat) (sz : Nat) {L : List Nat} {K : Nat → Nat} {cs : Nat → ClassId} (hLK : ∀ a {k : Nat}, K a = k → k ≠ 0 → a ∈ L) (A : Nat → Nat) (hA : y_A K A) (F : Nat → va_E) (a0 : Nat) (x1 : Int32) (x2 : Int32) (x3 : Int32) (ha0 : K a0 = 9) (hx1 : 0 ≤ x1.toInt ∧ x1.toInt ≤ 1) (hI : y_I K cs A F) (hT : y_T (y_fi F a0 15) (y_at F (A 13)) (y_at F (A 20)) (y_at F (A 30)) (y_fi F a0 31) (y_fi F a0 32)) : Met l yX7_poke (Cond.code yX7_poke cX7_poke 6 (some .int) :: T0) ({ frames := 2, cells := 0, slots := 0, locals := 47 }) (va_Pc [.ref a0, .int x1, .int x2, .int x3] (s_W dC dI sz L F [(cs 0, .int), (cs 1, .byte), (cs 2, .long), (cs 3, .object RX5), (cs 4, .object RX4), (cs 5, .array .int), (cs 6, .char), (cs 7, .boolean)])) (va_Qi (fun (r : Int32) (G : Nat → va_E) => True ∧ True ∧ y_I K cs A G ∧ (∀ b, K b ∉ [9, 59, 70, 80] → G b = F b) ∧ (∀ k, k ∈ ([1, 2, 3, 4, 5, 6, 7, 8, 11, 15, 16, 19, 25, 26, 27] : List Nat) → y_fi G a0 k = y_fi F a0 k) ∧ (y_T (y_fi G a0 15) (y_at G (A 13)) (y_at G (A 20)) (y_at G (A 30)) (y_fi G a0 31) (y_fi G a0 32))) (fun (G : Nat → va_E) (t : State) => va_P (dC, dI) vwCl (va_pl L G) t.heap ∧ va_K (dC, dI) vwCl [(cs 0, .int), (cs 1, .byte), (cs 2, .long), (cs 3, .object RX5), (cs 4, .object RX4), (cs 5, .array .int), (cs 6, .char), (cs 7, .boolean)] t) (fun q => q ∈ L)) 0 0 (fun q => q ∈ L) := by
  refine Met.ofW (cc := cX7_poke) (maxL := 6) (ret := (some .int)) (by decide) rfl ?_
  intro p e s m args below meth c s₁ B hml hv
  obtain ⟨rfl, hsz, hP, hK, hD, hN⟩ := hv
  have hx := B.exec
  have hb := B.bytes
  have hr := B.returns
  have hts : ∀ w ∈ T0, w.before _ s = true := fun w h => atoms_spec (ws := Cond.code yX7_poke cX7_poke 6 (some .int) :: T0) B.pre w (List.mem_cons_of_mem _ h)
  have hown : s.vm.findClass RX7 = some m.cls := findClass_of_methodNamed B.named
  have hlocks := B.notSynchronized
  have hS : va_S (fun q => q ∈ L) s.heap s.heap [] := va_S.rf
  have hfr : ∀ b, K b ∉ [9, 59, 70, 80] → F b = F b := fun _ _ => rfl
  have hl := lv_entry ([.ref a0, .int x1, .int x2, .int x3]) (n := 6) (Nat.le_of_ble_eq_true rfl)
  rw [lg_entry_eq]
  generalize (lg_sl ([.ref a0, .int x1, .int x2, .int x3]) ++ List.replicate (6 - (lg_sl ([.ref a0, .int x1, .int x2, .int x3])).length) Slot.unset).toArray = ls at hl ⊢
  have hl : lv_has ls 6 [(0, .ref a0), (1, .int x1), (2, .int x2), (3, .int x3)] := hl
  refine s_gen hP hS (fun H locs hP hS => ?_)
  obtain ⟨z0, q0, oY0, bz0, bq0⟩ := y_opY hI ha0
  have hz0 : ∀ k, k ∈ ([1, 2, 3, 4, 5, 6, 7, 8, 11, 15, 16, 19, 25, 26, 27] : List Nat) → z0 k = z0 k := fun _ _ => rfl
  obtain ⟨f1, o2, b3⟩ := y_op13 hI
  obtain ⟨f4, o5, b6⟩ := y_op20 hI
  obtain ⟨f7, o8, b9⟩ := y_op30 hI
  obtain ⟨v10, ev10⟩ : ∃ y : Int32, y = z0 15 := ⟨_, rfl⟩
  have qv10 : 0 ≤ v10.toInt ∧ v10.toInt ≤ 1 := by rw [ev10]; exact y_bY15 bz0
  have eF_15 := ev10
  obtain ⟨v11, ev11⟩ : ∃ y : Int32, y = z0 31 := ⟨_, rfl⟩
  have qv11 : 0 ≤ v11.toInt ∧ v11.toInt ≤ 20 := by rw [ev11]; exact y_bY31 bz0
  have eF_31 := ev11
  obtain ⟨v12, ev12⟩ : ∃ y : Int32, y = z0 32 := ⟨_, rfl⟩
  have qv12 : 0 ≤ v12.toInt ∧ v12.toInt ≤ 19 := by rw [ev12]; exact y_bY32 bz0
  have eF_32 := ev12
  have hT : y_T v10 f1 f4 f7 v11 v12 := by have q9 := hT; rw [y_fiZ oY0 (k := 15) (by decide), ← ev10, y_atE o2, y_atE o5, y_atE o8, y_fiZ oY0 (k := 31) (by decide), ← ev11, y_fiZ oY0 (k := 32) (by decide), ← ev12] at q9; exact q9
  have e0_v10 := ev10
  have e0_v11 := ev11
  have e0_v12 := ev12
  refine lv_aload_n hx hb dX7_poke_0 rfl (lv_at hl 0 rfl) ?_
  refine lv_iload_n hx hb dX7_poke_1 rfl (lv_at hl 1 rfl) ?_
  refine lv_iload_n hx hb dX7_poke_2 rfl (lv_at hl 2 rfl) ?_
  have rg13 : 0 ≤ x1.toInt ∧ x1.toInt ≤ 1 := ⟨by omega, by omega⟩
  have ep14_15 := ev10
  refine va_calli (va_runV (As := [.int x1, .int x2]) (rest := []) ⟨hx, hb, hml, hown, hts⟩ (y_X7_wordOf l dC dI H.size hLK A hA F a0 x1 x2 ha0 rg13 hI (by rw [y_fiZ oY0 (k := 15) (by decide), ← ev10, y_atE o2, y_atE o5, y_atE o8, y_fiZ oY0 (k := 31) (by decide), ← ev11, y_fiZ oY0 (k := 32) (by decide), ← ev12]; exact hT)) (cwV 2 hts (ax_gV T_320 T_321 T_322 T_265 T_36) rfl rfl rfl (by decide +kernel) ⟨Nat.le_of_ble_eq_true rfl, Nat.le_of_ble_eq_true rfl⟩) ⟨fun a U g mk q => ⟨q.1, s_pc (U := U) rfl rfl q.2⟩, s_recv hK hP (hLK _ ha0 (by decide)) (ci := 7) rfl oY0, fun U hU hW => ⟨rfl, s_pw hU hW hP hK hD hN⟩⟩ rfl rfl hl.1 rfl (lv_room (Nat.le_of_ble_eq_true rfl)) dX7_poke_3 ⟨Nat.zero_le _, Nat.zero_le _⟩) hS (fun q _ h => h) (fun q h => h) (fun r15 F16 t H1 locs ht hvm hw hB hz1 hk1 hS => ?_)
  obtain ⟨hP, hK1⟩ := hB
  rw [ht] at hP
  generalize H1 = H at hP hS ⊢
  clear hz1 hk1 hvm hK1
  obtain ⟨h17, h19, hI, hfr1, hzf, h18⟩ := hw
  have o20 : F16 (A 13) = .inl (cs 0, 400, .inl f1) := (hfr1 _ (by rw [(y_k13 hA)]; decide)).trans o2
  have o21 : F16 (A 20) = .inl (cs 0, 918, .inl f4) := (hfr1 _ (by rw [(y_k20 hA)]; decide)).trans o5
  have o22 : F16 (A 30) = .inl (cs 0, 18360, .inl f7) := (hfr1 _ (by rw [(y_k30 hA)]; decide)).trans o8
  have oY23 : F16 a0 = .inr (7, y_fl A z0 q0) := (hfr1 _ (by rw [ha0]; decide)).trans oY0
  have hfr : ∀ b, K b ∉ [9, 59, 70, 80] → F16 b = F b := fun b hb9 => (hfr1 b (fun q => hb9 (s_sub (by decide) q))).trans (hfr b hb9)
  have h18 : ((r15.toInt = -1) ∨ (v10.toInt = 1 ∧ 0 ≤ r15.toInt ∧ r15.toInt ≤ 95)) := by have q9 := h18; rw [y_fiZ oY0 (k := 15) (by decide), ← ep14_15] at q9; exact q9
  refine lv_istore (lv' := [(4, .int r15), (0, .ref a0), (1, .int x1), (2, .int x2), (3, .int x3)]) hx hb dX7_poke_6 hl (by decide) rfl (fun ls hl => ?_)
  refine lv_iload hx hb dX7_poke_8 (lv_at hl 0 rfl) ?_
  refine lv_iconst (v := (-1)) hx hb dX7_poke_10 (by decide) ?_
  refine lv_icmp_eq (tgt := 28) hx hb dX7_poke_11 (by decide) (fun c24 => ?_) (fun c24 => ?_)
  · have c24 := (ax_eq (n := (-1)) (by decide)).mp c24
    refine lv_aload_n hx hb dX7_poke_28 rfl (lv_at hl 1 rfl) ?_
    refine lv_iconst (v := 3) hx hb dX7_poke_29 (by decide) ?_
    refine va_calli (va_runV (As := [.int 3]) (rest := []) ⟨hx, hb, hml, hown, hts⟩ (y_X7_refuses l dC dI H.size hLK A hA F16 a0 3 ha0 (by decide) hI) (cwV 1 hts (ax_gV T_310 T_311 T_312 T_265 T_33) rfl rfl rfl (by decide +kernel) ⟨Nat.le_of_ble_eq_true rfl, Nat.le_of_ble_eq_true rfl⟩) ⟨fun a U g mk q => ⟨q.1, s_pc (U := U) rfl rfl q.2⟩, s_recv hK hP (hLK _ ha0 (by decide)) (ci := 7) rfl oY23, fun U hU hW => ⟨rfl, s_pw hU hW hP hK hD hN⟩⟩ rfl rfl hl.1 rfl (lv_room (Nat.le_of_ble_eq_true rfl)) dX7_poke_30 ⟨Nat.zero_le _, Nat.zero_le _⟩) hS (fun q _ h => h) (fun q h => h) (fun r26 F27 t H1 locs ht hvm hw hB hz1 hk1 hS => ?_)
    obtain ⟨hP, hK1⟩ := hB
    rw [ht] at hP
    generalize H1 = H at hP hS ⊢
    clear hz1 hk1 hvm hK1
    obtain ⟨h28, h30, hI, hfr1, hzf, h29⟩ := hw
    have o31 : F27 (A 13) = .inl (cs 0, 400, .inl f1) := (hfr1 _ (by rw [(y_k13 hA)]; decide)).trans o20
    have o32 : F27 (A 20) = .inl (cs 0, 918, .inl f4) := (hfr1 _ (by rw [(y_k20 hA)]; decide)).trans o21
    have o33 : F27 (A 30) = .inl (cs 0, 18360, .inl f7) := (hfr1 _ (by rw [(y_k30 hA)]; decide)).trans o22
    have oY34 : F27 a0 = .inr (7, y_fl A z0 q0) := (hfr1 _ (by rw [ha0]; decide)).trans oY23
    have hfr : ∀ b, K b ∉ [9, 59, 70, 80] → F27 b = F b := fun b hb9 => (hfr1 b (fun q => hb9 (s_sub (by decide) q))).trans (hfr b hb9)
    refine lv_pop hx hb dX7_poke_33 rfl ?_
    refine lv_ldc (v := (-1000000)) hx hb hown (hts _ T_316) dX7_poke_34 ?_
    have h35 : ((-1000000) : Int32).toInt = (-1000000) := by decide
    exact W.iret (v := (-1000000)) hx hb hr (fun t ht hW => ⟨⟨(-1000000), F27, rfl, ⟨trivial, trivial, hI, hfr, fun k hk => (y_fiZ oY34 (s_sub (by decide) hk)).trans ((hz0 k hk).trans (y_fiZ oY0 (s_sub (by decide) hk)).symm), (by rw [y_fiZ oY34 (k := 15) (by decide), ← ev10, y_atE o31, y_atE o32, y_atE o33, y_fiZ oY34 (k := 31) (by decide), ← ev11, y_fiZ oY34 (k := 32) (by decide), ← ev12]; exact hT)⟩, by rw [ht]; exact hP, va_K.moved hW.alike hK⟩, hS.F ht⟩) hS.2.2 dX7_poke_36
  · have c24 := mt (ax_eq (n := (-1)) (by decide)).mpr c24
    have hwd := h18.resolve_left c24
    obtain ⟨htd, hPG, hNG, hUG⟩ := y_TT hT (by omega)
    have hL := y_P0L hPG.1
    have hW := y_P0W hPG.1
    have hnn := And.intro hNG.1 (And.intro hNG.2.1 (And.intro hNG.2.2.1 hNG.2.2.2.1))
    refine lv_iload_n hx hb dX7_poke_14 rfl (lv_at hl 4 rfl) ?_
    refine lv_i2l hx hb dX7_poke_15 rfl ?_
    refine lv_topl (fun v36 ev36 => ?_)
    have qv36 : v36.toInt = x3.toInt := y_i2l ev36
    refine lv_ldc2 hx hb hown (hts _ T_1039) dX7_poke_16 ?_
    refine lv_ldc2 hx hb hown (hts _ T_1038) dX7_poke_19 ?_
    refine va_calli (va_runS (As := [.long v36, .long (-9999), .long 9999]) (rest := []) ⟨hx, hb, hml, hown, hts⟩ (y_X7_isIn l dC dI H.size F16 v36 (-9999) 9999) (cwS 3 hts (ax_gS T_267 T_268 T_265 T_21) rfl rfl rfl (by decide +kernel) ⟨Nat.le_of_ble_eq_true rfl, Nat.le_of_ble_eq_true rfl⟩) ⟨fun a U g mk q => ⟨q.1, s_pc (U := U) rfl rfl q.2⟩, fun U hU hW => ⟨rfl, s_pw hU hW hP hK hD hN⟩⟩ rfl rfl hl.1 rfl (lv_room (Nat.le_of_ble_eq_true rfl)) dX7_poke_22 ⟨Nat.zero_le _, Nat.zero_le _⟩) hS (fun q _ h => h) (fun q h => h) (fun r38 F39 t H1 locs ht hvm hw hB hz1 hk1 hS => ?_)
    obtain ⟨hP, hK1⟩ := hB
    rw [ht] at hP
    generalize H1 = H at hP hS ⊢
    clear hz1 hk1 hvm hK1
    obtain ⟨h40, h42, hG9, h41⟩ := hw
    rw [hG9] at hP
    have h41 : ((r38.toInt = 0 ∧ (v36.toInt < (-9999) ∨ 9999 < v36.toInt)) ∨ (r38.toInt = 1 ∧ (-9999) ≤ v36.toInt ∧ v36.toInt ≤ 9999)) := by have q9 := h41; exact q9
    refine lv_if_ne (tgt := 37) hx hb dX7_poke_25 (by decide) (fun c43 => ?_) (fun c43 => ?_)
    · have c43 := mt (ax_eq (n := 0) (by decide)).mpr c43
      refine lv_aload_n hx hb dX7_poke_37 rfl (lv_at hl 1 rfl) ?_
      refine va_callv (va_runV (As := []) (rest := []) ⟨hx, hb, hml, hown, hts⟩ (y_X7_keeps l dC dI H.size hLK A hA F16 a0 ha0 hI (by rw [y_atE o20]; exact hPG) (by rw [y_atE o20, y_atE o21]; exact hNG) (by rw [y_atE o20, y_atE o22, y_fiZ oY23 (k := 31) (by decide), ← ev11, y_fiZ oY23 (k := 32) (by decide), ← ev12]; exact hUG)) (cwV 0 hts (ax_gV T_1013 T_1015 T_1016 T_265 T_1014) rfl rfl rfl (by decide +kernel) ⟨Nat.le_of_ble_eq_true rfl, Nat.le_of_ble_eq_true rfl⟩) ⟨fun a U g mk q => ⟨q.1, s_pc (U := U) rfl rfl q.2⟩, s_recv hK hP (hLK _ ha0 (by decide)) (ci := 7) rfl oY23, fun U hU hW => ⟨rfl, s_pw hU hW hP hK hD hN⟩⟩ rfl rfl hl.1 rfl (lv_room (Nat.le_of_ble_eq_true rfl)) dX7_poke_38 ⟨Nat.zero_le _, Nat.zero_le _⟩) hS (fun q _ h => h) (fun q h => h) (fun F45 t H1 locs ht hvm hw hB hz1 hk1 hS => ?_)
      obtain ⟨hP, hK1⟩ := hB
      rw [ht] at hP
      generalize H1 = H at hP hS ⊢
      clear hz1 hk1 hvm hK1
      obtain ⟨h46, h48, hI, hfr1, hzf, h47⟩ := hw
      have o49 : F45 (A 13) = .inl (cs 0, 400, .inl f1) := (hfr1 _ (by rw [(y_k13 hA)]; decide)).trans o20
      have o50 : F45 (A 20) = .inl (cs 0, 918, .inl f4) := (hfr1 _ (by rw [(y_k20 hA)]; decide)).trans o21
      obtain ⟨z51, q52, oY53, bz54, bq55⟩ := y_opY hI ha0
      have hzf : ∀ k, k ∈ ([1, 2, 3, 4, 5, 6, 7, 8, 11, 15, 16, 19, 25, 26, 27] : List Nat) → z51 k = z0 k := fun k hk => by have q9 := hzf k hk; rw [y_fiZ oY53 (s_sub (by decide) hk), y_fiZ oY23 (s_sub (by decide) hk)] at q9; exact q9
      have hz0 : ∀ k, k ∈ ([1, 2, 3, 4, 5, 6, 7, 8, 11, 15, 16, 19, 25, 26, 27] : List Nat) → z51 k = z0 k := fun k hk => (hzf k (s_sub (by decide) hk)).trans (hz0 k hk)
      have ev10 : v10 = z51 15 := ev10.trans (hzf 15 (by decide)).symm
      have hfr : ∀ b, K b ∉ [9, 59, 70, 80] → F45 b = F b := fun b hb9 => (hfr1 b (fun q => hb9 (s_sub (by decide) q))).trans (hfr b hb9)
      obtain ⟨f56, o57, b58⟩ := y_op30 hI
      obtain ⟨v59, ev59⟩ : ∃ y : Int32, y = z51 31 := ⟨_, rfl⟩
      have qv59 : 0 ≤ v59.toInt ∧ v59.toInt ≤ 20 := by rw [ev59]; exact y_bY31 bz54
      obtain ⟨v60, ev60⟩ : ∃ y : Int32, y = z51 32 := ⟨_, rfl⟩
      have qv60 : 0 ≤ v60.toInt ∧ v60.toInt ≤ 19 := by rw [ev60]; exact y_bY32 bz54
      have h47 : (y_UG f1 f56 v59.toInt v60.toInt) := by have q9 := h47; rw [y_atE o20, y_atE o57, y_fiZ oY53 (k := 31) (by decide), ← ev59, y_fiZ oY53 (k := 32) (by decide), ← ev60] at q9; exact q9
      refine lv_aload_n hx hb dX7_poke_41 rfl (lv_at hl 1 rfl) ?_
      refine th_get (D := (dC, dI)) (ci := 7) (v := .ref (A 20)) (C := RX7) (T := TX7) (N := 34) hx hb hts inX7 hown hK hP (hLK _ ha0 (by decide)) oY53 rfl 20 (by decide) (hts _ T_251) (fun _ h9 => h9) rfl dX7_poke_42 ?_
      refine lv_bipush (v := 8) hx hb dX7_poke_45 (by decide) ?_
      refine lv_iload hx hb dX7_poke_47 (lv_at hl 0 rfl) ?_
      refine lv_iadd hx hb dX7_poke_49 ?_
      refine lv_topi (fun v61 ev61 => ?_)
      refine th_iald hx hb hK hP (hLK _ (y_k20 hA) (by decide)) 0 o50 rfl (th_in ⟨by omega, by omega⟩) dX7_poke_50 ?_
      refine lv_topi (fun v62 ev62 => ?_)
      refine lv_istore (lv' := [(5, .int v62), (4, .int r15), (0, .ref a0), (1, .int x1), (2, .int x2), (3, .int x3)]) hx hb dX7_poke_51 hl (by decide) rfl (fun ls hl => ?_)
      refine lv_aload_n hx hb dX7_poke_53 rfl (lv_at hl 2 rfl) ?_
      refine th_get (D := (dC, dI)) (ci := 7) (v := .ref (A 20)) (C := RX7) (T := TX7) (N := 34) hx hb hts inX7 hown hK hP (hLK _ ha0 (by decide)) oY53 rfl 20 (by decide) (hts _ T_251) (fun _ h9 => h9) rfl dX7_poke_54 ?_
      refine lv_bipush (v := 8) hx hb dX7_poke_57 (by decide) ?_
      refine lv_iload hx hb dX7_poke_59 (lv_at hl 1 rfl) ?_
      refine lv_iadd hx hb dX7_poke_61 ?_
      refine lv_topi (fun v63 ev63 => ?_)
      refine lv_iload_n hx hb dX7_poke_62 rfl (lv_at hl 5 rfl) ?_
      refine th_iast hx hb hK hP hD hS (hLK _ (y_k20 hA) (by decide)) 0 o50 rfl (th_in ⟨by omega, by omega⟩) dX7_poke_63 (fun H locs hP hS => ?_)
      obtain ⟨f64, u65⟩ : ∃ g : Nat → Int32, g = upd f4 (v63 : Int32).toNatClampNeg x3 := ⟨_, rfl⟩
      rw [← u65] at hP
      have b66 : y_bd 20 f64 := trivial
      have hP : va_P (dC, dI) vwCl (va_pl L (va_up F45 (A 20) (.inl (cs 0, 918, .inl f64)))) H := hP
      obtain ⟨F67, hF68⟩ : ∃ G : Nat → va_E, G = va_up F45 (A 20) (.inl (cs 0, 918, .inl f64)) := ⟨_, rfl⟩
      rw [← hF68] at hP
      have hI : y_I K cs A F67 := by rw [hF68]; exact y_clA (i := 20) hA hI (by decide) b66
      have hfr : ∀ b, K b ∉ [9, 59, 70, 80] → F67 b = F b := by rw [hF68]; exact s_fr hfr (y_k20 hA) (by decide)
      have o69 : F67 (A 13) = .inl (cs 0, 400, .inl f1) := by rw [hF68]; exact th_ne (th_kd (y_k13 hA) (y_k20 hA) (by decide)) o49
      have o70 : F67 (A 30) = .inl (cs 0, 18360, .inl f56) := by rw [hF68]; exact th_ne (th_kd (y_k30 hA) (y_k20 hA) (by decide)) o57
      have oY71 : F67 a0 = .inr (7, y_fl A z51 q52) := by rw [hF68]; exact th_ne (th_kd ha0 (y_k20 hA) (by decide)) oY53
      have o72 : F67 (A 20) = .inl (cs 0, 918, .inl f64) := by rw [hF68]; exact th_up
      have u73 : ∀ j : Int, 0 ≤ j → y_c f64 j = if j = v63.toInt then x3 else y_c f4 j := by rw [u65]; exact y_cu rfl (by omega)
      have k74 : y_NG f1 f64 := y_NGe (y_E_u u73 (by omega)) hNG (by rw [u73 6 (by omega), if_neg (by omega)]; exact hNG.2.2.1) (by rw [u73 7 (by omega), if_neg (by omega)]; exact hNG.2.2.2.1) (by omega)
      refine lv_iload hx hb dX7_poke_64 (lv_at hl 0 rfl) ?_
      exact W.iret (v := v62) hx hb hr (fun t ht hW => ⟨⟨v62, F67, rfl, ⟨trivial, trivial, hI, hfr, fun k hk => (y_fiZ oY71 (s_sub (by decide) hk)).trans ((hz0 k hk).trans (y_fiZ oY0 (s_sub (by decide) hk)).symm), (by rw [y_fiZ oY71 (k := 15) (by decide), ← ev10, y_atE o69, y_atE o72, y_atE o70, y_fiZ oY71 (k := 31) (by decide), ← ev59, y_fiZ oY71 (k := 32) (by decide), ← ev60]; exact (Or.inr ⟨by omega, hPG, k74, h47⟩))⟩, by rw [ht]; exact hP, va_K.moved hW.alike hK⟩, hS.F ht⟩) hS.2.2 dX7_poke_66
    · have c43 := (ax_eq (n := 0) (by decide)).mp c43
      refine lv_aload_n hx hb dX7_poke_28 rfl (lv_at hl 1 rfl) ?_
      refine lv_iconst (v := 3) hx hb dX7_poke_29 (by decide) ?_
      refine va_calli (va_runV (As := [.int 3]) (rest := []) ⟨hx, hb, hml, hown, hts⟩ (y_X7_refuses l dC dI H.size hLK A hA F16 a0 3 ha0 (by decide) hI) (cwV 1 hts (ax_gV T_310 T_311 T_312 T_265 T_33) rfl rfl rfl (by decide +kernel) ⟨Nat.le_of_ble_eq_true rfl, Nat.le_of_ble_eq_true rfl⟩) ⟨fun a U g mk q => ⟨q.1, s_pc (U := U) rfl rfl q.2⟩, s_recv hK hP (hLK _ ha0 (by decide)) (ci := 7) rfl oY23, fun U hU hW => ⟨rfl, s_pw hU hW hP hK hD hN⟩⟩ rfl rfl hl.1 rfl (lv_room (Nat.le_of_ble_eq_true rfl)) dX7_poke_30 ⟨Nat.zero_le _, Nat.zero_le _⟩) hS (fun q _ h => h) (fun q h => h) (fun r76 F77 t H1 locs ht hvm hw hB hz1 hk1 hS => ?_)
      obtain ⟨hP, hK1⟩ := hB
      rw [ht] at hP
      generalize H1 = H at hP hS ⊢
      clear hz1 hk1 hvm hK1
      obtain ⟨h78, h80, hI, hfr1, hzf, h79⟩ := hw
      have o81 : F77 (A 13) = .inl (cs 0, 400, .inl f1) := (hfr1 _ (by rw [(y_k13 hA)]; decide)).trans o20
      have o82 : F77 (A 20) = .inl (cs 0, 918, .inl f4) := (hfr1 _ (by rw [(y_k20 hA)]; decide)).trans o21
      have o83 : F77 (A 30) = .inl (cs 0, 18360, .inl f7) := (hfr1 _ (by rw [(y_k30 hA)]; decide)).trans o22
      have oY84 : F77 a0 = .inr (7, y_fl A z0 q0) := (hfr1 _ (by rw [ha0]; decide)).trans oY23
      have hfr : ∀ b, K b ∉ [9, 59, 70, 80] → F77 b = F b := fun b hb9 => (hfr1 b (fun q => hb9 (s_sub (by decide) q))).trans (hfr b hb9)
      refine lv_pop hx hb dX7_poke_33 rfl ?_
      refine lv_ldc (v := (-1000000)) hx hb hown (hts _ T_316) dX7_poke_34 ?_
      have h85 : ((-1000000) : Int32).toInt = (-1000000) := by decide
      exact W.iret (v := (-1000000)) hx hb hr (fun t ht hW => ⟨⟨(-1000000), F77, rfl, ⟨trivial, trivial, hI, hfr, fun k hk => (y_fiZ oY84 (s_sub (by decide) hk)).trans ((hz0 k hk).trans (y_fiZ oY0 (s_sub (by decide) hk)).symm), (by rw [y_fiZ oY84 (k := 15) (by decide), ← ev10, y_atE o81, y_atE o82, y_atE o83, y_fiZ oY84 (k := 31) (by decide), ← ev11, y_fiZ oY84 (k := 32) (by decide), ← ev12]; exact hT)⟩, by rw [ht]; exact hP, va_K.moved hW.alike hK⟩, hS.F ht⟩) hS.2.2 dX7_poke_36

set_option maxHeartbeats 4000000 in
set_option maxRecDepth 100000 in
theorem yt_X7_set (l : Launch) (dC : Nat → ClassId) (dI : Nat → Nat → Nat) (sz : Nat) {L : List Nat} {K : Nat → Nat} {cs : Nat → ClassId} (hLK : ∀ a {k : Nat}, K a = k → k ≠ 0 → a ∈ L) (A : Nat → Nat) (hA : y_A K A) (F : Nat → va_E) (a0 : Nat) (x1 : Int32) (x2 : Int32) (x3 : Int32) (ha0 : K a0 = 9) (hI : y_I K cs A F) (hT : y_T (y_fi F a0 15) (y_at F (A 13)) (y_at F (A 20)) (y_at F (A 30)) (y_fi F a0 31) (y_fi F a0 32)) : Met l yX7_set (Cond.code yX7_set cX7_set 4 (some .boolean) :: T0) ({ frames := 4, cells := 0, slots := 0, locals := 92 }) (va_Pc [.ref a0, .int x1, .int x2, .int x3] (s_W dC dI sz L F [(cs 0, .int), (cs 1, .byte), (cs 2, .long), (cs 3, .object RX5), (cs 4, .object RX4), (cs 5, .array .int), (cs 6, .char), (cs 7, .boolean)])) (va_Qi (fun (r : Int32) (G : Nat → va_E) => (0 ≤ r.toInt ∧ r.toInt ≤ 1) ∧ True ∧ y_I K cs A G ∧ (∀ b, K b ∉ [9, 59, 70, 80] → G b = F b) ∧ (∀ k, k ∈ ([1, 2, 3, 4, 5, 6, 7, 8, 11, 15, 16, 19, 25, 26, 27] : List Nat) → y_fi G a0 k = y_fi F a0 k) ∧ (y_T (y_fi G a0 15) (y_at G (A 13)) (y_at G (A 20)) (y_at G (A 30)) (y_fi G a0 31) (y_fi G a0 32))) (fun (G : Nat → va_E) (t : State) => va_P (dC, dI) vwCl (va_pl L G) t.heap ∧ va_K (dC, dI) vwCl [(cs 0, .int), (cs 1, .byte), (cs 2, .long), (cs 3, .object RX5), (cs 4, .object RX4), (cs 5, .array .int), (cs 6, .char), (cs 7, .boolean)] t) (fun q => q ∈ L)) 0 0 (fun q => q ∈ L) := by
  refine Met.ofW (cc := cX7_set) (maxL := 4) (ret := (some .boolean)) (by decide) rfl ?_
  intro p e s m args below meth c s₁ B hml hv
  obtain ⟨rfl, hsz, hP, hK, hD, hN⟩ := hv
  have hx := B.exec
  have hb := B.bytes
  have hr := B.returns
  have hts : ∀ w ∈ T0, w.before _ s = true := fun w h => atoms_spec (ws := Cond.code yX7_set cX7_set 4 (some .boolean) :: T0) B.pre w (List.mem_cons_of_mem _ h)
  have hown : s.vm.findClass RX7 = some m.cls := findClass_of_methodNamed B.named
  have hlocks := B.notSynchronized
  have hS : va_S (fun q => q ∈ L) s.heap s.heap [] := va_S.rf
  have hfr : ∀ b, K b ∉ [9, 59, 70, 80] → F b = F b := fun _ _ => rfl
  have hl := lv_entry ([.ref a0, .int x1, .int x2, .int x3]) (n := 4) (Nat.le_of_ble_eq_true rfl)
  rw [lg_entry_eq]
  generalize (lg_sl ([.ref a0, .int x1, .int x2, .int x3]) ++ List.replicate (4 - (lg_sl ([.ref a0, .int x1, .int x2, .int x3])).length) Slot.unset).toArray = ls at hl ⊢
  have hl : lv_has ls 4 [(0, .ref a0), (1, .int x1), (2, .int x2), (3, .int x3)] := hl
  refine s_gen hP hS (fun H locs hP hS => ?_)
  obtain ⟨z0, q0, oY0, bz0, bq0⟩ := y_opY hI ha0
  have hz0 : ∀ k, k ∈ ([1, 2, 3, 4, 5, 6, 7, 8, 11, 15, 16, 19, 25, 26, 27] : List Nat) → z0 k = z0 k := fun _ _ => rfl
  obtain ⟨f1, o2, b3⟩ := y_op13 hI
  obtain ⟨f4, o5, b6⟩ := y_op20 hI
  obtain ⟨f7, o8, b9⟩ := y_op30 hI
  obtain ⟨v10, ev10⟩ : ∃ y : Int32, y = z0 15 := ⟨_, rfl⟩
  have qv10 : 0 ≤ v10.toInt ∧ v10.toInt ≤ 1 := by rw [ev10]; exact y_bY15 bz0
  have eF_15 := ev10
  obtain ⟨v11, ev11⟩ : ∃ y : Int32, y = z0 31 := ⟨_, rfl⟩
  have qv11 : 0 ≤ v11.toInt ∧ v11.toInt ≤ 20 := by rw [ev11]; exact y_bY31 bz0
  have eF_31 := ev11
  obtain ⟨v12, ev12⟩ : ∃ y : Int32, y = z0 32 := ⟨_, rfl⟩
  have qv12 : 0 ≤ v12.toInt ∧ v12.toInt ≤ 19 := by rw [ev12]; exact y_bY32 bz0
  have eF_32 := ev12
  have hT : y_T v10 f1 f4 f7 v11 v12 := by have q9 := hT; rw [y_fiZ oY0 (k := 15) (by decide), ← ev10, y_atE o2, y_atE o5, y_atE o8, y_fiZ oY0 (k := 31) (by decide), ← ev11, y_fiZ oY0 (k := 32) (by decide), ← ev12] at q9; exact q9
  have e0_v10 := ev10
  have e0_v11 := ev11
  have e0_v12 := ev12
  refine lv_aload_n hx hb dX7_set_0 rfl (lv_at hl 0 rfl) ?_
  refine th_get (D := (dC, dI)) (ci := 7) (v := .int (z0 15)) (C := RX7) (T := TX7) (N := 34) hx hb hts inX7 hown hK hP (hLK _ ha0 (by decide)) oY0 rfl 15 (by decide) (hts _ T_271) (fun _ h9 => h9) rfl dX7_set_1 ?_
  refine ax_eqi (y := v10) ev10.symm ?_
  refine lv_if_eq (tgt := 39) hx hb dX7_set_4 (by decide) (fun c13 => ?_) (fun c13 => ?_)
  · have c13 := (ax_eq (n := 0) (by decide)).mp c13
    refine lv_aload_n hx hb dX7_set_39 rfl (lv_at hl 0 rfl) ?_
    refine lv_iconst (v := 3) hx hb dX7_set_40 (by decide) ?_
    refine va_calli (va_runV (As := [.int 3]) (rest := []) ⟨hx, hb, hml, hown, hts⟩ (y_X7_isRefused l dC dI H.size hLK A hA F a0 3 ha0 (by decide) hI) (cwV 1 hts (ax_gV T_262 T_263 T_264 T_265 T_20) rfl rfl rfl (by decide +kernel) ⟨Nat.le_of_ble_eq_true rfl, Nat.le_of_ble_eq_true rfl⟩) ⟨fun a U g mk q => ⟨q.1, s_pc (U := U) rfl rfl q.2⟩, s_recv hK hP (hLK _ ha0 (by decide)) (ci := 7) rfl oY0, fun U hU hW => ⟨rfl, s_pw hU hW hP hK hD hN⟩⟩ rfl rfl hl.1 rfl (lv_room (Nat.le_of_ble_eq_true rfl)) dX7_set_41 ⟨Nat.zero_le _, Nat.zero_le _⟩) hS (fun q _ h => h) (fun q h => h) (fun r15 F16 t H1 locs ht hvm hw hB hz1 hk1 hS => ?_)
    obtain ⟨hP, hK1⟩ := hB
    rw [ht] at hP
    generalize H1 = H at hP hS ⊢
    clear hz1 hk1 hvm hK1
    obtain ⟨h17, h19, hI, hfr1, hzf, h18⟩ := hw
    have o20 : F16 (A 13) = .inl (cs 0, 400, .inl f1) := (hfr1 _ (by rw [(y_k13 hA)]; decide)).trans o2
    have o21 : F16 (A 20) = .inl (cs 0, 918, .inl f4) := (hfr1 _ (by rw [(y_k20 hA)]; decide)).trans o5
    have o22 : F16 (A 30) = .inl (cs 0, 18360, .inl f7) := (hfr1 _ (by rw [(y_k30 hA)]; decide)).trans o8
    have oY23 : F16 a0 = .inr (7, y_fl A z0 q0) := (hfr1 _ (by rw [ha0]; decide)).trans oY0
    have hfr : ∀ b, K b ∉ [9, 59, 70, 80] → F16 b = F b := fun b hb9 => (hfr1 b (fun q => hb9 (s_sub (by decide) q))).trans (hfr b hb9)
    exact W.zret (v := r15) (ty := .boolean) hx hb hr (th_nz ⟨by omega, by omega⟩) (fun t ht hW => ⟨⟨r15, F16, rfl, ⟨⟨by omega, by omega⟩, trivial, hI, hfr, fun k hk => (y_fiZ oY23 (s_sub (by decide) hk)).trans ((hz0 k hk).trans (y_fiZ oY0 (s_sub (by decide) hk)).symm), (by rw [y_fiZ oY23 (k := 15) (by decide), ← ev10, y_atE o20, y_atE o21, y_atE o22, y_fiZ oY23 (k := 31) (by decide), ← ev11, y_fiZ oY23 (k := 32) (by decide), ← ev12]; exact hT)⟩, by rw [ht]; exact hP, va_K.moved hW.alike hK⟩, hS.F ht⟩) hS.2.2 dX7_set_44
  · have c13 := mt (ax_eq (n := 0) (by decide)).mpr c13
    obtain ⟨htd, hPG, hNG, hUG⟩ := y_TT hT (by omega)
    have hL := y_P0L hPG.1
    have hW := y_P0W hPG.1
    have hnn := And.intro hNG.1 (And.intro hNG.2.1 (And.intro hNG.2.2.1 hNG.2.2.2.1))
    refine lv_iload_n hx hb dX7_set_7 rfl (lv_at hl 1 rfl) ?_
    refine lv_i2l hx hb dX7_set_8 rfl ?_
    refine lv_topl (fun v24 ev24 => ?_)
    have qv24 : v24.toInt = x1.toInt := y_i2l ev24
    refine lv_lconst (v := 0) hx hb dX7_set_9 (by decide) ?_
    refine lv_lconst (v := 1) hx hb dX7_set_10 (by decide) ?_
    refine va_calli (va_runS (As := [.long v24, .long 0, .long 1]) (rest := []) ⟨hx, hb, hml, hown, hts⟩ (y_X7_isIn l dC dI H.size F v24 0 1) (cwS 3 hts (ax_gS T_267 T_268 T_265 T_21) rfl rfl rfl (by decide +kernel) ⟨Nat.le_of_ble_eq_true rfl, Nat.le_of_ble_eq_true rfl⟩) ⟨fun a U g mk q => ⟨q.1, s_pc (U := U) rfl rfl q.2⟩, fun U hU hW => ⟨rfl, s_pw hU hW hP hK hD hN⟩⟩ rfl rfl hl.1 rfl (lv_room (Nat.le_of_ble_eq_true rfl)) dX7_set_11 ⟨Nat.zero_le _, Nat.zero_le _⟩) hS (fun q _ h => h) (fun q h => h) (fun r26 F27 t H1 locs ht hvm hw hB hz1 hk1 hS => ?_)
    obtain ⟨hP, hK1⟩ := hB
    rw [ht] at hP
    generalize H1 = H at hP hS ⊢
    clear hz1 hk1 hvm hK1
    obtain ⟨h28, h30, hG9, h29⟩ := hw
    rw [hG9] at hP
    have h29 : ((r26.toInt = 0 ∧ (v24.toInt < 0 ∨ 1 < v24.toInt)) ∨ (r26.toInt = 1 ∧ 0 ≤ v24.toInt ∧ v24.toInt ≤ 1)) := by have q9 := h29; exact q9
    refine lv_if_eq (tgt := 39) hx hb dX7_set_14 (by decide) (fun c31 => ?_) (fun c31 => ?_)
    · have c31 := (ax_eq (n := 0) (by decide)).mp c31
      refine lv_aload_n hx hb dX7_set_39 rfl (lv_at hl 0 rfl) ?_
      refine lv_iconst (v := 3) hx hb dX7_set_40 (by decide) ?_
      refine va_calli (va_runV (As := [.int 3]) (rest := []) ⟨hx, hb, hml, hown, hts⟩ (y_X7_isRefused l dC dI H.size hLK A hA F a0 3 ha0 (by decide) hI) (cwV 1 hts (ax_gV T_262 T_263 T_264 T_265 T_20) rfl rfl rfl (by decide +kernel) ⟨Nat.le_of_ble_eq_true rfl, Nat.le_of_ble_eq_true rfl⟩) ⟨fun a U g mk q => ⟨q.1, s_pc (U := U) rfl rfl q.2⟩, s_recv hK hP (hLK _ ha0 (by decide)) (ci := 7) rfl oY0, fun U hU hW => ⟨rfl, s_pw hU hW hP hK hD hN⟩⟩ rfl rfl hl.1 rfl (lv_room (Nat.le_of_ble_eq_true rfl)) dX7_set_41 ⟨Nat.zero_le _, Nat.zero_le _⟩) hS (fun q _ h => h) (fun q h => h) (fun r33 F34 t H1 locs ht hvm hw hB hz1 hk1 hS => ?_)
      obtain ⟨hP, hK1⟩ := hB
      rw [ht] at hP
      generalize H1 = H at hP hS ⊢
      clear hz1 hk1 hvm hK1
      obtain ⟨h35, h37, hI, hfr1, hzf, h36⟩ := hw
      have o38 : F34 (A 13) = .inl (cs 0, 400, .inl f1) := (hfr1 _ (by rw [(y_k13 hA)]; decide)).trans o2
      have o39 : F34 (A 20) = .inl (cs 0, 918, .inl f4) := (hfr1 _ (by rw [(y_k20 hA)]; decide)).trans o5
      have o40 : F34 (A 30) = .inl (cs 0, 18360, .inl f7) := (hfr1 _ (by rw [(y_k30 hA)]; decide)).trans o8
      have oY41 : F34 a0 = .inr (7, y_fl A z0 q0) := (hfr1 _ (by rw [ha0]; decide)).trans oY0
      have hfr : ∀ b, K b ∉ [9, 59, 70, 80] → F34 b = F b := fun b hb9 => (hfr1 b (fun q => hb9 (s_sub (by decide) q))).trans (hfr b hb9)
      exact W.zret (v := r33) (ty := .boolean) hx hb hr (th_nz ⟨by omega, by omega⟩) (fun t ht hW => ⟨⟨r33, F34, rfl, ⟨⟨by omega, by omega⟩, trivial, hI, hfr, fun k hk => (y_fiZ oY41 (s_sub (by decide) hk)).trans ((hz0 k hk).trans (y_fiZ oY0 (s_sub (by decide) hk)).symm), (by rw [y_fiZ oY41 (k := 15) (by decide), ← ev10, y_atE o38, y_atE o39, y_atE o40, y_fiZ oY41 (k := 31) (by decide), ← ev11, y_fiZ oY41 (k := 32) (by decide), ← ev12]; exact hT)⟩, by rw [ht]; exact hP, va_K.moved hW.alike hK⟩, hS.F ht⟩) hS.2.2 dX7_set_44
    · have c31 := mt (ax_eq (n := 0) (by decide)).mpr c31
      refine lv_iload_n hx hb dX7_set_17 rfl (lv_at hl 2 rfl) ?_
      refine lv_i2l hx hb dX7_set_18 rfl ?_
      refine lv_topl (fun v42 ev42 => ?_)
      have qv42 : v42.toInt = x2.toInt := y_i2l ev42
      refine lv_lconst (v := 0) hx hb dX7_set_19 (by decide) ?_
      refine lv_lconst (v := 1) hx hb dX7_set_20 (by decide) ?_
      refine va_calli (va_runS (As := [.long v42, .long 0, .long 1]) (rest := []) ⟨hx, hb, hml, hown, hts⟩ (y_X7_isIn l dC dI H.size F v42 0 1) (cwS 3 hts (ax_gS T_267 T_268 T_265 T_21) rfl rfl rfl (by decide +kernel) ⟨Nat.le_of_ble_eq_true rfl, Nat.le_of_ble_eq_true rfl⟩) ⟨fun a U g mk q => ⟨q.1, s_pc (U := U) rfl rfl q.2⟩, fun U hU hW => ⟨rfl, s_pw hU hW hP hK hD hN⟩⟩ rfl rfl hl.1 rfl (lv_room (Nat.le_of_ble_eq_true rfl)) dX7_set_21 ⟨Nat.zero_le _, Nat.zero_le _⟩) hS (fun q _ h => h) (fun q h => h) (fun r44 F45 t H1 locs ht hvm hw hB hz1 hk1 hS => ?_)
      obtain ⟨hP, hK1⟩ := hB
      rw [ht] at hP
      generalize H1 = H at hP hS ⊢
      clear hz1 hk1 hvm hK1
      obtain ⟨h46, h48, hG9, h47⟩ := hw
      rw [hG9] at hP
      have h47 : ((r44.toInt = 0 ∧ (v42.toInt < 0 ∨ 1 < v42.toInt)) ∨ (r44.toInt = 1 ∧ 0 ≤ v42.toInt ∧ v42.toInt ≤ 1)) := by have q9 := h47; exact q9
      refine lv_if_eq (tgt := 39) hx hb dX7_set_24 (by decide) (fun c49 => ?_) (fun c49 => ?_)
      · have c49 := (ax_eq (n := 0) (by decide)).mp c49
        refine lv_aload_n hx hb dX7_set_39 rfl (lv_at hl 0 rfl) ?_
        refine lv_iconst (v := 3) hx hb dX7_set_40 (by decide) ?_
        refine va_calli (va_runV (As := [.int 3]) (rest := []) ⟨hx, hb, hml, hown, hts⟩ (y_X7_isRefused l dC dI H.size hLK A hA F a0 3 ha0 (by decide) hI) (cwV 1 hts (ax_gV T_262 T_263 T_264 T_265 T_20) rfl rfl rfl (by decide +kernel) ⟨Nat.le_of_ble_eq_true rfl, Nat.le_of_ble_eq_true rfl⟩) ⟨fun a U g mk q => ⟨q.1, s_pc (U := U) rfl rfl q.2⟩, s_recv hK hP (hLK _ ha0 (by decide)) (ci := 7) rfl oY0, fun U hU hW => ⟨rfl, s_pw hU hW hP hK hD hN⟩⟩ rfl rfl hl.1 rfl (lv_room (Nat.le_of_ble_eq_true rfl)) dX7_set_41 ⟨Nat.zero_le _, Nat.zero_le _⟩) hS (fun q _ h => h) (fun q h => h) (fun r51 F52 t H1 locs ht hvm hw hB hz1 hk1 hS => ?_)
        obtain ⟨hP, hK1⟩ := hB
        rw [ht] at hP
        generalize H1 = H at hP hS ⊢
        clear hz1 hk1 hvm hK1
        obtain ⟨h53, h55, hI, hfr1, hzf, h54⟩ := hw
        have o56 : F52 (A 13) = .inl (cs 0, 400, .inl f1) := (hfr1 _ (by rw [(y_k13 hA)]; decide)).trans o2
        have o57 : F52 (A 20) = .inl (cs 0, 918, .inl f4) := (hfr1 _ (by rw [(y_k20 hA)]; decide)).trans o5
        have o58 : F52 (A 30) = .inl (cs 0, 18360, .inl f7) := (hfr1 _ (by rw [(y_k30 hA)]; decide)).trans o8
        have oY59 : F52 a0 = .inr (7, y_fl A z0 q0) := (hfr1 _ (by rw [ha0]; decide)).trans oY0
        have hfr : ∀ b, K b ∉ [9, 59, 70, 80] → F52 b = F b := fun b hb9 => (hfr1 b (fun q => hb9 (s_sub (by decide) q))).trans (hfr b hb9)
        exact W.zret (v := r51) (ty := .boolean) hx hb hr (th_nz ⟨by omega, by omega⟩) (fun t ht hW => ⟨⟨r51, F52, rfl, ⟨⟨by omega, by omega⟩, trivial, hI, hfr, fun k hk => (y_fiZ oY59 (s_sub (by decide) hk)).trans ((hz0 k hk).trans (y_fiZ oY0 (s_sub (by decide) hk)).symm), (by rw [y_fiZ oY59 (k := 15) (by decide), ← ev10, y_atE o56, y_atE o57, y_atE o58, y_fiZ oY59 (k := 31) (by decide), ← ev11, y_fiZ oY59 (k := 32) (by decide), ← ev12]; exact hT)⟩, by rw [ht]; exact hP, va_K.moved hW.alike hK⟩, hS.F ht⟩) hS.2.2 dX7_set_44
      · have c49 := mt (ax_eq (n := 0) (by decide)).mpr c49
        refine lv_iload_n hx hb dX7_set_27 rfl (lv_at hl 3 rfl) ?_
        refine lv_i2l hx hb dX7_set_28 rfl ?_
        refine lv_topl (fun v60 ev60 => ?_)
        have qv60 : v60.toInt = x3.toInt := y_i2l ev60
        refine lv_lconst (v := 0) hx hb dX7_set_29 (by decide) ?_
        refine lv_ldc2 hx hb hown (hts _ T_1238) dX7_set_30 ?_
        refine va_calli (va_runS (As := [.long v60, .long 0, .long 3]) (rest := []) ⟨hx, hb, hml, hown, hts⟩ (y_X7_isIn l dC dI H.size F v60 0 3) (cwS 3 hts (ax_gS T_267 T_268 T_265 T_21) rfl rfl rfl (by decide +kernel) ⟨Nat.le_of_ble_eq_true rfl, Nat.le_of_ble_eq_true rfl⟩) ⟨fun a U g mk q => ⟨q.1, s_pc (U := U) rfl rfl q.2⟩, fun U hU hW => ⟨rfl, s_pw hU hW hP hK hD hN⟩⟩ rfl rfl hl.1 rfl (lv_room (Nat.le_of_ble_eq_true rfl)) dX7_set_33 ⟨Nat.zero_le _, Nat.zero_le _⟩) hS (fun q _ h => h) (fun q h => h) (fun r62 F63 t H1 locs ht hvm hw hB hz1 hk1 hS => ?_)
        obtain ⟨hP, hK1⟩ := hB
        rw [ht] at hP
        generalize H1 = H at hP hS ⊢
        clear hz1 hk1 hvm hK1
        obtain ⟨h64, h66, hG9, h65⟩ := hw
        rw [hG9] at hP
        have h65 : ((r62.toInt = 0 ∧ (v60.toInt < 0 ∨ 3 < v60.toInt)) ∨ (r62.toInt = 1 ∧ 0 ≤ v60.toInt ∧ v60.toInt ≤ 3)) := by have q9 := h65; exact q9
        refine lv_if_ne (tgt := 45) hx hb dX7_set_36 (by decide) (fun c67 => ?_) (fun c67 => ?_)
        · have c67 := mt (ax_eq (n := 0) (by decide)).mpr c67
          refine lv_aload_n hx hb dX7_set_45 rfl (lv_at hl 0 rfl) ?_
          refine va_callv (va_runV (As := []) (rest := []) ⟨hx, hb, hml, hown, hts⟩ (y_X7_keeps l dC dI H.size hLK A hA F a0 ha0 hI (by rw [y_atE o2]; exact hPG) (by rw [y_atE o2, y_atE o5]; exact hNG) (by rw [y_atE o2, y_atE o8, y_fiZ oY0 (k := 31) (by decide), ← ev11, y_fiZ oY0 (k := 32) (by decide), ← ev12]; exact hUG)) (cwV 0 hts (ax_gV T_1013 T_1015 T_1016 T_265 T_1014) rfl rfl rfl (by decide +kernel) ⟨Nat.le_of_ble_eq_true rfl, Nat.le_of_ble_eq_true rfl⟩) ⟨fun a U g mk q => ⟨q.1, s_pc (U := U) rfl rfl q.2⟩, s_recv hK hP (hLK _ ha0 (by decide)) (ci := 7) rfl oY0, fun U hU hW => ⟨rfl, s_pw hU hW hP hK hD hN⟩⟩ rfl rfl hl.1 rfl (lv_room (Nat.le_of_ble_eq_true rfl)) dX7_set_46 ⟨Nat.zero_le _, Nat.zero_le _⟩) hS (fun q _ h => h) (fun q h => h) (fun F69 t H1 locs ht hvm hw hB hz1 hk1 hS => ?_)
          obtain ⟨hP, hK1⟩ := hB
          rw [ht] at hP
          generalize H1 = H at hP hS ⊢
          clear hz1 hk1 hvm hK1
          obtain ⟨h70, h72, hI, hfr1, hzf, h71⟩ := hw
          have o73 : F69 (A 13) = .inl (cs 0, 400, .inl f1) := (hfr1 _ (by rw [(y_k13 hA)]; decide)).trans o2
          have o74 : F69 (A 20) = .inl (cs 0, 918, .inl f4) := (hfr1 _ (by rw [(y_k20 hA)]; decide)).trans o5
          obtain ⟨z75, q76, oY77, bz78, bq79⟩ := y_opY hI ha0
          have hzf : ∀ k, k ∈ ([1, 2, 3, 4, 5, 6, 7, 8, 11, 15, 16, 19, 25, 26, 27] : List Nat) → z75 k = z0 k := fun k hk => by have q9 := hzf k hk; rw [y_fiZ oY77 (s_sub (by decide) hk), y_fiZ oY0 (s_sub (by decide) hk)] at q9; exact q9
          have hz0 : ∀ k, k ∈ ([1, 2, 3, 4, 5, 6, 7, 8, 11, 15, 16, 19, 25, 26, 27] : List Nat) → z75 k = z0 k := fun k hk => (hzf k (s_sub (by decide) hk)).trans (hz0 k hk)
          have ev10 : v10 = z75 15 := ev10.trans (hzf 15 (by decide)).symm
          have hfr : ∀ b, K b ∉ [9, 59, 70, 80] → F69 b = F b := fun b hb9 => (hfr1 b (fun q => hb9 (s_sub (by decide) q))).trans (hfr b hb9)
          obtain ⟨f80, o81, b82⟩ := y_op30 hI
          obtain ⟨v83, ev83⟩ : ∃ y : Int32, y = z75 31 := ⟨_, rfl⟩
          have qv83 : 0 ≤ v83.toInt ∧ v83.toInt ≤ 20 := by rw [ev83]; exact y_bY31 bz78
          obtain ⟨v84, ev84⟩ : ∃ y : Int32, y = z75 32 := ⟨_, rfl⟩
          have qv84 : 0 ≤ v84.toInt ∧ v84.toInt ≤ 19 := by rw [ev84]; exact y_bY32 bz78
          have h71 : (y_UG f1 f80 v83.toInt v84.toInt) := by have q9 := h71; rw [y_atE o2, y_atE o81, y_fiZ oY77 (k := 31) (by decide), ← ev83, y_fiZ oY77 (k := 32) (by decide), ← ev84] at q9; exact q9
          refine lv_aload_n hx hb dX7_set_49 rfl (lv_at hl 0 rfl) ?_
          refine th_get (D := (dC, dI)) (ci := 7) (v := .ref (A 20)) (C := RX7) (T := TX7) (N := 34) hx hb hts inX7 hown hK hP (hLK _ ha0 (by decide)) oY77 rfl 20 (by decide) (hts _ T_251) (fun _ h9 => h9) rfl dX7_set_50 ?_
          refine lv_iconst (v := 3) hx hb dX7_set_53 (by decide) ?_
          refine lv_iload_n hx hb dX7_set_54 rfl (lv_at hl 1 rfl) ?_
          refine th_iast hx hb hK hP hD hS (hLK _ (y_k20 hA) (by decide)) 0 o74 rfl (ax_in (by decide)) dX7_set_55 (fun H locs hP hS => ?_)
          obtain ⟨f85, u86⟩ : ∃ g : Nat → Int32, g = upd f4 (3 : Int32).toNatClampNeg x1 := ⟨_, rfl⟩
          rw [← u86] at hP
          have b87 : y_bd 20 f85 := trivial
          have hP : va_P (dC, dI) vwCl (va_pl L (va_up F69 (A 20) (.inl (cs 0, 918, .inl f85)))) H := hP
          obtain ⟨F88, hF89⟩ : ∃ G : Nat → va_E, G = va_up F69 (A 20) (.inl (cs 0, 918, .inl f85)) := ⟨_, rfl⟩
          rw [← hF89] at hP
          have hI : y_I K cs A F88 := by rw [hF89]; exact y_clA (i := 20) hA hI (by decide) b87
          have hfr : ∀ b, K b ∉ [9, 59, 70, 80] → F88 b = F b := by rw [hF89]; exact s_fr hfr (y_k20 hA) (by decide)
          have o90 : F88 (A 13) = .inl (cs 0, 400, .inl f1) := by rw [hF89]; exact th_ne (th_kd (y_k13 hA) (y_k20 hA) (by decide)) o73
          have o91 : F88 (A 30) = .inl (cs 0, 18360, .inl f80) := by rw [hF89]; exact th_ne (th_kd (y_k30 hA) (y_k20 hA) (by decide)) o81
          have oY92 : F88 a0 = .inr (7, y_fl A z75 q76) := by rw [hF89]; exact th_ne (th_kd ha0 (y_k20 hA) (by decide)) oY77
          have o93 : F88 (A 20) = .inl (cs 0, 918, .inl f85) := by rw [hF89]; exact th_up
          have u94 : ∀ j : Int, 0 ≤ j → y_c f85 j = if j = 3 then x1 else y_c f4 j := by rw [u86]; exact y_cu (by decide) (by decide)
          refine lv_aload_n hx hb dX7_set_56 rfl (lv_at hl 0 rfl) ?_
          refine th_get (D := (dC, dI)) (ci := 7) (v := .ref (A 20)) (C := RX7) (T := TX7) (N := 34) hx hb hts inX7 hown hK hP (hLK _ ha0 (by decide)) oY92 rfl 20 (by decide) (hts _ T_251) (fun _ h9 => h9) rfl dX7_set_57 ?_
          refine lv_iconst (v := 4) hx hb dX7_set_60 (by decide) ?_
          refine lv_iload_n hx hb dX7_set_61 rfl (lv_at hl 2 rfl) ?_
          refine th_iast hx hb hK hP hD hS (hLK _ (y_k20 hA) (by decide)) 0 o93 rfl (ax_in (by decide)) dX7_set_62 (fun H locs hP hS => ?_)
          obtain ⟨f95, u96⟩ : ∃ g : Nat → Int32, g = upd f85 (4 : Int32).toNatClampNeg x2 := ⟨_, rfl⟩
          rw [← u96] at hP
          have b97 : y_bd 20 f95 := trivial
          have hP : va_P (dC, dI) vwCl (va_pl L (va_up F88 (A 20) (.inl (cs 0, 918, .inl f95)))) H := hP
          obtain ⟨F98, hF99⟩ : ∃ G : Nat → va_E, G = va_up F88 (A 20) (.inl (cs 0, 918, .inl f95)) := ⟨_, rfl⟩
          rw [← hF99] at hP
          have hI : y_I K cs A F98 := by rw [hF99]; exact y_clA (i := 20) hA hI (by decide) b97
          have hfr : ∀ b, K b ∉ [9, 59, 70, 80] → F98 b = F b := by rw [hF99]; exact s_fr hfr (y_k20 hA) (by decide)
          have o100 : F98 (A 13) = .inl (cs 0, 400, .inl f1) := by rw [hF99]; exact th_ne (th_kd (y_k13 hA) (y_k20 hA) (by decide)) o90
          have o101 : F98 (A 30) = .inl (cs 0, 18360, .inl f80) := by rw [hF99]; exact th_ne (th_kd (y_k30 hA) (y_k20 hA) (by decide)) o91
          have oY102 : F98 a0 = .inr (7, y_fl A z75 q76) := by rw [hF99]; exact th_ne (th_kd ha0 (y_k20 hA) (by decide)) oY92
          have o103 : F98 (A 20) = .inl (cs 0, 918, .inl f95) := by rw [hF99]; exact th_up
          have u104 : ∀ j : Int, 0 ≤ j → y_c f95 j = if j = 4 then x2 else y_c f85 j := by rw [u96]; exact y_cu (by decide) (by decide)
          refine lv_aload_n hx hb dX7_set_63 rfl (lv_at hl 0 rfl) ?_
          refine th_get (D := (dC, dI)) (ci := 7) (v := .ref (A 20)) (C := RX7) (T := TX7) (N := 34) hx hb hts inX7 hown hK hP (hLK _ ha0 (by decide)) oY102 rfl 20 (by decide) (hts _ T_251) (fun _ h9 => h9) rfl dX7_set_64 ?_
          refine lv_iconst (v := 5) hx hb dX7_set_67 (by decide) ?_
          refine lv_iload_n hx hb dX7_set_68 rfl (lv_at hl 3 rfl) ?_
          refine th_iast hx hb hK hP hD hS (hLK _ (y_k20 hA) (by decide)) 0 o103 rfl (ax_in (by decide)) dX7_set_69 (fun H locs hP hS => ?_)
          obtain ⟨f105, u106⟩ : ∃ g : Nat → Int32, g = upd f95 (5 : Int32).toNatClampNeg x3 := ⟨_, rfl⟩
          rw [← u106] at hP
          have b107 : y_bd 20 f105 := trivial
          have hP : va_P (dC, dI) vwCl (va_pl L (va_up F98 (A 20) (.inl (cs 0, 918, .inl f105)))) H := hP
          obtain ⟨F108, hF109⟩ : ∃ G : Nat → va_E, G = va_up F98 (A 20) (.inl (cs 0, 918, .inl f105)) := ⟨_, rfl⟩
          rw [← hF109] at hP
          have hI : y_I K cs A F108 := by rw [hF109]; exact y_clA (i := 20) hA hI (by decide) b107
          have hfr : ∀ b, K b ∉ [9, 59, 70, 80] → F108 b = F b := by rw [hF109]; exact s_fr hfr (y_k20 hA) (by decide)
          have o110 : F108 (A 13) = .inl (cs 0, 400, .inl f1) := by rw [hF109]; exact th_ne (th_kd (y_k13 hA) (y_k20 hA) (by decide)) o100
          have o111 : F108 (A 30) = .inl (cs 0, 18360, .inl f80) := by rw [hF109]; exact th_ne (th_kd (y_k30 hA) (y_k20 hA) (by decide)) o101
          have oY112 : F108 a0 = .inr (7, y_fl A z75 q76) := by rw [hF109]; exact th_ne (th_kd ha0 (y_k20 hA) (by decide)) oY102
          have o113 : F108 (A 20) = .inl (cs 0, 918, .inl f105) := by rw [hF109]; exact th_up
          have u114 : ∀ j : Int, 0 ≤ j → y_c f105 j = if j = 5 then x3 else y_c f95 j := by rw [u106]; exact y_cu (by decide) (by decide)
          have hmo9 : (y_c f105 3).toInt = x1.toInt ∧ (y_c f105 4).toInt = x2.toInt := ⟨by rw [u114 3 (by omega), if_neg (by omega), u104 3 (by omega), if_neg (by omega), u94 3 (by omega), if_pos (by omega)], by rw [u114 4 (by omega), if_neg (by omega), u104 4 (by omega), if_pos (by omega)]⟩
          refine lv_aload_n hx hb dX7_set_70 rfl (lv_at hl 0 rfl) ?_
          refine lv_iconst (v := (-1)) hx hb dX7_set_71 (by decide) ?_
          refine va_callv (va_runV (As := [.int (-1)]) (rest := []) ⟨hx, hb, hml, hown, hts⟩ (y_X7_begins l dC dI H.size hLK A hA F108 a0 (-1) ha0 (by decide) hI (by rw [y_atE o110]; exact hPG) (by first | (rw [y_atE o113]; omega) | rw [y_atE o113])) (cwV 1 hts (ax_gV T_1017 T_1019 T_1020 T_265 T_1018) rfl rfl rfl (by decide +kernel) ⟨Nat.le_of_ble_eq_true rfl, Nat.le_of_ble_eq_true rfl⟩) ⟨fun a U g mk q => ⟨q.1, s_pc (U := U) rfl rfl q.2⟩, s_recv hK hP (hLK _ ha0 (by decide)) (ci := 7) rfl oY112, fun U hU hW => ⟨rfl, s_pw hU hW hP hK hD hN⟩⟩ rfl rfl hl.1 rfl (lv_room (Nat.le_of_ble_eq_true rfl)) dX7_set_72 ⟨Nat.zero_le _, Nat.zero_le _⟩) hS (fun q _ h => h) (fun q h => h) (fun F116 t H1 locs ht hvm hw hB hz1 hk1 hS => ?_)
          obtain ⟨hP, hK1⟩ := hB
          rw [ht] at hP
          generalize H1 = H at hP hS ⊢
          clear hz1 hk1 hvm hK1
          obtain ⟨h117, h119, hI, hfr1, hzf, h118⟩ := hw
          have o120 : F116 (A 13) = .inl (cs 0, 400, .inl f1) := (hfr1 _ (by rw [(y_k13 hA)]; decide)).trans o110
          have o121 : F116 (A 30) = .inl (cs 0, 18360, .inl f80) := (hfr1 _ (by rw [(y_k30 hA)]; decide)).trans o111
          have oY122 : F116 a0 = .inr (7, y_fl A z75 q76) := (hfr1 _ (by rw [ha0]; decide)).trans oY112
          have hfr : ∀ b, K b ∉ [9, 59, 70, 80] → F116 b = F b := fun b hb9 => (hfr1 b (fun q => hb9 (s_sub (by decide) q))).trans (hfr b hb9)
          obtain ⟨f123, o124, b125⟩ := y_op20 hI
          have h118 : (y_NG f1 f123) := by have q9 := h118; rw [y_atE o110, y_atE o124] at q9; exact q9
          refine lv_iconst (v := 1) hx hb dX7_set_75 (by decide) ?_
          have h126 : (1 : Int32).toInt = 1 := by decide
          exact W.zret (v := 1) (ty := .boolean) hx hb hr (by decide) (fun t ht hW => ⟨⟨1, F116, rfl, ⟨(by decide), trivial, hI, hfr, fun k hk => (y_fiZ oY122 (s_sub (by decide) hk)).trans ((hz0 k hk).trans (y_fiZ oY0 (s_sub (by decide) hk)).symm), (by rw [y_fiZ oY122 (k := 15) (by decide), ← ev10, y_atE o120, y_atE o124, y_atE o121, y_fiZ oY122 (k := 31) (by decide), ← ev83, y_fiZ oY122 (k := 32) (by decide), ← ev84]; exact (Or.inr ⟨by omega, hPG, h118, h71⟩))⟩, by rw [ht]; exact hP, va_K.moved hW.alike hK⟩, hS.F ht⟩) hS.2.2 dX7_set_76
        · have c67 := (ax_eq (n := 0) (by decide)).mp c67
          refine lv_aload_n hx hb dX7_set_39 rfl (lv_at hl 0 rfl) ?_
          refine lv_iconst (v := 3) hx hb dX7_set_40 (by decide) ?_
          refine va_calli (va_runV (As := [.int 3]) (rest := []) ⟨hx, hb, hml, hown, hts⟩ (y_X7_isRefused l dC dI H.size hLK A hA F a0 3 ha0 (by decide) hI) (cwV 1 hts (ax_gV T_262 T_263 T_264 T_265 T_20) rfl rfl rfl (by decide +kernel) ⟨Nat.le_of_ble_eq_true rfl, Nat.le_of_ble_eq_true rfl⟩) ⟨fun a U g mk q => ⟨q.1, s_pc (U := U) rfl rfl q.2⟩, s_recv hK hP (hLK _ ha0 (by decide)) (ci := 7) rfl oY0, fun U hU hW => ⟨rfl, s_pw hU hW hP hK hD hN⟩⟩ rfl rfl hl.1 rfl (lv_room (Nat.le_of_ble_eq_true rfl)) dX7_set_41 ⟨Nat.zero_le _, Nat.zero_le _⟩) hS (fun q _ h => h) (fun q h => h) (fun r128 F129 t H1 locs ht hvm hw hB hz1 hk1 hS => ?_)
          obtain ⟨hP, hK1⟩ := hB
          rw [ht] at hP
          generalize H1 = H at hP hS ⊢
          clear hz1 hk1 hvm hK1
          obtain ⟨h130, h132, hI, hfr1, hzf, h131⟩ := hw
          have o133 : F129 (A 13) = .inl (cs 0, 400, .inl f1) := (hfr1 _ (by rw [(y_k13 hA)]; decide)).trans o2
          have o134 : F129 (A 20) = .inl (cs 0, 918, .inl f4) := (hfr1 _ (by rw [(y_k20 hA)]; decide)).trans o5
          have o135 : F129 (A 30) = .inl (cs 0, 18360, .inl f7) := (hfr1 _ (by rw [(y_k30 hA)]; decide)).trans o8
          have oY136 : F129 a0 = .inr (7, y_fl A z0 q0) := (hfr1 _ (by rw [ha0]; decide)).trans oY0
          have hfr : ∀ b, K b ∉ [9, 59, 70, 80] → F129 b = F b := fun b hb9 => (hfr1 b (fun q => hb9 (s_sub (by decide) q))).trans (hfr b hb9)
          exact W.zret (v := r128) (ty := .boolean) hx hb hr (th_nz ⟨by omega, by omega⟩) (fun t ht hW => ⟨⟨r128, F129, rfl, ⟨⟨by omega, by omega⟩, trivial, hI, hfr, fun k hk => (y_fiZ oY136 (s_sub (by decide) hk)).trans ((hz0 k hk).trans (y_fiZ oY0 (s_sub (by decide) hk)).symm), (by rw [y_fiZ oY136 (k := 15) (by decide), ← ev10, y_atE o133, y_atE o134, y_atE o135, y_fiZ oY136 (k := 31) (by decide), ← ev11, y_fiZ oY136 (k := 32) (by decide), ← ev12]; exact hT)⟩, by rw [ht]; exact hP, va_K.moved hW.alike hK⟩, hS.F ht⟩) hS.2.2 dX7_set_44

set_option maxHeartbeats 4000000 in
set_option maxRecDepth 100000 in
theorem yt_X7_begin (l : Launch) (dC : Nat → ClassId) (dI : Nat → Nat → Nat) (sz : Nat) {L : List Nat} {K : Nat → Nat} {cs : Nat → ClassId} (hLK : ∀ a {k : Nat}, K a = k → k ≠ 0 → a ∈ L) (A : Nat → Nat) (hA : y_A K A) (F : Nat → va_E) (a0 : Nat) (ha0 : K a0 = 9) (hI : y_I K cs A F) (hT : y_T (y_fi F a0 15) (y_at F (A 13)) (y_at F (A 20)) (y_at F (A 30)) (y_fi F a0 31) (y_fi F a0 32)) : Met l yX7_begin (Cond.code yX7_begin cX7_begin 1 (some .boolean) :: T0) ({ frames := 4, cells := 0, slots := 0, locals := 92 }) (va_Pc [.ref a0] (s_W dC dI sz L F [(cs 0, .int), (cs 1, .byte), (cs 2, .long), (cs 3, .object RX5), (cs 4, .object RX4), (cs 5, .array .int), (cs 6, .char), (cs 7, .boolean)])) (va_Qi (fun (r : Int32) (G : Nat → va_E) => (0 ≤ r.toInt ∧ r.toInt ≤ 1) ∧ True ∧ y_I K cs A G ∧ (∀ b, K b ∉ [9, 59, 70, 80] → G b = F b) ∧ (∀ k, k ∈ ([1, 2, 3, 4, 5, 6, 7, 8, 11, 15, 16, 19, 25, 26, 27] : List Nat) → y_fi G a0 k = y_fi F a0 k) ∧ (y_T (y_fi G a0 15) (y_at G (A 13)) (y_at G (A 20)) (y_at G (A 30)) (y_fi G a0 31) (y_fi G a0 32))) (fun (G : Nat → va_E) (t : State) => va_P (dC, dI) vwCl (va_pl L G) t.heap ∧ va_K (dC, dI) vwCl [(cs 0, .int), (cs 1, .byte), (cs 2, .long), (cs 3, .object RX5), (cs 4, .object RX4), (cs 5, .array .int), (cs 6, .char), (cs 7, .boolean)] t) (fun q => q ∈ L)) 0 0 (fun q => q ∈ L) := by
  refine Met.ofW (cc := cX7_begin) (maxL := 1) (ret := (some .boolean)) (by decide) rfl ?_
  intro p e s m args below meth c s₁ B hml hv
  obtain ⟨rfl, hsz, hP, hK, hD, hN⟩ := hv
  have hx := B.exec
  have hb := B.bytes
  have hr := B.returns
  have hts : ∀ w ∈ T0, w.before _ s = true := fun w h => atoms_spec (ws := Cond.code yX7_begin cX7_begin 1 (some .boolean) :: T0) B.pre w (List.mem_cons_of_mem _ h)
  have hown : s.vm.findClass RX7 = some m.cls := findClass_of_methodNamed B.named
  have hlocks := B.notSynchronized
  have hS : va_S (fun q => q ∈ L) s.heap s.heap [] := va_S.rf
  have hfr : ∀ b, K b ∉ [9, 59, 70, 80] → F b = F b := fun _ _ => rfl
  have hl := lv_entry ([.ref a0]) (n := 1) (Nat.le_of_ble_eq_true rfl)
  rw [lg_entry_eq]
  generalize (lg_sl ([.ref a0]) ++ List.replicate (1 - (lg_sl ([.ref a0])).length) Slot.unset).toArray = ls at hl ⊢
  have hl : lv_has ls 1 [(0, .ref a0)] := hl
  refine s_gen hP hS (fun H locs hP hS => ?_)
  obtain ⟨z0, q0, oY0, bz0, bq0⟩ := y_opY hI ha0
  have hz0 : ∀ k, k ∈ ([1, 2, 3, 4, 5, 6, 7, 8, 11, 15, 16, 19, 25, 26, 27] : List Nat) → z0 k = z0 k := fun _ _ => rfl
  obtain ⟨f1, o2, b3⟩ := y_op13 hI
  obtain ⟨f4, o5, b6⟩ := y_op20 hI
  obtain ⟨f7, o8, b9⟩ := y_op30 hI
  obtain ⟨v10, ev10⟩ : ∃ y : Int32, y = z0 15 := ⟨_, rfl⟩
  have qv10 : 0 ≤ v10.toInt ∧ v10.toInt ≤ 1 := by rw [ev10]; exact y_bY15 bz0
  have eF_15 := ev10
  obtain ⟨v11, ev11⟩ : ∃ y : Int32, y = z0 31 := ⟨_, rfl⟩
  have qv11 : 0 ≤ v11.toInt ∧ v11.toInt ≤ 20 := by rw [ev11]; exact y_bY31 bz0
  have eF_31 := ev11
  obtain ⟨v12, ev12⟩ : ∃ y : Int32, y = z0 32 := ⟨_, rfl⟩
  have qv12 : 0 ≤ v12.toInt ∧ v12.toInt ≤ 19 := by rw [ev12]; exact y_bY32 bz0
  have eF_32 := ev12
  have hT : y_T v10 f1 f4 f7 v11 v12 := by have q9 := hT; rw [y_fiZ oY0 (k := 15) (by decide), ← ev10, y_atE o2, y_atE o5, y_atE o8, y_fiZ oY0 (k := 31) (by decide), ← ev11, y_fiZ oY0 (k := 32) (by decide), ← ev12] at q9; exact q9
  have e0_v10 := ev10
  have e0_v11 := ev11
  have e0_v12 := ev12
  refine lv_aload_n hx hb dX7_begin_0 rfl (lv_at hl 0 rfl) ?_
  refine th_get (D := (dC, dI)) (ci := 7) (v := .int (z0 15)) (C := RX7) (T := TX7) (N := 34) hx hb hts inX7 hown hK hP (hLK _ ha0 (by decide)) oY0 rfl 15 (by decide) (hts _ T_271) (fun _ h9 => h9) rfl dX7_begin_1 ?_
  refine ax_eqi (y := v10) ev10.symm ?_
  refine lv_if_ne (tgt := 13) hx hb dX7_begin_4 (by decide) (fun c13 => ?_) (fun c13 => ?_)
  · have c13 := mt (ax_eq (n := 0) (by decide)).mpr c13
    obtain ⟨htd, hPG, hNG, hUG⟩ := y_TT hT (by omega)
    have hL := y_P0L hPG.1
    have hW := y_P0W hPG.1
    have hnn := And.intro hNG.1 (And.intro hNG.2.1 (And.intro hNG.2.2.1 hNG.2.2.2.1))
    refine lv_aload_n hx hb dX7_begin_13 rfl (lv_at hl 0 rfl) ?_
    refine va_callv (va_runV (As := []) (rest := []) ⟨hx, hb, hml, hown, hts⟩ (y_X7_keeps l dC dI H.size hLK A hA F a0 ha0 hI (by rw [y_atE o2]; exact hPG) (by rw [y_atE o2, y_atE o5]; exact hNG) (by rw [y_atE o2, y_atE o8, y_fiZ oY0 (k := 31) (by decide), ← ev11, y_fiZ oY0 (k := 32) (by decide), ← ev12]; exact hUG)) (cwV 0 hts (ax_gV T_1013 T_1015 T_1016 T_265 T_1014) rfl rfl rfl (by decide +kernel) ⟨Nat.le_of_ble_eq_true rfl, Nat.le_of_ble_eq_true rfl⟩) ⟨fun a U g mk q => ⟨q.1, s_pc (U := U) rfl rfl q.2⟩, s_recv hK hP (hLK _ ha0 (by decide)) (ci := 7) rfl oY0, fun U hU hW => ⟨rfl, s_pw hU hW hP hK hD hN⟩⟩ rfl rfl hl.1 rfl (lv_room (Nat.le_of_ble_eq_true rfl)) dX7_begin_14 ⟨Nat.zero_le _, Nat.zero_le _⟩) hS (fun q _ h => h) (fun q h => h) (fun F15 t H1 locs ht hvm hw hB hz1 hk1 hS => ?_)
    obtain ⟨hP, hK1⟩ := hB
    rw [ht] at hP
    generalize H1 = H at hP hS ⊢
    clear hz1 hk1 hvm hK1
    obtain ⟨h16, h18, hI, hfr1, hzf, h17⟩ := hw
    have o19 : F15 (A 13) = .inl (cs 0, 400, .inl f1) := (hfr1 _ (by rw [(y_k13 hA)]; decide)).trans o2
    have o20 : F15 (A 20) = .inl (cs 0, 918, .inl f4) := (hfr1 _ (by rw [(y_k20 hA)]; decide)).trans o5
    obtain ⟨z21, q22, oY23, bz24, bq25⟩ := y_opY hI ha0
    have hzf : ∀ k, k ∈ ([1, 2, 3, 4, 5, 6, 7, 8, 11, 15, 16, 19, 25, 26, 27] : List Nat) → z21 k = z0 k := fun k hk => by have q9 := hzf k hk; rw [y_fiZ oY23 (s_sub (by decide) hk), y_fiZ oY0 (s_sub (by decide) hk)] at q9; exact q9
    have hz0 : ∀ k, k ∈ ([1, 2, 3, 4, 5, 6, 7, 8, 11, 15, 16, 19, 25, 26, 27] : List Nat) → z21 k = z0 k := fun k hk => (hzf k (s_sub (by decide) hk)).trans (hz0 k hk)
    have ev10 : v10 = z21 15 := ev10.trans (hzf 15 (by decide)).symm
    have hfr : ∀ b, K b ∉ [9, 59, 70, 80] → F15 b = F b := fun b hb9 => (hfr1 b (fun q => hb9 (s_sub (by decide) q))).trans (hfr b hb9)
    obtain ⟨f26, o27, b28⟩ := y_op30 hI
    obtain ⟨v29, ev29⟩ : ∃ y : Int32, y = z21 31 := ⟨_, rfl⟩
    have qv29 : 0 ≤ v29.toInt ∧ v29.toInt ≤ 20 := by rw [ev29]; exact y_bY31 bz24
    obtain ⟨v30, ev30⟩ : ∃ y : Int32, y = z21 32 := ⟨_, rfl⟩
    have qv30 : 0 ≤ v30.toInt ∧ v30.toInt ≤ 19 := by rw [ev30]; exact y_bY32 bz24
    have h17 : (y_UG f1 f26 v29.toInt v30.toInt) := by have q9 := h17; rw [y_atE o2, y_atE o27, y_fiZ oY23 (k := 31) (by decide), ← ev29, y_fiZ oY23 (k := 32) (by decide), ← ev30] at q9; exact q9
    refine lv_aload_n hx hb dX7_begin_17 rfl (lv_at hl 0 rfl) ?_
    refine lv_iconst (v := (-1)) hx hb dX7_begin_18 (by decide) ?_
    refine va_callv (va_runV (As := [.int (-1)]) (rest := []) ⟨hx, hb, hml, hown, hts⟩ (y_X7_begins l dC dI H.size hLK A hA F15 a0 (-1) ha0 (by decide) hI (by rw [y_atE o19]; exact hPG) (by rw [y_atE o20]; exact ⟨hNG.1, hNG.2.1⟩)) (cwV 1 hts (ax_gV T_1017 T_1019 T_1020 T_265 T_1018) rfl rfl rfl (by decide +kernel) ⟨Nat.le_of_ble_eq_true rfl, Nat.le_of_ble_eq_true rfl⟩) ⟨fun a U g mk q => ⟨q.1, s_pc (U := U) rfl rfl q.2⟩, s_recv hK hP (hLK _ ha0 (by decide)) (ci := 7) rfl oY23, fun U hU hW => ⟨rfl, s_pw hU hW hP hK hD hN⟩⟩ rfl rfl hl.1 rfl (lv_room (Nat.le_of_ble_eq_true rfl)) dX7_begin_19 ⟨Nat.zero_le _, Nat.zero_le _⟩) hS (fun q _ h => h) (fun q h => h) (fun F32 t H1 locs ht hvm hw hB hz1 hk1 hS => ?_)
    obtain ⟨hP, hK1⟩ := hB
    rw [ht] at hP
    generalize H1 = H at hP hS ⊢
    clear hz1 hk1 hvm hK1
    obtain ⟨h33, h35, hI, hfr1, hzf, h34⟩ := hw
    have o36 : F32 (A 13) = .inl (cs 0, 400, .inl f1) := (hfr1 _ (by rw [(y_k13 hA)]; decide)).trans o19
    have o37 : F32 (A 30) = .inl (cs 0, 18360, .inl f26) := (hfr1 _ (by rw [(y_k30 hA)]; decide)).trans o27
    have oY38 : F32 a0 = .inr (7, y_fl A z21 q22) := (hfr1 _ (by rw [ha0]; decide)).trans oY23
    have hfr : ∀ b, K b ∉ [9, 59, 70, 80] → F32 b = F b := fun b hb9 => (hfr1 b (fun q => hb9 (s_sub (by decide) q))).trans (hfr b hb9)
    obtain ⟨f39, o40, b41⟩ := y_op20 hI
    have h34 : (y_NG f1 f39) := by have q9 := h34; rw [y_atE o19, y_atE o40] at q9; exact q9
    refine lv_iconst (v := 1) hx hb dX7_begin_22 (by decide) ?_
    have h42 : (1 : Int32).toInt = 1 := by decide
    exact W.zret (v := 1) (ty := .boolean) hx hb hr (by decide) (fun t ht hW => ⟨⟨1, F32, rfl, ⟨(by decide), trivial, hI, hfr, fun k hk => (y_fiZ oY38 (s_sub (by decide) hk)).trans ((hz0 k hk).trans (y_fiZ oY0 (s_sub (by decide) hk)).symm), (by rw [y_fiZ oY38 (k := 15) (by decide), ← ev10, y_atE o36, y_atE o40, y_atE o37, y_fiZ oY38 (k := 31) (by decide), ← ev29, y_fiZ oY38 (k := 32) (by decide), ← ev30]; exact (Or.inr ⟨by omega, hPG, h34, h17⟩))⟩, by rw [ht]; exact hP, va_K.moved hW.alike hK⟩, hS.F ht⟩) hS.2.2 dX7_begin_23
  · have c13 := (ax_eq (n := 0) (by decide)).mp c13
    refine lv_aload_n hx hb dX7_begin_7 rfl (lv_at hl 0 rfl) ?_
    refine lv_iconst (v := 3) hx hb dX7_begin_8 (by decide) ?_
    refine va_calli (va_runV (As := [.int 3]) (rest := []) ⟨hx, hb, hml, hown, hts⟩ (y_X7_isRefused l dC dI H.size hLK A hA F a0 3 ha0 (by decide) hI) (cwV 1 hts (ax_gV T_262 T_263 T_264 T_265 T_20) rfl rfl rfl (by decide +kernel) ⟨Nat.le_of_ble_eq_true rfl, Nat.le_of_ble_eq_true rfl⟩) ⟨fun a U g mk q => ⟨q.1, s_pc (U := U) rfl rfl q.2⟩, s_recv hK hP (hLK _ ha0 (by decide)) (ci := 7) rfl oY0, fun U hU hW => ⟨rfl, s_pw hU hW hP hK hD hN⟩⟩ rfl rfl hl.1 rfl (lv_room (Nat.le_of_ble_eq_true rfl)) dX7_begin_9 ⟨Nat.zero_le _, Nat.zero_le _⟩) hS (fun q _ h => h) (fun q h => h) (fun r44 F45 t H1 locs ht hvm hw hB hz1 hk1 hS => ?_)
    obtain ⟨hP, hK1⟩ := hB
    rw [ht] at hP
    generalize H1 = H at hP hS ⊢
    clear hz1 hk1 hvm hK1
    obtain ⟨h46, h48, hI, hfr1, hzf, h47⟩ := hw
    have o49 : F45 (A 13) = .inl (cs 0, 400, .inl f1) := (hfr1 _ (by rw [(y_k13 hA)]; decide)).trans o2
    have o50 : F45 (A 20) = .inl (cs 0, 918, .inl f4) := (hfr1 _ (by rw [(y_k20 hA)]; decide)).trans o5
    have o51 : F45 (A 30) = .inl (cs 0, 18360, .inl f7) := (hfr1 _ (by rw [(y_k30 hA)]; decide)).trans o8
    have oY52 : F45 a0 = .inr (7, y_fl A z0 q0) := (hfr1 _ (by rw [ha0]; decide)).trans oY0
    have hfr : ∀ b, K b ∉ [9, 59, 70, 80] → F45 b = F b := fun b hb9 => (hfr1 b (fun q => hb9 (s_sub (by decide) q))).trans (hfr b hb9)
    exact W.zret (v := r44) (ty := .boolean) hx hb hr (th_nz ⟨by omega, by omega⟩) (fun t ht hW => ⟨⟨r44, F45, rfl, ⟨⟨by omega, by omega⟩, trivial, hI, hfr, fun k hk => (y_fiZ oY52 (s_sub (by decide) hk)).trans ((hz0 k hk).trans (y_fiZ oY0 (s_sub (by decide) hk)).symm), (by rw [y_fiZ oY52 (k := 15) (by decide), ← ev10, y_atE o49, y_atE o50, y_atE o51, y_fiZ oY52 (k := 31) (by decide), ← ev11, y_fiZ oY52 (k := 32) (by decide), ← ev12]; exact hT)⟩, by rw [ht]; exact hP, va_K.moved hW.alike hK⟩, hS.F ht⟩) hS.2.2 dX7_begin_12

set_option maxHeartbeats 4000000 in
set_option maxRecDepth 100000 in
theorem yt_X7_seed (l : Launch) (dC : Nat → ClassId) (dI : Nat → Nat → Nat) (sz : Nat) {L : List Nat} {K : Nat → Nat} {cs : Nat → ClassId} (hLK : ∀ a {k : Nat}, K a = k → k ≠ 0 → a ∈ L) (A : Nat → Nat) (hA : y_A K A) (F : Nat → va_E) (a0 : Nat) (x1 : Int32) (ha0 : K a0 = 9) (hI : y_I K cs A F) : Met l yX7_seed (Cond.code yX7_seed cX7_seed 2 (some .boolean) :: T0) ({ frames := 1, cells := 0, slots := 0, locals := 21 }) (va_Pc [.ref a0, .int x1] (s_W dC dI sz L F [(cs 0, .int), (cs 1, .byte), (cs 2, .long), (cs 3, .object RX5), (cs 4, .object RX4), (cs 5, .array .int), (cs 6, .char), (cs 7, .boolean)])) (va_Qi (fun (r : Int32) (G : Nat → va_E) => (0 ≤ r.toInt ∧ r.toInt ≤ 1) ∧ (¬ r = 0 → 0 ≤ x1.toInt ∧ x1.toInt ≤ 2147483647) ∧ y_I K cs A G ∧ (∀ b, K b ∉ [9, 59] → G b = F b) ∧ (∀ k, k ∈ ([1, 2, 3, 4, 5, 6, 7, 8, 11, 15, 16, 19, 25, 26, 27, 31, 32] : List Nat) → y_fi G a0 k = y_fi F a0 k) ∧ ((x1.toInt < 0 ∧ r.toInt = 0) ∨ (0 ≤ x1.toInt ∧ r.toInt = 1))) (fun (G : Nat → va_E) (t : State) => va_P (dC, dI) vwCl (va_pl L G) t.heap ∧ va_K (dC, dI) vwCl [(cs 0, .int), (cs 1, .byte), (cs 2, .long), (cs 3, .object RX5), (cs 4, .object RX4), (cs 5, .array .int), (cs 6, .char), (cs 7, .boolean)] t) (fun q => q ∈ L)) 0 0 (fun q => q ∈ L) := by
  refine Met.ofW (cc := cX7_seed) (maxL := 2) (ret := (some .boolean)) (by decide) rfl ?_
  intro p e s m args below meth c s₁ B hml hv
  obtain ⟨rfl, hsz, hP, hK, hD, hN⟩ := hv
  have hx := B.exec
  have hb := B.bytes
  have hr := B.returns
  have hts : ∀ w ∈ T0, w.before _ s = true := fun w h => atoms_spec (ws := Cond.code yX7_seed cX7_seed 2 (some .boolean) :: T0) B.pre w (List.mem_cons_of_mem _ h)
  have hown : s.vm.findClass RX7 = some m.cls := findClass_of_methodNamed B.named
  have hlocks := B.notSynchronized
  have hS : va_S (fun q => q ∈ L) s.heap s.heap [] := va_S.rf
  have hfr : ∀ b, K b ∉ [9, 59] → F b = F b := fun _ _ => rfl
  have hl := lv_entry ([.ref a0, .int x1]) (n := 2) (Nat.le_of_ble_eq_true rfl)
  rw [lg_entry_eq]
  generalize (lg_sl ([.ref a0, .int x1]) ++ List.replicate (2 - (lg_sl ([.ref a0, .int x1])).length) Slot.unset).toArray = ls at hl ⊢
  have hl : lv_has ls 2 [(0, .ref a0), (1, .int x1)] := hl
  refine s_gen hP hS (fun H locs hP hS => ?_)
  obtain ⟨z0, q0, oY0, bz0, bq0⟩ := y_opY hI ha0
  have hz0 : ∀ k, k ∈ ([1, 2, 3, 4, 5, 6, 7, 8, 11, 15, 16, 19, 25, 26, 27, 31, 32] : List Nat) → z0 k = z0 k := fun _ _ => rfl
  refine lv_iload_n hx hb dX7_seed_0 rfl (lv_at hl 1 rfl) ?_
  refine lv_if_ge (tgt := 10) hx hb dX7_seed_1 (by decide) (fun c1 => ?_) (fun c1 => ?_)
  · have c1 := (ax_ge (n := 0) (by decide)).mp c1
    refine lv_aload_n hx hb dX7_seed_10 rfl (lv_at hl 0 rfl) ?_
    refine lv_iload_n hx hb dX7_seed_11 rfl (lv_at hl 1 rfl) ?_
    refine lv_i2l hx hb dX7_seed_12 rfl ?_
    refine lv_topl (fun v2 ev2 => ?_)
    have qv2 : v2.toInt = x1.toInt := y_i2l ev2
    refine th_put (D := (dC, dI)) (ci := 7) (v := .long v2) (ty := .long) (C := RX7) (T := TX7) (N := 34) hx hb hts inX7 tyX7 tyX7_ok nmX7 hown hK hP hD hS (hLK _ ha0 (by decide)) oY0 rfl 33 (by decide) (hts _ T_260) (fun _ h9 => h9) rfl (by decide +kernel) rfl rfl (Nat.le_of_ble_eq_true rfl) dX7_seed_13 (fun H locs hP hS => ?_)
    have bq3 : 0 ≤ (v2 : Int64).toInt ∧ (v2 : Int64).toInt < 2147483648 := ⟨by omega, by omega⟩
    rw [y_fsq] at hP
    have hP : va_P (dC, dI) vwCl (va_pl L (va_up F a0 (.inr (7, y_fl A z0 v2)))) H := hP
    obtain ⟨F4, hF5⟩ : ∃ G : Nat → va_E, G = va_up F a0 (.inr (7, y_fl A z0 v2)) := ⟨_, rfl⟩
    rw [← hF5] at hP
    have hI : y_I K cs A F4 := by rw [hF5]; exact y_clY hA hI ha0 bz0 bq3
    have hfr : ∀ b, K b ∉ [9, 59] → F4 b = F b := by rw [hF5]; exact s_fr hfr ha0 (by decide)
    have oY6 : F4 a0 = .inr (7, y_fl A z0 v2) := by rw [hF5]; exact th_up
    refine lv_iconst (v := 1) hx hb dX7_seed_16 (by decide) ?_
    have h7 : (1 : Int32).toInt = 1 := by decide
    exact W.zret (v := 1) (ty := .boolean) hx hb hr (by decide) (fun t ht hW => ⟨⟨1, F4, rfl, ⟨(by decide), (fun q => ⟨by omega, by have q9 := th_hi x1; omega⟩), hI, hfr, fun k hk => (y_fiZ oY6 (s_sub (by decide) hk)).trans ((hz0 k hk).trans (y_fiZ oY0 (s_sub (by decide) hk)).symm), (by omega)⟩, by rw [ht]; exact hP, va_K.moved hW.alike hK⟩, hS.F ht⟩) hS.2.2 dX7_seed_17
  · have c1 := mt (ax_ge (n := 0) (by decide)).mpr c1
    refine lv_aload_n hx hb dX7_seed_4 rfl (lv_at hl 0 rfl) ?_
    refine lv_iconst (v := 5) hx hb dX7_seed_5 (by decide) ?_
    refine va_calli (va_runV (As := [.int 5]) (rest := []) ⟨hx, hb, hml, hown, hts⟩ (y_X7_isRefused l dC dI H.size hLK A hA F a0 5 ha0 (by decide) hI) (cwV 1 hts (ax_gV T_262 T_263 T_264 T_265 T_20) rfl rfl rfl (by decide +kernel) ⟨Nat.le_of_ble_eq_true rfl, Nat.le_of_ble_eq_true rfl⟩) ⟨fun a U g mk q => ⟨q.1, s_pc (U := U) rfl rfl q.2⟩, s_recv hK hP (hLK _ ha0 (by decide)) (ci := 7) rfl oY0, fun U hU hW => ⟨rfl, s_pw hU hW hP hK hD hN⟩⟩ rfl rfl hl.1 rfl (lv_room (Nat.le_of_ble_eq_true rfl)) dX7_seed_6 ⟨Nat.zero_le _, Nat.zero_le _⟩) hS (fun q _ h => h) (fun q h => h) (fun r9 F10 t H1 locs ht hvm hw hB hz1 hk1 hS => ?_)
    obtain ⟨hP, hK1⟩ := hB
    rw [ht] at hP
    generalize H1 = H at hP hS ⊢
    clear hz1 hk1 hvm hK1
    obtain ⟨h11, h13, hI, hfr1, hzf, h12⟩ := hw
    have oY14 : F10 a0 = .inr (7, y_fl A z0 q0) := (hfr1 _ (by rw [ha0]; decide)).trans oY0
    have hfr : ∀ b, K b ∉ [9, 59] → F10 b = F b := fun b hb9 => (hfr1 b (fun q => hb9 (s_sub (by decide) q))).trans (hfr b hb9)
    exact W.zret (v := r9) (ty := .boolean) hx hb hr (th_nz ⟨by omega, by omega⟩) (fun t ht hW => ⟨⟨r9, F10, rfl, ⟨⟨by omega, by omega⟩, (fun q => absurd (y_z0 ⟨by omega, by omega⟩) q), hI, hfr, fun k hk => (y_fiZ oY14 (s_sub (by decide) hk)).trans ((hz0 k hk).trans (y_fiZ oY0 (s_sub (by decide) hk)).symm), (by omega)⟩, by rw [ht]; exact hP, va_K.moved hW.alike hK⟩, hS.F ht⟩) hS.2.2 dX7_seed_9

set_option maxHeartbeats 4000000 in
set_option maxRecDepth 100000 in
theorem yt_X7_drawOf (l : Launch) (dC : Nat → ClassId) (dI : Nat → Nat → Nat) (sz : Nat) {L : List Nat} {K : Nat → Nat} {cs : Nat → ClassId} (hLK : ∀ a {k : Nat}, K a = k → k ≠ 0 → a ∈ L) (A : Nat → Nat) (hA : y_A K A) (F : Nat → va_E) (a0 : Nat) (x1 : Int32) (ha0 : K a0 = 9) (hx1 : 1 ≤ x1.toInt ∧ x1.toInt ≤ 64) (hI : y_I K cs A F) : Met l yX7_drawOf (Cond.code yX7_drawOf cX7_drawOf 2 (some .int) :: T0) ({ frames := 0, cells := 0, slots := 0, locals := 0 }) (va_Pc [.ref a0, .int x1] (s_W dC dI sz L F [(cs 0, .int), (cs 1, .byte), (cs 2, .long), (cs 3, .object RX5), (cs 4, .object RX4), (cs 5, .array .int), (cs 6, .char), (cs 7, .boolean)])) (va_Qi (fun (r : Int32) (G : Nat → va_E) => (0 ≤ r.toInt ∧ r.toInt ≤ 63) ∧ True ∧ y_I K cs A G ∧ (∀ b, K b ∉ [9] → G b = F b) ∧ (∀ k, k ∈ ([1, 2, 3, 4, 5, 6, 7, 8, 11, 15, 16, 19, 25, 26, 27, 31, 32] : List Nat) → y_fi G a0 k = y_fi F a0 k) ∧ (0 ≤ r.toInt ∧ r.toInt < x1.toInt)) (fun (G : Nat → va_E) (t : State) => va_P (dC, dI) vwCl (va_pl L G) t.heap ∧ va_K (dC, dI) vwCl [(cs 0, .int), (cs 1, .byte), (cs 2, .long), (cs 3, .object RX5), (cs 4, .object RX4), (cs 5, .array .int), (cs 6, .char), (cs 7, .boolean)] t) (fun q => q ∈ L)) 0 0 (fun q => q ∈ L) := by
  refine Met.ofW (cc := cX7_drawOf) (maxL := 2) (ret := (some .int)) (by decide) rfl ?_
  intro p e s m args below meth c s₁ B hml hv
  obtain ⟨rfl, hsz, hP, hK, hD, hN⟩ := hv
  have hx := B.exec
  have hb := B.bytes
  have hr := B.returns
  have hts : ∀ w ∈ T0, w.before _ s = true := fun w h => atoms_spec (ws := Cond.code yX7_drawOf cX7_drawOf 2 (some .int) :: T0) B.pre w (List.mem_cons_of_mem _ h)
  have hown : s.vm.findClass RX7 = some m.cls := findClass_of_methodNamed B.named
  have hlocks := B.notSynchronized
  have hS : va_S (fun q => q ∈ L) s.heap s.heap [] := va_S.rf
  have hfr : ∀ b, K b ∉ [9] → F b = F b := fun _ _ => rfl
  have hl := lv_entry ([.ref a0, .int x1]) (n := 2) (Nat.le_of_ble_eq_true rfl)
  rw [lg_entry_eq]
  generalize (lg_sl ([.ref a0, .int x1]) ++ List.replicate (2 - (lg_sl ([.ref a0, .int x1])).length) Slot.unset).toArray = ls at hl ⊢
  have hl : lv_has ls 2 [(0, .ref a0), (1, .int x1)] := hl
  refine s_gen hP hS (fun H locs hP hS => ?_)
  obtain ⟨z0, q0, oY0, bz0, bq0⟩ := y_opY hI ha0
  have hz0 : ∀ k, k ∈ ([1, 2, 3, 4, 5, 6, 7, 8, 11, 15, 16, 19, 25, 26, 27, 31, 32] : List Nat) → z0 k = z0 k := fun _ _ => rfl
  refine lv_aload_n hx hb dX7_drawOf_0 rfl (lv_at hl 0 rfl) ?_
  refine lv_ldc2 hx hb hown (hts _ T_1098) dX7_drawOf_1 ?_
  refine lv_aload_n hx hb dX7_drawOf_4 rfl (lv_at hl 0 rfl) ?_
  refine th_get (D := (dC, dI)) (ci := 7) (v := .long q0) (C := RX7) (T := TX7) (N := 34) hx hb hts inX7 hown hK hP (hLK _ ha0 (by decide)) oY0 rfl 33 (by decide) (hts _ T_260) (fun _ h9 => h9) rfl dX7_drawOf_5 ?_
  refine lv_lmul hx hb dX7_drawOf_8 ?_
  refine lv_topl (fun v1 ev1 => ?_)
  have qv1 : v1.toInt = 1103515245 * q0.toInt := by rw [ev1]; exact y_lmul bq0
  refine lv_ldc2 hx hb hown (hts _ T_1099) dX7_drawOf_9 ?_
  refine lv_ladd hx hb dX7_drawOf_12 ?_
  refine lv_topl (fun v2 ev2 => ?_)
  have qv2 : v2.toInt = v1.toInt + 12345 := by rw [ev2]; exact y_l12 ⟨by omega, by omega⟩
  refine lv_ldc2 hx hb hown (hts _ T_1100) dX7_drawOf_13 ?_
  refine lv_lrem hx hb dX7_drawOf_16 (by decide) ?_
  refine lv_topl (fun v3 ev3 => ?_)
  have qv3 : 0 ≤ v3.toInt ∧ v3.toInt < 2147483648 := by have q9 := y_modA (x := v2) (y := 2147483648) (by decide); rw [← ev3] at q9; have q8 : (2147483648 : Int64).toInt = 2147483648 := (by decide); omega
  refine th_put (D := (dC, dI)) (ci := 7) (v := .long v3) (ty := .long) (C := RX7) (T := TX7) (N := 34) hx hb hts inX7 tyX7 tyX7_ok nmX7 hown hK hP hD hS (hLK _ ha0 (by decide)) oY0 rfl 33 (by decide) (hts _ T_260) (fun _ h9 => h9) rfl (by decide +kernel) rfl rfl (Nat.le_of_ble_eq_true rfl) dX7_drawOf_17 (fun H locs hP hS => ?_)
  have bq4 : 0 ≤ (v3 : Int64).toInt ∧ (v3 : Int64).toInt < 2147483648 := ⟨by omega, by omega⟩
  rw [y_fsq] at hP
  have hP : va_P (dC, dI) vwCl (va_pl L (va_up F a0 (.inr (7, y_fl A z0 v3)))) H := hP
  obtain ⟨F5, hF6⟩ : ∃ G : Nat → va_E, G = va_up F a0 (.inr (7, y_fl A z0 v3)) := ⟨_, rfl⟩
  rw [← hF6] at hP
  have hI : y_I K cs A F5 := by rw [hF6]; exact y_clY hA hI ha0 bz0 bq4
  have hfr : ∀ b, K b ∉ [9] → F5 b = F b := by rw [hF6]; exact s_fr hfr ha0 (by decide)
  have oY7 : F5 a0 = .inr (7, y_fl A z0 v3) := by rw [hF6]; exact th_up
  refine lv_aload_n hx hb dX7_drawOf_20 rfl (lv_at hl 0 rfl) ?_
  refine th_get (D := (dC, dI)) (ci := 7) (v := .long v3) (C := RX7) (T := TX7) (N := 34) hx hb hts inX7 hown hK hP (hLK _ ha0 (by decide)) oY7 rfl 33 (by decide) (hts _ T_260) (fun _ h9 => h9) rfl dX7_drawOf_21 ?_
  refine lv_ldc2 hx hb hown (hts _ T_1101) dX7_drawOf_24 ?_
  refine lv_ldiv hx hb dX7_drawOf_27 (by decide) ?_
  refine lv_topl (fun v8 ev8 => ?_)
  have qv8 := th_divL (x := v3) (y := 64) bq4.1 (by decide)
  rw [← ev8] at qv8
  refine lv_iload_n hx hb dX7_drawOf_28 rfl (lv_at hl 1 rfl) ?_
  refine lv_i2l hx hb dX7_drawOf_29 rfl ?_
  refine lv_topl (fun v9 ev9 => ?_)
  have qv9 : v9.toInt = x1.toInt := y_i2l ev9
  refine lv_lrem hx hb dX7_drawOf_30 (by rw [ev9]; exact th_nzL (by omega)) ?_
  refine lv_topl (fun v10 ev10 => ?_)
  have qv10 : 0 ≤ v10.toInt ∧ v10.toInt < x1.toInt := by have q9 := y_modA (x := v8) (y := v9) (by omega); rw [← ev10] at q9; omega
  refine lv_l2i hx hb dX7_drawOf_31 rfl ?_
  refine lv_topi (fun v11 ev11 => ?_)
  have qv11 : v11.toInt = v10.toInt := by rw [ev11]; exact th_l32 ⟨by omega, by omega⟩
  exact W.iret (v := v11) hx hb hr (fun t ht hW => ⟨⟨v11, F5, rfl, ⟨⟨by omega, by omega⟩, trivial, hI, hfr, fun k hk => (y_fiZ oY7 (s_sub (by decide) hk)).trans ((hz0 k hk).trans (y_fiZ oY0 (s_sub (by decide) hk)).symm), (by omega)⟩, by rw [ht]; exact hP, va_K.moved hW.alike hK⟩, hS.F ht⟩) hS.2.2 dX7_drawOf_32

set_option maxHeartbeats 4000000 in
set_option maxRecDepth 100000 in
theorem yt_X7_chance (l : Launch) (dC : Nat → ClassId) (dI : Nat → Nat → Nat) (sz : Nat) {L : List Nat} {K : Nat → Nat} {cs : Nat → ClassId} (hLK : ∀ a {k : Nat}, K a = k → k ≠ 0 → a ∈ L) (A : Nat → Nat) (hA : y_A K A) (F : Nat → va_E) (a0 : Nat) (x1 : Int32) (ha0 : K a0 = 9) (hI : y_I K cs A F) (hT : y_T (y_fi F a0 15) (y_at F (A 13)) (y_at F (A 20)) (y_at F (A 30)) (y_fi F a0 31) (y_fi F a0 32)) : Met l yX7_chance (Cond.code yX7_chance cX7_chance 7 (some .int) :: T0) ({ frames := 8, cells := 0, slots := 0, locals := 188 }) (va_Pc [.ref a0, .int x1] (s_W dC dI sz L F [(cs 0, .int), (cs 1, .byte), (cs 2, .long), (cs 3, .object RX5), (cs 4, .object RX4), (cs 5, .array .int), (cs 6, .char), (cs 7, .boolean)])) (va_Qi (fun (r : Int32) (G : Nat → va_E) => True ∧ True ∧ y_I K cs A G ∧ (∀ b, K b ∉ [9, 59, 70, 71, 72, 80] → G b = F b) ∧ (∀ k, k ∈ ([1, 2, 3, 4, 5, 6, 7, 8, 11, 15, 16, 19, 25, 26, 27] : List Nat) → y_fi G a0 k = y_fi F a0 k) ∧ (y_T (y_fi G a0 15) (y_at G (A 13)) (y_at G (A 20)) (y_at G (A 30)) (y_fi G a0 31) (y_fi G a0 32))) (fun (G : Nat → va_E) (t : State) => va_P (dC, dI) vwCl (va_pl L G) t.heap ∧ va_K (dC, dI) vwCl [(cs 0, .int), (cs 1, .byte), (cs 2, .long), (cs 3, .object RX5), (cs 4, .object RX4), (cs 5, .array .int), (cs 6, .char), (cs 7, .boolean)] t) (fun q => q ∈ L)) 0 0 (fun q => q ∈ L) := by
  refine Met.ofW (cc := cX7_chance) (maxL := 7) (ret := (some .int)) (by decide) rfl ?_
  intro p e s m args below meth c s₁ B hml hv
  obtain ⟨rfl, hsz, hP, hK, hD, hN⟩ := hv
  have hx := B.exec
  have hb := B.bytes
  have hr := B.returns
  have hts : ∀ w ∈ T0, w.before _ s = true := fun w h => atoms_spec (ws := Cond.code yX7_chance cX7_chance 7 (some .int) :: T0) B.pre w (List.mem_cons_of_mem _ h)
  have hown : s.vm.findClass RX7 = some m.cls := findClass_of_methodNamed B.named
  have hlocks := B.notSynchronized
  have hS : va_S (fun q => q ∈ L) s.heap s.heap [] := va_S.rf
  have hfr : ∀ b, K b ∉ [9, 59, 70, 71, 72, 80] → F b = F b := fun _ _ => rfl
  have hl := lv_entry ([.ref a0, .int x1]) (n := 7) (Nat.le_of_ble_eq_true rfl)
  rw [lg_entry_eq]
  generalize (lg_sl ([.ref a0, .int x1]) ++ List.replicate (7 - (lg_sl ([.ref a0, .int x1])).length) Slot.unset).toArray = ls at hl ⊢
  have hl : lv_has ls 7 [(0, .ref a0), (1, .int x1)] := hl
  refine s_gen hP hS (fun H locs hP hS => ?_)
  obtain ⟨z0, q0, oY0, bz0, bq0⟩ := y_opY hI ha0
  have hz0 : ∀ k, k ∈ ([1, 2, 3, 4, 5, 6, 7, 8, 11, 15, 16, 19, 25, 26, 27] : List Nat) → z0 k = z0 k := fun _ _ => rfl
  obtain ⟨f1, o2, b3⟩ := y_op13 hI
  obtain ⟨f4, o5, b6⟩ := y_op20 hI
  obtain ⟨f7, o8, b9⟩ := y_op30 hI
  obtain ⟨v10, ev10⟩ : ∃ y : Int32, y = z0 15 := ⟨_, rfl⟩
  have qv10 : 0 ≤ v10.toInt ∧ v10.toInt ≤ 1 := by rw [ev10]; exact y_bY15 bz0
  have eF_15 := ev10
  obtain ⟨v11, ev11⟩ : ∃ y : Int32, y = z0 31 := ⟨_, rfl⟩
  have qv11 : 0 ≤ v11.toInt ∧ v11.toInt ≤ 20 := by rw [ev11]; exact y_bY31 bz0
  have eF_31 := ev11
  obtain ⟨v12, ev12⟩ : ∃ y : Int32, y = z0 32 := ⟨_, rfl⟩
  have qv12 : 0 ≤ v12.toInt ∧ v12.toInt ≤ 19 := by rw [ev12]; exact y_bY32 bz0
  have eF_32 := ev12
  have hT : y_T v10 f1 f4 f7 v11 v12 := by have q9 := hT; rw [y_fiZ oY0 (k := 15) (by decide), ← ev10, y_atE o2, y_atE o5, y_atE o8, y_fiZ oY0 (k := 31) (by decide), ← ev11, y_fiZ oY0 (k := 32) (by decide), ← ev12] at q9; exact q9
  have e0_v10 := ev10
  have e0_v11 := ev11
  have e0_v12 := ev12
  refine lv_aload_n hx hb dX7_chance_0 rfl (lv_at hl 0 rfl) ?_
  refine th_get (D := (dC, dI)) (ci := 7) (v := .int (z0 15)) (C := RX7) (T := TX7) (N := 34) hx hb hts inX7 hown hK hP (hLK _ ha0 (by decide)) oY0 rfl 15 (by decide) (hts _ T_271) (fun _ h9 => h9) rfl dX7_chance_1 ?_
  refine ax_eqi (y := v10) ev10.symm ?_
  refine lv_if_eq (tgt := 19) hx hb dX7_chance_4 (by decide) (fun c13 => ?_) (fun c13 => ?_)
  · have c13 := (ax_eq (n := 0) (by decide)).mp c13
    refine lv_aload_n hx hb dX7_chance_19 rfl (lv_at hl 0 rfl) ?_
    refine lv_iconst (v := 2) hx hb dX7_chance_20 (by decide) ?_
    refine va_calli (va_runV (As := [.int 2]) (rest := []) ⟨hx, hb, hml, hown, hts⟩ (y_X7_refuses l dC dI H.size hLK A hA F a0 2 ha0 (by decide) hI) (cwV 1 hts (ax_gV T_310 T_311 T_312 T_265 T_33) rfl rfl rfl (by decide +kernel) ⟨Nat.le_of_ble_eq_true rfl, Nat.le_of_ble_eq_true rfl⟩) ⟨fun a U g mk q => ⟨q.1, s_pc (U := U) rfl rfl q.2⟩, s_recv hK hP (hLK _ ha0 (by decide)) (ci := 7) rfl oY0, fun U hU hW => ⟨rfl, s_pw hU hW hP hK hD hN⟩⟩ rfl rfl hl.1 rfl (lv_room (Nat.le_of_ble_eq_true rfl)) dX7_chance_21 ⟨Nat.zero_le _, Nat.zero_le _⟩) hS (fun q _ h => h) (fun q h => h) (fun r15 F16 t H1 locs ht hvm hw hB hz1 hk1 hS => ?_)
    obtain ⟨hP, hK1⟩ := hB
    rw [ht] at hP
    generalize H1 = H at hP hS ⊢
    clear hz1 hk1 hvm hK1
    obtain ⟨h17, h19, hI, hfr1, hzf, h18⟩ := hw
    have o20 : F16 (A 13) = .inl (cs 0, 400, .inl f1) := (hfr1 _ (by rw [(y_k13 hA)]; decide)).trans o2
    have o21 : F16 (A 20) = .inl (cs 0, 918, .inl f4) := (hfr1 _ (by rw [(y_k20 hA)]; decide)).trans o5
    have o22 : F16 (A 30) = .inl (cs 0, 18360, .inl f7) := (hfr1 _ (by rw [(y_k30 hA)]; decide)).trans o8
    have oY23 : F16 a0 = .inr (7, y_fl A z0 q0) := (hfr1 _ (by rw [ha0]; decide)).trans oY0
    have hfr : ∀ b, K b ∉ [9, 59, 70, 71, 72, 80] → F16 b = F b := fun b hb9 => (hfr1 b (fun q => hb9 (s_sub (by decide) q))).trans (hfr b hb9)
    exact W.iret (v := r15) hx hb hr (fun t ht hW => ⟨⟨r15, F16, rfl, ⟨trivial, trivial, hI, hfr, fun k hk => (y_fiZ oY23 (s_sub (by decide) hk)).trans ((hz0 k hk).trans (y_fiZ oY0 (s_sub (by decide) hk)).symm), (by rw [y_fiZ oY23 (k := 15) (by decide), ← ev10, y_atE o20, y_atE o21, y_atE o22, y_fiZ oY23 (k := 31) (by decide), ← ev11, y_fiZ oY23 (k := 32) (by decide), ← ev12]; exact hT)⟩, by rw [ht]; exact hP, va_K.moved hW.alike hK⟩, hS.F ht⟩) hS.2.2 dX7_chance_24
  · have c13 := mt (ax_eq (n := 0) (by decide)).mpr c13
    obtain ⟨htd, hPG, hNG, hUG⟩ := y_TT hT (by omega)
    have hL := y_P0L hPG.1
    have hW := y_P0W hPG.1
    have hnn := And.intro hNG.1 (And.intro hNG.2.1 (And.intro hNG.2.2.1 hNG.2.2.2.1))
    refine lv_iload_n hx hb dX7_chance_7 rfl (lv_at hl 1 rfl) ?_
    refine lv_i2l hx hb dX7_chance_8 rfl ?_
    refine lv_topl (fun v24 ev24 => ?_)
    have qv24 : v24.toInt = x1.toInt := y_i2l ev24
    refine lv_lconst (v := 1) hx hb dX7_chance_9 (by decide) ?_
    refine lv_ldc2 hx hb hown (hts _ T_1065) dX7_chance_10 ?_
    refine va_calli (va_runS (As := [.long v24, .long 1, .long 20]) (rest := []) ⟨hx, hb, hml, hown, hts⟩ (y_X7_isIn l dC dI H.size F v24 1 20) (cwS 3 hts (ax_gS T_267 T_268 T_265 T_21) rfl rfl rfl (by decide +kernel) ⟨Nat.le_of_ble_eq_true rfl, Nat.le_of_ble_eq_true rfl⟩) ⟨fun a U g mk q => ⟨q.1, s_pc (U := U) rfl rfl q.2⟩, fun U hU hW => ⟨rfl, s_pw hU hW hP hK hD hN⟩⟩ rfl rfl hl.1 rfl (lv_room (Nat.le_of_ble_eq_true rfl)) dX7_chance_13 ⟨Nat.zero_le _, Nat.zero_le _⟩) hS (fun q _ h => h) (fun q h => h) (fun r26 F27 t H1 locs ht hvm hw hB hz1 hk1 hS => ?_)
    obtain ⟨hP, hK1⟩ := hB
    rw [ht] at hP
    generalize H1 = H at hP hS ⊢
    clear hz1 hk1 hvm hK1
    obtain ⟨h28, h30, hG9, h29⟩ := hw
    rw [hG9] at hP
    have h29 : ((r26.toInt = 0 ∧ (v24.toInt < 1 ∨ 20 < v24.toInt)) ∨ (r26.toInt = 1 ∧ 1 ≤ v24.toInt ∧ v24.toInt ≤ 20)) := by have q9 := h29; exact q9
    refine lv_if_ne (tgt := 25) hx hb dX7_chance_16 (by decide) (fun c31 => ?_) (fun c31 => ?_)
    · have c31 := mt (ax_eq (n := 0) (by decide)).mpr c31
      refine lv_aload_n hx hb dX7_chance_25 rfl (lv_at hl 0 rfl) ?_
      refine va_callv (va_runV (As := []) (rest := []) ⟨hx, hb, hml, hown, hts⟩ (y_X7_keeps l dC dI H.size hLK A hA F a0 ha0 hI (by rw [y_atE o2]; exact hPG) (by rw [y_atE o2, y_atE o5]; exact hNG) (by rw [y_atE o2, y_atE o8, y_fiZ oY0 (k := 31) (by decide), ← ev11, y_fiZ oY0 (k := 32) (by decide), ← ev12]; exact hUG)) (cwV 0 hts (ax_gV T_1013 T_1015 T_1016 T_265 T_1014) rfl rfl rfl (by decide +kernel) ⟨Nat.le_of_ble_eq_true rfl, Nat.le_of_ble_eq_true rfl⟩) ⟨fun a U g mk q => ⟨q.1, s_pc (U := U) rfl rfl q.2⟩, s_recv hK hP (hLK _ ha0 (by decide)) (ci := 7) rfl oY0, fun U hU hW => ⟨rfl, s_pw hU hW hP hK hD hN⟩⟩ rfl rfl hl.1 rfl (lv_room (Nat.le_of_ble_eq_true rfl)) dX7_chance_26 ⟨Nat.zero_le _, Nat.zero_le _⟩) hS (fun q _ h => h) (fun q h => h) (fun F33 t H1 locs ht hvm hw hB hz1 hk1 hS => ?_)
      obtain ⟨hP, hK1⟩ := hB
      rw [ht] at hP
      generalize H1 = H at hP hS ⊢
      clear hz1 hk1 hvm hK1
      obtain ⟨h34, h36, hI, hfr1, hzf, h35⟩ := hw
      have o37 : F33 (A 13) = .inl (cs 0, 400, .inl f1) := (hfr1 _ (by rw [(y_k13 hA)]; decide)).trans o2
      have o38 : F33 (A 20) = .inl (cs 0, 918, .inl f4) := (hfr1 _ (by rw [(y_k20 hA)]; decide)).trans o5
      obtain ⟨z39, q40, oY41, bz42, bq43⟩ := y_opY hI ha0
      have hzf : ∀ k, k ∈ ([1, 2, 3, 4, 5, 6, 7, 8, 11, 15, 16, 19, 25, 26, 27] : List Nat) → z39 k = z0 k := fun k hk => by have q9 := hzf k hk; rw [y_fiZ oY41 (s_sub (by decide) hk), y_fiZ oY0 (s_sub (by decide) hk)] at q9; exact q9
      have hz0 : ∀ k, k ∈ ([1, 2, 3, 4, 5, 6, 7, 8, 11, 15, 16, 19, 25, 26, 27] : List Nat) → z39 k = z0 k := fun k hk => (hzf k (s_sub (by decide) hk)).trans (hz0 k hk)
      have ev10 : v10 = z39 15 := ev10.trans (hzf 15 (by decide)).symm
      have hfr : ∀ b, K b ∉ [9, 59, 70, 71, 72, 80] → F33 b = F b := fun b hb9 => (hfr1 b (fun q => hb9 (s_sub (by decide) q))).trans (hfr b hb9)
      obtain ⟨f44, o45, b46⟩ := y_op30 hI
      obtain ⟨v47, ev47⟩ : ∃ y : Int32, y = z39 31 := ⟨_, rfl⟩
      have qv47 : 0 ≤ v47.toInt ∧ v47.toInt ≤ 20 := by rw [ev47]; exact y_bY31 bz42
      obtain ⟨v48, ev48⟩ : ∃ y : Int32, y = z39 32 := ⟨_, rfl⟩
      have qv48 : 0 ≤ v48.toInt ∧ v48.toInt ≤ 19 := by rw [ev48]; exact y_bY32 bz42
      have h35 : (y_UG f1 f44 v47.toInt v48.toInt) := by have q9 := h35; rw [y_atE o2, y_atE o45, y_fiZ oY41 (k := 31) (by decide), ← ev47, y_fiZ oY41 (k := 32) (by decide), ← ev48] at q9; exact q9
      refine lv_aload_n hx hb dX7_chance_29 rfl (lv_at hl 0 rfl) ?_
      refine th_get (D := (dC, dI)) (ci := 7) (v := .ref (A 20)) (C := RX7) (T := TX7) (N := 34) hx hb hts inX7 hown hK hP (hLK _ ha0 (by decide)) oY41 rfl 20 (by decide) (hts _ T_251) (fun _ h9 => h9) rfl dX7_chance_30 ?_
      refine lv_iconst (v := 1) hx hb dX7_chance_33 (by decide) ?_
      refine th_iald hx hb hK hP (hLK _ (y_k20 hA) (by decide)) 0 o38 rfl (ax_in (by decide)) dX7_chance_34 ?_
      refine lv_topi (fun v49 ev49 => ?_)
      refine lv_istore_n (lv' := [(2, .int v49), (0, .ref a0), (1, .int x1)]) hx hb dX7_chance_35 rfl hl (by decide) rfl (fun ls hl => ?_)
      refine lv_iconst (v := 0) hx hb dX7_chance_36 (by decide) ?_
      refine lv_istore_n (lv' := [(3, .int 0), (2, .int v49), (0, .ref a0), (1, .int x1)]) hx hb dX7_chance_37 rfl hl (by decide) rfl (fun ls hl => ?_)
      have h51 : (0 : Int32).toInt = 0 := by decide
      refine th_loop (fun n g H locs => ∃ (G : Nat → va_E) (ls : Array Slot) (w50 : Int32), g = F0 m 38 ls [] ∧ lv_has ls 7 [(0, .ref a0), (1, .int x1), (2, .int v49), (3, .int w50)] ∧ va_P (dC, dI) vwCl (va_pl L G) H ∧ va_S (fun q => q ∈ L) s.heap H locs ∧ y_I K cs A G ∧ (∀ b, K b ∉ [9, 59, 70, 71, 72, 80] → G b = F b) ∧ (∀ k, k ∈ ([1, 2, 3, 4, 5, 6, 7, 8, 11, 15, 16, 19, 25, 26, 27] : List Nat) → y_fi G a0 k = z0 k) ∧ (0 ≤ w50.toInt ∧ w50.toInt ≤ 20) ∧ (y_NG f1 (y_at G (A 20))) ∧ (y_UG f1 (y_at G (A 30)) (y_fi G a0 31).toInt (y_fi G a0 32).toInt) ∧ n = (21 - w50.toInt).toNat) _ ⟨F33, _, 0, rfl, lv_sub hl [2, 3, 1, 0] rfl, hP, hS, hI, hfr, (fun k hk => (y_fiZ oY41 (s_sub (by decide) hk)).trans (hz0 k hk)), (by decide), (by rw [y_atE o38]; exact hNG), (by rw [y_atE o45, y_fiZ oY41 (k := 31) (by decide), ← ev47, y_fiZ oY41 (k := 32) (by decide), ← ev48]; exact h35), rfl⟩ (fun n ih38 g H locs hq => ?_)
      obtain ⟨F55, ls, w50, rfl, hl, hP, hS, hI, hfr, hz0, h52, h53, h54, hn⟩ := hq
      have o56 : F55 (A 13) = .inl (cs 0, 400, .inl f1) := (hfr _ (by rw [(y_k13 hA)]; decide)).trans o2
      obtain ⟨z57, q58, oY59, bz60, bq61⟩ := y_opY hI ha0
      have hz0 : ∀ k, k ∈ ([1, 2, 3, 4, 5, 6, 7, 8, 11, 15, 16, 19, 25, 26, 27] : List Nat) → z57 k = z0 k := fun k hk => (y_fiZ oY59 (s_sub (by decide) hk)).symm.trans (hz0 k hk)
      have ev10 : v10 = z57 15 := e0_v10.trans (hz0 15 (by decide)).symm
      obtain ⟨f62, o63, b64⟩ := y_op20 hI
      have h53 : (y_NG f1 f62) := by have q9 := h53; rw [y_atE o63] at q9; exact q9
      obtain ⟨f65, o66, b67⟩ := y_op30 hI
      obtain ⟨v68, ev68⟩ : ∃ y : Int32, y = z57 31 := ⟨_, rfl⟩
      have qv68 : 0 ≤ v68.toInt ∧ v68.toInt ≤ 20 := by rw [ev68]; exact y_bY31 bz60
      obtain ⟨v69, ev69⟩ : ∃ y : Int32, y = z57 32 := ⟨_, rfl⟩
      have qv69 : 0 ≤ v69.toInt ∧ v69.toInt ≤ 19 := by rw [ev69]; exact y_bY32 bz60
      have h54 : (y_UG f1 f65 v68.toInt v69.toInt) := by have q9 := h54; rw [y_atE o66, y_fiZ oY59 (k := 31) (by decide), ← ev68, y_fiZ oY59 (k := 32) (by decide), ← ev69] at q9; exact q9
      have hn_69 := hn
      refine lv_iload_n hx hb dX7_chance_38 rfl (lv_at hl 3 rfl) ?_
      refine lv_iload_n hx hb dX7_chance_39 rfl (lv_at hl 1 rfl) ?_
      have h70 : 1 ≤ x1.toInt ∧ x1.toInt ≤ 20 := ⟨by omega, by omega⟩
      refine lv_icmp_ge (tgt := 115) hx hb dX7_chance_40 (by decide) (fun c71 => ?_) (fun c71 => ?_)
      · have c71 := Int32.le_iff_toInt_le.mp c71
        refine lv_aload_n hx hb dX7_chance_115 rfl (lv_at hl 0 rfl) ?_
        refine th_get (D := (dC, dI)) (ci := 7) (v := .ref (A 20)) (C := RX7) (T := TX7) (N := 34) hx hb hts inX7 hown hK hP (hLK _ ha0 (by decide)) oY59 rfl 20 (by decide) (hts _ T_251) (fun _ h9 => h9) rfl dX7_chance_116 ?_
        refine lv_iconst (v := 1) hx hb dX7_chance_119 (by decide) ?_
        refine th_iald hx hb hK hP (hLK _ (y_k20 hA) (by decide)) 0 o63 rfl (ax_in (by decide)) dX7_chance_120 ?_
        refine lv_topi (fun v72 ev72 => ?_)
        refine lv_iload_n hx hb dX7_chance_121 rfl (lv_at hl 2 rfl) ?_
        refine lv_isub hx hb dX7_chance_122 ?_
        refine lv_topi (fun v73 ev73 => ?_)
        exact W.iret (v := v73) hx hb hr (fun t ht hW => ⟨⟨v73, F55, rfl, ⟨trivial, trivial, hI, hfr, fun k hk => (y_fiZ oY59 (s_sub (by decide) hk)).trans ((hz0 k hk).trans (y_fiZ oY0 (s_sub (by decide) hk)).symm), (by rw [y_fiZ oY59 (k := 15) (by decide), ← ev10, y_atE o56, y_atE o63, y_atE o66, y_fiZ oY59 (k := 31) (by decide), ← ev68, y_fiZ oY59 (k := 32) (by decide), ← ev69]; exact (Or.inr ⟨by omega, hPG, h53, h54⟩))⟩, by rw [ht]; exact hP, va_K.moved hW.alike hK⟩, hS.F ht⟩) hS.2.2 dX7_chance_123
      · have c71 := mt Int32.le_iff_toInt_le.mpr c71
        refine lv_aload_n hx hb dX7_chance_43 rfl (lv_at hl 0 rfl) ?_
        refine lv_bipush (v := 64) hx hb dX7_chance_44 (by decide) ?_
        refine va_calli (va_runV (As := [.int 64]) (rest := []) ⟨hx, hb, hml, hown, hts⟩ (y_X7_drawOf l dC dI H.size hLK A hA F55 a0 64 ha0 (by decide) hI) (cwV 1 hts (ax_gV T_1066 T_1068 T_1069 T_265 T_1067) rfl rfl rfl (by decide +kernel) ⟨Nat.le_of_ble_eq_true rfl, Nat.le_of_ble_eq_true rfl⟩) ⟨fun a U g mk q => ⟨q.1, s_pc (U := U) rfl rfl q.2⟩, s_recv hK hP (hLK _ ha0 (by decide)) (ci := 7) rfl oY59, fun U hU hW => ⟨rfl, s_pw hU hW hP hK hD hN⟩⟩ rfl rfl hl.1 rfl (lv_room (Nat.le_of_ble_eq_true rfl)) dX7_chance_46 ⟨Nat.zero_le _, Nat.zero_le _⟩) hS (fun q _ h => h) (fun q h => h) (fun r75 F76 t H1 locs ht hvm hw hB hz1 hk1 hS => ?_)
        obtain ⟨hP, hK1⟩ := hB
        rw [ht] at hP
        generalize H1 = H at hP hS ⊢
        clear hz1 hk1 hvm hK1
        obtain ⟨h77, h79, hI, hfr1, hzf, h78⟩ := hw
        have o80 : F76 (A 13) = .inl (cs 0, 400, .inl f1) := (hfr1 _ (by rw [(y_k13 hA)]; decide)).trans o56
        have o81 : F76 (A 20) = .inl (cs 0, 918, .inl f62) := (hfr1 _ (by rw [(y_k20 hA)]; decide)).trans o63
        have o82 : F76 (A 30) = .inl (cs 0, 18360, .inl f65) := (hfr1 _ (by rw [(y_k30 hA)]; decide)).trans o66
        obtain ⟨z83, q84, oY85, bz86, bq87⟩ := y_opY hI ha0
        have hzf : ∀ k, k ∈ ([1, 2, 3, 4, 5, 6, 7, 8, 11, 15, 16, 19, 25, 26, 27, 31, 32] : List Nat) → z83 k = z57 k := fun k hk => by have q9 := hzf k hk; rw [y_fiZ oY85 (s_sub (by decide) hk), y_fiZ oY59 (s_sub (by decide) hk)] at q9; exact q9
        have hz0 : ∀ k, k ∈ ([1, 2, 3, 4, 5, 6, 7, 8, 11, 15, 16, 19, 25, 26, 27] : List Nat) → z83 k = z0 k := fun k hk => (hzf k (s_sub (by decide) hk)).trans (hz0 k hk)
        have ev10 : v10 = z83 15 := ev10.trans (hzf 15 (by decide)).symm
        have ev68 : v68 = z83 31 := ev68.trans (hzf 31 (by decide)).symm
        have ev69 : v69 = z83 32 := ev69.trans (hzf 32 (by decide)).symm
        have hfr : ∀ b, K b ∉ [9, 59, 70, 71, 72, 80] → F76 b = F b := fun b hb9 => (hfr1 b (fun q => hb9 (s_sub (by decide) q))).trans (hfr b hb9)
        have h78 : (0 ≤ r75.toInt ∧ r75.toInt < 64) := by have q9 := h78; exact q9
        refine lv_istore (lv' := [(4, .int r75), (0, .ref a0), (1, .int x1), (2, .int v49), (3, .int w50)]) hx hb dX7_chance_49 hl (by decide) rfl (fun ls hl => ?_)
        refine lv_aload_n hx hb dX7_chance_51 rfl (lv_at hl 1 rfl) ?_
        refine th_get (D := (dC, dI)) (ci := 7) (v := .ref (A 20)) (C := RX7) (T := TX7) (N := 34) hx hb hts inX7 hown hK hP (hLK _ ha0 (by decide)) oY85 rfl 20 (by decide) (hts _ T_251) (fun _ h9 => h9) rfl dX7_chance_52 ?_
        refine lv_bipush (v := 8) hx hb dX7_chance_55 (by decide) ?_
        refine lv_iload hx hb dX7_chance_57 (lv_at hl 0 rfl) ?_
        refine lv_iadd hx hb dX7_chance_59 ?_
        refine lv_topi (fun v88 ev88 => ?_)
        have qv88 : v88.toInt = 8 + r75.toInt := by rw [ev88]; exact th_add (by decide) rfl ⟨by omega, by omega⟩
        refine lv_aload_n hx hb dX7_chance_60 rfl (lv_at hl 1 rfl) ?_
        refine lv_bipush (v := 16) hx hb dX7_chance_61 (by decide) ?_
        refine va_calli (va_runV (As := [.int 16]) (rest := [.int v88, .ref (A 20)]) ⟨hx, hb, hml, hown, hts⟩ (y_X7_drawOf l dC dI H.size hLK A hA F76 a0 16 ha0 (by decide) hI) (cwV 1 hts (ax_gV T_1066 T_1068 T_1069 T_265 T_1067) rfl rfl rfl (by decide +kernel) ⟨Nat.le_of_ble_eq_true rfl, Nat.le_of_ble_eq_true rfl⟩) ⟨fun a U g mk q => ⟨q.1, s_pc (U := U) rfl rfl q.2⟩, s_recv hK hP (hLK _ ha0 (by decide)) (ci := 7) rfl oY85, fun U hU hW => ⟨rfl, s_pw hU hW hP hK hD hN⟩⟩ rfl rfl hl.1 rfl (lv_room (Nat.le_of_ble_eq_true rfl)) dX7_chance_63 ⟨Nat.zero_le _, Nat.zero_le _⟩) hS (fun q _ h => h) (fun q h => h) (fun r90 F91 t H1 locs ht hvm hw hB hz1 hk1 hS => ?_)
        obtain ⟨hP, hK1⟩ := hB
        rw [ht] at hP
        generalize H1 = H at hP hS ⊢
        clear hz1 hk1 hvm hK1
        obtain ⟨h92, h94, hI, hfr1, hzf, h93⟩ := hw
        have o95 : F91 (A 13) = .inl (cs 0, 400, .inl f1) := (hfr1 _ (by rw [(y_k13 hA)]; decide)).trans o80
        have o96 : F91 (A 20) = .inl (cs 0, 918, .inl f62) := (hfr1 _ (by rw [(y_k20 hA)]; decide)).trans o81
        have o97 : F91 (A 30) = .inl (cs 0, 18360, .inl f65) := (hfr1 _ (by rw [(y_k30 hA)]; decide)).trans o82
        obtain ⟨z98, q99, oY100, bz101, bq102⟩ := y_opY hI ha0
        have hzf : ∀ k, k ∈ ([1, 2, 3, 4, 5, 6, 7, 8, 11, 15, 16, 19, 25, 26, 27, 31, 32] : List Nat) → z98 k = z83 k := fun k hk => by have q9 := hzf k hk; rw [y_fiZ oY100 (s_sub (by decide) hk), y_fiZ oY85 (s_sub (by decide) hk)] at q9; exact q9
        have hz0 : ∀ k, k ∈ ([1, 2, 3, 4, 5, 6, 7, 8, 11, 15, 16, 19, 25, 26, 27] : List Nat) → z98 k = z0 k := fun k hk => (hzf k (s_sub (by decide) hk)).trans (hz0 k hk)
        have ev10 : v10 = z98 15 := ev10.trans (hzf 15 (by decide)).symm
        have ev68 : v68 = z98 31 := ev68.trans (hzf 31 (by decide)).symm
        have ev69 : v69 = z98 32 := ev69.trans (hzf 32 (by decide)).symm
        have hfr : ∀ b, K b ∉ [9, 59, 70, 71, 72, 80] → F91 b = F b := fun b hb9 => (hfr1 b (fun q => hb9 (s_sub (by decide) q))).trans (hfr b hb9)
        have h93 : (0 ≤ r90.toInt ∧ r90.toInt < 16) := by have q9 := h93; exact q9
        refine th_iast hx hb hK hP hD hS (hLK _ (y_k20 hA) (by decide)) 0 o96 rfl (th_in ⟨by omega, by omega⟩) dX7_chance_66 (fun H locs hP hS => ?_)
        obtain ⟨f103, u104⟩ : ∃ g : Nat → Int32, g = upd f62 (v88 : Int32).toNatClampNeg r90 := ⟨_, rfl⟩
        rw [← u104] at hP
        have b105 : y_bd 20 f103 := trivial
        have hP : va_P (dC, dI) vwCl (va_pl L (va_up F91 (A 20) (.inl (cs 0, 918, .inl f103)))) H := hP
        obtain ⟨F106, hF107⟩ : ∃ G : Nat → va_E, G = va_up F91 (A 20) (.inl (cs 0, 918, .inl f103)) := ⟨_, rfl⟩
        rw [← hF107] at hP
        have hI : y_I K cs A F106 := by rw [hF107]; exact y_clA (i := 20) hA hI (by decide) b105
        have hfr : ∀ b, K b ∉ [9, 59, 70, 71, 72, 80] → F106 b = F b := by rw [hF107]; exact s_fr hfr (y_k20 hA) (by decide)
        have o108 : F106 (A 13) = .inl (cs 0, 400, .inl f1) := by rw [hF107]; exact th_ne (th_kd (y_k13 hA) (y_k20 hA) (by decide)) o95
        have o109 : F106 (A 30) = .inl (cs 0, 18360, .inl f65) := by rw [hF107]; exact th_ne (th_kd (y_k30 hA) (y_k20 hA) (by decide)) o97
        have oY110 : F106 a0 = .inr (7, y_fl A z98 q99) := by rw [hF107]; exact th_ne (th_kd ha0 (y_k20 hA) (by decide)) oY100
        have o111 : F106 (A 20) = .inl (cs 0, 918, .inl f103) := by rw [hF107]; exact th_up
        have u112 : ∀ j : Int, 0 ≤ j → y_c f103 j = if j = v88.toInt then r90 else y_c f62 j := by rw [u104]; exact y_cu rfl (by omega)
        have k113 : y_NG f1 f103 := y_NGe (y_E_u u112 (by omega)) h53 (by rw [u112 6 (by omega), if_neg (by omega)]; exact h53.2.2.1) (by rw [u112 7 (by omega), if_neg (by omega)]; exact h53.2.2.2.1) (by omega)
        refine lv_aload_n hx hb dX7_chance_67 rfl (lv_at hl 1 rfl) ?_
        refine lv_bipush (v := 8) hx hb dX7_chance_68 (by decide) ?_
        refine va_calli (va_runV (As := [.int 8]) (rest := []) ⟨hx, hb, hml, hown, hts⟩ (y_X7_drawOf l dC dI H.size hLK A hA F106 a0 8 ha0 (by decide) hI) (cwV 1 hts (ax_gV T_1066 T_1068 T_1069 T_265 T_1067) rfl rfl rfl (by decide +kernel) ⟨Nat.le_of_ble_eq_true rfl, Nat.le_of_ble_eq_true rfl⟩) ⟨fun a U g mk q => ⟨q.1, s_pc (U := U) rfl rfl q.2⟩, s_recv hK hP (hLK _ ha0 (by decide)) (ci := 7) rfl oY110, fun U hU hW => ⟨rfl, s_pw hU hW hP hK hD hN⟩⟩ rfl rfl hl.1 rfl (lv_room (Nat.le_of_ble_eq_true rfl)) dX7_chance_70 ⟨Nat.zero_le _, Nat.zero_le _⟩) hS (fun q _ h => h) (fun q h => h) (fun r115 F116 t H1 locs ht hvm hw hB hz1 hk1 hS => ?_)
        obtain ⟨hP, hK1⟩ := hB
        rw [ht] at hP
        generalize H1 = H at hP hS ⊢
        clear hz1 hk1 hvm hK1
        obtain ⟨h117, h119, hI, hfr1, hzf, h118⟩ := hw
        have o120 : F116 (A 13) = .inl (cs 0, 400, .inl f1) := (hfr1 _ (by rw [(y_k13 hA)]; decide)).trans o108
        have o121 : F116 (A 20) = .inl (cs 0, 918, .inl f103) := (hfr1 _ (by rw [(y_k20 hA)]; decide)).trans o111
        have o122 : F116 (A 30) = .inl (cs 0, 18360, .inl f65) := (hfr1 _ (by rw [(y_k30 hA)]; decide)).trans o109
        obtain ⟨z123, q124, oY125, bz126, bq127⟩ := y_opY hI ha0
        have hzf : ∀ k, k ∈ ([1, 2, 3, 4, 5, 6, 7, 8, 11, 15, 16, 19, 25, 26, 27, 31, 32] : List Nat) → z123 k = z98 k := fun k hk => by have q9 := hzf k hk; rw [y_fiZ oY125 (s_sub (by decide) hk), y_fiZ oY110 (s_sub (by decide) hk)] at q9; exact q9
        have hz0 : ∀ k, k ∈ ([1, 2, 3, 4, 5, 6, 7, 8, 11, 15, 16, 19, 25, 26, 27] : List Nat) → z123 k = z0 k := fun k hk => (hzf k (s_sub (by decide) hk)).trans (hz0 k hk)
        have ev10 : v10 = z123 15 := ev10.trans (hzf 15 (by decide)).symm
        have ev68 : v68 = z123 31 := ev68.trans (hzf 31 (by decide)).symm
        have ev69 : v69 = z123 32 := ev69.trans (hzf 32 (by decide)).symm
        have hfr : ∀ b, K b ∉ [9, 59, 70, 71, 72, 80] → F116 b = F b := fun b hb9 => (hfr1 b (fun q => hb9 (s_sub (by decide) q))).trans (hfr b hb9)
        have h118 : (0 ≤ r115.toInt ∧ r115.toInt < 8) := by have q9 := h118; exact q9
        refine lv_iconst (v := 1) hx hb dX7_chance_73 (by decide) ?_
        refine lv_iadd hx hb dX7_chance_74 ?_
        refine lv_topi (fun v128 ev128 => ?_)
        have qv128 : v128.toInt = r115.toInt + 1 := by rw [ev128]; exact th_add rfl (by decide) ⟨by omega, by omega⟩
        refine lv_istore (lv' := [(5, .int v128), (4, .int r75), (0, .ref a0), (1, .int x1), (2, .int v49), (3, .int w50)]) hx hb dX7_chance_75 hl (by decide) rfl (fun ls hl => ?_)
        refine lv_iconst (v := 0) hx hb dX7_chance_77 (by decide) ?_
        refine lv_istore (lv' := [(6, .int 0), (5, .int v128), (4, .int r75), (0, .ref a0), (1, .int x1), (2, .int v49), (3, .int w50)]) hx hb dX7_chance_78 hl (by decide) rfl (fun ls hl => ?_)
        have h130 : (0 : Int32).toInt = 0 := by decide
        refine th_loop (fun n g H locs => ∃ (G : Nat → va_E) (ls : Array Slot) (w129 : Int32), g = F0 m 80 ls [] ∧ lv_has ls 7 [(0, .ref a0), (1, .int x1), (2, .int v49), (3, .int w50), (5, .int v128), (6, .int w129)] ∧ va_P (dC, dI) vwCl (va_pl L G) H ∧ va_S (fun q => q ∈ L) s.heap H locs ∧ y_I K cs A G ∧ (∀ b, K b ∉ [9, 59, 70, 71, 72, 80] → G b = F b) ∧ (∀ k, k ∈ ([1, 2, 3, 4, 5, 6, 7, 8, 11, 15, 16, 19, 25, 26, 27] : List Nat) → y_fi G a0 k = z0 k) ∧ (0 ≤ w129.toInt ∧ w129.toInt ≤ 64) ∧ (1 ≤ x1.toInt ∧ x1.toInt ≤ 20) ∧ (0 ≤ w50.toInt ∧ w50.toInt ≤ 19) ∧ (1 ≤ v128.toInt ∧ v128.toInt ≤ 64) ∧ (y_NG f1 (y_at G (A 20))) ∧ (y_UG f1 (y_at G (A 30)) (y_fi G a0 31).toInt (y_fi G a0 32).toInt) ∧ n = (65 - w129.toInt).toNat) _ ⟨F116, _, 0, rfl, lv_sub hl [3, 4, 5, 6, 1, 0] rfl, hP, hS, hI, hfr, (fun k hk => (y_fiZ oY125 (s_sub (by decide) hk)).trans (hz0 k hk)), (by decide), ⟨by omega, by omega⟩, ⟨by omega, by omega⟩, ⟨by omega, by omega⟩, (by rw [y_atE o121]; exact k113), (by rw [y_atE o122, y_fiZ oY125 (k := 31) (by decide), ← ev68, y_fiZ oY125 (k := 32) (by decide), ← ev69]; exact h54), rfl⟩ (fun n ih80 g H locs hq => ?_)
        obtain ⟨F137, ls, w129, rfl, hl, hP, hS, hI, hfr, hz0, h131, h132, h133, h134, h135, h136, hn⟩ := hq
        have o138 : F137 (A 13) = .inl (cs 0, 400, .inl f1) := (hfr _ (by rw [(y_k13 hA)]; decide)).trans o2
        obtain ⟨z139, q140, oY141, bz142, bq143⟩ := y_opY hI ha0
        have hz0 : ∀ k, k ∈ ([1, 2, 3, 4, 5, 6, 7, 8, 11, 15, 16, 19, 25, 26, 27] : List Nat) → z139 k = z0 k := fun k hk => (y_fiZ oY141 (s_sub (by decide) hk)).symm.trans (hz0 k hk)
        have ev10 : v10 = z139 15 := e0_v10.trans (hz0 15 (by decide)).symm
        obtain ⟨f144, o145, b146⟩ := y_op20 hI
        have h135 : (y_NG f1 f144) := by have q9 := h135; rw [y_atE o145] at q9; exact q9
        obtain ⟨f147, o148, b149⟩ := y_op30 hI
        obtain ⟨v150, ev150⟩ : ∃ y : Int32, y = z139 31 := ⟨_, rfl⟩
        have qv150 : 0 ≤ v150.toInt ∧ v150.toInt ≤ 20 := by rw [ev150]; exact y_bY31 bz142
        obtain ⟨v151, ev151⟩ : ∃ y : Int32, y = z139 32 := ⟨_, rfl⟩
        have qv151 : 0 ≤ v151.toInt ∧ v151.toInt ≤ 19 := by rw [ev151]; exact y_bY32 bz142
        have h136 : (y_UG f1 f147 v150.toInt v151.toInt) := by have q9 := h136; rw [y_atE o148, y_fiZ oY141 (k := 31) (by decide), ← ev150, y_fiZ oY141 (k := 32) (by decide), ← ev151] at q9; exact q9
        have hn_151 := hn
        refine lv_iload hx hb dX7_chance_80 (lv_at hl 5 rfl) ?_
        refine lv_iload hx hb dX7_chance_82 (lv_at hl 4 rfl) ?_
        refine lv_icmp_ge (tgt := 109) hx hb dX7_chance_84 (by decide) (fun c152 => ?_) (fun c152 => ?_)
        · have c152 := Int32.le_iff_toInt_le.mp c152
          obtain ⟨v153, ev153⟩ : ∃ y : Int32, w50 + 1 = y := ⟨_, rfl⟩
          have qv153 : v153.toInt = w50.toInt + 1 := by rw [← ev153]; exact th_add rfl (by decide) ⟨by omega, by omega⟩
          refine lv_iinc (v := v153) (lv' := [(3, .int v153), (0, .ref a0), (1, .int x1), (2, .int v49), (5, .int v128), (6, .int w129)]) hx hb dX7_chance_109 hl (k := 3) rfl ev153 (by decide) rfl (fun ls hl => ?_)
          refine lv_goto (tgt := 38) hx hb dX7_chance_112 (by decide) ?_
          exact ih38 _ _ _ _ (by omega) ⟨F137, _, v153, rfl, lv_sub hl [1, 2, 3, 0] rfl, hP, hS, hI, hfr, (fun k hk => (y_fiZ oY141 (s_sub (by decide) hk)).trans (hz0 k hk)), ⟨by omega, by omega⟩, (by rw [y_atE o145]; exact h135), (by rw [y_atE o148, y_fiZ oY141 (k := 31) (by decide), ← ev150, y_fiZ oY141 (k := 32) (by decide), ← ev151]; exact h136), rfl⟩
        · have c152 := mt Int32.le_iff_toInt_le.mpr c152
          refine lv_aload_n hx hb dX7_chance_87 rfl (lv_at hl 0 rfl) ?_
          refine th_get (D := (dC, dI)) (ci := 7) (v := .ref (A 20)) (C := RX7) (T := TX7) (N := 34) hx hb hts inX7 hown hK hP (hLK _ ha0 (by decide)) oY141 rfl 20 (by decide) (hts _ T_251) (fun _ h9 => h9) rfl dX7_chance_88 ?_
          refine lv_iconst (v := 0) hx hb dX7_chance_91 (by decide) ?_
          refine th_iald hx hb hK hP (hLK _ (y_k20 hA) (by decide)) 0 o145 rfl (ax_in (by decide)) dX7_chance_92 ?_
          refine lv_topi (fun v154 ev154 => ?_)
          refine lv_sipush (v := 9999) hx hb dX7_chance_93 (by decide) ?_
          refine lv_icmp_ge (tgt := 109) hx hb dX7_chance_96 (by decide) (fun c155 => ?_) (fun c155 => ?_)
          · have c155 := (ax_ge (n := 9999) (by decide)).mp c155
            obtain ⟨v156, ev156⟩ : ∃ y : Int32, w50 + 1 = y := ⟨_, rfl⟩
            have qv156 : v156.toInt = w50.toInt + 1 := by rw [← ev156]; exact th_add rfl (by decide) ⟨by omega, by omega⟩
            refine lv_iinc (v := v156) (lv' := [(3, .int v156), (0, .ref a0), (1, .int x1), (2, .int v49), (5, .int v128), (6, .int w129)]) hx hb dX7_chance_109 hl (k := 3) rfl ev156 (by decide) rfl (fun ls hl => ?_)
            refine lv_goto (tgt := 38) hx hb dX7_chance_112 (by decide) ?_
            exact ih38 _ _ _ _ (by omega) ⟨F137, _, v156, rfl, lv_sub hl [1, 2, 3, 0] rfl, hP, hS, hI, hfr, (fun k hk => (y_fiZ oY141 (s_sub (by decide) hk)).trans (hz0 k hk)), ⟨by omega, by omega⟩, (by rw [y_atE o145]; exact h135), (by rw [y_atE o148, y_fiZ oY141 (k := 31) (by decide), ← ev150, y_fiZ oY141 (k := 32) (by decide), ← ev151]; exact h136), rfl⟩
          · have c155 := mt (ax_ge (n := 9999) (by decide)).mpr c155
            refine lv_aload_n hx hb dX7_chance_99 rfl (lv_at hl 0 rfl) ?_
            refine va_callv (va_runV (As := []) (rest := []) ⟨hx, hb, hml, hown, hts⟩ (y_X7_aCycle l dC dI H.size hLK A hA F137 a0 ha0 hI (by rw [y_atE o138]; exact hPG) (by rw [y_atE o138, y_atE o145]; exact h135)) (cwV 0 hts (ax_gV T_1070 T_1072 T_1073 T_265 T_1071) rfl rfl rfl (by decide +kernel) ⟨Nat.le_of_ble_eq_true rfl, Nat.le_of_ble_eq_true rfl⟩) ⟨fun a U g mk q => ⟨q.1, s_pc (U := U) rfl rfl q.2⟩, s_recv hK hP (hLK _ ha0 (by decide)) (ci := 7) rfl oY141, fun U hU hW => ⟨rfl, s_pw hU hW hP hK hD hN⟩⟩ rfl rfl hl.1 rfl (lv_room (Nat.le_of_ble_eq_true rfl)) dX7_chance_100 ⟨Nat.zero_le _, Nat.zero_le _⟩) hS (fun q _ h => h) (fun q h => h) (fun F158 t H1 locs ht hvm hw hB hz1 hk1 hS => ?_)
            obtain ⟨hP, hK1⟩ := hB
            rw [ht] at hP
            generalize H1 = H at hP hS ⊢
            clear hz1 hk1 hvm hK1
            obtain ⟨h159, h161, hI, hfr1, hzf, h160⟩ := hw
            have o162 : F158 (A 13) = .inl (cs 0, 400, .inl f1) := (hfr1 _ (by rw [(y_k13 hA)]; decide)).trans o138
            have o163 : F158 (A 30) = .inl (cs 0, 18360, .inl f147) := (hfr1 _ (by rw [(y_k30 hA)]; decide)).trans o148
            have oY164 : F158 a0 = .inr (7, y_fl A z139 q140) := (hfr1 _ (by rw [ha0]; decide)).trans oY141
            have hfr : ∀ b, K b ∉ [9, 59, 70, 71, 72, 80] → F158 b = F b := fun b hb9 => (hfr1 b (fun q => hb9 (s_sub (by decide) q))).trans (hfr b hb9)
            obtain ⟨f165, o166, b167⟩ := y_op20 hI
            have h160 : (y_NG f1 f165 ∧ y_c f165 3 = y_c f144 3 ∧ y_c f165 4 = y_c f144 4) := by have q9 := h160; rw [y_atE o138, y_atE o166, y_atE o145] at q9; exact q9
            obtain ⟨v168, ev168⟩ : ∃ y : Int32, w129 + 1 = y := ⟨_, rfl⟩
            have qv168 : v168.toInt = w129.toInt + 1 := by rw [← ev168]; exact th_add rfl (by decide) ⟨by omega, by omega⟩
            refine lv_iinc (v := v168) (lv' := [(6, .int v168), (0, .ref a0), (1, .int x1), (2, .int v49), (3, .int w50), (5, .int v128)]) hx hb dX7_chance_103 hl (k := 5) rfl ev168 (by decide) rfl (fun ls hl => ?_)
            refine lv_goto (tgt := 80) hx hb dX7_chance_106 (by decide) ?_
            exact ih80 _ _ _ _ (by omega) ⟨F158, _, v168, rfl, lv_sub hl [1, 2, 3, 4, 5, 0] rfl, hP, hS, hI, hfr, (fun k hk => (y_fiZ oY164 (s_sub (by decide) hk)).trans (hz0 k hk)), ⟨by omega, by omega⟩, ⟨by omega, by omega⟩, ⟨by omega, by omega⟩, ⟨by omega, by omega⟩, (by rw [y_atE o166]; exact h160.1), (by rw [y_atE o163, y_fiZ oY164 (k := 31) (by decide), ← ev150, y_fiZ oY164 (k := 32) (by decide), ← ev151]; exact h136), rfl⟩
    · have c31 := (ax_eq (n := 0) (by decide)).mp c31
      refine lv_aload_n hx hb dX7_chance_19 rfl (lv_at hl 0 rfl) ?_
      refine lv_iconst (v := 2) hx hb dX7_chance_20 (by decide) ?_
      refine va_calli (va_runV (As := [.int 2]) (rest := []) ⟨hx, hb, hml, hown, hts⟩ (y_X7_refuses l dC dI H.size hLK A hA F a0 2 ha0 (by decide) hI) (cwV 1 hts (ax_gV T_310 T_311 T_312 T_265 T_33) rfl rfl rfl (by decide +kernel) ⟨Nat.le_of_ble_eq_true rfl, Nat.le_of_ble_eq_true rfl⟩) ⟨fun a U g mk q => ⟨q.1, s_pc (U := U) rfl rfl q.2⟩, s_recv hK hP (hLK _ ha0 (by decide)) (ci := 7) rfl oY0, fun U hU hW => ⟨rfl, s_pw hU hW hP hK hD hN⟩⟩ rfl rfl hl.1 rfl (lv_room (Nat.le_of_ble_eq_true rfl)) dX7_chance_21 ⟨Nat.zero_le _, Nat.zero_le _⟩) hS (fun q _ h => h) (fun q h => h) (fun r170 F171 t H1 locs ht hvm hw hB hz1 hk1 hS => ?_)
      obtain ⟨hP, hK1⟩ := hB
      rw [ht] at hP
      generalize H1 = H at hP hS ⊢
      clear hz1 hk1 hvm hK1
      obtain ⟨h172, h174, hI, hfr1, hzf, h173⟩ := hw
      have o175 : F171 (A 13) = .inl (cs 0, 400, .inl f1) := (hfr1 _ (by rw [(y_k13 hA)]; decide)).trans o2
      have o176 : F171 (A 20) = .inl (cs 0, 918, .inl f4) := (hfr1 _ (by rw [(y_k20 hA)]; decide)).trans o5
      have o177 : F171 (A 30) = .inl (cs 0, 18360, .inl f7) := (hfr1 _ (by rw [(y_k30 hA)]; decide)).trans o8
      have oY178 : F171 a0 = .inr (7, y_fl A z0 q0) := (hfr1 _ (by rw [ha0]; decide)).trans oY0
      have hfr : ∀ b, K b ∉ [9, 59, 70, 71, 72, 80] → F171 b = F b := fun b hb9 => (hfr1 b (fun q => hb9 (s_sub (by decide) q))).trans (hfr b hb9)
      exact W.iret (v := r170) hx hb hr (fun t ht hW => ⟨⟨r170, F171, rfl, ⟨trivial, trivial, hI, hfr, fun k hk => (y_fiZ oY178 (s_sub (by decide) hk)).trans ((hz0 k hk).trans (y_fiZ oY0 (s_sub (by decide) hk)).symm), (by rw [y_fiZ oY178 (k := 15) (by decide), ← ev10, y_atE o175, y_atE o176, y_atE o177, y_fiZ oY178 (k := 31) (by decide), ← ev11, y_fiZ oY178 (k := 32) (by decide), ← ev12]; exact hT)⟩, by rw [ht]; exact hP, va_K.moved hW.alike hK⟩, hS.F ht⟩) hS.2.2 dX7_chance_24
