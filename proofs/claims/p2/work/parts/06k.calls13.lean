set_option maxHeartbeats 4000000 in
set_option maxRecDepth 100000 in
theorem y_X7_chance (l : Launch) (dC : Nat → ClassId) (dI : Nat → Nat → Nat) (sz : Nat) {L : List Nat} {K : Nat → Nat} {cs : Nat → ClassId} (hLK : ∀ a {k : Nat}, K a = k → k ≠ 0 → a ∈ L) (A : Nat → Nat) (hA : y_A K A) (F : Nat → va_E) (a0 : Nat) (x1 : Int32) (ha0 : K a0 = 9) (hI : y_I K cs A F) (hT : y_T (y_fi F a0 15) (y_at F (A 13)) (y_at F (A 20)) (y_at F (A 30)) (y_fi F a0 31) (y_fi F a0 32)) : Met l yX7_chance (Cond.code yX7_chance cX7_chance 7 (some .int) :: T0) ({ frames := 8, cells := 0, slots := 0, locals := 188 }) (va_Pc [.ref a0, .int x1] (s_W dC dI sz L F [(cs 0, .int), (cs 1, .byte), (cs 2, .long), (cs 3, .object RX5), (cs 4, .object RX4), (cs 5, .array .int), (cs 6, .char), (cs 7, .boolean)])) (va_Qi (fun (r : Int32) (G : Nat → va_E) => True ∧ True ∧ y_I K cs A G ∧ (∀ b, K b ∉ [9, 59, 70, 71, 72, 80] → G b = F b) ∧ (∀ k, k ∈ ([1, 2, 3, 4, 5, 6, 7, 8, 11, 15, 16, 19, 25, 26, 27] : List Nat) → y_fi G a0 k = y_fi F a0 k) ∧ (y_T (y_fi G a0 15) (y_at G (A 13)) (y_at G (A 20)) (y_at G (A 30)) (y_fi G a0 31) (y_fi G a0 32))) (fun (G : Nat → va_E) (t : State) => va_P (dC, dI) vwCl (va_pl L G) t.heap ∧ va_K (dC, dI) vwCl [(cs 0, .int), (cs 1, .byte), (cs 2, .long), (cs 3, .object RX5), (cs 4, .object RX4), (cs 5, .array .int), (cs 6, .char), (cs 7, .boolean)] t) (fun q => q ∈ L)) 0 0 (fun q => q ∈ L) := by
  refine Met.ofW (cc := cX7_chance) (maxL := 7) (ret := (some .int)) (by decide) rfl ?_
  intro p e s m args below meth c s₁ B hml hv
  obtain ⟨rfl, hsz, hP, hK, hD, hN⟩ := hv
  have hx := B.exec
  have hb := B.bytes
  have hr := B.returns
  have hts : ∀ w ∈ T0, w.before _ s = true := fun w h => atoms_spec (ws := Cond.code yX7_chance cX7_chance 7 (some .int) :: T0) B.pre w (List.mem_cons_of_mem _ h)
  have hown : s.vm.findClass RX7 = some m.cls := findClass_of_methodNamed B.named
  have hlocks := B.notSynchronized
  have hS : va_S (fun q => q ∈ L) s.heap s.heap [] := va_S.rf
  have hfr : ∀ b, K b ∉ [9, 59, 70, 71, 72, 80] → F b = F b := fun _ _ => rfl
  have hl := lv_entry ([.ref a0, .int x1]) (n := 7) (Nat.le_of_ble_eq_true rfl)
  rw [lg_entry_eq]
  generalize (lg_sl ([.ref a0, .int x1]) ++ List.replicate (7 - (lg_sl ([.ref a0, .int x1])).length) Slot.unset).toArray = ls at hl ⊢
  have hl : lv_has ls 7 [(0, .ref a0), (1, .int x1)] := hl
  refine s_gen hP hS (fun H locs hP hS => ?_)
  obtain ⟨z0, q0, oY0, bz0, bq0⟩ := y_opY hI ha0
  have hz0 : ∀ k, k ∈ ([1, 2, 3, 4, 5, 6, 7, 8, 11, 15, 16, 19, 25, 26, 27] : List Nat) → z0 k = z0 k := fun _ _ => rfl
  obtain ⟨f1, o2, b3⟩ := y_op13 hI
  obtain ⟨f4, o5, b6⟩ := y_op20 hI
  obtain ⟨f7, o8, b9⟩ := y_op30 hI
  obtain ⟨v10, ev10⟩ : ∃ y : Int32, y = z0 15 := ⟨_, rfl⟩
  have qv10 : 0 ≤ v10.toInt ∧ v10.toInt ≤ 1 := by rw [ev10]; exact y_bY15 bz0
  have eF_15 := ev10
  obtain ⟨v11, ev11⟩ : ∃ y : Int32, y = z0 31 := ⟨_, rfl⟩
  have qv11 : 0 ≤ v11.toInt ∧ v11.toInt ≤ 20 := by rw [ev11]; exact y_bY31 bz0
  have eF_31 := ev11
  obtain ⟨v12, ev12⟩ : ∃ y : Int32, y = z0 32 := ⟨_, rfl⟩
  have qv12 : 0 ≤ v12.toInt ∧ v12.toInt ≤ 19 := by rw [ev12]; exact y_bY32 bz0
  have eF_32 := ev12
  replace hT : y_T v10 f1 f4 f7 v11 v12 := by have q9 := hT; rw [y_fiZ oY0 (k := 15) (by decide), ← ev10, y_atE o2, y_atE o5, y_atE o8, y_fiZ oY0 (k := 31) (by decide), ← ev11, y_fiZ oY0 (k := 32) (by decide), ← ev12] at q9; exact q9
  have e0_v10 := ev10
  have e0_v11 := ev11
  have e0_v12 := ev12
  refine lv_aload_n hx hb dX7_chance_0 rfl (lv_at hl 0 rfl) ?_
  refine th_get (D := (dC, dI)) (ci := 7) (v := .int (z0 15)) (C := RX7) (T := TX7) (N := 34) hx hb hts inX7 hown hK hP (hLK _ ha0 (by decide)) oY0 rfl 15 (by decide) (hts _ T_271) (fun _ h9 => h9) rfl dX7_chance_1 ?_
  refine ax_eqi (y := v10) ev10.symm ?_
  refine lv_if_eq (tgt := 19) hx hb dX7_chance_4 (by decide) (fun c13 => ?_) (fun c13 => ?_)
  · have c13 := (ax_eq (n := 0) (by decide)).mp c13
    refine lv_aload_n hx hb dX7_chance_19 rfl (lv_at hl 0 rfl) ?_
    refine lv_iconst (v := 2) hx hb dX7_chance_20 (by decide) ?_
    refine va_calli (va_runV (As := [.int 2]) (rest := []) ⟨hx, hb, hml, hown, hts⟩ (y_X7_refuses l dC dI H.size hLK A hA F a0 2 ha0 (by decide) hI) (cwV 1 hts (ax_gV T_310 T_311 T_312 T_265 T_33) rfl rfl rfl (by decide +kernel) ⟨Nat.le_of_ble_eq_true rfl, Nat.le_of_ble_eq_true rfl⟩) ⟨fun a U g mk q => ⟨q.1, s_pc (U := U) rfl rfl q.2⟩, s_recv hK hP (hLK _ ha0 (by decide)) (ci := 7) rfl oY0, fun U hU hW => ⟨rfl, s_pw hU hW hP hK hD hN⟩⟩ rfl rfl hl.1 rfl (lv_room (Nat.le_of_ble_eq_true rfl)) dX7_chance_21 ⟨Nat.zero_le _, Nat.zero_le _⟩) hS (fun q _ h => h) (fun q h => h) (fun r15 F16 t H1 locs ht hvm hw hB hz1 hk1 hS => ?_)
    obtain ⟨hP, hK1⟩ := hB
    rw [ht] at hP
    generalize H1 = H at hP hS ⊢
    clear hz1 hk1 hvm hK1
    obtain ⟨h17, h19, hI, hfr1, hzf, h18⟩ := hw
    have o20 : F16 (A 13) = .inl (cs 0, 400, .inl f1) := (hfr1 _ (by rw [(y_k13 hA)]; decide)).trans o2
    have o21 : F16 (A 20) = .inl (cs 0, 918, .inl f4) := (hfr1 _ (by rw [(y_k20 hA)]; decide)).trans o5
    have o22 : F16 (A 30) = .inl (cs 0, 18360, .inl f7) := (hfr1 _ (by rw [(y_k30 hA)]; decide)).trans o8
    have oY23 : F16 a0 = .inr (7, y_fl A z0 q0) := (hfr1 _ (by rw [ha0]; decide)).trans oY0
    have hfr : ∀ b, K b ∉ [9, 59, 70, 71, 72, 80] → F16 b = F b := fun b hb9 => (hfr1 b (fun q => hb9 (s_sub (by decide) q))).trans (hfr b hb9)
    exact W.iret (v := r15) hx hb hr (fun t ht hW => ⟨⟨r15, F16, rfl, ⟨trivial, trivial, hI, hfr, fun k hk => (y_fiZ oY23 (s_sub (by decide) hk)).trans ((hz0 k hk).trans (y_fiZ oY0 (s_sub (by decide) hk)).symm), (by rw [y_fiZ oY23 (k := 15) (by decide), ← ev10, y_atE o20, y_atE o21, y_atE o22, y_fiZ oY23 (k := 31) (by decide), ← ev11, y_fiZ oY23 (k := 32) (by decide), ← ev12]; exact hT)⟩, by rw [ht]; exact hP, va_K.moved hW.alike hK⟩, hS.F ht⟩) hS.2.2 dX7_chance_24
  · have c13 := mt (ax_eq (n := 0) (by decide)).mpr c13
    obtain ⟨htd, hPG, hNG, hUG⟩ := y_TT hT (by omega)
    have hL := y_P0L hPG.1
    have hW := y_P0W hPG.1
    have hnn := And.intro hNG.1 (And.intro hNG.2.1 (And.intro hNG.2.2.1 hNG.2.2.2.1))
    refine lv_iload_n hx hb dX7_chance_7 rfl (lv_at hl 1 rfl) ?_
    refine lv_i2l hx hb dX7_chance_8 rfl ?_
    refine lv_topl (fun v24 ev24 => ?_)
    have qv24 : v24.toInt = x1.toInt := y_i2l ev24
    refine lv_lconst (v := 1) hx hb dX7_chance_9 (by decide) ?_
    refine lv_ldc2 hx hb hown (hts _ T_1065) dX7_chance_10 ?_
    refine va_calli (va_runS (As := [.long v24, .long 1, .long 20]) (rest := []) ⟨hx, hb, hml, hown, hts⟩ (y_X7_isIn l dC dI H.size F v24 1 20) (cwS 3 hts (ax_gS T_267 T_268 T_265 T_21) rfl rfl rfl (by decide +kernel) ⟨Nat.le_of_ble_eq_true rfl, Nat.le_of_ble_eq_true rfl⟩) ⟨fun a U g mk q => ⟨q.1, s_pc (U := U) rfl rfl q.2⟩, fun U hU hW => ⟨rfl, s_pw hU hW hP hK hD hN⟩⟩ rfl rfl hl.1 rfl (lv_room (Nat.le_of_ble_eq_true rfl)) dX7_chance_13 ⟨Nat.zero_le _, Nat.zero_le _⟩) hS (fun q _ h => h) (fun q h => h) (fun r26 F27 t H1 locs ht hvm hw hB hz1 hk1 hS => ?_)
    obtain ⟨hP, hK1⟩ := hB
    rw [ht] at hP
    generalize H1 = H at hP hS ⊢
    clear hz1 hk1 hvm hK1
    obtain ⟨h28, h30, hG9, h29⟩ := hw
    rw [hG9] at hP
    replace h29 : ((r26.toInt = 0 ∧ (v24.toInt < 1 ∨ 20 < v24.toInt)) ∨ (r26.toInt = 1 ∧ 1 ≤ v24.toInt ∧ v24.toInt ≤ 20)) := by have q9 := h29; exact q9
    refine lv_if_ne (tgt := 25) hx hb dX7_chance_16 (by decide) (fun c31 => ?_) (fun c31 => ?_)
    · have c31 := mt (ax_eq (n := 0) (by decide)).mpr c31
      refine lv_aload_n hx hb dX7_chance_25 rfl (lv_at hl 0 rfl) ?_
      refine va_callv (va_runV (As := []) (rest := []) ⟨hx, hb, hml, hown, hts⟩ (y_X7_keeps l dC dI H.size hLK A hA F a0 ha0 hI (by rw [y_atE o2]; exact hPG) (by rw [y_atE o2, y_atE o5]; exact hNG) (by rw [y_atE o2, y_atE o8, y_fiZ oY0 (k := 31) (by decide), ← ev11, y_fiZ oY0 (k := 32) (by decide), ← ev12]; exact hUG)) (cwV 0 hts (ax_gV T_1013 T_1015 T_1016 T_265 T_1014) rfl rfl rfl (by decide +kernel) ⟨Nat.le_of_ble_eq_true rfl, Nat.le_of_ble_eq_true rfl⟩) ⟨fun a U g mk q => ⟨q.1, s_pc (U := U) rfl rfl q.2⟩, s_recv hK hP (hLK _ ha0 (by decide)) (ci := 7) rfl oY0, fun U hU hW => ⟨rfl, s_pw hU hW hP hK hD hN⟩⟩ rfl rfl hl.1 rfl (lv_room (Nat.le_of_ble_eq_true rfl)) dX7_chance_26 ⟨Nat.zero_le _, Nat.zero_le _⟩) hS (fun q _ h => h) (fun q h => h) (fun F33 t H1 locs ht hvm hw hB hz1 hk1 hS => ?_)
      obtain ⟨hP, hK1⟩ := hB
      rw [ht] at hP
      generalize H1 = H at hP hS ⊢
      clear hz1 hk1 hvm hK1
      obtain ⟨h34, h36, hI, hfr1, hzf, h35⟩ := hw
      have o37 : F33 (A 13) = .inl (cs 0, 400, .inl f1) := (hfr1 _ (by rw [(y_k13 hA)]; decide)).trans o2
      have o38 : F33 (A 20) = .inl (cs 0, 918, .inl f4) := (hfr1 _ (by rw [(y_k20 hA)]; decide)).trans o5
      obtain ⟨z39, q40, oY41, bz42, bq43⟩ := y_opY hI ha0
      have hzf : ∀ k, k ∈ ([1, 2, 3, 4, 5, 6, 7, 8, 11, 15, 16, 19, 25, 26, 27] : List Nat) → z39 k = z0 k := fun k hk => by have q9 := hzf k hk; rw [y_fiZ oY41 (s_sub (by decide) hk), y_fiZ oY0 (s_sub (by decide) hk)] at q9; exact q9
      have hz0 : ∀ k, k ∈ ([1, 2, 3, 4, 5, 6, 7, 8, 11, 15, 16, 19, 25, 26, 27] : List Nat) → z39 k = z0 k := fun k hk => (hzf k (s_sub (by decide) hk)).trans (hz0 k hk)
      have ev10 : v10 = z39 15 := ev10.trans (hzf 15 (by decide)).symm
      have hfr : ∀ b, K b ∉ [9, 59, 70, 71, 72, 80] → F33 b = F b := fun b hb9 => (hfr1 b (fun q => hb9 (s_sub (by decide) q))).trans (hfr b hb9)
      obtain ⟨f44, o45, b46⟩ := y_op30 hI
      obtain ⟨v47, ev47⟩ : ∃ y : Int32, y = z39 31 := ⟨_, rfl⟩
      have qv47 : 0 ≤ v47.toInt ∧ v47.toInt ≤ 20 := by rw [ev47]; exact y_bY31 bz42
      obtain ⟨v48, ev48⟩ : ∃ y : Int32, y = z39 32 := ⟨_, rfl⟩
      have qv48 : 0 ≤ v48.toInt ∧ v48.toInt ≤ 19 := by rw [ev48]; exact y_bY32 bz42
      replace h35 : (y_UG f1 f44 v47.toInt v48.toInt) := by have q9 := h35; rw [y_atE o2, y_atE o45, y_fiZ oY41 (k := 31) (by decide), ← ev47, y_fiZ oY41 (k := 32) (by decide), ← ev48] at q9; exact q9
      refine lv_aload_n hx hb dX7_chance_29 rfl (lv_at hl 0 rfl) ?_
      refine th_get (D := (dC, dI)) (ci := 7) (v := .ref (A 20)) (C := RX7) (T := TX7) (N := 34) hx hb hts inX7 hown hK hP (hLK _ ha0 (by decide)) oY41 rfl 20 (by decide) (hts _ T_251) (fun _ h9 => h9) rfl dX7_chance_30 ?_
      refine lv_iconst (v := 1) hx hb dX7_chance_33 (by decide) ?_
      refine th_iald hx hb hK hP (hLK _ (y_k20 hA) (by decide)) 0 o38 rfl (ax_in (by decide)) dX7_chance_34 ?_
      refine lv_topi (fun v49 ev49 => ?_)
      refine lv_istore_n (lv' := [(2, .int v49), (0, .ref a0), (1, .int x1)]) hx hb dX7_chance_35 rfl hl (by decide) rfl (fun ls hl => ?_)
      refine lv_iconst (v := 0) hx hb dX7_chance_36 (by decide) ?_
      refine lv_istore_n (lv' := [(3, .int 0), (2, .int v49), (0, .ref a0), (1, .int x1)]) hx hb dX7_chance_37 rfl hl (by decide) rfl (fun ls hl => ?_)
      have h51 : (0 : Int32).toInt = 0 := by decide
      refine th_loop (fun n g H locs => ∃ (G : Nat → va_E) (ls : Array Slot) (w50 : Int32), g = F0 m 38 ls [] ∧ lv_has ls 7 [(0, .ref a0), (1, .int x1), (2, .int v49), (3, .int w50)] ∧ va_P (dC, dI) vwCl (va_pl L G) H ∧ va_S (fun q => q ∈ L) s.heap H locs ∧ y_I K cs A G ∧ (∀ b, K b ∉ [9, 59, 70, 71, 72, 80] → G b = F b) ∧ (∀ k, k ∈ ([1, 2, 3, 4, 5, 6, 7, 8, 11, 15, 16, 19, 25, 26, 27] : List Nat) → y_fi G a0 k = z0 k) ∧ (0 ≤ w50.toInt ∧ w50.toInt ≤ 20) ∧ (y_NG f1 (y_at G (A 20))) ∧ (y_UG f1 (y_at G (A 30)) (y_fi G a0 31).toInt (y_fi G a0 32).toInt) ∧ n = (21 - w50.toInt).toNat) _ ⟨F33, _, 0, rfl, lv_sub hl [2, 3, 1, 0] rfl, hP, hS, hI, hfr, (fun k hk => (y_fiZ oY41 (s_sub (by decide) hk)).trans (hz0 k hk)), (by decide), (by rw [y_atE o38]; exact hNG), (by rw [y_atE o45, y_fiZ oY41 (k := 31) (by decide), ← ev47, y_fiZ oY41 (k := 32) (by decide), ← ev48]; exact h35), rfl⟩ (fun n ih38 g H locs hq => ?_)
      obtain ⟨F55, ls, w50, rfl, hl, hP, hS, hI, hfr, hz0, h52, h53, h54, hn⟩ := hq
      have o56 : F55 (A 13) = .inl (cs 0, 400, .inl f1) := (hfr _ (by rw [(y_k13 hA)]; decide)).trans o2
      obtain ⟨z57, q58, oY59, bz60, bq61⟩ := y_opY hI ha0
      have hz0 : ∀ k, k ∈ ([1, 2, 3, 4, 5, 6, 7, 8, 11, 15, 16, 19, 25, 26, 27] : List Nat) → z57 k = z0 k := fun k hk => (y_fiZ oY59 (s_sub (by decide) hk)).symm.trans (hz0 k hk)
      have ev10 : v10 = z57 15 := e0_v10.trans (hz0 15 (by decide)).symm
      obtain ⟨f62, o63, b64⟩ := y_op20 hI
      replace h53 : (y_NG f1 f62) := by have q9 := h53; rw [y_atE o63] at q9; exact q9
      obtain ⟨f65, o66, b67⟩ := y_op30 hI
      obtain ⟨v68, ev68⟩ : ∃ y : Int32, y = z57 31 := ⟨_, rfl⟩
      have qv68 : 0 ≤ v68.toInt ∧ v68.toInt ≤ 20 := by rw [ev68]; exact y_bY31 bz60
      obtain ⟨v69, ev69⟩ : ∃ y : Int32, y = z57 32 := ⟨_, rfl⟩
      have qv69 : 0 ≤ v69.toInt ∧ v69.toInt ≤ 19 := by rw [ev69]; exact y_bY32 bz60
      replace h54 : (y_UG f1 f65 v68.toInt v69.toInt) := by have q9 := h54; rw [y_atE o66, y_fiZ oY59 (k := 31) (by decide), ← ev68, y_fiZ oY59 (k := 32) (by decide), ← ev69] at q9; exact q9
      have hn_69 := hn
      refine lv_iload_n hx hb dX7_chance_38 rfl (lv_at hl 3 rfl) ?_
      refine lv_iload_n hx hb dX7_chance_39 rfl (lv_at hl 1 rfl) ?_
      have h70 : 1 ≤ x1.toInt ∧ x1.toInt ≤ 20 := ⟨by omega, by omega⟩
      refine lv_icmp_ge (tgt := 115) hx hb dX7_chance_40 (by decide) (fun c71 => ?_) (fun c71 => ?_)
      · have c71 := Int32.le_iff_toInt_le.mp c71
        refine lv_aload_n hx hb dX7_chance_115 rfl (lv_at hl 0 rfl) ?_
        refine th_get (D := (dC, dI)) (ci := 7) (v := .ref (A 20)) (C := RX7) (T := TX7) (N := 34) hx hb hts inX7 hown hK hP (hLK _ ha0 (by decide)) oY59 rfl 20 (by decide) (hts _ T_251) (fun _ h9 => h9) rfl dX7_chance_116 ?_
        refine lv_iconst (v := 1) hx hb dX7_chance_119 (by decide) ?_
        refine th_iald hx hb hK hP (hLK _ (y_k20 hA) (by decide)) 0 o63 rfl (ax_in (by decide)) dX7_chance_120 ?_
        refine lv_topi (fun v72 ev72 => ?_)
        refine lv_iload_n hx hb dX7_chance_121 rfl (lv_at hl 2 rfl) ?_
        refine lv_isub hx hb dX7_chance_122 ?_
        refine lv_topi (fun v73 ev73 => ?_)
        exact W.iret (v := v73) hx hb hr (fun t ht hW => ⟨⟨v73, F55, rfl, ⟨trivial, trivial, hI, hfr, fun k hk => (y_fiZ oY59 (s_sub (by decide) hk)).trans ((hz0 k hk).trans (y_fiZ oY0 (s_sub (by decide) hk)).symm), (by rw [y_fiZ oY59 (k := 15) (by decide), ← ev10, y_atE o56, y_atE o63, y_atE o66, y_fiZ oY59 (k := 31) (by decide), ← ev68, y_fiZ oY59 (k := 32) (by decide), ← ev69]; exact (Or.inr ⟨by omega, hPG, h53, h54⟩))⟩, by rw [ht]; exact hP, va_K.moved hW.alike hK⟩, hS.F ht⟩) hS.2.2 dX7_chance_123
      · have c71 := mt Int32.le_iff_toInt_le.mpr c71
        refine lv_aload_n hx hb dX7_chance_43 rfl (lv_at hl 0 rfl) ?_
        refine lv_bipush (v := 64) hx hb dX7_chance_44 (by decide) ?_
        refine va_calli (va_runV (As := [.int 64]) (rest := []) ⟨hx, hb, hml, hown, hts⟩ (y_X7_drawOf l dC dI H.size hLK A hA F55 a0 64 ha0 (by decide) hI) (cwV 1 hts (ax_gV T_1066 T_1068 T_1069 T_265 T_1067) rfl rfl rfl (by decide +kernel) ⟨Nat.le_of_ble_eq_true rfl, Nat.le_of_ble_eq_true rfl⟩) ⟨fun a U g mk q => ⟨q.1, s_pc (U := U) rfl rfl q.2⟩, s_recv hK hP (hLK _ ha0 (by decide)) (ci := 7) rfl oY59, fun U hU hW => ⟨rfl, s_pw hU hW hP hK hD hN⟩⟩ rfl rfl hl.1 rfl (lv_room (Nat.le_of_ble_eq_true rfl)) dX7_chance_46 ⟨Nat.zero_le _, Nat.zero_le _⟩) hS (fun q _ h => h) (fun q h => h) (fun r75 F76 t H1 locs ht hvm hw hB hz1 hk1 hS => ?_)
        obtain ⟨hP, hK1⟩ := hB
        rw [ht] at hP
        generalize H1 = H at hP hS ⊢
        clear hz1 hk1 hvm hK1
        obtain ⟨h77, h79, hI, hfr1, hzf, h78⟩ := hw
        have o80 : F76 (A 13) = .inl (cs 0, 400, .inl f1) := (hfr1 _ (by rw [(y_k13 hA)]; decide)).trans o56
        have o81 : F76 (A 20) = .inl (cs 0, 918, .inl f62) := (hfr1 _ (by rw [(y_k20 hA)]; decide)).trans o63
        have o82 : F76 (A 30) = .inl (cs 0, 18360, .inl f65) := (hfr1 _ (by rw [(y_k30 hA)]; decide)).trans o66
        obtain ⟨z83, q84, oY85, bz86, bq87⟩ := y_opY hI ha0
        have hzf : ∀ k, k ∈ ([1, 2, 3, 4, 5, 6, 7, 8, 11, 15, 16, 19, 25, 26, 27, 31, 32] : List Nat) → z83 k = z57 k := fun k hk => by have q9 := hzf k hk; rw [y_fiZ oY85 (s_sub (by decide) hk), y_fiZ oY59 (s_sub (by decide) hk)] at q9; exact q9
        have hz0 : ∀ k, k ∈ ([1, 2, 3, 4, 5, 6, 7, 8, 11, 15, 16, 19, 25, 26, 27] : List Nat) → z83 k = z0 k := fun k hk => (hzf k (s_sub (by decide) hk)).trans (hz0 k hk)
        have ev10 : v10 = z83 15 := ev10.trans (hzf 15 (by decide)).symm
        have ev68 : v68 = z83 31 := ev68.trans (hzf 31 (by decide)).symm
        have ev69 : v69 = z83 32 := ev69.trans (hzf 32 (by decide)).symm
        have hfr : ∀ b, K b ∉ [9, 59, 70, 71, 72, 80] → F76 b = F b := fun b hb9 => (hfr1 b (fun q => hb9 (s_sub (by decide) q))).trans (hfr b hb9)
        replace h78 : (0 ≤ r75.toInt ∧ r75.toInt < 64) := by have q9 := h78; exact q9
        refine lv_istore (lv' := [(4, .int r75), (0, .ref a0), (1, .int x1), (2, .int v49), (3, .int w50)]) hx hb dX7_chance_49 hl (by decide) rfl (fun ls hl => ?_)
        refine lv_aload_n hx hb dX7_chance_51 rfl (lv_at hl 1 rfl) ?_
        refine th_get (D := (dC, dI)) (ci := 7) (v := .ref (A 20)) (C := RX7) (T := TX7) (N := 34) hx hb hts inX7 hown hK hP (hLK _ ha0 (by decide)) oY85 rfl 20 (by decide) (hts _ T_251) (fun _ h9 => h9) rfl dX7_chance_52 ?_
        refine lv_bipush (v := 8) hx hb dX7_chance_55 (by decide) ?_
        refine lv_iload hx hb dX7_chance_57 (lv_at hl 0 rfl) ?_
        refine lv_iadd hx hb dX7_chance_59 ?_
        refine lv_topi (fun v88 ev88 => ?_)
        have qv88 : v88.toInt = 8 + r75.toInt := by rw [ev88]; exact th_add (by decide) rfl ⟨by omega, by omega⟩
        refine lv_aload_n hx hb dX7_chance_60 rfl (lv_at hl 1 rfl) ?_
        refine lv_bipush (v := 16) hx hb dX7_chance_61 (by decide) ?_
        refine va_calli (va_runV (As := [.int 16]) (rest := [.int v88, .ref (A 20)]) ⟨hx, hb, hml, hown, hts⟩ (y_X7_drawOf l dC dI H.size hLK A hA F76 a0 16 ha0 (by decide) hI) (cwV 1 hts (ax_gV T_1066 T_1068 T_1069 T_265 T_1067) rfl rfl rfl (by decide +kernel) ⟨Nat.le_of_ble_eq_true rfl, Nat.le_of_ble_eq_true rfl⟩) ⟨fun a U g mk q => ⟨q.1, s_pc (U := U) rfl rfl q.2⟩, s_recv hK hP (hLK _ ha0 (by decide)) (ci := 7) rfl oY85, fun U hU hW => ⟨rfl, s_pw hU hW hP hK hD hN⟩⟩ rfl rfl hl.1 rfl (lv_room (Nat.le_of_ble_eq_true rfl)) dX7_chance_63 ⟨Nat.zero_le _, Nat.zero_le _⟩) hS (fun q _ h => h) (fun q h => h) (fun r90 F91 t H1 locs ht hvm hw hB hz1 hk1 hS => ?_)
        obtain ⟨hP, hK1⟩ := hB
        rw [ht] at hP
        generalize H1 = H at hP hS ⊢
        clear hz1 hk1 hvm hK1
        obtain ⟨h92, h94, hI, hfr1, hzf, h93⟩ := hw
        have o95 : F91 (A 13) = .inl (cs 0, 400, .inl f1) := (hfr1 _ (by rw [(y_k13 hA)]; decide)).trans o80
        have o96 : F91 (A 20) = .inl (cs 0, 918, .inl f62) := (hfr1 _ (by rw [(y_k20 hA)]; decide)).trans o81
        have o97 : F91 (A 30) = .inl (cs 0, 18360, .inl f65) := (hfr1 _ (by rw [(y_k30 hA)]; decide)).trans o82
        obtain ⟨z98, q99, oY100, bz101, bq102⟩ := y_opY hI ha0
        have hzf : ∀ k, k ∈ ([1, 2, 3, 4, 5, 6, 7, 8, 11, 15, 16, 19, 25, 26, 27, 31, 32] : List Nat) → z98 k = z83 k := fun k hk => by have q9 := hzf k hk; rw [y_fiZ oY100 (s_sub (by decide) hk), y_fiZ oY85 (s_sub (by decide) hk)] at q9; exact q9
        have hz0 : ∀ k, k ∈ ([1, 2, 3, 4, 5, 6, 7, 8, 11, 15, 16, 19, 25, 26, 27] : List Nat) → z98 k = z0 k := fun k hk => (hzf k (s_sub (by decide) hk)).trans (hz0 k hk)
        have ev10 : v10 = z98 15 := ev10.trans (hzf 15 (by decide)).symm
        have ev68 : v68 = z98 31 := ev68.trans (hzf 31 (by decide)).symm
        have ev69 : v69 = z98 32 := ev69.trans (hzf 32 (by decide)).symm
        have hfr : ∀ b, K b ∉ [9, 59, 70, 71, 72, 80] → F91 b = F b := fun b hb9 => (hfr1 b (fun q => hb9 (s_sub (by decide) q))).trans (hfr b hb9)
        replace h93 : (0 ≤ r90.toInt ∧ r90.toInt < 16) := by have q9 := h93; exact q9
        refine th_iast hx hb hK hP hD hS (hLK _ (y_k20 hA) (by decide)) 0 o96 rfl (th_in ⟨by omega, by omega⟩) dX7_chance_66 (fun H locs hP hS => ?_)
        obtain ⟨f103, u104⟩ : ∃ g : Nat → Int32, g = upd f62 (v88 : Int32).toNatClampNeg r90 := ⟨_, rfl⟩
        rw [← u104] at hP
        have b105 : y_bd 20 f103 := trivial
        have hP : va_P (dC, dI) vwCl (va_pl L (va_up F91 (A 20) (.inl (cs 0, 918, .inl f103)))) H := hP
        obtain ⟨F106, hF107⟩ : ∃ G : Nat → va_E, G = va_up F91 (A 20) (.inl (cs 0, 918, .inl f103)) := ⟨_, rfl⟩
        rw [← hF107] at hP
        have hI : y_I K cs A F106 := by rw [hF107]; exact y_clA (i := 20) hA hI (by decide) b105
        have hfr : ∀ b, K b ∉ [9, 59, 70, 71, 72, 80] → F106 b = F b := by rw [hF107]; exact s_fr hfr (y_k20 hA) (by decide)
        have o108 : F106 (A 13) = .inl (cs 0, 400, .inl f1) := by rw [hF107]; exact th_ne (th_kd (y_k13 hA) (y_k20 hA) (by decide)) o95
        have o109 : F106 (A 30) = .inl (cs 0, 18360, .inl f65) := by rw [hF107]; exact th_ne (th_kd (y_k30 hA) (y_k20 hA) (by decide)) o97
        have oY110 : F106 a0 = .inr (7, y_fl A z98 q99) := by rw [hF107]; exact th_ne (th_kd ha0 (y_k20 hA) (by decide)) oY100
        have o111 : F106 (A 20) = .inl (cs 0, 918, .inl f103) := by rw [hF107]; exact th_up
        have u112 : ∀ j : Int, 0 ≤ j → y_c f103 j = if j = v88.toInt then r90 else y_c f62 j := by rw [u104]; exact y_cu rfl (by omega)
        have k113 : y_NG f1 f103 := y_NGe (y_E_u u112 (by omega)) h53 (by rw [u112 6 (by omega), if_neg (by omega)]; exact h53.2.2.1) (by rw [u112 7 (by omega), if_neg (by omega)]; exact h53.2.2.2.1) (by omega)
        refine lv_aload_n hx hb dX7_chance_67 rfl (lv_at hl 1 rfl) ?_
        refine lv_bipush (v := 8) hx hb dX7_chance_68 (by decide) ?_
        refine va_calli (va_runV (As := [.int 8]) (rest := []) ⟨hx, hb, hml, hown, hts⟩ (y_X7_drawOf l dC dI H.size hLK A hA F106 a0 8 ha0 (by decide) hI) (cwV 1 hts (ax_gV T_1066 T_1068 T_1069 T_265 T_1067) rfl rfl rfl (by decide +kernel) ⟨Nat.le_of_ble_eq_true rfl, Nat.le_of_ble_eq_true rfl⟩) ⟨fun a U g mk q => ⟨q.1, s_pc (U := U) rfl rfl q.2⟩, s_recv hK hP (hLK _ ha0 (by decide)) (ci := 7) rfl oY110, fun U hU hW => ⟨rfl, s_pw hU hW hP hK hD hN⟩⟩ rfl rfl hl.1 rfl (lv_room (Nat.le_of_ble_eq_true rfl)) dX7_chance_70 ⟨Nat.zero_le _, Nat.zero_le _⟩) hS (fun q _ h => h) (fun q h => h) (fun r115 F116 t H1 locs ht hvm hw hB hz1 hk1 hS => ?_)
        obtain ⟨hP, hK1⟩ := hB
        rw [ht] at hP
        generalize H1 = H at hP hS ⊢
        clear hz1 hk1 hvm hK1
        obtain ⟨h117, h119, hI, hfr1, hzf, h118⟩ := hw
        have o120 : F116 (A 13) = .inl (cs 0, 400, .inl f1) := (hfr1 _ (by rw [(y_k13 hA)]; decide)).trans o108
        have o121 : F116 (A 20) = .inl (cs 0, 918, .inl f103) := (hfr1 _ (by rw [(y_k20 hA)]; decide)).trans o111
        have o122 : F116 (A 30) = .inl (cs 0, 18360, .inl f65) := (hfr1 _ (by rw [(y_k30 hA)]; decide)).trans o109
        obtain ⟨z123, q124, oY125, bz126, bq127⟩ := y_opY hI ha0
        have hzf : ∀ k, k ∈ ([1, 2, 3, 4, 5, 6, 7, 8, 11, 15, 16, 19, 25, 26, 27, 31, 32] : List Nat) → z123 k = z98 k := fun k hk => by have q9 := hzf k hk; rw [y_fiZ oY125 (s_sub (by decide) hk), y_fiZ oY110 (s_sub (by decide) hk)] at q9; exact q9
        have hz0 : ∀ k, k ∈ ([1, 2, 3, 4, 5, 6, 7, 8, 11, 15, 16, 19, 25, 26, 27] : List Nat) → z123 k = z0 k := fun k hk => (hzf k (s_sub (by decide) hk)).trans (hz0 k hk)
        have ev10 : v10 = z123 15 := ev10.trans (hzf 15 (by decide)).symm
        have ev68 : v68 = z123 31 := ev68.trans (hzf 31 (by decide)).symm
        have ev69 : v69 = z123 32 := ev69.trans (hzf 32 (by decide)).symm
        have hfr : ∀ b, K b ∉ [9, 59, 70, 71, 72, 80] → F116 b = F b := fun b hb9 => (hfr1 b (fun q => hb9 (s_sub (by decide) q))).trans (hfr b hb9)
        replace h118 : (0 ≤ r115.toInt ∧ r115.toInt < 8) := by have q9 := h118; exact q9
        refine lv_iconst (v := 1) hx hb dX7_chance_73 (by decide) ?_
        refine lv_iadd hx hb dX7_chance_74 ?_
        refine lv_topi (fun v128 ev128 => ?_)
        have qv128 : v128.toInt = r115.toInt + 1 := by rw [ev128]; exact th_add rfl (by decide) ⟨by omega, by omega⟩
        refine lv_istore (lv' := [(5, .int v128), (4, .int r75), (0, .ref a0), (1, .int x1), (2, .int v49), (3, .int w50)]) hx hb dX7_chance_75 hl (by decide) rfl (fun ls hl => ?_)
        refine lv_iconst (v := 0) hx hb dX7_chance_77 (by decide) ?_
        refine lv_istore (lv' := [(6, .int 0), (5, .int v128), (4, .int r75), (0, .ref a0), (1, .int x1), (2, .int v49), (3, .int w50)]) hx hb dX7_chance_78 hl (by decide) rfl (fun ls hl => ?_)
        have h130 : (0 : Int32).toInt = 0 := by decide
        refine th_loop (fun n g H locs => ∃ (G : Nat → va_E) (ls : Array Slot) (w129 : Int32), g = F0 m 80 ls [] ∧ lv_has ls 7 [(0, .ref a0), (1, .int x1), (2, .int v49), (3, .int w50), (5, .int v128), (6, .int w129)] ∧ va_P (dC, dI) vwCl (va_pl L G) H ∧ va_S (fun q => q ∈ L) s.heap H locs ∧ y_I K cs A G ∧ (∀ b, K b ∉ [9, 59, 70, 71, 72, 80] → G b = F b) ∧ (∀ k, k ∈ ([1, 2, 3, 4, 5, 6, 7, 8, 11, 15, 16, 19, 25, 26, 27] : List Nat) → y_fi G a0 k = z0 k) ∧ (0 ≤ w129.toInt ∧ w129.toInt ≤ 64) ∧ (1 ≤ x1.toInt ∧ x1.toInt ≤ 20) ∧ (0 ≤ w50.toInt ∧ w50.toInt ≤ 19) ∧ (1 ≤ v128.toInt ∧ v128.toInt ≤ 64) ∧ (y_NG f1 (y_at G (A 20))) ∧ (y_UG f1 (y_at G (A 30)) (y_fi G a0 31).toInt (y_fi G a0 32).toInt) ∧ n = (65 - w129.toInt).toNat) _ ⟨F116, _, 0, rfl, lv_sub hl [3, 4, 5, 6, 1, 0] rfl, hP, hS, hI, hfr, (fun k hk => (y_fiZ oY125 (s_sub (by decide) hk)).trans (hz0 k hk)), (by decide), ⟨by omega, by omega⟩, ⟨by omega, by omega⟩, ⟨by omega, by omega⟩, (by rw [y_atE o121]; exact k113), (by rw [y_atE o122, y_fiZ oY125 (k := 31) (by decide), ← ev68, y_fiZ oY125 (k := 32) (by decide), ← ev69]; exact h54), rfl⟩ (fun n ih80 g H locs hq => ?_)
        obtain ⟨F137, ls, w129, rfl, hl, hP, hS, hI, hfr, hz0, h131, h132, h133, h134, h135, h136, hn⟩ := hq
        have o138 : F137 (A 13) = .inl (cs 0, 400, .inl f1) := (hfr _ (by rw [(y_k13 hA)]; decide)).trans o2
        obtain ⟨z139, q140, oY141, bz142, bq143⟩ := y_opY hI ha0
        have hz0 : ∀ k, k ∈ ([1, 2, 3, 4, 5, 6, 7, 8, 11, 15, 16, 19, 25, 26, 27] : List Nat) → z139 k = z0 k := fun k hk => (y_fiZ oY141 (s_sub (by decide) hk)).symm.trans (hz0 k hk)
        have ev10 : v10 = z139 15 := e0_v10.trans (hz0 15 (by decide)).symm
        obtain ⟨f144, o145, b146⟩ := y_op20 hI
        replace h135 : (y_NG f1 f144) := by have q9 := h135; rw [y_atE o145] at q9; exact q9
        obtain ⟨f147, o148, b149⟩ := y_op30 hI
        obtain ⟨v150, ev150⟩ : ∃ y : Int32, y = z139 31 := ⟨_, rfl⟩
        have qv150 : 0 ≤ v150.toInt ∧ v150.toInt ≤ 20 := by rw [ev150]; exact y_bY31 bz142
        obtain ⟨v151, ev151⟩ : ∃ y : Int32, y = z139 32 := ⟨_, rfl⟩
        have qv151 : 0 ≤ v151.toInt ∧ v151.toInt ≤ 19 := by rw [ev151]; exact y_bY32 bz142
        replace h136 : (y_UG f1 f147 v150.toInt v151.toInt) := by have q9 := h136; rw [y_atE o148, y_fiZ oY141 (k := 31) (by decide), ← ev150, y_fiZ oY141 (k := 32) (by decide), ← ev151] at q9; exact q9
        have hn_151 := hn
        refine lv_iload hx hb dX7_chance_80 (lv_at hl 5 rfl) ?_
        refine lv_iload hx hb dX7_chance_82 (lv_at hl 4 rfl) ?_
        refine lv_icmp_ge (tgt := 109) hx hb dX7_chance_84 (by decide) (fun c152 => ?_) (fun c152 => ?_)
        · have c152 := Int32.le_iff_toInt_le.mp c152
          obtain ⟨v153, ev153⟩ : ∃ y : Int32, w50 + 1 = y := ⟨_, rfl⟩
          have qv153 : v153.toInt = w50.toInt + 1 := by rw [← ev153]; exact th_add rfl (by decide) ⟨by omega, by omega⟩
          refine lv_iinc (v := v153) (lv' := [(3, .int v153), (0, .ref a0), (1, .int x1), (2, .int v49), (5, .int v128), (6, .int w129)]) hx hb dX7_chance_109 hl (k := 3) rfl ev153 (by decide) rfl (fun ls hl => ?_)
          refine lv_goto (tgt := 38) hx hb dX7_chance_112 (by decide) ?_
          exact ih38 _ _ _ _ (by omega) ⟨F137, _, v153, rfl, lv_sub hl [1, 2, 3, 0] rfl, hP, hS, hI, hfr, (fun k hk => (y_fiZ oY141 (s_sub (by decide) hk)).trans (hz0 k hk)), ⟨by omega, by omega⟩, (by rw [y_atE o145]; exact h135), (by rw [y_atE o148, y_fiZ oY141 (k := 31) (by decide), ← ev150, y_fiZ oY141 (k := 32) (by decide), ← ev151]; exact h136), rfl⟩
        · have c152 := mt Int32.le_iff_toInt_le.mpr c152
          refine lv_aload_n hx hb dX7_chance_87 rfl (lv_at hl 0 rfl) ?_
          refine th_get (D := (dC, dI)) (ci := 7) (v := .ref (A 20)) (C := RX7) (T := TX7) (N := 34) hx hb hts inX7 hown hK hP (hLK _ ha0 (by decide)) oY141 rfl 20 (by decide) (hts _ T_251) (fun _ h9 => h9) rfl dX7_chance_88 ?_
          refine lv_iconst (v := 0) hx hb dX7_chance_91 (by decide) ?_
          refine th_iald hx hb hK hP (hLK _ (y_k20 hA) (by decide)) 0 o145 rfl (ax_in (by decide)) dX7_chance_92 ?_
          refine lv_topi (fun v154 ev154 => ?_)
          refine lv_sipush (v := 9999) hx hb dX7_chance_93 (by decide) ?_
          refine lv_icmp_ge (tgt := 109) hx hb dX7_chance_96 (by decide) (fun c155 => ?_) (fun c155 => ?_)
          · have c155 := (ax_ge (n := 9999) (by decide)).mp c155
            obtain ⟨v156, ev156⟩ : ∃ y : Int32, w50 + 1 = y := ⟨_, rfl⟩
            have qv156 : v156.toInt = w50.toInt + 1 := by rw [← ev156]; exact th_add rfl (by decide) ⟨by omega, by omega⟩
            refine lv_iinc (v := v156) (lv' := [(3, .int v156), (0, .ref a0), (1, .int x1), (2, .int v49), (5, .int v128), (6, .int w129)]) hx hb dX7_chance_109 hl (k := 3) rfl ev156 (by decide) rfl (fun ls hl => ?_)
            refine lv_goto (tgt := 38) hx hb dX7_chance_112 (by decide) ?_
            exact ih38 _ _ _ _ (by omega) ⟨F137, _, v156, rfl, lv_sub hl [1, 2, 3, 0] rfl, hP, hS, hI, hfr, (fun k hk => (y_fiZ oY141 (s_sub (by decide) hk)).trans (hz0 k hk)), ⟨by omega, by omega⟩, (by rw [y_atE o145]; exact h135), (by rw [y_atE o148, y_fiZ oY141 (k := 31) (by decide), ← ev150, y_fiZ oY141 (k := 32) (by decide), ← ev151]; exact h136), rfl⟩
          · have c155 := mt (ax_ge (n := 9999) (by decide)).mpr c155
            refine lv_aload_n hx hb dX7_chance_99 rfl (lv_at hl 0 rfl) ?_
            refine va_callv (va_runV (As := []) (rest := []) ⟨hx, hb, hml, hown, hts⟩ (y_X7_aCycle l dC dI H.size hLK A hA F137 a0 ha0 hI (by rw [y_atE o138]; exact hPG) (by rw [y_atE o138, y_atE o145]; exact h135)) (cwV 0 hts (ax_gV T_1070 T_1072 T_1073 T_265 T_1071) rfl rfl rfl (by decide +kernel) ⟨Nat.le_of_ble_eq_true rfl, Nat.le_of_ble_eq_true rfl⟩) ⟨fun a U g mk q => ⟨q.1, s_pc (U := U) rfl rfl q.2⟩, s_recv hK hP (hLK _ ha0 (by decide)) (ci := 7) rfl oY141, fun U hU hW => ⟨rfl, s_pw hU hW hP hK hD hN⟩⟩ rfl rfl hl.1 rfl (lv_room (Nat.le_of_ble_eq_true rfl)) dX7_chance_100 ⟨Nat.zero_le _, Nat.zero_le _⟩) hS (fun q _ h => h) (fun q h => h) (fun F158 t H1 locs ht hvm hw hB hz1 hk1 hS => ?_)
            obtain ⟨hP, hK1⟩ := hB
            rw [ht] at hP
            generalize H1 = H at hP hS ⊢
            clear hz1 hk1 hvm hK1
            obtain ⟨h159, h161, hI, hfr1, hzf, h160⟩ := hw
            have o162 : F158 (A 13) = .inl (cs 0, 400, .inl f1) := (hfr1 _ (by rw [(y_k13 hA)]; decide)).trans o138
            have o163 : F158 (A 30) = .inl (cs 0, 18360, .inl f147) := (hfr1 _ (by rw [(y_k30 hA)]; decide)).trans o148
            have oY164 : F158 a0 = .inr (7, y_fl A z139 q140) := (hfr1 _ (by rw [ha0]; decide)).trans oY141
            have hfr : ∀ b, K b ∉ [9, 59, 70, 71, 72, 80] → F158 b = F b := fun b hb9 => (hfr1 b (fun q => hb9 (s_sub (by decide) q))).trans (hfr b hb9)
            obtain ⟨f165, o166, b167⟩ := y_op20 hI
            replace h160 : (y_NG f1 f165 ∧ y_c f165 3 = y_c f144 3 ∧ y_c f165 4 = y_c f144 4) := by have q9 := h160; rw [y_atE o138, y_atE o166, y_atE o145] at q9; exact q9
            obtain ⟨v168, ev168⟩ : ∃ y : Int32, w129 + 1 = y := ⟨_, rfl⟩
            have qv168 : v168.toInt = w129.toInt + 1 := by rw [← ev168]; exact th_add rfl (by decide) ⟨by omega, by omega⟩
            refine lv_iinc (v := v168) (lv' := [(6, .int v168), (0, .ref a0), (1, .int x1), (2, .int v49), (3, .int w50), (5, .int v128)]) hx hb dX7_chance_103 hl (k := 5) rfl ev168 (by decide) rfl (fun ls hl => ?_)
            refine lv_goto (tgt := 80) hx hb dX7_chance_106 (by decide) ?_
            exact ih80 _ _ _ _ (by omega) ⟨F158, _, v168, rfl, lv_sub hl [1, 2, 3, 4, 5, 0] rfl, hP, hS, hI, hfr, (fun k hk => (y_fiZ oY164 (s_sub (by decide) hk)).trans (hz0 k hk)), ⟨by omega, by omega⟩, ⟨by omega, by omega⟩, ⟨by omega, by omega⟩, ⟨by omega, by omega⟩, (by rw [y_atE o166]; exact h160.1), (by rw [y_atE o163, y_fiZ oY164 (k := 31) (by decide), ← ev150, y_fiZ oY164 (k := 32) (by decide), ← ev151]; exact h136), rfl⟩
    · have c31 := (ax_eq (n := 0) (by decide)).mp c31
      refine lv_aload_n hx hb dX7_chance_19 rfl (lv_at hl 0 rfl) ?_
      refine lv_iconst (v := 2) hx hb dX7_chance_20 (by decide) ?_
      refine va_calli (va_runV (As := [.int 2]) (rest := []) ⟨hx, hb, hml, hown, hts⟩ (y_X7_refuses l dC dI H.size hLK A hA F a0 2 ha0 (by decide) hI) (cwV 1 hts (ax_gV T_310 T_311 T_312 T_265 T_33) rfl rfl rfl (by decide +kernel) ⟨Nat.le_of_ble_eq_true rfl, Nat.le_of_ble_eq_true rfl⟩) ⟨fun a U g mk q => ⟨q.1, s_pc (U := U) rfl rfl q.2⟩, s_recv hK hP (hLK _ ha0 (by decide)) (ci := 7) rfl oY0, fun U hU hW => ⟨rfl, s_pw hU hW hP hK hD hN⟩⟩ rfl rfl hl.1 rfl (lv_room (Nat.le_of_ble_eq_true rfl)) dX7_chance_21 ⟨Nat.zero_le _, Nat.zero_le _⟩) hS (fun q _ h => h) (fun q h => h) (fun r170 F171 t H1 locs ht hvm hw hB hz1 hk1 hS => ?_)
      obtain ⟨hP, hK1⟩ := hB
      rw [ht] at hP
      generalize H1 = H at hP hS ⊢
      clear hz1 hk1 hvm hK1
      obtain ⟨h172, h174, hI, hfr1, hzf, h173⟩ := hw
      have o175 : F171 (A 13) = .inl (cs 0, 400, .inl f1) := (hfr1 _ (by rw [(y_k13 hA)]; decide)).trans o2
      have o176 : F171 (A 20) = .inl (cs 0, 918, .inl f4) := (hfr1 _ (by rw [(y_k20 hA)]; decide)).trans o5
      have o177 : F171 (A 30) = .inl (cs 0, 18360, .inl f7) := (hfr1 _ (by rw [(y_k30 hA)]; decide)).trans o8
      have oY178 : F171 a0 = .inr (7, y_fl A z0 q0) := (hfr1 _ (by rw [ha0]; decide)).trans oY0
      have hfr : ∀ b, K b ∉ [9, 59, 70, 71, 72, 80] → F171 b = F b := fun b hb9 => (hfr1 b (fun q => hb9 (s_sub (by decide) q))).trans (hfr b hb9)
      exact W.iret (v := r170) hx hb hr (fun t ht hW => ⟨⟨r170, F171, rfl, ⟨trivial, trivial, hI, hfr, fun k hk => (y_fiZ oY178 (s_sub (by decide) hk)).trans ((hz0 k hk).trans (y_fiZ oY0 (s_sub (by decide) hk)).symm), (by rw [y_fiZ oY178 (k := 15) (by decide), ← ev10, y_atE o175, y_atE o176, y_atE o177, y_fiZ oY178 (k := 31) (by decide), ← ev11, y_fiZ oY178 (k := 32) (by decide), ← ev12]; exact hT)⟩, by rw [ht]; exact hP, va_K.moved hW.alike hK⟩, hS.F ht⟩) hS.2.2 dX7_chance_24
