set_option maxHeartbeats 4000000 in
set_option maxRecDepth 100000 in
theorem y_X7_skew (l : Launch) (dC : Nat → ClassId) (dI : Nat → Nat → Nat) (sz : Nat) {L : List Nat} {K : Nat → Nat} {cs : Nat → ClassId} (hLK : ∀ a {k : Nat}, K a = k → k ≠ 0 → a ∈ L) (A : Nat → Nat) (hA : y_A K A) (F : Nat → va_E) (a0 : Nat) (x1 : Int32) (ha0 : K a0 = 9) (hI : y_I K cs A F) (hT : y_T (y_fi F a0 15) (y_at F (A 13)) (y_at F (A 20)) (y_at F (A 30)) (y_fi F a0 31) (y_fi F a0 32)) : Met l yX7_skew (Cond.code yX7_skew cX7_skew 6 (some .int) :: T0) ({ frames := 9, cells := 0, slots := 0, locals := 209 }) (va_Pc [.ref a0, .int x1] (s_W dC dI sz L F [(cs 0, .int), (cs 1, .byte), (cs 2, .long), (cs 3, .object RX5), (cs 4, .object RX4), (cs 5, .array .int), (cs 6, .char), (cs 7, .boolean)])) (va_Qi (fun (r : Int32) (G : Nat → va_E) => (-1 ≤ r.toInt ∧ r.toInt ≤ 400) ∧ True ∧ y_I K cs A G ∧ (∀ b, K b ∉ [70, 71, 72, 73] → G b = F b) ∧ (∀ k, k ∈ ([1, 2, 3, 4, 5, 6, 7, 8, 11, 15, 16, 19, 25, 26, 27, 31, 32] : List Nat) → y_fi G a0 k = y_fi F a0 k) ∧ (y_T (y_fi G a0 15) (y_at G (A 13)) (y_at G (A 20)) (y_at G (A 30)) (y_fi G a0 31) (y_fi G a0 32))) (fun (G : Nat → va_E) (t : State) => va_P (dC, dI) vwCl (va_pl L G) t.heap ∧ va_K (dC, dI) vwCl [(cs 0, .int), (cs 1, .byte), (cs 2, .long), (cs 3, .object RX5), (cs 4, .object RX4), (cs 5, .array .int), (cs 6, .char), (cs 7, .boolean)] t) (fun q => q ∈ L)) 0 0 (fun q => q ∈ L) := by
  refine Met.ofW (cc := cX7_skew) (maxL := 6) (ret := (some .int)) (by decide) rfl ?_
  intro p e s m args below meth c s₁ B hml hv
  obtain ⟨rfl, hsz, hP, hK, hD, hN⟩ := hv
  have hx := B.exec
  have hb := B.bytes
  have hr := B.returns
  have hts : ∀ w ∈ T0, w.before _ s = true := fun w h => atoms_spec (ws := Cond.code yX7_skew cX7_skew 6 (some .int) :: T0) B.pre w (List.mem_cons_of_mem _ h)
  have hown : s.vm.findClass RX7 = some m.cls := findClass_of_methodNamed B.named
  have hlocks := B.notSynchronized
  have hS : va_S (fun q => q ∈ L) s.heap s.heap [] := va_S.rf
  have hfr : ∀ b, K b ∉ [70, 71, 72, 73] → F b = F b := fun _ _ => rfl
  have hl := lv_entry ([.ref a0, .int x1]) (n := 6) (Nat.le_of_ble_eq_true rfl)
  rw [lg_entry_eq]
  generalize (lg_sl ([.ref a0, .int x1]) ++ List.replicate (6 - (lg_sl ([.ref a0, .int x1])).length) Slot.unset).toArray = ls at hl ⊢
  have hl : lv_has ls 6 [(0, .ref a0), (1, .int x1)] := hl
  refine s_gen hP hS (fun H locs hP hS => ?_)
  obtain ⟨z0, q0, oY0, bz0, bq0⟩ := y_opY hI ha0
  have hz0 : ∀ k, k ∈ ([1, 2, 3, 4, 5, 6, 7, 8, 11, 15, 16, 19, 25, 26, 27, 31, 32] : List Nat) → z0 k = z0 k := fun _ _ => rfl
  obtain ⟨f1, o2, b3⟩ := y_op13 hI
  obtain ⟨f4, o5, b6⟩ := y_op20 hI
  obtain ⟨f7, o8, b9⟩ := y_op30 hI
  obtain ⟨v10, ev10⟩ : ∃ y : Int32, y = z0 15 := ⟨_, rfl⟩
  have qv10 : 0 ≤ v10.toInt ∧ v10.toInt ≤ 1 := by rw [ev10]; exact y_bY15 bz0
  have eF_15 := ev10
  obtain ⟨v11, ev11⟩ : ∃ y : Int32, y = z0 31 := ⟨_, rfl⟩
  have qv11 : 0 ≤ v11.toInt ∧ v11.toInt ≤ 20 := by rw [ev11]; exact y_bY31 bz0
  have eF_31 := ev11
  obtain ⟨v12, ev12⟩ : ∃ y : Int32, y = z0 32 := ⟨_, rfl⟩
  have qv12 : 0 ≤ v12.toInt ∧ v12.toInt ≤ 19 := by rw [ev12]; exact y_bY32 bz0
  have eF_32 := ev12
  replace hT : y_T v10 f1 f4 f7 v11 v12 := by have q9 := hT; rw [y_fiZ oY0 (k := 15) (by decide), ← ev10, y_atE o2, y_atE o5, y_atE o8, y_fiZ oY0 (k := 31) (by decide), ← ev11, y_fiZ oY0 (k := 32) (by decide), ← ev12] at q9; exact q9
  have e0_v10 := ev10
  have e0_v11 := ev11
  have e0_v12 := ev12
  refine lv_aload_n hx hb dX7_skew_0 rfl (lv_at hl 0 rfl) ?_
  refine th_get (D := (dC, dI)) (ci := 7) (v := .int (z0 15)) (C := RX7) (T := TX7) (N := 34) hx hb hts inX7 hown hK hP (hLK _ ha0 (by decide)) oY0 rfl 15 (by decide) (hts _ T_271) (fun _ h9 => h9) rfl dX7_skew_1 ?_
  refine ax_eqi (y := v10) ev10.symm ?_
  refine lv_if_eq (tgt := 17) hx hb dX7_skew_4 (by decide) (fun c13 => ?_) (fun c13 => ?_)
  · have c13 := (ax_eq (n := 0) (by decide)).mp c13
    refine lv_iconst (v := (-1)) hx hb dX7_skew_17 (by decide) ?_
    have h14 : ((-1) : Int32).toInt = (-1) := by decide
    exact W.iret (v := (-1)) hx hb hr (fun t ht hW => ⟨⟨(-1), F, rfl, ⟨(by decide), trivial, hI, hfr, fun k hk => (y_fiZ oY0 (s_sub (by decide) hk)).trans ((hz0 k hk).trans (y_fiZ oY0 (s_sub (by decide) hk)).symm), (by rw [y_fiZ oY0 (k := 15) (by decide), ← ev10, y_atE o2, y_atE o5, y_atE o8, y_fiZ oY0 (k := 31) (by decide), ← ev11, y_fiZ oY0 (k := 32) (by decide), ← ev12]; exact hT)⟩, by rw [ht]; exact hP, va_K.moved hW.alike hK⟩, hS.F ht⟩) hS.2.2 dX7_skew_18
  · have c13 := mt (ax_eq (n := 0) (by decide)).mpr c13
    obtain ⟨htd, hPG, hNG, hUG⟩ := y_TT hT (by omega)
    have hL := y_P0L hPG.1
    have hW := y_P0W hPG.1
    have hnn := And.intro hNG.1 (And.intro hNG.2.1 (And.intro hNG.2.2.1 hNG.2.2.2.1))
    refine lv_iload_n hx hb dX7_skew_7 rfl (lv_at hl 1 rfl) ?_
    refine lv_i2l hx hb dX7_skew_8 rfl ?_
    refine lv_topl (fun v15 ev15 => ?_)
    have qv15 : v15.toInt = x1.toInt := y_i2l ev15
    refine lv_lconst (v := 0) hx hb dX7_skew_9 (by decide) ?_
    refine lv_lconst (v := 1) hx hb dX7_skew_10 (by decide) ?_
    refine va_calli (va_runS (As := [.long v15, .long 0, .long 1]) (rest := []) ⟨hx, hb, hml, hown, hts⟩ (y_X7_isIn l dC dI H.size F v15 0 1) (cwS 3 hts (ax_gS T_267 T_268 T_265 T_21) rfl rfl rfl (by decide +kernel) ⟨Nat.le_of_ble_eq_true rfl, Nat.le_of_ble_eq_true rfl⟩) ⟨fun a U g mk q => ⟨q.1, s_pc (U := U) rfl rfl q.2⟩, fun U hU hW => ⟨rfl, s_pw hU hW hP hK hD hN⟩⟩ rfl rfl hl.1 rfl (lv_room (Nat.le_of_ble_eq_true rfl)) dX7_skew_11 ⟨Nat.zero_le _, Nat.zero_le _⟩) hS (fun q _ h => h) (fun q h => h) (fun r17 F18 t H1 locs ht hvm hw hB hz1 hk1 hS => ?_)
    obtain ⟨hP, hK1⟩ := hB
    rw [ht] at hP
    generalize H1 = H at hP hS ⊢
    clear hz1 hk1 hvm hK1
    obtain ⟨h19, h21, hG9, h20⟩ := hw
    rw [hG9] at hP
    replace h20 : ((r17.toInt = 0 ∧ (v15.toInt < 0 ∨ 1 < v15.toInt)) ∨ (r17.toInt = 1 ∧ 0 ≤ v15.toInt ∧ v15.toInt ≤ 1)) := by have q9 := h20; exact q9
    refine lv_if_ne (tgt := 19) hx hb dX7_skew_14 (by decide) (fun c22 => ?_) (fun c22 => ?_)
    · have c22 := mt (ax_eq (n := 0) (by decide)).mpr c22
      refine lv_iconst (v := (-1)) hx hb dX7_skew_19 (by decide) ?_
      refine lv_istore_n (lv' := [(2, .int (-1)), (0, .ref a0), (1, .int x1)]) hx hb dX7_skew_20 rfl hl (by decide) rfl (fun ls hl => ?_)
      refine lv_iconst (v := 0) hx hb dX7_skew_21 (by decide) ?_
      refine lv_istore_n (lv' := [(3, .int 0), (2, .int (-1)), (0, .ref a0), (1, .int x1)]) hx hb dX7_skew_22 rfl hl (by decide) rfl (fun ls hl => ?_)
      refine lv_aload_n hx hb dX7_skew_23 rfl (lv_at hl 2 rfl) ?_
      refine va_callv (va_runV (As := []) (rest := []) ⟨hx, hb, hml, hown, hts⟩ (y_X7_putsAside l dC dI H.size hLK A hA F a0 ha0 hI) (cwV 0 hts (ax_gV T_1041 T_1043 T_1044 T_265 T_1042) rfl rfl rfl (by decide +kernel) ⟨Nat.le_of_ble_eq_true rfl, Nat.le_of_ble_eq_true rfl⟩) ⟨fun a U g mk q => ⟨q.1, s_pc (U := U) rfl rfl q.2⟩, s_recv hK hP (hLK _ ha0 (by decide)) (ci := 7) rfl oY0, fun U hU hW => ⟨rfl, s_pw hU hW hP hK hD hN⟩⟩ rfl rfl hl.1 rfl (lv_room (Nat.le_of_ble_eq_true rfl)) dX7_skew_24 ⟨Nat.zero_le _, Nat.zero_le _⟩) hS (fun q _ h => h) (fun q h => h) (fun F24 t H1 locs ht hvm hw hB hz1 hk1 hS => ?_)
      obtain ⟨hP, hK1⟩ := hB
      rw [ht] at hP
      generalize H1 = H at hP hS ⊢
      clear hz1 hk1 hvm hK1
      obtain ⟨h25, h27, hI, hfr1, hzf, h26⟩ := hw
      have o28 : F24 (A 13) = .inl (cs 0, 400, .inl f1) := (hfr1 _ (by rw [(y_k13 hA)]; decide)).trans o2
      have o29 : F24 (A 20) = .inl (cs 0, 918, .inl f4) := (hfr1 _ (by rw [(y_k20 hA)]; decide)).trans o5
      have o30 : F24 (A 30) = .inl (cs 0, 18360, .inl f7) := (hfr1 _ (by rw [(y_k30 hA)]; decide)).trans o8
      have oY31 : F24 a0 = .inr (7, y_fl A z0 q0) := (hfr1 _ (by rw [ha0]; decide)).trans oY0
      have hfr : ∀ b, K b ∉ [70, 71, 72, 73] → F24 b = F b := fun b hb9 => (hfr1 b (fun q => hb9 (s_sub (by decide) q))).trans (hfr b hb9)
      obtain ⟨f32, o33, b34⟩ := y_op23 hI
      replace h26 : (y_CP f4 f32) := by have q9 := h26; rw [y_atE o5, y_atE o33] at q9; exact q9
      refine lv_iconst (v := 0) hx hb dX7_skew_27 (by decide) ?_
      refine lv_istore (lv' := [(4, .int 0), (3, .int 0), (2, .int (-1)), (0, .ref a0), (1, .int x1)]) hx hb dX7_skew_28 hl (by decide) rfl (fun ls hl => ?_)
      have h38 : ((-1) : Int32).toInt = (-1) := by decide
      have h39 : (0 : Int32).toInt = 0 := by decide
      have h40 : (0 : Int32).toInt = 0 := by decide
      refine th_loop (fun n g H locs => ∃ (G : Nat → va_E) (ls : Array Slot) (w35 : Int32) (w36 : Int32) (w37 : Int32), g = F0 m 30 ls [] ∧ lv_has ls 6 [(0, .ref a0), (1, .int x1), (2, .int w35), (3, .int w36), (4, .int w37)] ∧ va_P (dC, dI) vwCl (va_pl L G) H ∧ va_S (fun q => q ∈ L) s.heap H locs ∧ y_I K cs A G ∧ (∀ b, K b ∉ [70, 71, 72, 73] → G b = F b) ∧ (∀ k, k ∈ ([1, 2, 3, 4, 5, 6, 7, 8, 11, 15, 16, 19, 25, 26, 27, 31, 32] : List Nat) → y_fi G a0 k = z0 k) ∧ (-1 ≤ w35.toInt ∧ w35.toInt ≤ 3) ∧ (0 ≤ w36.toInt ∧ w36.toInt ≤ 400) ∧ (0 ≤ w37.toInt ∧ w37.toInt ≤ 4) ∧ (y_NG f1 (y_at G (A 20))) ∧ (y_CP f4 (y_at G (A 23))) ∧ n = (5 - w37.toInt).toNat) _ ⟨F24, _, (-1), 0, 0, rfl, lv_sub hl [3, 4, 2, 1, 0] rfl, hP, hS, hI, hfr, (fun k hk => (y_fiZ oY31 (s_sub (by decide) hk)).trans (hz0 k hk)), (by decide), (by decide), (by decide), (by rw [y_atE o29]; exact hNG), (by rw [y_atE o33]; exact h26), rfl⟩ (fun n ih30 g H locs hq => ?_)
      obtain ⟨F46, ls, w35, w36, w37, rfl, hl, hP, hS, hI, hfr, hz0, h41, h42, h43, h44, h45, hn⟩ := hq
      have o47 : F46 (A 13) = .inl (cs 0, 400, .inl f1) := (hfr _ (by rw [(y_k13 hA)]; decide)).trans o2
      have o48 : F46 (A 30) = .inl (cs 0, 18360, .inl f7) := (hfr _ (by rw [(y_k30 hA)]; decide)).trans o8
      have oY49 : F46 a0 = .inr (7, y_fl A z0 q0) := (hfr _ (by rw [ha0]; decide)).trans oY0
      have hz0 : ∀ k, k ∈ ([1, 2, 3, 4, 5, 6, 7, 8, 11, 15, 16, 19, 25, 26, 27, 31, 32] : List Nat) → z0 k = z0 k := fun _ _ => rfl
      obtain ⟨f50, o51, b52⟩ := y_op20 hI
      replace h44 : (y_NG f1 f50) := by have q9 := h44; rw [y_atE o51] at q9; exact q9
      obtain ⟨f53, o54, b55⟩ := y_op23 hI
      replace h45 : (y_CP f4 f53) := by have q9 := h45; rw [y_atE o54] at q9; exact q9
      have hn_55 := hn
      refine th_join (fun g H locs => ∃ (G : Nat → va_E) (ls : Array Slot) (w56 : Int32) (w57 : Int32), g = F0 m 81 ls [] ∧ lv_has ls 6 [(0, .ref a0), (1, .int x1), (2, .int w56), (3, .int w57), (4, .int w37)] ∧ va_P (dC, dI) vwCl (va_pl L G) H ∧ va_S (fun q => q ∈ L) s.heap H locs ∧ y_I K cs A G ∧ (∀ b, K b ∉ [70, 71, 72, 73] → G b = F b) ∧ (∀ k, k ∈ ([1, 2, 3, 4, 5, 6, 7, 8, 11, 15, 16, 19, 25, 26, 27, 31, 32] : List Nat) → y_fi G a0 k = z0 k) ∧ (-1 ≤ w56.toInt ∧ w56.toInt ≤ 3) ∧ (0 ≤ w57.toInt ∧ w57.toInt ≤ 400) ∧ (0 ≤ w37.toInt ∧ w37.toInt ≤ 3) ∧ (y_NG f1 (y_at G (A 20))) ∧ (y_CP f4 (y_at G (A 23)))) (fun K81 => ?_) ?_
      · refine lv_iload hx hb dX7_skew_30 (lv_at hl 4 rfl) ?_
        refine lv_iconst (v := 4) hx hb dX7_skew_32 (by decide) ?_
        refine lv_icmp_ge (tgt := 87) hx hb dX7_skew_33 (by decide) (fun c58 => ?_) (fun c58 => ?_)
        · have c58 := (ax_ge (n := 4) (by decide)).mp c58
          refine lv_aload_n hx hb dX7_skew_87 rfl (lv_at hl 0 rfl) ?_
          refine va_callv (va_runV (As := []) (rest := []) ⟨hx, hb, hml, hown, hts⟩ (y_X7_takesBack l dC dI H.size hLK A hA F46 a0 ha0 hI) (cwV 0 hts (ax_gV T_1049 T_1051 T_1052 T_265 T_1050) rfl rfl rfl (by decide +kernel) ⟨Nat.le_of_ble_eq_true rfl, Nat.le_of_ble_eq_true rfl⟩) ⟨fun a U g mk q => ⟨q.1, s_pc (U := U) rfl rfl q.2⟩, s_recv hK hP (hLK _ ha0 (by decide)) (ci := 7) rfl oY49, fun U hU hW => ⟨rfl, s_pw hU hW hP hK hD hN⟩⟩ rfl rfl hl.1 rfl (lv_room (Nat.le_of_ble_eq_true rfl)) dX7_skew_88 ⟨Nat.zero_le _, Nat.zero_le _⟩) hS (fun q _ h => h) (fun q h => h) (fun F60 t H1 locs ht hvm hw hB hz1 hk1 hS => ?_)
          obtain ⟨hP, hK1⟩ := hB
          rw [ht] at hP
          generalize H1 = H at hP hS ⊢
          clear hz1 hk1 hvm hK1
          obtain ⟨h61, h63, hI, hfr1, hzf, h62⟩ := hw
          have o64 : F60 (A 13) = .inl (cs 0, 400, .inl f1) := (hfr1 _ (by rw [(y_k13 hA)]; decide)).trans o47
          have o65 : F60 (A 30) = .inl (cs 0, 18360, .inl f7) := (hfr1 _ (by rw [(y_k30 hA)]; decide)).trans o48
          have o66 : F60 (A 23) = .inl (cs 0, 918, .inl f53) := (hfr1 _ (by rw [(y_k23 hA)]; decide)).trans o54
          have oY67 : F60 a0 = .inr (7, y_fl A z0 q0) := (hfr1 _ (by rw [ha0]; decide)).trans oY49
          have hfr : ∀ b, K b ∉ [70, 71, 72, 73] → F60 b = F b := fun b hb9 => (hfr1 b (fun q => hb9 (s_sub (by decide) q))).trans (hfr b hb9)
          obtain ⟨f68, o69, b70⟩ := y_op20 hI
          replace h62 : (y_CP f53 f68) := by have q9 := h62; rw [y_atE o54, y_atE o69] at q9; exact q9
          refine lv_iload_n hx hb dX7_skew_91 rfl (lv_at hl 2 rfl) ?_
          refine lv_iconst (v := (-1)) hx hb dX7_skew_92 (by decide) ?_
          refine lv_icmp_ne (tgt := 100) hx hb dX7_skew_93 (by decide) (fun c71 => ?_) (fun c71 => ?_)
          · have c71 := mt (ax_eq (n := (-1)) (by decide)).mpr c71
            refine lv_iload_n hx hb dX7_skew_100 rfl (lv_at hl 1 rfl) ?_
            refine lv_if_ne (tgt := 108) hx hb dX7_skew_101 (by decide) (fun c72 => ?_) (fun c72 => ?_)
            · have c72 := mt (ax_eq (n := 0) (by decide)).mpr c72
              refine lv_iload_n hx hb dX7_skew_108 rfl (lv_at hl 3 rfl) ?_
              exact W.iret (v := w36) hx hb hr (fun t ht hW => ⟨⟨w36, F60, rfl, ⟨⟨by omega, by omega⟩, trivial, hI, hfr, fun k hk => (y_fiZ oY67 (s_sub (by decide) hk)).trans ((hz0 k hk).trans (y_fiZ oY0 (s_sub (by decide) hk)).symm), (by rw [y_fiZ oY67 (k := 15) (by decide), ← ev10, y_atE o64, y_atE o69, y_atE o65, y_fiZ oY67 (k := 31) (by decide), ← ev11, y_fiZ oY67 (k := 32) (by decide), ← ev12]; exact (y_Tc (y_CP_t h45 h62) hT))⟩, by rw [ht]; exact hP, va_K.moved hW.alike hK⟩, hS.F ht⟩) hS.2.2 dX7_skew_109
            · have c72 := (ax_eq (n := 0) (by decide)).mp c72
              refine lv_iload_n hx hb dX7_skew_104 rfl (lv_at hl 2 rfl) ?_
              refine lv_goto (tgt := 109) hx hb dX7_skew_105 (by decide) ?_
              exact W.iret (v := w35) hx hb hr (fun t ht hW => ⟨⟨w35, F60, rfl, ⟨⟨by omega, by omega⟩, trivial, hI, hfr, fun k hk => (y_fiZ oY67 (s_sub (by decide) hk)).trans ((hz0 k hk).trans (y_fiZ oY0 (s_sub (by decide) hk)).symm), (by rw [y_fiZ oY67 (k := 15) (by decide), ← ev10, y_atE o64, y_atE o69, y_atE o65, y_fiZ oY67 (k := 31) (by decide), ← ev11, y_fiZ oY67 (k := 32) (by decide), ← ev12]; exact (y_Tc (y_CP_t h45 h62) hT))⟩, by rw [ht]; exact hP, va_K.moved hW.alike hK⟩, hS.F ht⟩) hS.2.2 dX7_skew_109
          · have c71 := (ax_eq (n := (-1)) (by decide)).mp c71
            refine lv_iconst (v := (-1)) hx hb dX7_skew_96 (by decide) ?_
            refine lv_goto (tgt := 109) hx hb dX7_skew_97 (by decide) ?_
            have h73 : ((-1) : Int32).toInt = (-1) := by decide
            exact W.iret (v := (-1)) hx hb hr (fun t ht hW => ⟨⟨(-1), F60, rfl, ⟨(by decide), trivial, hI, hfr, fun k hk => (y_fiZ oY67 (s_sub (by decide) hk)).trans ((hz0 k hk).trans (y_fiZ oY0 (s_sub (by decide) hk)).symm), (by rw [y_fiZ oY67 (k := 15) (by decide), ← ev10, y_atE o64, y_atE o69, y_atE o65, y_fiZ oY67 (k := 31) (by decide), ← ev11, y_fiZ oY67 (k := 32) (by decide), ← ev12]; exact (y_Tc (y_CP_t h45 h62) hT))⟩, by rw [ht]; exact hP, va_K.moved hW.alike hK⟩, hS.F ht⟩) hS.2.2 dX7_skew_109
        · have c58 := mt (ax_ge (n := 4) (by decide)).mpr c58
          refine lv_aload_n hx hb dX7_skew_36 rfl (lv_at hl 0 rfl) ?_
          refine th_get (D := (dC, dI)) (ci := 7) (v := .ref (A 20)) (C := RX7) (T := TX7) (N := 34) hx hb hts inX7 hown hK hP (hLK _ ha0 (by decide)) oY49 rfl 20 (by decide) (hts _ T_251) (fun _ h9 => h9) rfl dX7_skew_37 ?_
          refine lv_iconst (v := 5) hx hb dX7_skew_40 (by decide) ?_
          refine lv_iload hx hb dX7_skew_41 (lv_at hl 4 rfl) ?_
          refine th_iast hx hb hK hP hD hS (hLK _ (y_k20 hA) (by decide)) 0 o51 rfl (ax_in (by decide)) dX7_skew_43 (fun H locs hP hS => ?_)
          obtain ⟨f74, u75⟩ : ∃ g : Nat → Int32, g = upd f50 (5 : Int32).toNatClampNeg w37 := ⟨_, rfl⟩
          rw [← u75] at hP
          have b76 : y_bd 20 f74 := trivial
          have hP : va_P (dC, dI) vwCl (va_pl L (va_up F46 (A 20) (.inl (cs 0, 918, .inl f74)))) H := hP
          obtain ⟨F77, hF78⟩ : ∃ G : Nat → va_E, G = va_up F46 (A 20) (.inl (cs 0, 918, .inl f74)) := ⟨_, rfl⟩
          rw [← hF78] at hP
          have hI : y_I K cs A F77 := by rw [hF78]; exact y_clA (i := 20) hA hI (by decide) b76
          have hfr : ∀ b, K b ∉ [70, 71, 72, 73] → F77 b = F b := by rw [hF78]; exact s_fr hfr (y_k20 hA) (by decide)
          have o79 : F77 (A 13) = .inl (cs 0, 400, .inl f1) := by rw [hF78]; exact th_ne (th_kd (y_k13 hA) (y_k20 hA) (by decide)) o47
          have o80 : F77 (A 30) = .inl (cs 0, 18360, .inl f7) := by rw [hF78]; exact th_ne (th_kd (y_k30 hA) (y_k20 hA) (by decide)) o48
          have o81 : F77 (A 23) = .inl (cs 0, 918, .inl f53) := by rw [hF78]; exact th_ne (th_kd (y_k23 hA) (y_k20 hA) (by decide)) o54
          have oY82 : F77 a0 = .inr (7, y_fl A z0 q0) := by rw [hF78]; exact th_ne (th_kd ha0 (y_k20 hA) (by decide)) oY49
          have o83 : F77 (A 20) = .inl (cs 0, 918, .inl f74) := by rw [hF78]; exact th_up
          have u84 : ∀ j : Int, 0 ≤ j → y_c f74 j = if j = 5 then w37 else y_c f50 j := by rw [u75]; exact y_cu (by decide) (by decide)
          have k85 : y_NG f1 f74 := y_NGe (y_E_u u84 (by omega)) h44 (by rw [u84 6 (by omega), if_neg (by omega)]; exact h44.2.2.1) (by rw [u84 7 (by omega), if_neg (by omega)]; exact h44.2.2.2.1) (by omega)
          refine lv_aload_n hx hb dX7_skew_44 rfl (lv_at hl 0 rfl) ?_
          refine lv_iconst (v := (-1)) hx hb dX7_skew_45 (by decide) ?_
          refine va_callv (va_runV (As := [.int (-1)]) (rest := []) ⟨hx, hb, hml, hown, hts⟩ (y_X7_begins l dC dI H.size hLK A hA F77 a0 (-1) ha0 (by decide) hI (by rw [y_atE o79]; exact hPG) (by rw [y_atE o83]; exact ⟨k85.1, k85.2.1⟩)) (cwV 1 hts (ax_gV T_1017 T_1019 T_1020 T_265 T_1018) rfl rfl rfl (by decide +kernel) ⟨Nat.le_of_ble_eq_true rfl, Nat.le_of_ble_eq_true rfl⟩) ⟨fun a U g mk q => ⟨q.1, s_pc (U := U) rfl rfl q.2⟩, s_recv hK hP (hLK _ ha0 (by decide)) (ci := 7) rfl oY82, fun U hU hW => ⟨rfl, s_pw hU hW hP hK hD hN⟩⟩ rfl rfl hl.1 rfl (lv_room (Nat.le_of_ble_eq_true rfl)) dX7_skew_46 ⟨Nat.zero_le _, Nat.zero_le _⟩) hS (fun q _ h => h) (fun q h => h) (fun F87 t H1 locs ht hvm hw hB hz1 hk1 hS => ?_)
          obtain ⟨hP, hK1⟩ := hB
          rw [ht] at hP
          generalize H1 = H at hP hS ⊢
          clear hz1 hk1 hvm hK1
          obtain ⟨h88, h90, hI, hfr1, hzf, h89⟩ := hw
          have o91 : F87 (A 13) = .inl (cs 0, 400, .inl f1) := (hfr1 _ (by rw [(y_k13 hA)]; decide)).trans o79
          have o92 : F87 (A 30) = .inl (cs 0, 18360, .inl f7) := (hfr1 _ (by rw [(y_k30 hA)]; decide)).trans o80
          have o93 : F87 (A 23) = .inl (cs 0, 918, .inl f53) := (hfr1 _ (by rw [(y_k23 hA)]; decide)).trans o81
          have oY94 : F87 a0 = .inr (7, y_fl A z0 q0) := (hfr1 _ (by rw [ha0]; decide)).trans oY82
          have hfr : ∀ b, K b ∉ [70, 71, 72, 73] → F87 b = F b := fun b hb9 => (hfr1 b (fun q => hb9 (s_sub (by decide) q))).trans (hfr b hb9)
          obtain ⟨f95, o96, b97⟩ := y_op20 hI
          replace h89 : (y_NG f1 f95) := by have q9 := h89; rw [y_atE o79, y_atE o96] at q9; exact q9
          refine lv_aload_n hx hb dX7_skew_49 rfl (lv_at hl 0 rfl) ?_
          refine va_calli (va_runV (As := []) (rest := []) ⟨hx, hb, hml, hown, hts⟩ (y_X7_endsBehind l dC dI H.size hLK A hA F87 a0 ha0 hI (by rw [y_atE o91]; exact hPG) (by rw [y_atE o91, y_atE o96]; exact h89)) (cwV 0 hts (ax_gV T_1200 T_1202 T_1203 T_265 T_1201) rfl rfl rfl (by decide +kernel) ⟨Nat.le_of_ble_eq_true rfl, Nat.le_of_ble_eq_true rfl⟩) ⟨fun a U g mk q => ⟨q.1, s_pc (U := U) rfl rfl q.2⟩, s_recv hK hP (hLK _ ha0 (by decide)) (ci := 7) rfl oY94, fun U hU hW => ⟨rfl, s_pw hU hW hP hK hD hN⟩⟩ rfl rfl hl.1 rfl (lv_room (Nat.le_of_ble_eq_true rfl)) dX7_skew_50 ⟨Nat.zero_le _, Nat.zero_le _⟩) hS (fun q _ h => h) (fun q h => h) (fun r99 F100 t H1 locs ht hvm hw hB hz1 hk1 hS => ?_)
          obtain ⟨hP, hK1⟩ := hB
          rw [ht] at hP
          generalize H1 = H at hP hS ⊢
          clear hz1 hk1 hvm hK1
          obtain ⟨h101, h103, hI, hfr1, hzf, h102⟩ := hw
          have o104 : F100 (A 13) = .inl (cs 0, 400, .inl f1) := (hfr1 _ (by rw [(y_k13 hA)]; decide)).trans o91
          have o105 : F100 (A 30) = .inl (cs 0, 18360, .inl f7) := (hfr1 _ (by rw [(y_k30 hA)]; decide)).trans o92
          have o106 : F100 (A 23) = .inl (cs 0, 918, .inl f53) := (hfr1 _ (by rw [(y_k23 hA)]; decide)).trans o93
          have oY107 : F100 a0 = .inr (7, y_fl A z0 q0) := (hfr1 _ (by rw [ha0]; decide)).trans oY94
          have hfr : ∀ b, K b ∉ [70, 71, 72, 73] → F100 b = F b := fun b hb9 => (hfr1 b (fun q => hb9 (s_sub (by decide) q))).trans (hfr b hb9)
          obtain ⟨f108, o109, b110⟩ := y_op20 hI
          replace h102 : (y_NG f1 f108) := by have q9 := h102; rw [y_atE o91, y_atE o109] at q9; exact q9
          refine lv_istore (lv' := [(5, .int r99), (0, .ref a0), (1, .int x1), (2, .int w35), (3, .int w36), (4, .int w37)]) hx hb dX7_skew_53 hl (by decide) rfl (fun ls hl => ?_)
          refine lv_iload hx hb dX7_skew_55 (lv_at hl 0 rfl) ?_
          refine lv_iconst (v := (-1)) hx hb dX7_skew_57 (by decide) ?_
          refine lv_icmp_eq (tgt := 81) hx hb dX7_skew_58 (by decide) (fun c111 => ?_) (fun c111 => ?_)
          · have c111 := (ax_eq (n := (-1)) (by decide)).mp c111
            exact K81 _ _ _ ⟨F100, _, w35, w36, rfl, lv_sub hl [1, 2, 3, 4, 5] rfl, hP, hS, hI, hfr, (fun k hk => (y_fiZ oY107 (s_sub (by decide) hk)).trans (hz0 k hk)), ⟨by omega, by omega⟩, ⟨by omega, by omega⟩, ⟨by omega, by omega⟩, (by rw [y_atE o109]; exact h102), (by rw [y_atE o106]; exact h45)⟩
          · have c111 := mt (ax_eq (n := (-1)) (by decide)).mpr c111
            refine lv_iload_n hx hb dX7_skew_61 rfl (lv_at hl 3 rfl) ?_
            refine lv_iconst (v := (-1)) hx hb dX7_skew_62 (by decide) ?_
            refine lv_icmp_eq (tgt := 75) hx hb dX7_skew_63 (by decide) (fun c112 => ?_) (fun c112 => ?_)
            · have c112 := (ax_eq (n := (-1)) (by decide)).mp c112
              refine lv_iload hx hb dX7_skew_75 (lv_at hl 5 rfl) ?_
              refine lv_istore_n (lv' := [(2, .int w37), (5, .int r99), (0, .ref a0), (1, .int x1), (3, .int w36), (4, .int w37)]) hx hb dX7_skew_77 rfl hl (by decide) rfl (fun ls hl => ?_)
              refine lv_iload hx hb dX7_skew_78 (lv_at hl 1 rfl) ?_
              refine lv_istore_n (lv' := [(3, .int r99), (2, .int w37), (5, .int r99), (0, .ref a0), (1, .int x1), (4, .int w37)]) hx hb dX7_skew_80 rfl hl (by decide) rfl (fun ls hl => ?_)
              exact K81 _ _ _ ⟨F100, _, w37, r99, rfl, lv_sub hl [3, 4, 1, 0, 5] rfl, hP, hS, hI, hfr, (fun k hk => (y_fiZ oY107 (s_sub (by decide) hk)).trans (hz0 k hk)), ⟨by omega, by omega⟩, ⟨by omega, by omega⟩, ⟨by omega, by omega⟩, (by rw [y_atE o109]; exact h102), (by rw [y_atE o106]; exact h45)⟩
            · have c112 := mt (ax_eq (n := (-1)) (by decide)).mpr c112
              refine lv_iload hx hb dX7_skew_66 (lv_at hl 0 rfl) ?_
              refine lv_iload_n hx hb dX7_skew_68 rfl (lv_at hl 4 rfl) ?_
              refine lv_icmp_lt (tgt := 75) hx hb dX7_skew_69 (by decide) (fun c113 => ?_) (fun c113 => ?_)
              · have c113 := Int32.lt_iff_toInt_lt.mp c113
                refine lv_iload hx hb dX7_skew_75 (lv_at hl 5 rfl) ?_
                refine lv_istore_n (lv' := [(2, .int w37), (5, .int r99), (0, .ref a0), (1, .int x1), (3, .int w36), (4, .int w37)]) hx hb dX7_skew_77 rfl hl (by decide) rfl (fun ls hl => ?_)
                refine lv_iload hx hb dX7_skew_78 (lv_at hl 1 rfl) ?_
                refine lv_istore_n (lv' := [(3, .int r99), (2, .int w37), (5, .int r99), (0, .ref a0), (1, .int x1), (4, .int w37)]) hx hb dX7_skew_80 rfl hl (by decide) rfl (fun ls hl => ?_)
                exact K81 _ _ _ ⟨F100, _, w37, r99, rfl, lv_sub hl [3, 4, 1, 0, 5] rfl, hP, hS, hI, hfr, (fun k hk => (y_fiZ oY107 (s_sub (by decide) hk)).trans (hz0 k hk)), ⟨by omega, by omega⟩, ⟨by omega, by omega⟩, ⟨by omega, by omega⟩, (by rw [y_atE o109]; exact h102), (by rw [y_atE o106]; exact h45)⟩
              · have c113 := mt Int32.lt_iff_toInt_lt.mpr c113
                refine lv_goto (tgt := 81) hx hb dX7_skew_72 (by decide) ?_
                exact K81 _ _ _ ⟨F100, _, w35, w36, rfl, lv_sub hl [1, 2, 3, 4, 5] rfl, hP, hS, hI, hfr, (fun k hk => (y_fiZ oY107 (s_sub (by decide) hk)).trans (hz0 k hk)), ⟨by omega, by omega⟩, ⟨by omega, by omega⟩, ⟨by omega, by omega⟩, (by rw [y_atE o109]; exact h102), (by rw [y_atE o106]; exact h45)⟩
      · intro g H locs hq
        obtain ⟨F119, ls, w56, w57, rfl, hl, hP, hS, hI, hfr, hz0, h114, h115, h116, h117, h118⟩ := hq
        have o120 : F119 (A 13) = .inl (cs 0, 400, .inl f1) := (hfr _ (by rw [(y_k13 hA)]; decide)).trans o2
        have o121 : F119 (A 30) = .inl (cs 0, 18360, .inl f7) := (hfr _ (by rw [(y_k30 hA)]; decide)).trans o8
        have oY122 : F119 a0 = .inr (7, y_fl A z0 q0) := (hfr _ (by rw [ha0]; decide)).trans oY0
        have hz0 : ∀ k, k ∈ ([1, 2, 3, 4, 5, 6, 7, 8, 11, 15, 16, 19, 25, 26, 27, 31, 32] : List Nat) → z0 k = z0 k := fun _ _ => rfl
        obtain ⟨f123, o124, b125⟩ := y_op20 hI
        replace h117 : (y_NG f1 f123) := by have q9 := h117; rw [y_atE o124] at q9; exact q9
        obtain ⟨f126, o127, b128⟩ := y_op23 hI
        replace h118 : (y_CP f4 f126) := by have q9 := h118; rw [y_atE o127] at q9; exact q9
        obtain ⟨v129, ev129⟩ : ∃ y : Int32, w37 + 1 = y := ⟨_, rfl⟩
        have qv129 : v129.toInt = w37.toInt + 1 := by rw [← ev129]; exact th_add rfl (by decide) ⟨by omega, by omega⟩
        refine lv_iinc (v := v129) (lv' := [(4, .int v129), (0, .ref a0), (1, .int x1), (2, .int w56), (3, .int w57)]) hx hb dX7_skew_81 hl (k := 4) rfl ev129 (by decide) rfl (fun ls hl => ?_)
        refine lv_goto (tgt := 30) hx hb dX7_skew_84 (by decide) ?_
        exact ih30 _ _ _ _ (by omega) ⟨F119, _, w56, w57, v129, rfl, lv_sub hl [1, 2, 3, 4, 0] rfl, hP, hS, hI, hfr, (fun k hk => (y_fiZ oY122 (s_sub (by decide) hk)).trans (hz0 k hk)), ⟨by omega, by omega⟩, ⟨by omega, by omega⟩, ⟨by omega, by omega⟩, (by rw [y_atE o124]; exact h117), (by rw [y_atE o127]; exact h118), rfl⟩
    · have c22 := (ax_eq (n := 0) (by decide)).mp c22
      refine lv_iconst (v := (-1)) hx hb dX7_skew_17 (by decide) ?_
      have h130 : ((-1) : Int32).toInt = (-1) := by decide
      exact W.iret (v := (-1)) hx hb hr (fun t ht hW => ⟨⟨(-1), F, rfl, ⟨(by decide), trivial, hI, hfr, fun k hk => (y_fiZ oY0 (s_sub (by decide) hk)).trans ((hz0 k hk).trans (y_fiZ oY0 (s_sub (by decide) hk)).symm), (by rw [y_fiZ oY0 (k := 15) (by decide), ← ev10, y_atE o2, y_atE o5, y_atE o8, y_fiZ oY0 (k := 31) (by decide), ← ev11, y_fiZ oY0 (k := 32) (by decide), ← ev12]; exact hT)⟩, by rw [ht]; exact hP, va_K.moved hW.alike hK⟩, hS.F ht⟩) hS.2.2 dX7_skew_18

set_option maxHeartbeats 4000000 in
set_option maxRecDepth 100000 in
theorem y_X7_isAlone (l : Launch) (dC : Nat → ClassId) (dI : Nat → Nat → Nat) (sz : Nat) {L : List Nat} {K : Nat → Nat} {cs : Nat → ClassId} (hLK : ∀ a {k : Nat}, K a = k → k ≠ 0 → a ∈ L) (A : Nat → Nat) (hA : y_A K A) (F : Nat → va_E) (a0 : Nat) (x1 : Int32) (x2 : Int32) (ha0 : K a0 = 9) (hx1 : 0 ≤ x1.toInt ∧ x1.toInt ≤ 3) (hx2 : 0 ≤ x2.toInt ∧ x2.toInt ≤ 7) (hI : y_I K cs A F) (hPG : y_PG (y_at F (A 13))) (hNG : y_NG (y_at F (A 13)) (y_at F (A 20))) : Met l yX7_isAlone (Cond.code yX7_isAlone cX7_isAlone 4 (some .boolean) :: T0) ({ frames := 9, cells := 0, slots := 0, locals := 209 }) (va_Pc [.ref a0, .int x1, .int x2] (s_W dC dI sz L F [(cs 0, .int), (cs 1, .byte), (cs 2, .long), (cs 3, .object RX5), (cs 4, .object RX4), (cs 5, .array .int), (cs 6, .char), (cs 7, .boolean)])) (va_Qi (fun (r : Int32) (G : Nat → va_E) => (0 ≤ r.toInt ∧ r.toInt ≤ 1) ∧ True ∧ y_I K cs A G ∧ (∀ b, K b ∉ [70, 71, 72, 73, 78] → G b = F b) ∧ (∀ k, k ∈ ([1, 2, 3, 4, 5, 6, 7, 8, 11, 15, 16, 19, 25, 26, 27, 31, 32] : List Nat) → y_fi G a0 k = y_fi F a0 k) ∧ (y_CP (y_at F (A 20)) (y_at G (A 20)))) (fun (G : Nat → va_E) (t : State) => va_P (dC, dI) vwCl (va_pl L G) t.heap ∧ va_K (dC, dI) vwCl [(cs 0, .int), (cs 1, .byte), (cs 2, .long), (cs 3, .object RX5), (cs 4, .object RX4), (cs 5, .array .int), (cs 6, .char), (cs 7, .boolean)] t) (fun q => q ∈ L)) 0 0 (fun q => q ∈ L) := by
  refine Met.ofW (cc := cX7_isAlone) (maxL := 4) (ret := (some .boolean)) (by decide) rfl ?_
  intro p e s m args below meth c s₁ B hml hv
  obtain ⟨rfl, hsz, hP, hK, hD, hN⟩ := hv
  have hx := B.exec
  have hb := B.bytes
  have hr := B.returns
  have hts : ∀ w ∈ T0, w.before _ s = true := fun w h => atoms_spec (ws := Cond.code yX7_isAlone cX7_isAlone 4 (some .boolean) :: T0) B.pre w (List.mem_cons_of_mem _ h)
  have hown : s.vm.findClass RX7 = some m.cls := findClass_of_methodNamed B.named
  have hlocks := B.notSynchronized
  have hS : va_S (fun q => q ∈ L) s.heap s.heap [] := va_S.rf
  have hfr : ∀ b, K b ∉ [70, 71, 72, 73, 78] → F b = F b := fun _ _ => rfl
  have hl := lv_entry ([.ref a0, .int x1, .int x2]) (n := 4) (Nat.le_of_ble_eq_true rfl)
  rw [lg_entry_eq]
  generalize (lg_sl ([.ref a0, .int x1, .int x2]) ++ List.replicate (4 - (lg_sl ([.ref a0, .int x1, .int x2])).length) Slot.unset).toArray = ls at hl ⊢
  have hl : lv_has ls 4 [(0, .ref a0), (1, .int x1), (2, .int x2)] := hl
  refine s_gen hP hS (fun H locs hP hS => ?_)
  obtain ⟨z0, q0, oY0, bz0, bq0⟩ := y_opY hI ha0
  have hz0 : ∀ k, k ∈ ([1, 2, 3, 4, 5, 6, 7, 8, 11, 15, 16, 19, 25, 26, 27, 31, 32] : List Nat) → z0 k = z0 k := fun _ _ => rfl
  obtain ⟨f1, o2, b3⟩ := y_op13 hI
  obtain ⟨f4, o5, b6⟩ := y_op20 hI
  replace hPG : y_PG f1 := by have q9 := hPG; rw [y_atE o2] at q9; exact q9
  replace hNG : y_NG f1 f4 := by have q9 := hNG; rw [y_atE o2, y_atE o5] at q9; exact q9
  have hL := y_P0L hPG.1
  have hW := y_P0W hPG.1
  have hnn := And.intro hNG.1 (And.intro hNG.2.1 (And.intro hNG.2.2.1 hNG.2.2.2.1))
  refine lv_aload_n hx hb dX7_isAlone_0 rfl (lv_at hl 0 rfl) ?_
  refine va_callv (va_runV (As := []) (rest := []) ⟨hx, hb, hml, hown, hts⟩ (y_X7_putsAside l dC dI H.size hLK A hA F a0 ha0 hI) (cwV 0 hts (ax_gV T_1041 T_1043 T_1044 T_265 T_1042) rfl rfl rfl (by decide +kernel) ⟨Nat.le_of_ble_eq_true rfl, Nat.le_of_ble_eq_true rfl⟩) ⟨fun a U g mk q => ⟨q.1, s_pc (U := U) rfl rfl q.2⟩, s_recv hK hP (hLK _ ha0 (by decide)) (ci := 7) rfl oY0, fun U hU hW => ⟨rfl, s_pw hU hW hP hK hD hN⟩⟩ rfl rfl hl.1 rfl (lv_room (Nat.le_of_ble_eq_true rfl)) dX7_isAlone_1 ⟨Nat.zero_le _, Nat.zero_le _⟩) hS (fun q _ h => h) (fun q h => h) (fun F8 t H1 locs ht hvm hw hB hz1 hk1 hS => ?_)
  obtain ⟨hP, hK1⟩ := hB
  rw [ht] at hP
  generalize H1 = H at hP hS ⊢
  clear hz1 hk1 hvm hK1
  obtain ⟨h9, h11, hI, hfr1, hzf, h10⟩ := hw
  have o12 : F8 (A 13) = .inl (cs 0, 400, .inl f1) := (hfr1 _ (by rw [(y_k13 hA)]; decide)).trans o2
  have o13 : F8 (A 20) = .inl (cs 0, 918, .inl f4) := (hfr1 _ (by rw [(y_k20 hA)]; decide)).trans o5
  have oY14 : F8 a0 = .inr (7, y_fl A z0 q0) := (hfr1 _ (by rw [ha0]; decide)).trans oY0
  have hfr : ∀ b, K b ∉ [70, 71, 72, 73, 78] → F8 b = F b := fun b hb9 => (hfr1 b (fun q => hb9 (s_sub (by decide) q))).trans (hfr b hb9)
  obtain ⟨f15, o16, b17⟩ := y_op23 hI
  replace h10 : (y_CP f4 f15) := by have q9 := h10; rw [y_atE o5, y_atE o16] at q9; exact q9
  refine lv_aload_n hx hb dX7_isAlone_4 rfl (lv_at hl 0 rfl) ?_
  refine lv_bipush (v := 8) hx hb dX7_isAlone_5 (by decide) ?_
  refine lv_iload_n hx hb dX7_isAlone_7 rfl (lv_at hl 1 rfl) ?_
  refine lv_imul hx hb dX7_isAlone_8 ?_
  refine lv_topi (fun v18 ev18 => ?_)
  have qv18 : v18.toInt = 8 * x1.toInt := by rw [ev18]; exact th_mul (by decide) rfl ⟨by omega, by omega⟩
  refine lv_iload_n hx hb dX7_isAlone_9 rfl (lv_at hl 2 rfl) ?_
  refine lv_iadd hx hb dX7_isAlone_10 ?_
  refine lv_topi (fun v19 ev19 => ?_)
  have qv19 : v19.toInt = v18.toInt + x2.toInt := by rw [ev19]; exact th_add rfl rfl ⟨by omega, by omega⟩
  have rg20 : -1 ≤ v19.toInt ∧ v19.toInt ≤ 31 := ⟨by omega, by omega⟩
  refine va_callv (va_runV (As := [.int v19]) (rest := []) ⟨hx, hb, hml, hown, hts⟩ (y_X7_begins l dC dI H.size hLK A hA F8 a0 v19 ha0 rg20 hI (by rw [y_atE o12]; exact hPG) (by rw [y_atE o13]; exact ⟨hNG.1, hNG.2.1⟩)) (cwV 1 hts (ax_gV T_1017 T_1019 T_1020 T_265 T_1018) rfl rfl rfl (by decide +kernel) ⟨Nat.le_of_ble_eq_true rfl, Nat.le_of_ble_eq_true rfl⟩) ⟨fun a U g mk q => ⟨q.1, s_pc (U := U) rfl rfl q.2⟩, s_recv hK hP (hLK _ ha0 (by decide)) (ci := 7) rfl oY14, fun U hU hW => ⟨rfl, s_pw hU hW hP hK hD hN⟩⟩ rfl rfl hl.1 rfl (lv_room (Nat.le_of_ble_eq_true rfl)) dX7_isAlone_11 ⟨Nat.zero_le _, Nat.zero_le _⟩) hS (fun q _ h => h) (fun q h => h) (fun F22 t H1 locs ht hvm hw hB hz1 hk1 hS => ?_)
  obtain ⟨hP, hK1⟩ := hB
  rw [ht] at hP
  generalize H1 = H at hP hS ⊢
  clear hz1 hk1 hvm hK1
  obtain ⟨h23, h25, hI, hfr1, hzf, h24⟩ := hw
  have o26 : F22 (A 13) = .inl (cs 0, 400, .inl f1) := (hfr1 _ (by rw [(y_k13 hA)]; decide)).trans o12
  have o27 : F22 (A 23) = .inl (cs 0, 918, .inl f15) := (hfr1 _ (by rw [(y_k23 hA)]; decide)).trans o16
  have oY28 : F22 a0 = .inr (7, y_fl A z0 q0) := (hfr1 _ (by rw [ha0]; decide)).trans oY14
  have hfr : ∀ b, K b ∉ [70, 71, 72, 73, 78] → F22 b = F b := fun b hb9 => (hfr1 b (fun q => hb9 (s_sub (by decide) q))).trans (hfr b hb9)
  obtain ⟨f29, o30, b31⟩ := y_op20 hI
  replace h24 : (y_NG f1 f29) := by have q9 := h24; rw [y_atE o12, y_atE o30] at q9; exact q9
  refine lv_aload_n hx hb dX7_isAlone_14 rfl (lv_at hl 0 rfl) ?_
  refine th_get (D := (dC, dI)) (ci := 7) (v := .ref (A 28)) (C := RX7) (T := TX7) (N := 34) hx hb hts inX7 hown hK hP (hLK _ ha0 (by decide)) oY28 rfl 28 (by decide) (hts _ T_257) (fun _ h9 => h9) rfl dX7_isAlone_15 ?_
  refine lv_iconst (v := 4) hx hb dX7_isAlone_18 (by decide) ?_
  refine lv_aload_n hx hb dX7_isAlone_19 rfl (lv_at hl 0 rfl) ?_
  refine va_calli (va_runV (As := []) (rest := [.int 4, .ref (A 28)]) ⟨hx, hb, hml, hown, hts⟩ (y_X7_endsBehind l dC dI H.size hLK A hA F22 a0 ha0 hI (by rw [y_atE o26]; exact hPG) (by rw [y_atE o26, y_atE o30]; exact h24)) (cwV 0 hts (ax_gV T_1200 T_1202 T_1203 T_265 T_1201) rfl rfl rfl (by decide +kernel) ⟨Nat.le_of_ble_eq_true rfl, Nat.le_of_ble_eq_true rfl⟩) ⟨fun a U g mk q => ⟨q.1, s_pc (U := U) rfl rfl q.2⟩, s_recv hK hP (hLK _ ha0 (by decide)) (ci := 7) rfl oY28, fun U hU hW => ⟨rfl, s_pw hU hW hP hK hD hN⟩⟩ rfl rfl hl.1 rfl (lv_room (Nat.le_of_ble_eq_true rfl)) dX7_isAlone_20 ⟨Nat.zero_le _, Nat.zero_le _⟩) hS (fun q _ h => h) (fun q h => h) (fun r33 F34 t H1 locs ht hvm hw hB hz1 hk1 hS => ?_)
  obtain ⟨hP, hK1⟩ := hB
  rw [ht] at hP
  generalize H1 = H at hP hS ⊢
  clear hz1 hk1 hvm hK1
  obtain ⟨h35, h37, hI, hfr1, hzf, h36⟩ := hw
  have o38 : F34 (A 13) = .inl (cs 0, 400, .inl f1) := (hfr1 _ (by rw [(y_k13 hA)]; decide)).trans o26
  have o39 : F34 (A 23) = .inl (cs 0, 918, .inl f15) := (hfr1 _ (by rw [(y_k23 hA)]; decide)).trans o27
  have oY40 : F34 a0 = .inr (7, y_fl A z0 q0) := (hfr1 _ (by rw [ha0]; decide)).trans oY28
  have hfr : ∀ b, K b ∉ [70, 71, 72, 73, 78] → F34 b = F b := fun b hb9 => (hfr1 b (fun q => hb9 (s_sub (by decide) q))).trans (hfr b hb9)
  obtain ⟨f41, o42, b43⟩ := y_op20 hI
  replace h36 : (y_NG f1 f41) := by have q9 := h36; rw [y_atE o26, y_atE o42] at q9; exact q9
  obtain ⟨f44, o45, b46⟩ := y_op28 hI
  refine th_iast hx hb hK hP hD hS (hLK _ (y_k28 hA) (by decide)) 0 o45 rfl (ax_in (by decide)) dX7_isAlone_23 (fun H locs hP hS => ?_)
  obtain ⟨f47, u48⟩ : ∃ g : Nat → Int32, g = upd f44 (4 : Int32).toNatClampNeg r33 := ⟨_, rfl⟩
  rw [← u48] at hP
  have b49 : y_bd 28 f47 := trivial
  have hP : va_P (dC, dI) vwCl (va_pl L (va_up F34 (A 28) (.inl (cs 0, 5, .inl f47)))) H := hP
  obtain ⟨F50, hF51⟩ : ∃ G : Nat → va_E, G = va_up F34 (A 28) (.inl (cs 0, 5, .inl f47)) := ⟨_, rfl⟩
  rw [← hF51] at hP
  have hI : y_I K cs A F50 := by rw [hF51]; exact y_clA (i := 28) hA hI (by decide) b49
  have hfr : ∀ b, K b ∉ [70, 71, 72, 73, 78] → F50 b = F b := by rw [hF51]; exact s_fr hfr (y_k28 hA) (by decide)
  have o52 : F50 (A 13) = .inl (cs 0, 400, .inl f1) := by rw [hF51]; exact th_ne (th_kd (y_k13 hA) (y_k28 hA) (by decide)) o38
  have o53 : F50 (A 23) = .inl (cs 0, 918, .inl f15) := by rw [hF51]; exact th_ne (th_kd (y_k23 hA) (y_k28 hA) (by decide)) o39
  have o54 : F50 (A 20) = .inl (cs 0, 918, .inl f41) := by rw [hF51]; exact th_ne (th_kd (y_k20 hA) (y_k28 hA) (by decide)) o42
  have oY55 : F50 a0 = .inr (7, y_fl A z0 q0) := by rw [hF51]; exact th_ne (th_kd ha0 (y_k28 hA) (by decide)) oY40
  have o56 : F50 (A 28) = .inl (cs 0, 5, .inl f47) := by rw [hF51]; exact th_up
  have u57 : ∀ j : Int, 0 ≤ j → y_c f47 j = if j = 4 then r33 else y_c f44 j := by rw [u48]; exact y_cu (by decide) (by decide)
  refine lv_iconst (v := 0) hx hb dX7_isAlone_24 (by decide) ?_
  refine lv_istore_n (lv' := [(3, .int 0), (0, .ref a0), (1, .int x1), (2, .int x2)]) hx hb dX7_isAlone_25 rfl hl (by decide) rfl (fun ls hl => ?_)
  have h59 : (0 : Int32).toInt = 0 := by decide
  refine th_loop (fun n g H locs => ∃ (G : Nat → va_E) (ls : Array Slot) (w58 : Int32), g = F0 m 26 ls [] ∧ lv_has ls 4 [(0, .ref a0), (1, .int x1), (2, .int x2), (3, .int w58)] ∧ va_P (dC, dI) vwCl (va_pl L G) H ∧ va_S (fun q => q ∈ L) s.heap H locs ∧ y_I K cs A G ∧ (∀ b, K b ∉ [70, 71, 72, 73, 78] → G b = F b) ∧ (∀ k, k ∈ ([1, 2, 3, 4, 5, 6, 7, 8, 11, 15, 16, 19, 25, 26, 27, 31, 32] : List Nat) → y_fi G a0 k = z0 k) ∧ (0 ≤ w58.toInt ∧ w58.toInt ≤ 4) ∧ (0 ≤ x1.toInt ∧ x1.toInt ≤ 3) ∧ (0 ≤ x2.toInt ∧ x2.toInt ≤ 7) ∧ (y_CP f4 (y_at G (A 23))) ∧ n = (5 - w58.toInt).toNat) _ ⟨F50, _, 0, rfl, lv_sub hl [1, 2, 3, 0] rfl, hP, hS, hI, hfr, (fun k hk => (y_fiZ oY55 (s_sub (by decide) hk)).trans (hz0 k hk)), (by decide), ⟨by omega, by omega⟩, ⟨by omega, by omega⟩, (by rw [y_atE o53]; exact h10), rfl⟩ (fun n ih26 g H locs hq => ?_)
  obtain ⟨F64, ls, w58, rfl, hl, hP, hS, hI, hfr, hz0, h60, h61, h62, h63, hn⟩ := hq
  have o65 : F64 (A 13) = .inl (cs 0, 400, .inl f1) := (hfr _ (by rw [(y_k13 hA)]; decide)).trans o2
  have oY66 : F64 a0 = .inr (7, y_fl A z0 q0) := (hfr _ (by rw [ha0]; decide)).trans oY0
  have hz0 : ∀ k, k ∈ ([1, 2, 3, 4, 5, 6, 7, 8, 11, 15, 16, 19, 25, 26, 27, 31, 32] : List Nat) → z0 k = z0 k := fun _ _ => rfl
  obtain ⟨f67, o68, b69⟩ := y_op23 hI
  replace h63 : (y_CP f4 f67) := by have q9 := h63; rw [y_atE o68] at q9; exact q9
  have hn_69 := hn
  refine lv_iload_n hx hb dX7_isAlone_26 rfl (lv_at hl 3 rfl) ?_
  refine lv_iconst (v := 4) hx hb dX7_isAlone_27 (by decide) ?_
  refine lv_icmp_ge (tgt := 54) hx hb dX7_isAlone_28 (by decide) (fun c70 => ?_) (fun c70 => ?_)
  · have c70 := (ax_ge (n := 4) (by decide)).mp c70
    refine lv_aload_n hx hb dX7_isAlone_54 rfl (lv_at hl 0 rfl) ?_
    refine va_callv (va_runV (As := []) (rest := []) ⟨hx, hb, hml, hown, hts⟩ (y_X7_takesBack l dC dI H.size hLK A hA F64 a0 ha0 hI) (cwV 0 hts (ax_gV T_1049 T_1051 T_1052 T_265 T_1050) rfl rfl rfl (by decide +kernel) ⟨Nat.le_of_ble_eq_true rfl, Nat.le_of_ble_eq_true rfl⟩) ⟨fun a U g mk q => ⟨q.1, s_pc (U := U) rfl rfl q.2⟩, s_recv hK hP (hLK _ ha0 (by decide)) (ci := 7) rfl oY66, fun U hU hW => ⟨rfl, s_pw hU hW hP hK hD hN⟩⟩ rfl rfl hl.1 rfl (lv_room (Nat.le_of_ble_eq_true rfl)) dX7_isAlone_55 ⟨Nat.zero_le _, Nat.zero_le _⟩) hS (fun q _ h => h) (fun q h => h) (fun F72 t H1 locs ht hvm hw hB hz1 hk1 hS => ?_)
    obtain ⟨hP, hK1⟩ := hB
    rw [ht] at hP
    generalize H1 = H at hP hS ⊢
    clear hz1 hk1 hvm hK1
    obtain ⟨h73, h75, hI, hfr1, hzf, h74⟩ := hw
    have o76 : F72 (A 13) = .inl (cs 0, 400, .inl f1) := (hfr1 _ (by rw [(y_k13 hA)]; decide)).trans o65
    have o77 : F72 (A 23) = .inl (cs 0, 918, .inl f67) := (hfr1 _ (by rw [(y_k23 hA)]; decide)).trans o68
    have oY78 : F72 a0 = .inr (7, y_fl A z0 q0) := (hfr1 _ (by rw [ha0]; decide)).trans oY66
    have hfr : ∀ b, K b ∉ [70, 71, 72, 73, 78] → F72 b = F b := fun b hb9 => (hfr1 b (fun q => hb9 (s_sub (by decide) q))).trans (hfr b hb9)
    obtain ⟨f79, o80, b81⟩ := y_op20 hI
    replace h74 : (y_CP f67 f79) := by have q9 := h74; rw [y_atE o68, y_atE o80] at q9; exact q9
    refine lv_aload_n hx hb dX7_isAlone_58 rfl (lv_at hl 0 rfl) ?_
    refine th_get (D := (dC, dI)) (ci := 7) (v := .ref (A 28)) (C := RX7) (T := TX7) (N := 34) hx hb hts inX7 hown hK hP (hLK _ ha0 (by decide)) oY78 rfl 28 (by decide) (hts _ T_257) (fun _ h9 => h9) rfl dX7_isAlone_59 ?_
    refine lv_iconst (v := 4) hx hb dX7_isAlone_62 (by decide) ?_
    obtain ⟨f82, o83, b84⟩ := y_op28 hI
    refine th_iald hx hb hK hP (hLK _ (y_k28 hA) (by decide)) 0 o83 rfl (ax_in (by decide)) dX7_isAlone_63 ?_
    refine lv_topi (fun v85 ev85 => ?_)
    refine lv_iconst (v := (-1)) hx hb dX7_isAlone_64 (by decide) ?_
    refine lv_icmp_eq (tgt := 72) hx hb dX7_isAlone_65 (by decide) (fun c86 => ?_) (fun c86 => ?_)
    · have c86 := (ax_eq (n := (-1)) (by decide)).mp c86
      refine lv_iconst (v := 0) hx hb dX7_isAlone_72 (by decide) ?_
      have h87 : (0 : Int32).toInt = 0 := by decide
      exact W.zret (v := 0) (ty := .boolean) hx hb hr (by decide) (fun t ht hW => ⟨⟨0, F72, rfl, ⟨(by decide), trivial, hI, hfr, fun k hk => (y_fiZ oY78 (s_sub (by decide) hk)).trans ((hz0 k hk).trans (y_fiZ oY0 (s_sub (by decide) hk)).symm), (by rw [y_atE o5, y_atE o80]; exact (y_CP_t h63 h74))⟩, by rw [ht]; exact hP, va_K.moved hW.alike hK⟩, hS.F ht⟩) hS.2.2 dX7_isAlone_73
    · have c86 := mt (ax_eq (n := (-1)) (by decide)).mpr c86
      refine lv_iconst (v := 1) hx hb dX7_isAlone_68 (by decide) ?_
      refine lv_goto (tgt := 73) hx hb dX7_isAlone_69 (by decide) ?_
      have h88 : (1 : Int32).toInt = 1 := by decide
      exact W.zret (v := 1) (ty := .boolean) hx hb hr (by decide) (fun t ht hW => ⟨⟨1, F72, rfl, ⟨(by decide), trivial, hI, hfr, fun k hk => (y_fiZ oY78 (s_sub (by decide) hk)).trans ((hz0 k hk).trans (y_fiZ oY0 (s_sub (by decide) hk)).symm), (by rw [y_atE o5, y_atE o80]; exact (y_CP_t h63 h74))⟩, by rw [ht]; exact hP, va_K.moved hW.alike hK⟩, hS.F ht⟩) hS.2.2 dX7_isAlone_73
  · have c70 := mt (ax_ge (n := 4) (by decide)).mpr c70
    refine lv_aload_n hx hb dX7_isAlone_31 rfl (lv_at hl 0 rfl) ?_
    refine th_get (D := (dC, dI)) (ci := 7) (v := .ref (A 28)) (C := RX7) (T := TX7) (N := 34) hx hb hts inX7 hown hK hP (hLK _ ha0 (by decide)) oY66 rfl 28 (by decide) (hts _ T_257) (fun _ h9 => h9) rfl dX7_isAlone_32 ?_
    refine lv_iload_n hx hb dX7_isAlone_35 rfl (lv_at hl 3 rfl) ?_
    refine lv_aload_n hx hb dX7_isAlone_36 rfl (lv_at hl 0 rfl) ?_
    refine th_get (D := (dC, dI)) (ci := 7) (v := .ref (A 20)) (C := RX7) (T := TX7) (N := 34) hx hb hts inX7 hown hK hP (hLK _ ha0 (by decide)) oY66 rfl 20 (by decide) (hts _ T_251) (fun _ h9 => h9) rfl dX7_isAlone_37 ?_
    refine lv_iload_n hx hb dX7_isAlone_40 rfl (lv_at hl 1 rfl) ?_
    refine lv_iload_n hx hb dX7_isAlone_41 rfl (lv_at hl 2 rfl) ?_
    refine lv_iload_n hx hb dX7_isAlone_42 rfl (lv_at hl 3 rfl) ?_
    have rg89 : 0 ≤ x1.toInt ∧ x1.toInt ≤ 3 := ⟨by omega, by omega⟩
    have rg90 : 0 ≤ x2.toInt ∧ x2.toInt ≤ 7 := ⟨by omega, by omega⟩
    have rg91 : 0 ≤ w58.toInt ∧ w58.toInt ≤ 3 := ⟨by omega, by omega⟩
    refine va_calli (va_runS (As := [.int x1, .int x2, .int w58]) (rest := [.ref (A 20), .int w58, .ref (A 28)]) ⟨hx, hb, hml, hown, hts⟩ (y_X7_registerAt l dC dI H.size F64 x1 x2 w58 rg89 rg90 rg91) (cwS 3 hts (ax_gS T_1095 T_1097 T_265 T_1096) rfl rfl rfl (by decide +kernel) ⟨Nat.le_of_ble_eq_true rfl, Nat.le_of_ble_eq_true rfl⟩) ⟨fun a U g mk q => ⟨q.1, s_pc (U := U) rfl rfl q.2⟩, fun U hU hW => ⟨rfl, s_pw hU hW hP hK hD hN⟩⟩ rfl rfl hl.1 rfl (lv_room (Nat.le_of_ble_eq_true rfl)) dX7_isAlone_43 ⟨Nat.zero_le _, Nat.zero_le _⟩) hS (fun q _ h => h) (fun q h => h) (fun r93 F94 t H1 locs ht hvm hw hB hz1 hk1 hS => ?_)
    obtain ⟨hP, hK1⟩ := hB
    rw [ht] at hP
    generalize H1 = H at hP hS ⊢
    clear hz1 hk1 hvm hK1
    obtain ⟨h95, h97, hG9, h96⟩ := hw
    rw [hG9] at hP
    replace h96 : (r93.toInt = 128 + 32 * x1.toInt + 4 * x2.toInt + w58.toInt) := by have q9 := h96; exact q9
    obtain ⟨f98, o99, b100⟩ := y_op20 hI
    refine th_iald hx hb hK hP (hLK _ (y_k20 hA) (by decide)) 0 o99 rfl (th_in ⟨by omega, by omega⟩) dX7_isAlone_46 ?_
    refine lv_topi (fun v101 ev101 => ?_)
    obtain ⟨f102, o103, b104⟩ := y_op28 hI
    refine th_iast hx hb hK hP hD hS (hLK _ (y_k28 hA) (by decide)) 0 o103 rfl (th_in ⟨by omega, by omega⟩) dX7_isAlone_47 (fun H locs hP hS => ?_)
    obtain ⟨f105, u106⟩ : ∃ g : Nat → Int32, g = upd f102 (w58 : Int32).toNatClampNeg v101 := ⟨_, rfl⟩
    rw [← u106] at hP
    have b107 : y_bd 28 f105 := trivial
    have hP : va_P (dC, dI) vwCl (va_pl L (va_up F64 (A 28) (.inl (cs 0, 5, .inl f105)))) H := hP
    obtain ⟨F108, hF109⟩ : ∃ G : Nat → va_E, G = va_up F64 (A 28) (.inl (cs 0, 5, .inl f105)) := ⟨_, rfl⟩
    rw [← hF109] at hP
    have hI : y_I K cs A F108 := by rw [hF109]; exact y_clA (i := 28) hA hI (by decide) b107
    have hfr : ∀ b, K b ∉ [70, 71, 72, 73, 78] → F108 b = F b := by rw [hF109]; exact s_fr hfr (y_k28 hA) (by decide)
    have o110 : F108 (A 13) = .inl (cs 0, 400, .inl f1) := by rw [hF109]; exact th_ne (th_kd (y_k13 hA) (y_k28 hA) (by decide)) o65
    have o111 : F108 (A 23) = .inl (cs 0, 918, .inl f67) := by rw [hF109]; exact th_ne (th_kd (y_k23 hA) (y_k28 hA) (by decide)) o68
    have o112 : F108 (A 20) = .inl (cs 0, 918, .inl f98) := by rw [hF109]; exact th_ne (th_kd (y_k20 hA) (y_k28 hA) (by decide)) o99
    have oY113 : F108 a0 = .inr (7, y_fl A z0 q0) := by rw [hF109]; exact th_ne (th_kd ha0 (y_k28 hA) (by decide)) oY66
    have o114 : F108 (A 28) = .inl (cs 0, 5, .inl f105) := by rw [hF109]; exact th_up
    have u115 : ∀ j : Int, 0 ≤ j → y_c f105 j = if j = w58.toInt then v101 else y_c f102 j := by rw [u106]; exact y_cu rfl (by omega)
    obtain ⟨v116, ev116⟩ : ∃ y : Int32, w58 + 1 = y := ⟨_, rfl⟩
    have qv116 : v116.toInt = w58.toInt + 1 := by rw [← ev116]; exact th_add rfl (by decide) ⟨by omega, by omega⟩
    refine lv_iinc (v := v116) (lv' := [(3, .int v116), (0, .ref a0), (1, .int x1), (2, .int x2)]) hx hb dX7_isAlone_48 hl (k := 3) rfl ev116 (by decide) rfl (fun ls hl => ?_)
    refine lv_goto (tgt := 26) hx hb dX7_isAlone_51 (by decide) ?_
    exact ih26 _ _ _ _ (by omega) ⟨F108, _, v116, rfl, lv_sub hl [1, 2, 3, 0] rfl, hP, hS, hI, hfr, (fun k hk => (y_fiZ oY113 (s_sub (by decide) hk)).trans (hz0 k hk)), ⟨by omega, by omega⟩, ⟨by omega, by omega⟩, ⟨by omega, by omega⟩, (by rw [y_atE o111]; exact h63), rfl⟩

set_option maxHeartbeats 4000000 in
set_option maxRecDepth 100000 in
theorem y_X7_alone (l : Launch) (dC : Nat → ClassId) (dI : Nat → Nat → Nat) (sz : Nat) {L : List Nat} {K : Nat → Nat} {cs : Nat → ClassId} (hLK : ∀ a {k : Nat}, K a = k → k ≠ 0 → a ∈ L) (A : Nat → Nat) (hA : y_A K A) (F : Nat → va_E) (a0 : Nat) (x1 : Int32) (x2 : Int32) (x3 : Int32) (ha0 : K a0 = 9) (hI : y_I K cs A F) (hT : y_T (y_fi F a0 15) (y_at F (A 13)) (y_at F (A 20)) (y_at F (A 30)) (y_fi F a0 31) (y_fi F a0 32)) : Met l yX7_alone (Cond.code yX7_alone cX7_alone 4 (some .int) :: T0) ({ frames := 10, cells := 0, slots := 0, locals := 232 }) (va_Pc [.ref a0, .int x1, .int x2, .int x3] (s_W dC dI sz L F [(cs 0, .int), (cs 1, .byte), (cs 2, .long), (cs 3, .object RX5), (cs 4, .object RX4), (cs 5, .array .int), (cs 6, .char), (cs 7, .boolean)])) (va_Qi (fun (r : Int32) (G : Nat → va_E) => True ∧ True ∧ y_I K cs A G ∧ (∀ b, K b ∉ [70, 71, 72, 73, 78] → G b = F b) ∧ (∀ k, k ∈ ([1, 2, 3, 4, 5, 6, 7, 8, 11, 15, 16, 19, 25, 26, 27, 31, 32] : List Nat) → y_fi G a0 k = y_fi F a0 k) ∧ (y_T (y_fi G a0 15) (y_at G (A 13)) (y_at G (A 20)) (y_at G (A 30)) (y_fi G a0 31) (y_fi G a0 32))) (fun (G : Nat → va_E) (t : State) => va_P (dC, dI) vwCl (va_pl L G) t.heap ∧ va_K (dC, dI) vwCl [(cs 0, .int), (cs 1, .byte), (cs 2, .long), (cs 3, .object RX5), (cs 4, .object RX4), (cs 5, .array .int), (cs 6, .char), (cs 7, .boolean)] t) (fun q => q ∈ L)) 0 0 (fun q => q ∈ L) := by
  refine Met.ofW (cc := cX7_alone) (maxL := 4) (ret := (some .int)) (by decide) rfl ?_
  intro p e s m args below meth c s₁ B hml hv
  obtain ⟨rfl, hsz, hP, hK, hD, hN⟩ := hv
  have hx := B.exec
  have hb := B.bytes
  have hr := B.returns
  have hts : ∀ w ∈ T0, w.before _ s = true := fun w h => atoms_spec (ws := Cond.code yX7_alone cX7_alone 4 (some .int) :: T0) B.pre w (List.mem_cons_of_mem _ h)
  have hown : s.vm.findClass RX7 = some m.cls := findClass_of_methodNamed B.named
  have hlocks := B.notSynchronized
  have hS : va_S (fun q => q ∈ L) s.heap s.heap [] := va_S.rf
  have hfr : ∀ b, K b ∉ [70, 71, 72, 73, 78] → F b = F b := fun _ _ => rfl
  have hl := lv_entry ([.ref a0, .int x1, .int x2, .int x3]) (n := 4) (Nat.le_of_ble_eq_true rfl)
  rw [lg_entry_eq]
  generalize (lg_sl ([.ref a0, .int x1, .int x2, .int x3]) ++ List.replicate (4 - (lg_sl ([.ref a0, .int x1, .int x2, .int x3])).length) Slot.unset).toArray = ls at hl ⊢
  have hl : lv_has ls 4 [(0, .ref a0), (1, .int x1), (2, .int x2), (3, .int x3)] := hl
  refine s_gen hP hS (fun H locs hP hS => ?_)
  obtain ⟨z0, q0, oY0, bz0, bq0⟩ := y_opY hI ha0
  have hz0 : ∀ k, k ∈ ([1, 2, 3, 4, 5, 6, 7, 8, 11, 15, 16, 19, 25, 26, 27, 31, 32] : List Nat) → z0 k = z0 k := fun _ _ => rfl
  obtain ⟨f1, o2, b3⟩ := y_op13 hI
  obtain ⟨f4, o5, b6⟩ := y_op20 hI
  obtain ⟨f7, o8, b9⟩ := y_op30 hI
  obtain ⟨v10, ev10⟩ : ∃ y : Int32, y = z0 15 := ⟨_, rfl⟩
  have qv10 : 0 ≤ v10.toInt ∧ v10.toInt ≤ 1 := by rw [ev10]; exact y_bY15 bz0
  have eF_15 := ev10
  obtain ⟨v11, ev11⟩ : ∃ y : Int32, y = z0 31 := ⟨_, rfl⟩
  have qv11 : 0 ≤ v11.toInt ∧ v11.toInt ≤ 20 := by rw [ev11]; exact y_bY31 bz0
  have eF_31 := ev11
  obtain ⟨v12, ev12⟩ : ∃ y : Int32, y = z0 32 := ⟨_, rfl⟩
  have qv12 : 0 ≤ v12.toInt ∧ v12.toInt ≤ 19 := by rw [ev12]; exact y_bY32 bz0
  have eF_32 := ev12
  replace hT : y_T v10 f1 f4 f7 v11 v12 := by have q9 := hT; rw [y_fiZ oY0 (k := 15) (by decide), ← ev10, y_atE o2, y_atE o5, y_atE o8, y_fiZ oY0 (k := 31) (by decide), ← ev11, y_fiZ oY0 (k := 32) (by decide), ← ev12] at q9; exact q9
  have e0_v10 := ev10
  have e0_v11 := ev11
  have e0_v12 := ev12
  refine lv_aload_n hx hb dX7_alone_0 rfl (lv_at hl 0 rfl) ?_
  refine lv_iload_n hx hb dX7_alone_1 rfl (lv_at hl 1 rfl) ?_
  refine lv_iload_n hx hb dX7_alone_2 rfl (lv_at hl 2 rfl) ?_
  have ep13_15 := ev10
  refine va_calli (va_runV (As := [.int x1, .int x2]) (rest := []) ⟨hx, hb, hml, hown, hts⟩ (y_X7_isLane l dC dI H.size hLK A hA F a0 x1 x2 ha0 hI (by rw [y_fiZ oY0 (k := 15) (by decide), ← ev10, y_atE o2, y_atE o5, y_atE o8, y_fiZ oY0 (k := 31) (by decide), ← ev11, y_fiZ oY0 (k := 32) (by decide), ← ev12]; exact hT)) (cwV 2 hts (ax_gV T_317 T_318 T_319 T_265 T_35) rfl rfl rfl (by decide +kernel) ⟨Nat.le_of_ble_eq_true rfl, Nat.le_of_ble_eq_true rfl⟩) ⟨fun a U g mk q => ⟨q.1, s_pc (U := U) rfl rfl q.2⟩, s_recv hK hP (hLK _ ha0 (by decide)) (ci := 7) rfl oY0, fun U hU hW => ⟨rfl, s_pw hU hW hP hK hD hN⟩⟩ rfl rfl hl.1 rfl (lv_room (Nat.le_of_ble_eq_true rfl)) dX7_alone_3 ⟨Nat.zero_le _, Nat.zero_le _⟩) hS (fun q _ h => h) (fun q h => h) (fun r14 F15 t H1 locs ht hvm hw hB hz1 hk1 hS => ?_)
  obtain ⟨hP, hK1⟩ := hB
  rw [ht] at hP
  generalize H1 = H at hP hS ⊢
  clear hz1 hk1 hvm hK1
  obtain ⟨h16, h18, hI, hfr1, hzf, h17⟩ := hw
  have o19 : F15 (A 13) = .inl (cs 0, 400, .inl f1) := (hfr1 _ (by rw [(y_k13 hA)]; decide)).trans o2
  have o20 : F15 (A 20) = .inl (cs 0, 918, .inl f4) := (hfr1 _ (by rw [(y_k20 hA)]; decide)).trans o5
  have o21 : F15 (A 30) = .inl (cs 0, 18360, .inl f7) := (hfr1 _ (by rw [(y_k30 hA)]; decide)).trans o8
  have oY22 : F15 a0 = .inr (7, y_fl A z0 q0) := (hfr1 _ (by rw [ha0]; decide)).trans oY0
  have hfr : ∀ b, K b ∉ [70, 71, 72, 73, 78] → F15 b = F b := fun b hb9 => (hfr1 b (fun q => hb9 (s_sub (by decide) q))).trans (hfr b hb9)
  replace h17 : (r14.toInt = 0 ∨ (v10.toInt = 1 ∧ (0 ≤ x1.toInt ∧ x1.toInt < (y_c f1 384).toInt) ∧ (0 ≤ x2.toInt ∧ x2.toInt ≤ 7))) := by have q9 := h17; rw [y_fiZ oY0 (k := 15) (by decide), ← ep13_15, y_atE o2] at q9; exact q9
  refine lv_if_eq (tgt := 39) hx hb dX7_alone_6 (by decide) (fun c23 => ?_) (fun c23 => ?_)
  · have c23 := (ax_eq (n := 0) (by decide)).mp c23
    refine lv_ldc (v := (-1000000)) hx hb hown (hts _ T_316) dX7_alone_39 ?_
    have h24 : ((-1000000) : Int32).toInt = (-1000000) := by decide
    exact W.iret (v := (-1000000)) hx hb hr (fun t ht hW => ⟨⟨(-1000000), F15, rfl, ⟨trivial, trivial, hI, hfr, fun k hk => (y_fiZ oY22 (s_sub (by decide) hk)).trans ((hz0 k hk).trans (y_fiZ oY0 (s_sub (by decide) hk)).symm), (by rw [y_fiZ oY22 (k := 15) (by decide), ← ev10, y_atE o19, y_atE o20, y_atE o21, y_fiZ oY22 (k := 31) (by decide), ← ev11, y_fiZ oY22 (k := 32) (by decide), ← ev12]; exact hT)⟩, by rw [ht]; exact hP, va_K.moved hW.alike hK⟩, hS.F ht⟩) hS.2.2 dX7_alone_41
  · have c23 := mt (ax_eq (n := 0) (by decide)).mpr c23
    have hln9 := h17.resolve_left c23
    obtain ⟨htd, hPG, hNG, hUG⟩ := y_TT hT (by omega)
    have hL := y_P0L hPG.1
    have hW := y_P0W hPG.1
    have hnn := And.intro hNG.1 (And.intro hNG.2.1 (And.intro hNG.2.2.1 hNG.2.2.2.1))
    refine lv_iload_n hx hb dX7_alone_9 rfl (lv_at hl 3 rfl) ?_
    refine lv_i2l hx hb dX7_alone_10 rfl ?_
    refine lv_topl (fun v25 ev25 => ?_)
    have qv25 : v25.toInt = x3.toInt := y_i2l ev25
    refine lv_lconst (v := 0) hx hb dX7_alone_11 (by decide) ?_
    refine lv_ldc2 hx hb hown (hts _ T_1004) dX7_alone_12 ?_
    refine va_calli (va_runS (As := [.long v25, .long 0, .long 4]) (rest := []) ⟨hx, hb, hml, hown, hts⟩ (y_X7_isIn l dC dI H.size F15 v25 0 4) (cwS 3 hts (ax_gS T_267 T_268 T_265 T_21) rfl rfl rfl (by decide +kernel) ⟨Nat.le_of_ble_eq_true rfl, Nat.le_of_ble_eq_true rfl⟩) ⟨fun a U g mk q => ⟨q.1, s_pc (U := U) rfl rfl q.2⟩, fun U hU hW => ⟨rfl, s_pw hU hW hP hK hD hN⟩⟩ rfl rfl hl.1 rfl (lv_room (Nat.le_of_ble_eq_true rfl)) dX7_alone_15 ⟨Nat.zero_le _, Nat.zero_le _⟩) hS (fun q _ h => h) (fun q h => h) (fun r27 F28 t H1 locs ht hvm hw hB hz1 hk1 hS => ?_)
    obtain ⟨hP, hK1⟩ := hB
    rw [ht] at hP
    generalize H1 = H at hP hS ⊢
    clear hz1 hk1 hvm hK1
    obtain ⟨h29, h31, hG9, h30⟩ := hw
    rw [hG9] at hP
    replace h30 : ((r27.toInt = 0 ∧ (v25.toInt < 0 ∨ 4 < v25.toInt)) ∨ (r27.toInt = 1 ∧ 0 ≤ v25.toInt ∧ v25.toInt ≤ 4)) := by have q9 := h30; exact q9
    refine lv_if_eq (tgt := 39) hx hb dX7_alone_18 (by decide) (fun c32 => ?_) (fun c32 => ?_)
    · have c32 := (ax_eq (n := 0) (by decide)).mp c32
      refine lv_ldc (v := (-1000000)) hx hb hown (hts _ T_316) dX7_alone_39 ?_
      have h33 : ((-1000000) : Int32).toInt = (-1000000) := by decide
      exact W.iret (v := (-1000000)) hx hb hr (fun t ht hW => ⟨⟨(-1000000), F15, rfl, ⟨trivial, trivial, hI, hfr, fun k hk => (y_fiZ oY22 (s_sub (by decide) hk)).trans ((hz0 k hk).trans (y_fiZ oY0 (s_sub (by decide) hk)).symm), (by rw [y_fiZ oY22 (k := 15) (by decide), ← ev10, y_atE o19, y_atE o20, y_atE o21, y_fiZ oY22 (k := 31) (by decide), ← ev11, y_fiZ oY22 (k := 32) (by decide), ← ev12]; exact hT)⟩, by rw [ht]; exact hP, va_K.moved hW.alike hK⟩, hS.F ht⟩) hS.2.2 dX7_alone_41
    · have c32 := mt (ax_eq (n := 0) (by decide)).mpr c32
      refine lv_aload_n hx hb dX7_alone_21 rfl (lv_at hl 0 rfl) ?_
      refine lv_iload_n hx hb dX7_alone_22 rfl (lv_at hl 1 rfl) ?_
      refine lv_iload_n hx hb dX7_alone_23 rfl (lv_at hl 2 rfl) ?_
      have rg34 : 0 ≤ x1.toInt ∧ x1.toInt ≤ 3 := ⟨by omega, by omega⟩
      have rg35 : 0 ≤ x2.toInt ∧ x2.toInt ≤ 7 := ⟨by omega, by omega⟩
      refine va_calli (va_runV (As := [.int x1, .int x2]) (rest := []) ⟨hx, hb, hml, hown, hts⟩ (y_X7_isAlone l dC dI H.size hLK A hA F15 a0 x1 x2 ha0 rg34 rg35 hI (by rw [y_atE o19]; exact hPG) (by rw [y_atE o19, y_atE o20]; exact hNG)) (cwV 2 hts (ax_gV T_1005 T_1007 T_1008 T_265 T_1006) rfl rfl rfl (by decide +kernel) ⟨Nat.le_of_ble_eq_true rfl, Nat.le_of_ble_eq_true rfl⟩) ⟨fun a U g mk q => ⟨q.1, s_pc (U := U) rfl rfl q.2⟩, s_recv hK hP (hLK _ ha0 (by decide)) (ci := 7) rfl oY22, fun U hU hW => ⟨rfl, s_pw hU hW hP hK hD hN⟩⟩ rfl rfl hl.1 rfl (lv_room (Nat.le_of_ble_eq_true rfl)) dX7_alone_24 ⟨Nat.zero_le _, Nat.zero_le _⟩) hS (fun q _ h => h) (fun q h => h) (fun r37 F38 t H1 locs ht hvm hw hB hz1 hk1 hS => ?_)
      obtain ⟨hP, hK1⟩ := hB
      rw [ht] at hP
      generalize H1 = H at hP hS ⊢
      clear hz1 hk1 hvm hK1
      obtain ⟨h39, h41, hI, hfr1, hzf, h40⟩ := hw
      have o42 : F38 (A 13) = .inl (cs 0, 400, .inl f1) := (hfr1 _ (by rw [(y_k13 hA)]; decide)).trans o19
      have o43 : F38 (A 30) = .inl (cs 0, 18360, .inl f7) := (hfr1 _ (by rw [(y_k30 hA)]; decide)).trans o21
      have oY44 : F38 a0 = .inr (7, y_fl A z0 q0) := (hfr1 _ (by rw [ha0]; decide)).trans oY22
      have hfr : ∀ b, K b ∉ [70, 71, 72, 73, 78] → F38 b = F b := fun b hb9 => (hfr1 b (fun q => hb9 (s_sub (by decide) q))).trans (hfr b hb9)
      obtain ⟨f45, o46, b47⟩ := y_op20 hI
      replace h40 : (y_CP f4 f45) := by have q9 := h40; rw [y_atE o20, y_atE o46] at q9; exact q9
      refine lv_if_eq (tgt := 39) hx hb dX7_alone_27 (by decide) (fun c48 => ?_) (fun c48 => ?_)
      · have c48 := (ax_eq (n := 0) (by decide)).mp c48
        refine lv_ldc (v := (-1000000)) hx hb hown (hts _ T_316) dX7_alone_39 ?_
        have h49 : ((-1000000) : Int32).toInt = (-1000000) := by decide
        exact W.iret (v := (-1000000)) hx hb hr (fun t ht hW => ⟨⟨(-1000000), F38, rfl, ⟨trivial, trivial, hI, hfr, fun k hk => (y_fiZ oY44 (s_sub (by decide) hk)).trans ((hz0 k hk).trans (y_fiZ oY0 (s_sub (by decide) hk)).symm), (by rw [y_fiZ oY44 (k := 15) (by decide), ← ev10, y_atE o42, y_atE o46, y_atE o43, y_fiZ oY44 (k := 31) (by decide), ← ev11, y_fiZ oY44 (k := 32) (by decide), ← ev12]; exact (y_Tc h40 hT))⟩, by rw [ht]; exact hP, va_K.moved hW.alike hK⟩, hS.F ht⟩) hS.2.2 dX7_alone_41
      · have c48 := mt (ax_eq (n := 0) (by decide)).mpr c48
        refine lv_aload_n hx hb dX7_alone_30 rfl (lv_at hl 0 rfl) ?_
        refine th_get (D := (dC, dI)) (ci := 7) (v := .ref (A 28)) (C := RX7) (T := TX7) (N := 34) hx hb hts inX7 hown hK hP (hLK _ ha0 (by decide)) oY44 rfl 28 (by decide) (hts _ T_257) (fun _ h9 => h9) rfl dX7_alone_31 ?_
        refine lv_iload_n hx hb dX7_alone_34 rfl (lv_at hl 3 rfl) ?_
        obtain ⟨f50, o51, b52⟩ := y_op28 hI
        refine th_iald hx hb hK hP (hLK _ (y_k28 hA) (by decide)) 0 o51 rfl (th_in ⟨by omega, by omega⟩) dX7_alone_35 ?_
        refine lv_topi (fun v53 ev53 => ?_)
        refine lv_goto (tgt := 41) hx hb dX7_alone_36 (by decide) ?_
        exact W.iret (v := v53) hx hb hr (fun t ht hW => ⟨⟨v53, F38, rfl, ⟨trivial, trivial, hI, hfr, fun k hk => (y_fiZ oY44 (s_sub (by decide) hk)).trans ((hz0 k hk).trans (y_fiZ oY0 (s_sub (by decide) hk)).symm), (by rw [y_fiZ oY44 (k := 15) (by decide), ← ev10, y_atE o42, y_atE o46, y_atE o43, y_fiZ oY44 (k := 31) (by decide), ← ev11, y_fiZ oY44 (k := 32) (by decide), ← ev12]; exact (y_Tc h40 hT))⟩, by rw [ht]; exact hP, va_K.moved hW.alike hK⟩, hS.F ht⟩) hS.2.2 dX7_alone_41
