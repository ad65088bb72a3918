set_option maxHeartbeats 4000000 in
set_option maxRecDepth 100000 in
theorem y_X7_racedMany (l : Launch) (dC : Nat → ClassId) (dI : Nat → Nat → Nat) (sz : Nat) {L : List Nat} {K : Nat → Nat} {cs : Nat → ClassId} (hLK : ∀ a {k : Nat}, K a = k → k ≠ 0 → a ∈ L) (A : Nat → Nat) (hA : y_A K A) (F : Nat → va_E) (a0 : Nat) (ha0 : K a0 = 9) (hI : y_I K cs A F) : Met l yX7_racedMany (Cond.code yX7_racedMany cX7_racedMany 3 (some .int) :: T0) ({ frames := 0, cells := 0, slots := 0, locals := 0 }) (va_Pc [.ref a0] (s_W dC dI sz L F [(cs 0, .int), (cs 1, .byte), (cs 2, .long), (cs 3, .object RX5), (cs 4, .object RX4), (cs 5, .array .int), (cs 6, .char), (cs 7, .boolean)])) (va_Qi (fun (r : Int32) (G : Nat → va_E) => True ∧ True ∧ y_I K cs A G ∧ (∀ b, K b ∉ ([] : List Nat) → G b = F b) ∧ (∀ k, k ∈ ([1, 2, 3, 4, 5, 6, 7, 8, 11, 15, 16, 19, 25, 26, 27, 31, 32] : List Nat) → y_fi G a0 k = y_fi F a0 k) ∧ True) (fun (G : Nat → va_E) (t : State) => va_P (dC, dI) vwCl (va_pl L G) t.heap ∧ va_K (dC, dI) vwCl [(cs 0, .int), (cs 1, .byte), (cs 2, .long), (cs 3, .object RX5), (cs 4, .object RX4), (cs 5, .array .int), (cs 6, .char), (cs 7, .boolean)] t) (fun q => q ∈ L)) 0 0 (fun q => q ∈ L) := by
  refine Met.ofW (cc := cX7_racedMany) (maxL := 3) (ret := (some .int)) (by decide) rfl ?_
  intro p e s m args below meth c s₁ B hml hv
  obtain ⟨rfl, hsz, hP, hK, hD, hN⟩ := hv
  have hx := B.exec
  have hb := B.bytes
  have hr := B.returns
  have hts : ∀ w ∈ T0, w.before _ s = true := fun w h => atoms_spec (ws := Cond.code yX7_racedMany cX7_racedMany 3 (some .int) :: T0) B.pre w (List.mem_cons_of_mem _ h)
  have hown : s.vm.findClass RX7 = some m.cls := findClass_of_methodNamed B.named
  have hlocks := B.notSynchronized
  have hS : va_S (fun q => q ∈ L) s.heap s.heap [] := va_S.rf
  have hfr : ∀ b, K b ∉ ([] : List Nat) → F b = F b := fun _ _ => rfl
  have hl := lv_entry ([.ref a0]) (n := 3) (Nat.le_of_ble_eq_true rfl)
  rw [lg_entry_eq]
  generalize (lg_sl ([.ref a0]) ++ List.replicate (3 - (lg_sl ([.ref a0])).length) Slot.unset).toArray = ls at hl ⊢
  have hl : lv_has ls 3 [(0, .ref a0)] := hl
  refine s_gen hP hS (fun H locs hP hS => ?_)
  obtain ⟨z0, q0, oY0, bz0, bq0⟩ := y_opY hI ha0
  have hz0 : ∀ k, k ∈ ([1, 2, 3, 4, 5, 6, 7, 8, 11, 15, 16, 19, 25, 26, 27, 31, 32] : List Nat) → z0 k = z0 k := fun _ _ => rfl
  refine lv_iconst (v := 0) hx hb dX7_racedMany_0 (by decide) ?_
  refine lv_istore_n (lv' := [(1, .int 0), (0, .ref a0)]) hx hb dX7_racedMany_1 rfl hl (by decide) rfl (fun ls hl => ?_)
  refine lv_sipush (v := 672) hx hb dX7_racedMany_2 (by decide) ?_
  refine lv_istore_n (lv' := [(2, .int 672), (1, .int 0), (0, .ref a0)]) hx hb dX7_racedMany_5 rfl hl (by decide) rfl (fun ls hl => ?_)
  have h3 : (0 : Int32).toInt = 0 := by decide
  have h4 : (672 : Int32).toInt = 672 := by decide
  refine th_loop (fun n g H locs => ∃ (G : Nat → va_E) (ls : Array Slot) (w1 : Int32) (w2 : Int32), g = F0 m 6 ls [] ∧ lv_has ls 3 [(0, .ref a0), (1, .int w1), (2, .int w2)] ∧ va_P (dC, dI) vwCl (va_pl L G) H ∧ va_S (fun q => q ∈ L) s.heap H locs ∧ y_I K cs A G ∧ (∀ b, K b ∉ ([] : List Nat) → G b = F b) ∧ (∀ k, k ∈ ([1, 2, 3, 4, 5, 6, 7, 8, 11, 15, 16, 19, 25, 26, 27, 31, 32] : List Nat) → y_fi G a0 k = z0 k) ∧ True ∧ (672 ≤ w2.toInt ∧ w2.toInt ≤ 768) ∧ n = (769 - w2.toInt).toNat) _ ⟨F, _, 0, 672, rfl, lv_sub hl [2, 1, 0] rfl, hP, hS, hI, hfr, (fun k hk => (y_fiZ oY0 (s_sub (by decide) hk)).trans (hz0 k hk)), trivial, (by decide), rfl⟩ (fun n ih6 g H locs hq => ?_)
  obtain ⟨F7, ls, w1, w2, rfl, hl, hP, hS, hI, hfr, hz0, h5, h6, hn⟩ := hq
  have oY8 : F7 a0 = .inr (7, y_fl A z0 q0) := (hfr _ (by rw [ha0]; decide)).trans oY0
  have hz0 : ∀ k, k ∈ ([1, 2, 3, 4, 5, 6, 7, 8, 11, 15, 16, 19, 25, 26, 27, 31, 32] : List Nat) → z0 k = z0 k := fun _ _ => rfl
  have hn_8 := hn
  refine lv_iload_n hx hb dX7_racedMany_6 rfl (lv_at hl 2 rfl) ?_
  refine lv_sipush (v := 768) hx hb dX7_racedMany_7 (by decide) ?_
  refine lv_icmp_ge (tgt := 28) hx hb dX7_racedMany_10 (by decide) (fun c9 => ?_) (fun c9 => ?_)
  · have c9 := (ax_ge (n := 768) (by decide)).mp c9
    refine lv_iload_n hx hb dX7_racedMany_28 rfl (lv_at hl 1 rfl) ?_
    exact W.iret (v := w1) hx hb hr (fun t ht hW => ⟨⟨w1, F7, rfl, ⟨trivial, trivial, hI, hfr, fun k hk => (y_fiZ oY8 (s_sub (by decide) hk)).trans ((hz0 k hk).trans (y_fiZ oY0 (s_sub (by decide) hk)).symm), trivial⟩, by rw [ht]; exact hP, va_K.moved hW.alike hK⟩, hS.F ht⟩) hS.2.2 dX7_racedMany_29
  · have c9 := mt (ax_ge (n := 768) (by decide)).mpr c9
    refine lv_iload_n hx hb dX7_racedMany_13 rfl (lv_at hl 1 rfl) ?_
    refine lv_aload_n hx hb dX7_racedMany_14 rfl (lv_at hl 0 rfl) ?_
    refine th_get (D := (dC, dI)) (ci := 7) (v := .ref (A 20)) (C := RX7) (T := TX7) (N := 34) hx hb hts inX7 hown hK hP (hLK _ ha0 (by decide)) oY8 rfl 20 (by decide) (hts _ T_251) (fun _ h9 => h9) rfl dX7_racedMany_15 ?_
    refine lv_iload_n hx hb dX7_racedMany_18 rfl (lv_at hl 2 rfl) ?_
    obtain ⟨f10, o11, b12⟩ := y_op20 hI
    refine th_iald hx hb hK hP (hLK _ (y_k20 hA) (by decide)) 0 o11 rfl (th_in ⟨by omega, by omega⟩) dX7_racedMany_19 ?_
    refine lv_topi (fun v13 ev13 => ?_)
    refine lv_iadd hx hb dX7_racedMany_20 ?_
    refine lv_topi (fun v14 ev14 => ?_)
    refine lv_istore_n (lv' := [(1, .int v14), (0, .ref a0), (2, .int w2)]) hx hb dX7_racedMany_21 rfl hl (by decide) rfl (fun ls hl => ?_)
    obtain ⟨v15, ev15⟩ : ∃ y : Int32, w2 + 1 = y := ⟨_, rfl⟩
    have qv15 : v15.toInt = w2.toInt + 1 := by rw [← ev15]; exact th_add rfl (by decide) ⟨by omega, by omega⟩
    refine lv_iinc (v := v15) (lv' := [(2, .int v15), (1, .int v14), (0, .ref a0)]) hx hb dX7_racedMany_22 hl (k := 2) rfl ev15 (by decide) rfl (fun ls hl => ?_)
    refine lv_goto (tgt := 6) hx hb dX7_racedMany_25 (by decide) ?_
    exact ih6 _ _ _ _ (by omega) ⟨F7, _, v14, v15, rfl, lv_sub hl [2, 1, 0] rfl, hP, hS, hI, hfr, (fun k hk => (y_fiZ oY8 (s_sub (by decide) hk)).trans (hz0 k hk)), trivial, ⟨by omega, by omega⟩, rfl⟩

set_option maxHeartbeats 4000000 in
set_option maxRecDepth 100000 in
theorem y_X7_has (l : Launch) (dC : Nat → ClassId) (dI : Nat → Nat → Nat) (sz : Nat) {L : List Nat} {K : Nat → Nat} {cs : Nat → ClassId} (hLK : ∀ a {k : Nat}, K a = k → k ≠ 0 → a ∈ L) (A : Nat → Nat) (hA : y_A K A) (F : Nat → va_E) (a0 : Nat) (x1 : Int32) (ha0 : K a0 = 9) (hI : y_I K cs A F) (hT : y_T (y_fi F a0 15) (y_at F (A 13)) (y_at F (A 20)) (y_at F (A 30)) (y_fi F a0 31) (y_fi F a0 32)) : Met l yX7_has (Cond.code yX7_has cX7_has 2 (some .int) :: T0) ({ frames := 3, cells := 0, slots := 0, locals := 66 }) (va_Pc [.ref a0, .int x1] (s_W dC dI sz L F [(cs 0, .int), (cs 1, .byte), (cs 2, .long), (cs 3, .object RX5), (cs 4, .object RX4), (cs 5, .array .int), (cs 6, .char), (cs 7, .boolean)])) (va_Qi (fun (r : Int32) (G : Nat → va_E) => True ∧ True ∧ y_I K cs A G ∧ (∀ b, K b ∉ ([] : List Nat) → G b = F b) ∧ (∀ k, k ∈ ([1, 2, 3, 4, 5, 6, 7, 8, 11, 15, 16, 19, 25, 26, 27, 31, 32] : List Nat) → y_fi G a0 k = y_fi F a0 k) ∧ (y_T (y_fi G a0 15) (y_at G (A 13)) (y_at G (A 20)) (y_at G (A 30)) (y_fi G a0 31) (y_fi G a0 32))) (fun (G : Nat → va_E) (t : State) => va_P (dC, dI) vwCl (va_pl L G) t.heap ∧ va_K (dC, dI) vwCl [(cs 0, .int), (cs 1, .byte), (cs 2, .long), (cs 3, .object RX5), (cs 4, .object RX4), (cs 5, .array .int), (cs 6, .char), (cs 7, .boolean)] t) (fun q => q ∈ L)) 0 0 (fun q => q ∈ L) := by
  refine Met.ofW (cc := cX7_has) (maxL := 2) (ret := (some .int)) (by decide) rfl ?_
  intro p e s m args below meth c s₁ B hml hv
  obtain ⟨rfl, hsz, hP, hK, hD, hN⟩ := hv
  have hx := B.exec
  have hb := B.bytes
  have hr := B.returns
  have hts : ∀ w ∈ T0, w.before _ s = true := fun w h => atoms_spec (ws := Cond.code yX7_has cX7_has 2 (some .int) :: T0) B.pre w (List.mem_cons_of_mem _ h)
  have hown : s.vm.findClass RX7 = some m.cls := findClass_of_methodNamed B.named
  have hlocks := B.notSynchronized
  have hS : va_S (fun q => q ∈ L) s.heap s.heap [] := va_S.rf
  have hfr : ∀ b, K b ∉ ([] : List Nat) → F b = F b := fun _ _ => rfl
  have hl := lv_entry ([.ref a0, .int x1]) (n := 2) (Nat.le_of_ble_eq_true rfl)
  rw [lg_entry_eq]
  generalize (lg_sl ([.ref a0, .int x1]) ++ List.replicate (2 - (lg_sl ([.ref a0, .int x1])).length) Slot.unset).toArray = ls at hl ⊢
  have hl : lv_has ls 2 [(0, .ref a0), (1, .int x1)] := hl
  refine s_gen hP hS (fun H locs hP hS => ?_)
  obtain ⟨z0, q0, oY0, bz0, bq0⟩ := y_opY hI ha0
  have hz0 : ∀ k, k ∈ ([1, 2, 3, 4, 5, 6, 7, 8, 11, 15, 16, 19, 25, 26, 27, 31, 32] : List Nat) → z0 k = z0 k := fun _ _ => rfl
  obtain ⟨f1, o2, b3⟩ := y_op13 hI
  obtain ⟨f4, o5, b6⟩ := y_op20 hI
  obtain ⟨f7, o8, b9⟩ := y_op30 hI
  obtain ⟨v10, ev10⟩ : ∃ y : Int32, y = z0 15 := ⟨_, rfl⟩
  have qv10 : 0 ≤ v10.toInt ∧ v10.toInt ≤ 1 := by rw [ev10]; exact y_bY15 bz0
  have eF_15 := ev10
  obtain ⟨v11, ev11⟩ : ∃ y : Int32, y = z0 31 := ⟨_, rfl⟩
  have qv11 : 0 ≤ v11.toInt ∧ v11.toInt ≤ 20 := by rw [ev11]; exact y_bY31 bz0
  have eF_31 := ev11
  obtain ⟨v12, ev12⟩ : ∃ y : Int32, y = z0 32 := ⟨_, rfl⟩
  have qv12 : 0 ≤ v12.toInt ∧ v12.toInt ≤ 19 := by rw [ev12]; exact y_bY32 bz0
  have eF_32 := ev12
  replace hT : y_T v10 f1 f4 f7 v11 v12 := by have q9 := hT; rw [y_fiZ oY0 (k := 15) (by decide), ← ev10, y_atE o2, y_atE o5, y_atE o8, y_fiZ oY0 (k := 31) (by decide), ← ev11, y_fiZ oY0 (k := 32) (by decide), ← ev12] at q9; exact q9
  have e0_v10 := ev10
  have e0_v11 := ev11
  have e0_v12 := ev12
  refine lv_iload_n hx hb dX7_has_0 rfl (lv_at hl 1 rfl) ?_
  refine lv_i2l hx hb dX7_has_1 rfl ?_
  refine lv_topl (fun v13 ev13 => ?_)
  have qv13 : v13.toInt = x1.toInt := y_i2l ev13
  refine lv_lconst (v := 0) hx hb dX7_has_2 (by decide) ?_
  refine lv_ldc2 hx hb hown (hts _ T_270) dX7_has_3 ?_
  refine va_calli (va_runS (As := [.long v13, .long 0, .long 13]) (rest := []) ⟨hx, hb, hml, hown, hts⟩ (y_X7_isIn l dC dI H.size F v13 0 13) (cwS 3 hts (ax_gS T_267 T_268 T_265 T_21) rfl rfl rfl (by decide +kernel) ⟨Nat.le_of_ble_eq_true rfl, Nat.le_of_ble_eq_true rfl⟩) ⟨fun a U g mk q => ⟨q.1, s_pc (U := U) rfl rfl q.2⟩, fun U hU hW => ⟨rfl, s_pw hU hW hP hK hD hN⟩⟩ rfl rfl hl.1 rfl (lv_room (Nat.le_of_ble_eq_true rfl)) dX7_has_6 ⟨Nat.zero_le _, Nat.zero_le _⟩) hS (fun q _ h => h) (fun q h => h) (fun r15 F16 t H1 locs ht hvm hw hB hz1 hk1 hS => ?_)
  obtain ⟨hP, hK1⟩ := hB
  rw [ht] at hP
  generalize H1 = H at hP hS ⊢
  clear hz1 hk1 hvm hK1
  obtain ⟨h17, h19, hG9, h18⟩ := hw
  rw [hG9] at hP
  replace h18 : ((r15.toInt = 0 ∧ (v13.toInt < 0 ∨ 13 < v13.toInt)) ∨ (r15.toInt = 1 ∧ 0 ≤ v13.toInt ∧ v13.toInt ≤ 13)) := by have q9 := h18; exact q9
  refine lv_if_ne (tgt := 14) hx hb dX7_has_9 (by decide) (fun c20 => ?_) (fun c20 => ?_)
  · have c20 := mt (ax_eq (n := 0) (by decide)).mpr c20
    refine lv_aload_n hx hb dX7_has_14 rfl (lv_at hl 0 rfl) ?_
    refine th_get (D := (dC, dI)) (ci := 7) (v := .int (z0 15)) (C := RX7) (T := TX7) (N := 34) hx hb hts inX7 hown hK hP (hLK _ ha0 (by decide)) oY0 rfl 15 (by decide) (hts _ T_271) (fun _ h9 => h9) rfl dX7_has_15 ?_
    refine ax_eqi (y := v10) ev10.symm ?_
    refine lv_if_ne (tgt := 23) hx hb dX7_has_18 (by decide) (fun c21 => ?_) (fun c21 => ?_)
    · have c21 := mt (ax_eq (n := 0) (by decide)).mpr c21
      obtain ⟨htd, hPG, hNG, hUG⟩ := y_TT hT (by omega)
      have hL := y_P0L hPG.1
      have hW := y_P0W hPG.1
      have hnn := And.intro hNG.1 (And.intro hNG.2.1 (And.intro hNG.2.2.1 hNG.2.2.2.1))
      refine lv_iload_n hx hb dX7_has_23 rfl (lv_at hl 1 rfl) ?_
      by_cases c22 : x1 = 0
      · refine ax_eqi c22 ?_
        refine lv_tableIn (off := 68) (tgt := 92) hx hb dX7_has_24 (by decide) (by decide) (by decide) (by decide) ?_
        have c22 := (ax_eq (n := 0) (by decide)).mp c22
        refine lv_aload_n hx hb dX7_has_92 rfl (lv_at hl 0 rfl) ?_
        refine va_calli (va_runV (As := []) (rest := []) ⟨hx, hb, hml, hown, hts⟩ (y_X7_lines l dC dI H.size hLK A hA F a0 ha0 hI) (cwV 0 hts (ax_gV T_1030 T_1032 T_1033 T_265 T_1031) rfl rfl rfl (by decide +kernel) ⟨Nat.le_of_ble_eq_true rfl, Nat.le_of_ble_eq_true rfl⟩) ⟨fun a U g mk q => ⟨q.1, s_pc (U := U) rfl rfl q.2⟩, s_recv hK hP (hLK _ ha0 (by decide)) (ci := 7) rfl oY0, fun U hU hW => ⟨rfl, s_pw hU hW hP hK hD hN⟩⟩ rfl rfl hl.1 rfl (lv_room (Nat.le_of_ble_eq_true rfl)) dX7_has_93 ⟨Nat.zero_le _, Nat.zero_le _⟩) hS (fun q _ h => h) (fun q h => h) (fun r24 F25 t H1 locs ht hvm hw hB hz1 hk1 hS => ?_)
        obtain ⟨hP, hK1⟩ := hB
        rw [ht] at hP
        generalize H1 = H at hP hS ⊢
        clear hz1 hk1 hvm hK1
        obtain ⟨h26, h28, hI, hfr1, hzf, h27⟩ := hw
        have o29 : F25 (A 13) = .inl (cs 0, 400, .inl f1) := (hfr1 _ (by rw [(y_k13 hA)]; decide)).trans o2
        have o30 : F25 (A 20) = .inl (cs 0, 918, .inl f4) := (hfr1 _ (by rw [(y_k20 hA)]; decide)).trans o5
        have o31 : F25 (A 30) = .inl (cs 0, 18360, .inl f7) := (hfr1 _ (by rw [(y_k30 hA)]; decide)).trans o8
        have oY32 : F25 a0 = .inr (7, y_fl A z0 q0) := (hfr1 _ (by rw [ha0]; decide)).trans oY0
        have hfr : ∀ b, K b ∉ ([] : List Nat) → F25 b = F b := fun b hb9 => (hfr1 b (fun q => hb9 (s_sub (by decide) q))).trans (hfr b hb9)
        replace h27 : (r24 = y_c f1 387) := by have q9 := h27; rw [y_atE o2] at q9; exact q9
        have h33 := congrArg Int32.toInt h27
        exact W.iret (v := r24) hx hb hr (fun t ht hW => ⟨⟨r24, F25, rfl, ⟨trivial, trivial, hI, hfr, fun k hk => (y_fiZ oY32 (s_sub (by decide) hk)).trans ((hz0 k hk).trans (y_fiZ oY0 (s_sub (by decide) hk)).symm), (by rw [y_fiZ oY32 (k := 15) (by decide), ← ev10, y_atE o29, y_atE o30, y_atE o31, y_fiZ oY32 (k := 31) (by decide), ← ev11, y_fiZ oY32 (k := 32) (by decide), ← ev12]; exact hT)⟩, by rw [ht]; exact hP, va_K.moved hW.alike hK⟩, hS.F ht⟩) hS.2.2 dX7_has_96
      · have c22 := mt (ax_eq (n := 0) (by decide)).mpr c22
        by_cases c34 : x1 = 1
        · refine ax_eqi c34 ?_
          refine lv_tableIn (off := 73) (tgt := 97) hx hb dX7_has_24 (by decide) (by decide) (by decide) (by decide) ?_
          have c34 := (ax_eq (n := 1) (by decide)).mp c34
          refine lv_aload_n hx hb dX7_has_97 rfl (lv_at hl 0 rfl) ?_
          refine va_calli (va_runV (As := []) (rest := []) ⟨hx, hb, hml, hown, hts⟩ (y_X7_warps l dC dI H.size hLK A hA F a0 ha0 hI) (cwV 0 hts (ax_gV T_993 T_995 T_996 T_265 T_994) rfl rfl rfl (by decide +kernel) ⟨Nat.le_of_ble_eq_true rfl, Nat.le_of_ble_eq_true rfl⟩) ⟨fun a U g mk q => ⟨q.1, s_pc (U := U) rfl rfl q.2⟩, s_recv hK hP (hLK _ ha0 (by decide)) (ci := 7) rfl oY0, fun U hU hW => ⟨rfl, s_pw hU hW hP hK hD hN⟩⟩ rfl rfl hl.1 rfl (lv_room (Nat.le_of_ble_eq_true rfl)) dX7_has_98 ⟨Nat.zero_le _, Nat.zero_le _⟩) hS (fun q _ h => h) (fun q h => h) (fun r36 F37 t H1 locs ht hvm hw hB hz1 hk1 hS => ?_)
          obtain ⟨hP, hK1⟩ := hB
          rw [ht] at hP
          generalize H1 = H at hP hS ⊢
          clear hz1 hk1 hvm hK1
          obtain ⟨h38, h40, hI, hfr1, hzf, h39⟩ := hw
          have o41 : F37 (A 13) = .inl (cs 0, 400, .inl f1) := (hfr1 _ (by rw [(y_k13 hA)]; decide)).trans o2
          have o42 : F37 (A 20) = .inl (cs 0, 918, .inl f4) := (hfr1 _ (by rw [(y_k20 hA)]; decide)).trans o5
          have o43 : F37 (A 30) = .inl (cs 0, 18360, .inl f7) := (hfr1 _ (by rw [(y_k30 hA)]; decide)).trans o8
          have oY44 : F37 a0 = .inr (7, y_fl A z0 q0) := (hfr1 _ (by rw [ha0]; decide)).trans oY0
          have hfr : ∀ b, K b ∉ ([] : List Nat) → F37 b = F b := fun b hb9 => (hfr1 b (fun q => hb9 (s_sub (by decide) q))).trans (hfr b hb9)
          replace h39 : (r36 = y_c f1 384) := by have q9 := h39; rw [y_atE o2] at q9; exact q9
          have h45 := congrArg Int32.toInt h39
          exact W.iret (v := r36) hx hb hr (fun t ht hW => ⟨⟨r36, F37, rfl, ⟨trivial, trivial, hI, hfr, fun k hk => (y_fiZ oY44 (s_sub (by decide) hk)).trans ((hz0 k hk).trans (y_fiZ oY0 (s_sub (by decide) hk)).symm), (by rw [y_fiZ oY44 (k := 15) (by decide), ← ev10, y_atE o41, y_atE o42, y_atE o43, y_fiZ oY44 (k := 31) (by decide), ← ev11, y_fiZ oY44 (k := 32) (by decide), ← ev12]; exact hT)⟩, by rw [ht]; exact hP, va_K.moved hW.alike hK⟩, hS.F ht⟩) hS.2.2 dX7_has_101
        · have c34 := mt (ax_eq (n := 1) (by decide)).mpr c34
          by_cases c46 : x1 = 2
          · refine ax_eqi c46 ?_
            refine lv_tableIn (off := 78) (tgt := 102) hx hb dX7_has_24 (by decide) (by decide) (by decide) (by decide) ?_
            have c46 := (ax_eq (n := 2) (by decide)).mp c46
            refine lv_aload_n hx hb dX7_has_102 rfl (lv_at hl 0 rfl) ?_
            refine th_get (D := (dC, dI)) (ci := 7) (v := .ref (A 20)) (C := RX7) (T := TX7) (N := 34) hx hb hts inX7 hown hK hP (hLK _ ha0 (by decide)) oY0 rfl 20 (by decide) (hts _ T_251) (fun _ h9 => h9) rfl dX7_has_103 ?_
            refine lv_iconst (v := 0) hx hb dX7_has_106 (by decide) ?_
            refine th_iald hx hb hK hP (hLK _ (y_k20 hA) (by decide)) 0 o5 rfl (ax_in (by decide)) dX7_has_107 ?_
            refine lv_topi (fun v47 ev47 => ?_)
            exact W.iret (v := v47) hx hb hr (fun t ht hW => ⟨⟨v47, F, rfl, ⟨trivial, trivial, hI, hfr, fun k hk => (y_fiZ oY0 (s_sub (by decide) hk)).trans ((hz0 k hk).trans (y_fiZ oY0 (s_sub (by decide) hk)).symm), (by rw [y_fiZ oY0 (k := 15) (by decide), ← ev10, y_atE o2, y_atE o5, y_atE o8, y_fiZ oY0 (k := 31) (by decide), ← ev11, y_fiZ oY0 (k := 32) (by decide), ← ev12]; exact hT)⟩, by rw [ht]; exact hP, va_K.moved hW.alike hK⟩, hS.F ht⟩) hS.2.2 dX7_has_108
          · have c46 := mt (ax_eq (n := 2) (by decide)).mpr c46
            by_cases c48 : x1 = 3
            · refine ax_eqi c48 ?_
              refine lv_tableIn (off := 85) (tgt := 109) hx hb dX7_has_24 (by decide) (by decide) (by decide) (by decide) ?_
              have c48 := (ax_eq (n := 3) (by decide)).mp c48
              refine lv_aload_n hx hb dX7_has_109 rfl (lv_at hl 0 rfl) ?_
              refine th_get (D := (dC, dI)) (ci := 7) (v := .ref (A 20)) (C := RX7) (T := TX7) (N := 34) hx hb hts inX7 hown hK hP (hLK _ ha0 (by decide)) oY0 rfl 20 (by decide) (hts _ T_251) (fun _ h9 => h9) rfl dX7_has_110 ?_
              refine lv_iconst (v := 1) hx hb dX7_has_113 (by decide) ?_
              refine th_iald hx hb hK hP (hLK _ (y_k20 hA) (by decide)) 0 o5 rfl (ax_in (by decide)) dX7_has_114 ?_
              refine lv_topi (fun v49 ev49 => ?_)
              exact W.iret (v := v49) hx hb hr (fun t ht hW => ⟨⟨v49, F, rfl, ⟨trivial, trivial, hI, hfr, fun k hk => (y_fiZ oY0 (s_sub (by decide) hk)).trans ((hz0 k hk).trans (y_fiZ oY0 (s_sub (by decide) hk)).symm), (by rw [y_fiZ oY0 (k := 15) (by decide), ← ev10, y_atE o2, y_atE o5, y_atE o8, y_fiZ oY0 (k := 31) (by decide), ← ev11, y_fiZ oY0 (k := 32) (by decide), ← ev12]; exact hT)⟩, by rw [ht]; exact hP, va_K.moved hW.alike hK⟩, hS.F ht⟩) hS.2.2 dX7_has_115
            · have c48 := mt (ax_eq (n := 3) (by decide)).mpr c48
              by_cases c50 : x1 = 4
              · refine ax_eqi c50 ?_
                refine lv_tableIn (off := 92) (tgt := 116) hx hb dX7_has_24 (by decide) (by decide) (by decide) (by decide) ?_
                have c50 := (ax_eq (n := 4) (by decide)).mp c50
                refine lv_aload_n hx hb dX7_has_116 rfl (lv_at hl 0 rfl) ?_
                refine lv_iconst (v := 3) hx hb dX7_has_117 (by decide) ?_
                refine va_calli (va_runV (As := [.int 3]) (rest := []) ⟨hx, hb, hml, hown, hts⟩ (y_X7_sumOf l dC dI H.size hLK A hA F a0 3 ha0 (by decide) hI (by rw [y_atE o2]; exact hPG)) (cwV 1 hts (ax_gV T_1189 T_1191 T_1192 T_265 T_1190) rfl rfl rfl (by decide +kernel) ⟨Nat.le_of_ble_eq_true rfl, Nat.le_of_ble_eq_true rfl⟩) ⟨fun a U g mk q => ⟨q.1, s_pc (U := U) rfl rfl q.2⟩, s_recv hK hP (hLK _ ha0 (by decide)) (ci := 7) rfl oY0, fun U hU hW => ⟨rfl, s_pw hU hW hP hK hD hN⟩⟩ rfl rfl hl.1 rfl (lv_room (Nat.le_of_ble_eq_true rfl)) dX7_has_118 ⟨Nat.zero_le _, Nat.zero_le _⟩) hS (fun q _ h => h) (fun q h => h) (fun r52 F53 t H1 locs ht hvm hw hB hz1 hk1 hS => ?_)
                obtain ⟨hP, hK1⟩ := hB
                rw [ht] at hP
                generalize H1 = H at hP hS ⊢
                clear hz1 hk1 hvm hK1
                obtain ⟨h54, h56, hI, hfr1, hzf, h55⟩ := hw
                have o57 : F53 (A 13) = .inl (cs 0, 400, .inl f1) := (hfr1 _ (by rw [(y_k13 hA)]; decide)).trans o2
                have o58 : F53 (A 20) = .inl (cs 0, 918, .inl f4) := (hfr1 _ (by rw [(y_k20 hA)]; decide)).trans o5
                have o59 : F53 (A 30) = .inl (cs 0, 18360, .inl f7) := (hfr1 _ (by rw [(y_k30 hA)]; decide)).trans o8
                have oY60 : F53 a0 = .inr (7, y_fl A z0 q0) := (hfr1 _ (by rw [ha0]; decide)).trans oY0
                have hfr : ∀ b, K b ∉ ([] : List Nat) → F53 b = F b := fun b hb9 => (hfr1 b (fun q => hb9 (s_sub (by decide) q))).trans (hfr b hb9)
                exact W.iret (v := r52) hx hb hr (fun t ht hW => ⟨⟨r52, F53, rfl, ⟨trivial, trivial, hI, hfr, fun k hk => (y_fiZ oY60 (s_sub (by decide) hk)).trans ((hz0 k hk).trans (y_fiZ oY0 (s_sub (by decide) hk)).symm), (by rw [y_fiZ oY60 (k := 15) (by decide), ← ev10, y_atE o57, y_atE o58, y_atE o59, y_fiZ oY60 (k := 31) (by decide), ← ev11, y_fiZ oY60 (k := 32) (by decide), ← ev12]; exact hT)⟩, by rw [ht]; exact hP, va_K.moved hW.alike hK⟩, hS.F ht⟩) hS.2.2 dX7_has_121
              · have c50 := mt (ax_eq (n := 4) (by decide)).mpr c50
                by_cases c61 : x1 = 5
                · refine ax_eqi c61 ?_
                  refine lv_tableIn (off := 98) (tgt := 122) hx hb dX7_has_24 (by decide) (by decide) (by decide) (by decide) ?_
                  have c61 := (ax_eq (n := 5) (by decide)).mp c61
                  refine lv_aload_n hx hb dX7_has_122 rfl (lv_at hl 0 rfl) ?_
                  refine lv_iconst (v := 4) hx hb dX7_has_123 (by decide) ?_
                  refine va_calli (va_runV (As := [.int 4]) (rest := []) ⟨hx, hb, hml, hown, hts⟩ (y_X7_sumOf l dC dI H.size hLK A hA F a0 4 ha0 (by decide) hI (by rw [y_atE o2]; exact hPG)) (cwV 1 hts (ax_gV T_1189 T_1191 T_1192 T_265 T_1190) rfl rfl rfl (by decide +kernel) ⟨Nat.le_of_ble_eq_true rfl, Nat.le_of_ble_eq_true rfl⟩) ⟨fun a U g mk q => ⟨q.1, s_pc (U := U) rfl rfl q.2⟩, s_recv hK hP (hLK _ ha0 (by decide)) (ci := 7) rfl oY0, fun U hU hW => ⟨rfl, s_pw hU hW hP hK hD hN⟩⟩ rfl rfl hl.1 rfl (lv_room (Nat.le_of_ble_eq_true rfl)) dX7_has_124 ⟨Nat.zero_le _, Nat.zero_le _⟩) hS (fun q _ h => h) (fun q h => h) (fun r63 F64 t H1 locs ht hvm hw hB hz1 hk1 hS => ?_)
                  obtain ⟨hP, hK1⟩ := hB
                  rw [ht] at hP
                  generalize H1 = H at hP hS ⊢
                  clear hz1 hk1 hvm hK1
                  obtain ⟨h65, h67, hI, hfr1, hzf, h66⟩ := hw
                  have o68 : F64 (A 13) = .inl (cs 0, 400, .inl f1) := (hfr1 _ (by rw [(y_k13 hA)]; decide)).trans o2
                  have o69 : F64 (A 20) = .inl (cs 0, 918, .inl f4) := (hfr1 _ (by rw [(y_k20 hA)]; decide)).trans o5
                  have o70 : F64 (A 30) = .inl (cs 0, 18360, .inl f7) := (hfr1 _ (by rw [(y_k30 hA)]; decide)).trans o8
                  have oY71 : F64 a0 = .inr (7, y_fl A z0 q0) := (hfr1 _ (by rw [ha0]; decide)).trans oY0
                  have hfr : ∀ b, K b ∉ ([] : List Nat) → F64 b = F b := fun b hb9 => (hfr1 b (fun q => hb9 (s_sub (by decide) q))).trans (hfr b hb9)
                  exact W.iret (v := r63) hx hb hr (fun t ht hW => ⟨⟨r63, F64, rfl, ⟨trivial, trivial, hI, hfr, fun k hk => (y_fiZ oY71 (s_sub (by decide) hk)).trans ((hz0 k hk).trans (y_fiZ oY0 (s_sub (by decide) hk)).symm), (by rw [y_fiZ oY71 (k := 15) (by decide), ← ev10, y_atE o68, y_atE o69, y_atE o70, y_fiZ oY71 (k := 31) (by decide), ← ev11, y_fiZ oY71 (k := 32) (by decide), ← ev12]; exact hT)⟩, by rw [ht]; exact hP, va_K.moved hW.alike hK⟩, hS.F ht⟩) hS.2.2 dX7_has_127
                · have c61 := mt (ax_eq (n := 5) (by decide)).mpr c61
                  by_cases c72 : x1 = 6
                  · refine ax_eqi c72 ?_
                    refine lv_tableIn (off := 104) (tgt := 128) hx hb dX7_has_24 (by decide) (by decide) (by decide) (by decide) ?_
                    have c72 := (ax_eq (n := 6) (by decide)).mp c72
                    refine lv_aload_n hx hb dX7_has_128 rfl (lv_at hl 0 rfl) ?_
                    refine va_calli (va_runV (As := []) (rest := []) ⟨hx, hb, hml, hown, hts⟩ (y_X7_racedMany l dC dI H.size hLK A hA F a0 ha0 hI) (cwV 0 hts (ax_gV T_1193 T_1195 T_1196 T_265 T_1194) rfl rfl rfl (by decide +kernel) ⟨Nat.le_of_ble_eq_true rfl, Nat.le_of_ble_eq_true rfl⟩) ⟨fun a U g mk q => ⟨q.1, s_pc (U := U) rfl rfl q.2⟩, s_recv hK hP (hLK _ ha0 (by decide)) (ci := 7) rfl oY0, fun U hU hW => ⟨rfl, s_pw hU hW hP hK hD hN⟩⟩ rfl rfl hl.1 rfl (lv_room (Nat.le_of_ble_eq_true rfl)) dX7_has_129 ⟨Nat.zero_le _, Nat.zero_le _⟩) hS (fun q _ h => h) (fun q h => h) (fun r74 F75 t H1 locs ht hvm hw hB hz1 hk1 hS => ?_)
                    obtain ⟨hP, hK1⟩ := hB
                    rw [ht] at hP
                    generalize H1 = H at hP hS ⊢
                    clear hz1 hk1 hvm hK1
                    obtain ⟨h76, h78, hI, hfr1, hzf, h77⟩ := hw
                    have o79 : F75 (A 13) = .inl (cs 0, 400, .inl f1) := (hfr1 _ (by rw [(y_k13 hA)]; decide)).trans o2
                    have o80 : F75 (A 20) = .inl (cs 0, 918, .inl f4) := (hfr1 _ (by rw [(y_k20 hA)]; decide)).trans o5
                    have o81 : F75 (A 30) = .inl (cs 0, 18360, .inl f7) := (hfr1 _ (by rw [(y_k30 hA)]; decide)).trans o8
                    have oY82 : F75 a0 = .inr (7, y_fl A z0 q0) := (hfr1 _ (by rw [ha0]; decide)).trans oY0
                    have hfr : ∀ b, K b ∉ ([] : List Nat) → F75 b = F b := fun b hb9 => (hfr1 b (fun q => hb9 (s_sub (by decide) q))).trans (hfr b hb9)
                    exact W.iret (v := r74) hx hb hr (fun t ht hW => ⟨⟨r74, F75, rfl, ⟨trivial, trivial, hI, hfr, fun k hk => (y_fiZ oY82 (s_sub (by decide) hk)).trans ((hz0 k hk).trans (y_fiZ oY0 (s_sub (by decide) hk)).symm), (by rw [y_fiZ oY82 (k := 15) (by decide), ← ev10, y_atE o79, y_atE o80, y_atE o81, y_fiZ oY82 (k := 31) (by decide), ← ev11, y_fiZ oY82 (k := 32) (by decide), ← ev12]; exact hT)⟩, by rw [ht]; exact hP, va_K.moved hW.alike hK⟩, hS.F ht⟩) hS.2.2 dX7_has_132
                  · have c72 := mt (ax_eq (n := 6) (by decide)).mpr c72
                    by_cases c83 : x1 = 7
                    · refine ax_eqi c83 ?_
                      refine lv_tableIn (off := 109) (tgt := 133) hx hb dX7_has_24 (by decide) (by decide) (by decide) (by decide) ?_
                      have c83 := (ax_eq (n := 7) (by decide)).mp c83
                      refine lv_aload_n hx hb dX7_has_133 rfl (lv_at hl 0 rfl) ?_
                      refine th_get (D := (dC, dI)) (ci := 7) (v := .ref (A 20)) (C := RX7) (T := TX7) (N := 34) hx hb hts inX7 hown hK hP (hLK _ ha0 (by decide)) oY0 rfl 20 (by decide) (hts _ T_251) (fun _ h9 => h9) rfl dX7_has_134 ?_
                      refine lv_bipush (v := 7) hx hb dX7_has_137 (by decide) ?_
                      refine th_iald hx hb hK hP (hLK _ (y_k20 hA) (by decide)) 0 o5 rfl (ax_in (by decide)) dX7_has_139 ?_
                      refine lv_topi (fun v84 ev84 => ?_)
                      exact W.iret (v := v84) hx hb hr (fun t ht hW => ⟨⟨v84, F, rfl, ⟨trivial, trivial, hI, hfr, fun k hk => (y_fiZ oY0 (s_sub (by decide) hk)).trans ((hz0 k hk).trans (y_fiZ oY0 (s_sub (by decide) hk)).symm), (by rw [y_fiZ oY0 (k := 15) (by decide), ← ev10, y_atE o2, y_atE o5, y_atE o8, y_fiZ oY0 (k := 31) (by decide), ← ev11, y_fiZ oY0 (k := 32) (by decide), ← ev12]; exact hT)⟩, by rw [ht]; exact hP, va_K.moved hW.alike hK⟩, hS.F ht⟩) hS.2.2 dX7_has_140
                    · have c83 := mt (ax_eq (n := 7) (by decide)).mpr c83
                      by_cases c85 : x1 = 8
                      · refine ax_eqi c85 ?_
                        refine lv_tableIn (off := 117) (tgt := 141) hx hb dX7_has_24 (by decide) (by decide) (by decide) (by decide) ?_
                        have c85 := (ax_eq (n := 8) (by decide)).mp c85
                        refine lv_aload_n hx hb dX7_has_141 rfl (lv_at hl 0 rfl) ?_
                        refine th_get (D := (dC, dI)) (ci := 7) (v := .int (z0 31)) (C := RX7) (T := TX7) (N := 34) hx hb hts inX7 hown hK hP (hLK _ ha0 (by decide)) oY0 rfl 31 (by decide) (hts _ T_323) (fun _ h9 => h9) rfl dX7_has_142 ?_
                        refine ax_eqi (y := v11) ev11.symm ?_
                        exact W.iret (v := v11) hx hb hr (fun t ht hW => ⟨⟨v11, F, rfl, ⟨trivial, trivial, hI, hfr, fun k hk => (y_fiZ oY0 (s_sub (by decide) hk)).trans ((hz0 k hk).trans (y_fiZ oY0 (s_sub (by decide) hk)).symm), (by rw [y_fiZ oY0 (k := 15) (by decide), ← ev10, y_atE o2, y_atE o5, y_atE o8, y_fiZ oY0 (k := 31) (by decide), ← ev11, y_fiZ oY0 (k := 32) (by decide), ← ev12]; exact hT)⟩, by rw [ht]; exact hP, va_K.moved hW.alike hK⟩, hS.F ht⟩) hS.2.2 dX7_has_145
                      · have c85 := mt (ax_eq (n := 8) (by decide)).mpr c85
                        by_cases c86 : x1 = 9
                        · refine ax_eqi c86 ?_
                          refine lv_tableIn (off := 122) (tgt := 146) hx hb dX7_has_24 (by decide) (by decide) (by decide) (by decide) ?_
                          have c86 := (ax_eq (n := 9) (by decide)).mp c86
                          refine lv_aload_n hx hb dX7_has_146 rfl (lv_at hl 0 rfl) ?_
                          refine th_get (D := (dC, dI)) (ci := 7) (v := .ref (A 20)) (C := RX7) (T := TX7) (N := 34) hx hb hts inX7 hown hK hP (hLK _ ha0 (by decide)) oY0 rfl 20 (by decide) (hts _ T_251) (fun _ h9 => h9) rfl dX7_has_147 ?_
                          refine lv_iconst (v := 2) hx hb dX7_has_150 (by decide) ?_
                          refine th_iald hx hb hK hP (hLK _ (y_k20 hA) (by decide)) 0 o5 rfl (ax_in (by decide)) dX7_has_151 ?_
                          refine lv_topi (fun v87 ev87 => ?_)
                          exact W.iret (v := v87) hx hb hr (fun t ht hW => ⟨⟨v87, F, rfl, ⟨trivial, trivial, hI, hfr, fun k hk => (y_fiZ oY0 (s_sub (by decide) hk)).trans ((hz0 k hk).trans (y_fiZ oY0 (s_sub (by decide) hk)).symm), (by rw [y_fiZ oY0 (k := 15) (by decide), ← ev10, y_atE o2, y_atE o5, y_atE o8, y_fiZ oY0 (k := 31) (by decide), ← ev11, y_fiZ oY0 (k := 32) (by decide), ← ev12]; exact hT)⟩, by rw [ht]; exact hP, va_K.moved hW.alike hK⟩, hS.F ht⟩) hS.2.2 dX7_has_152
                        · have c86 := mt (ax_eq (n := 9) (by decide)).mpr c86
                          by_cases c88 : x1 = 10
                          · refine ax_eqi c88 ?_
                            refine lv_tableIn (off := 129) (tgt := 153) hx hb dX7_has_24 (by decide) (by decide) (by decide) (by decide) ?_
                            have c88 := (ax_eq (n := 10) (by decide)).mp c88
                            refine lv_aload_n hx hb dX7_has_153 rfl (lv_at hl 0 rfl) ?_
                            refine th_get (D := (dC, dI)) (ci := 7) (v := .ref (A 20)) (C := RX7) (T := TX7) (N := 34) hx hb hts inX7 hown hK hP (hLK _ ha0 (by decide)) oY0 rfl 20 (by decide) (hts _ T_251) (fun _ h9 => h9) rfl dX7_has_154 ?_
                            refine lv_iconst (v := 3) hx hb dX7_has_157 (by decide) ?_
                            refine th_iald hx hb hK hP (hLK _ (y_k20 hA) (by decide)) 0 o5 rfl (ax_in (by decide)) dX7_has_158 ?_
                            refine lv_topi (fun v89 ev89 => ?_)
                            exact W.iret (v := v89) hx hb hr (fun t ht hW => ⟨⟨v89, F, rfl, ⟨trivial, trivial, hI, hfr, fun k hk => (y_fiZ oY0 (s_sub (by decide) hk)).trans ((hz0 k hk).trans (y_fiZ oY0 (s_sub (by decide) hk)).symm), (by rw [y_fiZ oY0 (k := 15) (by decide), ← ev10, y_atE o2, y_atE o5, y_atE o8, y_fiZ oY0 (k := 31) (by decide), ← ev11, y_fiZ oY0 (k := 32) (by decide), ← ev12]; exact hT)⟩, by rw [ht]; exact hP, va_K.moved hW.alike hK⟩, hS.F ht⟩) hS.2.2 dX7_has_159
                          · have c88 := mt (ax_eq (n := 10) (by decide)).mpr c88
                            by_cases c90 : x1 = 11
                            · refine ax_eqi c90 ?_
                              refine lv_tableIn (off := 136) (tgt := 160) hx hb dX7_has_24 (by decide) (by decide) (by decide) (by decide) ?_
                              have c90 := (ax_eq (n := 11) (by decide)).mp c90
                              refine lv_aload_n hx hb dX7_has_160 rfl (lv_at hl 0 rfl) ?_
                              refine th_get (D := (dC, dI)) (ci := 7) (v := .ref (A 20)) (C := RX7) (T := TX7) (N := 34) hx hb hts inX7 hown hK hP (hLK _ ha0 (by decide)) oY0 rfl 20 (by decide) (hts _ T_251) (fun _ h9 => h9) rfl dX7_has_161 ?_
                              refine lv_iconst (v := 4) hx hb dX7_has_164 (by decide) ?_
                              refine th_iald hx hb hK hP (hLK _ (y_k20 hA) (by decide)) 0 o5 rfl (ax_in (by decide)) dX7_has_165 ?_
                              refine lv_topi (fun v91 ev91 => ?_)
                              exact W.iret (v := v91) hx hb hr (fun t ht hW => ⟨⟨v91, F, rfl, ⟨trivial, trivial, hI, hfr, fun k hk => (y_fiZ oY0 (s_sub (by decide) hk)).trans ((hz0 k hk).trans (y_fiZ oY0 (s_sub (by decide) hk)).symm), (by rw [y_fiZ oY0 (k := 15) (by decide), ← ev10, y_atE o2, y_atE o5, y_atE o8, y_fiZ oY0 (k := 31) (by decide), ← ev11, y_fiZ oY0 (k := 32) (by decide), ← ev12]; exact hT)⟩, by rw [ht]; exact hP, va_K.moved hW.alike hK⟩, hS.F ht⟩) hS.2.2 dX7_has_166
                            · have c90 := mt (ax_eq (n := 11) (by decide)).mpr c90
                              by_cases c92 : x1 = 12
                              · refine ax_eqi c92 ?_
                                refine lv_tableIn (off := 143) (tgt := 167) hx hb dX7_has_24 (by decide) (by decide) (by decide) (by decide) ?_
                                have c92 := (ax_eq (n := 12) (by decide)).mp c92
                                refine lv_aload_n hx hb dX7_has_167 rfl (lv_at hl 0 rfl) ?_
                                refine th_get (D := (dC, dI)) (ci := 7) (v := .ref (A 20)) (C := RX7) (T := TX7) (N := 34) hx hb hts inX7 hown hK hP (hLK _ ha0 (by decide)) oY0 rfl 20 (by decide) (hts _ T_251) (fun _ h9 => h9) rfl dX7_has_168 ?_
                                refine lv_iconst (v := 5) hx hb dX7_has_171 (by decide) ?_
                                refine th_iald hx hb hK hP (hLK _ (y_k20 hA) (by decide)) 0 o5 rfl (ax_in (by decide)) dX7_has_172 ?_
                                refine lv_topi (fun v93 ev93 => ?_)
                                exact W.iret (v := v93) hx hb hr (fun t ht hW => ⟨⟨v93, F, rfl, ⟨trivial, trivial, hI, hfr, fun k hk => (y_fiZ oY0 (s_sub (by decide) hk)).trans ((hz0 k hk).trans (y_fiZ oY0 (s_sub (by decide) hk)).symm), (by rw [y_fiZ oY0 (k := 15) (by decide), ← ev10, y_atE o2, y_atE o5, y_atE o8, y_fiZ oY0 (k := 31) (by decide), ← ev11, y_fiZ oY0 (k := 32) (by decide), ← ev12]; exact hT)⟩, by rw [ht]; exact hP, va_K.moved hW.alike hK⟩, hS.F ht⟩) hS.2.2 dX7_has_173
                              · have c92 := mt (ax_eq (n := 12) (by decide)).mpr c92
                                refine lv_tableOut (tgt := 174) hx hb dX7_has_24 (by omega) (by decide) ?_
                                refine lv_aload_n hx hb dX7_has_174 rfl (lv_at hl 0 rfl) ?_
                                refine th_get (D := (dC, dI)) (ci := 7) (v := .ref (A 20)) (C := RX7) (T := TX7) (N := 34) hx hb hts inX7 hown hK hP (hLK _ ha0 (by decide)) oY0 rfl 20 (by decide) (hts _ T_251) (fun _ h9 => h9) rfl dX7_has_175 ?_
                                refine lv_bipush (v := 6) hx hb dX7_has_178 (by decide) ?_
                                refine th_iald hx hb hK hP (hLK _ (y_k20 hA) (by decide)) 0 o5 rfl (ax_in (by decide)) dX7_has_180 ?_
                                refine lv_topi (fun v94 ev94 => ?_)
                                refine lv_iconst (v := (-1)) hx hb dX7_has_181 (by decide) ?_
                                refine lv_icmp_ne (tgt := 189) hx hb dX7_has_182 (by decide) (fun c95 => ?_) (fun c95 => ?_)
                                · have c95 := mt (ax_eq (n := (-1)) (by decide)).mpr c95
                                  refine lv_aload_n hx hb dX7_has_189 rfl (lv_at hl 0 rfl) ?_
                                  refine th_get (D := (dC, dI)) (ci := 7) (v := .ref (A 20)) (C := RX7) (T := TX7) (N := 34) hx hb hts inX7 hown hK hP (hLK _ ha0 (by decide)) oY0 rfl 20 (by decide) (hts _ T_251) (fun _ h9 => h9) rfl dX7_has_190 ?_
                                  refine lv_bipush (v := 6) hx hb dX7_has_193 (by decide) ?_
                                  refine th_iald hx hb hK hP (hLK _ (y_k20 hA) (by decide)) 0 o5 rfl (ax_in (by decide)) dX7_has_195 ?_
                                  refine lv_topi (fun v96 ev96 => ?_)
                                  exact W.iret (v := v96) hx hb hr (fun t ht hW => ⟨⟨v96, F, rfl, ⟨trivial, trivial, hI, hfr, fun k hk => (y_fiZ oY0 (s_sub (by decide) hk)).trans ((hz0 k hk).trans (y_fiZ oY0 (s_sub (by decide) hk)).symm), (by rw [y_fiZ oY0 (k := 15) (by decide), ← ev10, y_atE o2, y_atE o5, y_atE o8, y_fiZ oY0 (k := 31) (by decide), ← ev11, y_fiZ oY0 (k := 32) (by decide), ← ev12]; exact hT)⟩, by rw [ht]; exact hP, va_K.moved hW.alike hK⟩, hS.F ht⟩) hS.2.2 dX7_has_196
                                · have c95 := (ax_eq (n := (-1)) (by decide)).mp c95
                                  refine lv_iconst (v := 0) hx hb dX7_has_185 (by decide) ?_
                                  refine lv_goto (tgt := 196) hx hb dX7_has_186 (by decide) ?_
                                  have h97 : (0 : Int32).toInt = 0 := by decide
                                  exact W.iret (v := 0) hx hb hr (fun t ht hW => ⟨⟨0, F, rfl, ⟨trivial, trivial, hI, hfr, fun k hk => (y_fiZ oY0 (s_sub (by decide) hk)).trans ((hz0 k hk).trans (y_fiZ oY0 (s_sub (by decide) hk)).symm), (by rw [y_fiZ oY0 (k := 15) (by decide), ← ev10, y_atE o2, y_atE o5, y_atE o8, y_fiZ oY0 (k := 31) (by decide), ← ev11, y_fiZ oY0 (k := 32) (by decide), ← ev12]; exact hT)⟩, by rw [ht]; exact hP, va_K.moved hW.alike hK⟩, hS.F ht⟩) hS.2.2 dX7_has_196
    · have c21 := (ax_eq (n := 0) (by decide)).mp c21
      refine lv_iconst (v := 0) hx hb dX7_has_21 (by decide) ?_
      have h98 : (0 : Int32).toInt = 0 := by decide
      exact W.iret (v := 0) hx hb hr (fun t ht hW => ⟨⟨0, F, rfl, ⟨trivial, trivial, hI, hfr, fun k hk => (y_fiZ oY0 (s_sub (by decide) hk)).trans ((hz0 k hk).trans (y_fiZ oY0 (s_sub (by decide) hk)).symm), (by rw [y_fiZ oY0 (k := 15) (by decide), ← ev10, y_atE o2, y_atE o5, y_atE o8, y_fiZ oY0 (k := 31) (by decide), ← ev11, y_fiZ oY0 (k := 32) (by decide), ← ev12]; exact hT)⟩, by rw [ht]; exact hP, va_K.moved hW.alike hK⟩, hS.F ht⟩) hS.2.2 dX7_has_22
  · have c20 := (ax_eq (n := 0) (by decide)).mp c20
    refine lv_iconst (v := (-1)) hx hb dX7_has_12 (by decide) ?_
    have h99 : ((-1) : Int32).toInt = (-1) := by decide
    exact W.iret (v := (-1)) hx hb hr (fun t ht hW => ⟨⟨(-1), F, rfl, ⟨trivial, trivial, hI, hfr, fun k hk => (y_fiZ oY0 (s_sub (by decide) hk)).trans ((hz0 k hk).trans (y_fiZ oY0 (s_sub (by decide) hk)).symm), (by rw [y_fiZ oY0 (k := 15) (by decide), ← ev10, y_atE o2, y_atE o5, y_atE o8, y_fiZ oY0 (k := 31) (by decide), ← ev11, y_fiZ oY0 (k := 32) (by decide), ← ev12]; exact hT)⟩, by rw [ht]; exact hP, va_K.moved hW.alike hK⟩, hS.F ht⟩) hS.2.2 dX7_has_13

set_option maxHeartbeats 4000000 in
set_option maxRecDepth 100000 in
theorem y_X7_line (l : Launch) (dC : Nat → ClassId) (dI : Nat → Nat → Nat) (sz : Nat) {L : List Nat} {K : Nat → Nat} {cs : Nat → ClassId} (hLK : ∀ a {k : Nat}, K a = k → k ≠ 0 → a ∈ L) (A : Nat → Nat) (hA : y_A K A) (F : Nat → va_E) (a0 : Nat) (x1 : Int32) (x2 : Int32) (ha0 : K a0 = 9) (hI : y_I K cs A F) (hT : y_T (y_fi F a0 15) (y_at F (A 13)) (y_at F (A 20)) (y_at F (A 30)) (y_fi F a0 31) (y_fi F a0 32)) : Met l yX7_line (Cond.code yX7_line cX7_line 3 (some .int) :: T0) ({ frames := 2, cells := 0, slots := 0, locals := 43 }) (va_Pc [.ref a0, .int x1, .int x2] (s_W dC dI sz L F [(cs 0, .int), (cs 1, .byte), (cs 2, .long), (cs 3, .object RX5), (cs 4, .object RX4), (cs 5, .array .int), (cs 6, .char), (cs 7, .boolean)])) (va_Qi (fun (r : Int32) (G : Nat → va_E) => True ∧ True ∧ y_I K cs A G ∧ (∀ b, K b ∉ ([] : List Nat) → G b = F b) ∧ (∀ k, k ∈ ([1, 2, 3, 4, 5, 6, 7, 8, 11, 15, 16, 19, 25, 26, 27, 31, 32] : List Nat) → y_fi G a0 k = y_fi F a0 k) ∧ (y_T (y_fi G a0 15) (y_at G (A 13)) (y_at G (A 20)) (y_at G (A 30)) (y_fi G a0 31) (y_fi G a0 32))) (fun (G : Nat → va_E) (t : State) => va_P (dC, dI) vwCl (va_pl L G) t.heap ∧ va_K (dC, dI) vwCl [(cs 0, .int), (cs 1, .byte), (cs 2, .long), (cs 3, .object RX5), (cs 4, .object RX4), (cs 5, .array .int), (cs 6, .char), (cs 7, .boolean)] t) (fun q => q ∈ L)) 0 0 (fun q => q ∈ L) := by
  refine Met.ofW (cc := cX7_line) (maxL := 3) (ret := (some .int)) (by decide) rfl ?_
  intro p e s m args below meth c s₁ B hml hv
  obtain ⟨rfl, hsz, hP, hK, hD, hN⟩ := hv
  have hx := B.exec
  have hb := B.bytes
  have hr := B.returns
  have hts : ∀ w ∈ T0, w.before _ s = true := fun w h => atoms_spec (ws := Cond.code yX7_line cX7_line 3 (some .int) :: T0) B.pre w (List.mem_cons_of_mem _ h)
  have hown : s.vm.findClass RX7 = some m.cls := findClass_of_methodNamed B.named
  have hlocks := B.notSynchronized
  have hS : va_S (fun q => q ∈ L) s.heap s.heap [] := va_S.rf
  have hfr : ∀ b, K b ∉ ([] : List Nat) → F b = F b := fun _ _ => rfl
  have hl := lv_entry ([.ref a0, .int x1, .int x2]) (n := 3) (Nat.le_of_ble_eq_true rfl)
  rw [lg_entry_eq]
  generalize (lg_sl ([.ref a0, .int x1, .int x2]) ++ List.replicate (3 - (lg_sl ([.ref a0, .int x1, .int x2])).length) Slot.unset).toArray = ls at hl ⊢
  have hl : lv_has ls 3 [(0, .ref a0), (1, .int x1), (2, .int x2)] := hl
  refine s_gen hP hS (fun H locs hP hS => ?_)
  obtain ⟨z0, q0, oY0, bz0, bq0⟩ := y_opY hI ha0
  have hz0 : ∀ k, k ∈ ([1, 2, 3, 4, 5, 6, 7, 8, 11, 15, 16, 19, 25, 26, 27, 31, 32] : List Nat) → z0 k = z0 k := fun _ _ => rfl
  obtain ⟨f1, o2, b3⟩ := y_op13 hI
  obtain ⟨f4, o5, b6⟩ := y_op20 hI
  obtain ⟨f7, o8, b9⟩ := y_op30 hI
  obtain ⟨v10, ev10⟩ : ∃ y : Int32, y = z0 15 := ⟨_, rfl⟩
  have qv10 : 0 ≤ v10.toInt ∧ v10.toInt ≤ 1 := by rw [ev10]; exact y_bY15 bz0
  have eF_15 := ev10
  obtain ⟨v11, ev11⟩ : ∃ y : Int32, y = z0 31 := ⟨_, rfl⟩
  have qv11 : 0 ≤ v11.toInt ∧ v11.toInt ≤ 20 := by rw [ev11]; exact y_bY31 bz0
  have eF_31 := ev11
  obtain ⟨v12, ev12⟩ : ∃ y : Int32, y = z0 32 := ⟨_, rfl⟩
  have qv12 : 0 ≤ v12.toInt ∧ v12.toInt ≤ 19 := by rw [ev12]; exact y_bY32 bz0
  have eF_32 := ev12
  replace hT : y_T v10 f1 f4 f7 v11 v12 := by have q9 := hT; rw [y_fiZ oY0 (k := 15) (by decide), ← ev10, y_atE o2, y_atE o5, y_atE o8, y_fiZ oY0 (k := 31) (by decide), ← ev11, y_fiZ oY0 (k := 32) (by decide), ← ev12] at q9; exact q9
  have e0_v10 := ev10
  have e0_v11 := ev11
  have e0_v12 := ev12
  refine lv_aload_n hx hb dX7_line_0 rfl (lv_at hl 0 rfl) ?_
  refine th_get (D := (dC, dI)) (ci := 7) (v := .int (z0 15)) (C := RX7) (T := TX7) (N := 34) hx hb hts inX7 hown hK hP (hLK _ ha0 (by decide)) oY0 rfl 15 (by decide) (hts _ T_271) (fun _ h9 => h9) rfl dX7_line_1 ?_
  refine ax_eqi (y := v10) ev10.symm ?_
  refine lv_if_eq (tgt := 44) hx hb dX7_line_4 (by decide) (fun c13 => ?_) (fun c13 => ?_)
  · have c13 := (ax_eq (n := 0) (by decide)).mp c13
    refine lv_ldc (v := (-1000000)) hx hb hown (hts _ T_316) dX7_line_44 ?_
    have h14 : ((-1000000) : Int32).toInt = (-1000000) := by decide
    exact W.iret (v := (-1000000)) hx hb hr (fun t ht hW => ⟨⟨(-1000000), F, rfl, ⟨trivial, trivial, hI, hfr, fun k hk => (y_fiZ oY0 (s_sub (by decide) hk)).trans ((hz0 k hk).trans (y_fiZ oY0 (s_sub (by decide) hk)).symm), (by rw [y_fiZ oY0 (k := 15) (by decide), ← ev10, y_atE o2, y_atE o5, y_atE o8, y_fiZ oY0 (k := 31) (by decide), ← ev11, y_fiZ oY0 (k := 32) (by decide), ← ev12]; exact hT)⟩, by rw [ht]; exact hP, va_K.moved hW.alike hK⟩, hS.F ht⟩) hS.2.2 dX7_line_46
  · have c13 := mt (ax_eq (n := 0) (by decide)).mpr c13
    obtain ⟨htd, hPG, hNG, hUG⟩ := y_TT hT (by omega)
    have hL := y_P0L hPG.1
    have hW := y_P0W hPG.1
    have hnn := And.intro hNG.1 (And.intro hNG.2.1 (And.intro hNG.2.2.1 hNG.2.2.2.1))
    refine lv_iload_n hx hb dX7_line_7 rfl (lv_at hl 1 rfl) ?_
    refine lv_i2l hx hb dX7_line_8 rfl ?_
    refine lv_topl (fun v15 ev15 => ?_)
    have qv15 : v15.toInt = x1.toInt := y_i2l ev15
    refine lv_lconst (v := 0) hx hb dX7_line_9 (by decide) ?_
    refine lv_aload_n hx hb dX7_line_10 rfl (lv_at hl 0 rfl) ?_
    refine va_calli (va_runV (As := []) (rest := [.long 0, .long v15]) ⟨hx, hb, hml, hown, hts⟩ (y_X7_lines l dC dI H.size hLK A hA F a0 ha0 hI) (cwV 0 hts (ax_gV T_1030 T_1032 T_1033 T_265 T_1031) rfl rfl rfl (by decide +kernel) ⟨Nat.le_of_ble_eq_true rfl, Nat.le_of_ble_eq_true rfl⟩) ⟨fun a U g mk q => ⟨q.1, s_pc (U := U) rfl rfl q.2⟩, s_recv hK hP (hLK _ ha0 (by decide)) (ci := 7) rfl oY0, fun U hU hW => ⟨rfl, s_pw hU hW hP hK hD hN⟩⟩ rfl rfl hl.1 rfl (lv_room (Nat.le_of_ble_eq_true rfl)) dX7_line_11 ⟨Nat.zero_le _, Nat.zero_le _⟩) hS (fun q _ h => h) (fun q h => h) (fun r17 F18 t H1 locs ht hvm hw hB hz1 hk1 hS => ?_)
    obtain ⟨hP, hK1⟩ := hB
    rw [ht] at hP
    generalize H1 = H at hP hS ⊢
    clear hz1 hk1 hvm hK1
    obtain ⟨h19, h21, hI, hfr1, hzf, h20⟩ := hw
    have o22 : F18 (A 13) = .inl (cs 0, 400, .inl f1) := (hfr1 _ (by rw [(y_k13 hA)]; decide)).trans o2
    have o23 : F18 (A 20) = .inl (cs 0, 918, .inl f4) := (hfr1 _ (by rw [(y_k20 hA)]; decide)).trans o5
    have o24 : F18 (A 30) = .inl (cs 0, 18360, .inl f7) := (hfr1 _ (by rw [(y_k30 hA)]; decide)).trans o8
    have oY25 : F18 a0 = .inr (7, y_fl A z0 q0) := (hfr1 _ (by rw [ha0]; decide)).trans oY0
    have hfr : ∀ b, K b ∉ ([] : List Nat) → F18 b = F b := fun b hb9 => (hfr1 b (fun q => hb9 (s_sub (by decide) q))).trans (hfr b hb9)
    replace h20 : (r17 = y_c f1 387) := by have q9 := h20; rw [y_atE o2] at q9; exact q9
    have h26 := congrArg Int32.toInt h20
    have h27 : 1 ≤ r17.toInt ∧ r17.toInt ≤ 40 := ⟨by omega, by omega⟩
    refine lv_iconst (v := 1) hx hb dX7_line_14 (by decide) ?_
    refine lv_isub hx hb dX7_line_15 ?_
    refine lv_topi (fun v28 ev28 => ?_)
    have qv28 : v28.toInt = r17.toInt - 1 := by rw [ev28]; exact th_sub rfl (by decide) ⟨by omega, by omega⟩
    refine lv_i2l hx hb dX7_line_16 rfl ?_
    refine lv_topl (fun v29 ev29 => ?_)
    have qv29 : v29.toInt = v28.toInt := y_i2l ev29
    refine va_calli (va_runS (As := [.long v15, .long 0, .long v29]) (rest := []) ⟨hx, hb, hml, hown, hts⟩ (y_X7_isIn l dC dI H.size F18 v15 0 v29) (cwS 3 hts (ax_gS T_267 T_268 T_265 T_21) rfl rfl rfl (by decide +kernel) ⟨Nat.le_of_ble_eq_true rfl, Nat.le_of_ble_eq_true rfl⟩) ⟨fun a U g mk q => ⟨q.1, s_pc (U := U) rfl rfl q.2⟩, fun U hU hW => ⟨rfl, s_pw hU hW hP hK hD hN⟩⟩ rfl rfl hl.1 rfl (lv_room (Nat.le_of_ble_eq_true rfl)) dX7_line_17 ⟨Nat.zero_le _, Nat.zero_le _⟩) hS (fun q _ h => h) (fun q h => h) (fun r31 F32 t H1 locs ht hvm hw hB hz1 hk1 hS => ?_)
    obtain ⟨hP, hK1⟩ := hB
    rw [ht] at hP
    generalize H1 = H at hP hS ⊢
    clear hz1 hk1 hvm hK1
    obtain ⟨h33, h35, hG9, h34⟩ := hw
    rw [hG9] at hP
    replace h34 : ((r31.toInt = 0 ∧ (v15.toInt < 0 ∨ v29.toInt < v15.toInt)) ∨ (r31.toInt = 1 ∧ 0 ≤ v15.toInt ∧ v15.toInt ≤ v29.toInt)) := by have q9 := h34; exact q9
    refine lv_if_eq (tgt := 44) hx hb dX7_line_20 (by decide) (fun c36 => ?_) (fun c36 => ?_)
    · have c36 := (ax_eq (n := 0) (by decide)).mp c36
      refine lv_ldc (v := (-1000000)) hx hb hown (hts _ T_316) dX7_line_44 ?_
      have h37 : ((-1000000) : Int32).toInt = (-1000000) := by decide
      exact W.iret (v := (-1000000)) hx hb hr (fun t ht hW => ⟨⟨(-1000000), F18, rfl, ⟨trivial, trivial, hI, hfr, fun k hk => (y_fiZ oY25 (s_sub (by decide) hk)).trans ((hz0 k hk).trans (y_fiZ oY0 (s_sub (by decide) hk)).symm), (by rw [y_fiZ oY25 (k := 15) (by decide), ← ev10, y_atE o22, y_atE o23, y_atE o24, y_fiZ oY25 (k := 31) (by decide), ← ev11, y_fiZ oY25 (k := 32) (by decide), ← ev12]; exact hT)⟩, by rw [ht]; exact hP, va_K.moved hW.alike hK⟩, hS.F ht⟩) hS.2.2 dX7_line_46
    · have c36 := mt (ax_eq (n := 0) (by decide)).mpr c36
      refine lv_iload_n hx hb dX7_line_23 rfl (lv_at hl 2 rfl) ?_
      refine lv_i2l hx hb dX7_line_24 rfl ?_
      refine lv_topl (fun v38 ev38 => ?_)
      have qv38 : v38.toInt = x2.toInt := y_i2l ev38
      refine lv_lconst (v := 0) hx hb dX7_line_25 (by decide) ?_
      refine lv_ldc2 hx hb hown (hts _ T_1233) dX7_line_26 ?_
      refine va_calli (va_runS (As := [.long v38, .long 0, .long 6]) (rest := []) ⟨hx, hb, hml, hown, hts⟩ (y_X7_isIn l dC dI H.size F18 v38 0 6) (cwS 3 hts (ax_gS T_267 T_268 T_265 T_21) rfl rfl rfl (by decide +kernel) ⟨Nat.le_of_ble_eq_true rfl, Nat.le_of_ble_eq_true rfl⟩) ⟨fun a U g mk q => ⟨q.1, s_pc (U := U) rfl rfl q.2⟩, fun U hU hW => ⟨rfl, s_pw hU hW hP hK hD hN⟩⟩ rfl rfl hl.1 rfl (lv_room (Nat.le_of_ble_eq_true rfl)) dX7_line_29 ⟨Nat.zero_le _, Nat.zero_le _⟩) hS (fun q _ h => h) (fun q h => h) (fun r40 F41 t H1 locs ht hvm hw hB hz1 hk1 hS => ?_)
      obtain ⟨hP, hK1⟩ := hB
      rw [ht] at hP
      generalize H1 = H at hP hS ⊢
      clear hz1 hk1 hvm hK1
      obtain ⟨h42, h44, hG9, h43⟩ := hw
      rw [hG9] at hP
      replace h43 : ((r40.toInt = 0 ∧ (v38.toInt < 0 ∨ 6 < v38.toInt)) ∨ (r40.toInt = 1 ∧ 0 ≤ v38.toInt ∧ v38.toInt ≤ 6)) := by have q9 := h43; exact q9
      refine lv_if_eq (tgt := 44) hx hb dX7_line_32 (by decide) (fun c45 => ?_) (fun c45 => ?_)
      · have c45 := (ax_eq (n := 0) (by decide)).mp c45
        refine lv_ldc (v := (-1000000)) hx hb hown (hts _ T_316) dX7_line_44 ?_
        have h46 : ((-1000000) : Int32).toInt = (-1000000) := by decide
        exact W.iret (v := (-1000000)) hx hb hr (fun t ht hW => ⟨⟨(-1000000), F18, rfl, ⟨trivial, trivial, hI, hfr, fun k hk => (y_fiZ oY25 (s_sub (by decide) hk)).trans ((hz0 k hk).trans (y_fiZ oY0 (s_sub (by decide) hk)).symm), (by rw [y_fiZ oY25 (k := 15) (by decide), ← ev10, y_atE o22, y_atE o23, y_atE o24, y_fiZ oY25 (k := 31) (by decide), ← ev11, y_fiZ oY25 (k := 32) (by decide), ← ev12]; exact hT)⟩, by rw [ht]; exact hP, va_K.moved hW.alike hK⟩, hS.F ht⟩) hS.2.2 dX7_line_46
      · have c45 := mt (ax_eq (n := 0) (by decide)).mpr c45
        refine lv_aload_n hx hb dX7_line_35 rfl (lv_at hl 0 rfl) ?_
        refine lv_iload_n hx hb dX7_line_36 rfl (lv_at hl 1 rfl) ?_
        refine lv_iload_n hx hb dX7_line_37 rfl (lv_at hl 2 rfl) ?_
        have rg47 : 0 ≤ x1.toInt ∧ x1.toInt ≤ 40 := ⟨by omega, by omega⟩
        have rg48 : 0 ≤ x2.toInt ∧ x2.toInt ≤ 7 := ⟨by omega, by omega⟩
        refine va_calli (va_runV (As := [.int x1, .int x2]) (rest := []) ⟨hx, hb, hml, hown, hts⟩ (y_X7_of l dC dI H.size hLK A hA F18 a0 x1 x2 ha0 rg47 rg48 hI) (cwV 2 hts (ax_gV T_1131 T_1133 T_1134 T_265 T_1132) rfl rfl rfl (by decide +kernel) ⟨Nat.le_of_ble_eq_true rfl, Nat.le_of_ble_eq_true rfl⟩) ⟨fun a U g mk q => ⟨q.1, s_pc (U := U) rfl rfl q.2⟩, s_recv hK hP (hLK _ ha0 (by decide)) (ci := 7) rfl oY25, fun U hU hW => ⟨rfl, s_pw hU hW hP hK hD hN⟩⟩ rfl rfl hl.1 rfl (lv_room (Nat.le_of_ble_eq_true rfl)) dX7_line_38 ⟨Nat.zero_le _, Nat.zero_le _⟩) hS (fun q _ h => h) (fun q h => h) (fun r50 F51 t H1 locs ht hvm hw hB hz1 hk1 hS => ?_)
        obtain ⟨hP, hK1⟩ := hB
        rw [ht] at hP
        generalize H1 = H at hP hS ⊢
        clear hz1 hk1 hvm hK1
        obtain ⟨h52, h54, hI, hfr1, hzf, h53⟩ := hw
        have o55 : F51 (A 13) = .inl (cs 0, 400, .inl f1) := (hfr1 _ (by rw [(y_k13 hA)]; decide)).trans o22
        have o56 : F51 (A 20) = .inl (cs 0, 918, .inl f4) := (hfr1 _ (by rw [(y_k20 hA)]; decide)).trans o23
        have o57 : F51 (A 30) = .inl (cs 0, 18360, .inl f7) := (hfr1 _ (by rw [(y_k30 hA)]; decide)).trans o24
        have oY58 : F51 a0 = .inr (7, y_fl A z0 q0) := (hfr1 _ (by rw [ha0]; decide)).trans oY25
        have hfr : ∀ b, K b ∉ ([] : List Nat) → F51 b = F b := fun b hb9 => (hfr1 b (fun q => hb9 (s_sub (by decide) q))).trans (hfr b hb9)
        replace h53 : (r50 = y_c f1 (8 * x1.toInt + x2.toInt)) := by have q9 := h53; rw [y_atE o22] at q9; exact q9
        have h59 := congrArg Int32.toInt h53
        refine lv_goto (tgt := 46) hx hb dX7_line_41 (by decide) ?_
        exact W.iret (v := r50) hx hb hr (fun t ht hW => ⟨⟨r50, F51, rfl, ⟨trivial, trivial, hI, hfr, fun k hk => (y_fiZ oY58 (s_sub (by decide) hk)).trans ((hz0 k hk).trans (y_fiZ oY0 (s_sub (by decide) hk)).symm), (by rw [y_fiZ oY58 (k := 15) (by decide), ← ev10, y_atE o55, y_atE o56, y_atE o57, y_fiZ oY58 (k := 31) (by decide), ← ev11, y_fiZ oY58 (k := 32) (by decide), ← ev12]; exact hT)⟩, by rw [ht]; exact hP, va_K.moved hW.alike hK⟩, hS.F ht⟩) hS.2.2 dX7_line_46

set_option maxHeartbeats 4000000 in
set_option maxRecDepth 100000 in
theorem y_X7_isWarp (l : Launch) (dC : Nat → ClassId) (dI : Nat → Nat → Nat) (sz : Nat) {L : List Nat} {K : Nat → Nat} {cs : Nat → ClassId} (hLK : ∀ a {k : Nat}, K a = k → k ≠ 0 → a ∈ L) (A : Nat → Nat) (hA : y_A K A) (F : Nat → va_E) (a0 : Nat) (x1 : Int32) (ha0 : K a0 = 9) (hI : y_I K cs A F) (hT : y_T (y_fi F a0 15) (y_at F (A 13)) (y_at F (A 20)) (y_at F (A 30)) (y_fi F a0 31) (y_fi F a0 32)) : Met l yX7_isWarp (Cond.code yX7_isWarp cX7_isWarp 2 (some .boolean) :: T0) ({ frames := 1, cells := 0, slots := 0, locals := 25 }) (va_Pc [.ref a0, .int x1] (s_W dC dI sz L F [(cs 0, .int), (cs 1, .byte), (cs 2, .long), (cs 3, .object RX5), (cs 4, .object RX4), (cs 5, .array .int), (cs 6, .char), (cs 7, .boolean)])) (va_Qi (fun (r : Int32) (G : Nat → va_E) => (0 ≤ r.toInt ∧ r.toInt ≤ 1) ∧ True ∧ y_I K cs A G ∧ (∀ b, K b ∉ ([] : List Nat) → G b = F b) ∧ (∀ k, k ∈ ([1, 2, 3, 4, 5, 6, 7, 8, 11, 15, 16, 19, 25, 26, 27, 31, 32] : List Nat) → y_fi G a0 k = y_fi F a0 k) ∧ (r.toInt = 0 ∨ ((y_fi F a0 15).toInt = 1 ∧ 0 ≤ x1.toInt ∧ x1.toInt < (y_c (y_at F (A 13)) 384).toInt))) (fun (G : Nat → va_E) (t : State) => va_P (dC, dI) vwCl (va_pl L G) t.heap ∧ va_K (dC, dI) vwCl [(cs 0, .int), (cs 1, .byte), (cs 2, .long), (cs 3, .object RX5), (cs 4, .object RX4), (cs 5, .array .int), (cs 6, .char), (cs 7, .boolean)] t) (fun q => q ∈ L)) 0 0 (fun q => q ∈ L) := by
  refine Met.ofW (cc := cX7_isWarp) (maxL := 2) (ret := (some .boolean)) (by decide) rfl ?_
  intro p e s m args below meth c s₁ B hml hv
  obtain ⟨rfl, hsz, hP, hK, hD, hN⟩ := hv
  have hx := B.exec
  have hb := B.bytes
  have hr := B.returns
  have hts : ∀ w ∈ T0, w.before _ s = true := fun w h => atoms_spec (ws := Cond.code yX7_isWarp cX7_isWarp 2 (some .boolean) :: T0) B.pre w (List.mem_cons_of_mem _ h)
  have hown : s.vm.findClass RX7 = some m.cls := findClass_of_methodNamed B.named
  have hlocks := B.notSynchronized
  have hS : va_S (fun q => q ∈ L) s.heap s.heap [] := va_S.rf
  have hfr : ∀ b, K b ∉ ([] : List Nat) → F b = F b := fun _ _ => rfl
  have hl := lv_entry ([.ref a0, .int x1]) (n := 2) (Nat.le_of_ble_eq_true rfl)
  rw [lg_entry_eq]
  generalize (lg_sl ([.ref a0, .int x1]) ++ List.replicate (2 - (lg_sl ([.ref a0, .int x1])).length) Slot.unset).toArray = ls at hl ⊢
  have hl : lv_has ls 2 [(0, .ref a0), (1, .int x1)] := hl
  refine s_gen hP hS (fun H locs hP hS => ?_)
  obtain ⟨z0, q0, oY0, bz0, bq0⟩ := y_opY hI ha0
  have hz0 : ∀ k, k ∈ ([1, 2, 3, 4, 5, 6, 7, 8, 11, 15, 16, 19, 25, 26, 27, 31, 32] : List Nat) → z0 k = z0 k := fun _ _ => rfl
  obtain ⟨f1, o2, b3⟩ := y_op13 hI
  obtain ⟨f4, o5, b6⟩ := y_op20 hI
  obtain ⟨f7, o8, b9⟩ := y_op30 hI
  obtain ⟨v10, ev10⟩ : ∃ y : Int32, y = z0 15 := ⟨_, rfl⟩
  have qv10 : 0 ≤ v10.toInt ∧ v10.toInt ≤ 1 := by rw [ev10]; exact y_bY15 bz0
  have eF_15 := ev10
  obtain ⟨v11, ev11⟩ : ∃ y : Int32, y = z0 31 := ⟨_, rfl⟩
  have qv11 : 0 ≤ v11.toInt ∧ v11.toInt ≤ 20 := by rw [ev11]; exact y_bY31 bz0
  have eF_31 := ev11
  obtain ⟨v12, ev12⟩ : ∃ y : Int32, y = z0 32 := ⟨_, rfl⟩
  have qv12 : 0 ≤ v12.toInt ∧ v12.toInt ≤ 19 := by rw [ev12]; exact y_bY32 bz0
  have eF_32 := ev12
  replace hT : y_T v10 f1 f4 f7 v11 v12 := by have q9 := hT; rw [y_fiZ oY0 (k := 15) (by decide), ← ev10, y_atE o2, y_atE o5, y_atE o8, y_fiZ oY0 (k := 31) (by decide), ← ev11, y_fiZ oY0 (k := 32) (by decide), ← ev12] at q9; exact q9
  have e0_v10 := ev10
  have e0_v11 := ev11
  have e0_v12 := ev12
  refine lv_aload_n hx hb dX7_isWarp_0 rfl (lv_at hl 0 rfl) ?_
  refine th_get (D := (dC, dI)) (ci := 7) (v := .int (z0 15)) (C := RX7) (T := TX7) (N := 34) hx hb hts inX7 hown hK hP (hLK _ ha0 (by decide)) oY0 rfl 15 (by decide) (hts _ T_271) (fun _ h9 => h9) rfl dX7_isWarp_1 ?_
  refine ax_eqi (y := v10) ev10.symm ?_
  refine lv_if_eq (tgt := 27) hx hb dX7_isWarp_4 (by decide) (fun c13 => ?_) (fun c13 => ?_)
  · have c13 := (ax_eq (n := 0) (by decide)).mp c13
    refine lv_iconst (v := 0) hx hb dX7_isWarp_27 (by decide) ?_
    have h14 : (0 : Int32).toInt = 0 := by decide
    exact W.zret (v := 0) (ty := .boolean) hx hb hr (by decide) (fun t ht hW => ⟨⟨0, F, rfl, ⟨(by decide), trivial, hI, hfr, fun k hk => (y_fiZ oY0 (s_sub (by decide) hk)).trans ((hz0 k hk).trans (y_fiZ oY0 (s_sub (by decide) hk)).symm), (by first | (rw [y_fiZ oY0 (k := 15) (by decide), ← eF_15, y_atE o2]; omega) | rw [y_fiZ oY0 (k := 15) (by decide), ← eF_15, y_atE o2])⟩, by rw [ht]; exact hP, va_K.moved hW.alike hK⟩, hS.F ht⟩) hS.2.2 dX7_isWarp_28
  · have c13 := mt (ax_eq (n := 0) (by decide)).mpr c13
    obtain ⟨htd, hPG, hNG, hUG⟩ := y_TT hT (by omega)
    have hL := y_P0L hPG.1
    have hW := y_P0W hPG.1
    have hnn := And.intro hNG.1 (And.intro hNG.2.1 (And.intro hNG.2.2.1 hNG.2.2.2.1))
    refine lv_iload_n hx hb dX7_isWarp_7 rfl (lv_at hl 1 rfl) ?_
    refine lv_i2l hx hb dX7_isWarp_8 rfl ?_
    refine lv_topl (fun v15 ev15 => ?_)
    have qv15 : v15.toInt = x1.toInt := y_i2l ev15
    refine lv_lconst (v := 0) hx hb dX7_isWarp_9 (by decide) ?_
    refine lv_aload_n hx hb dX7_isWarp_10 rfl (lv_at hl 0 rfl) ?_
    refine va_calli (va_runV (As := []) (rest := [.long 0, .long v15]) ⟨hx, hb, hml, hown, hts⟩ (y_X7_warps l dC dI H.size hLK A hA F a0 ha0 hI) (cwV 0 hts (ax_gV T_993 T_995 T_996 T_265 T_994) rfl rfl rfl (by decide +kernel) ⟨Nat.le_of_ble_eq_true rfl, Nat.le_of_ble_eq_true rfl⟩) ⟨fun a U g mk q => ⟨q.1, s_pc (U := U) rfl rfl q.2⟩, s_recv hK hP (hLK _ ha0 (by decide)) (ci := 7) rfl oY0, fun U hU hW => ⟨rfl, s_pw hU hW hP hK hD hN⟩⟩ rfl rfl hl.1 rfl (lv_room (Nat.le_of_ble_eq_true rfl)) dX7_isWarp_11 ⟨Nat.zero_le _, Nat.zero_le _⟩) hS (fun q _ h => h) (fun q h => h) (fun r17 F18 t H1 locs ht hvm hw hB hz1 hk1 hS => ?_)
    obtain ⟨hP, hK1⟩ := hB
    rw [ht] at hP
    generalize H1 = H at hP hS ⊢
    clear hz1 hk1 hvm hK1
    obtain ⟨h19, h21, hI, hfr1, hzf, h20⟩ := hw
    have o22 : F18 (A 13) = .inl (cs 0, 400, .inl f1) := (hfr1 _ (by rw [(y_k13 hA)]; decide)).trans o2
    have o23 : F18 (A 20) = .inl (cs 0, 918, .inl f4) := (hfr1 _ (by rw [(y_k20 hA)]; decide)).trans o5
    have o24 : F18 (A 30) = .inl (cs 0, 18360, .inl f7) := (hfr1 _ (by rw [(y_k30 hA)]; decide)).trans o8
    have oY25 : F18 a0 = .inr (7, y_fl A z0 q0) := (hfr1 _ (by rw [ha0]; decide)).trans oY0
    have hfr : ∀ b, K b ∉ ([] : List Nat) → F18 b = F b := fun b hb9 => (hfr1 b (fun q => hb9 (s_sub (by decide) q))).trans (hfr b hb9)
    replace h20 : (r17 = y_c f1 384) := by have q9 := h20; rw [y_atE o2] at q9; exact q9
    have h26 := congrArg Int32.toInt h20
    have h27 : 1 ≤ r17.toInt ∧ r17.toInt ≤ 4 := ⟨by omega, by omega⟩
    refine lv_iconst (v := 1) hx hb dX7_isWarp_14 (by decide) ?_
    refine lv_isub hx hb dX7_isWarp_15 ?_
    refine lv_topi (fun v28 ev28 => ?_)
    have qv28 : v28.toInt = r17.toInt - 1 := by rw [ev28]; exact th_sub rfl (by decide) ⟨by omega, by omega⟩
    refine lv_i2l hx hb dX7_isWarp_16 rfl ?_
    refine lv_topl (fun v29 ev29 => ?_)
    have qv29 : v29.toInt = v28.toInt := y_i2l ev29
    refine va_calli (va_runS (As := [.long v15, .long 0, .long v29]) (rest := []) ⟨hx, hb, hml, hown, hts⟩ (y_X7_isIn l dC dI H.size F18 v15 0 v29) (cwS 3 hts (ax_gS T_267 T_268 T_265 T_21) rfl rfl rfl (by decide +kernel) ⟨Nat.le_of_ble_eq_true rfl, Nat.le_of_ble_eq_true rfl⟩) ⟨fun a U g mk q => ⟨q.1, s_pc (U := U) rfl rfl q.2⟩, fun U hU hW => ⟨rfl, s_pw hU hW hP hK hD hN⟩⟩ rfl rfl hl.1 rfl (lv_room (Nat.le_of_ble_eq_true rfl)) dX7_isWarp_17 ⟨Nat.zero_le _, Nat.zero_le _⟩) hS (fun q _ h => h) (fun q h => h) (fun r31 F32 t H1 locs ht hvm hw hB hz1 hk1 hS => ?_)
    obtain ⟨hP, hK1⟩ := hB
    rw [ht] at hP
    generalize H1 = H at hP hS ⊢
    clear hz1 hk1 hvm hK1
    obtain ⟨h33, h35, hG9, h34⟩ := hw
    rw [hG9] at hP
    replace h34 : ((r31.toInt = 0 ∧ (v15.toInt < 0 ∨ v29.toInt < v15.toInt)) ∨ (r31.toInt = 1 ∧ 0 ≤ v15.toInt ∧ v15.toInt ≤ v29.toInt)) := by have q9 := h34; exact q9
    refine lv_if_eq (tgt := 27) hx hb dX7_isWarp_20 (by decide) (fun c36 => ?_) (fun c36 => ?_)
    · have c36 := (ax_eq (n := 0) (by decide)).mp c36
      refine lv_iconst (v := 0) hx hb dX7_isWarp_27 (by decide) ?_
      have h37 : (0 : Int32).toInt = 0 := by decide
      exact W.zret (v := 0) (ty := .boolean) hx hb hr (by decide) (fun t ht hW => ⟨⟨0, F18, rfl, ⟨(by decide), trivial, hI, hfr, fun k hk => (y_fiZ oY25 (s_sub (by decide) hk)).trans ((hz0 k hk).trans (y_fiZ oY0 (s_sub (by decide) hk)).symm), (by first | (rw [y_fiZ oY0 (k := 15) (by decide), ← eF_15, y_atE o2]; omega) | rw [y_fiZ oY0 (k := 15) (by decide), ← eF_15, y_atE o2])⟩, by rw [ht]; exact hP, va_K.moved hW.alike hK⟩, hS.F ht⟩) hS.2.2 dX7_isWarp_28
    · have c36 := mt (ax_eq (n := 0) (by decide)).mpr c36
      refine lv_iconst (v := 1) hx hb dX7_isWarp_23 (by decide) ?_
      refine lv_goto (tgt := 28) hx hb dX7_isWarp_24 (by decide) ?_
      have h38 : (1 : Int32).toInt = 1 := by decide
      exact W.zret (v := 1) (ty := .boolean) hx hb hr (by decide) (fun t ht hW => ⟨⟨1, F18, rfl, ⟨(by decide), trivial, hI, hfr, fun k hk => (y_fiZ oY25 (s_sub (by decide) hk)).trans ((hz0 k hk).trans (y_fiZ oY0 (s_sub (by decide) hk)).symm), (by first | (rw [y_fiZ oY0 (k := 15) (by decide), ← eF_15, y_atE o2]; omega) | rw [y_fiZ oY0 (k := 15) (by decide), ← eF_15, y_atE o2])⟩, by rw [ht]; exact hP, va_K.moved hW.alike hK⟩, hS.F ht⟩) hS.2.2 dX7_isWarp_28
