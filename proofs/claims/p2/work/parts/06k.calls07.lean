set_option maxHeartbeats 4000000 in
set_option maxRecDepth 100000 in
theorem y_X7_later (l : Launch) (dC : Nat → ClassId) (dI : Nat → Nat → Nat) (sz : Nat) {L : List Nat} {K : Nat → Nat} {cs : Nat → ClassId} (hLK : ∀ a {k : Nat}, K a = k → k ≠ 0 → a ∈ L) (A : Nat → Nat) (hA : y_A K A) (F : Nat → va_E) (a0 : Nat) (x1 : Int32) (x2 : Int32) (x3 : Int32) (x4 : Int32) (ha0 : K a0 = 9) (hI : y_I K cs A F) (hT : y_T (y_fi F a0 15) (y_at F (A 13)) (y_at F (A 20)) (y_at F (A 30)) (y_fi F a0 31) (y_fi F a0 32)) : Met l yX7_later (Cond.code yX7_later cX7_later 6 (some .int) :: T0) ({ frames := 8, cells := 0, slots := 0, locals := 188 }) (va_Pc [.ref a0, .int x1, .int x2, .int x3, .int x4] (s_W dC dI sz L F [(cs 0, .int), (cs 1, .byte), (cs 2, .long), (cs 3, .object RX5), (cs 4, .object RX4), (cs 5, .array .int), (cs 6, .char), (cs 7, .boolean)])) (va_Qi (fun (r : Int32) (G : Nat → va_E) => True ∧ True ∧ y_I K cs A G ∧ (∀ b, K b ∉ [70, 71, 72, 73] → G b = F b) ∧ (∀ k, k ∈ ([1, 2, 3, 4, 5, 6, 7, 8, 11, 15, 16, 19, 25, 26, 27, 31, 32] : List Nat) → y_fi G a0 k = y_fi F a0 k) ∧ (y_T (y_fi G a0 15) (y_at G (A 13)) (y_at G (A 20)) (y_at G (A 30)) (y_fi G a0 31) (y_fi G a0 32))) (fun (G : Nat → va_E) (t : State) => va_P (dC, dI) vwCl (va_pl L G) t.heap ∧ va_K (dC, dI) vwCl [(cs 0, .int), (cs 1, .byte), (cs 2, .long), (cs 3, .object RX5), (cs 4, .object RX4), (cs 5, .array .int), (cs 6, .char), (cs 7, .boolean)] t) (fun q => q ∈ L)) 0 0 (fun q => q ∈ L) := by
  refine Met.ofW (cc := cX7_later) (maxL := 6) (ret := (some .int)) (by decide) rfl ?_
  intro p e s m args below meth c s₁ B hml hv
  obtain ⟨rfl, hsz, hP, hK, hD, hN⟩ := hv
  have hx := B.exec
  have hb := B.bytes
  have hr := B.returns
  have hts : ∀ w ∈ T0, w.before _ s = true := fun w h => atoms_spec (ws := Cond.code yX7_later cX7_later 6 (some .int) :: T0) B.pre w (List.mem_cons_of_mem _ h)
  have hown : s.vm.findClass RX7 = some m.cls := findClass_of_methodNamed B.named
  have hlocks := B.notSynchronized
  have hS : va_S (fun q => q ∈ L) s.heap s.heap [] := va_S.rf
  have hfr : ∀ b, K b ∉ [70, 71, 72, 73] → F b = F b := fun _ _ => rfl
  have hl := lv_entry ([.ref a0, .int x1, .int x2, .int x3, .int x4]) (n := 6) (Nat.le_of_ble_eq_true rfl)
  rw [lg_entry_eq]
  generalize (lg_sl ([.ref a0, .int x1, .int x2, .int x3, .int x4]) ++ List.replicate (6 - (lg_sl ([.ref a0, .int x1, .int x2, .int x3, .int x4])).length) Slot.unset).toArray = ls at hl ⊢
  have hl : lv_has ls 6 [(0, .ref a0), (1, .int x1), (2, .int x2), (3, .int x3), (4, .int x4)] := hl
  refine s_gen hP hS (fun H locs hP hS => ?_)
  obtain ⟨z0, q0, oY0, bz0, bq0⟩ := y_opY hI ha0
  have hz0 : ∀ k, k ∈ ([1, 2, 3, 4, 5, 6, 7, 8, 11, 15, 16, 19, 25, 26, 27, 31, 32] : List Nat) → z0 k = z0 k := fun _ _ => rfl
  obtain ⟨f1, o2, b3⟩ := y_op13 hI
  obtain ⟨f4, o5, b6⟩ := y_op20 hI
  obtain ⟨f7, o8, b9⟩ := y_op30 hI
  obtain ⟨v10, ev10⟩ : ∃ y : Int32, y = z0 15 := ⟨_, rfl⟩
  have qv10 : 0 ≤ v10.toInt ∧ v10.toInt ≤ 1 := by rw [ev10]; exact y_bY15 bz0
  have eF_15 := ev10
  obtain ⟨v11, ev11⟩ : ∃ y : Int32, y = z0 31 := ⟨_, rfl⟩
  have qv11 : 0 ≤ v11.toInt ∧ v11.toInt ≤ 20 := by rw [ev11]; exact y_bY31 bz0
  have eF_31 := ev11
  obtain ⟨v12, ev12⟩ : ∃ y : Int32, y = z0 32 := ⟨_, rfl⟩
  have qv12 : 0 ≤ v12.toInt ∧ v12.toInt ≤ 19 := by rw [ev12]; exact y_bY32 bz0
  have eF_32 := ev12
  replace hT : y_T v10 f1 f4 f7 v11 v12 := by have q9 := hT; rw [y_fiZ oY0 (k := 15) (by decide), ← ev10, y_atE o2, y_atE o5, y_atE o8, y_fiZ oY0 (k := 31) (by decide), ← ev11, y_fiZ oY0 (k := 32) (by decide), ← ev12] at q9; exact q9
  have e0_v10 := ev10
  have e0_v11 := ev11
  have e0_v12 := ev12
  refine lv_aload_n hx hb dX7_later_0 rfl (lv_at hl 0 rfl) ?_
  refine lv_iload_n hx hb dX7_later_1 rfl (lv_at hl 2 rfl) ?_
  refine lv_iload_n hx hb dX7_later_2 rfl (lv_at hl 3 rfl) ?_
  have ep13_15 := ev10
  refine va_calli (va_runV (As := [.int x2, .int x3]) (rest := []) ⟨hx, hb, hml, hown, hts⟩ (y_X7_isLane l dC dI H.size hLK A hA F a0 x2 x3 ha0 hI (by rw [y_fiZ oY0 (k := 15) (by decide), ← ev10, y_atE o2, y_atE o5, y_atE o8, y_fiZ oY0 (k := 31) (by decide), ← ev11, y_fiZ oY0 (k := 32) (by decide), ← ev12]; exact hT)) (cwV 2 hts (ax_gV T_317 T_318 T_319 T_265 T_35) rfl rfl rfl (by decide +kernel) ⟨Nat.le_of_ble_eq_true rfl, Nat.le_of_ble_eq_true rfl⟩) ⟨fun a U g mk q => ⟨q.1, s_pc (U := U) rfl rfl q.2⟩, s_recv hK hP (hLK _ ha0 (by decide)) (ci := 7) rfl oY0, fun U hU hW => ⟨rfl, s_pw hU hW hP hK hD hN⟩⟩ rfl rfl hl.1 rfl (lv_room (Nat.le_of_ble_eq_true rfl)) dX7_later_3 ⟨Nat.zero_le _, Nat.zero_le _⟩) hS (fun q _ h => h) (fun q h => h) (fun r14 F15 t H1 locs ht hvm hw hB hz1 hk1 hS => ?_)
  obtain ⟨hP, hK1⟩ := hB
  rw [ht] at hP
  generalize H1 = H at hP hS ⊢
  clear hz1 hk1 hvm hK1
  obtain ⟨h16, h18, hI, hfr1, hzf, h17⟩ := hw
  have o19 : F15 (A 13) = .inl (cs 0, 400, .inl f1) := (hfr1 _ (by rw [(y_k13 hA)]; decide)).trans o2
  have o20 : F15 (A 20) = .inl (cs 0, 918, .inl f4) := (hfr1 _ (by rw [(y_k20 hA)]; decide)).trans o5
  have o21 : F15 (A 30) = .inl (cs 0, 18360, .inl f7) := (hfr1 _ (by rw [(y_k30 hA)]; decide)).trans o8
  have oY22 : F15 a0 = .inr (7, y_fl A z0 q0) := (hfr1 _ (by rw [ha0]; decide)).trans oY0
  have hfr : ∀ b, K b ∉ [70, 71, 72, 73] → F15 b = F b := fun b hb9 => (hfr1 b (fun q => hb9 (s_sub (by decide) q))).trans (hfr b hb9)
  replace h17 : (r14.toInt = 0 ∨ (v10.toInt = 1 ∧ (0 ≤ x2.toInt ∧ x2.toInt < (y_c f1 384).toInt) ∧ (0 ≤ x3.toInt ∧ x3.toInt ≤ 7))) := by have q9 := h17; rw [y_fiZ oY0 (k := 15) (by decide), ← ep13_15, y_atE o2] at q9; exact q9
  refine lv_if_eq (tgt := 34) hx hb dX7_later_6 (by decide) (fun c23 => ?_) (fun c23 => ?_)
  · have c23 := (ax_eq (n := 0) (by decide)).mp c23
    refine lv_ldc (v := (-1000000)) hx hb hown (hts _ T_316) dX7_later_34 ?_
    have h24 : ((-1000000) : Int32).toInt = (-1000000) := by decide
    exact W.iret (v := (-1000000)) hx hb hr (fun t ht hW => ⟨⟨(-1000000), F15, rfl, ⟨trivial, trivial, hI, hfr, fun k hk => (y_fiZ oY22 (s_sub (by decide) hk)).trans ((hz0 k hk).trans (y_fiZ oY0 (s_sub (by decide) hk)).symm), (by rw [y_fiZ oY22 (k := 15) (by decide), ← ev10, y_atE o19, y_atE o20, y_atE o21, y_fiZ oY22 (k := 31) (by decide), ← ev11, y_fiZ oY22 (k := 32) (by decide), ← ev12]; exact hT)⟩, by rw [ht]; exact hP, va_K.moved hW.alike hK⟩, hS.F ht⟩) hS.2.2 dX7_later_36
  · have c23 := mt (ax_eq (n := 0) (by decide)).mpr c23
    have hln9 := h17.resolve_left c23
    obtain ⟨htd, hPG, hNG, hUG⟩ := y_TT hT (by omega)
    have hL := y_P0L hPG.1
    have hW := y_P0W hPG.1
    have hnn := And.intro hNG.1 (And.intro hNG.2.1 (And.intro hNG.2.2.1 hNG.2.2.2.1))
    refine lv_iload hx hb dX7_later_9 (lv_at hl 4 rfl) ?_
    refine lv_i2l hx hb dX7_later_11 rfl ?_
    refine lv_topl (fun v25 ev25 => ?_)
    have qv25 : v25.toInt = x4.toInt := y_i2l ev25
    refine lv_lconst (v := 0) hx hb dX7_later_12 (by decide) ?_
    refine lv_ldc2 hx hb hown (hts _ T_1238) dX7_later_13 ?_
    refine va_calli (va_runS (As := [.long v25, .long 0, .long 3]) (rest := []) ⟨hx, hb, hml, hown, hts⟩ (y_X7_isIn l dC dI H.size F15 v25 0 3) (cwS 3 hts (ax_gS T_267 T_268 T_265 T_21) rfl rfl rfl (by decide +kernel) ⟨Nat.le_of_ble_eq_true rfl, Nat.le_of_ble_eq_true rfl⟩) ⟨fun a U g mk q => ⟨q.1, s_pc (U := U) rfl rfl q.2⟩, fun U hU hW => ⟨rfl, s_pw hU hW hP hK hD hN⟩⟩ rfl rfl hl.1 rfl (lv_room (Nat.le_of_ble_eq_true rfl)) dX7_later_16 ⟨Nat.zero_le _, Nat.zero_le _⟩) hS (fun q _ h => h) (fun q h => h) (fun r27 F28 t H1 locs ht hvm hw hB hz1 hk1 hS => ?_)
    obtain ⟨hP, hK1⟩ := hB
    rw [ht] at hP
    generalize H1 = H at hP hS ⊢
    clear hz1 hk1 hvm hK1
    obtain ⟨h29, h31, hG9, h30⟩ := hw
    rw [hG9] at hP
    replace h30 : ((r27.toInt = 0 ∧ (v25.toInt < 0 ∨ 3 < v25.toInt)) ∨ (r27.toInt = 1 ∧ 0 ≤ v25.toInt ∧ v25.toInt ≤ 3)) := by have q9 := h30; exact q9
    refine lv_if_eq (tgt := 34) hx hb dX7_later_19 (by decide) (fun c32 => ?_) (fun c32 => ?_)
    · have c32 := (ax_eq (n := 0) (by decide)).mp c32
      refine lv_ldc (v := (-1000000)) hx hb hown (hts _ T_316) dX7_later_34 ?_
      have h33 : ((-1000000) : Int32).toInt = (-1000000) := by decide
      exact W.iret (v := (-1000000)) hx hb hr (fun t ht hW => ⟨⟨(-1000000), F15, rfl, ⟨trivial, trivial, hI, hfr, fun k hk => (y_fiZ oY22 (s_sub (by decide) hk)).trans ((hz0 k hk).trans (y_fiZ oY0 (s_sub (by decide) hk)).symm), (by rw [y_fiZ oY22 (k := 15) (by decide), ← ev10, y_atE o19, y_atE o20, y_atE o21, y_fiZ oY22 (k := 31) (by decide), ← ev11, y_fiZ oY22 (k := 32) (by decide), ← ev12]; exact hT)⟩, by rw [ht]; exact hP, va_K.moved hW.alike hK⟩, hS.F ht⟩) hS.2.2 dX7_later_36
    · have c32 := mt (ax_eq (n := 0) (by decide)).mpr c32
      refine lv_iload_n hx hb dX7_later_22 rfl (lv_at hl 1 rfl) ?_
      refine lv_i2l hx hb dX7_later_23 rfl ?_
      refine lv_topl (fun v34 ev34 => ?_)
      have qv34 : v34.toInt = x1.toInt := y_i2l ev34
      refine lv_lconst (v := 0) hx hb dX7_later_24 (by decide) ?_
      refine lv_ldc2 hx hb hown (hts _ T_1094) dX7_later_25 ?_
      refine va_calli (va_runS (As := [.long v34, .long 0, .long 400]) (rest := []) ⟨hx, hb, hml, hown, hts⟩ (y_X7_isIn l dC dI H.size F15 v34 0 400) (cwS 3 hts (ax_gS T_267 T_268 T_265 T_21) rfl rfl rfl (by decide +kernel) ⟨Nat.le_of_ble_eq_true rfl, Nat.le_of_ble_eq_true rfl⟩) ⟨fun a U g mk q => ⟨q.1, s_pc (U := U) rfl rfl q.2⟩, fun U hU hW => ⟨rfl, s_pw hU hW hP hK hD hN⟩⟩ rfl rfl hl.1 rfl (lv_room (Nat.le_of_ble_eq_true rfl)) dX7_later_28 ⟨Nat.zero_le _, Nat.zero_le _⟩) hS (fun q _ h => h) (fun q h => h) (fun r36 F37 t H1 locs ht hvm hw hB hz1 hk1 hS => ?_)
      obtain ⟨hP, hK1⟩ := hB
      rw [ht] at hP
      generalize H1 = H at hP hS ⊢
      clear hz1 hk1 hvm hK1
      obtain ⟨h38, h40, hG9, h39⟩ := hw
      rw [hG9] at hP
      replace h39 : ((r36.toInt = 0 ∧ (v34.toInt < 0 ∨ 400 < v34.toInt)) ∨ (r36.toInt = 1 ∧ 0 ≤ v34.toInt ∧ v34.toInt ≤ 400)) := by have q9 := h39; exact q9
      refine lv_if_ne (tgt := 37) hx hb dX7_later_31 (by decide) (fun c41 => ?_) (fun c41 => ?_)
      · have c41 := mt (ax_eq (n := 0) (by decide)).mpr c41
        refine lv_aload_n hx hb dX7_later_37 rfl (lv_at hl 0 rfl) ?_
        refine va_callv (va_runV (As := []) (rest := []) ⟨hx, hb, hml, hown, hts⟩ (y_X7_putsAside l dC dI H.size hLK A hA F15 a0 ha0 hI) (cwV 0 hts (ax_gV T_1041 T_1043 T_1044 T_265 T_1042) rfl rfl rfl (by decide +kernel) ⟨Nat.le_of_ble_eq_true rfl, Nat.le_of_ble_eq_true rfl⟩) ⟨fun a U g mk q => ⟨q.1, s_pc (U := U) rfl rfl q.2⟩, s_recv hK hP (hLK _ ha0 (by decide)) (ci := 7) rfl oY22, fun U hU hW => ⟨rfl, s_pw hU hW hP hK hD hN⟩⟩ rfl rfl hl.1 rfl (lv_room (Nat.le_of_ble_eq_true rfl)) dX7_later_38 ⟨Nat.zero_le _, Nat.zero_le _⟩) hS (fun q _ h => h) (fun q h => h) (fun F43 t H1 locs ht hvm hw hB hz1 hk1 hS => ?_)
        obtain ⟨hP, hK1⟩ := hB
        rw [ht] at hP
        generalize H1 = H at hP hS ⊢
        clear hz1 hk1 hvm hK1
        obtain ⟨h44, h46, hI, hfr1, hzf, h45⟩ := hw
        have o47 : F43 (A 13) = .inl (cs 0, 400, .inl f1) := (hfr1 _ (by rw [(y_k13 hA)]; decide)).trans o19
        have o48 : F43 (A 20) = .inl (cs 0, 918, .inl f4) := (hfr1 _ (by rw [(y_k20 hA)]; decide)).trans o20
        have o49 : F43 (A 30) = .inl (cs 0, 18360, .inl f7) := (hfr1 _ (by rw [(y_k30 hA)]; decide)).trans o21
        have oY50 : F43 a0 = .inr (7, y_fl A z0 q0) := (hfr1 _ (by rw [ha0]; decide)).trans oY22
        have hfr : ∀ b, K b ∉ [70, 71, 72, 73] → F43 b = F b := fun b hb9 => (hfr1 b (fun q => hb9 (s_sub (by decide) q))).trans (hfr b hb9)
        obtain ⟨f51, o52, b53⟩ := y_op23 hI
        replace h45 : (y_CP f4 f51) := by have q9 := h45; rw [y_atE o20, y_atE o52] at q9; exact q9
        refine lv_iconst (v := 0) hx hb dX7_later_41 (by decide) ?_
        refine lv_istore (lv' := [(5, .int 0), (0, .ref a0), (1, .int x1), (2, .int x2), (3, .int x3), (4, .int x4)]) hx hb dX7_later_42 hl (by decide) rfl (fun ls hl => ?_)
        have h55 : (0 : Int32).toInt = 0 := by decide
        refine th_loop (fun n g H locs => ∃ (G : Nat → va_E) (ls : Array Slot) (w54 : Int32), g = F0 m 44 ls [] ∧ lv_has ls 6 [(0, .ref a0), (1, .int x1), (2, .int x2), (3, .int x3), (4, .int x4), (5, .int w54)] ∧ va_P (dC, dI) vwCl (va_pl L G) H ∧ va_S (fun q => q ∈ L) s.heap H locs ∧ y_I K cs A G ∧ (∀ b, K b ∉ [70, 71, 72, 73] → G b = F b) ∧ (∀ k, k ∈ ([1, 2, 3, 4, 5, 6, 7, 8, 11, 15, 16, 19, 25, 26, 27, 31, 32] : List Nat) → y_fi G a0 k = z0 k) ∧ (0 ≤ w54.toInt ∧ w54.toInt ≤ 400) ∧ (y_NG f1 (y_at G (A 20))) ∧ (y_CP f4 (y_at G (A 23))) ∧ n = (401 - w54.toInt).toNat) _ ⟨F43, _, 0, rfl, lv_sub hl [1, 2, 3, 4, 5, 0] rfl, hP, hS, hI, hfr, (fun k hk => (y_fiZ oY50 (s_sub (by decide) hk)).trans (hz0 k hk)), (by decide), (by rw [y_atE o48]; exact hNG), (by rw [y_atE o52]; exact h45), rfl⟩ (fun n ih44 g H locs hq => ?_)
        obtain ⟨F59, ls, w54, rfl, hl, hP, hS, hI, hfr, hz0, h56, h57, h58, hn⟩ := hq
        have o60 : F59 (A 13) = .inl (cs 0, 400, .inl f1) := (hfr _ (by rw [(y_k13 hA)]; decide)).trans o2
        have o61 : F59 (A 30) = .inl (cs 0, 18360, .inl f7) := (hfr _ (by rw [(y_k30 hA)]; decide)).trans o8
        have oY62 : F59 a0 = .inr (7, y_fl A z0 q0) := (hfr _ (by rw [ha0]; decide)).trans oY0
        have hz0 : ∀ k, k ∈ ([1, 2, 3, 4, 5, 6, 7, 8, 11, 15, 16, 19, 25, 26, 27, 31, 32] : List Nat) → z0 k = z0 k := fun _ _ => rfl
        obtain ⟨f63, o64, b65⟩ := y_op20 hI
        replace h57 : (y_NG f1 f63) := by have q9 := h57; rw [y_atE o64] at q9; exact q9
        obtain ⟨f66, o67, b68⟩ := y_op23 hI
        replace h58 : (y_CP f4 f66) := by have q9 := h58; rw [y_atE o67] at q9; exact q9
        have hn_68 := hn
        refine lv_iload hx hb dX7_later_44 (lv_at hl 5 rfl) ?_
        refine lv_iload_n hx hb dX7_later_46 rfl (lv_at hl 1 rfl) ?_
        have h69 : 0 ≤ x1.toInt ∧ x1.toInt ≤ 400 := ⟨by omega, by omega⟩
        refine lv_icmp_ge (tgt := 60) hx hb dX7_later_47 (by decide) (fun c70 => ?_) (fun c70 => ?_)
        · have c70 := Int32.le_iff_toInt_le.mp c70
          refine lv_aload_n hx hb dX7_later_60 rfl (lv_at hl 0 rfl) ?_
          refine th_get (D := (dC, dI)) (ci := 7) (v := .ref (A 20)) (C := RX7) (T := TX7) (N := 34) hx hb hts inX7 hown hK hP (hLK _ ha0 (by decide)) oY62 rfl 20 (by decide) (hts _ T_251) (fun _ h9 => h9) rfl dX7_later_61 ?_
          refine lv_iload_n hx hb dX7_later_64 rfl (lv_at hl 2 rfl) ?_
          refine lv_iload_n hx hb dX7_later_65 rfl (lv_at hl 3 rfl) ?_
          refine lv_iload hx hb dX7_later_66 (lv_at hl 4 rfl) ?_
          have rg71 : 0 ≤ x2.toInt ∧ x2.toInt ≤ 3 := ⟨by omega, by omega⟩
          have rg72 : 0 ≤ x3.toInt ∧ x3.toInt ≤ 7 := ⟨by omega, by omega⟩
          have rg73 : 0 ≤ x4.toInt ∧ x4.toInt ≤ 3 := ⟨by omega, by omega⟩
          refine va_calli (va_runS (As := [.int x2, .int x3, .int x4]) (rest := [.ref (A 20)]) ⟨hx, hb, hml, hown, hts⟩ (y_X7_registerAt l dC dI H.size F59 x2 x3 x4 rg71 rg72 rg73) (cwS 3 hts (ax_gS T_1095 T_1097 T_265 T_1096) rfl rfl rfl (by decide +kernel) ⟨Nat.le_of_ble_eq_true rfl, Nat.le_of_ble_eq_true rfl⟩) ⟨fun a U g mk q => ⟨q.1, s_pc (U := U) rfl rfl q.2⟩, fun U hU hW => ⟨rfl, s_pw hU hW hP hK hD hN⟩⟩ rfl rfl hl.1 rfl (lv_room (Nat.le_of_ble_eq_true rfl)) dX7_later_68 ⟨Nat.zero_le _, Nat.zero_le _⟩) hS (fun q _ h => h) (fun q h => h) (fun r75 F76 t H1 locs ht hvm hw hB hz1 hk1 hS => ?_)
          obtain ⟨hP, hK1⟩ := hB
          rw [ht] at hP
          generalize H1 = H at hP hS ⊢
          clear hz1 hk1 hvm hK1
          obtain ⟨h77, h79, hG9, h78⟩ := hw
          rw [hG9] at hP
          replace h78 : (r75.toInt = 128 + 32 * x2.toInt + 4 * x3.toInt + x4.toInt) := by have q9 := h78; exact q9
          refine th_iald hx hb hK hP (hLK _ (y_k20 hA) (by decide)) 0 o64 rfl (th_in ⟨by omega, by omega⟩) dX7_later_71 ?_
          refine lv_topi (fun v80 ev80 => ?_)
          refine lv_istore (lv' := [(5, .int v80), (0, .ref a0), (1, .int x1), (2, .int x2), (3, .int x3), (4, .int x4)]) hx hb dX7_later_72 hl (by decide) rfl (fun ls hl => ?_)
          refine lv_aload_n hx hb dX7_later_74 rfl (lv_at hl 1 rfl) ?_
          refine va_callv (va_runV (As := []) (rest := []) ⟨hx, hb, hml, hown, hts⟩ (y_X7_takesBack l dC dI H.size hLK A hA F59 a0 ha0 hI) (cwV 0 hts (ax_gV T_1049 T_1051 T_1052 T_265 T_1050) rfl rfl rfl (by decide +kernel) ⟨Nat.le_of_ble_eq_true rfl, Nat.le_of_ble_eq_true rfl⟩) ⟨fun a U g mk q => ⟨q.1, s_pc (U := U) rfl rfl q.2⟩, s_recv hK hP (hLK _ ha0 (by decide)) (ci := 7) rfl oY62, fun U hU hW => ⟨rfl, s_pw hU hW hP hK hD hN⟩⟩ rfl rfl hl.1 rfl (lv_room (Nat.le_of_ble_eq_true rfl)) dX7_later_75 ⟨Nat.zero_le _, Nat.zero_le _⟩) hS (fun q _ h => h) (fun q h => h) (fun F82 t H1 locs ht hvm hw hB hz1 hk1 hS => ?_)
          obtain ⟨hP, hK1⟩ := hB
          rw [ht] at hP
          generalize H1 = H at hP hS ⊢
          clear hz1 hk1 hvm hK1
          obtain ⟨h83, h85, hI, hfr1, hzf, h84⟩ := hw
          have o86 : F82 (A 13) = .inl (cs 0, 400, .inl f1) := (hfr1 _ (by rw [(y_k13 hA)]; decide)).trans o60
          have o87 : F82 (A 30) = .inl (cs 0, 18360, .inl f7) := (hfr1 _ (by rw [(y_k30 hA)]; decide)).trans o61
          have o88 : F82 (A 23) = .inl (cs 0, 918, .inl f66) := (hfr1 _ (by rw [(y_k23 hA)]; decide)).trans o67
          have oY89 : F82 a0 = .inr (7, y_fl A z0 q0) := (hfr1 _ (by rw [ha0]; decide)).trans oY62
          have hfr : ∀ b, K b ∉ [70, 71, 72, 73] → F82 b = F b := fun b hb9 => (hfr1 b (fun q => hb9 (s_sub (by decide) q))).trans (hfr b hb9)
          obtain ⟨f90, o91, b92⟩ := y_op20 hI
          replace h84 : (y_CP f66 f90) := by have q9 := h84; rw [y_atE o67, y_atE o91] at q9; exact q9
          refine lv_iload hx hb dX7_later_78 (lv_at hl 0 rfl) ?_
          exact W.iret (v := v80) hx hb hr (fun t ht hW => ⟨⟨v80, F82, rfl, ⟨trivial, trivial, hI, hfr, fun k hk => (y_fiZ oY89 (s_sub (by decide) hk)).trans ((hz0 k hk).trans (y_fiZ oY0 (s_sub (by decide) hk)).symm), (by rw [y_fiZ oY89 (k := 15) (by decide), ← ev10, y_atE o86, y_atE o91, y_atE o87, y_fiZ oY89 (k := 31) (by decide), ← ev11, y_fiZ oY89 (k := 32) (by decide), ← ev12]; exact (y_Tc (y_CP_t h58 h84) hT))⟩, by rw [ht]; exact hP, va_K.moved hW.alike hK⟩, hS.F ht⟩) hS.2.2 dX7_later_80
        · have c70 := mt Int32.le_iff_toInt_le.mpr c70
          refine lv_aload_n hx hb dX7_later_50 rfl (lv_at hl 0 rfl) ?_
          refine va_callv (va_runV (As := []) (rest := []) ⟨hx, hb, hml, hown, hts⟩ (y_X7_aCycle l dC dI H.size hLK A hA F59 a0 ha0 hI (by rw [y_atE o60]; exact hPG) (by rw [y_atE o60, y_atE o64]; exact h57)) (cwV 0 hts (ax_gV T_1070 T_1072 T_1073 T_265 T_1071) rfl rfl rfl (by decide +kernel) ⟨Nat.le_of_ble_eq_true rfl, Nat.le_of_ble_eq_true rfl⟩) ⟨fun a U g mk q => ⟨q.1, s_pc (U := U) rfl rfl q.2⟩, s_recv hK hP (hLK _ ha0 (by decide)) (ci := 7) rfl oY62, fun U hU hW => ⟨rfl, s_pw hU hW hP hK hD hN⟩⟩ rfl rfl hl.1 rfl (lv_room (Nat.le_of_ble_eq_true rfl)) dX7_later_51 ⟨Nat.zero_le _, Nat.zero_le _⟩) hS (fun q _ h => h) (fun q h => h) (fun F94 t H1 locs ht hvm hw hB hz1 hk1 hS => ?_)
          obtain ⟨hP, hK1⟩ := hB
          rw [ht] at hP
          generalize H1 = H at hP hS ⊢
          clear hz1 hk1 hvm hK1
          obtain ⟨h95, h97, hI, hfr1, hzf, h96⟩ := hw
          have o98 : F94 (A 13) = .inl (cs 0, 400, .inl f1) := (hfr1 _ (by rw [(y_k13 hA)]; decide)).trans o60
          have o99 : F94 (A 30) = .inl (cs 0, 18360, .inl f7) := (hfr1 _ (by rw [(y_k30 hA)]; decide)).trans o61
          have o100 : F94 (A 23) = .inl (cs 0, 918, .inl f66) := (hfr1 _ (by rw [(y_k23 hA)]; decide)).trans o67
          have oY101 : F94 a0 = .inr (7, y_fl A z0 q0) := (hfr1 _ (by rw [ha0]; decide)).trans oY62
          have hfr : ∀ b, K b ∉ [70, 71, 72, 73] → F94 b = F b := fun b hb9 => (hfr1 b (fun q => hb9 (s_sub (by decide) q))).trans (hfr b hb9)
          obtain ⟨f102, o103, b104⟩ := y_op20 hI
          replace h96 : (y_NG f1 f102 ∧ y_c f102 3 = y_c f63 3 ∧ y_c f102 4 = y_c f63 4) := by have q9 := h96; rw [y_atE o60, y_atE o103, y_atE o64] at q9; exact q9
          obtain ⟨v105, ev105⟩ : ∃ y : Int32, w54 + 1 = y := ⟨_, rfl⟩
          have qv105 : v105.toInt = w54.toInt + 1 := by rw [← ev105]; exact th_add rfl (by decide) ⟨by omega, by omega⟩
          refine lv_iinc (v := v105) (lv' := [(5, .int v105), (0, .ref a0), (1, .int x1), (2, .int x2), (3, .int x3), (4, .int x4)]) hx hb dX7_later_54 hl (k := 5) rfl ev105 (by decide) rfl (fun ls hl => ?_)
          refine lv_goto (tgt := 44) hx hb dX7_later_57 (by decide) ?_
          exact ih44 _ _ _ _ (by omega) ⟨F94, _, v105, rfl, lv_sub hl [1, 2, 3, 4, 5, 0] rfl, hP, hS, hI, hfr, (fun k hk => (y_fiZ oY101 (s_sub (by decide) hk)).trans (hz0 k hk)), ⟨by omega, by omega⟩, (by rw [y_atE o103]; exact h96.1), (by rw [y_atE o100]; exact h58), rfl⟩
      · have c41 := (ax_eq (n := 0) (by decide)).mp c41
        refine lv_ldc (v := (-1000000)) hx hb hown (hts _ T_316) dX7_later_34 ?_
        have h106 : ((-1000000) : Int32).toInt = (-1000000) := by decide
        exact W.iret (v := (-1000000)) hx hb hr (fun t ht hW => ⟨⟨(-1000000), F15, rfl, ⟨trivial, trivial, hI, hfr, fun k hk => (y_fiZ oY22 (s_sub (by decide) hk)).trans ((hz0 k hk).trans (y_fiZ oY0 (s_sub (by decide) hk)).symm), (by rw [y_fiZ oY22 (k := 15) (by decide), ← ev10, y_atE o19, y_atE o20, y_atE o21, y_fiZ oY22 (k := 31) (by decide), ← ev11, y_fiZ oY22 (k := 32) (by decide), ← ev12]; exact hT)⟩, by rw [ht]; exact hP, va_K.moved hW.alike hK⟩, hS.F ht⟩) hS.2.2 dX7_later_36

set_option maxHeartbeats 4000000 in
set_option maxRecDepth 100000 in
theorem y_X7_by (l : Launch) (dC : Nat → ClassId) (dI : Nat → Nat → Nat) (sz : Nat) {L : List Nat} {K : Nat → Nat} {cs : Nat → ClassId} (hLK : ∀ a {k : Nat}, K a = k → k ≠ 0 → a ∈ L) (A : Nat → Nat) (hA : y_A K A) (F : Nat → va_E) (a0 : Nat) (x1 : Int32) (x2 : Int32) (x3 : Int32) (ha0 : K a0 = 9) (hI : y_I K cs A F) (hT : y_T (y_fi F a0 15) (y_at F (A 13)) (y_at F (A 20)) (y_at F (A 30)) (y_fi F a0 31) (y_fi F a0 32)) : Met l yX7_by (Cond.code yX7_by cX7_by 4 (some .int) :: T0) ({ frames := 9, cells := 0, slots := 0, locals := 208 }) (va_Pc [.ref a0, .int x1, .int x2, .int x3] (s_W dC dI sz L F [(cs 0, .int), (cs 1, .byte), (cs 2, .long), (cs 3, .object RX5), (cs 4, .object RX4), (cs 5, .array .int), (cs 6, .char), (cs 7, .boolean)])) (va_Qi (fun (r : Int32) (G : Nat → va_E) => True ∧ True ∧ y_I K cs A G ∧ (∀ b, K b ∉ [9, 70, 71, 72, 73, 74] → G b = F b) ∧ (∀ k, k ∈ ([1, 2, 3, 4, 5, 6, 7, 8, 11, 15, 16, 19, 31, 32] : List Nat) → y_fi G a0 k = y_fi F a0 k) ∧ (y_T (y_fi G a0 15) (y_at G (A 13)) (y_at G (A 20)) (y_at G (A 30)) (y_fi G a0 31) (y_fi G a0 32))) (fun (G : Nat → va_E) (t : State) => va_P (dC, dI) vwCl (va_pl L G) t.heap ∧ va_K (dC, dI) vwCl [(cs 0, .int), (cs 1, .byte), (cs 2, .long), (cs 3, .object RX5), (cs 4, .object RX4), (cs 5, .array .int), (cs 6, .char), (cs 7, .boolean)] t) (fun q => q ∈ L)) 0 0 (fun q => q ∈ L) := by
  refine Met.ofW (cc := cX7_by) (maxL := 4) (ret := (some .int)) (by decide) rfl ?_
  intro p e s m args below meth c s₁ B hml hv
  obtain ⟨rfl, hsz, hP, hK, hD, hN⟩ := hv
  have hx := B.exec
  have hb := B.bytes
  have hr := B.returns
  have hts : ∀ w ∈ T0, w.before _ s = true := fun w h => atoms_spec (ws := Cond.code yX7_by cX7_by 4 (some .int) :: T0) B.pre w (List.mem_cons_of_mem _ h)
  have hown : s.vm.findClass RX7 = some m.cls := findClass_of_methodNamed B.named
  have hlocks := B.notSynchronized
  have hS : va_S (fun q => q ∈ L) s.heap s.heap [] := va_S.rf
  have hfr : ∀ b, K b ∉ [9, 70, 71, 72, 73, 74] → F b = F b := fun _ _ => rfl
  have hl := lv_entry ([.ref a0, .int x1, .int x2, .int x3]) (n := 4) (Nat.le_of_ble_eq_true rfl)
  rw [lg_entry_eq]
  generalize (lg_sl ([.ref a0, .int x1, .int x2, .int x3]) ++ List.replicate (4 - (lg_sl ([.ref a0, .int x1, .int x2, .int x3])).length) Slot.unset).toArray = ls at hl ⊢
  have hl : lv_has ls 4 [(0, .ref a0), (1, .int x1), (2, .int x2), (3, .int x3)] := hl
  refine s_gen hP hS (fun H locs hP hS => ?_)
  obtain ⟨z0, q0, oY0, bz0, bq0⟩ := y_opY hI ha0
  have hz0 : ∀ k, k ∈ ([1, 2, 3, 4, 5, 6, 7, 8, 11, 15, 16, 19, 31, 32] : List Nat) → z0 k = z0 k := fun _ _ => rfl
  obtain ⟨f1, o2, b3⟩ := y_op13 hI
  obtain ⟨f4, o5, b6⟩ := y_op20 hI
  obtain ⟨f7, o8, b9⟩ := y_op30 hI
  obtain ⟨v10, ev10⟩ : ∃ y : Int32, y = z0 15 := ⟨_, rfl⟩
  have qv10 : 0 ≤ v10.toInt ∧ v10.toInt ≤ 1 := by rw [ev10]; exact y_bY15 bz0
  have eF_15 := ev10
  obtain ⟨v11, ev11⟩ : ∃ y : Int32, y = z0 31 := ⟨_, rfl⟩
  have qv11 : 0 ≤ v11.toInt ∧ v11.toInt ≤ 20 := by rw [ev11]; exact y_bY31 bz0
  have eF_31 := ev11
  obtain ⟨v12, ev12⟩ : ∃ y : Int32, y = z0 32 := ⟨_, rfl⟩
  have qv12 : 0 ≤ v12.toInt ∧ v12.toInt ≤ 19 := by rw [ev12]; exact y_bY32 bz0
  have eF_32 := ev12
  replace hT : y_T v10 f1 f4 f7 v11 v12 := by have q9 := hT; rw [y_fiZ oY0 (k := 15) (by decide), ← ev10, y_atE o2, y_atE o5, y_atE o8, y_fiZ oY0 (k := 31) (by decide), ← ev11, y_fiZ oY0 (k := 32) (by decide), ← ev12] at q9; exact q9
  have e0_v10 := ev10
  have e0_v11 := ev11
  have e0_v12 := ev12
  refine lv_aload_n hx hb dX7_by_0 rfl (lv_at hl 0 rfl) ?_
  refine th_get (D := (dC, dI)) (ci := 7) (v := .int (z0 15)) (C := RX7) (T := TX7) (N := 34) hx hb hts inX7 hown hK hP (hLK _ ha0 (by decide)) oY0 rfl 15 (by decide) (hts _ T_271) (fun _ h9 => h9) rfl dX7_by_1 ?_
  refine ax_eqi (y := v10) ev10.symm ?_
  refine lv_if_eq (tgt := 39) hx hb dX7_by_4 (by decide) (fun c13 => ?_) (fun c13 => ?_)
  · have c13 := (ax_eq (n := 0) (by decide)).mp c13
    refine lv_iconst (v := (-1)) hx hb dX7_by_39 (by decide) ?_
    have h14 : ((-1) : Int32).toInt = (-1) := by decide
    exact W.iret (v := (-1)) hx hb hr (fun t ht hW => ⟨⟨(-1), F, rfl, ⟨trivial, trivial, hI, hfr, fun k hk => (y_fiZ oY0 (s_sub (by decide) hk)).trans ((hz0 k hk).trans (y_fiZ oY0 (s_sub (by decide) hk)).symm), (by rw [y_fiZ oY0 (k := 15) (by decide), ← ev10, y_atE o2, y_atE o5, y_atE o8, y_fiZ oY0 (k := 31) (by decide), ← ev11, y_fiZ oY0 (k := 32) (by decide), ← ev12]; exact hT)⟩, by rw [ht]; exact hP, va_K.moved hW.alike hK⟩, hS.F ht⟩) hS.2.2 dX7_by_40
  · have c13 := mt (ax_eq (n := 0) (by decide)).mpr c13
    obtain ⟨htd, hPG, hNG, hUG⟩ := y_TT hT (by omega)
    have hL := y_P0L hPG.1
    have hW := y_P0W hPG.1
    have hnn := And.intro hNG.1 (And.intro hNG.2.1 (And.intro hNG.2.2.1 hNG.2.2.2.1))
    refine lv_iload_n hx hb dX7_by_7 rfl (lv_at hl 1 rfl) ?_
    refine lv_i2l hx hb dX7_by_8 rfl ?_
    refine lv_topl (fun v15 ev15 => ?_)
    have qv15 : v15.toInt = x1.toInt := y_i2l ev15
    refine lv_lconst (v := 0) hx hb dX7_by_9 (by decide) ?_
    refine lv_lconst (v := 1) hx hb dX7_by_10 (by decide) ?_
    refine va_calli (va_runS (As := [.long v15, .long 0, .long 1]) (rest := []) ⟨hx, hb, hml, hown, hts⟩ (y_X7_isIn l dC dI H.size F v15 0 1) (cwS 3 hts (ax_gS T_267 T_268 T_265 T_21) rfl rfl rfl (by decide +kernel) ⟨Nat.le_of_ble_eq_true rfl, Nat.le_of_ble_eq_true rfl⟩) ⟨fun a U g mk q => ⟨q.1, s_pc (U := U) rfl rfl q.2⟩, fun U hU hW => ⟨rfl, s_pw hU hW hP hK hD hN⟩⟩ rfl rfl hl.1 rfl (lv_room (Nat.le_of_ble_eq_true rfl)) dX7_by_11 ⟨Nat.zero_le _, Nat.zero_le _⟩) hS (fun q _ h => h) (fun q h => h) (fun r17 F18 t H1 locs ht hvm hw hB hz1 hk1 hS => ?_)
    obtain ⟨hP, hK1⟩ := hB
    rw [ht] at hP
    generalize H1 = H at hP hS ⊢
    clear hz1 hk1 hvm hK1
    obtain ⟨h19, h21, hG9, h20⟩ := hw
    rw [hG9] at hP
    replace h20 : ((r17.toInt = 0 ∧ (v15.toInt < 0 ∨ 1 < v15.toInt)) ∨ (r17.toInt = 1 ∧ 0 ≤ v15.toInt ∧ v15.toInt ≤ 1)) := by have q9 := h20; exact q9
    refine lv_if_eq (tgt := 39) hx hb dX7_by_14 (by decide) (fun c22 => ?_) (fun c22 => ?_)
    · have c22 := (ax_eq (n := 0) (by decide)).mp c22
      refine lv_iconst (v := (-1)) hx hb dX7_by_39 (by decide) ?_
      have h23 : ((-1) : Int32).toInt = (-1) := by decide
      exact W.iret (v := (-1)) hx hb hr (fun t ht hW => ⟨⟨(-1), F, rfl, ⟨trivial, trivial, hI, hfr, fun k hk => (y_fiZ oY0 (s_sub (by decide) hk)).trans ((hz0 k hk).trans (y_fiZ oY0 (s_sub (by decide) hk)).symm), (by rw [y_fiZ oY0 (k := 15) (by decide), ← ev10, y_atE o2, y_atE o5, y_atE o8, y_fiZ oY0 (k := 31) (by decide), ← ev11, y_fiZ oY0 (k := 32) (by decide), ← ev12]; exact hT)⟩, by rw [ht]; exact hP, va_K.moved hW.alike hK⟩, hS.F ht⟩) hS.2.2 dX7_by_40
    · have c22 := mt (ax_eq (n := 0) (by decide)).mpr c22
      refine lv_iload_n hx hb dX7_by_17 rfl (lv_at hl 2 rfl) ?_
      refine lv_i2l hx hb dX7_by_18 rfl ?_
      refine lv_topl (fun v24 ev24 => ?_)
      have qv24 : v24.toInt = x2.toInt := y_i2l ev24
      refine lv_lconst (v := 0) hx hb dX7_by_19 (by decide) ?_
      refine lv_lconst (v := 1) hx hb dX7_by_20 (by decide) ?_
      refine va_calli (va_runS (As := [.long v24, .long 0, .long 1]) (rest := []) ⟨hx, hb, hml, hown, hts⟩ (y_X7_isIn l dC dI H.size F v24 0 1) (cwS 3 hts (ax_gS T_267 T_268 T_265 T_21) rfl rfl rfl (by decide +kernel) ⟨Nat.le_of_ble_eq_true rfl, Nat.le_of_ble_eq_true rfl⟩) ⟨fun a U g mk q => ⟨q.1, s_pc (U := U) rfl rfl q.2⟩, fun U hU hW => ⟨rfl, s_pw hU hW hP hK hD hN⟩⟩ rfl rfl hl.1 rfl (lv_room (Nat.le_of_ble_eq_true rfl)) dX7_by_21 ⟨Nat.zero_le _, Nat.zero_le _⟩) hS (fun q _ h => h) (fun q h => h) (fun r26 F27 t H1 locs ht hvm hw hB hz1 hk1 hS => ?_)
      obtain ⟨hP, hK1⟩ := hB
      rw [ht] at hP
      generalize H1 = H at hP hS ⊢
      clear hz1 hk1 hvm hK1
      obtain ⟨h28, h30, hG9, h29⟩ := hw
      rw [hG9] at hP
      replace h29 : ((r26.toInt = 0 ∧ (v24.toInt < 0 ∨ 1 < v24.toInt)) ∨ (r26.toInt = 1 ∧ 0 ≤ v24.toInt ∧ v24.toInt ≤ 1)) := by have q9 := h29; exact q9
      refine lv_if_eq (tgt := 39) hx hb dX7_by_24 (by decide) (fun c31 => ?_) (fun c31 => ?_)
      · have c31 := (ax_eq (n := 0) (by decide)).mp c31
        refine lv_iconst (v := (-1)) hx hb dX7_by_39 (by decide) ?_
        have h32 : ((-1) : Int32).toInt = (-1) := by decide
        exact W.iret (v := (-1)) hx hb hr (fun t ht hW => ⟨⟨(-1), F, rfl, ⟨trivial, trivial, hI, hfr, fun k hk => (y_fiZ oY0 (s_sub (by decide) hk)).trans ((hz0 k hk).trans (y_fiZ oY0 (s_sub (by decide) hk)).symm), (by rw [y_fiZ oY0 (k := 15) (by decide), ← ev10, y_atE o2, y_atE o5, y_atE o8, y_fiZ oY0 (k := 31) (by decide), ← ev11, y_fiZ oY0 (k := 32) (by decide), ← ev12]; exact hT)⟩, by rw [ht]; exact hP, va_K.moved hW.alike hK⟩, hS.F ht⟩) hS.2.2 dX7_by_40
      · have c31 := mt (ax_eq (n := 0) (by decide)).mpr c31
        refine lv_iload_n hx hb dX7_by_27 rfl (lv_at hl 3 rfl) ?_
        refine lv_i2l hx hb dX7_by_28 rfl ?_
        refine lv_topl (fun v33 ev33 => ?_)
        have qv33 : v33.toInt = x3.toInt := y_i2l ev33
        refine lv_lconst (v := 0) hx hb dX7_by_29 (by decide) ?_
        refine lv_ldc2 hx hb hown (hts _ T_1040) dX7_by_30 ?_
        refine va_calli (va_runS (As := [.long v33, .long 0, .long 2]) (rest := []) ⟨hx, hb, hml, hown, hts⟩ (y_X7_isIn l dC dI H.size F v33 0 2) (cwS 3 hts (ax_gS T_267 T_268 T_265 T_21) rfl rfl rfl (by decide +kernel) ⟨Nat.le_of_ble_eq_true rfl, Nat.le_of_ble_eq_true rfl⟩) ⟨fun a U g mk q => ⟨q.1, s_pc (U := U) rfl rfl q.2⟩, fun U hU hW => ⟨rfl, s_pw hU hW hP hK hD hN⟩⟩ rfl rfl hl.1 rfl (lv_room (Nat.le_of_ble_eq_true rfl)) dX7_by_33 ⟨Nat.zero_le _, Nat.zero_le _⟩) hS (fun q _ h => h) (fun q h => h) (fun r35 F36 t H1 locs ht hvm hw hB hz1 hk1 hS => ?_)
        obtain ⟨hP, hK1⟩ := hB
        rw [ht] at hP
        generalize H1 = H at hP hS ⊢
        clear hz1 hk1 hvm hK1
        obtain ⟨h37, h39, hG9, h38⟩ := hw
        rw [hG9] at hP
        replace h38 : ((r35.toInt = 0 ∧ (v33.toInt < 0 ∨ 2 < v33.toInt)) ∨ (r35.toInt = 1 ∧ 0 ≤ v33.toInt ∧ v33.toInt ≤ 2)) := by have q9 := h38; exact q9
        refine lv_if_ne (tgt := 41) hx hb dX7_by_36 (by decide) (fun c40 => ?_) (fun c40 => ?_)
        · have c40 := mt (ax_eq (n := 0) (by decide)).mpr c40
          refine lv_aload_n hx hb dX7_by_41 rfl (lv_at hl 0 rfl) ?_
          refine va_callv (va_runV (As := []) (rest := []) ⟨hx, hb, hml, hown, hts⟩ (y_X7_putsAside l dC dI H.size hLK A hA F a0 ha0 hI) (cwV 0 hts (ax_gV T_1041 T_1043 T_1044 T_265 T_1042) rfl rfl rfl (by decide +kernel) ⟨Nat.le_of_ble_eq_true rfl, Nat.le_of_ble_eq_true rfl⟩) ⟨fun a U g mk q => ⟨q.1, s_pc (U := U) rfl rfl q.2⟩, s_recv hK hP (hLK _ ha0 (by decide)) (ci := 7) rfl oY0, fun U hU hW => ⟨rfl, s_pw hU hW hP hK hD hN⟩⟩ rfl rfl hl.1 rfl (lv_room (Nat.le_of_ble_eq_true rfl)) dX7_by_42 ⟨Nat.zero_le _, Nat.zero_le _⟩) hS (fun q _ h => h) (fun q h => h) (fun F42 t H1 locs ht hvm hw hB hz1 hk1 hS => ?_)
          obtain ⟨hP, hK1⟩ := hB
          rw [ht] at hP
          generalize H1 = H at hP hS ⊢
          clear hz1 hk1 hvm hK1
          obtain ⟨h43, h45, hI, hfr1, hzf, h44⟩ := hw
          have o46 : F42 (A 13) = .inl (cs 0, 400, .inl f1) := (hfr1 _ (by rw [(y_k13 hA)]; decide)).trans o2
          have o47 : F42 (A 20) = .inl (cs 0, 918, .inl f4) := (hfr1 _ (by rw [(y_k20 hA)]; decide)).trans o5
          have o48 : F42 (A 30) = .inl (cs 0, 18360, .inl f7) := (hfr1 _ (by rw [(y_k30 hA)]; decide)).trans o8
          have oY49 : F42 a0 = .inr (7, y_fl A z0 q0) := (hfr1 _ (by rw [ha0]; decide)).trans oY0
          have hfr : ∀ b, K b ∉ [9, 70, 71, 72, 73, 74] → F42 b = F b := fun b hb9 => (hfr1 b (fun q => hb9 (s_sub (by decide) q))).trans (hfr b hb9)
          obtain ⟨f50, o51, b52⟩ := y_op23 hI
          replace h44 : (y_CP f4 f50) := by have q9 := h44; rw [y_atE o5, y_atE o51] at q9; exact q9
          refine lv_aload_n hx hb dX7_by_45 rfl (lv_at hl 0 rfl) ?_
          refine th_get (D := (dC, dI)) (ci := 7) (v := .ref (A 20)) (C := RX7) (T := TX7) (N := 34) hx hb hts inX7 hown hK hP (hLK _ ha0 (by decide)) oY49 rfl 20 (by decide) (hts _ T_251) (fun _ h9 => h9) rfl dX7_by_46 ?_
          refine lv_iconst (v := 3) hx hb dX7_by_49 (by decide) ?_
          refine lv_iload_n hx hb dX7_by_50 rfl (lv_at hl 1 rfl) ?_
          refine th_iast hx hb hK hP hD hS (hLK _ (y_k20 hA) (by decide)) 0 o47 rfl (ax_in (by decide)) dX7_by_51 (fun H locs hP hS => ?_)
          obtain ⟨f53, u54⟩ : ∃ g : Nat → Int32, g = upd f4 (3 : Int32).toNatClampNeg x1 := ⟨_, rfl⟩
          rw [← u54] at hP
          have b55 : y_bd 20 f53 := trivial
          have hP : va_P (dC, dI) vwCl (va_pl L (va_up F42 (A 20) (.inl (cs 0, 918, .inl f53)))) H := hP
          obtain ⟨F56, hF57⟩ : ∃ G : Nat → va_E, G = va_up F42 (A 20) (.inl (cs 0, 918, .inl f53)) := ⟨_, rfl⟩
          rw [← hF57] at hP
          have hI : y_I K cs A F56 := by rw [hF57]; exact y_clA (i := 20) hA hI (by decide) b55
          have hfr : ∀ b, K b ∉ [9, 70, 71, 72, 73, 74] → F56 b = F b := by rw [hF57]; exact s_fr hfr (y_k20 hA) (by decide)
          have o58 : F56 (A 13) = .inl (cs 0, 400, .inl f1) := by rw [hF57]; exact th_ne (th_kd (y_k13 hA) (y_k20 hA) (by decide)) o46
          have o59 : F56 (A 30) = .inl (cs 0, 18360, .inl f7) := by rw [hF57]; exact th_ne (th_kd (y_k30 hA) (y_k20 hA) (by decide)) o48
          have o60 : F56 (A 23) = .inl (cs 0, 918, .inl f50) := by rw [hF57]; exact th_ne (th_kd (y_k23 hA) (y_k20 hA) (by decide)) o51
          have oY61 : F56 a0 = .inr (7, y_fl A z0 q0) := by rw [hF57]; exact th_ne (th_kd ha0 (y_k20 hA) (by decide)) oY49
          have o62 : F56 (A 20) = .inl (cs 0, 918, .inl f53) := by rw [hF57]; exact th_up
          have u63 : ∀ j : Int, 0 ≤ j → y_c f53 j = if j = 3 then x1 else y_c f4 j := by rw [u54]; exact y_cu (by decide) (by decide)
          refine lv_aload_n hx hb dX7_by_52 rfl (lv_at hl 0 rfl) ?_
          refine th_get (D := (dC, dI)) (ci := 7) (v := .ref (A 20)) (C := RX7) (T := TX7) (N := 34) hx hb hts inX7 hown hK hP (hLK _ ha0 (by decide)) oY61 rfl 20 (by decide) (hts _ T_251) (fun _ h9 => h9) rfl dX7_by_53 ?_
          refine lv_iconst (v := 4) hx hb dX7_by_56 (by decide) ?_
          refine lv_iload_n hx hb dX7_by_57 rfl (lv_at hl 2 rfl) ?_
          refine th_iast hx hb hK hP hD hS (hLK _ (y_k20 hA) (by decide)) 0 o62 rfl (ax_in (by decide)) dX7_by_58 (fun H locs hP hS => ?_)
          obtain ⟨f64, u65⟩ : ∃ g : Nat → Int32, g = upd f53 (4 : Int32).toNatClampNeg x2 := ⟨_, rfl⟩
          rw [← u65] at hP
          have b66 : y_bd 20 f64 := trivial
          have hP : va_P (dC, dI) vwCl (va_pl L (va_up F56 (A 20) (.inl (cs 0, 918, .inl f64)))) H := hP
          obtain ⟨F67, hF68⟩ : ∃ G : Nat → va_E, G = va_up F56 (A 20) (.inl (cs 0, 918, .inl f64)) := ⟨_, rfl⟩
          rw [← hF68] at hP
          have hI : y_I K cs A F67 := by rw [hF68]; exact y_clA (i := 20) hA hI (by decide) b66
          have hfr : ∀ b, K b ∉ [9, 70, 71, 72, 73, 74] → F67 b = F b := by rw [hF68]; exact s_fr hfr (y_k20 hA) (by decide)
          have o69 : F67 (A 13) = .inl (cs 0, 400, .inl f1) := by rw [hF68]; exact th_ne (th_kd (y_k13 hA) (y_k20 hA) (by decide)) o58
          have o70 : F67 (A 30) = .inl (cs 0, 18360, .inl f7) := by rw [hF68]; exact th_ne (th_kd (y_k30 hA) (y_k20 hA) (by decide)) o59
          have o71 : F67 (A 23) = .inl (cs 0, 918, .inl f50) := by rw [hF68]; exact th_ne (th_kd (y_k23 hA) (y_k20 hA) (by decide)) o60
          have oY72 : F67 a0 = .inr (7, y_fl A z0 q0) := by rw [hF68]; exact th_ne (th_kd ha0 (y_k20 hA) (by decide)) oY61
          have o73 : F67 (A 20) = .inl (cs 0, 918, .inl f64) := by rw [hF68]; exact th_up
          have u74 : ∀ j : Int, 0 ≤ j → y_c f64 j = if j = 4 then x2 else y_c f53 j := by rw [u65]; exact y_cu (by decide) (by decide)
          have hmo9 : (y_c f64 3).toInt = x1.toInt ∧ (y_c f64 4).toInt = x2.toInt := ⟨by rw [u74 3 (by omega), if_neg (by omega), u63 3 (by omega), if_pos (by omega)], by rw [u74 4 (by omega), if_pos (by omega)]⟩
          refine lv_aload_n hx hb dX7_by_59 rfl (lv_at hl 0 rfl) ?_
          refine lv_iconst (v := (-1)) hx hb dX7_by_60 (by decide) ?_
          refine va_callv (va_runV (As := [.int (-1)]) (rest := []) ⟨hx, hb, hml, hown, hts⟩ (y_X7_begins l dC dI H.size hLK A hA F67 a0 (-1) ha0 (by decide) hI (by rw [y_atE o69]; exact hPG) (by first | (rw [y_atE o73]; omega) | rw [y_atE o73])) (cwV 1 hts (ax_gV T_1017 T_1019 T_1020 T_265 T_1018) rfl rfl rfl (by decide +kernel) ⟨Nat.le_of_ble_eq_true rfl, Nat.le_of_ble_eq_true rfl⟩) ⟨fun a U g mk q => ⟨q.1, s_pc (U := U) rfl rfl q.2⟩, s_recv hK hP (hLK _ ha0 (by decide)) (ci := 7) rfl oY72, fun U hU hW => ⟨rfl, s_pw hU hW hP hK hD hN⟩⟩ rfl rfl hl.1 rfl (lv_room (Nat.le_of_ble_eq_true rfl)) dX7_by_61 ⟨Nat.zero_le _, Nat.zero_le _⟩) hS (fun q _ h => h) (fun q h => h) (fun F76 t H1 locs ht hvm hw hB hz1 hk1 hS => ?_)
          obtain ⟨hP, hK1⟩ := hB
          rw [ht] at hP
          generalize H1 = H at hP hS ⊢
          clear hz1 hk1 hvm hK1
          obtain ⟨h77, h79, hI, hfr1, hzf, h78⟩ := hw
          have o80 : F76 (A 13) = .inl (cs 0, 400, .inl f1) := (hfr1 _ (by rw [(y_k13 hA)]; decide)).trans o69
          have o81 : F76 (A 30) = .inl (cs 0, 18360, .inl f7) := (hfr1 _ (by rw [(y_k30 hA)]; decide)).trans o70
          have o82 : F76 (A 23) = .inl (cs 0, 918, .inl f50) := (hfr1 _ (by rw [(y_k23 hA)]; decide)).trans o71
          have oY83 : F76 a0 = .inr (7, y_fl A z0 q0) := (hfr1 _ (by rw [ha0]; decide)).trans oY72
          have hfr : ∀ b, K b ∉ [9, 70, 71, 72, 73, 74] → F76 b = F b := fun b hb9 => (hfr1 b (fun q => hb9 (s_sub (by decide) q))).trans (hfr b hb9)
          obtain ⟨f84, o85, b86⟩ := y_op20 hI
          replace h78 : (y_NG f1 f84) := by have q9 := h78; rw [y_atE o69, y_atE o85] at q9; exact q9
          refine lv_aload_n hx hb dX7_by_64 rfl (lv_at hl 0 rfl) ?_
          refine va_callv (va_runV (As := []) (rest := []) ⟨hx, hb, hml, hown, hts⟩ (y_X7_goesOn l dC dI H.size hLK A hA F76 a0 ha0 hI (by rw [y_atE o80]; exact hPG) (by rw [y_atE o80, y_atE o85]; exact h78)) (cwV 0 hts (ax_gV T_1045 T_1047 T_1048 T_265 T_1046) rfl rfl rfl (by decide +kernel) ⟨Nat.le_of_ble_eq_true rfl, Nat.le_of_ble_eq_true rfl⟩) ⟨fun a U g mk q => ⟨q.1, s_pc (U := U) rfl rfl q.2⟩, s_recv hK hP (hLK _ ha0 (by decide)) (ci := 7) rfl oY83, fun U hU hW => ⟨rfl, s_pw hU hW hP hK hD hN⟩⟩ rfl rfl hl.1 rfl (lv_room (Nat.le_of_ble_eq_true rfl)) dX7_by_65 ⟨Nat.zero_le _, Nat.zero_le _⟩) hS (fun q _ h => h) (fun q h => h) (fun F88 t H1 locs ht hvm hw hB hz1 hk1 hS => ?_)
          obtain ⟨hP, hK1⟩ := hB
          rw [ht] at hP
          generalize H1 = H at hP hS ⊢
          clear hz1 hk1 hvm hK1
          obtain ⟨h89, h91, hI, hfr1, hzf, h90⟩ := hw
          have o92 : F88 (A 13) = .inl (cs 0, 400, .inl f1) := (hfr1 _ (by rw [(y_k13 hA)]; decide)).trans o80
          have o93 : F88 (A 30) = .inl (cs 0, 18360, .inl f7) := (hfr1 _ (by rw [(y_k30 hA)]; decide)).trans o81
          have o94 : F88 (A 23) = .inl (cs 0, 918, .inl f50) := (hfr1 _ (by rw [(y_k23 hA)]; decide)).trans o82
          obtain ⟨z95, q96, oY97, bz98, bq99⟩ := y_opY hI ha0
          have hzf : ∀ k, k ∈ ([1, 2, 3, 4, 5, 6, 7, 8, 11, 15, 16, 19, 31, 32] : List Nat) → z95 k = z0 k := fun k hk => by have q9 := hzf k hk; rw [y_fiZ oY97 (s_sub (by decide) hk), y_fiZ oY83 (s_sub (by decide) hk)] at q9; exact q9
          have hz0 : ∀ k, k ∈ ([1, 2, 3, 4, 5, 6, 7, 8, 11, 15, 16, 19, 31, 32] : List Nat) → z95 k = z0 k := fun k hk => (hzf k (s_sub (by decide) hk)).trans (hz0 k hk)
          have ev10 : v10 = z95 15 := ev10.trans (hzf 15 (by decide)).symm
          have ev11 : v11 = z95 31 := ev11.trans (hzf 31 (by decide)).symm
          have ev12 : v12 = z95 32 := ev12.trans (hzf 32 (by decide)).symm
          have hfr : ∀ b, K b ∉ [9, 70, 71, 72, 73, 74] → F88 b = F b := fun b hb9 => (hfr1 b (fun q => hb9 (s_sub (by decide) q))).trans (hfr b hb9)
          obtain ⟨f100, o101, b102⟩ := y_op20 hI
          replace h90 : (y_NG f1 f100) := by have q9 := h90; rw [y_atE o80, y_atE o101] at q9; exact q9
          refine lv_aload_n hx hb dX7_by_68 rfl (lv_at hl 0 rfl) ?_
          refine va_callv (va_runV (As := []) (rest := []) ⟨hx, hb, hml, hown, hts⟩ (y_X7_takesBack l dC dI H.size hLK A hA F88 a0 ha0 hI) (cwV 0 hts (ax_gV T_1049 T_1051 T_1052 T_265 T_1050) rfl rfl rfl (by decide +kernel) ⟨Nat.le_of_ble_eq_true rfl, Nat.le_of_ble_eq_true rfl⟩) ⟨fun a U g mk q => ⟨q.1, s_pc (U := U) rfl rfl q.2⟩, s_recv hK hP (hLK _ ha0 (by decide)) (ci := 7) rfl oY97, fun U hU hW => ⟨rfl, s_pw hU hW hP hK hD hN⟩⟩ rfl rfl hl.1 rfl (lv_room (Nat.le_of_ble_eq_true rfl)) dX7_by_69 ⟨Nat.zero_le _, Nat.zero_le _⟩) hS (fun q _ h => h) (fun q h => h) (fun F104 t H1 locs ht hvm hw hB hz1 hk1 hS => ?_)
          obtain ⟨hP, hK1⟩ := hB
          rw [ht] at hP
          generalize H1 = H at hP hS ⊢
          clear hz1 hk1 hvm hK1
          obtain ⟨h105, h107, hI, hfr1, hzf, h106⟩ := hw
          have o108 : F104 (A 13) = .inl (cs 0, 400, .inl f1) := (hfr1 _ (by rw [(y_k13 hA)]; decide)).trans o92
          have o109 : F104 (A 30) = .inl (cs 0, 18360, .inl f7) := (hfr1 _ (by rw [(y_k30 hA)]; decide)).trans o93
          have o110 : F104 (A 23) = .inl (cs 0, 918, .inl f50) := (hfr1 _ (by rw [(y_k23 hA)]; decide)).trans o94
          have oY111 : F104 a0 = .inr (7, y_fl A z95 q96) := (hfr1 _ (by rw [ha0]; decide)).trans oY97
          have hfr : ∀ b, K b ∉ [9, 70, 71, 72, 73, 74] → F104 b = F b := fun b hb9 => (hfr1 b (fun q => hb9 (s_sub (by decide) q))).trans (hfr b hb9)
          obtain ⟨f112, o113, b114⟩ := y_op20 hI
          replace h106 : (y_CP f50 f112) := by have q9 := h106; rw [y_atE o94, y_atE o113] at q9; exact q9
          refine lv_aload_n hx hb dX7_by_72 rfl (lv_at hl 0 rfl) ?_
          refine lv_iload_n hx hb dX7_by_73 rfl (lv_at hl 3 rfl) ?_
          refine va_calli (va_runV (As := [.int x3]) (rest := []) ⟨hx, hb, hml, hown, hts⟩ (y_X7_told l dC dI H.size hLK A hA F104 a0 x3 ha0 hI) (cwV 1 hts (ax_gV T_1053 T_1055 T_1056 T_265 T_1054) rfl rfl rfl (by decide +kernel) ⟨Nat.le_of_ble_eq_true rfl, Nat.le_of_ble_eq_true rfl⟩) ⟨fun a U g mk q => ⟨q.1, s_pc (U := U) rfl rfl q.2⟩, s_recv hK hP (hLK _ ha0 (by decide)) (ci := 7) rfl oY111, fun U hU hW => ⟨rfl, s_pw hU hW hP hK hD hN⟩⟩ rfl rfl hl.1 rfl (lv_room (Nat.le_of_ble_eq_true rfl)) dX7_by_74 ⟨Nat.zero_le _, Nat.zero_le _⟩) hS (fun q _ h => h) (fun q h => h) (fun r116 F117 t H1 locs ht hvm hw hB hz1 hk1 hS => ?_)
          obtain ⟨hP, hK1⟩ := hB
          rw [ht] at hP
          generalize H1 = H at hP hS ⊢
          clear hz1 hk1 hvm hK1
          obtain ⟨h118, h120, hI, hfr1, hzf, h119⟩ := hw
          have o121 : F117 (A 13) = .inl (cs 0, 400, .inl f1) := (hfr1 _ (by rw [(y_k13 hA)]; decide)).trans o108
          have o122 : F117 (A 30) = .inl (cs 0, 18360, .inl f7) := (hfr1 _ (by rw [(y_k30 hA)]; decide)).trans o109
          have o123 : F117 (A 23) = .inl (cs 0, 918, .inl f50) := (hfr1 _ (by rw [(y_k23 hA)]; decide)).trans o110
          have o124 : F117 (A 20) = .inl (cs 0, 918, .inl f112) := (hfr1 _ (by rw [(y_k20 hA)]; decide)).trans o113
          have oY125 : F117 a0 = .inr (7, y_fl A z95 q96) := (hfr1 _ (by rw [ha0]; decide)).trans oY111
          have hfr : ∀ b, K b ∉ [9, 70, 71, 72, 73, 74] → F117 b = F b := fun b hb9 => (hfr1 b (fun q => hb9 (s_sub (by decide) q))).trans (hfr b hb9)
          exact W.iret (v := r116) hx hb hr (fun t ht hW => ⟨⟨r116, F117, rfl, ⟨trivial, trivial, hI, hfr, fun k hk => (y_fiZ oY125 (s_sub (by decide) hk)).trans ((hz0 k hk).trans (y_fiZ oY0 (s_sub (by decide) hk)).symm), (by rw [y_fiZ oY125 (k := 15) (by decide), ← ev10, y_atE o121, y_atE o124, y_atE o122, y_fiZ oY125 (k := 31) (by decide), ← ev11, y_fiZ oY125 (k := 32) (by decide), ← ev12]; exact (y_Tc (y_CP_t h44 h106) hT))⟩, by rw [ht]; exact hP, va_K.moved hW.alike hK⟩, hS.F ht⟩) hS.2.2 dX7_by_77
        · have c40 := (ax_eq (n := 0) (by decide)).mp c40
          refine lv_iconst (v := (-1)) hx hb dX7_by_39 (by decide) ?_
          have h126 : ((-1) : Int32).toInt = (-1) := by decide
          exact W.iret (v := (-1)) hx hb hr (fun t ht hW => ⟨⟨(-1), F, rfl, ⟨trivial, trivial, hI, hfr, fun k hk => (y_fiZ oY0 (s_sub (by decide) hk)).trans ((hz0 k hk).trans (y_fiZ oY0 (s_sub (by decide) hk)).symm), (by rw [y_fiZ oY0 (k := 15) (by decide), ← ev10, y_atE o2, y_atE o5, y_atE o8, y_fiZ oY0 (k := 31) (by decide), ← ev11, y_fiZ oY0 (k := 32) (by decide), ← ev12]; exact hT)⟩, by rw [ht]; exact hP, va_K.moved hW.alike hK⟩, hS.F ht⟩) hS.2.2 dX7_by_40

set_option maxHeartbeats 4000000 in
set_option maxRecDepth 100000 in
theorem y_X7_endsBehind (l : Launch) (dC : Nat → ClassId) (dI : Nat → Nat → Nat) (sz : Nat) {L : List Nat} {K : Nat → Nat} {cs : Nat → ClassId} (hLK : ∀ a {k : Nat}, K a = k → k ≠ 0 → a ∈ L) (A : Nat → Nat) (hA : y_A K A) (F : Nat → va_E) (a0 : Nat) (ha0 : K a0 = 9) (hI : y_I K cs A F) (hPG : y_PG (y_at F (A 13))) (hNG : y_NG (y_at F (A 13)) (y_at F (A 20))) : Met l yX7_endsBehind (Cond.code yX7_endsBehind cX7_endsBehind 2 (some .int) :: T0) ({ frames := 8, cells := 0, slots := 0, locals := 188 }) (va_Pc [.ref a0] (s_W dC dI sz L F [(cs 0, .int), (cs 1, .byte), (cs 2, .long), (cs 3, .object RX5), (cs 4, .object RX4), (cs 5, .array .int), (cs 6, .char), (cs 7, .boolean)])) (va_Qi (fun (r : Int32) (G : Nat → va_E) => (-1 ≤ r.toInt ∧ r.toInt ≤ 400) ∧ True ∧ y_I K cs A G ∧ (∀ b, K b ∉ [70, 71, 72] → G b = F b) ∧ (∀ k, k ∈ ([1, 2, 3, 4, 5, 6, 7, 8, 11, 15, 16, 19, 25, 26, 27, 31, 32] : List Nat) → y_fi G a0 k = y_fi F a0 k) ∧ (y_NG (y_at F (A 13)) (y_at G (A 20)))) (fun (G : Nat → va_E) (t : State) => va_P (dC, dI) vwCl (va_pl L G) t.heap ∧ va_K (dC, dI) vwCl [(cs 0, .int), (cs 1, .byte), (cs 2, .long), (cs 3, .object RX5), (cs 4, .object RX4), (cs 5, .array .int), (cs 6, .char), (cs 7, .boolean)] t) (fun q => q ∈ L)) 0 0 (fun q => q ∈ L) := by
  refine Met.ofW (cc := cX7_endsBehind) (maxL := 2) (ret := (some .int)) (by decide) rfl ?_
  intro p e s m args below meth c s₁ B hml hv
  obtain ⟨rfl, hsz, hP, hK, hD, hN⟩ := hv
  have hx := B.exec
  have hb := B.bytes
  have hr := B.returns
  have hts : ∀ w ∈ T0, w.before _ s = true := fun w h => atoms_spec (ws := Cond.code yX7_endsBehind cX7_endsBehind 2 (some .int) :: T0) B.pre w (List.mem_cons_of_mem _ h)
  have hown : s.vm.findClass RX7 = some m.cls := findClass_of_methodNamed B.named
  have hlocks := B.notSynchronized
  have hS : va_S (fun q => q ∈ L) s.heap s.heap [] := va_S.rf
  have hfr : ∀ b, K b ∉ [70, 71, 72] → F b = F b := fun _ _ => rfl
  have hl := lv_entry ([.ref a0]) (n := 2) (Nat.le_of_ble_eq_true rfl)
  rw [lg_entry_eq]
  generalize (lg_sl ([.ref a0]) ++ List.replicate (2 - (lg_sl ([.ref a0])).length) Slot.unset).toArray = ls at hl ⊢
  have hl : lv_has ls 2 [(0, .ref a0)] := hl
  refine s_gen hP hS (fun H locs hP hS => ?_)
  obtain ⟨z0, q0, oY0, bz0, bq0⟩ := y_opY hI ha0
  have hz0 : ∀ k, k ∈ ([1, 2, 3, 4, 5, 6, 7, 8, 11, 15, 16, 19, 25, 26, 27, 31, 32] : List Nat) → z0 k = z0 k := fun _ _ => rfl
  obtain ⟨f1, o2, b3⟩ := y_op13 hI
  obtain ⟨f4, o5, b6⟩ := y_op20 hI
  replace hPG : y_PG f1 := by have q9 := hPG; rw [y_atE o2] at q9; exact q9
  replace hNG : y_NG f1 f4 := by have q9 := hNG; rw [y_atE o2, y_atE o5] at q9; exact q9
  have hL := y_P0L hPG.1
  have hW := y_P0W hPG.1
  have hnn := And.intro hNG.1 (And.intro hNG.2.1 (And.intro hNG.2.2.1 hNG.2.2.2.1))
  refine lv_iconst (v := 0) hx hb dX7_endsBehind_0 (by decide) ?_
  refine lv_istore_n (lv' := [(1, .int 0), (0, .ref a0)]) hx hb dX7_endsBehind_1 rfl hl (by decide) rfl (fun ls hl => ?_)
  have h8 : (0 : Int32).toInt = 0 := by decide
  refine th_loop (fun n g H locs => ∃ (G : Nat → va_E) (ls : Array Slot) (w7 : Int32), g = F0 m 2 ls [] ∧ lv_has ls 2 [(0, .ref a0), (1, .int w7)] ∧ va_P (dC, dI) vwCl (va_pl L G) H ∧ va_S (fun q => q ∈ L) s.heap H locs ∧ y_I K cs A G ∧ (∀ b, K b ∉ [70, 71, 72] → G b = F b) ∧ (∀ k, k ∈ ([1, 2, 3, 4, 5, 6, 7, 8, 11, 15, 16, 19, 25, 26, 27, 31, 32] : List Nat) → y_fi G a0 k = z0 k) ∧ (0 ≤ w7.toInt ∧ w7.toInt ≤ 401) ∧ (y_NG f1 (y_at G (A 20))) ∧ n = (402 - w7.toInt).toNat) _ ⟨F, _, 0, rfl, lv_sub hl [1, 0] rfl, hP, hS, hI, hfr, (fun k hk => (y_fiZ oY0 (s_sub (by decide) hk)).trans (hz0 k hk)), (by decide), (by rw [y_atE o5]; exact hNG), rfl⟩ (fun n ih2 g H locs hq => ?_)
  obtain ⟨F11, ls, w7, rfl, hl, hP, hS, hI, hfr, hz0, h9, h10, hn⟩ := hq
  have o12 : F11 (A 13) = .inl (cs 0, 400, .inl f1) := (hfr _ (by rw [(y_k13 hA)]; decide)).trans o2
  have oY13 : F11 a0 = .inr (7, y_fl A z0 q0) := (hfr _ (by rw [ha0]; decide)).trans oY0
  have hz0 : ∀ k, k ∈ ([1, 2, 3, 4, 5, 6, 7, 8, 11, 15, 16, 19, 25, 26, 27, 31, 32] : List Nat) → z0 k = z0 k := fun _ _ => rfl
  obtain ⟨f14, o15, b16⟩ := y_op20 hI
  replace h10 : (y_NG f1 f14) := by have q9 := h10; rw [y_atE o15] at q9; exact q9
  have hn_16 := hn
  refine lv_iload_n hx hb dX7_endsBehind_2 rfl (lv_at hl 1 rfl) ?_
  refine lv_sipush (v := 400) hx hb dX7_endsBehind_3 (by decide) ?_
  refine lv_icmp_gt (tgt := 28) hx hb dX7_endsBehind_6 (by decide) (fun c17 => ?_) (fun c17 => ?_)
  · have c17 := (ax_gt (n := 400) (by decide)).mp c17
    refine lv_iconst (v := (-1)) hx hb dX7_endsBehind_28 (by decide) ?_
    have h18 : ((-1) : Int32).toInt = (-1) := by decide
    exact W.iret (v := (-1)) hx hb hr (fun t ht hW => ⟨⟨(-1), F11, rfl, ⟨(by decide), trivial, hI, hfr, fun k hk => (y_fiZ oY13 (s_sub (by decide) hk)).trans ((hz0 k hk).trans (y_fiZ oY0 (s_sub (by decide) hk)).symm), (by rw [y_atE o2, y_atE o15]; exact h10)⟩, by rw [ht]; exact hP, va_K.moved hW.alike hK⟩, hS.F ht⟩) hS.2.2 dX7_endsBehind_29
  · have c17 := mt (ax_gt (n := 400) (by decide)).mpr c17
    refine lv_aload_n hx hb dX7_endsBehind_9 rfl (lv_at hl 0 rfl) ?_
    refine va_calli (va_runV (As := []) (rest := []) ⟨hx, hb, hml, hown, hts⟩ (y_X7_isEnded l dC dI H.size hLK A hA F11 a0 ha0 hI (by rw [y_atE o12]; exact hPG)) (cwV 0 hts (ax_gV T_1102 T_1104 T_1105 T_265 T_1103) rfl rfl rfl (by decide +kernel) ⟨Nat.le_of_ble_eq_true rfl, Nat.le_of_ble_eq_true rfl⟩) ⟨fun a U g mk q => ⟨q.1, s_pc (U := U) rfl rfl q.2⟩, s_recv hK hP (hLK _ ha0 (by decide)) (ci := 7) rfl oY13, fun U hU hW => ⟨rfl, s_pw hU hW hP hK hD hN⟩⟩ rfl rfl hl.1 rfl (lv_room (Nat.le_of_ble_eq_true rfl)) dX7_endsBehind_10 ⟨Nat.zero_le _, Nat.zero_le _⟩) hS (fun q _ h => h) (fun q h => h) (fun r20 F21 t H1 locs ht hvm hw hB hz1 hk1 hS => ?_)
    obtain ⟨hP, hK1⟩ := hB
    rw [ht] at hP
    generalize H1 = H at hP hS ⊢
    clear hz1 hk1 hvm hK1
    obtain ⟨h22, h24, hI, hfr1, hzf, h23⟩ := hw
    have o25 : F21 (A 13) = .inl (cs 0, 400, .inl f1) := (hfr1 _ (by rw [(y_k13 hA)]; decide)).trans o12
    have o26 : F21 (A 20) = .inl (cs 0, 918, .inl f14) := (hfr1 _ (by rw [(y_k20 hA)]; decide)).trans o15
    have oY27 : F21 a0 = .inr (7, y_fl A z0 q0) := (hfr1 _ (by rw [ha0]; decide)).trans oY13
    have hfr : ∀ b, K b ∉ [70, 71, 72] → F21 b = F b := fun b hb9 => (hfr1 b (fun q => hb9 (s_sub (by decide) q))).trans (hfr b hb9)
    refine lv_if_eq (tgt := 18) hx hb dX7_endsBehind_13 (by decide) (fun c28 => ?_) (fun c28 => ?_)
    · have c28 := (ax_eq (n := 0) (by decide)).mp c28
      refine lv_aload_n hx hb dX7_endsBehind_18 rfl (lv_at hl 0 rfl) ?_
      refine va_callv (va_runV (As := []) (rest := []) ⟨hx, hb, hml, hown, hts⟩ (y_X7_aCycle l dC dI H.size hLK A hA F21 a0 ha0 hI (by rw [y_atE o25]; exact hPG) (by rw [y_atE o25, y_atE o26]; exact h10)) (cwV 0 hts (ax_gV T_1070 T_1072 T_1073 T_265 T_1071) rfl rfl rfl (by decide +kernel) ⟨Nat.le_of_ble_eq_true rfl, Nat.le_of_ble_eq_true rfl⟩) ⟨fun a U g mk q => ⟨q.1, s_pc (U := U) rfl rfl q.2⟩, s_recv hK hP (hLK _ ha0 (by decide)) (ci := 7) rfl oY27, fun U hU hW => ⟨rfl, s_pw hU hW hP hK hD hN⟩⟩ rfl rfl hl.1 rfl (lv_room (Nat.le_of_ble_eq_true rfl)) dX7_endsBehind_19 ⟨Nat.zero_le _, Nat.zero_le _⟩) hS (fun q _ h => h) (fun q h => h) (fun F30 t H1 locs ht hvm hw hB hz1 hk1 hS => ?_)
      obtain ⟨hP, hK1⟩ := hB
      rw [ht] at hP
      generalize H1 = H at hP hS ⊢
      clear hz1 hk1 hvm hK1
      obtain ⟨h31, h33, hI, hfr1, hzf, h32⟩ := hw
      have o34 : F30 (A 13) = .inl (cs 0, 400, .inl f1) := (hfr1 _ (by rw [(y_k13 hA)]; decide)).trans o25
      have oY35 : F30 a0 = .inr (7, y_fl A z0 q0) := (hfr1 _ (by rw [ha0]; decide)).trans oY27
      have hfr : ∀ b, K b ∉ [70, 71, 72] → F30 b = F b := fun b hb9 => (hfr1 b (fun q => hb9 (s_sub (by decide) q))).trans (hfr b hb9)
      obtain ⟨f36, o37, b38⟩ := y_op20 hI
      replace h32 : (y_NG f1 f36 ∧ y_c f36 3 = y_c f14 3 ∧ y_c f36 4 = y_c f14 4) := by have q9 := h32; rw [y_atE o25, y_atE o37, y_atE o26] at q9; exact q9
      obtain ⟨v39, ev39⟩ : ∃ y : Int32, w7 + 1 = y := ⟨_, rfl⟩
      have qv39 : v39.toInt = w7.toInt + 1 := by rw [← ev39]; exact th_add rfl (by decide) ⟨by omega, by omega⟩
      refine lv_iinc (v := v39) (lv' := [(1, .int v39), (0, .ref a0)]) hx hb dX7_endsBehind_22 hl (k := 1) rfl ev39 (by decide) rfl (fun ls hl => ?_)
      refine lv_goto (tgt := 2) hx hb dX7_endsBehind_25 (by decide) ?_
      exact ih2 _ _ _ _ (by omega) ⟨F30, _, v39, rfl, lv_sub hl [1, 0] rfl, hP, hS, hI, hfr, (fun k hk => (y_fiZ oY35 (s_sub (by decide) hk)).trans (hz0 k hk)), ⟨by omega, by omega⟩, (by rw [y_atE o37]; exact h32.1), rfl⟩
    · have c28 := mt (ax_eq (n := 0) (by decide)).mpr c28
      refine lv_iload_n hx hb dX7_endsBehind_16 rfl (lv_at hl 1 rfl) ?_
      exact W.iret (v := w7) hx hb hr (fun t ht hW => ⟨⟨w7, F21, rfl, ⟨⟨by omega, by omega⟩, trivial, hI, hfr, fun k hk => (y_fiZ oY27 (s_sub (by decide) hk)).trans ((hz0 k hk).trans (y_fiZ oY0 (s_sub (by decide) hk)).symm), (by rw [y_atE o2, y_atE o26]; exact h10)⟩, by rw [ht]; exact hP, va_K.moved hW.alike hK⟩, hS.F ht⟩) hS.2.2 dX7_endsBehind_17
