set_option maxHeartbeats 4000000 in
set_option maxRecDepth 100000 in
theorem yt_X7_later (l : Launch) (dC : Nat → ClassId) (dI : Nat → Nat → Nat) (sz : Nat) {L : List Nat} {K : Nat → Nat} {cs : Nat → ClassId} (hLK : ∀ a {k : Nat}, K a = k → k ≠ 0 → a ∈ L) (A : Nat → Nat) (hA : y_A K A) (F : Nat → va_E) (a0 : Nat) (x1 : Int32) (x2 : Int32) (x3 : Int32) (x4 : Int32) (ha0 : K a0 = 9) (hI : y_I K cs A F) (hT : y_T (y_fi F a0 15) (y_at F (A 13)) (y_at F (A 20)) (y_at F (A 30)) (y_fi F a0 31) (y_fi F a0 32)) : Met l yX7_later (Cond.code yX7_later cX7_later 6 (some .int) :: T0) ({ frames := 8, cells := 0, slots := 0, locals := 188 }) (va_Pc [.ref a0, .int x1, .int x2, .int x3, .int x4] (s_W dC dI sz L F [(cs 0, .int), (cs 1, .byte), (cs 2, .long), (cs 3, .object RX5), (cs 4, .object RX4), (cs 5, .array .int), (cs 6, .char), (cs 7, .boolean)])) (va_Qi (fun (r : Int32) (G : Nat → va_E) => True ∧ True ∧ y_I K cs A G ∧ (∀ b, K b ∉ [70, 71, 72, 73] → G b = F b) ∧ (∀ k, k ∈ ([1, 2, 3, 4, 5, 6, 7, 8, 11, 15, 16, 19, 25, 26, 27, 31, 32] : List Nat) → y_fi G a0 k = y_fi F a0 k) ∧ (y_T (y_fi G a0 15) (y_at G (A 13)) (y_at G (A 20)) (y_at G (A 30)) (y_fi G a0 31) (y_fi G a0 32))) (fun (G : Nat → va_E) (t : State) => va_P (dC, dI) vwCl (va_pl L G) t.heap ∧ va_K (dC, dI) vwCl [(cs 0, .int), (cs 1, .byte), (cs 2, .long), (cs 3, .object RX5), (cs 4, .object RX4), (cs 5, .array .int), (cs 6, .char), (cs 7, .boolean)] t) (fun q => q ∈ L)) 0 0 (fun q => q ∈ L) := by
  refine Met.ofW (cc := cX7_later) (maxL := 6) (ret := (some .int)) (by decide) rfl ?_
  intro p e s m args below meth c s₁ B hml hv
  obtain ⟨rfl, hsz, hP, hK, hD, hN⟩ := hv
  have hx := B.exec
  have hb := B.bytes
  have hr := B.returns
  have hts : ∀ w ∈ T0, w.before _ s = true := fun w h => atoms_spec (ws := Cond.code yX7_later cX7_later 6 (some .int) :: T0) B.pre w (List.mem_cons_of_mem _ h)
  have hown : s.vm.findClass RX7 = some m.cls := findClass_of_methodNamed B.named
  have hlocks := B.notSynchronized
  have hS : va_S (fun q => q ∈ L) s.heap s.heap [] := va_S.rf
  have hfr : ∀ b, K b ∉ [70, 71, 72, 73] → F b = F b := fun _ _ => rfl
  have hl := lv_entry ([.ref a0, .int x1, .int x2, .int x3, .int x4]) (n := 6) (Nat.le_of_ble_eq_true rfl)
  rw [lg_entry_eq]
  generalize (lg_sl ([.ref a0, .int x1, .int x2, .int x3, .int x4]) ++ List.replicate (6 - (lg_sl ([.ref a0, .int x1, .int x2, .int x3, .int x4])).length) Slot.unset).toArray = ls at hl ⊢
  have hl : lv_has ls 6 [(0, .ref a0), (1, .int x1), (2, .int x2), (3, .int x3), (4, .int x4)] := hl
  refine s_gen hP hS (fun H locs hP hS => ?_)
  obtain ⟨z0, q0, oY0, bz0, bq0⟩ := y_opY hI ha0
  have hz0 : ∀ k, k ∈ ([1, 2, 3, 4, 5, 6, 7, 8, 11, 15, 16, 19, 25, 26, 27, 31, 32] : List Nat) → z0 k = z0 k := fun _ _ => rfl
  obtain ⟨f1, o2, b3⟩ := y_op13 hI
  obtain ⟨f4, o5, b6⟩ := y_op20 hI
  obtain ⟨f7, o8, b9⟩ := y_op30 hI
  obtain ⟨v10, ev10⟩ : ∃ y : Int32, y = z0 15 := ⟨_, rfl⟩
  have qv10 : 0 ≤ v10.toInt ∧ v10.toInt ≤ 1 := by rw [ev10]; exact y_bY15 bz0
  have eF_15 := ev10
  obtain ⟨v11, ev11⟩ : ∃ y : Int32, y = z0 31 := ⟨_, rfl⟩
  have qv11 : 0 ≤ v11.toInt ∧ v11.toInt ≤ 20 := by rw [ev11]; exact y_bY31 bz0
  have eF_31 := ev11
  obtain ⟨v12, ev12⟩ : ∃ y : Int32, y = z0 32 := ⟨_, rfl⟩
  have qv12 : 0 ≤ v12.toInt ∧ v12.toInt ≤ 19 := by rw [ev12]; exact y_bY32 bz0
  have eF_32 := ev12
  have hT : y_T v10 f1 f4 f7 v11 v12 := by have q9 := hT; rw [y_fiZ oY0 (k := 15) (by decide), ← ev10, y_atE o2, y_atE o5, y_atE o8, y_fiZ oY0 (k := 31) (by decide), ← ev11, y_fiZ oY0 (k := 32) (by decide), ← ev12] at q9; exact q9
  have e0_v10 := ev10
  have e0_v11 := ev11
  have e0_v12 := ev12
  refine lv_aload_n hx hb dX7_later_0 rfl (lv_at hl 0 rfl) ?_
  refine lv_iload_n hx hb dX7_later_1 rfl (lv_at hl 2 rfl) ?_
  refine lv_iload_n hx hb dX7_later_2 rfl (lv_at hl 3 rfl) ?_
  have ep13_15 := ev10
  refine va_calli (va_runV (As := [.int x2, .int x3]) (rest := []) ⟨hx, hb, hml, hown, hts⟩ (y_X7_isLane l dC dI H.size hLK A hA F a0 x2 x3 ha0 hI (by rw [y_fiZ oY0 (k := 15) (by decide), ← ev10, y_atE o2, y_atE o5, y_atE o8, y_fiZ oY0 (k := 31) (by decide), ← ev11, y_fiZ oY0 (k := 32) (by decide), ← ev12]; exact hT)) (cwV 2 hts (ax_gV T_317 T_318 T_319 T_265 T_35) rfl rfl rfl (by decide +kernel) ⟨Nat.le_of_ble_eq_true rfl, Nat.le_of_ble_eq_true rfl⟩) ⟨fun a U g mk q => ⟨q.1, s_pc (U := U) rfl rfl q.2⟩, s_recv hK hP (hLK _ ha0 (by decide)) (ci := 7) rfl oY0, fun U hU hW => ⟨rfl, s_pw hU hW hP hK hD hN⟩⟩ rfl rfl hl.1 rfl (lv_room (Nat.le_of_ble_eq_true rfl)) dX7_later_3 ⟨Nat.zero_le _, Nat.zero_le _⟩) hS (fun q _ h => h) (fun q h => h) (fun r14 F15 t H1 locs ht hvm hw hB hz1 hk1 hS => ?_)
  obtain ⟨hP, hK1⟩ := hB
  rw [ht] at hP
  generalize H1 = H at hP hS ⊢
  clear hz1 hk1 hvm hK1
  obtain ⟨h16, h18, hI, hfr1, hzf, h17⟩ := hw
  have o19 : F15 (A 13) = .inl (cs 0, 400, .inl f1) := (hfr1 _ (by rw [(y_k13 hA)]; decide)).trans o2
  have o20 : F15 (A 20) = .inl (cs 0, 918, .inl f4) := (hfr1 _ (by rw [(y_k20 hA)]; decide)).trans o5
  have o21 : F15 (A 30) = .inl (cs 0, 18360, .inl f7) := (hfr1 _ (by rw [(y_k30 hA)]; decide)).trans o8
  have oY22 : F15 a0 = .inr (7, y_fl A z0 q0) := (hfr1 _ (by rw [ha0]; decide)).trans oY0
  have hfr : ∀ b, K b ∉ [70, 71, 72, 73] → F15 b = F b := fun b hb9 => (hfr1 b (fun q => hb9 (s_sub (by decide) q))).trans (hfr b hb9)
  have h17 : (r14.toInt = 0 ∨ (v10.toInt = 1 ∧ (0 ≤ x2.toInt ∧ x2.toInt < (y_c f1 384).toInt) ∧ (0 ≤ x3.toInt ∧ x3.toInt ≤ 7))) := by have q9 := h17; rw [y_fiZ oY0 (k := 15) (by decide), ← ep13_15, y_atE o2] at q9; exact q9
  refine lv_if_eq (tgt := 34) hx hb dX7_later_6 (by decide) (fun c23 => ?_) (fun c23 => ?_)
  · have c23 := (ax_eq (n := 0) (by decide)).mp c23
    refine lv_ldc (v := (-1000000)) hx hb hown (hts _ T_316) dX7_later_34 ?_
    have h24 : ((-1000000) : Int32).toInt = (-1000000) := by decide
    exact W.iret (v := (-1000000)) hx hb hr (fun t ht hW => ⟨⟨(-1000000), F15, rfl, ⟨trivial, trivial, hI, hfr, fun k hk => (y_fiZ oY22 (s_sub (by decide) hk)).trans ((hz0 k hk).trans (y_fiZ oY0 (s_sub (by decide) hk)).symm), (by rw [y_fiZ oY22 (k := 15) (by decide), ← ev10, y_atE o19, y_atE o20, y_atE o21, y_fiZ oY22 (k := 31) (by decide), ← ev11, y_fiZ oY22 (k := 32) (by decide), ← ev12]; exact hT)⟩, by rw [ht]; exact hP, va_K.moved hW.alike hK⟩, hS.F ht⟩) hS.2.2 dX7_later_36
  · have c23 := mt (ax_eq (n := 0) (by decide)).mpr c23
    have hln9 := h17.resolve_left c23
    obtain ⟨htd, hPG, hNG, hUG⟩ := y_TT hT (by omega)
    have hL := y_P0L hPG.1
    have hW := y_P0W hPG.1
    have hnn := And.intro hNG.1 (And.intro hNG.2.1 (And.intro hNG.2.2.1 hNG.2.2.2.1))
    refine lv_iload hx hb dX7_later_9 (lv_at hl 4 rfl) ?_
    refine lv_i2l hx hb dX7_later_11 rfl ?_
    refine lv_topl (fun v25 ev25 => ?_)
    have qv25 : v25.toInt = x4.toInt := y_i2l ev25
    refine lv_lconst (v := 0) hx hb dX7_later_12 (by decide) ?_
    refine lv_ldc2 hx hb hown (hts _ T_1238) dX7_later_13 ?_
    refine va_calli (va_runS (As := [.long v25, .long 0, .long 3]) (rest := []) ⟨hx, hb, hml, hown, hts⟩ (y_X7_isIn l dC dI H.size F15 v25 0 3) (cwS 3 hts (ax_gS T_267 T_268 T_265 T_21) rfl rfl rfl (by decide +kernel) ⟨Nat.le_of_ble_eq_true rfl, Nat.le_of_ble_eq_true rfl⟩) ⟨fun a U g mk q => ⟨q.1, s_pc (U := U) rfl rfl q.2⟩, fun U hU hW => ⟨rfl, s_pw hU hW hP hK hD hN⟩⟩ rfl rfl hl.1 rfl (lv_room (Nat.le_of_ble_eq_true rfl)) dX7_later_16 ⟨Nat.zero_le _, Nat.zero_le _⟩) hS (fun q _ h => h) (fun q h => h) (fun r27 F28 t H1 locs ht hvm hw hB hz1 hk1 hS => ?_)
    obtain ⟨hP, hK1⟩ := hB
    rw [ht] at hP
    generalize H1 = H at hP hS ⊢
    clear hz1 hk1 hvm hK1
    obtain ⟨h29, h31, hG9, h30⟩ := hw
    rw [hG9] at hP
    have h30 : ((r27.toInt = 0 ∧ (v25.toInt < 0 ∨ 3 < v25.toInt)) ∨ (r27.toInt = 1 ∧ 0 ≤ v25.toInt ∧ v25.toInt ≤ 3)) := by have q9 := h30; exact q9
    refine lv_if_eq (tgt := 34) hx hb dX7_later_19 (by decide) (fun c32 => ?_) (fun c32 => ?_)
    · have c32 := (ax_eq (n := 0) (by decide)).mp c32
      refine lv_ldc (v := (-1000000)) hx hb hown (hts _ T_316) dX7_later_34 ?_
      have h33 : ((-1000000) : Int32).toInt = (-1000000) := by decide
      exact W.iret (v := (-1000000)) hx hb hr (fun t ht hW => ⟨⟨(-1000000), F15, rfl, ⟨trivial, trivial, hI, hfr, fun k hk => (y_fiZ oY22 (s_sub (by decide) hk)).trans ((hz0 k hk).trans (y_fiZ oY0 (s_sub (by decide) hk)).symm), (by rw [y_fiZ oY22 (k := 15) (by decide), ← ev10, y_atE o19, y_atE o20, y_atE o21, y_fiZ oY22 (k := 31) (by decide), ← ev11, y_fiZ oY22 (k := 32) (by decide), ← ev12]; exact hT)⟩, by rw [ht]; exact hP, va_K.moved hW.alike hK⟩, hS.F ht⟩) hS.2.2 dX7_later_36
    · have c32 := mt (ax_eq (n := 0) (by decide)).mpr c32
      refine lv_iload_n hx hb dX7_later_22 rfl (lv_at hl 1 rfl) ?_
      refine lv_i2l hx hb dX7_later_23 rfl ?_
      refine lv_topl (fun v34 ev34 => ?_)
      have qv34 : v34.toInt = x1.toInt := y_i2l ev34
      refine lv_lconst (v := 0) hx hb dX7_later_24 (by decide) ?_
      refine lv_ldc2 hx hb hown (hts _ T_1094) dX7_later_25 ?_
      refine va_calli (va_runS (As := [.long v34, .long 0, .long 400]) (rest := []) ⟨hx, hb, hml, hown, hts⟩ (y_X7_isIn l dC dI H.size F15 v34 0 400) (cwS 3 hts (ax_gS T_267 T_268 T_265 T_21) rfl rfl rfl (by decide +kernel) ⟨Nat.le_of_ble_eq_true rfl, Nat.le_of_ble_eq_true rfl⟩) ⟨fun a U g mk q => ⟨q.1, s_pc (U := U) rfl rfl q.2⟩, fun U hU hW => ⟨rfl, s_pw hU hW hP hK hD hN⟩⟩ rfl rfl hl.1 rfl (lv_room (Nat.le_of_ble_eq_true rfl)) dX7_later_28 ⟨Nat.zero_le _, Nat.zero_le _⟩) hS (fun q _ h => h) (fun q h => h) (fun r36 F37 t H1 locs ht hvm hw hB hz1 hk1 hS => ?_)
      obtain ⟨hP, hK1⟩ := hB
      rw [ht] at hP
      generalize H1 = H at hP hS ⊢
      clear hz1 hk1 hvm hK1
      obtain ⟨h38, h40, hG9, h39⟩ := hw
      rw [hG9] at hP
      have h39 : ((r36.toInt = 0 ∧ (v34.toInt < 0 ∨ 400 < v34.toInt)) ∨ (r36.toInt = 1 ∧ 0 ≤ v34.toInt ∧ v34.toInt ≤ 400)) := by have q9 := h39; exact q9
      refine lv_if_ne (tgt := 37) hx hb dX7_later_31 (by decide) (fun c41 => ?_) (fun c41 => ?_)
      · have c41 := mt (ax_eq (n := 0) (by decide)).mpr c41
        refine lv_aload_n hx hb dX7_later_37 rfl (lv_at hl 0 rfl) ?_
        refine va_callv (va_runV (As := []) (rest := []) ⟨hx, hb, hml, hown, hts⟩ (y_X7_putsAside l dC dI H.size hLK A hA F15 a0 ha0 hI) (cwV 0 hts (ax_gV T_1041 T_1043 T_1044 T_265 T_1042) rfl rfl rfl (by decide +kernel) ⟨Nat.le_of_ble_eq_true rfl, Nat.le_of_ble_eq_true rfl⟩) ⟨fun a U g mk q => ⟨q.1, s_pc (U := U) rfl rfl q.2⟩, s_recv hK hP (hLK _ ha0 (by decide)) (ci := 7) rfl oY22, fun U hU hW => ⟨rfl, s_pw hU hW hP hK hD hN⟩⟩ rfl rfl hl.1 rfl (lv_room (Nat.le_of_ble_eq_true rfl)) dX7_later_38 ⟨Nat.zero_le _, Nat.zero_le _⟩) hS (fun q _ h => h) (fun q h => h) (fun F43 t H1 locs ht hvm hw hB hz1 hk1 hS => ?_)
        obtain ⟨hP, hK1⟩ := hB
        rw [ht] at hP
        generalize H1 = H at hP hS ⊢
        clear hz1 hk1 hvm hK1
        obtain ⟨h44, h46, hI, hfr1, hzf, h45⟩ := hw
        have o47 : F43 (A 13) = .inl (cs 0, 400, .inl f1) := (hfr1 _ (by rw [(y_k13 hA)]; decide)).trans o19
        have o48 : F43 (A 20) = .inl (cs 0, 918, .inl f4) := (hfr1 _ (by rw [(y_k20 hA)]; decide)).trans o20
        have o49 : F43 (A 30) = .inl (cs 0, 18360, .inl f7) := (hfr1 _ (by rw [(y_k30 hA)]; decide)).trans o21
        have oY50 : F43 a0 = .inr (7, y_fl A z0 q0) := (hfr1 _ (by rw [ha0]; decide)).trans oY22
        have hfr : ∀ b, K b ∉ [70, 71, 72, 73] → F43 b = F b := fun b hb9 => (hfr1 b (fun q => hb9 (s_sub (by decide) q))).trans (hfr b hb9)
        obtain ⟨f51, o52, b53⟩ := y_op23 hI
        have h45 : (y_CP f4 f51) := by have q9 := h45; rw [y_atE o20, y_atE o52] at q9; exact q9
        refine lv_iconst (v := 0) hx hb dX7_later_41 (by decide) ?_
        refine lv_istore (lv' := [(5, .int 0), (0, .ref a0), (1, .int x1), (2, .int x2), (3, .int x3), (4, .int x4)]) hx hb dX7_later_42 hl (by decide) rfl (fun ls hl => ?_)
        have h55 : (0 : Int32).toInt = 0 := by decide
        refine th_loop (fun n g H locs => ∃ (G : Nat → va_E) (ls : Array Slot) (w54 : Int32), g = F0 m 44 ls [] ∧ lv_has ls 6 [(0, .ref a0), (1, .int x1), (2, .int x2), (3, .int x3), (4, .int x4), (5, .int w54)] ∧ va_P (dC, dI) vwCl (va_pl L G) H ∧ va_S (fun q => q ∈ L) s.heap H locs ∧ y_I K cs A G ∧ (∀ b, K b ∉ [70, 71, 72, 73] → G b = F b) ∧ (∀ k, k ∈ ([1, 2, 3, 4, 5, 6, 7, 8, 11, 15, 16, 19, 25, 26, 27, 31, 32] : List Nat) → y_fi G a0 k = z0 k) ∧ (0 ≤ w54.toInt ∧ w54.toInt ≤ 400) ∧ (y_NG f1 (y_at G (A 20))) ∧ (y_CP f4 (y_at G (A 23))) ∧ n = (401 - w54.toInt).toNat) _ ⟨F43, _, 0, rfl, lv_sub hl [1, 2, 3, 4, 5, 0] rfl, hP, hS, hI, hfr, (fun k hk => (y_fiZ oY50 (s_sub (by decide) hk)).trans (hz0 k hk)), (by decide), (by rw [y_atE o48]; exact hNG), (by rw [y_atE o52]; exact h45), rfl⟩ (fun n ih44 g H locs hq => ?_)
        obtain ⟨F59, ls, w54, rfl, hl, hP, hS, hI, hfr, hz0, h56, h57, h58, hn⟩ := hq
        have o60 : F59 (A 13) = .inl (cs 0, 400, .inl f1) := (hfr _ (by rw [(y_k13 hA)]; decide)).trans o2
        have o61 : F59 (A 30) = .inl (cs 0, 18360, .inl f7) := (hfr _ (by rw [(y_k30 hA)]; decide)).trans o8
        have oY62 : F59 a0 = .inr (7, y_fl A z0 q0) := (hfr _ (by rw [ha0]; decide)).trans oY0
        have hz0 : ∀ k, k ∈ ([1, 2, 3, 4, 5, 6, 7, 8, 11, 15, 16, 19, 25, 26, 27, 31, 32] : List Nat) → z0 k = z0 k := fun _ _ => rfl
        obtain ⟨f63, o64, b65⟩ := y_op20 hI
        have h57 : (y_NG f1 f63) := by have q9 := h57; rw [y_atE o64] at q9; exact q9
        obtain ⟨f66, o67, b68⟩ := y_op23 hI
        have h58 : (y_CP f4 f66) := by have q9 := h58; rw [y_atE o67] at q9; exact q9
        have hn_68 := hn
        refine lv_iload hx hb dX7_later_44 (lv_at hl 5 rfl) ?_
        refine lv_iload_n hx hb dX7_later_46 rfl (lv_at hl 1 rfl) ?_
        have h69 : 0 ≤ x1.toInt ∧ x1.toInt ≤ 400 := ⟨by omega, by omega⟩
        refine lv_icmp_ge (tgt := 60) hx hb dX7_later_47 (by decide) (fun c70 => ?_) (fun c70 => ?_)
        · have c70 := Int32.le_iff_toInt_le.mp c70
          refine lv_aload_n hx hb dX7_later_60 rfl (lv_at hl 0 rfl) ?_
          refine th_get (D := (dC, dI)) (ci := 7) (v := .ref (A 20)) (C := RX7) (T := TX7) (N := 34) hx hb hts inX7 hown hK hP (hLK _ ha0 (by decide)) oY62 rfl 20 (by decide) (hts _ T_251) (fun _ h9 => h9) rfl dX7_later_61 ?_
          refine lv_iload_n hx hb dX7_later_64 rfl (lv_at hl 2 rfl) ?_
          refine lv_iload_n hx hb dX7_later_65 rfl (lv_at hl 3 rfl) ?_
          refine lv_iload hx hb dX7_later_66 (lv_at hl 4 rfl) ?_
          have rg71 : 0 ≤ x2.toInt ∧ x2.toInt ≤ 3 := ⟨by omega, by omega⟩
          have rg72 : 0 ≤ x3.toInt ∧ x3.toInt ≤ 7 := ⟨by omega, by omega⟩
          have rg73 : 0 ≤ x4.toInt ∧ x4.toInt ≤ 3 := ⟨by omega, by omega⟩
          refine va_calli (va_runS (As := [.int x2, .int x3, .int x4]) (rest := [.ref (A 20)]) ⟨hx, hb, hml, hown, hts⟩ (y_X7_registerAt l dC dI H.size F59 x2 x3 x4 rg71 rg72 rg73) (cwS 3 hts (ax_gS T_1095 T_1097 T_265 T_1096) rfl rfl rfl (by decide +kernel) ⟨Nat.le_of_ble_eq_true rfl, Nat.le_of_ble_eq_true rfl⟩) ⟨fun a U g mk q => ⟨q.1, s_pc (U := U) rfl rfl q.2⟩, fun U hU hW => ⟨rfl, s_pw hU hW hP hK hD hN⟩⟩ rfl rfl hl.1 rfl (lv_room (Nat.le_of_ble_eq_true rfl)) dX7_later_68 ⟨Nat.zero_le _, Nat.zero_le _⟩) hS (fun q _ h => h) (fun q h => h) (fun r75 F76 t H1 locs ht hvm hw hB hz1 hk1 hS => ?_)
          obtain ⟨hP, hK1⟩ := hB
          rw [ht] at hP
          generalize H1 = H at hP hS ⊢
          clear hz1 hk1 hvm hK1
          obtain ⟨h77, h79, hG9, h78⟩ := hw
          rw [hG9] at hP
          have h78 : (r75.toInt = 128 + 32 * x2.toInt + 4 * x3.toInt + x4.toInt) := by have q9 := h78; exact q9
          refine th_iald hx hb hK hP (hLK _ (y_k20 hA) (by decide)) 0 o64 rfl (th_in ⟨by omega, by omega⟩) dX7_later_71 ?_
          refine lv_topi (fun v80 ev80 => ?_)
          refine lv_istore (lv' := [(5, .int v80), (0, .ref a0), (1, .int x1), (2, .int x2), (3, .int x3), (4, .int x4)]) hx hb dX7_later_72 hl (by decide) rfl (fun ls hl => ?_)
          refine lv_aload_n hx hb dX7_later_74 rfl (lv_at hl 1 rfl) ?_
          refine va_callv (va_runV (As := []) (rest := []) ⟨hx, hb, hml, hown, hts⟩ (y_X7_takesBack l dC dI H.size hLK A hA F59 a0 ha0 hI) (cwV 0 hts (ax_gV T_1049 T_1051 T_1052 T_265 T_1050) rfl rfl rfl (by decide +kernel) ⟨Nat.le_of_ble_eq_true rfl, Nat.le_of_ble_eq_true rfl⟩) ⟨fun a U g mk q => ⟨q.1, s_pc (U := U) rfl rfl q.2⟩, s_recv hK hP (hLK _ ha0 (by decide)) (ci := 7) rfl oY62, fun U hU hW => ⟨rfl, s_pw hU hW hP hK hD hN⟩⟩ rfl rfl hl.1 rfl (lv_room (Nat.le_of_ble_eq_true rfl)) dX7_later_75 ⟨Nat.zero_le _, Nat.zero_le _⟩) hS (fun q _ h => h) (fun q h => h) (fun F82 t H1 locs ht hvm hw hB hz1 hk1 hS => ?_)
          obtain ⟨hP, hK1⟩ := hB
          rw [ht] at hP
          generalize H1 = H at hP hS ⊢
          clear hz1 hk1 hvm hK1
          obtain ⟨h83, h85, hI, hfr1, hzf, h84⟩ := hw
          have o86 : F82 (A 13) = .inl (cs 0, 400, .inl f1) := (hfr1 _ (by rw [(y_k13 hA)]; decide)).trans o60
          have o87 : F82 (A 30) = .inl (cs 0, 18360, .inl f7) := (hfr1 _ (by rw [(y_k30 hA)]; decide)).trans o61
          have o88 : F82 (A 23) = .inl (cs 0, 918, .inl f66) := (hfr1 _ (by rw [(y_k23 hA)]; decide)).trans o67
          have oY89 : F82 a0 = .inr (7, y_fl A z0 q0) := (hfr1 _ (by rw [ha0]; decide)).trans oY62
          have hfr : ∀ b, K b ∉ [70, 71, 72, 73] → F82 b = F b := fun b hb9 => (hfr1 b (fun q => hb9 (s_sub (by decide) q))).trans (hfr b hb9)
          obtain ⟨f90, o91, b92⟩ := y_op20 hI
          have h84 : (y_CP f66 f90) := by have q9 := h84; rw [y_atE o67, y_atE o91] at q9; exact q9
          refine lv_iload hx hb dX7_later_78 (lv_at hl 0 rfl) ?_
          exact W.iret (v := v80) hx hb hr (fun t ht hW => ⟨⟨v80, F82, rfl, ⟨trivial, trivial, hI, hfr, fun k hk => (y_fiZ oY89 (s_sub (by decide) hk)).trans ((hz0 k hk).trans (y_fiZ oY0 (s_sub (by decide) hk)).symm), (by rw [y_fiZ oY89 (k := 15) (by decide), ← ev10, y_atE o86, y_atE o91, y_atE o87, y_fiZ oY89 (k := 31) (by decide), ← ev11, y_fiZ oY89 (k := 32) (by decide), ← ev12]; exact (y_Tc (y_CP_t h58 h84) hT))⟩, by rw [ht]; exact hP, va_K.moved hW.alike hK⟩, hS.F ht⟩) hS.2.2 dX7_later_80
        · have c70 := mt Int32.le_iff_toInt_le.mpr c70
          refine lv_aload_n hx hb dX7_later_50 rfl (lv_at hl 0 rfl) ?_
          refine va_callv (va_runV (As := []) (rest := []) ⟨hx, hb, hml, hown, hts⟩ (y_X7_aCycle l dC dI H.size hLK A hA F59 a0 ha0 hI (by rw [y_atE o60]; exact hPG) (by rw [y_atE o60, y_atE o64]; exact h57)) (cwV 0 hts (ax_gV T_1070 T_1072 T_1073 T_265 T_1071) rfl rfl rfl (by decide +kernel) ⟨Nat.le_of_ble_eq_true rfl, Nat.le_of_ble_eq_true rfl⟩) ⟨fun a U g mk q => ⟨q.1, s_pc (U := U) rfl rfl q.2⟩, s_recv hK hP (hLK _ ha0 (by decide)) (ci := 7) rfl oY62, fun U hU hW => ⟨rfl, s_pw hU hW hP hK hD hN⟩⟩ rfl rfl hl.1 rfl (lv_room (Nat.le_of_ble_eq_true rfl)) dX7_later_51 ⟨Nat.zero_le _, Nat.zero_le _⟩) hS (fun q _ h => h) (fun q h => h) (fun F94 t H1 locs ht hvm hw hB hz1 hk1 hS => ?_)
          obtain ⟨hP, hK1⟩ := hB
          rw [ht] at hP
          generalize H1 = H at hP hS ⊢
          clear hz1 hk1 hvm hK1
          obtain ⟨h95, h97, hI, hfr1, hzf, h96⟩ := hw
          have o98 : F94 (A 13) = .inl (cs 0, 400, .inl f1) := (hfr1 _ (by rw [(y_k13 hA)]; decide)).trans o60
          have o99 : F94 (A 30) = .inl (cs 0, 18360, .inl f7) := (hfr1 _ (by rw [(y_k30 hA)]; decide)).trans o61
          have o100 : F94 (A 23) = .inl (cs 0, 918, .inl f66) := (hfr1 _ (by rw [(y_k23 hA)]; decide)).trans o67
          have oY101 : F94 a0 = .inr (7, y_fl A z0 q0) := (hfr1 _ (by rw [ha0]; decide)).trans oY62
          have hfr : ∀ b, K b ∉ [70, 71, 72, 73] → F94 b = F b := fun b hb9 => (hfr1 b (fun q => hb9 (s_sub (by decide) q))).trans (hfr b hb9)
          obtain ⟨f102, o103, b104⟩ := y_op20 hI
          have h96 : (y_NG f1 f102 ∧ y_c f102 3 = y_c f63 3 ∧ y_c f102 4 = y_c f63 4) := by have q9 := h96; rw [y_atE o60, y_atE o103, y_atE o64] at q9; exact q9
          obtain ⟨v105, ev105⟩ : ∃ y : Int32, w54 + 1 = y := ⟨_, rfl⟩
          have qv105 : v105.toInt = w54.toInt + 1 := by rw [← ev105]; exact th_add rfl (by decide) ⟨by omega, by omega⟩
          refine lv_iinc (v := v105) (lv' := [(5, .int v105), (0, .ref a0), (1, .int x1), (2, .int x2), (3, .int x3), (4, .int x4)]) hx hb dX7_later_54 hl (k := 5) rfl ev105 (by decide) rfl (fun ls hl => ?_)
          refine lv_goto (tgt := 44) hx hb dX7_later_57 (by decide) ?_
          exact ih44 _ _ _ _ (by omega) ⟨F94, _, v105, rfl, lv_sub hl [1, 2, 3, 4, 5, 0] rfl, hP, hS, hI, hfr, (fun k hk => (y_fiZ oY101 (s_sub (by decide) hk)).trans (hz0 k hk)), ⟨by omega, by omega⟩, (by rw [y_atE o103]; exact h96.1), (by rw [y_atE o100]; exact h58), rfl⟩
      · have c41 := (ax_eq (n := 0) (by decide)).mp c41
        refine lv_ldc (v := (-1000000)) hx hb hown (hts _ T_316) dX7_later_34 ?_
        have h106 : ((-1000000) : Int32).toInt = (-1000000) := by decide
        exact W.iret (v := (-1000000)) hx hb hr (fun t ht hW => ⟨⟨(-1000000), F15, rfl, ⟨trivial, trivial, hI, hfr, fun k hk => (y_fiZ oY22 (s_sub (by decide) hk)).trans ((hz0 k hk).trans (y_fiZ oY0 (s_sub (by decide) hk)).symm), (by rw [y_fiZ oY22 (k := 15) (by decide), ← ev10, y_atE o19, y_atE o20, y_atE o21, y_fiZ oY22 (k := 31) (by decide), ← ev11, y_fiZ oY22 (k := 32) (by decide), ← ev12]; exact hT)⟩, by rw [ht]; exact hP, va_K.moved hW.alike hK⟩, hS.F ht⟩) hS.2.2 dX7_later_36

set_option maxHeartbeats 4000000 in
set_option maxRecDepth 100000 in
theorem yt_X7_by (l : Launch) (dC : Nat → ClassId) (dI : Nat → Nat → Nat) (sz : Nat) {L : List Nat} {K : Nat → Nat} {cs : Nat → ClassId} (hLK : ∀ a {k : Nat}, K a = k → k ≠ 0 → a ∈ L) (A : Nat → Nat) (hA : y_A K A) (F : Nat → va_E) (a0 : Nat) (x1 : Int32) (x2 : Int32) (x3 : Int32) (ha0 : K a0 = 9) (hI : y_I K cs A F) (hT : y_T (y_fi F a0 15) (y_at F (A 13)) (y_at F (A 20)) (y_at F (A 30)) (y_fi F a0 31) (y_fi F a0 32)) : Met l yX7_by (Cond.code yX7_by cX7_by 4 (some .int) :: T0) ({ frames := 9, cells := 0, slots := 0, locals := 208 }) (va_Pc [.ref a0, .int x1, .int x2, .int x3] (s_W dC dI sz L F [(cs 0, .int), (cs 1, .byte), (cs 2, .long), (cs 3, .object RX5), (cs 4, .object RX4), (cs 5, .array .int), (cs 6, .char), (cs 7, .boolean)])) (va_Qi (fun (r : Int32) (G : Nat → va_E) => True ∧ True ∧ y_I K cs A G ∧ (∀ b, K b ∉ [9, 70, 71, 72, 73, 74] → G b = F b) ∧ (∀ k, k ∈ ([1, 2, 3, 4, 5, 6, 7, 8, 11, 15, 16, 19, 31, 32] : List Nat) → y_fi G a0 k = y_fi F a0 k) ∧ (y_T (y_fi G a0 15) (y_at G (A 13)) (y_at G (A 20)) (y_at G (A 30)) (y_fi G a0 31) (y_fi G a0 32))) (fun (G : Nat → va_E) (t : State) => va_P (dC, dI) vwCl (va_pl L G) t.heap ∧ va_K (dC, dI) vwCl [(cs 0, .int), (cs 1, .byte), (cs 2, .long), (cs 3, .object RX5), (cs 4, .object RX4), (cs 5, .array .int), (cs 6, .char), (cs 7, .boolean)] t) (fun q => q ∈ L)) 0 0 (fun q => q ∈ L) := by
  refine Met.ofW (cc := cX7_by) (maxL := 4) (ret := (some .int)) (by decide) rfl ?_
  intro p e s m args below meth c s₁ B hml hv
  obtain ⟨rfl, hsz, hP, hK, hD, hN⟩ := hv
  have hx := B.exec
  have hb := B.bytes
  have hr := B.returns
  have hts : ∀ w ∈ T0, w.before _ s = true := fun w h => atoms_spec (ws := Cond.code yX7_by cX7_by 4 (some .int) :: T0) B.pre w (List.mem_cons_of_mem _ h)
  have hown : s.vm.findClass RX7 = some m.cls := findClass_of_methodNamed B.named
  have hlocks := B.notSynchronized
  have hS : va_S (fun q => q ∈ L) s.heap s.heap [] := va_S.rf
  have hfr : ∀ b, K b ∉ [9, 70, 71, 72, 73, 74] → F b = F b := fun _ _ => rfl
  have hl := lv_entry ([.ref a0, .int x1, .int x2, .int x3]) (n := 4) (Nat.le_of_ble_eq_true rfl)
  rw [lg_entry_eq]
  generalize (lg_sl ([.ref a0, .int x1, .int x2, .int x3]) ++ List.replicate (4 - (lg_sl ([.ref a0, .int x1, .int x2, .int x3])).length) Slot.unset).toArray = ls at hl ⊢
  have hl : lv_has ls 4 [(0, .ref a0), (1, .int x1), (2, .int x2), (3, .int x3)] := hl
  refine s_gen hP hS (fun H locs hP hS => ?_)
  obtain ⟨z0, q0, oY0, bz0, bq0⟩ := y_opY hI ha0
  have hz0 : ∀ k, k ∈ ([1, 2, 3, 4, 5, 6, 7, 8, 11, 15, 16, 19, 31, 32] : List Nat) → z0 k = z0 k := fun _ _ => rfl
  obtain ⟨f1, o2, b3⟩ := y_op13 hI
  obtain ⟨f4, o5, b6⟩ := y_op20 hI
  obtain ⟨f7, o8, b9⟩ := y_op30 hI
  obtain ⟨v10, ev10⟩ : ∃ y : Int32, y = z0 15 := ⟨_, rfl⟩
  have qv10 : 0 ≤ v10.toInt ∧ v10.toInt ≤ 1 := by rw [ev10]; exact y_bY15 bz0
  have eF_15 := ev10
  obtain ⟨v11, ev11⟩ : ∃ y : Int32, y = z0 31 := ⟨_, rfl⟩
  have qv11 : 0 ≤ v11.toInt ∧ v11.toInt ≤ 20 := by rw [ev11]; exact y_bY31 bz0
  have eF_31 := ev11
  obtain ⟨v12, ev12⟩ : ∃ y : Int32, y = z0 32 := ⟨_, rfl⟩
  have qv12 : 0 ≤ v12.toInt ∧ v12.toInt ≤ 19 := by rw [ev12]; exact y_bY32 bz0
  have eF_32 := ev12
  have hT : y_T v10 f1 f4 f7 v11 v12 := by have q9 := hT; rw [y_fiZ oY0 (k := 15) (by decide), ← ev10, y_atE o2, y_atE o5, y_atE o8, y_fiZ oY0 (k := 31) (by decide), ← ev11, y_fiZ oY0 (k := 32) (by decide), ← ev12] at q9; exact q9
  have e0_v10 := ev10
  have e0_v11 := ev11
  have e0_v12 := ev12
  refine lv_aload_n hx hb dX7_by_0 rfl (lv_at hl 0 rfl) ?_
  refine th_get (D := (dC, dI)) (ci := 7) (v := .int (z0 15)) (C := RX7) (T := TX7) (N := 34) hx hb hts inX7 hown hK hP (hLK _ ha0 (by decide)) oY0 rfl 15 (by decide) (hts _ T_271) (fun _ h9 => h9) rfl dX7_by_1 ?_
  refine ax_eqi (y := v10) ev10.symm ?_
  refine lv_if_eq (tgt := 39) hx hb dX7_by_4 (by decide) (fun c13 => ?_) (fun c13 => ?_)
  · have c13 := (ax_eq (n := 0) (by decide)).mp c13
    refine lv_iconst (v := (-1)) hx hb dX7_by_39 (by decide) ?_
    have h14 : ((-1) : Int32).toInt = (-1) := by decide
    exact W.iret (v := (-1)) hx hb hr (fun t ht hW => ⟨⟨(-1), F, rfl, ⟨trivial, trivial, hI, hfr, fun k hk => (y_fiZ oY0 (s_sub (by decide) hk)).trans ((hz0 k hk).trans (y_fiZ oY0 (s_sub (by decide) hk)).symm), (by rw [y_fiZ oY0 (k := 15) (by decide), ← ev10, y_atE o2, y_atE o5, y_atE o8, y_fiZ oY0 (k := 31) (by decide), ← ev11, y_fiZ oY0 (k := 32) (by decide), ← ev12]; exact hT)⟩, by rw [ht]; exact hP, va_K.moved hW.alike hK⟩, hS.F ht⟩) hS.2.2 dX7_by_40
  · have c13 := mt (ax_eq (n := 0) (by decide)).mpr c13
    obtain ⟨htd, hPG, hNG, hUG⟩ := y_TT hT (by omega)
    have hL := y_P0L hPG.1
    have hW := y_P0W hPG.1
    have hnn := And.intro hNG.1 (And.intro hNG.2.1 (And.intro hNG.2.2.1 hNG.2.2.2.1))
    refine lv_iload_n hx hb dX7_by_7 rfl (lv_at hl 1 rfl) ?_
    refine lv_i2l hx hb dX7_by_8 rfl ?_
    refine lv_topl (fun v15 ev15 => ?_)
    have qv15 : v15.toInt = x1.toInt := y_i2l ev15
    refine lv_lconst (v := 0) hx hb dX7_by_9 (by decide) ?_
    refine lv_lconst (v := 1) hx hb dX7_by_10 (by decide) ?_
    refine va_calli (va_runS (As := [.long v15, .long 0, .long 1]) (rest := []) ⟨hx, hb, hml, hown, hts⟩ (y_X7_isIn l dC dI H.size F v15 0 1) (cwS 3 hts (ax_gS T_267 T_268 T_265 T_21) rfl rfl rfl (by decide +kernel) ⟨Nat.le_of_ble_eq_true rfl, Nat.le_of_ble_eq_true rfl⟩) ⟨fun a U g mk q => ⟨q.1, s_pc (U := U) rfl rfl q.2⟩, fun U hU hW => ⟨rfl, s_pw hU hW hP hK hD hN⟩⟩ rfl rfl hl.1 rfl (lv_room (Nat.le_of_ble_eq_true rfl)) dX7_by_11 ⟨Nat.zero_le _, Nat.zero_le _⟩) hS (fun q _ h => h) (fun q h => h) (fun r17 F18 t H1 locs ht hvm hw hB hz1 hk1 hS => ?_)
    obtain ⟨hP, hK1⟩ := hB
    rw [ht] at hP
    generalize H1 = H at hP hS ⊢
    clear hz1 hk1 hvm hK1
    obtain ⟨h19, h21, hG9, h20⟩ := hw
    rw [hG9] at hP
    have h20 : ((r17.toInt = 0 ∧ (v15.toInt < 0 ∨ 1 < v15.toInt)) ∨ (r17.toInt = 1 ∧ 0 ≤ v15.toInt ∧ v15.toInt ≤ 1)) := by have q9 := h20; exact q9
    refine lv_if_eq (tgt := 39) hx hb dX7_by_14 (by decide) (fun c22 => ?_) (fun c22 => ?_)
    · have c22 := (ax_eq (n := 0) (by decide)).mp c22
      refine lv_iconst (v := (-1)) hx hb dX7_by_39 (by decide) ?_
      have h23 : ((-1) : Int32).toInt = (-1) := by decide
      exact W.iret (v := (-1)) hx hb hr (fun t ht hW => ⟨⟨(-1), F, rfl, ⟨trivial, trivial, hI, hfr, fun k hk => (y_fiZ oY0 (s_sub (by decide) hk)).trans ((hz0 k hk).trans (y_fiZ oY0 (s_sub (by decide) hk)).symm), (by rw [y_fiZ oY0 (k := 15) (by decide), ← ev10, y_atE o2, y_atE o5, y_atE o8, y_fiZ oY0 (k := 31) (by decide), ← ev11, y_fiZ oY0 (k := 32) (by decide), ← ev12]; exact hT)⟩, by rw [ht]; exact hP, va_K.moved hW.alike hK⟩, hS.F ht⟩) hS.2.2 dX7_by_40
    · have c22 := mt (ax_eq (n := 0) (by decide)).mpr c22
      refine lv_iload_n hx hb dX7_by_17 rfl (lv_at hl 2 rfl) ?_
      refine lv_i2l hx hb dX7_by_18 rfl ?_
      refine lv_topl (fun v24 ev24 => ?_)
      have qv24 : v24.toInt = x2.toInt := y_i2l ev24
      refine lv_lconst (v := 0) hx hb dX7_by_19 (by decide) ?_
      refine lv_lconst (v := 1) hx hb dX7_by_20 (by decide) ?_
      refine va_calli (va_runS (As := [.long v24, .long 0, .long 1]) (rest := []) ⟨hx, hb, hml, hown, hts⟩ (y_X7_isIn l dC dI H.size F v24 0 1) (cwS 3 hts (ax_gS T_267 T_268 T_265 T_21) rfl rfl rfl (by decide +kernel) ⟨Nat.le_of_ble_eq_true rfl, Nat.le_of_ble_eq_true rfl⟩) ⟨fun a U g mk q => ⟨q.1, s_pc (U := U) rfl rfl q.2⟩, fun U hU hW => ⟨rfl, s_pw hU hW hP hK hD hN⟩⟩ rfl rfl hl.1 rfl (lv_room (Nat.le_of_ble_eq_true rfl)) dX7_by_21 ⟨Nat.zero_le _, Nat.zero_le _⟩) hS (fun q _ h => h) (fun q h => h) (fun r26 F27 t H1 locs ht hvm hw hB hz1 hk1 hS => ?_)
      obtain ⟨hP, hK1⟩ := hB
      rw [ht] at hP
      generalize H1 = H at hP hS ⊢
      clear hz1 hk1 hvm hK1
      obtain ⟨h28, h30, hG9, h29⟩ := hw
      rw [hG9] at hP
      have h29 : ((r26.toInt = 0 ∧ (v24.toInt < 0 ∨ 1 < v24.toInt)) ∨ (r26.toInt = 1 ∧ 0 ≤ v24.toInt ∧ v24.toInt ≤ 1)) := by have q9 := h29; exact q9
      refine lv_if_eq (tgt := 39) hx hb dX7_by_24 (by decide) (fun c31 => ?_) (fun c31 => ?_)
      · have c31 := (ax_eq (n := 0) (by decide)).mp c31
        refine lv_iconst (v := (-1)) hx hb dX7_by_39 (by decide) ?_
        have h32 : ((-1) : Int32).toInt = (-1) := by decide
        exact W.iret (v := (-1)) hx hb hr (fun t ht hW => ⟨⟨(-1), F, rfl, ⟨trivial, trivial, hI, hfr, fun k hk => (y_fiZ oY0 (s_sub (by decide) hk)).trans ((hz0 k hk).trans (y_fiZ oY0 (s_sub (by decide) hk)).symm), (by rw [y_fiZ oY0 (k := 15) (by decide), ← ev10, y_atE o2, y_atE o5, y_atE o8, y_fiZ oY0 (k := 31) (by decide), ← ev11, y_fiZ oY0 (k := 32) (by decide), ← ev12]; exact hT)⟩, by rw [ht]; exact hP, va_K.moved hW.alike hK⟩, hS.F ht⟩) hS.2.2 dX7_by_40
      · have c31 := mt (ax_eq (n := 0) (by decide)).mpr c31
        refine lv_iload_n hx hb dX7_by_27 rfl (lv_at hl 3 rfl) ?_
        refine lv_i2l hx hb dX7_by_28 rfl ?_
        refine lv_topl (fun v33 ev33 => ?_)
        have qv33 : v33.toInt = x3.toInt := y_i2l ev33
        refine lv_lconst (v := 0) hx hb dX7_by_29 (by decide) ?_
        refine lv_ldc2 hx hb hown (hts _ T_1040) dX7_by_30 ?_
        refine va_calli (va_runS (As := [.long v33, .long 0, .long 2]) (rest := []) ⟨hx, hb, hml, hown, hts⟩ (y_X7_isIn l dC dI H.size F v33 0 2) (cwS 3 hts (ax_gS T_267 T_268 T_265 T_21) rfl rfl rfl (by decide +kernel) ⟨Nat.le_of_ble_eq_true rfl, Nat.le_of_ble_eq_true rfl⟩) ⟨fun a U g mk q => ⟨q.1, s_pc (U := U) rfl rfl q.2⟩, fun U hU hW => ⟨rfl, s_pw hU hW hP hK hD hN⟩⟩ rfl rfl hl.1 rfl (lv_room (Nat.le_of_ble_eq_true rfl)) dX7_by_33 ⟨Nat.zero_le _, Nat.zero_le _⟩) hS (fun q _ h => h) (fun q h => h) (fun r35 F36 t H1 locs ht hvm hw hB hz1 hk1 hS => ?_)
        obtain ⟨hP, hK1⟩ := hB
        rw [ht] at hP
        generalize H1 = H at hP hS ⊢
        clear hz1 hk1 hvm hK1
        obtain ⟨h37, h39, hG9, h38⟩ := hw
        rw [hG9] at hP
        have h38 : ((r35.toInt = 0 ∧ (v33.toInt < 0 ∨ 2 < v33.toInt)) ∨ (r35.toInt = 1 ∧ 0 ≤ v33.toInt ∧ v33.toInt ≤ 2)) := by have q9 := h38; exact q9
        refine lv_if_ne (tgt := 41) hx hb dX7_by_36 (by decide) (fun c40 => ?_) (fun c40 => ?_)
        · have c40 := mt (ax_eq (n := 0) (by decide)).mpr c40
          refine lv_aload_n hx hb dX7_by_41 rfl (lv_at hl 0 rfl) ?_
          refine va_callv (va_runV (As := []) (rest := []) ⟨hx, hb, hml, hown, hts⟩ (y_X7_putsAside l dC dI H.size hLK A hA F a0 ha0 hI) (cwV 0 hts (ax_gV T_1041 T_1043 T_1044 T_265 T_1042) rfl rfl rfl (by decide +kernel) ⟨Nat.le_of_ble_eq_true rfl, Nat.le_of_ble_eq_true rfl⟩) ⟨fun a U g mk q => ⟨q.1, s_pc (U := U) rfl rfl q.2⟩, s_recv hK hP (hLK _ ha0 (by decide)) (ci := 7) rfl oY0, fun U hU hW => ⟨rfl, s_pw hU hW hP hK hD hN⟩⟩ rfl rfl hl.1 rfl (lv_room (Nat.le_of_ble_eq_true rfl)) dX7_by_42 ⟨Nat.zero_le _, Nat.zero_le _⟩) hS (fun q _ h => h) (fun q h => h) (fun F42 t H1 locs ht hvm hw hB hz1 hk1 hS => ?_)
          obtain ⟨hP, hK1⟩ := hB
          rw [ht] at hP
          generalize H1 = H at hP hS ⊢
          clear hz1 hk1 hvm hK1
          obtain ⟨h43, h45, hI, hfr1, hzf, h44⟩ := hw
          have o46 : F42 (A 13) = .inl (cs 0, 400, .inl f1) := (hfr1 _ (by rw [(y_k13 hA)]; decide)).trans o2
          have o47 : F42 (A 20) = .inl (cs 0, 918, .inl f4) := (hfr1 _ (by rw [(y_k20 hA)]; decide)).trans o5
          have o48 : F42 (A 30) = .inl (cs 0, 18360, .inl f7) := (hfr1 _ (by rw [(y_k30 hA)]; decide)).trans o8
          have oY49 : F42 a0 = .inr (7, y_fl A z0 q0) := (hfr1 _ (by rw [ha0]; decide)).trans oY0
          have hfr : ∀ b, K b ∉ [9, 70, 71, 72, 73, 74] → F42 b = F b := fun b hb9 => (hfr1 b (fun q => hb9 (s_sub (by decide) q))).trans (hfr b hb9)
          obtain ⟨f50, o51, b52⟩ := y_op23 hI
          have h44 : (y_CP f4 f50) := by have q9 := h44; rw [y_atE o5, y_atE o51] at q9; exact q9
          refine lv_aload_n hx hb dX7_by_45 rfl (lv_at hl 0 rfl) ?_
          refine th_get (D := (dC, dI)) (ci := 7) (v := .ref (A 20)) (C := RX7) (T := TX7) (N := 34) hx hb hts inX7 hown hK hP (hLK _ ha0 (by decide)) oY49 rfl 20 (by decide) (hts _ T_251) (fun _ h9 => h9) rfl dX7_by_46 ?_
          refine lv_iconst (v := 3) hx hb dX7_by_49 (by decide) ?_
          refine lv_iload_n hx hb dX7_by_50 rfl (lv_at hl 1 rfl) ?_
          refine th_iast hx hb hK hP hD hS (hLK _ (y_k20 hA) (by decide)) 0 o47 rfl (ax_in (by decide)) dX7_by_51 (fun H locs hP hS => ?_)
          obtain ⟨f53, u54⟩ : ∃ g : Nat → Int32, g = upd f4 (3 : Int32).toNatClampNeg x1 := ⟨_, rfl⟩
          rw [← u54] at hP
          have b55 : y_bd 20 f53 := trivial
          have hP : va_P (dC, dI) vwCl (va_pl L (va_up F42 (A 20) (.inl (cs 0, 918, .inl f53)))) H := hP
          obtain ⟨F56, hF57⟩ : ∃ G : Nat → va_E, G = va_up F42 (A 20) (.inl (cs 0, 918, .inl f53)) := ⟨_, rfl⟩
          rw [← hF57] at hP
          have hI : y_I K cs A F56 := by rw [hF57]; exact y_clA (i := 20) hA hI (by decide) b55
          have hfr : ∀ b, K b ∉ [9, 70, 71, 72, 73, 74] → F56 b = F b := by rw [hF57]; exact s_fr hfr (y_k20 hA) (by decide)
          have o58 : F56 (A 13) = .inl (cs 0, 400, .inl f1) := by rw [hF57]; exact th_ne (th_kd (y_k13 hA) (y_k20 hA) (by decide)) o46
          have o59 : F56 (A 30) = .inl (cs 0, 18360, .inl f7) := by rw [hF57]; exact th_ne (th_kd (y_k30 hA) (y_k20 hA) (by decide)) o48
          have o60 : F56 (A 23) = .inl (cs 0, 918, .inl f50) := by rw [hF57]; exact th_ne (th_kd (y_k23 hA) (y_k20 hA) (by decide)) o51
          have oY61 : F56 a0 = .inr (7, y_fl A z0 q0) := by rw [hF57]; exact th_ne (th_kd ha0 (y_k20 hA) (by decide)) oY49
          have o62 : F56 (A 20) = .inl (cs 0, 918, .inl f53) := by rw [hF57]; exact th_up
          have u63 : ∀ j : Int, 0 ≤ j → y_c f53 j = if j = 3 then x1 else y_c f4 j := by rw [u54]; exact y_cu (by decide) (by decide)
          refine lv_aload_n hx hb dX7_by_52 rfl (lv_at hl 0 rfl) ?_
          refine th_get (D := (dC, dI)) (ci := 7) (v := .ref (A 20)) (C := RX7) (T := TX7) (N := 34) hx hb hts inX7 hown hK hP (hLK _ ha0 (by decide)) oY61 rfl 20 (by decide) (hts _ T_251) (fun _ h9 => h9) rfl dX7_by_53 ?_
          refine lv_iconst (v := 4) hx hb dX7_by_56 (by decide) ?_
          refine lv_iload_n hx hb dX7_by_57 rfl (lv_at hl 2 rfl) ?_
          refine th_iast hx hb hK hP hD hS (hLK _ (y_k20 hA) (by decide)) 0 o62 rfl (ax_in (by decide)) dX7_by_58 (fun H locs hP hS => ?_)
          obtain ⟨f64, u65⟩ : ∃ g : Nat → Int32, g = upd f53 (4 : Int32).toNatClampNeg x2 := ⟨_, rfl⟩
          rw [← u65] at hP
          have b66 : y_bd 20 f64 := trivial
          have hP : va_P (dC, dI) vwCl (va_pl L (va_up F56 (A 20) (.inl (cs 0, 918, .inl f64)))) H := hP
          obtain ⟨F67, hF68⟩ : ∃ G : Nat → va_E, G = va_up F56 (A 20) (.inl (cs 0, 918, .inl f64)) := ⟨_, rfl⟩
          rw [← hF68] at hP
          have hI : y_I K cs A F67 := by rw [hF68]; exact y_clA (i := 20) hA hI (by decide) b66
          have hfr : ∀ b, K b ∉ [9, 70, 71, 72, 73, 74] → F67 b = F b := by rw [hF68]; exact s_fr hfr (y_k20 hA) (by decide)
          have o69 : F67 (A 13) = .inl (cs 0, 400, .inl f1) := by rw [hF68]; exact th_ne (th_kd (y_k13 hA) (y_k20 hA) (by decide)) o58
          have o70 : F67 (A 30) = .inl (cs 0, 18360, .inl f7) := by rw [hF68]; exact th_ne (th_kd (y_k30 hA) (y_k20 hA) (by decide)) o59
          have o71 : F67 (A 23) = .inl (cs 0, 918, .inl f50) := by rw [hF68]; exact th_ne (th_kd (y_k23 hA) (y_k20 hA) (by decide)) o60
          have oY72 : F67 a0 = .inr (7, y_fl A z0 q0) := by rw [hF68]; exact th_ne (th_kd ha0 (y_k20 hA) (by decide)) oY61
          have o73 : F67 (A 20) = .inl (cs 0, 918, .inl f64) := by rw [hF68]; exact th_up
          have u74 : ∀ j : Int, 0 ≤ j → y_c f64 j = if j = 4 then x2 else y_c f53 j := by rw [u65]; exact y_cu (by decide) (by decide)
          have hmo9 : (y_c f64 3).toInt = x1.toInt ∧ (y_c f64 4).toInt = x2.toInt := ⟨by rw [u74 3 (by omega), if_neg (by omega), u63 3 (by omega), if_pos (by omega)], by rw [u74 4 (by omega), if_pos (by omega)]⟩
          refine lv_aload_n hx hb dX7_by_59 rfl (lv_at hl 0 rfl) ?_
          refine lv_iconst (v := (-1)) hx hb dX7_by_60 (by decide) ?_
          refine va_callv (va_runV (As := [.int (-1)]) (rest := []) ⟨hx, hb, hml, hown, hts⟩ (y_X7_begins l dC dI H.size hLK A hA F67 a0 (-1) ha0 (by decide) hI (by rw [y_atE o69]; exact hPG) (by first | (rw [y_atE o73]; omega) | rw [y_atE o73])) (cwV 1 hts (ax_gV T_1017 T_1019 T_1020 T_265 T_1018) rfl rfl rfl (by decide +kernel) ⟨Nat.le_of_ble_eq_true rfl, Nat.le_of_ble_eq_true rfl⟩) ⟨fun a U g mk q => ⟨q.1, s_pc (U := U) rfl rfl q.2⟩, s_recv hK hP (hLK _ ha0 (by decide)) (ci := 7) rfl oY72, fun U hU hW => ⟨rfl, s_pw hU hW hP hK hD hN⟩⟩ rfl rfl hl.1 rfl (lv_room (Nat.le_of_ble_eq_true rfl)) dX7_by_61 ⟨Nat.zero_le _, Nat.zero_le _⟩) hS (fun q _ h => h) (fun q h => h) (fun F76 t H1 locs ht hvm hw hB hz1 hk1 hS => ?_)
          obtain ⟨hP, hK1⟩ := hB
          rw [ht] at hP
          generalize H1 = H at hP hS ⊢
          clear hz1 hk1 hvm hK1
          obtain ⟨h77, h79, hI, hfr1, hzf, h78⟩ := hw
          have o80 : F76 (A 13) = .inl (cs 0, 400, .inl f1) := (hfr1 _ (by rw [(y_k13 hA)]; decide)).trans o69
          have o81 : F76 (A 30) = .inl (cs 0, 18360, .inl f7) := (hfr1 _ (by rw [(y_k30 hA)]; decide)).trans o70
          have o82 : F76 (A 23) = .inl (cs 0, 918, .inl f50) := (hfr1 _ (by rw [(y_k23 hA)]; decide)).trans o71
          have oY83 : F76 a0 = .inr (7, y_fl A z0 q0) := (hfr1 _ (by rw [ha0]; decide)).trans oY72
          have hfr : ∀ b, K b ∉ [9, 70, 71, 72, 73, 74] → F76 b = F b := fun b hb9 => (hfr1 b (fun q => hb9 (s_sub (by decide) q))).trans (hfr b hb9)
          obtain ⟨f84, o85, b86⟩ := y_op20 hI
          have h78 : (y_NG f1 f84) := by have q9 := h78; rw [y_atE o69, y_atE o85] at q9; exact q9
          refine lv_aload_n hx hb dX7_by_64 rfl (lv_at hl 0 rfl) ?_
          refine va_callv (va_runV (As := []) (rest := []) ⟨hx, hb, hml, hown, hts⟩ (y_X7_goesOn l dC dI H.size hLK A hA F76 a0 ha0 hI (by rw [y_atE o80]; exact hPG) (by rw [y_atE o80, y_atE o85]; exact h78)) (cwV 0 hts (ax_gV T_1045 T_1047 T_1048 T_265 T_1046) rfl rfl rfl (by decide +kernel) ⟨Nat.le_of_ble_eq_true rfl, Nat.le_of_ble_eq_true rfl⟩) ⟨fun a U g mk q => ⟨q.1, s_pc (U := U) rfl rfl q.2⟩, s_recv hK hP (hLK _ ha0 (by decide)) (ci := 7) rfl oY83, fun U hU hW => ⟨rfl, s_pw hU hW hP hK hD hN⟩⟩ rfl rfl hl.1 rfl (lv_room (Nat.le_of_ble_eq_true rfl)) dX7_by_65 ⟨Nat.zero_le _, Nat.zero_le _⟩) hS (fun q _ h => h) (fun q h => h) (fun F88 t H1 locs ht hvm hw hB hz1 hk1 hS => ?_)
          obtain ⟨hP, hK1⟩ := hB
          rw [ht] at hP
          generalize H1 = H at hP hS ⊢
          clear hz1 hk1 hvm hK1
          obtain ⟨h89, h91, hI, hfr1, hzf, h90⟩ := hw
          have o92 : F88 (A 13) = .inl (cs 0, 400, .inl f1) := (hfr1 _ (by rw [(y_k13 hA)]; decide)).trans o80
          have o93 : F88 (A 30) = .inl (cs 0, 18360, .inl f7) := (hfr1 _ (by rw [(y_k30 hA)]; decide)).trans o81
          have o94 : F88 (A 23) = .inl (cs 0, 918, .inl f50) := (hfr1 _ (by rw [(y_k23 hA)]; decide)).trans o82
          obtain ⟨z95, q96, oY97, bz98, bq99⟩ := y_opY hI ha0
          have hzf : ∀ k, k ∈ ([1, 2, 3, 4, 5, 6, 7, 8, 11, 15, 16, 19, 31, 32] : List Nat) → z95 k = z0 k := fun k hk => by have q9 := hzf k hk; rw [y_fiZ oY97 (s_sub (by decide) hk), y_fiZ oY83 (s_sub (by decide) hk)] at q9; exact q9
          have hz0 : ∀ k, k ∈ ([1, 2, 3, 4, 5, 6, 7, 8, 11, 15, 16, 19, 31, 32] : List Nat) → z95 k = z0 k := fun k hk => (hzf k (s_sub (by decide) hk)).trans (hz0 k hk)
          have ev10 : v10 = z95 15 := ev10.trans (hzf 15 (by decide)).symm
          have ev11 : v11 = z95 31 := ev11.trans (hzf 31 (by decide)).symm
          have ev12 : v12 = z95 32 := ev12.trans (hzf 32 (by decide)).symm
          have hfr : ∀ b, K b ∉ [9, 70, 71, 72, 73, 74] → F88 b = F b := fun b hb9 => (hfr1 b (fun q => hb9 (s_sub (by decide) q))).trans (hfr b hb9)
          obtain ⟨f100, o101, b102⟩ := y_op20 hI
          have h90 : (y_NG f1 f100) := by have q9 := h90; rw [y_atE o80, y_atE o101] at q9; exact q9
          refine lv_aload_n hx hb dX7_by_68 rfl (lv_at hl 0 rfl) ?_
          refine va_callv (va_runV (As := []) (rest := []) ⟨hx, hb, hml, hown, hts⟩ (y_X7_takesBack l dC dI H.size hLK A hA F88 a0 ha0 hI) (cwV 0 hts (ax_gV T_1049 T_1051 T_1052 T_265 T_1050) rfl rfl rfl (by decide +kernel) ⟨Nat.le_of_ble_eq_true rfl, Nat.le_of_ble_eq_true rfl⟩) ⟨fun a U g mk q => ⟨q.1, s_pc (U := U) rfl rfl q.2⟩, s_recv hK hP (hLK _ ha0 (by decide)) (ci := 7) rfl oY97, fun U hU hW => ⟨rfl, s_pw hU hW hP hK hD hN⟩⟩ rfl rfl hl.1 rfl (lv_room (Nat.le_of_ble_eq_true rfl)) dX7_by_69 ⟨Nat.zero_le _, Nat.zero_le _⟩) hS (fun q _ h => h) (fun q h => h) (fun F104 t H1 locs ht hvm hw hB hz1 hk1 hS => ?_)
          obtain ⟨hP, hK1⟩ := hB
          rw [ht] at hP
          generalize H1 = H at hP hS ⊢
          clear hz1 hk1 hvm hK1
          obtain ⟨h105, h107, hI, hfr1, hzf, h106⟩ := hw
          have o108 : F104 (A 13) = .inl (cs 0, 400, .inl f1) := (hfr1 _ (by rw [(y_k13 hA)]; decide)).trans o92
          have o109 : F104 (A 30) = .inl (cs 0, 18360, .inl f7) := (hfr1 _ (by rw [(y_k30 hA)]; decide)).trans o93
          have o110 : F104 (A 23) = .inl (cs 0, 918, .inl f50) := (hfr1 _ (by rw [(y_k23 hA)]; decide)).trans o94
          have oY111 : F104 a0 = .inr (7, y_fl A z95 q96) := (hfr1 _ (by rw [ha0]; decide)).trans oY97
          have hfr : ∀ b, K b ∉ [9, 70, 71, 72, 73, 74] → F104 b = F b := fun b hb9 => (hfr1 b (fun q => hb9 (s_sub (by decide) q))).trans (hfr b hb9)
          obtain ⟨f112, o113, b114⟩ := y_op20 hI
          have h106 : (y_CP f50 f112) := by have q9 := h106; rw [y_atE o94, y_atE o113] at q9; exact q9
          refine lv_aload_n hx hb dX7_by_72 rfl (lv_at hl 0 rfl) ?_
          refine lv_iload_n hx hb dX7_by_73 rfl (lv_at hl 3 rfl) ?_
          refine va_calli (va_runV (As := [.int x3]) (rest := []) ⟨hx, hb, hml, hown, hts⟩ (y_X7_told l dC dI H.size hLK A hA F104 a0 x3 ha0 hI) (cwV 1 hts (ax_gV T_1053 T_1055 T_1056 T_265 T_1054) rfl rfl rfl (by decide +kernel) ⟨Nat.le_of_ble_eq_true rfl, Nat.le_of_ble_eq_true rfl⟩) ⟨fun a U g mk q => ⟨q.1, s_pc (U := U) rfl rfl q.2⟩, s_recv hK hP (hLK _ ha0 (by decide)) (ci := 7) rfl oY111, fun U hU hW => ⟨rfl, s_pw hU hW hP hK hD hN⟩⟩ rfl rfl hl.1 rfl (lv_room (Nat.le_of_ble_eq_true rfl)) dX7_by_74 ⟨Nat.zero_le _, Nat.zero_le _⟩) hS (fun q _ h => h) (fun q h => h) (fun r116 F117 t H1 locs ht hvm hw hB hz1 hk1 hS => ?_)
          obtain ⟨hP, hK1⟩ := hB
          rw [ht] at hP
          generalize H1 = H at hP hS ⊢
          clear hz1 hk1 hvm hK1
          obtain ⟨h118, h120, hI, hfr1, hzf, h119⟩ := hw
          have o121 : F117 (A 13) = .inl (cs 0, 400, .inl f1) := (hfr1 _ (by rw [(y_k13 hA)]; decide)).trans o108
          have o122 : F117 (A 30) = .inl (cs 0, 18360, .inl f7) := (hfr1 _ (by rw [(y_k30 hA)]; decide)).trans o109
          have o123 : F117 (A 23) = .inl (cs 0, 918, .inl f50) := (hfr1 _ (by rw [(y_k23 hA)]; decide)).trans o110
          have o124 : F117 (A 20) = .inl (cs 0, 918, .inl f112) := (hfr1 _ (by rw [(y_k20 hA)]; decide)).trans o113
          have oY125 : F117 a0 = .inr (7, y_fl A z95 q96) := (hfr1 _ (by rw [ha0]; decide)).trans oY111
          have hfr : ∀ b, K b ∉ [9, 70, 71, 72, 73, 74] → F117 b = F b := fun b hb9 => (hfr1 b (fun q => hb9 (s_sub (by decide) q))).trans (hfr b hb9)
          exact W.iret (v := r116) hx hb hr (fun t ht hW => ⟨⟨r116, F117, rfl, ⟨trivial, trivial, hI, hfr, fun k hk => (y_fiZ oY125 (s_sub (by decide) hk)).trans ((hz0 k hk).trans (y_fiZ oY0 (s_sub (by decide) hk)).symm), (by rw [y_fiZ oY125 (k := 15) (by decide), ← ev10, y_atE o121, y_atE o124, y_atE o122, y_fiZ oY125 (k := 31) (by decide), ← ev11, y_fiZ oY125 (k := 32) (by decide), ← ev12]; exact (y_Tc (y_CP_t h44 h106) hT))⟩, by rw [ht]; exact hP, va_K.moved hW.alike hK⟩, hS.F ht⟩) hS.2.2 dX7_by_77
        · have c40 := (ax_eq (n := 0) (by decide)).mp c40
          refine lv_iconst (v := (-1)) hx hb dX7_by_39 (by decide) ?_
          have h126 : ((-1) : Int32).toInt = (-1) := by decide
          exact W.iret (v := (-1)) hx hb hr (fun t ht hW => ⟨⟨(-1), F, rfl, ⟨trivial, trivial, hI, hfr, fun k hk => (y_fiZ oY0 (s_sub (by decide) hk)).trans ((hz0 k hk).trans (y_fiZ oY0 (s_sub (by decide) hk)).symm), (by rw [y_fiZ oY0 (k := 15) (by decide), ← ev10, y_atE o2, y_atE o5, y_atE o8, y_fiZ oY0 (k := 31) (by decide), ← ev11, y_fiZ oY0 (k := 32) (by decide), ← ev12]; exact hT)⟩, by rw [ht]; exact hP, va_K.moved hW.alike hK⟩, hS.F ht⟩) hS.2.2 dX7_by_40

set_option maxHeartbeats 4000000 in
set_option maxRecDepth 100000 in
theorem yt_X7_endsBehind (l : Launch) (dC : Nat → ClassId) (dI : Nat → Nat → Nat) (sz : Nat) {L : List Nat} {K : Nat → Nat} {cs : Nat → ClassId} (hLK : ∀ a {k : Nat}, K a = k → k ≠ 0 → a ∈ L) (A : Nat → Nat) (hA : y_A K A) (F : Nat → va_E) (a0 : Nat) (ha0 : K a0 = 9) (hI : y_I K cs A F) (hPG : y_PG (y_at F (A 13))) (hNG : y_NG (y_at F (A 13)) (y_at F (A 20))) : Met l yX7_endsBehind (Cond.code yX7_endsBehind cX7_endsBehind 2 (some .int) :: T0) ({ frames := 8, cells := 0, slots := 0, locals := 188 }) (va_Pc [.ref a0] (s_W dC dI sz L F [(cs 0, .int), (cs 1, .byte), (cs 2, .long), (cs 3, .object RX5), (cs 4, .object RX4), (cs 5, .array .int), (cs 6, .char), (cs 7, .boolean)])) (va_Qi (fun (r : Int32) (G : Nat → va_E) => (-1 ≤ r.toInt ∧ r.toInt ≤ 400) ∧ True ∧ y_I K cs A G ∧ (∀ b, K b ∉ [70, 71, 72] → G b = F b) ∧ (∀ k, k ∈ ([1, 2, 3, 4, 5, 6, 7, 8, 11, 15, 16, 19, 25, 26, 27, 31, 32] : List Nat) → y_fi G a0 k = y_fi F a0 k) ∧ (y_NG (y_at F (A 13)) (y_at G (A 20)))) (fun (G : Nat → va_E) (t : State) => va_P (dC, dI) vwCl (va_pl L G) t.heap ∧ va_K (dC, dI) vwCl [(cs 0, .int), (cs 1, .byte), (cs 2, .long), (cs 3, .object RX5), (cs 4, .object RX4), (cs 5, .array .int), (cs 6, .char), (cs 7, .boolean)] t) (fun q => q ∈ L)) 0 0 (fun q => q ∈ L) := by
  refine Met.ofW (cc := cX7_endsBehind) (maxL := 2) (ret := (some .int)) (by decide) rfl ?_
  intro p e s m args below meth c s₁ B hml hv
  obtain ⟨rfl, hsz, hP, hK, hD, hN⟩ := hv
  have hx := B.exec
  have hb := B.bytes
  have hr := B.returns
  have hts : ∀ w ∈ T0, w.before _ s = true := fun w h => atoms_spec (ws := Cond.code yX7_endsBehind cX7_endsBehind 2 (some .int) :: T0) B.pre w (List.mem_cons_of_mem _ h)
  have hown : s.vm.findClass RX7 = some m.cls := findClass_of_methodNamed B.named
  have hlocks := B.notSynchronized
  have hS : va_S (fun q => q ∈ L) s.heap s.heap [] := va_S.rf
  have hfr : ∀ b, K b ∉ [70, 71, 72] → F b = F b := fun _ _ => rfl
  have hl := lv_entry ([.ref a0]) (n := 2) (Nat.le_of_ble_eq_true rfl)
  rw [lg_entry_eq]
  generalize (lg_sl ([.ref a0]) ++ List.replicate (2 - (lg_sl ([.ref a0])).length) Slot.unset).toArray = ls at hl ⊢
  have hl : lv_has ls 2 [(0, .ref a0)] := hl
  refine s_gen hP hS (fun H locs hP hS => ?_)
  obtain ⟨z0, q0, oY0, bz0, bq0⟩ := y_opY hI ha0
  have hz0 : ∀ k, k ∈ ([1, 2, 3, 4, 5, 6, 7, 8, 11, 15, 16, 19, 25, 26, 27, 31, 32] : List Nat) → z0 k = z0 k := fun _ _ => rfl
  obtain ⟨f1, o2, b3⟩ := y_op13 hI
  obtain ⟨f4, o5, b6⟩ := y_op20 hI
  have hPG : y_PG f1 := by have q9 := hPG; rw [y_atE o2] at q9; exact q9
  have hNG : y_NG f1 f4 := by have q9 := hNG; rw [y_atE o2, y_atE o5] at q9; exact q9
  have hL := y_P0L hPG.1
  have hW := y_P0W hPG.1
  have hnn := And.intro hNG.1 (And.intro hNG.2.1 (And.intro hNG.2.2.1 hNG.2.2.2.1))
  refine lv_iconst (v := 0) hx hb dX7_endsBehind_0 (by decide) ?_
  refine lv_istore_n (lv' := [(1, .int 0), (0, .ref a0)]) hx hb dX7_endsBehind_1 rfl hl (by decide) rfl (fun ls hl => ?_)
  have h8 : (0 : Int32).toInt = 0 := by decide
  refine th_loop (fun n g H locs => ∃ (G : Nat → va_E) (ls : Array Slot) (w7 : Int32), g = F0 m 2 ls [] ∧ lv_has ls 2 [(0, .ref a0), (1, .int w7)] ∧ va_P (dC, dI) vwCl (va_pl L G) H ∧ va_S (fun q => q ∈ L) s.heap H locs ∧ y_I K cs A G ∧ (∀ b, K b ∉ [70, 71, 72] → G b = F b) ∧ (∀ k, k ∈ ([1, 2, 3, 4, 5, 6, 7, 8, 11, 15, 16, 19, 25, 26, 27, 31, 32] : List Nat) → y_fi G a0 k = z0 k) ∧ (0 ≤ w7.toInt ∧ w7.toInt ≤ 401) ∧ (y_NG f1 (y_at G (A 20))) ∧ n = (402 - w7.toInt).toNat) _ ⟨F, _, 0, rfl, lv_sub hl [1, 0] rfl, hP, hS, hI, hfr, (fun k hk => (y_fiZ oY0 (s_sub (by decide) hk)).trans (hz0 k hk)), (by decide), (by rw [y_atE o5]; exact hNG), rfl⟩ (fun n ih2 g H locs hq => ?_)
  obtain ⟨F11, ls, w7, rfl, hl, hP, hS, hI, hfr, hz0, h9, h10, hn⟩ := hq
  have o12 : F11 (A 13) = .inl (cs 0, 400, .inl f1) := (hfr _ (by rw [(y_k13 hA)]; decide)).trans o2
  have oY13 : F11 a0 = .inr (7, y_fl A z0 q0) := (hfr _ (by rw [ha0]; decide)).trans oY0
  have hz0 : ∀ k, k ∈ ([1, 2, 3, 4, 5, 6, 7, 8, 11, 15, 16, 19, 25, 26, 27, 31, 32] : List Nat) → z0 k = z0 k := fun _ _ => rfl
  obtain ⟨f14, o15, b16⟩ := y_op20 hI
  have h10 : (y_NG f1 f14) := by have q9 := h10; rw [y_atE o15] at q9; exact q9
  have hn_16 := hn
  refine lv_iload_n hx hb dX7_endsBehind_2 rfl (lv_at hl 1 rfl) ?_
  refine lv_sipush (v := 400) hx hb dX7_endsBehind_3 (by decide) ?_
  refine lv_icmp_gt (tgt := 28) hx hb dX7_endsBehind_6 (by decide) (fun c17 => ?_) (fun c17 => ?_)
  · have c17 := (ax_gt (n := 400) (by decide)).mp c17
    refine lv_iconst (v := (-1)) hx hb dX7_endsBehind_28 (by decide) ?_
    have h18 : ((-1) : Int32).toInt = (-1) := by decide
    exact W.iret (v := (-1)) hx hb hr (fun t ht hW => ⟨⟨(-1), F11, rfl, ⟨(by decide), trivial, hI, hfr, fun k hk => (y_fiZ oY13 (s_sub (by decide) hk)).trans ((hz0 k hk).trans (y_fiZ oY0 (s_sub (by decide) hk)).symm), (by rw [y_atE o2, y_atE o15]; exact h10)⟩, by rw [ht]; exact hP, va_K.moved hW.alike hK⟩, hS.F ht⟩) hS.2.2 dX7_endsBehind_29
  · have c17 := mt (ax_gt (n := 400) (by decide)).mpr c17
    refine lv_aload_n hx hb dX7_endsBehind_9 rfl (lv_at hl 0 rfl) ?_
    refine va_calli (va_runV (As := []) (rest := []) ⟨hx, hb, hml, hown, hts⟩ (y_X7_isEnded l dC dI H.size hLK A hA F11 a0 ha0 hI (by rw [y_atE o12]; exact hPG)) (cwV 0 hts (ax_gV T_1102 T_1104 T_1105 T_265 T_1103) rfl rfl rfl (by decide +kernel) ⟨Nat.le_of_ble_eq_true rfl, Nat.le_of_ble_eq_true rfl⟩) ⟨fun a U g mk q => ⟨q.1, s_pc (U := U) rfl rfl q.2⟩, s_recv hK hP (hLK _ ha0 (by decide)) (ci := 7) rfl oY13, fun U hU hW => ⟨rfl, s_pw hU hW hP hK hD hN⟩⟩ rfl rfl hl.1 rfl (lv_room (Nat.le_of_ble_eq_true rfl)) dX7_endsBehind_10 ⟨Nat.zero_le _, Nat.zero_le _⟩) hS (fun q _ h => h) (fun q h => h) (fun r20 F21 t H1 locs ht hvm hw hB hz1 hk1 hS => ?_)
    obtain ⟨hP, hK1⟩ := hB
    rw [ht] at hP
    generalize H1 = H at hP hS ⊢
    clear hz1 hk1 hvm hK1
    obtain ⟨h22, h24, hI, hfr1, hzf, h23⟩ := hw
    have o25 : F21 (A 13) = .inl (cs 0, 400, .inl f1) := (hfr1 _ (by rw [(y_k13 hA)]; decide)).trans o12
    have o26 : F21 (A 20) = .inl (cs 0, 918, .inl f14) := (hfr1 _ (by rw [(y_k20 hA)]; decide)).trans o15
    have oY27 : F21 a0 = .inr (7, y_fl A z0 q0) := (hfr1 _ (by rw [ha0]; decide)).trans oY13
    have hfr : ∀ b, K b ∉ [70, 71, 72] → F21 b = F b := fun b hb9 => (hfr1 b (fun q => hb9 (s_sub (by decide) q))).trans (hfr b hb9)
    refine lv_if_eq (tgt := 18) hx hb dX7_endsBehind_13 (by decide) (fun c28 => ?_) (fun c28 => ?_)
    · have c28 := (ax_eq (n := 0) (by decide)).mp c28
      refine lv_aload_n hx hb dX7_endsBehind_18 rfl (lv_at hl 0 rfl) ?_
      refine va_callv (va_runV (As := []) (rest := []) ⟨hx, hb, hml, hown, hts⟩ (y_X7_aCycle l dC dI H.size hLK A hA F21 a0 ha0 hI (by rw [y_atE o25]; exact hPG) (by rw [y_atE o25, y_atE o26]; exact h10)) (cwV 0 hts (ax_gV T_1070 T_1072 T_1073 T_265 T_1071) rfl rfl rfl (by decide +kernel) ⟨Nat.le_of_ble_eq_true rfl, Nat.le_of_ble_eq_true rfl⟩) ⟨fun a U g mk q => ⟨q.1, s_pc (U := U) rfl rfl q.2⟩, s_recv hK hP (hLK _ ha0 (by decide)) (ci := 7) rfl oY27, fun U hU hW => ⟨rfl, s_pw hU hW hP hK hD hN⟩⟩ rfl rfl hl.1 rfl (lv_room (Nat.le_of_ble_eq_true rfl)) dX7_endsBehind_19 ⟨Nat.zero_le _, Nat.zero_le _⟩) hS (fun q _ h => h) (fun q h => h) (fun F30 t H1 locs ht hvm hw hB hz1 hk1 hS => ?_)
      obtain ⟨hP, hK1⟩ := hB
      rw [ht] at hP
      generalize H1 = H at hP hS ⊢
      clear hz1 hk1 hvm hK1
      obtain ⟨h31, h33, hI, hfr1, hzf, h32⟩ := hw
      have o34 : F30 (A 13) = .inl (cs 0, 400, .inl f1) := (hfr1 _ (by rw [(y_k13 hA)]; decide)).trans o25
      have oY35 : F30 a0 = .inr (7, y_fl A z0 q0) := (hfr1 _ (by rw [ha0]; decide)).trans oY27
      have hfr : ∀ b, K b ∉ [70, 71, 72] → F30 b = F b := fun b hb9 => (hfr1 b (fun q => hb9 (s_sub (by decide) q))).trans (hfr b hb9)
      obtain ⟨f36, o37, b38⟩ := y_op20 hI
      have h32 : (y_NG f1 f36 ∧ y_c f36 3 = y_c f14 3 ∧ y_c f36 4 = y_c f14 4) := by have q9 := h32; rw [y_atE o25, y_atE o37, y_atE o26] at q9; exact q9
      obtain ⟨v39, ev39⟩ : ∃ y : Int32, w7 + 1 = y := ⟨_, rfl⟩
      have qv39 : v39.toInt = w7.toInt + 1 := by rw [← ev39]; exact th_add rfl (by decide) ⟨by omega, by omega⟩
      refine lv_iinc (v := v39) (lv' := [(1, .int v39), (0, .ref a0)]) hx hb dX7_endsBehind_22 hl (k := 1) rfl ev39 (by decide) rfl (fun ls hl => ?_)
      refine lv_goto (tgt := 2) hx hb dX7_endsBehind_25 (by decide) ?_
      exact ih2 _ _ _ _ (by omega) ⟨F30, _, v39, rfl, lv_sub hl [1, 0] rfl, hP, hS, hI, hfr, (fun k hk => (y_fiZ oY35 (s_sub (by decide) hk)).trans (hz0 k hk)), ⟨by omega, by omega⟩, (by rw [y_atE o37]; exact h32.1), rfl⟩
    · have c28 := mt (ax_eq (n := 0) (by decide)).mpr c28
      refine lv_iload_n hx hb dX7_endsBehind_16 rfl (lv_at hl 1 rfl) ?_
      exact W.iret (v := w7) hx hb hr (fun t ht hW => ⟨⟨w7, F21, rfl, ⟨⟨by omega, by omega⟩, trivial, hI, hfr, fun k hk => (y_fiZ oY27 (s_sub (by decide) hk)).trans ((hz0 k hk).trans (y_fiZ oY0 (s_sub (by decide) hk)).symm), (by rw [y_atE o2, y_atE o26]; exact h10)⟩, by rw [ht]; exact hP, va_K.moved hW.alike hK⟩, hS.F ht⟩) hS.2.2 dX7_endsBehind_17

set_option maxHeartbeats 4000000 in
set_option maxRecDepth 100000 in
theorem yt_X7_skew (l : Launch) (dC : Nat → ClassId) (dI : Nat → Nat → Nat) (sz : Nat) {L : List Nat} {K : Nat → Nat} {cs : Nat → ClassId} (hLK : ∀ a {k : Nat}, K a = k → k ≠ 0 → a ∈ L) (A : Nat → Nat) (hA : y_A K A) (F : Nat → va_E) (a0 : Nat) (x1 : Int32) (ha0 : K a0 = 9) (hI : y_I K cs A F) (hT : y_T (y_fi F a0 15) (y_at F (A 13)) (y_at F (A 20)) (y_at F (A 30)) (y_fi F a0 31) (y_fi F a0 32)) : Met l yX7_skew (Cond.code yX7_skew cX7_skew 6 (some .int) :: T0) ({ frames := 9, cells := 0, slots := 0, locals := 209 }) (va_Pc [.ref a0, .int x1] (s_W dC dI sz L F [(cs 0, .int), (cs 1, .byte), (cs 2, .long), (cs 3, .object RX5), (cs 4, .object RX4), (cs 5, .array .int), (cs 6, .char), (cs 7, .boolean)])) (va_Qi (fun (r : Int32) (G : Nat → va_E) => (-1 ≤ r.toInt ∧ r.toInt ≤ 400) ∧ True ∧ y_I K cs A G ∧ (∀ b, K b ∉ [70, 71, 72, 73] → G b = F b) ∧ (∀ k, k ∈ ([1, 2, 3, 4, 5, 6, 7, 8, 11, 15, 16, 19, 25, 26, 27, 31, 32] : List Nat) → y_fi G a0 k = y_fi F a0 k) ∧ (y_T (y_fi G a0 15) (y_at G (A 13)) (y_at G (A 20)) (y_at G (A 30)) (y_fi G a0 31) (y_fi G a0 32))) (fun (G : Nat → va_E) (t : State) => va_P (dC, dI) vwCl (va_pl L G) t.heap ∧ va_K (dC, dI) vwCl [(cs 0, .int), (cs 1, .byte), (cs 2, .long), (cs 3, .object RX5), (cs 4, .object RX4), (cs 5, .array .int), (cs 6, .char), (cs 7, .boolean)] t) (fun q => q ∈ L)) 0 0 (fun q => q ∈ L) := by
  refine Met.ofW (cc := cX7_skew) (maxL := 6) (ret := (some .int)) (by decide) rfl ?_
  intro p e s m args below meth c s₁ B hml hv
  obtain ⟨rfl, hsz, hP, hK, hD, hN⟩ := hv
  have hx := B.exec
  have hb := B.bytes
  have hr := B.returns
  have hts : ∀ w ∈ T0, w.before _ s = true := fun w h => atoms_spec (ws := Cond.code yX7_skew cX7_skew 6 (some .int) :: T0) B.pre w (List.mem_cons_of_mem _ h)
  have hown : s.vm.findClass RX7 = some m.cls := findClass_of_methodNamed B.named
  have hlocks := B.notSynchronized
  have hS : va_S (fun q => q ∈ L) s.heap s.heap [] := va_S.rf
  have hfr : ∀ b, K b ∉ [70, 71, 72, 73] → F b = F b := fun _ _ => rfl
  have hl := lv_entry ([.ref a0, .int x1]) (n := 6) (Nat.le_of_ble_eq_true rfl)
  rw [lg_entry_eq]
  generalize (lg_sl ([.ref a0, .int x1]) ++ List.replicate (6 - (lg_sl ([.ref a0, .int x1])).length) Slot.unset).toArray = ls at hl ⊢
  have hl : lv_has ls 6 [(0, .ref a0), (1, .int x1)] := hl
  refine s_gen hP hS (fun H locs hP hS => ?_)
  obtain ⟨z0, q0, oY0, bz0, bq0⟩ := y_opY hI ha0
  have hz0 : ∀ k, k ∈ ([1, 2, 3, 4, 5, 6, 7, 8, 11, 15, 16, 19, 25, 26, 27, 31, 32] : List Nat) → z0 k = z0 k := fun _ _ => rfl
  obtain ⟨f1, o2, b3⟩ := y_op13 hI
  obtain ⟨f4, o5, b6⟩ := y_op20 hI
  obtain ⟨f7, o8, b9⟩ := y_op30 hI
  obtain ⟨v10, ev10⟩ : ∃ y : Int32, y = z0 15 := ⟨_, rfl⟩
  have qv10 : 0 ≤ v10.toInt ∧ v10.toInt ≤ 1 := by rw [ev10]; exact y_bY15 bz0
  have eF_15 := ev10
  obtain ⟨v11, ev11⟩ : ∃ y : Int32, y = z0 31 := ⟨_, rfl⟩
  have qv11 : 0 ≤ v11.toInt ∧ v11.toInt ≤ 20 := by rw [ev11]; exact y_bY31 bz0
  have eF_31 := ev11
  obtain ⟨v12, ev12⟩ : ∃ y : Int32, y = z0 32 := ⟨_, rfl⟩
  have qv12 : 0 ≤ v12.toInt ∧ v12.toInt ≤ 19 := by rw [ev12]; exact y_bY32 bz0
  have eF_32 := ev12
  have hT : y_T v10 f1 f4 f7 v11 v12 := by have q9 := hT; rw [y_fiZ oY0 (k := 15) (by decide), ← ev10, y_atE o2, y_atE o5, y_atE o8, y_fiZ oY0 (k := 31) (by decide), ← ev11, y_fiZ oY0 (k := 32) (by decide), ← ev12] at q9; exact q9
  have e0_v10 := ev10
  have e0_v11 := ev11
  have e0_v12 := ev12
  refine lv_aload_n hx hb dX7_skew_0 rfl (lv_at hl 0 rfl) ?_
  refine th_get (D := (dC, dI)) (ci := 7) (v := .int (z0 15)) (C := RX7) (T := TX7) (N := 34) hx hb hts inX7 hown hK hP (hLK _ ha0 (by decide)) oY0 rfl 15 (by decide) (hts _ T_271) (fun _ h9 => h9) rfl dX7_skew_1 ?_
  refine ax_eqi (y := v10) ev10.symm ?_
  refine lv_if_eq (tgt := 17) hx hb dX7_skew_4 (by decide) (fun c13 => ?_) (fun c13 => ?_)
  · have c13 := (ax_eq (n := 0) (by decide)).mp c13
    refine lv_iconst (v := (-1)) hx hb dX7_skew_17 (by decide) ?_
    have h14 : ((-1) : Int32).toInt = (-1) := by decide
    exact W.iret (v := (-1)) hx hb hr (fun t ht hW => ⟨⟨(-1), F, rfl, ⟨(by decide), trivial, hI, hfr, fun k hk => (y_fiZ oY0 (s_sub (by decide) hk)).trans ((hz0 k hk).trans (y_fiZ oY0 (s_sub (by decide) hk)).symm), (by rw [y_fiZ oY0 (k := 15) (by decide), ← ev10, y_atE o2, y_atE o5, y_atE o8, y_fiZ oY0 (k := 31) (by decide), ← ev11, y_fiZ oY0 (k := 32) (by decide), ← ev12]; exact hT)⟩, by rw [ht]; exact hP, va_K.moved hW.alike hK⟩, hS.F ht⟩) hS.2.2 dX7_skew_18
  · have c13 := mt (ax_eq (n := 0) (by decide)).mpr c13
    obtain ⟨htd, hPG, hNG, hUG⟩ := y_TT hT (by omega)
    have hL := y_P0L hPG.1
    have hW := y_P0W hPG.1
    have hnn := And.intro hNG.1 (And.intro hNG.2.1 (And.intro hNG.2.2.1 hNG.2.2.2.1))
    refine lv_iload_n hx hb dX7_skew_7 rfl (lv_at hl 1 rfl) ?_
    refine lv_i2l hx hb dX7_skew_8 rfl ?_
    refine lv_topl (fun v15 ev15 => ?_)
    have qv15 : v15.toInt = x1.toInt := y_i2l ev15
    refine lv_lconst (v := 0) hx hb dX7_skew_9 (by decide) ?_
    refine lv_lconst (v := 1) hx hb dX7_skew_10 (by decide) ?_
    refine va_calli (va_runS (As := [.long v15, .long 0, .long 1]) (rest := []) ⟨hx, hb, hml, hown, hts⟩ (y_X7_isIn l dC dI H.size F v15 0 1) (cwS 3 hts (ax_gS T_267 T_268 T_265 T_21) rfl rfl rfl (by decide +kernel) ⟨Nat.le_of_ble_eq_true rfl, Nat.le_of_ble_eq_true rfl⟩) ⟨fun a U g mk q => ⟨q.1, s_pc (U := U) rfl rfl q.2⟩, fun U hU hW => ⟨rfl, s_pw hU hW hP hK hD hN⟩⟩ rfl rfl hl.1 rfl (lv_room (Nat.le_of_ble_eq_true rfl)) dX7_skew_11 ⟨Nat.zero_le _, Nat.zero_le _⟩) hS (fun q _ h => h) (fun q h => h) (fun r17 F18 t H1 locs ht hvm hw hB hz1 hk1 hS => ?_)
    obtain ⟨hP, hK1⟩ := hB
    rw [ht] at hP
    generalize H1 = H at hP hS ⊢
    clear hz1 hk1 hvm hK1
    obtain ⟨h19, h21, hG9, h20⟩ := hw
    rw [hG9] at hP
    have h20 : ((r17.toInt = 0 ∧ (v15.toInt < 0 ∨ 1 < v15.toInt)) ∨ (r17.toInt = 1 ∧ 0 ≤ v15.toInt ∧ v15.toInt ≤ 1)) := by have q9 := h20; exact q9
    refine lv_if_ne (tgt := 19) hx hb dX7_skew_14 (by decide) (fun c22 => ?_) (fun c22 => ?_)
    · have c22 := mt (ax_eq (n := 0) (by decide)).mpr c22
      refine lv_iconst (v := (-1)) hx hb dX7_skew_19 (by decide) ?_
      refine lv_istore_n (lv' := [(2, .int (-1)), (0, .ref a0), (1, .int x1)]) hx hb dX7_skew_20 rfl hl (by decide) rfl (fun ls hl => ?_)
      refine lv_iconst (v := 0) hx hb dX7_skew_21 (by decide) ?_
      refine lv_istore_n (lv' := [(3, .int 0), (2, .int (-1)), (0, .ref a0), (1, .int x1)]) hx hb dX7_skew_22 rfl hl (by decide) rfl (fun ls hl => ?_)
      refine lv_aload_n hx hb dX7_skew_23 rfl (lv_at hl 2 rfl) ?_
      refine va_callv (va_runV (As := []) (rest := []) ⟨hx, hb, hml, hown, hts⟩ (y_X7_putsAside l dC dI H.size hLK A hA F a0 ha0 hI) (cwV 0 hts (ax_gV T_1041 T_1043 T_1044 T_265 T_1042) rfl rfl rfl (by decide +kernel) ⟨Nat.le_of_ble_eq_true rfl, Nat.le_of_ble_eq_true rfl⟩) ⟨fun a U g mk q => ⟨q.1, s_pc (U := U) rfl rfl q.2⟩, s_recv hK hP (hLK _ ha0 (by decide)) (ci := 7) rfl oY0, fun U hU hW => ⟨rfl, s_pw hU hW hP hK hD hN⟩⟩ rfl rfl hl.1 rfl (lv_room (Nat.le_of_ble_eq_true rfl)) dX7_skew_24 ⟨Nat.zero_le _, Nat.zero_le _⟩) hS (fun q _ h => h) (fun q h => h) (fun F24 t H1 locs ht hvm hw hB hz1 hk1 hS => ?_)
      obtain ⟨hP, hK1⟩ := hB
      rw [ht] at hP
      generalize H1 = H at hP hS ⊢
      clear hz1 hk1 hvm hK1
      obtain ⟨h25, h27, hI, hfr1, hzf, h26⟩ := hw
      have o28 : F24 (A 13) = .inl (cs 0, 400, .inl f1) := (hfr1 _ (by rw [(y_k13 hA)]; decide)).trans o2
      have o29 : F24 (A 20) = .inl (cs 0, 918, .inl f4) := (hfr1 _ (by rw [(y_k20 hA)]; decide)).trans o5
      have o30 : F24 (A 30) = .inl (cs 0, 18360, .inl f7) := (hfr1 _ (by rw [(y_k30 hA)]; decide)).trans o8
      have oY31 : F24 a0 = .inr (7, y_fl A z0 q0) := (hfr1 _ (by rw [ha0]; decide)).trans oY0
      have hfr : ∀ b, K b ∉ [70, 71, 72, 73] → F24 b = F b := fun b hb9 => (hfr1 b (fun q => hb9 (s_sub (by decide) q))).trans (hfr b hb9)
      obtain ⟨f32, o33, b34⟩ := y_op23 hI
      have h26 : (y_CP f4 f32) := by have q9 := h26; rw [y_atE o5, y_atE o33] at q9; exact q9
      refine lv_iconst (v := 0) hx hb dX7_skew_27 (by decide) ?_
      refine lv_istore (lv' := [(4, .int 0), (3, .int 0), (2, .int (-1)), (0, .ref a0), (1, .int x1)]) hx hb dX7_skew_28 hl (by decide) rfl (fun ls hl => ?_)
      have h38 : ((-1) : Int32).toInt = (-1) := by decide
      have h39 : (0 : Int32).toInt = 0 := by decide
      have h40 : (0 : Int32).toInt = 0 := by decide
      refine th_loop (fun n g H locs => ∃ (G : Nat → va_E) (ls : Array Slot) (w35 : Int32) (w36 : Int32) (w37 : Int32), g = F0 m 30 ls [] ∧ lv_has ls 6 [(0, .ref a0), (1, .int x1), (2, .int w35), (3, .int w36), (4, .int w37)] ∧ va_P (dC, dI) vwCl (va_pl L G) H ∧ va_S (fun q => q ∈ L) s.heap H locs ∧ y_I K cs A G ∧ (∀ b, K b ∉ [70, 71, 72, 73] → G b = F b) ∧ (∀ k, k ∈ ([1, 2, 3, 4, 5, 6, 7, 8, 11, 15, 16, 19, 25, 26, 27, 31, 32] : List Nat) → y_fi G a0 k = z0 k) ∧ (-1 ≤ w35.toInt ∧ w35.toInt ≤ 3) ∧ (0 ≤ w36.toInt ∧ w36.toInt ≤ 400) ∧ (0 ≤ w37.toInt ∧ w37.toInt ≤ 4) ∧ (y_NG f1 (y_at G (A 20))) ∧ (y_CP f4 (y_at G (A 23))) ∧ n = (5 - w37.toInt).toNat) _ ⟨F24, _, (-1), 0, 0, rfl, lv_sub hl [3, 4, 2, 1, 0] rfl, hP, hS, hI, hfr, (fun k hk => (y_fiZ oY31 (s_sub (by decide) hk)).trans (hz0 k hk)), (by decide), (by decide), (by decide), (by rw [y_atE o29]; exact hNG), (by rw [y_atE o33]; exact h26), rfl⟩ (fun n ih30 g H locs hq => ?_)
      obtain ⟨F46, ls, w35, w36, w37, rfl, hl, hP, hS, hI, hfr, hz0, h41, h42, h43, h44, h45, hn⟩ := hq
      have o47 : F46 (A 13) = .inl (cs 0, 400, .inl f1) := (hfr _ (by rw [(y_k13 hA)]; decide)).trans o2
      have o48 : F46 (A 30) = .inl (cs 0, 18360, .inl f7) := (hfr _ (by rw [(y_k30 hA)]; decide)).trans o8
      have oY49 : F46 a0 = .inr (7, y_fl A z0 q0) := (hfr _ (by rw [ha0]; decide)).trans oY0
      have hz0 : ∀ k, k ∈ ([1, 2, 3, 4, 5, 6, 7, 8, 11, 15, 16, 19, 25, 26, 27, 31, 32] : List Nat) → z0 k = z0 k := fun _ _ => rfl
      obtain ⟨f50, o51, b52⟩ := y_op20 hI
      have h44 : (y_NG f1 f50) := by have q9 := h44; rw [y_atE o51] at q9; exact q9
      obtain ⟨f53, o54, b55⟩ := y_op23 hI
      have h45 : (y_CP f4 f53) := by have q9 := h45; rw [y_atE o54] at q9; exact q9
      have hn_55 := hn
      refine th_join (fun g H locs => ∃ (G : Nat → va_E) (ls : Array Slot) (w56 : Int32) (w57 : Int32), g = F0 m 81 ls [] ∧ lv_has ls 6 [(0, .ref a0), (1, .int x1), (2, .int w56), (3, .int w57), (4, .int w37)] ∧ va_P (dC, dI) vwCl (va_pl L G) H ∧ va_S (fun q => q ∈ L) s.heap H locs ∧ y_I K cs A G ∧ (∀ b, K b ∉ [70, 71, 72, 73] → G b = F b) ∧ (∀ k, k ∈ ([1, 2, 3, 4, 5, 6, 7, 8, 11, 15, 16, 19, 25, 26, 27, 31, 32] : List Nat) → y_fi G a0 k = z0 k) ∧ (-1 ≤ w56.toInt ∧ w56.toInt ≤ 3) ∧ (0 ≤ w57.toInt ∧ w57.toInt ≤ 400) ∧ (0 ≤ w37.toInt ∧ w37.toInt ≤ 3) ∧ (y_NG f1 (y_at G (A 20))) ∧ (y_CP f4 (y_at G (A 23)))) (fun K81 => ?_) ?_
      · refine lv_iload hx hb dX7_skew_30 (lv_at hl 4 rfl) ?_
        refine lv_iconst (v := 4) hx hb dX7_skew_32 (by decide) ?_
        refine lv_icmp_ge (tgt := 87) hx hb dX7_skew_33 (by decide) (fun c58 => ?_) (fun c58 => ?_)
        · have c58 := (ax_ge (n := 4) (by decide)).mp c58
          refine lv_aload_n hx hb dX7_skew_87 rfl (lv_at hl 0 rfl) ?_
          refine va_callv (va_runV (As := []) (rest := []) ⟨hx, hb, hml, hown, hts⟩ (y_X7_takesBack l dC dI H.size hLK A hA F46 a0 ha0 hI) (cwV 0 hts (ax_gV T_1049 T_1051 T_1052 T_265 T_1050) rfl rfl rfl (by decide +kernel) ⟨Nat.le_of_ble_eq_true rfl, Nat.le_of_ble_eq_true rfl⟩) ⟨fun a U g mk q => ⟨q.1, s_pc (U := U) rfl rfl q.2⟩, s_recv hK hP (hLK _ ha0 (by decide)) (ci := 7) rfl oY49, fun U hU hW => ⟨rfl, s_pw hU hW hP hK hD hN⟩⟩ rfl rfl hl.1 rfl (lv_room (Nat.le_of_ble_eq_true rfl)) dX7_skew_88 ⟨Nat.zero_le _, Nat.zero_le _⟩) hS (fun q _ h => h) (fun q h => h) (fun F60 t H1 locs ht hvm hw hB hz1 hk1 hS => ?_)
          obtain ⟨hP, hK1⟩ := hB
          rw [ht] at hP
          generalize H1 = H at hP hS ⊢
          clear hz1 hk1 hvm hK1
          obtain ⟨h61, h63, hI, hfr1, hzf, h62⟩ := hw
          have o64 : F60 (A 13) = .inl (cs 0, 400, .inl f1) := (hfr1 _ (by rw [(y_k13 hA)]; decide)).trans o47
          have o65 : F60 (A 30) = .inl (cs 0, 18360, .inl f7) := (hfr1 _ (by rw [(y_k30 hA)]; decide)).trans o48
          have o66 : F60 (A 23) = .inl (cs 0, 918, .inl f53) := (hfr1 _ (by rw [(y_k23 hA)]; decide)).trans o54
          have oY67 : F60 a0 = .inr (7, y_fl A z0 q0) := (hfr1 _ (by rw [ha0]; decide)).trans oY49
          have hfr : ∀ b, K b ∉ [70, 71, 72, 73] → F60 b = F b := fun b hb9 => (hfr1 b (fun q => hb9 (s_sub (by decide) q))).trans (hfr b hb9)
          obtain ⟨f68, o69, b70⟩ := y_op20 hI
          have h62 : (y_CP f53 f68) := by have q9 := h62; rw [y_atE o54, y_atE o69] at q9; exact q9
          refine lv_iload_n hx hb dX7_skew_91 rfl (lv_at hl 2 rfl) ?_
          refine lv_iconst (v := (-1)) hx hb dX7_skew_92 (by decide) ?_
          refine lv_icmp_ne (tgt := 100) hx hb dX7_skew_93 (by decide) (fun c71 => ?_) (fun c71 => ?_)
          · have c71 := mt (ax_eq (n := (-1)) (by decide)).mpr c71
            refine lv_iload_n hx hb dX7_skew_100 rfl (lv_at hl 1 rfl) ?_
            refine lv_if_ne (tgt := 108) hx hb dX7_skew_101 (by decide) (fun c72 => ?_) (fun c72 => ?_)
            · have c72 := mt (ax_eq (n := 0) (by decide)).mpr c72
              refine lv_iload_n hx hb dX7_skew_108 rfl (lv_at hl 3 rfl) ?_
              exact W.iret (v := w36) hx hb hr (fun t ht hW => ⟨⟨w36, F60, rfl, ⟨⟨by omega, by omega⟩, trivial, hI, hfr, fun k hk => (y_fiZ oY67 (s_sub (by decide) hk)).trans ((hz0 k hk).trans (y_fiZ oY0 (s_sub (by decide) hk)).symm), (by rw [y_fiZ oY67 (k := 15) (by decide), ← ev10, y_atE o64, y_atE o69, y_atE o65, y_fiZ oY67 (k := 31) (by decide), ← ev11, y_fiZ oY67 (k := 32) (by decide), ← ev12]; exact (y_Tc (y_CP_t h45 h62) hT))⟩, by rw [ht]; exact hP, va_K.moved hW.alike hK⟩, hS.F ht⟩) hS.2.2 dX7_skew_109
            · have c72 := (ax_eq (n := 0) (by decide)).mp c72
              refine lv_iload_n hx hb dX7_skew_104 rfl (lv_at hl 2 rfl) ?_
              refine lv_goto (tgt := 109) hx hb dX7_skew_105 (by decide) ?_
              exact W.iret (v := w35) hx hb hr (fun t ht hW => ⟨⟨w35, F60, rfl, ⟨⟨by omega, by omega⟩, trivial, hI, hfr, fun k hk => (y_fiZ oY67 (s_sub (by decide) hk)).trans ((hz0 k hk).trans (y_fiZ oY0 (s_sub (by decide) hk)).symm), (by rw [y_fiZ oY67 (k := 15) (by decide), ← ev10, y_atE o64, y_atE o69, y_atE o65, y_fiZ oY67 (k := 31) (by decide), ← ev11, y_fiZ oY67 (k := 32) (by decide), ← ev12]; exact (y_Tc (y_CP_t h45 h62) hT))⟩, by rw [ht]; exact hP, va_K.moved hW.alike hK⟩, hS.F ht⟩) hS.2.2 dX7_skew_109
          · have c71 := (ax_eq (n := (-1)) (by decide)).mp c71
            refine lv_iconst (v := (-1)) hx hb dX7_skew_96 (by decide) ?_
            refine lv_goto (tgt := 109) hx hb dX7_skew_97 (by decide) ?_
            have h73 : ((-1) : Int32).toInt = (-1) := by decide
            exact W.iret (v := (-1)) hx hb hr (fun t ht hW => ⟨⟨(-1), F60, rfl, ⟨(by decide), trivial, hI, hfr, fun k hk => (y_fiZ oY67 (s_sub (by decide) hk)).trans ((hz0 k hk).trans (y_fiZ oY0 (s_sub (by decide) hk)).symm), (by rw [y_fiZ oY67 (k := 15) (by decide), ← ev10, y_atE o64, y_atE o69, y_atE o65, y_fiZ oY67 (k := 31) (by decide), ← ev11, y_fiZ oY67 (k := 32) (by decide), ← ev12]; exact (y_Tc (y_CP_t h45 h62) hT))⟩, by rw [ht]; exact hP, va_K.moved hW.alike hK⟩, hS.F ht⟩) hS.2.2 dX7_skew_109
        · have c58 := mt (ax_ge (n := 4) (by decide)).mpr c58
          refine lv_aload_n hx hb dX7_skew_36 rfl (lv_at hl 0 rfl) ?_
          refine th_get (D := (dC, dI)) (ci := 7) (v := .ref (A 20)) (C := RX7) (T := TX7) (N := 34) hx hb hts inX7 hown hK hP (hLK _ ha0 (by decide)) oY49 rfl 20 (by decide) (hts _ T_251) (fun _ h9 => h9) rfl dX7_skew_37 ?_
          refine lv_iconst (v := 5) hx hb dX7_skew_40 (by decide) ?_
          refine lv_iload hx hb dX7_skew_41 (lv_at hl 4 rfl) ?_
          refine th_iast hx hb hK hP hD hS (hLK _ (y_k20 hA) (by decide)) 0 o51 rfl (ax_in (by decide)) dX7_skew_43 (fun H locs hP hS => ?_)
          obtain ⟨f74, u75⟩ : ∃ g : Nat → Int32, g = upd f50 (5 : Int32).toNatClampNeg w37 := ⟨_, rfl⟩
          rw [← u75] at hP
          have b76 : y_bd 20 f74 := trivial
          have hP : va_P (dC, dI) vwCl (va_pl L (va_up F46 (A 20) (.inl (cs 0, 918, .inl f74)))) H := hP
          obtain ⟨F77, hF78⟩ : ∃ G : Nat → va_E, G = va_up F46 (A 20) (.inl (cs 0, 918, .inl f74)) := ⟨_, rfl⟩
          rw [← hF78] at hP
          have hI : y_I K cs A F77 := by rw [hF78]; exact y_clA (i := 20) hA hI (by decide) b76
          have hfr : ∀ b, K b ∉ [70, 71, 72, 73] → F77 b = F b := by rw [hF78]; exact s_fr hfr (y_k20 hA) (by decide)
          have o79 : F77 (A 13) = .inl (cs 0, 400, .inl f1) := by rw [hF78]; exact th_ne (th_kd (y_k13 hA) (y_k20 hA) (by decide)) o47
          have o80 : F77 (A 30) = .inl (cs 0, 18360, .inl f7) := by rw [hF78]; exact th_ne (th_kd (y_k30 hA) (y_k20 hA) (by decide)) o48
          have o81 : F77 (A 23) = .inl (cs 0, 918, .inl f53) := by rw [hF78]; exact th_ne (th_kd (y_k23 hA) (y_k20 hA) (by decide)) o54
          have oY82 : F77 a0 = .inr (7, y_fl A z0 q0) := by rw [hF78]; exact th_ne (th_kd ha0 (y_k20 hA) (by decide)) oY49
          have o83 : F77 (A 20) = .inl (cs 0, 918, .inl f74) := by rw [hF78]; exact th_up
          have u84 : ∀ j : Int, 0 ≤ j → y_c f74 j = if j = 5 then w37 else y_c f50 j := by rw [u75]; exact y_cu (by decide) (by decide)
          have k85 : y_NG f1 f74 := y_NGe (y_E_u u84 (by omega)) h44 (by rw [u84 6 (by omega), if_neg (by omega)]; exact h44.2.2.1) (by rw [u84 7 (by omega), if_neg (by omega)]; exact h44.2.2.2.1) (by omega)
          refine lv_aload_n hx hb dX7_skew_44 rfl (lv_at hl 0 rfl) ?_
          refine lv_iconst (v := (-1)) hx hb dX7_skew_45 (by decide) ?_
          refine va_callv (va_runV (As := [.int (-1)]) (rest := []) ⟨hx, hb, hml, hown, hts⟩ (y_X7_begins l dC dI H.size hLK A hA F77 a0 (-1) ha0 (by decide) hI (by rw [y_atE o79]; exact hPG) (by rw [y_atE o83]; exact ⟨k85.1, k85.2.1⟩)) (cwV 1 hts (ax_gV T_1017 T_1019 T_1020 T_265 T_1018) rfl rfl rfl (by decide +kernel) ⟨Nat.le_of_ble_eq_true rfl, Nat.le_of_ble_eq_true rfl⟩) ⟨fun a U g mk q => ⟨q.1, s_pc (U := U) rfl rfl q.2⟩, s_recv hK hP (hLK _ ha0 (by decide)) (ci := 7) rfl oY82, fun U hU hW => ⟨rfl, s_pw hU hW hP hK hD hN⟩⟩ rfl rfl hl.1 rfl (lv_room (Nat.le_of_ble_eq_true rfl)) dX7_skew_46 ⟨Nat.zero_le _, Nat.zero_le _⟩) hS (fun q _ h => h) (fun q h => h) (fun F87 t H1 locs ht hvm hw hB hz1 hk1 hS => ?_)
          obtain ⟨hP, hK1⟩ := hB
          rw [ht] at hP
          generalize H1 = H at hP hS ⊢
          clear hz1 hk1 hvm hK1
          obtain ⟨h88, h90, hI, hfr1, hzf, h89⟩ := hw
          have o91 : F87 (A 13) = .inl (cs 0, 400, .inl f1) := (hfr1 _ (by rw [(y_k13 hA)]; decide)).trans o79
          have o92 : F87 (A 30) = .inl (cs 0, 18360, .inl f7) := (hfr1 _ (by rw [(y_k30 hA)]; decide)).trans o80
          have o93 : F87 (A 23) = .inl (cs 0, 918, .inl f53) := (hfr1 _ (by rw [(y_k23 hA)]; decide)).trans o81
          have oY94 : F87 a0 = .inr (7, y_fl A z0 q0) := (hfr1 _ (by rw [ha0]; decide)).trans oY82
          have hfr : ∀ b, K b ∉ [70, 71, 72, 73] → F87 b = F b := fun b hb9 => (hfr1 b (fun q => hb9 (s_sub (by decide) q))).trans (hfr b hb9)
          obtain ⟨f95, o96, b97⟩ := y_op20 hI
          have h89 : (y_NG f1 f95) := by have q9 := h89; rw [y_atE o79, y_atE o96] at q9; exact q9
          refine lv_aload_n hx hb dX7_skew_49 rfl (lv_at hl 0 rfl) ?_
          refine va_calli (va_runV (As := []) (rest := []) ⟨hx, hb, hml, hown, hts⟩ (y_X7_endsBehind l dC dI H.size hLK A hA F87 a0 ha0 hI (by rw [y_atE o91]; exact hPG) (by rw [y_atE o91, y_atE o96]; exact h89)) (cwV 0 hts (ax_gV T_1200 T_1202 T_1203 T_265 T_1201) rfl rfl rfl (by decide +kernel) ⟨Nat.le_of_ble_eq_true rfl, Nat.le_of_ble_eq_true rfl⟩) ⟨fun a U g mk q => ⟨q.1, s_pc (U := U) rfl rfl q.2⟩, s_recv hK hP (hLK _ ha0 (by decide)) (ci := 7) rfl oY94, fun U hU hW => ⟨rfl, s_pw hU hW hP hK hD hN⟩⟩ rfl rfl hl.1 rfl (lv_room (Nat.le_of_ble_eq_true rfl)) dX7_skew_50 ⟨Nat.zero_le _, Nat.zero_le _⟩) hS (fun q _ h => h) (fun q h => h) (fun r99 F100 t H1 locs ht hvm hw hB hz1 hk1 hS => ?_)
          obtain ⟨hP, hK1⟩ := hB
          rw [ht] at hP
          generalize H1 = H at hP hS ⊢
          clear hz1 hk1 hvm hK1
          obtain ⟨h101, h103, hI, hfr1, hzf, h102⟩ := hw
          have o104 : F100 (A 13) = .inl (cs 0, 400, .inl f1) := (hfr1 _ (by rw [(y_k13 hA)]; decide)).trans o91
          have o105 : F100 (A 30) = .inl (cs 0, 18360, .inl f7) := (hfr1 _ (by rw [(y_k30 hA)]; decide)).trans o92
          have o106 : F100 (A 23) = .inl (cs 0, 918, .inl f53) := (hfr1 _ (by rw [(y_k23 hA)]; decide)).trans o93
          have oY107 : F100 a0 = .inr (7, y_fl A z0 q0) := (hfr1 _ (by rw [ha0]; decide)).trans oY94
          have hfr : ∀ b, K b ∉ [70, 71, 72, 73] → F100 b = F b := fun b hb9 => (hfr1 b (fun q => hb9 (s_sub (by decide) q))).trans (hfr b hb9)
          obtain ⟨f108, o109, b110⟩ := y_op20 hI
          have h102 : (y_NG f1 f108) := by have q9 := h102; rw [y_atE o91, y_atE o109] at q9; exact q9
          refine lv_istore (lv' := [(5, .int r99), (0, .ref a0), (1, .int x1), (2, .int w35), (3, .int w36), (4, .int w37)]) hx hb dX7_skew_53 hl (by decide) rfl (fun ls hl => ?_)
          refine lv_iload hx hb dX7_skew_55 (lv_at hl 0 rfl) ?_
          refine lv_iconst (v := (-1)) hx hb dX7_skew_57 (by decide) ?_
          refine lv_icmp_eq (tgt := 81) hx hb dX7_skew_58 (by decide) (fun c111 => ?_) (fun c111 => ?_)
          · have c111 := (ax_eq (n := (-1)) (by decide)).mp c111
            exact K81 _ _ _ ⟨F100, _, w35, w36, rfl, lv_sub hl [1, 2, 3, 4, 5] rfl, hP, hS, hI, hfr, (fun k hk => (y_fiZ oY107 (s_sub (by decide) hk)).trans (hz0 k hk)), ⟨by omega, by omega⟩, ⟨by omega, by omega⟩, ⟨by omega, by omega⟩, (by rw [y_atE o109]; exact h102), (by rw [y_atE o106]; exact h45)⟩
          · have c111 := mt (ax_eq (n := (-1)) (by decide)).mpr c111
            refine lv_iload_n hx hb dX7_skew_61 rfl (lv_at hl 3 rfl) ?_
            refine lv_iconst (v := (-1)) hx hb dX7_skew_62 (by decide) ?_
            refine lv_icmp_eq (tgt := 75) hx hb dX7_skew_63 (by decide) (fun c112 => ?_) (fun c112 => ?_)
            · have c112 := (ax_eq (n := (-1)) (by decide)).mp c112
              refine lv_iload hx hb dX7_skew_75 (lv_at hl 5 rfl) ?_
              refine lv_istore_n (lv' := [(2, .int w37), (5, .int r99), (0, .ref a0), (1, .int x1), (3, .int w36), (4, .int w37)]) hx hb dX7_skew_77 rfl hl (by decide) rfl (fun ls hl => ?_)
              refine lv_iload hx hb dX7_skew_78 (lv_at hl 1 rfl) ?_
              refine lv_istore_n (lv' := [(3, .int r99), (2, .int w37), (5, .int r99), (0, .ref a0), (1, .int x1), (4, .int w37)]) hx hb dX7_skew_80 rfl hl (by decide) rfl (fun ls hl => ?_)
              exact K81 _ _ _ ⟨F100, _, w37, r99, rfl, lv_sub hl [3, 4, 1, 0, 5] rfl, hP, hS, hI, hfr, (fun k hk => (y_fiZ oY107 (s_sub (by decide) hk)).trans (hz0 k hk)), ⟨by omega, by omega⟩, ⟨by omega, by omega⟩, ⟨by omega, by omega⟩, (by rw [y_atE o109]; exact h102), (by rw [y_atE o106]; exact h45)⟩
            · have c112 := mt (ax_eq (n := (-1)) (by decide)).mpr c112
              refine lv_iload hx hb dX7_skew_66 (lv_at hl 0 rfl) ?_
              refine lv_iload_n hx hb dX7_skew_68 rfl (lv_at hl 4 rfl) ?_
              refine lv_icmp_lt (tgt := 75) hx hb dX7_skew_69 (by decide) (fun c113 => ?_) (fun c113 => ?_)
              · have c113 := Int32.lt_iff_toInt_lt.mp c113
                refine lv_iload hx hb dX7_skew_75 (lv_at hl 5 rfl) ?_
                refine lv_istore_n (lv' := [(2, .int w37), (5, .int r99), (0, .ref a0), (1, .int x1), (3, .int w36), (4, .int w37)]) hx hb dX7_skew_77 rfl hl (by decide) rfl (fun ls hl => ?_)
                refine lv_iload hx hb dX7_skew_78 (lv_at hl 1 rfl) ?_
                refine lv_istore_n (lv' := [(3, .int r99), (2, .int w37), (5, .int r99), (0, .ref a0), (1, .int x1), (4, .int w37)]) hx hb dX7_skew_80 rfl hl (by decide) rfl (fun ls hl => ?_)
                exact K81 _ _ _ ⟨F100, _, w37, r99, rfl, lv_sub hl [3, 4, 1, 0, 5] rfl, hP, hS, hI, hfr, (fun k hk => (y_fiZ oY107 (s_sub (by decide) hk)).trans (hz0 k hk)), ⟨by omega, by omega⟩, ⟨by omega, by omega⟩, ⟨by omega, by omega⟩, (by rw [y_atE o109]; exact h102), (by rw [y_atE o106]; exact h45)⟩
              · have c113 := mt Int32.lt_iff_toInt_lt.mpr c113
                refine lv_goto (tgt := 81) hx hb dX7_skew_72 (by decide) ?_
                exact K81 _ _ _ ⟨F100, _, w35, w36, rfl, lv_sub hl [1, 2, 3, 4, 5] rfl, hP, hS, hI, hfr, (fun k hk => (y_fiZ oY107 (s_sub (by decide) hk)).trans (hz0 k hk)), ⟨by omega, by omega⟩, ⟨by omega, by omega⟩, ⟨by omega, by omega⟩, (by rw [y_atE o109]; exact h102), (by rw [y_atE o106]; exact h45)⟩
      · intro g H locs hq
        obtain ⟨F119, ls, w56, w57, rfl, hl, hP, hS, hI, hfr, hz0, h114, h115, h116, h117, h118⟩ := hq
        have o120 : F119 (A 13) = .inl (cs 0, 400, .inl f1) := (hfr _ (by rw [(y_k13 hA)]; decide)).trans o2
        have o121 : F119 (A 30) = .inl (cs 0, 18360, .inl f7) := (hfr _ (by rw [(y_k30 hA)]; decide)).trans o8
        have oY122 : F119 a0 = .inr (7, y_fl A z0 q0) := (hfr _ (by rw [ha0]; decide)).trans oY0
        have hz0 : ∀ k, k ∈ ([1, 2, 3, 4, 5, 6, 7, 8, 11, 15, 16, 19, 25, 26, 27, 31, 32] : List Nat) → z0 k = z0 k := fun _ _ => rfl
        obtain ⟨f123, o124, b125⟩ := y_op20 hI
        have h117 : (y_NG f1 f123) := by have q9 := h117; rw [y_atE o124] at q9; exact q9
        obtain ⟨f126, o127, b128⟩ := y_op23 hI
        have h118 : (y_CP f4 f126) := by have q9 := h118; rw [y_atE o127] at q9; exact q9
        obtain ⟨v129, ev129⟩ : ∃ y : Int32, w37 + 1 = y := ⟨_, rfl⟩
        have qv129 : v129.toInt = w37.toInt + 1 := by rw [← ev129]; exact th_add rfl (by decide) ⟨by omega, by omega⟩
        refine lv_iinc (v := v129) (lv' := [(4, .int v129), (0, .ref a0), (1, .int x1), (2, .int w56), (3, .int w57)]) hx hb dX7_skew_81 hl (k := 4) rfl ev129 (by decide) rfl (fun ls hl => ?_)
        refine lv_goto (tgt := 30) hx hb dX7_skew_84 (by decide) ?_
        exact ih30 _ _ _ _ (by omega) ⟨F119, _, w56, w57, v129, rfl, lv_sub hl [1, 2, 3, 4, 0] rfl, hP, hS, hI, hfr, (fun k hk => (y_fiZ oY122 (s_sub (by decide) hk)).trans (hz0 k hk)), ⟨by omega, by omega⟩, ⟨by omega, by omega⟩, ⟨by omega, by omega⟩, (by rw [y_atE o124]; exact h117), (by rw [y_atE o127]; exact h118), rfl⟩
    · have c22 := (ax_eq (n := 0) (by decide)).mp c22
      refine lv_iconst (v := (-1)) hx hb dX7_skew_17 (by decide) ?_
      have h130 : ((-1) : Int32).toInt = (-1) := by decide
      exact W.iret (v := (-1)) hx hb hr (fun t ht hW => ⟨⟨(-1), F, rfl, ⟨(by decide), trivial, hI, hfr, fun k hk => (y_fiZ oY0 (s_sub (by decide) hk)).trans ((hz0 k hk).trans (y_fiZ oY0 (s_sub (by decide) hk)).symm), (by rw [y_fiZ oY0 (k := 15) (by decide), ← ev10, y_atE o2, y_atE o5, y_atE o8, y_fiZ oY0 (k := 31) (by decide), ← ev11, y_fiZ oY0 (k := 32) (by decide), ← ev12]; exact hT)⟩, by rw [ht]; exact hP, va_K.moved hW.alike hK⟩, hS.F ht⟩) hS.2.2 dX7_skew_18

set_option maxHeartbeats 4000000 in
set_option maxRecDepth 100000 in
theorem yt_X7_isAlone (l : Launch) (dC : Nat → ClassId) (dI : Nat → Nat → Nat) (sz : Nat) {L : List Nat} {K : Nat → Nat} {cs : Nat → ClassId} (hLK : ∀ a {k : Nat}, K a = k → k ≠ 0 → a ∈ L) (A : Nat → Nat) (hA : y_A K A) (F : Nat → va_E) (a0 : Nat) (x1 : Int32) (x2 : Int32) (ha0 : K a0 = 9) (hx1 : 0 ≤ x1.toInt ∧ x1.toInt ≤ 3) (hx2 : 0 ≤ x2.toInt ∧ x2.toInt ≤ 7) (hI : y_I K cs A F) (hPG : y_PG (y_at F (A 13))) (hNG : y_NG (y_at F (A 13)) (y_at F (A 20))) : Met l yX7_isAlone (Cond.code yX7_isAlone cX7_isAlone 4 (some .boolean) :: T0) ({ frames := 9, cells := 0, slots := 0, locals := 209 }) (va_Pc [.ref a0, .int x1, .int x2] (s_W dC dI sz L F [(cs 0, .int), (cs 1, .byte), (cs 2, .long), (cs 3, .object RX5), (cs 4, .object RX4), (cs 5, .array .int), (cs 6, .char), (cs 7, .boolean)])) (va_Qi (fun (r : Int32) (G : Nat → va_E) => (0 ≤ r.toInt ∧ r.toInt ≤ 1) ∧ True ∧ y_I K cs A G ∧ (∀ b, K b ∉ [70, 71, 72, 73, 78] → G b = F b) ∧ (∀ k, k ∈ ([1, 2, 3, 4, 5, 6, 7, 8, 11, 15, 16, 19, 25, 26, 27, 31, 32] : List Nat) → y_fi G a0 k = y_fi F a0 k) ∧ (y_CP (y_at F (A 20)) (y_at G (A 20)))) (fun (G : Nat → va_E) (t : State) => va_P (dC, dI) vwCl (va_pl L G) t.heap ∧ va_K (dC, dI) vwCl [(cs 0, .int), (cs 1, .byte), (cs 2, .long), (cs 3, .object RX5), (cs 4, .object RX4), (cs 5, .array .int), (cs 6, .char), (cs 7, .boolean)] t) (fun q => q ∈ L)) 0 0 (fun q => q ∈ L) := by
  refine Met.ofW (cc := cX7_isAlone) (maxL := 4) (ret := (some .boolean)) (by decide) rfl ?_
  intro p e s m args below meth c s₁ B hml hv
  obtain ⟨rfl, hsz, hP, hK, hD, hN⟩ := hv
  have hx := B.exec
  have hb := B.bytes
  have hr := B.returns
  have hts : ∀ w ∈ T0, w.before _ s = true := fun w h => atoms_spec (ws := Cond.code yX7_isAlone cX7_isAlone 4 (some .boolean) :: T0) B.pre w (List.mem_cons_of_mem _ h)
  have hown : s.vm.findClass RX7 = some m.cls := findClass_of_methodNamed B.named
  have hlocks := B.notSynchronized
  have hS : va_S (fun q => q ∈ L) s.heap s.heap [] := va_S.rf
  have hfr : ∀ b, K b ∉ [70, 71, 72, 73, 78] → F b = F b := fun _ _ => rfl
  have hl := lv_entry ([.ref a0, .int x1, .int x2]) (n := 4) (Nat.le_of_ble_eq_true rfl)
  rw [lg_entry_eq]
  generalize (lg_sl ([.ref a0, .int x1, .int x2]) ++ List.replicate (4 - (lg_sl ([.ref a0, .int x1, .int x2])).length) Slot.unset).toArray = ls at hl ⊢
  have hl : lv_has ls 4 [(0, .ref a0), (1, .int x1), (2, .int x2)] := hl
  refine s_gen hP hS (fun H locs hP hS => ?_)
  obtain ⟨z0, q0, oY0, bz0, bq0⟩ := y_opY hI ha0
  have hz0 : ∀ k, k ∈ ([1, 2, 3, 4, 5, 6, 7, 8, 11, 15, 16, 19, 25, 26, 27, 31, 32] : List Nat) → z0 k = z0 k := fun _ _ => rfl
  obtain ⟨f1, o2, b3⟩ := y_op13 hI
  obtain ⟨f4, o5, b6⟩ := y_op20 hI
  have hPG : y_PG f1 := by have q9 := hPG; rw [y_atE o2] at q9; exact q9
  have hNG : y_NG f1 f4 := by have q9 := hNG; rw [y_atE o2, y_atE o5] at q9; exact q9
  have hL := y_P0L hPG.1
  have hW := y_P0W hPG.1
  have hnn := And.intro hNG.1 (And.intro hNG.2.1 (And.intro hNG.2.2.1 hNG.2.2.2.1))
  refine lv_aload_n hx hb dX7_isAlone_0 rfl (lv_at hl 0 rfl) ?_
  refine va_callv (va_runV (As := []) (rest := []) ⟨hx, hb, hml, hown, hts⟩ (y_X7_putsAside l dC dI H.size hLK A hA F a0 ha0 hI) (cwV 0 hts (ax_gV T_1041 T_1043 T_1044 T_265 T_1042) rfl rfl rfl (by decide +kernel) ⟨Nat.le_of_ble_eq_true rfl, Nat.le_of_ble_eq_true rfl⟩) ⟨fun a U g mk q => ⟨q.1, s_pc (U := U) rfl rfl q.2⟩, s_recv hK hP (hLK _ ha0 (by decide)) (ci := 7) rfl oY0, fun U hU hW => ⟨rfl, s_pw hU hW hP hK hD hN⟩⟩ rfl rfl hl.1 rfl (lv_room (Nat.le_of_ble_eq_true rfl)) dX7_isAlone_1 ⟨Nat.zero_le _, Nat.zero_le _⟩) hS (fun q _ h => h) (fun q h => h) (fun F8 t H1 locs ht hvm hw hB hz1 hk1 hS => ?_)
  obtain ⟨hP, hK1⟩ := hB
  rw [ht] at hP
  generalize H1 = H at hP hS ⊢
  clear hz1 hk1 hvm hK1
  obtain ⟨h9, h11, hI, hfr1, hzf, h10⟩ := hw
  have o12 : F8 (A 13) = .inl (cs 0, 400, .inl f1) := (hfr1 _ (by rw [(y_k13 hA)]; decide)).trans o2
  have o13 : F8 (A 20) = .inl (cs 0, 918, .inl f4) := (hfr1 _ (by rw [(y_k20 hA)]; decide)).trans o5
  have oY14 : F8 a0 = .inr (7, y_fl A z0 q0) := (hfr1 _ (by rw [ha0]; decide)).trans oY0
  have hfr : ∀ b, K b ∉ [70, 71, 72, 73, 78] → F8 b = F b := fun b hb9 => (hfr1 b (fun q => hb9 (s_sub (by decide) q))).trans (hfr b hb9)
  obtain ⟨f15, o16, b17⟩ := y_op23 hI
  have h10 : (y_CP f4 f15) := by have q9 := h10; rw [y_atE o5, y_atE o16] at q9; exact q9
  refine lv_aload_n hx hb dX7_isAlone_4 rfl (lv_at hl 0 rfl) ?_
  refine lv_bipush (v := 8) hx hb dX7_isAlone_5 (by decide) ?_
  refine lv_iload_n hx hb dX7_isAlone_7 rfl (lv_at hl 1 rfl) ?_
  refine lv_imul hx hb dX7_isAlone_8 ?_
  refine lv_topi (fun v18 ev18 => ?_)
  have qv18 : v18.toInt = 8 * x1.toInt := by rw [ev18]; exact th_mul (by decide) rfl ⟨by omega, by omega⟩
  refine lv_iload_n hx hb dX7_isAlone_9 rfl (lv_at hl 2 rfl) ?_
  refine lv_iadd hx hb dX7_isAlone_10 ?_
  refine lv_topi (fun v19 ev19 => ?_)
  have qv19 : v19.toInt = v18.toInt + x2.toInt := by rw [ev19]; exact th_add rfl rfl ⟨by omega, by omega⟩
  have rg20 : -1 ≤ v19.toInt ∧ v19.toInt ≤ 31 := ⟨by omega, by omega⟩
  refine va_callv (va_runV (As := [.int v19]) (rest := []) ⟨hx, hb, hml, hown, hts⟩ (y_X7_begins l dC dI H.size hLK A hA F8 a0 v19 ha0 rg20 hI (by rw [y_atE o12]; exact hPG) (by rw [y_atE o13]; exact ⟨hNG.1, hNG.2.1⟩)) (cwV 1 hts (ax_gV T_1017 T_1019 T_1020 T_265 T_1018) rfl rfl rfl (by decide +kernel) ⟨Nat.le_of_ble_eq_true rfl, Nat.le_of_ble_eq_true rfl⟩) ⟨fun a U g mk q => ⟨q.1, s_pc (U := U) rfl rfl q.2⟩, s_recv hK hP (hLK _ ha0 (by decide)) (ci := 7) rfl oY14, fun U hU hW => ⟨rfl, s_pw hU hW hP hK hD hN⟩⟩ rfl rfl hl.1 rfl (lv_room (Nat.le_of_ble_eq_true rfl)) dX7_isAlone_11 ⟨Nat.zero_le _, Nat.zero_le _⟩) hS (fun q _ h => h) (fun q h => h) (fun F22 t H1 locs ht hvm hw hB hz1 hk1 hS => ?_)
  obtain ⟨hP, hK1⟩ := hB
  rw [ht] at hP
  generalize H1 = H at hP hS ⊢
  clear hz1 hk1 hvm hK1
  obtain ⟨h23, h25, hI, hfr1, hzf, h24⟩ := hw
  have o26 : F22 (A 13) = .inl (cs 0, 400, .inl f1) := (hfr1 _ (by rw [(y_k13 hA)]; decide)).trans o12
  have o27 : F22 (A 23) = .inl (cs 0, 918, .inl f15) := (hfr1 _ (by rw [(y_k23 hA)]; decide)).trans o16
  have oY28 : F22 a0 = .inr (7, y_fl A z0 q0) := (hfr1 _ (by rw [ha0]; decide)).trans oY14
  have hfr : ∀ b, K b ∉ [70, 71, 72, 73, 78] → F22 b = F b := fun b hb9 => (hfr1 b (fun q => hb9 (s_sub (by decide) q))).trans (hfr b hb9)
  obtain ⟨f29, o30, b31⟩ := y_op20 hI
  have h24 : (y_NG f1 f29) := by have q9 := h24; rw [y_atE o12, y_atE o30] at q9; exact q9
  refine lv_aload_n hx hb dX7_isAlone_14 rfl (lv_at hl 0 rfl) ?_
  refine th_get (D := (dC, dI)) (ci := 7) (v := .ref (A 28)) (C := RX7) (T := TX7) (N := 34) hx hb hts inX7 hown hK hP (hLK _ ha0 (by decide)) oY28 rfl 28 (by decide) (hts _ T_257) (fun _ h9 => h9) rfl dX7_isAlone_15 ?_
  refine lv_iconst (v := 4) hx hb dX7_isAlone_18 (by decide) ?_
  refine lv_aload_n hx hb dX7_isAlone_19 rfl (lv_at hl 0 rfl) ?_
  refine va_calli (va_runV (As := []) (rest := [.int 4, .ref (A 28)]) ⟨hx, hb, hml, hown, hts⟩ (y_X7_endsBehind l dC dI H.size hLK A hA F22 a0 ha0 hI (by rw [y_atE o26]; exact hPG) (by rw [y_atE o26, y_atE o30]; exact h24)) (cwV 0 hts (ax_gV T_1200 T_1202 T_1203 T_265 T_1201) rfl rfl rfl (by decide +kernel) ⟨Nat.le_of_ble_eq_true rfl, Nat.le_of_ble_eq_true rfl⟩) ⟨fun a U g mk q => ⟨q.1, s_pc (U := U) rfl rfl q.2⟩, s_recv hK hP (hLK _ ha0 (by decide)) (ci := 7) rfl oY28, fun U hU hW => ⟨rfl, s_pw hU hW hP hK hD hN⟩⟩ rfl rfl hl.1 rfl (lv_room (Nat.le_of_ble_eq_true rfl)) dX7_isAlone_20 ⟨Nat.zero_le _, Nat.zero_le _⟩) hS (fun q _ h => h) (fun q h => h) (fun r33 F34 t H1 locs ht hvm hw hB hz1 hk1 hS => ?_)
  obtain ⟨hP, hK1⟩ := hB
  rw [ht] at hP
  generalize H1 = H at hP hS ⊢
  clear hz1 hk1 hvm hK1
  obtain ⟨h35, h37, hI, hfr1, hzf, h36⟩ := hw
  have o38 : F34 (A 13) = .inl (cs 0, 400, .inl f1) := (hfr1 _ (by rw [(y_k13 hA)]; decide)).trans o26
  have o39 : F34 (A 23) = .inl (cs 0, 918, .inl f15) := (hfr1 _ (by rw [(y_k23 hA)]; decide)).trans o27
  have oY40 : F34 a0 = .inr (7, y_fl A z0 q0) := (hfr1 _ (by rw [ha0]; decide)).trans oY28
  have hfr : ∀ b, K b ∉ [70, 71, 72, 73, 78] → F34 b = F b := fun b hb9 => (hfr1 b (fun q => hb9 (s_sub (by decide) q))).trans (hfr b hb9)
  obtain ⟨f41, o42, b43⟩ := y_op20 hI
  have h36 : (y_NG f1 f41) := by have q9 := h36; rw [y_atE o26, y_atE o42] at q9; exact q9
  obtain ⟨f44, o45, b46⟩ := y_op28 hI
  refine th_iast hx hb hK hP hD hS (hLK _ (y_k28 hA) (by decide)) 0 o45 rfl (ax_in (by decide)) dX7_isAlone_23 (fun H locs hP hS => ?_)
  obtain ⟨f47, u48⟩ : ∃ g : Nat → Int32, g = upd f44 (4 : Int32).toNatClampNeg r33 := ⟨_, rfl⟩
  rw [← u48] at hP
  have b49 : y_bd 28 f47 := trivial
  have hP : va_P (dC, dI) vwCl (va_pl L (va_up F34 (A 28) (.inl (cs 0, 5, .inl f47)))) H := hP
  obtain ⟨F50, hF51⟩ : ∃ G : Nat → va_E, G = va_up F34 (A 28) (.inl (cs 0, 5, .inl f47)) := ⟨_, rfl⟩
  rw [← hF51] at hP
  have hI : y_I K cs A F50 := by rw [hF51]; exact y_clA (i := 28) hA hI (by decide) b49
  have hfr : ∀ b, K b ∉ [70, 71, 72, 73, 78] → F50 b = F b := by rw [hF51]; exact s_fr hfr (y_k28 hA) (by decide)
  have o52 : F50 (A 13) = .inl (cs 0, 400, .inl f1) := by rw [hF51]; exact th_ne (th_kd (y_k13 hA) (y_k28 hA) (by decide)) o38
  have o53 : F50 (A 23) = .inl (cs 0, 918, .inl f15) := by rw [hF51]; exact th_ne (th_kd (y_k23 hA) (y_k28 hA) (by decide)) o39
  have o54 : F50 (A 20) = .inl (cs 0, 918, .inl f41) := by rw [hF51]; exact th_ne (th_kd (y_k20 hA) (y_k28 hA) (by decide)) o42
  have oY55 : F50 a0 = .inr (7, y_fl A z0 q0) := by rw [hF51]; exact th_ne (th_kd ha0 (y_k28 hA) (by decide)) oY40
  have o56 : F50 (A 28) = .inl (cs 0, 5, .inl f47) := by rw [hF51]; exact th_up
  have u57 : ∀ j : Int, 0 ≤ j → y_c f47 j = if j = 4 then r33 else y_c f44 j := by rw [u48]; exact y_cu (by decide) (by decide)
  refine lv_iconst (v := 0) hx hb dX7_isAlone_24 (by decide) ?_
  refine lv_istore_n (lv' := [(3, .int 0), (0, .ref a0), (1, .int x1), (2, .int x2)]) hx hb dX7_isAlone_25 rfl hl (by decide) rfl (fun ls hl => ?_)
  have h59 : (0 : Int32).toInt = 0 := by decide
  refine th_loop (fun n g H locs => ∃ (G : Nat → va_E) (ls : Array Slot) (w58 : Int32), g = F0 m 26 ls [] ∧ lv_has ls 4 [(0, .ref a0), (1, .int x1), (2, .int x2), (3, .int w58)] ∧ va_P (dC, dI) vwCl (va_pl L G) H ∧ va_S (fun q => q ∈ L) s.heap H locs ∧ y_I K cs A G ∧ (∀ b, K b ∉ [70, 71, 72, 73, 78] → G b = F b) ∧ (∀ k, k ∈ ([1, 2, 3, 4, 5, 6, 7, 8, 11, 15, 16, 19, 25, 26, 27, 31, 32] : List Nat) → y_fi G a0 k = z0 k) ∧ (0 ≤ w58.toInt ∧ w58.toInt ≤ 4) ∧ (0 ≤ x1.toInt ∧ x1.toInt ≤ 3) ∧ (0 ≤ x2.toInt ∧ x2.toInt ≤ 7) ∧ (y_CP f4 (y_at G (A 23))) ∧ n = (5 - w58.toInt).toNat) _ ⟨F50, _, 0, rfl, lv_sub hl [1, 2, 3, 0] rfl, hP, hS, hI, hfr, (fun k hk => (y_fiZ oY55 (s_sub (by decide) hk)).trans (hz0 k hk)), (by decide), ⟨by omega, by omega⟩, ⟨by omega, by omega⟩, (by rw [y_atE o53]; exact h10), rfl⟩ (fun n ih26 g H locs hq => ?_)
  obtain ⟨F64, ls, w58, rfl, hl, hP, hS, hI, hfr, hz0, h60, h61, h62, h63, hn⟩ := hq
  have o65 : F64 (A 13) = .inl (cs 0, 400, .inl f1) := (hfr _ (by rw [(y_k13 hA)]; decide)).trans o2
  have oY66 : F64 a0 = .inr (7, y_fl A z0 q0) := (hfr _ (by rw [ha0]; decide)).trans oY0
  have hz0 : ∀ k, k ∈ ([1, 2, 3, 4, 5, 6, 7, 8, 11, 15, 16, 19, 25, 26, 27, 31, 32] : List Nat) → z0 k = z0 k := fun _ _ => rfl
  obtain ⟨f67, o68, b69⟩ := y_op23 hI
  have h63 : (y_CP f4 f67) := by have q9 := h63; rw [y_atE o68] at q9; exact q9
  have hn_69 := hn
  refine lv_iload_n hx hb dX7_isAlone_26 rfl (lv_at hl 3 rfl) ?_
  refine lv_iconst (v := 4) hx hb dX7_isAlone_27 (by decide) ?_
  refine lv_icmp_ge (tgt := 54) hx hb dX7_isAlone_28 (by decide) (fun c70 => ?_) (fun c70 => ?_)
  · have c70 := (ax_ge (n := 4) (by decide)).mp c70
    refine lv_aload_n hx hb dX7_isAlone_54 rfl (lv_at hl 0 rfl) ?_
    refine va_callv (va_runV (As := []) (rest := []) ⟨hx, hb, hml, hown, hts⟩ (y_X7_takesBack l dC dI H.size hLK A hA F64 a0 ha0 hI) (cwV 0 hts (ax_gV T_1049 T_1051 T_1052 T_265 T_1050) rfl rfl rfl (by decide +kernel) ⟨Nat.le_of_ble_eq_true rfl, Nat.le_of_ble_eq_true rfl⟩) ⟨fun a U g mk q => ⟨q.1, s_pc (U := U) rfl rfl q.2⟩, s_recv hK hP (hLK _ ha0 (by decide)) (ci := 7) rfl oY66, fun U hU hW => ⟨rfl, s_pw hU hW hP hK hD hN⟩⟩ rfl rfl hl.1 rfl (lv_room (Nat.le_of_ble_eq_true rfl)) dX7_isAlone_55 ⟨Nat.zero_le _, Nat.zero_le _⟩) hS (fun q _ h => h) (fun q h => h) (fun F72 t H1 locs ht hvm hw hB hz1 hk1 hS => ?_)
    obtain ⟨hP, hK1⟩ := hB
    rw [ht] at hP
    generalize H1 = H at hP hS ⊢
    clear hz1 hk1 hvm hK1
    obtain ⟨h73, h75, hI, hfr1, hzf, h74⟩ := hw
    have o76 : F72 (A 13) = .inl (cs 0, 400, .inl f1) := (hfr1 _ (by rw [(y_k13 hA)]; decide)).trans o65
    have o77 : F72 (A 23) = .inl (cs 0, 918, .inl f67) := (hfr1 _ (by rw [(y_k23 hA)]; decide)).trans o68
    have oY78 : F72 a0 = .inr (7, y_fl A z0 q0) := (hfr1 _ (by rw [ha0]; decide)).trans oY66
    have hfr : ∀ b, K b ∉ [70, 71, 72, 73, 78] → F72 b = F b := fun b hb9 => (hfr1 b (fun q => hb9 (s_sub (by decide) q))).trans (hfr b hb9)
    obtain ⟨f79, o80, b81⟩ := y_op20 hI
    have h74 : (y_CP f67 f79) := by have q9 := h74; rw [y_atE o68, y_atE o80] at q9; exact q9
    refine lv_aload_n hx hb dX7_isAlone_58 rfl (lv_at hl 0 rfl) ?_
    refine th_get (D := (dC, dI)) (ci := 7) (v := .ref (A 28)) (C := RX7) (T := TX7) (N := 34) hx hb hts inX7 hown hK hP (hLK _ ha0 (by decide)) oY78 rfl 28 (by decide) (hts _ T_257) (fun _ h9 => h9) rfl dX7_isAlone_59 ?_
    refine lv_iconst (v := 4) hx hb dX7_isAlone_62 (by decide) ?_
    obtain ⟨f82, o83, b84⟩ := y_op28 hI
    refine th_iald hx hb hK hP (hLK _ (y_k28 hA) (by decide)) 0 o83 rfl (ax_in (by decide)) dX7_isAlone_63 ?_
    refine lv_topi (fun v85 ev85 => ?_)
    refine lv_iconst (v := (-1)) hx hb dX7_isAlone_64 (by decide) ?_
    refine lv_icmp_eq (tgt := 72) hx hb dX7_isAlone_65 (by decide) (fun c86 => ?_) (fun c86 => ?_)
    · have c86 := (ax_eq (n := (-1)) (by decide)).mp c86
      refine lv_iconst (v := 0) hx hb dX7_isAlone_72 (by decide) ?_
      have h87 : (0 : Int32).toInt = 0 := by decide
      exact W.zret (v := 0) (ty := .boolean) hx hb hr (by decide) (fun t ht hW => ⟨⟨0, F72, rfl, ⟨(by decide), trivial, hI, hfr, fun k hk => (y_fiZ oY78 (s_sub (by decide) hk)).trans ((hz0 k hk).trans (y_fiZ oY0 (s_sub (by decide) hk)).symm), (by rw [y_atE o5, y_atE o80]; exact (y_CP_t h63 h74))⟩, by rw [ht]; exact hP, va_K.moved hW.alike hK⟩, hS.F ht⟩) hS.2.2 dX7_isAlone_73
    · have c86 := mt (ax_eq (n := (-1)) (by decide)).mpr c86
      refine lv_iconst (v := 1) hx hb dX7_isAlone_68 (by decide) ?_
      refine lv_goto (tgt := 73) hx hb dX7_isAlone_69 (by decide) ?_
      have h88 : (1 : Int32).toInt = 1 := by decide
      exact W.zret (v := 1) (ty := .boolean) hx hb hr (by decide) (fun t ht hW => ⟨⟨1, F72, rfl, ⟨(by decide), trivial, hI, hfr, fun k hk => (y_fiZ oY78 (s_sub (by decide) hk)).trans ((hz0 k hk).trans (y_fiZ oY0 (s_sub (by decide) hk)).symm), (by rw [y_atE o5, y_atE o80]; exact (y_CP_t h63 h74))⟩, by rw [ht]; exact hP, va_K.moved hW.alike hK⟩, hS.F ht⟩) hS.2.2 dX7_isAlone_73
  · have c70 := mt (ax_ge (n := 4) (by decide)).mpr c70
    refine lv_aload_n hx hb dX7_isAlone_31 rfl (lv_at hl 0 rfl) ?_
    refine th_get (D := (dC, dI)) (ci := 7) (v := .ref (A 28)) (C := RX7) (T := TX7) (N := 34) hx hb hts inX7 hown hK hP (hLK _ ha0 (by decide)) oY66 rfl 28 (by decide) (hts _ T_257) (fun _ h9 => h9) rfl dX7_isAlone_32 ?_
    refine lv_iload_n hx hb dX7_isAlone_35 rfl (lv_at hl 3 rfl) ?_
    refine lv_aload_n hx hb dX7_isAlone_36 rfl (lv_at hl 0 rfl) ?_
    refine th_get (D := (dC, dI)) (ci := 7) (v := .ref (A 20)) (C := RX7) (T := TX7) (N := 34) hx hb hts inX7 hown hK hP (hLK _ ha0 (by decide)) oY66 rfl 20 (by decide) (hts _ T_251) (fun _ h9 => h9) rfl dX7_isAlone_37 ?_
    refine lv_iload_n hx hb dX7_isAlone_40 rfl (lv_at hl 1 rfl) ?_
    refine lv_iload_n hx hb dX7_isAlone_41 rfl (lv_at hl 2 rfl) ?_
    refine lv_iload_n hx hb dX7_isAlone_42 rfl (lv_at hl 3 rfl) ?_
    have rg89 : 0 ≤ x1.toInt ∧ x1.toInt ≤ 3 := ⟨by omega, by omega⟩
    have rg90 : 0 ≤ x2.toInt ∧ x2.toInt ≤ 7 := ⟨by omega, by omega⟩
    have rg91 : 0 ≤ w58.toInt ∧ w58.toInt ≤ 3 := ⟨by omega, by omega⟩
    refine va_calli (va_runS (As := [.int x1, .int x2, .int w58]) (rest := [.ref (A 20), .int w58, .ref (A 28)]) ⟨hx, hb, hml, hown, hts⟩ (y_X7_registerAt l dC dI H.size F64 x1 x2 w58 rg89 rg90 rg91) (cwS 3 hts (ax_gS T_1095 T_1097 T_265 T_1096) rfl rfl rfl (by decide +kernel) ⟨Nat.le_of_ble_eq_true rfl, Nat.le_of_ble_eq_true rfl⟩) ⟨fun a U g mk q => ⟨q.1, s_pc (U := U) rfl rfl q.2⟩, fun U hU hW => ⟨rfl, s_pw hU hW hP hK hD hN⟩⟩ rfl rfl hl.1 rfl (lv_room (Nat.le_of_ble_eq_true rfl)) dX7_isAlone_43 ⟨Nat.zero_le _, Nat.zero_le _⟩) hS (fun q _ h => h) (fun q h => h) (fun r93 F94 t H1 locs ht hvm hw hB hz1 hk1 hS => ?_)
    obtain ⟨hP, hK1⟩ := hB
    rw [ht] at hP
    generalize H1 = H at hP hS ⊢
    clear hz1 hk1 hvm hK1
    obtain ⟨h95, h97, hG9, h96⟩ := hw
    rw [hG9] at hP
    have h96 : (r93.toInt = 128 + 32 * x1.toInt + 4 * x2.toInt + w58.toInt) := by have q9 := h96; exact q9
    obtain ⟨f98, o99, b100⟩ := y_op20 hI
    refine th_iald hx hb hK hP (hLK _ (y_k20 hA) (by decide)) 0 o99 rfl (th_in ⟨by omega, by omega⟩) dX7_isAlone_46 ?_
    refine lv_topi (fun v101 ev101 => ?_)
    obtain ⟨f102, o103, b104⟩ := y_op28 hI
    refine th_iast hx hb hK hP hD hS (hLK _ (y_k28 hA) (by decide)) 0 o103 rfl (th_in ⟨by omega, by omega⟩) dX7_isAlone_47 (fun H locs hP hS => ?_)
    obtain ⟨f105, u106⟩ : ∃ g : Nat → Int32, g = upd f102 (w58 : Int32).toNatClampNeg v101 := ⟨_, rfl⟩
    rw [← u106] at hP
    have b107 : y_bd 28 f105 := trivial
    have hP : va_P (dC, dI) vwCl (va_pl L (va_up F64 (A 28) (.inl (cs 0, 5, .inl f105)))) H := hP
    obtain ⟨F108, hF109⟩ : ∃ G : Nat → va_E, G = va_up F64 (A 28) (.inl (cs 0, 5, .inl f105)) := ⟨_, rfl⟩
    rw [← hF109] at hP
    have hI : y_I K cs A F108 := by rw [hF109]; exact y_clA (i := 28) hA hI (by decide) b107
    have hfr : ∀ b, K b ∉ [70, 71, 72, 73, 78] → F108 b = F b := by rw [hF109]; exact s_fr hfr (y_k28 hA) (by decide)
    have o110 : F108 (A 13) = .inl (cs 0, 400, .inl f1) := by rw [hF109]; exact th_ne (th_kd (y_k13 hA) (y_k28 hA) (by decide)) o65
    have o111 : F108 (A 23) = .inl (cs 0, 918, .inl f67) := by rw [hF109]; exact th_ne (th_kd (y_k23 hA) (y_k28 hA) (by decide)) o68
    have o112 : F108 (A 20) = .inl (cs 0, 918, .inl f98) := by rw [hF109]; exact th_ne (th_kd (y_k20 hA) (y_k28 hA) (by decide)) o99
    have oY113 : F108 a0 = .inr (7, y_fl A z0 q0) := by rw [hF109]; exact th_ne (th_kd ha0 (y_k28 hA) (by decide)) oY66
    have o114 : F108 (A 28) = .inl (cs 0, 5, .inl f105) := by rw [hF109]; exact th_up
    have u115 : ∀ j : Int, 0 ≤ j → y_c f105 j = if j = w58.toInt then v101 else y_c f102 j := by rw [u106]; exact y_cu rfl (by omega)
    obtain ⟨v116, ev116⟩ : ∃ y : Int32, w58 + 1 = y := ⟨_, rfl⟩
    have qv116 : v116.toInt = w58.toInt + 1 := by rw [← ev116]; exact th_add rfl (by decide) ⟨by omega, by omega⟩
    refine lv_iinc (v := v116) (lv' := [(3, .int v116), (0, .ref a0), (1, .int x1), (2, .int x2)]) hx hb dX7_isAlone_48 hl (k := 3) rfl ev116 (by decide) rfl (fun ls hl => ?_)
    refine lv_goto (tgt := 26) hx hb dX7_isAlone_51 (by decide) ?_
    exact ih26 _ _ _ _ (by omega) ⟨F108, _, v116, rfl, lv_sub hl [1, 2, 3, 0] rfl, hP, hS, hI, hfr, (fun k hk => (y_fiZ oY113 (s_sub (by decide) hk)).trans (hz0 k hk)), ⟨by omega, by omega⟩, ⟨by omega, by omega⟩, ⟨by omega, by omega⟩, (by rw [y_atE o111]; exact h63), rfl⟩

set_option maxHeartbeats 4000000 in
set_option maxRecDepth 100000 in
theorem yt_X7_alone (l : Launch) (dC : Nat → ClassId) (dI : Nat → Nat → Nat) (sz : Nat) {L : List Nat} {K : Nat → Nat} {cs : Nat → ClassId} (hLK : ∀ a {k : Nat}, K a = k → k ≠ 0 → a ∈ L) (A : Nat → Nat) (hA : y_A K A) (F : Nat → va_E) (a0 : Nat) (x1 : Int32) (x2 : Int32) (x3 : Int32) (ha0 : K a0 = 9) (hI : y_I K cs A F) (hT : y_T (y_fi F a0 15) (y_at F (A 13)) (y_at F (A 20)) (y_at F (A 30)) (y_fi F a0 31) (y_fi F a0 32)) : Met l yX7_alone (Cond.code yX7_alone cX7_alone 4 (some .int) :: T0) ({ frames := 10, cells := 0, slots := 0, locals := 232 }) (va_Pc [.ref a0, .int x1, .int x2, .int x3] (s_W dC dI sz L F [(cs 0, .int), (cs 1, .byte), (cs 2, .long), (cs 3, .object RX5), (cs 4, .object RX4), (cs 5, .array .int), (cs 6, .char), (cs 7, .boolean)])) (va_Qi (fun (r : Int32) (G : Nat → va_E) => True ∧ True ∧ y_I K cs A G ∧ (∀ b, K b ∉ [70, 71, 72, 73, 78] → G b = F b) ∧ (∀ k, k ∈ ([1, 2, 3, 4, 5, 6, 7, 8, 11, 15, 16, 19, 25, 26, 27, 31, 32] : List Nat) → y_fi G a0 k = y_fi F a0 k) ∧ (y_T (y_fi G a0 15) (y_at G (A 13)) (y_at G (A 20)) (y_at G (A 30)) (y_fi G a0 31) (y_fi G a0 32))) (fun (G : Nat → va_E) (t : State) => va_P (dC, dI) vwCl (va_pl L G) t.heap ∧ va_K (dC, dI) vwCl [(cs 0, .int), (cs 1, .byte), (cs 2, .long), (cs 3, .object RX5), (cs 4, .object RX4), (cs 5, .array .int), (cs 6, .char), (cs 7, .boolean)] t) (fun q => q ∈ L)) 0 0 (fun q => q ∈ L) := by
  refine Met.ofW (cc := cX7_alone) (maxL := 4) (ret := (some .int)) (by decide) rfl ?_
  intro p e s m args below meth c s₁ B hml hv
  obtain ⟨rfl, hsz, hP, hK, hD, hN⟩ := hv
  have hx := B.exec
  have hb := B.bytes
  have hr := B.returns
  have hts : ∀ w ∈ T0, w.before _ s = true := fun w h => atoms_spec (ws := Cond.code yX7_alone cX7_alone 4 (some .int) :: T0) B.pre w (List.mem_cons_of_mem _ h)
  have hown : s.vm.findClass RX7 = some m.cls := findClass_of_methodNamed B.named
  have hlocks := B.notSynchronized
  have hS : va_S (fun q => q ∈ L) s.heap s.heap [] := va_S.rf
  have hfr : ∀ b, K b ∉ [70, 71, 72, 73, 78] → F b = F b := fun _ _ => rfl
  have hl := lv_entry ([.ref a0, .int x1, .int x2, .int x3]) (n := 4) (Nat.le_of_ble_eq_true rfl)
  rw [lg_entry_eq]
  generalize (lg_sl ([.ref a0, .int x1, .int x2, .int x3]) ++ List.replicate (4 - (lg_sl ([.ref a0, .int x1, .int x2, .int x3])).length) Slot.unset).toArray = ls at hl ⊢
  have hl : lv_has ls 4 [(0, .ref a0), (1, .int x1), (2, .int x2), (3, .int x3)] := hl
  refine s_gen hP hS (fun H locs hP hS => ?_)
  obtain ⟨z0, q0, oY0, bz0, bq0⟩ := y_opY hI ha0
  have hz0 : ∀ k, k ∈ ([1, 2, 3, 4, 5, 6, 7, 8, 11, 15, 16, 19, 25, 26, 27, 31, 32] : List Nat) → z0 k = z0 k := fun _ _ => rfl
  obtain ⟨f1, o2, b3⟩ := y_op13 hI
  obtain ⟨f4, o5, b6⟩ := y_op20 hI
  obtain ⟨f7, o8, b9⟩ := y_op30 hI
  obtain ⟨v10, ev10⟩ : ∃ y : Int32, y = z0 15 := ⟨_, rfl⟩
  have qv10 : 0 ≤ v10.toInt ∧ v10.toInt ≤ 1 := by rw [ev10]; exact y_bY15 bz0
  have eF_15 := ev10
  obtain ⟨v11, ev11⟩ : ∃ y : Int32, y = z0 31 := ⟨_, rfl⟩
  have qv11 : 0 ≤ v11.toInt ∧ v11.toInt ≤ 20 := by rw [ev11]; exact y_bY31 bz0
  have eF_31 := ev11
  obtain ⟨v12, ev12⟩ : ∃ y : Int32, y = z0 32 := ⟨_, rfl⟩
  have qv12 : 0 ≤ v12.toInt ∧ v12.toInt ≤ 19 := by rw [ev12]; exact y_bY32 bz0
  have eF_32 := ev12
  have hT : y_T v10 f1 f4 f7 v11 v12 := by have q9 := hT; rw [y_fiZ oY0 (k := 15) (by decide), ← ev10, y_atE o2, y_atE o5, y_atE o8, y_fiZ oY0 (k := 31) (by decide), ← ev11, y_fiZ oY0 (k := 32) (by decide), ← ev12] at q9; exact q9
  have e0_v10 := ev10
  have e0_v11 := ev11
  have e0_v12 := ev12
  refine lv_aload_n hx hb dX7_alone_0 rfl (lv_at hl 0 rfl) ?_
  refine lv_iload_n hx hb dX7_alone_1 rfl (lv_at hl 1 rfl) ?_
  refine lv_iload_n hx hb dX7_alone_2 rfl (lv_at hl 2 rfl) ?_
  have ep13_15 := ev10
  refine va_calli (va_runV (As := [.int x1, .int x2]) (rest := []) ⟨hx, hb, hml, hown, hts⟩ (y_X7_isLane l dC dI H.size hLK A hA F a0 x1 x2 ha0 hI (by rw [y_fiZ oY0 (k := 15) (by decide), ← ev10, y_atE o2, y_atE o5, y_atE o8, y_fiZ oY0 (k := 31) (by decide), ← ev11, y_fiZ oY0 (k := 32) (by decide), ← ev12]; exact hT)) (cwV 2 hts (ax_gV T_317 T_318 T_319 T_265 T_35) rfl rfl rfl (by decide +kernel) ⟨Nat.le_of_ble_eq_true rfl, Nat.le_of_ble_eq_true rfl⟩) ⟨fun a U g mk q => ⟨q.1, s_pc (U := U) rfl rfl q.2⟩, s_recv hK hP (hLK _ ha0 (by decide)) (ci := 7) rfl oY0, fun U hU hW => ⟨rfl, s_pw hU hW hP hK hD hN⟩⟩ rfl rfl hl.1 rfl (lv_room (Nat.le_of_ble_eq_true rfl)) dX7_alone_3 ⟨Nat.zero_le _, Nat.zero_le _⟩) hS (fun q _ h => h) (fun q h => h) (fun r14 F15 t H1 locs ht hvm hw hB hz1 hk1 hS => ?_)
  obtain ⟨hP, hK1⟩ := hB
  rw [ht] at hP
  generalize H1 = H at hP hS ⊢
  clear hz1 hk1 hvm hK1
  obtain ⟨h16, h18, hI, hfr1, hzf, h17⟩ := hw
  have o19 : F15 (A 13) = .inl (cs 0, 400, .inl f1) := (hfr1 _ (by rw [(y_k13 hA)]; decide)).trans o2
  have o20 : F15 (A 20) = .inl (cs 0, 918, .inl f4) := (hfr1 _ (by rw [(y_k20 hA)]; decide)).trans o5
  have o21 : F15 (A 30) = .inl (cs 0, 18360, .inl f7) := (hfr1 _ (by rw [(y_k30 hA)]; decide)).trans o8
  have oY22 : F15 a0 = .inr (7, y_fl A z0 q0) := (hfr1 _ (by rw [ha0]; decide)).trans oY0
  have hfr : ∀ b, K b ∉ [70, 71, 72, 73, 78] → F15 b = F b := fun b hb9 => (hfr1 b (fun q => hb9 (s_sub (by decide) q))).trans (hfr b hb9)
  have h17 : (r14.toInt = 0 ∨ (v10.toInt = 1 ∧ (0 ≤ x1.toInt ∧ x1.toInt < (y_c f1 384).toInt) ∧ (0 ≤ x2.toInt ∧ x2.toInt ≤ 7))) := by have q9 := h17; rw [y_fiZ oY0 (k := 15) (by decide), ← ep13_15, y_atE o2] at q9; exact q9
  refine lv_if_eq (tgt := 39) hx hb dX7_alone_6 (by decide) (fun c23 => ?_) (fun c23 => ?_)
  · have c23 := (ax_eq (n := 0) (by decide)).mp c23
    refine lv_ldc (v := (-1000000)) hx hb hown (hts _ T_316) dX7_alone_39 ?_
    have h24 : ((-1000000) : Int32).toInt = (-1000000) := by decide
    exact W.iret (v := (-1000000)) hx hb hr (fun t ht hW => ⟨⟨(-1000000), F15, rfl, ⟨trivial, trivial, hI, hfr, fun k hk => (y_fiZ oY22 (s_sub (by decide) hk)).trans ((hz0 k hk).trans (y_fiZ oY0 (s_sub (by decide) hk)).symm), (by rw [y_fiZ oY22 (k := 15) (by decide), ← ev10, y_atE o19, y_atE o20, y_atE o21, y_fiZ oY22 (k := 31) (by decide), ← ev11, y_fiZ oY22 (k := 32) (by decide), ← ev12]; exact hT)⟩, by rw [ht]; exact hP, va_K.moved hW.alike hK⟩, hS.F ht⟩) hS.2.2 dX7_alone_41
  · have c23 := mt (ax_eq (n := 0) (by decide)).mpr c23
    have hln9 := h17.resolve_left c23
    obtain ⟨htd, hPG, hNG, hUG⟩ := y_TT hT (by omega)
    have hL := y_P0L hPG.1
    have hW := y_P0W hPG.1
    have hnn := And.intro hNG.1 (And.intro hNG.2.1 (And.intro hNG.2.2.1 hNG.2.2.2.1))
    refine lv_iload_n hx hb dX7_alone_9 rfl (lv_at hl 3 rfl) ?_
    refine lv_i2l hx hb dX7_alone_10 rfl ?_
    refine lv_topl (fun v25 ev25 => ?_)
    have qv25 : v25.toInt = x3.toInt := y_i2l ev25
    refine lv_lconst (v := 0) hx hb dX7_alone_11 (by decide) ?_
    refine lv_ldc2 hx hb hown (hts _ T_1004) dX7_alone_12 ?_
    refine va_calli (va_runS (As := [.long v25, .long 0, .long 4]) (rest := []) ⟨hx, hb, hml, hown, hts⟩ (y_X7_isIn l dC dI H.size F15 v25 0 4) (cwS 3 hts (ax_gS T_267 T_268 T_265 T_21) rfl rfl rfl (by decide +kernel) ⟨Nat.le_of_ble_eq_true rfl, Nat.le_of_ble_eq_true rfl⟩) ⟨fun a U g mk q => ⟨q.1, s_pc (U := U) rfl rfl q.2⟩, fun U hU hW => ⟨rfl, s_pw hU hW hP hK hD hN⟩⟩ rfl rfl hl.1 rfl (lv_room (Nat.le_of_ble_eq_true rfl)) dX7_alone_15 ⟨Nat.zero_le _, Nat.zero_le _⟩) hS (fun q _ h => h) (fun q h => h) (fun r27 F28 t H1 locs ht hvm hw hB hz1 hk1 hS => ?_)
    obtain ⟨hP, hK1⟩ := hB
    rw [ht] at hP
    generalize H1 = H at hP hS ⊢
    clear hz1 hk1 hvm hK1
    obtain ⟨h29, h31, hG9, h30⟩ := hw
    rw [hG9] at hP
    have h30 : ((r27.toInt = 0 ∧ (v25.toInt < 0 ∨ 4 < v25.toInt)) ∨ (r27.toInt = 1 ∧ 0 ≤ v25.toInt ∧ v25.toInt ≤ 4)) := by have q9 := h30; exact q9
    refine lv_if_eq (tgt := 39) hx hb dX7_alone_18 (by decide) (fun c32 => ?_) (fun c32 => ?_)
    · have c32 := (ax_eq (n := 0) (by decide)).mp c32
      refine lv_ldc (v := (-1000000)) hx hb hown (hts _ T_316) dX7_alone_39 ?_
      have h33 : ((-1000000) : Int32).toInt = (-1000000) := by decide
      exact W.iret (v := (-1000000)) hx hb hr (fun t ht hW => ⟨⟨(-1000000), F15, rfl, ⟨trivial, trivial, hI, hfr, fun k hk => (y_fiZ oY22 (s_sub (by decide) hk)).trans ((hz0 k hk).trans (y_fiZ oY0 (s_sub (by decide) hk)).symm), (by rw [y_fiZ oY22 (k := 15) (by decide), ← ev10, y_atE o19, y_atE o20, y_atE o21, y_fiZ oY22 (k := 31) (by decide), ← ev11, y_fiZ oY22 (k := 32) (by decide), ← ev12]; exact hT)⟩, by rw [ht]; exact hP, va_K.moved hW.alike hK⟩, hS.F ht⟩) hS.2.2 dX7_alone_41
    · have c32 := mt (ax_eq (n := 0) (by decide)).mpr c32
      refine lv_aload_n hx hb dX7_alone_21 rfl (lv_at hl 0 rfl) ?_
      refine lv_iload_n hx hb dX7_alone_22 rfl (lv_at hl 1 rfl) ?_
      refine lv_iload_n hx hb dX7_alone_23 rfl (lv_at hl 2 rfl) ?_
      have rg34 : 0 ≤ x1.toInt ∧ x1.toInt ≤ 3 := ⟨by omega, by omega⟩
      have rg35 : 0 ≤ x2.toInt ∧ x2.toInt ≤ 7 := ⟨by omega, by omega⟩
      refine va_calli (va_runV (As := [.int x1, .int x2]) (rest := []) ⟨hx, hb, hml, hown, hts⟩ (y_X7_isAlone l dC dI H.size hLK A hA F15 a0 x1 x2 ha0 rg34 rg35 hI (by rw [y_atE o19]; exact hPG) (by rw [y_atE o19, y_atE o20]; exact hNG)) (cwV 2 hts (ax_gV T_1005 T_1007 T_1008 T_265 T_1006) rfl rfl rfl (by decide +kernel) ⟨Nat.le_of_ble_eq_true rfl, Nat.le_of_ble_eq_true rfl⟩) ⟨fun a U g mk q => ⟨q.1, s_pc (U := U) rfl rfl q.2⟩, s_recv hK hP (hLK _ ha0 (by decide)) (ci := 7) rfl oY22, fun U hU hW => ⟨rfl, s_pw hU hW hP hK hD hN⟩⟩ rfl rfl hl.1 rfl (lv_room (Nat.le_of_ble_eq_true rfl)) dX7_alone_24 ⟨Nat.zero_le _, Nat.zero_le _⟩) hS (fun q _ h => h) (fun q h => h) (fun r37 F38 t H1 locs ht hvm hw hB hz1 hk1 hS => ?_)
      obtain ⟨hP, hK1⟩ := hB
      rw [ht] at hP
      generalize H1 = H at hP hS ⊢
      clear hz1 hk1 hvm hK1
      obtain ⟨h39, h41, hI, hfr1, hzf, h40⟩ := hw
      have o42 : F38 (A 13) = .inl (cs 0, 400, .inl f1) := (hfr1 _ (by rw [(y_k13 hA)]; decide)).trans o19
      have o43 : F38 (A 30) = .inl (cs 0, 18360, .inl f7) := (hfr1 _ (by rw [(y_k30 hA)]; decide)).trans o21
      have oY44 : F38 a0 = .inr (7, y_fl A z0 q0) := (hfr1 _ (by rw [ha0]; decide)).trans oY22
      have hfr : ∀ b, K b ∉ [70, 71, 72, 73, 78] → F38 b = F b := fun b hb9 => (hfr1 b (fun q => hb9 (s_sub (by decide) q))).trans (hfr b hb9)
      obtain ⟨f45, o46, b47⟩ := y_op20 hI
      have h40 : (y_CP f4 f45) := by have q9 := h40; rw [y_atE o20, y_atE o46] at q9; exact q9
      refine lv_if_eq (tgt := 39) hx hb dX7_alone_27 (by decide) (fun c48 => ?_) (fun c48 => ?_)
      · have c48 := (ax_eq (n := 0) (by decide)).mp c48
        refine lv_ldc (v := (-1000000)) hx hb hown (hts _ T_316) dX7_alone_39 ?_
        have h49 : ((-1000000) : Int32).toInt = (-1000000) := by decide
        exact W.iret (v := (-1000000)) hx hb hr (fun t ht hW => ⟨⟨(-1000000), F38, rfl, ⟨trivial, trivial, hI, hfr, fun k hk => (y_fiZ oY44 (s_sub (by decide) hk)).trans ((hz0 k hk).trans (y_fiZ oY0 (s_sub (by decide) hk)).symm), (by rw [y_fiZ oY44 (k := 15) (by decide), ← ev10, y_atE o42, y_atE o46, y_atE o43, y_fiZ oY44 (k := 31) (by decide), ← ev11, y_fiZ oY44 (k := 32) (by decide), ← ev12]; exact (y_Tc h40 hT))⟩, by rw [ht]; exact hP, va_K.moved hW.alike hK⟩, hS.F ht⟩) hS.2.2 dX7_alone_41
      · have c48 := mt (ax_eq (n := 0) (by decide)).mpr c48
        refine lv_aload_n hx hb dX7_alone_30 rfl (lv_at hl 0 rfl) ?_
        refine th_get (D := (dC, dI)) (ci := 7) (v := .ref (A 28)) (C := RX7) (T := TX7) (N := 34) hx hb hts inX7 hown hK hP (hLK _ ha0 (by decide)) oY44 rfl 28 (by decide) (hts _ T_257) (fun _ h9 => h9) rfl dX7_alone_31 ?_
        refine lv_iload_n hx hb dX7_alone_34 rfl (lv_at hl 3 rfl) ?_
        obtain ⟨f50, o51, b52⟩ := y_op28 hI
        refine th_iald hx hb hK hP (hLK _ (y_k28 hA) (by decide)) 0 o51 rfl (th_in ⟨by omega, by omega⟩) dX7_alone_35 ?_
        refine lv_topi (fun v53 ev53 => ?_)
        refine lv_goto (tgt := 41) hx hb dX7_alone_36 (by decide) ?_
        exact W.iret (v := v53) hx hb hr (fun t ht hW => ⟨⟨v53, F38, rfl, ⟨trivial, trivial, hI, hfr, fun k hk => (y_fiZ oY44 (s_sub (by decide) hk)).trans ((hz0 k hk).trans (y_fiZ oY0 (s_sub (by decide) hk)).symm), (by rw [y_fiZ oY44 (k := 15) (by decide), ← ev10, y_atE o42, y_atE o46, y_atE o43, y_fiZ oY44 (k := 31) (by decide), ← ev11, y_fiZ oY44 (k := 32) (by decide), ← ev12]; exact (y_Tc h40 hT))⟩, by rw [ht]; exact hP, va_K.moved hW.alike hK⟩, hS.F ht⟩) hS.2.2 dX7_alone_41

set_option maxHeartbeats 4000000 in
set_option maxRecDepth 100000 in
theorem yt_X7_doesAgree (l : Launch) (dC : Nat → ClassId) (dI : Nat → Nat → Nat) (sz : Nat) {L : List Nat} {K : Nat → Nat} {cs : Nat → ClassId} (hLK : ∀ a {k : Nat}, K a = k → k ≠ 0 → a ∈ L) (A : Nat → Nat) (hA : y_A K A) (F : Nat → va_E) (a0 : Nat) (x1 : Int32) (x2 : Int32) (ha0 : K a0 = 9) (hx1 : 0 ≤ x1.toInt ∧ x1.toInt ≤ 3) (hx2 : 0 ≤ x2.toInt ∧ x2.toInt ≤ 7) (hI : y_I K cs A F) (hPG : y_PG (y_at F (A 13))) (hNG : y_NG (y_at F (A 13)) (y_at F (A 20))) : Met l yX7_doesAgree (Cond.code yX7_doesAgree cX7_doesAgree 4 (some .boolean) :: T0) ({ frames := 10, cells := 0, slots := 0, locals := 232 }) (va_Pc [.ref a0, .int x1, .int x2] (s_W dC dI sz L F [(cs 0, .int), (cs 1, .byte), (cs 2, .long), (cs 3, .object RX5), (cs 4, .object RX4), (cs 5, .array .int), (cs 6, .char), (cs 7, .boolean)])) (va_Qi (fun (r : Int32) (G : Nat → va_E) => (0 ≤ r.toInt ∧ r.toInt ≤ 1) ∧ True ∧ y_I K cs A G ∧ (∀ b, K b ∉ [70, 71, 72, 73, 78] → G b = F b) ∧ (∀ k, k ∈ ([1, 2, 3, 4, 5, 6, 7, 8, 11, 15, 16, 19, 25, 26, 27, 31, 32] : List Nat) → y_fi G a0 k = y_fi F a0 k) ∧ (y_CP (y_at F (A 20)) (y_at G (A 20)))) (fun (G : Nat → va_E) (t : State) => va_P (dC, dI) vwCl (va_pl L G) t.heap ∧ va_K (dC, dI) vwCl [(cs 0, .int), (cs 1, .byte), (cs 2, .long), (cs 3, .object RX5), (cs 4, .object RX4), (cs 5, .array .int), (cs 6, .char), (cs 7, .boolean)] t) (fun q => q ∈ L)) 0 0 (fun q => q ∈ L) := by
  refine Met.ofW (cc := cX7_doesAgree) (maxL := 4) (ret := (some .boolean)) (by decide) rfl ?_
  intro p e s m args below meth c s₁ B hml hv
  obtain ⟨rfl, hsz, hP, hK, hD, hN⟩ := hv
  have hx := B.exec
  have hb := B.bytes
  have hr := B.returns
  have hts : ∀ w ∈ T0, w.before _ s = true := fun w h => atoms_spec (ws := Cond.code yX7_doesAgree cX7_doesAgree 4 (some .boolean) :: T0) B.pre w (List.mem_cons_of_mem _ h)
  have hown : s.vm.findClass RX7 = some m.cls := findClass_of_methodNamed B.named
  have hlocks := B.notSynchronized
  have hS : va_S (fun q => q ∈ L) s.heap s.heap [] := va_S.rf
  have hfr : ∀ b, K b ∉ [70, 71, 72, 73, 78] → F b = F b := fun _ _ => rfl
  have hl := lv_entry ([.ref a0, .int x1, .int x2]) (n := 4) (Nat.le_of_ble_eq_true rfl)
  rw [lg_entry_eq]
  generalize (lg_sl ([.ref a0, .int x1, .int x2]) ++ List.replicate (4 - (lg_sl ([.ref a0, .int x1, .int x2])).length) Slot.unset).toArray = ls at hl ⊢
  have hl : lv_has ls 4 [(0, .ref a0), (1, .int x1), (2, .int x2)] := hl
  refine s_gen hP hS (fun H locs hP hS => ?_)
  obtain ⟨z0, q0, oY0, bz0, bq0⟩ := y_opY hI ha0
  have hz0 : ∀ k, k ∈ ([1, 2, 3, 4, 5, 6, 7, 8, 11, 15, 16, 19, 25, 26, 27, 31, 32] : List Nat) → z0 k = z0 k := fun _ _ => rfl
  obtain ⟨f1, o2, b3⟩ := y_op13 hI
  obtain ⟨f4, o5, b6⟩ := y_op20 hI
  have hPG : y_PG f1 := by have q9 := hPG; rw [y_atE o2] at q9; exact q9
  have hNG : y_NG f1 f4 := by have q9 := hNG; rw [y_atE o2, y_atE o5] at q9; exact q9
  have hL := y_P0L hPG.1
  have hW := y_P0W hPG.1
  have hnn := And.intro hNG.1 (And.intro hNG.2.1 (And.intro hNG.2.2.1 hNG.2.2.2.1))
  refine lv_aload_n hx hb dX7_doesAgree_0 rfl (lv_at hl 0 rfl) ?_
  refine lv_iload_n hx hb dX7_doesAgree_1 rfl (lv_at hl 1 rfl) ?_
  refine lv_iconst (v := 3) hx hb dX7_doesAgree_2 (by decide) ?_
  have rg7 : 0 ≤ x1.toInt ∧ x1.toInt ≤ 3 := ⟨by omega, by omega⟩
  refine va_calli (va_runV (As := [.int x1, .int 3]) (rest := []) ⟨hx, hb, hml, hown, hts⟩ (y_X7_its l dC dI H.size hLK A hA F a0 x1 3 ha0 rg7 (by decide) hI) (cwV 2 hts (ax_gV T_1057 T_1059 T_1060 T_265 T_1058) rfl rfl rfl (by decide +kernel) ⟨Nat.le_of_ble_eq_true rfl, Nat.le_of_ble_eq_true rfl⟩) ⟨fun a U g mk q => ⟨q.1, s_pc (U := U) rfl rfl q.2⟩, s_recv hK hP (hLK _ ha0 (by decide)) (ci := 7) rfl oY0, fun U hU hW => ⟨rfl, s_pw hU hW hP hK hD hN⟩⟩ rfl rfl hl.1 rfl (lv_room (Nat.le_of_ble_eq_true rfl)) dX7_doesAgree_3 ⟨Nat.zero_le _, Nat.zero_le _⟩) hS (fun q _ h => h) (fun q h => h) (fun r9 F10 t H1 locs ht hvm hw hB hz1 hk1 hS => ?_)
  obtain ⟨hP, hK1⟩ := hB
  rw [ht] at hP
  generalize H1 = H at hP hS ⊢
  clear hz1 hk1 hvm hK1
  obtain ⟨h11, h13, hI, hfr1, hzf, h12⟩ := hw
  have o14 : F10 (A 13) = .inl (cs 0, 400, .inl f1) := (hfr1 _ (by rw [(y_k13 hA)]; decide)).trans o2
  have o15 : F10 (A 20) = .inl (cs 0, 918, .inl f4) := (hfr1 _ (by rw [(y_k20 hA)]; decide)).trans o5
  have oY16 : F10 a0 = .inr (7, y_fl A z0 q0) := (hfr1 _ (by rw [ha0]; decide)).trans oY0
  have hfr : ∀ b, K b ∉ [70, 71, 72, 73, 78] → F10 b = F b := fun b hb9 => (hfr1 b (fun q => hb9 (s_sub (by decide) q))).trans (hfr b hb9)
  have h12 : (r9 = y_c f4 (104 + 6 * x1.toInt + 3)) := by have q9 := h12; rw [y_atE o5] at q9; exact q9
  have h12 : r9 = y_c f4 (107 + 6 * x1.toInt) := h12.trans (congrArg (y_c f4) (by omega))
  have h17 := congrArg Int32.toInt h12
  refine lv_iload_n hx hb dX7_doesAgree_6 rfl (lv_at hl 2 rfl) ?_
  have rg18 : 0 ≤ x2.toInt ∧ x2.toInt ≤ 31 := ⟨by omega, by omega⟩
  refine va_calli (va_runS (As := [.int r9, .int x2]) (rest := []) ⟨hx, hb, hml, hown, hts⟩ (y_X7_isOf l dC dI H.size F10 r9 x2 rg18) (cwS 2 hts (ax_gS T_1027 T_1029 T_265 T_1028) rfl rfl rfl (by decide +kernel) ⟨Nat.le_of_ble_eq_true rfl, Nat.le_of_ble_eq_true rfl⟩) ⟨fun a U g mk q => ⟨q.1, s_pc (U := U) rfl rfl q.2⟩, fun U hU hW => ⟨rfl, s_pw hU hW hP hK hD hN⟩⟩ rfl rfl hl.1 rfl (lv_room (Nat.le_of_ble_eq_true rfl)) dX7_doesAgree_7 ⟨Nat.zero_le _, Nat.zero_le _⟩) hS (fun q _ h => h) (fun q h => h) (fun r20 F21 t H1 locs ht hvm hw hB hz1 hk1 hS => ?_)
  obtain ⟨hP, hK1⟩ := hB
  rw [ht] at hP
  generalize H1 = H at hP hS ⊢
  clear hz1 hk1 hvm hK1
  obtain ⟨h22, h24, hG9, h23⟩ := hw
  rw [hG9] at hP
  have h23 : ((r20.toInt = 1 ∧ bt r9 x2.toInt.toNat = true) ∨ (r20.toInt = 0 ∧ bt r9 x2.toInt.toNat = false)) := by have q9 := h23; exact q9
  refine lv_if_ne (tgt := 22) hx hb dX7_doesAgree_10 (by decide) (fun c25 => ?_) (fun c25 => ?_)
  · have c25 := mt (ax_eq (n := 0) (by decide)).mpr c25
    refine lv_iconst (v := 0) hx hb dX7_doesAgree_22 (by decide) ?_
    have h26 : (0 : Int32).toInt = 0 := by decide
    exact W.zret (v := 0) (ty := .boolean) hx hb hr (by decide) (fun t ht hW => ⟨⟨0, F10, rfl, ⟨(by decide), trivial, hI, hfr, fun k hk => (y_fiZ oY16 (s_sub (by decide) hk)).trans ((hz0 k hk).trans (y_fiZ oY0 (s_sub (by decide) hk)).symm), (by rw [y_atE o5, y_atE o15]; exact (y_CP_r _))⟩, by rw [ht]; exact hP, va_K.moved hW.alike hK⟩, hS.F ht⟩) hS.2.2 dX7_doesAgree_23
  · have c25 := (ax_eq (n := 0) (by decide)).mp c25
    refine lv_aload_n hx hb dX7_doesAgree_13 rfl (lv_at hl 0 rfl) ?_
    refine lv_iload_n hx hb dX7_doesAgree_14 rfl (lv_at hl 1 rfl) ?_
    refine lv_iload_n hx hb dX7_doesAgree_15 rfl (lv_at hl 2 rfl) ?_
    have rg27 : 0 ≤ x2.toInt ∧ x2.toInt ≤ 7 := ⟨by omega, by omega⟩
    refine va_calli (va_runV (As := [.int x1, .int x2]) (rest := []) ⟨hx, hb, hml, hown, hts⟩ (y_X7_isAlone l dC dI H.size hLK A hA F10 a0 x1 x2 ha0 rg7 rg27 hI (by rw [y_atE o14]; exact hPG) (by rw [y_atE o14, y_atE o15]; exact hNG)) (cwV 2 hts (ax_gV T_1005 T_1007 T_1008 T_265 T_1006) rfl rfl rfl (by decide +kernel) ⟨Nat.le_of_ble_eq_true rfl, Nat.le_of_ble_eq_true rfl⟩) ⟨fun a U g mk q => ⟨q.1, s_pc (U := U) rfl rfl q.2⟩, s_recv hK hP (hLK _ ha0 (by decide)) (ci := 7) rfl oY16, fun U hU hW => ⟨rfl, s_pw hU hW hP hK hD hN⟩⟩ rfl rfl hl.1 rfl (lv_room (Nat.le_of_ble_eq_true rfl)) dX7_doesAgree_16 ⟨Nat.zero_le _, Nat.zero_le _⟩) hS (fun q _ h => h) (fun q h => h) (fun r29 F30 t H1 locs ht hvm hw hB hz1 hk1 hS => ?_)
    obtain ⟨hP, hK1⟩ := hB
    rw [ht] at hP
    generalize H1 = H at hP hS ⊢
    clear hz1 hk1 hvm hK1
    obtain ⟨h31, h33, hI, hfr1, hzf, h32⟩ := hw
    have o34 : F30 (A 13) = .inl (cs 0, 400, .inl f1) := (hfr1 _ (by rw [(y_k13 hA)]; decide)).trans o14
    have oY35 : F30 a0 = .inr (7, y_fl A z0 q0) := (hfr1 _ (by rw [ha0]; decide)).trans oY16
    have hfr : ∀ b, K b ∉ [70, 71, 72, 73, 78] → F30 b = F b := fun b hb9 => (hfr1 b (fun q => hb9 (s_sub (by decide) q))).trans (hfr b hb9)
    obtain ⟨f36, o37, b38⟩ := y_op20 hI
    have h32 : (y_CP f4 f36) := by have q9 := h32; rw [y_atE o15, y_atE o37] at q9; exact q9
    refine lv_if_ne (tgt := 24) hx hb dX7_doesAgree_19 (by decide) (fun c39 => ?_) (fun c39 => ?_)
    · have c39 := mt (ax_eq (n := 0) (by decide)).mpr c39
      refine lv_iconst (v := 0) hx hb dX7_doesAgree_24 (by decide) ?_
      refine lv_istore_n (lv' := [(3, .int 0), (0, .ref a0), (1, .int x1), (2, .int x2)]) hx hb dX7_doesAgree_25 rfl hl (by decide) rfl (fun ls hl => ?_)
      have h41 : (0 : Int32).toInt = 0 := by decide
      refine th_loop (fun n g H locs => ∃ (G : Nat → va_E) (ls : Array Slot) (w40 : Int32), g = F0 m 26 ls [] ∧ lv_has ls 4 [(0, .ref a0), (1, .int x1), (2, .int x2), (3, .int w40)] ∧ va_P (dC, dI) vwCl (va_pl L G) H ∧ va_S (fun q => q ∈ L) s.heap H locs ∧ y_I K cs A G ∧ (∀ b, K b ∉ [70, 71, 72, 73, 78] → G b = F b) ∧ (∀ k, k ∈ ([1, 2, 3, 4, 5, 6, 7, 8, 11, 15, 16, 19, 25, 26, 27, 31, 32] : List Nat) → y_fi G a0 k = z0 k) ∧ (0 ≤ w40.toInt ∧ w40.toInt ≤ 4) ∧ (0 ≤ x1.toInt ∧ x1.toInt ≤ 3) ∧ (0 ≤ x2.toInt ∧ x2.toInt ≤ 7) ∧ (y_CP f4 (y_at G (A 20))) ∧ n = (5 - w40.toInt).toNat) _ ⟨F30, _, 0, rfl, lv_sub hl [1, 2, 3, 0] rfl, hP, hS, hI, hfr, (fun k hk => (y_fiZ oY35 (s_sub (by decide) hk)).trans (hz0 k hk)), (by decide), ⟨by omega, by omega⟩, ⟨by omega, by omega⟩, (by rw [y_atE o37]; exact h32), rfl⟩ (fun n ih26 g H locs hq => ?_)
      obtain ⟨F46, ls, w40, rfl, hl, hP, hS, hI, hfr, hz0, h42, h43, h44, h45, hn⟩ := hq
      have o47 : F46 (A 13) = .inl (cs 0, 400, .inl f1) := (hfr _ (by rw [(y_k13 hA)]; decide)).trans o2
      have oY48 : F46 a0 = .inr (7, y_fl A z0 q0) := (hfr _ (by rw [ha0]; decide)).trans oY0
      have hz0 : ∀ k, k ∈ ([1, 2, 3, 4, 5, 6, 7, 8, 11, 15, 16, 19, 25, 26, 27, 31, 32] : List Nat) → z0 k = z0 k := fun _ _ => rfl
      obtain ⟨f49, o50, b51⟩ := y_op20 hI
      have h45 : (y_CP f4 f49) := by have q9 := h45; rw [y_atE o50] at q9; exact q9
      have hn_51 := hn
      refine lv_iload_n hx hb dX7_doesAgree_26 rfl (lv_at hl 3 rfl) ?_
      refine lv_iconst (v := 4) hx hb dX7_doesAgree_27 (by decide) ?_
      refine lv_icmp_ge (tgt := 59) hx hb dX7_doesAgree_28 (by decide) (fun c52 => ?_) (fun c52 => ?_)
      · have c52 := (ax_ge (n := 4) (by decide)).mp c52
        refine lv_iconst (v := 1) hx hb dX7_doesAgree_59 (by decide) ?_
        have h53 : (1 : Int32).toInt = 1 := by decide
        exact W.zret (v := 1) (ty := .boolean) hx hb hr (by decide) (fun t ht hW => ⟨⟨1, F46, rfl, ⟨(by decide), trivial, hI, hfr, fun k hk => (y_fiZ oY48 (s_sub (by decide) hk)).trans ((hz0 k hk).trans (y_fiZ oY0 (s_sub (by decide) hk)).symm), (by rw [y_atE o5, y_atE o50]; exact h45)⟩, by rw [ht]; exact hP, va_K.moved hW.alike hK⟩, hS.F ht⟩) hS.2.2 dX7_doesAgree_60
      · have c52 := mt (ax_ge (n := 4) (by decide)).mpr c52
        refine lv_aload_n hx hb dX7_doesAgree_31 rfl (lv_at hl 0 rfl) ?_
        refine th_get (D := (dC, dI)) (ci := 7) (v := .ref (A 20)) (C := RX7) (T := TX7) (N := 34) hx hb hts inX7 hown hK hP (hLK _ ha0 (by decide)) oY48 rfl 20 (by decide) (hts _ T_251) (fun _ h9 => h9) rfl dX7_doesAgree_32 ?_
        refine lv_iload_n hx hb dX7_doesAgree_35 rfl (lv_at hl 1 rfl) ?_
        refine lv_iload_n hx hb dX7_doesAgree_36 rfl (lv_at hl 2 rfl) ?_
        refine lv_iload_n hx hb dX7_doesAgree_37 rfl (lv_at hl 3 rfl) ?_
        have rg54 : 0 ≤ w40.toInt ∧ w40.toInt ≤ 3 := ⟨by omega, by omega⟩
        refine va_calli (va_runS (As := [.int x1, .int x2, .int w40]) (rest := [.ref (A 20)]) ⟨hx, hb, hml, hown, hts⟩ (y_X7_registerAt l dC dI H.size F46 x1 x2 w40 rg7 rg27 rg54) (cwS 3 hts (ax_gS T_1095 T_1097 T_265 T_1096) rfl rfl rfl (by decide +kernel) ⟨Nat.le_of_ble_eq_true rfl, Nat.le_of_ble_eq_true rfl⟩) ⟨fun a U g mk q => ⟨q.1, s_pc (U := U) rfl rfl q.2⟩, fun U hU hW => ⟨rfl, s_pw hU hW hP hK hD hN⟩⟩ rfl rfl hl.1 rfl (lv_room (Nat.le_of_ble_eq_true rfl)) dX7_doesAgree_38 ⟨Nat.zero_le _, Nat.zero_le _⟩) hS (fun q _ h => h) (fun q h => h) (fun r56 F57 t H1 locs ht hvm hw hB hz1 hk1 hS => ?_)
        obtain ⟨hP, hK1⟩ := hB
        rw [ht] at hP
        generalize H1 = H at hP hS ⊢
        clear hz1 hk1 hvm hK1
        obtain ⟨h58, h60, hG9, h59⟩ := hw
        rw [hG9] at hP
        have h59 : (r56.toInt = 128 + 32 * x1.toInt + 4 * x2.toInt + w40.toInt) := by have q9 := h59; exact q9
        refine th_iald hx hb hK hP (hLK _ (y_k20 hA) (by decide)) 0 o50 rfl (th_in ⟨by omega, by omega⟩) dX7_doesAgree_41 ?_
        refine lv_topi (fun v61 ev61 => ?_)
        refine lv_aload_n hx hb dX7_doesAgree_42 rfl (lv_at hl 0 rfl) ?_
        refine th_get (D := (dC, dI)) (ci := 7) (v := .ref (A 28)) (C := RX7) (T := TX7) (N := 34) hx hb hts inX7 hown hK hP (hLK _ ha0 (by decide)) oY48 rfl 28 (by decide) (hts _ T_257) (fun _ h9 => h9) rfl dX7_doesAgree_43 ?_
        refine lv_iload_n hx hb dX7_doesAgree_46 rfl (lv_at hl 3 rfl) ?_
        obtain ⟨f62, o63, b64⟩ := y_op28 hI
        refine th_iald hx hb hK hP (hLK _ (y_k28 hA) (by decide)) 0 o63 rfl (th_in ⟨by omega, by omega⟩) dX7_doesAgree_47 ?_
        refine lv_topi (fun v65 ev65 => ?_)
        refine lv_icmp_eq (tgt := 53) hx hb dX7_doesAgree_48 (by decide) (fun c66 => ?_) (fun c66 => ?_)
        · have c66 := Int32.toInt_inj.symm.mp c66
          obtain ⟨v67, ev67⟩ : ∃ y : Int32, w40 + 1 = y := ⟨_, rfl⟩
          have qv67 : v67.toInt = w40.toInt + 1 := by rw [← ev67]; exact th_add rfl (by decide) ⟨by omega, by omega⟩
          refine lv_iinc (v := v67) (lv' := [(3, .int v67), (0, .ref a0), (1, .int x1), (2, .int x2)]) hx hb dX7_doesAgree_53 hl (k := 3) rfl ev67 (by decide) rfl (fun ls hl => ?_)
          refine lv_goto (tgt := 26) hx hb dX7_doesAgree_56 (by decide) ?_
          exact ih26 _ _ _ _ (by omega) ⟨F46, _, v67, rfl, lv_sub hl [1, 2, 3, 0] rfl, hP, hS, hI, hfr, (fun k hk => (y_fiZ oY48 (s_sub (by decide) hk)).trans (hz0 k hk)), ⟨by omega, by omega⟩, ⟨by omega, by omega⟩, ⟨by omega, by omega⟩, (by rw [y_atE o50]; exact h45), rfl⟩
        · have c66 := mt Int32.toInt_inj.symm.mpr c66
          refine lv_iconst (v := 0) hx hb dX7_doesAgree_51 (by decide) ?_
          have h68 : (0 : Int32).toInt = 0 := by decide
          exact W.zret (v := 0) (ty := .boolean) hx hb hr (by decide) (fun t ht hW => ⟨⟨0, F46, rfl, ⟨(by decide), trivial, hI, hfr, fun k hk => (y_fiZ oY48 (s_sub (by decide) hk)).trans ((hz0 k hk).trans (y_fiZ oY0 (s_sub (by decide) hk)).symm), (by rw [y_atE o5, y_atE o50]; exact h45)⟩, by rw [ht]; exact hP, va_K.moved hW.alike hK⟩, hS.F ht⟩) hS.2.2 dX7_doesAgree_52
    · have c39 := (ax_eq (n := 0) (by decide)).mp c39
      refine lv_iconst (v := 0) hx hb dX7_doesAgree_22 (by decide) ?_
      have h69 : (0 : Int32).toInt = 0 := by decide
      exact W.zret (v := 0) (ty := .boolean) hx hb hr (by decide) (fun t ht hW => ⟨⟨0, F30, rfl, ⟨(by decide), trivial, hI, hfr, fun k hk => (y_fiZ oY35 (s_sub (by decide) hk)).trans ((hz0 k hk).trans (y_fiZ oY0 (s_sub (by decide) hk)).symm), (by rw [y_atE o5, y_atE o37]; exact h32)⟩, by rw [ht]; exact hP, va_K.moved hW.alike hK⟩, hS.F ht⟩) hS.2.2 dX7_doesAgree_23
