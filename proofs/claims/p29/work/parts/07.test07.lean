set_option maxHeartbeats 4000000 in
set_option maxRecDepth 100000 in
theorem yt_X7_agrees (l : Launch) (dC : Nat → ClassId) (dI : Nat → Nat → Nat) (sz : Nat) {L : List Nat} {K : Nat → Nat} {cs : Nat → ClassId} (hLK : ∀ a {k : Nat}, K a = k → k ≠ 0 → a ∈ L) (A : Nat → Nat) (hA : y_A K A) (F : Nat → va_E) (a0 : Nat) (ha0 : K a0 = 9) (hI : y_I K cs A F) (hT : y_T (y_fi F a0 15) (y_at F (A 13)) (y_at F (A 20)) (y_at F (A 30)) (y_fi F a0 31) (y_fi F a0 32)) : Met l yX7_agrees (Cond.code yX7_agrees cX7_agrees 3 (some .int) :: T0) ({ frames := 11, cells := 0, slots := 0, locals := 255 }) (va_Pc [.ref a0] (s_W dC dI sz L F [(cs 0, .int), (cs 1, .byte), (cs 2, .long), (cs 3, .object RX5), (cs 4, .object RX4), (cs 5, .array .int), (cs 6, .char), (cs 7, .boolean)])) (va_Qi (fun (r : Int32) (G : Nat → va_E) => True ∧ True ∧ y_I K cs A G ∧ (∀ b, K b ∉ [70, 71, 72, 73, 78] → G b = F b) ∧ (∀ k, k ∈ ([1, 2, 3, 4, 5, 6, 7, 8, 11, 15, 16, 19, 25, 26, 27, 31, 32] : List Nat) → y_fi G a0 k = y_fi F a0 k) ∧ (y_T (y_fi G a0 15) (y_at G (A 13)) (y_at G (A 20)) (y_at G (A 30)) (y_fi G a0 31) (y_fi G a0 32))) (fun (G : Nat → va_E) (t : State) => va_P (dC, dI) vwCl (va_pl L G) t.heap ∧ va_K (dC, dI) vwCl [(cs 0, .int), (cs 1, .byte), (cs 2, .long), (cs 3, .object RX5), (cs 4, .object RX4), (cs 5, .array .int), (cs 6, .char), (cs 7, .boolean)] t) (fun q => q ∈ L)) 0 0 (fun q => q ∈ L) := by
  refine Met.ofW (cc := cX7_agrees) (maxL := 3) (ret := (some .int)) (by decide) rfl ?_
  intro p e s m args below meth c s₁ B hml hv
  obtain ⟨rfl, hsz, hP, hK, hD, hN⟩ := hv
  have hx := B.exec
  have hb := B.bytes
  have hr := B.returns
  have hts : ∀ w ∈ T0, w.before _ s = true := fun w h => atoms_spec (ws := Cond.code yX7_agrees cX7_agrees 3 (some .int) :: T0) B.pre w (List.mem_cons_of_mem _ h)
  have hown : s.vm.findClass RX7 = some m.cls := findClass_of_methodNamed B.named
  have hlocks := B.notSynchronized
  have hS : va_S (fun q => q ∈ L) s.heap s.heap [] := va_S.rf
  have hfr : ∀ b, K b ∉ [70, 71, 72, 73, 78] → F b = F b := fun _ _ => rfl
  have hl := lv_entry ([.ref a0]) (n := 3) (Nat.le_of_ble_eq_true rfl)
  rw [lg_entry_eq]
  generalize (lg_sl ([.ref a0]) ++ List.replicate (3 - (lg_sl ([.ref a0])).length) Slot.unset).toArray = ls at hl ⊢
  have hl : lv_has ls 3 [(0, .ref a0)] := hl
  refine s_gen hP hS (fun H locs hP hS => ?_)
  obtain ⟨z0, q0, oY0, bz0, bq0⟩ := y_opY hI ha0
  have hz0 : ∀ k, k ∈ ([1, 2, 3, 4, 5, 6, 7, 8, 11, 15, 16, 19, 25, 26, 27, 31, 32] : List Nat) → z0 k = z0 k := fun _ _ => rfl
  obtain ⟨f1, o2, b3⟩ := y_op13 hI
  obtain ⟨f4, o5, b6⟩ := y_op20 hI
  obtain ⟨f7, o8, b9⟩ := y_op30 hI
  obtain ⟨v10, ev10⟩ : ∃ y : Int32, y = z0 15 := ⟨_, rfl⟩
  have qv10 : 0 ≤ v10.toInt ∧ v10.toInt ≤ 1 := by rw [ev10]; exact y_bY15 bz0
  have eF_15 := ev10
  obtain ⟨v11, ev11⟩ : ∃ y : Int32, y = z0 31 := ⟨_, rfl⟩
  have qv11 : 0 ≤ v11.toInt ∧ v11.toInt ≤ 20 := by rw [ev11]; exact y_bY31 bz0
  have eF_31 := ev11
  obtain ⟨v12, ev12⟩ : ∃ y : Int32, y = z0 32 := ⟨_, rfl⟩
  have qv12 : 0 ≤ v12.toInt ∧ v12.toInt ≤ 19 := by rw [ev12]; exact y_bY32 bz0
  have eF_32 := ev12
  have hT : y_T v10 f1 f4 f7 v11 v12 := by have q9 := hT; rw [y_fiZ oY0 (k := 15) (by decide), ← ev10, y_atE o2, y_atE o5, y_atE o8, y_fiZ oY0 (k := 31) (by decide), ← ev11, y_fiZ oY0 (k := 32) (by decide), ← ev12] at q9; exact q9
  have e0_v10 := ev10
  have e0_v11 := ev11
  have e0_v12 := ev12
  refine lv_aload_n hx hb dX7_agrees_0 rfl (lv_at hl 0 rfl) ?_
  refine th_get (D := (dC, dI)) (ci := 7) (v := .int (z0 15)) (C := RX7) (T := TX7) (N := 34) hx hb hts inX7 hown hK hP (hLK _ ha0 (by decide)) oY0 rfl 15 (by decide) (hts _ T_271) (fun _ h9 => h9) rfl dX7_agrees_1 ?_
  refine ax_eqi (y := v10) ev10.symm ?_
  refine lv_if_ne (tgt := 9) hx hb dX7_agrees_4 (by decide) (fun c13 => ?_) (fun c13 => ?_)
  · have c13 := mt (ax_eq (n := 0) (by decide)).mpr c13
    obtain ⟨htd, hPG, hNG, hUG⟩ := y_TT hT (by omega)
    have hL := y_P0L hPG.1
    have hW := y_P0W hPG.1
    have hnn := And.intro hNG.1 (And.intro hNG.2.1 (And.intro hNG.2.2.1 hNG.2.2.2.1))
    refine lv_iconst (v := 0) hx hb dX7_agrees_9 (by decide) ?_
    refine lv_istore_n (lv' := [(1, .int 0), (0, .ref a0)]) hx hb dX7_agrees_10 rfl hl (by decide) rfl (fun ls hl => ?_)
    refine lv_iconst (v := 0) hx hb dX7_agrees_11 (by decide) ?_
    refine lv_istore_n (lv' := [(2, .int 0), (1, .int 0), (0, .ref a0)]) hx hb dX7_agrees_12 rfl hl (by decide) rfl (fun ls hl => ?_)
    have h16 : (0 : Int32).toInt = 0 := by decide
    have h17 : (0 : Int32).toInt = 0 := by decide
    refine th_loop (fun n g H locs => ∃ (G : Nat → va_E) (ls : Array Slot) (w14 : Int32) (w15 : Int32), g = F0 m 13 ls [] ∧ lv_has ls 3 [(0, .ref a0), (1, .int w14), (2, .int w15)] ∧ va_P (dC, dI) vwCl (va_pl L G) H ∧ va_S (fun q => q ∈ L) s.heap H locs ∧ y_I K cs A G ∧ (∀ b, K b ∉ [70, 71, 72, 73, 78] → G b = F b) ∧ (∀ k, k ∈ ([1, 2, 3, 4, 5, 6, 7, 8, 11, 15, 16, 19, 25, 26, 27, 31, 32] : List Nat) → y_fi G a0 k = z0 k) ∧ True ∧ (0 ≤ w15.toInt ∧ w15.toInt ≤ 32) ∧ (y_CP f4 (y_at G (A 20))) ∧ n = (33 - w15.toInt).toNat) _ ⟨F, _, 0, 0, rfl, lv_sub hl [2, 1, 0] rfl, hP, hS, hI, hfr, (fun k hk => (y_fiZ oY0 (s_sub (by decide) hk)).trans (hz0 k hk)), trivial, (by decide), (by rw [y_atE o5]; exact (y_CP_r _)), rfl⟩ (fun n ih13 g H locs hq => ?_)
    obtain ⟨F21, ls, w14, w15, rfl, hl, hP, hS, hI, hfr, hz0, h18, h19, h20, hn⟩ := hq
    have o22 : F21 (A 13) = .inl (cs 0, 400, .inl f1) := (hfr _ (by rw [(y_k13 hA)]; decide)).trans o2
    have o23 : F21 (A 30) = .inl (cs 0, 18360, .inl f7) := (hfr _ (by rw [(y_k30 hA)]; decide)).trans o8
    have oY24 : F21 a0 = .inr (7, y_fl A z0 q0) := (hfr _ (by rw [ha0]; decide)).trans oY0
    have hz0 : ∀ k, k ∈ ([1, 2, 3, 4, 5, 6, 7, 8, 11, 15, 16, 19, 25, 26, 27, 31, 32] : List Nat) → z0 k = z0 k := fun _ _ => rfl
    obtain ⟨f25, o26, b27⟩ := y_op20 hI
    have h20 : (y_CP f4 f25) := by have q9 := h20; rw [y_atE o26] at q9; exact q9
    have hNGk := y_NGcp h20 (by omega) hNG
    have hn_27 := hn
    refine lv_iload_n hx hb dX7_agrees_13 rfl (lv_at hl 2 rfl) ?_
    refine lv_bipush (v := 8) hx hb dX7_agrees_14 (by decide) ?_
    refine lv_aload_n hx hb dX7_agrees_16 rfl (lv_at hl 0 rfl) ?_
    refine va_calli (va_runV (As := []) (rest := [.int 8, .int w15]) ⟨hx, hb, hml, hown, hts⟩ (y_X7_warps l dC dI H.size hLK A hA F21 a0 ha0 hI) (cwV 0 hts (ax_gV T_993 T_995 T_996 T_265 T_994) rfl rfl rfl (by decide +kernel) ⟨Nat.le_of_ble_eq_true rfl, Nat.le_of_ble_eq_true rfl⟩) ⟨fun a U g mk q => ⟨q.1, s_pc (U := U) rfl rfl q.2⟩, s_recv hK hP (hLK _ ha0 (by decide)) (ci := 7) rfl oY24, fun U hU hW => ⟨rfl, s_pw hU hW hP hK hD hN⟩⟩ rfl rfl hl.1 rfl (lv_room (Nat.le_of_ble_eq_true rfl)) dX7_agrees_17 ⟨Nat.zero_le _, Nat.zero_le _⟩) hS (fun q _ h => h) (fun q h => h) (fun r29 F30 t H1 locs ht hvm hw hB hz1 hk1 hS => ?_)
    obtain ⟨hP, hK1⟩ := hB
    rw [ht] at hP
    generalize H1 = H at hP hS ⊢
    clear hz1 hk1 hvm hK1
    obtain ⟨h31, h33, hI, hfr1, hzf, h32⟩ := hw
    have o34 : F30 (A 13) = .inl (cs 0, 400, .inl f1) := (hfr1 _ (by rw [(y_k13 hA)]; decide)).trans o22
    have o35 : F30 (A 30) = .inl (cs 0, 18360, .inl f7) := (hfr1 _ (by rw [(y_k30 hA)]; decide)).trans o23
    have o36 : F30 (A 20) = .inl (cs 0, 918, .inl f25) := (hfr1 _ (by rw [(y_k20 hA)]; decide)).trans o26
    have oY37 : F30 a0 = .inr (7, y_fl A z0 q0) := (hfr1 _ (by rw [ha0]; decide)).trans oY24
    have hfr : ∀ b, K b ∉ [70, 71, 72, 73, 78] → F30 b = F b := fun b hb9 => (hfr1 b (fun q => hb9 (s_sub (by decide) q))).trans (hfr b hb9)
    have h32 : (r29 = y_c f1 384) := by have q9 := h32; rw [y_atE o22] at q9; exact q9
    have h38 := congrArg Int32.toInt h32
    have h39 : 1 ≤ r29.toInt ∧ r29.toInt ≤ 4 := ⟨by omega, by omega⟩
    refine lv_imul hx hb dX7_agrees_20 ?_
    refine lv_topi (fun v40 ev40 => ?_)
    have qv40 : v40.toInt = 8 * r29.toInt := by rw [ev40]; exact th_mul (by decide) rfl ⟨by omega, by omega⟩
    refine lv_icmp_ge (tgt := 48) hx hb dX7_agrees_21 (by decide) (fun c41 => ?_) (fun c41 => ?_)
    · have c41 := Int32.le_iff_toInt_le.mp c41
      refine lv_iload_n hx hb dX7_agrees_48 rfl (lv_at hl 1 rfl) ?_
      exact W.iret (v := w14) hx hb hr (fun t ht hW => ⟨⟨w14, F30, rfl, ⟨trivial, trivial, hI, hfr, fun k hk => (y_fiZ oY37 (s_sub (by decide) hk)).trans ((hz0 k hk).trans (y_fiZ oY0 (s_sub (by decide) hk)).symm), (by rw [y_fiZ oY37 (k := 15) (by decide), ← ev10, y_atE o34, y_atE o36, y_atE o35, y_fiZ oY37 (k := 31) (by decide), ← ev11, y_fiZ oY37 (k := 32) (by decide), ← ev12]; exact (y_Tc h20 hT))⟩, by rw [ht]; exact hP, va_K.moved hW.alike hK⟩, hS.F ht⟩) hS.2.2 dX7_agrees_49
    · have c41 := mt Int32.le_iff_toInt_le.mpr c41
      refine lv_iload_n hx hb dX7_agrees_24 rfl (lv_at hl 1 rfl) ?_
      refine lv_aload_n hx hb dX7_agrees_25 rfl (lv_at hl 0 rfl) ?_
      refine lv_iload_n hx hb dX7_agrees_26 rfl (lv_at hl 2 rfl) ?_
      refine lv_bipush (v := 8) hx hb dX7_agrees_27 (by decide) ?_
      refine lv_idiv hx hb dX7_agrees_29 (by decide) ?_
      refine lv_topi (fun v42 ev42 => ?_)
      have qv42 : v42.toInt = w15.toInt / 8 := by rw [ev42]; exact th_div rfl (by decide) (by omega) (by decide)
      refine lv_iload_n hx hb dX7_agrees_30 rfl (lv_at hl 2 rfl) ?_
      refine lv_bipush (v := 8) hx hb dX7_agrees_31 (by decide) ?_
      refine lv_irem hx hb dX7_agrees_33 (by decide) ?_
      refine lv_topi (fun v43 ev43 => ?_)
      have qv43 : v43.toInt = w15.toInt % 8 := by rw [ev43]; exact th_rem rfl (by decide) (by omega) (by decide)
      have rg44 : 0 ≤ v42.toInt ∧ v42.toInt ≤ 3 := ⟨by omega, by omega⟩
      have rg45 : 0 ≤ v43.toInt ∧ v43.toInt ≤ 7 := ⟨by omega, by omega⟩
      refine va_calli (va_runV (As := [.int v42, .int v43]) (rest := [.int w14]) ⟨hx, hb, hml, hown, hts⟩ (y_X7_doesAgree l dC dI H.size hLK A hA F30 a0 v42 v43 ha0 rg44 rg45 hI (by rw [y_atE o34]; exact hPG) (by rw [y_atE o34, y_atE o36]; exact hNGk)) (cwV 2 hts (ax_gV T_997 T_999 T_1000 T_265 T_998) rfl rfl rfl (by decide +kernel) ⟨Nat.le_of_ble_eq_true rfl, Nat.le_of_ble_eq_true rfl⟩) ⟨fun a U g mk q => ⟨q.1, s_pc (U := U) rfl rfl q.2⟩, s_recv hK hP (hLK _ ha0 (by decide)) (ci := 7) rfl oY37, fun U hU hW => ⟨rfl, s_pw hU hW hP hK hD hN⟩⟩ rfl rfl hl.1 rfl (lv_room (Nat.le_of_ble_eq_true rfl)) dX7_agrees_34 ⟨Nat.zero_le _, Nat.zero_le _⟩) hS (fun q _ h => h) (fun q h => h) (fun r47 F48 t H1 locs ht hvm hw hB hz1 hk1 hS => ?_)
      obtain ⟨hP, hK1⟩ := hB
      rw [ht] at hP
      generalize H1 = H at hP hS ⊢
      clear hz1 hk1 hvm hK1
      obtain ⟨h49, h51, hI, hfr1, hzf, h50⟩ := hw
      have o52 : F48 (A 13) = .inl (cs 0, 400, .inl f1) := (hfr1 _ (by rw [(y_k13 hA)]; decide)).trans o34
      have o53 : F48 (A 30) = .inl (cs 0, 18360, .inl f7) := (hfr1 _ (by rw [(y_k30 hA)]; decide)).trans o35
      have oY54 : F48 a0 = .inr (7, y_fl A z0 q0) := (hfr1 _ (by rw [ha0]; decide)).trans oY37
      have hfr : ∀ b, K b ∉ [70, 71, 72, 73, 78] → F48 b = F b := fun b hb9 => (hfr1 b (fun q => hb9 (s_sub (by decide) q))).trans (hfr b hb9)
      obtain ⟨f55, o56, b57⟩ := y_op20 hI
      have h50 : (y_CP f25 f55) := by have q9 := h50; rw [y_atE o36, y_atE o56] at q9; exact q9
      have rg58 : 0 ≤ r47.toInt ∧ r47.toInt ≤ 1 := ⟨by omega, by omega⟩
      refine va_calli (va_runS (As := [.int r47]) (rest := [.int w14]) ⟨hx, hb, hml, hown, hts⟩ (y_X7_flag l dC dI H.size F48 r47 rg58) (cwS 1 hts (ax_gS T_1001 T_1003 T_265 T_1002) rfl rfl rfl (by decide +kernel) ⟨Nat.le_of_ble_eq_true rfl, Nat.le_of_ble_eq_true rfl⟩) ⟨fun a U g mk q => ⟨q.1, s_pc (U := U) rfl rfl q.2⟩, fun U hU hW => ⟨rfl, s_pw hU hW hP hK hD hN⟩⟩ rfl rfl hl.1 rfl (lv_room (Nat.le_of_ble_eq_true rfl)) dX7_agrees_37 ⟨Nat.zero_le _, Nat.zero_le _⟩) hS (fun q _ h => h) (fun q h => h) (fun r60 F61 t H1 locs ht hvm hw hB hz1 hk1 hS => ?_)
      obtain ⟨hP, hK1⟩ := hB
      rw [ht] at hP
      generalize H1 = H at hP hS ⊢
      clear hz1 hk1 hvm hK1
      obtain ⟨h62, h64, hG9, h63⟩ := hw
      rw [hG9] at hP
      refine lv_iadd hx hb dX7_agrees_40 ?_
      refine lv_topi (fun v65 ev65 => ?_)
      refine lv_istore_n (lv' := [(1, .int v65), (0, .ref a0), (2, .int w15)]) hx hb dX7_agrees_41 rfl hl (by decide) rfl (fun ls hl => ?_)
      obtain ⟨v66, ev66⟩ : ∃ y : Int32, w15 + 1 = y := ⟨_, rfl⟩
      have qv66 : v66.toInt = w15.toInt + 1 := by rw [← ev66]; exact th_add rfl (by decide) ⟨by omega, by omega⟩
      refine lv_iinc (v := v66) (lv' := [(2, .int v66), (1, .int v65), (0, .ref a0)]) hx hb dX7_agrees_42 hl (k := 2) rfl ev66 (by decide) rfl (fun ls hl => ?_)
      refine lv_goto (tgt := 13) hx hb dX7_agrees_45 (by decide) ?_
      exact ih13 _ _ _ _ (by omega) ⟨F48, _, v65, v66, rfl, lv_sub hl [2, 1, 0] rfl, hP, hS, hI, hfr, (fun k hk => (y_fiZ oY54 (s_sub (by decide) hk)).trans (hz0 k hk)), trivial, ⟨by omega, by omega⟩, (by rw [y_atE o56]; exact (y_CP_t h20 h50)), rfl⟩
  · have c13 := (ax_eq (n := 0) (by decide)).mp c13
    refine lv_iconst (v := (-1)) hx hb dX7_agrees_7 (by decide) ?_
    have h67 : ((-1) : Int32).toInt = (-1) := by decide
    exact W.iret (v := (-1)) hx hb hr (fun t ht hW => ⟨⟨(-1), F, rfl, ⟨trivial, trivial, hI, hfr, fun k hk => (y_fiZ oY0 (s_sub (by decide) hk)).trans ((hz0 k hk).trans (y_fiZ oY0 (s_sub (by decide) hk)).symm), (by rw [y_fiZ oY0 (k := 15) (by decide), ← ev10, y_atE o2, y_atE o5, y_atE o8, y_fiZ oY0 (k := 31) (by decide), ← ev11, y_fiZ oY0 (k := 32) (by decide), ← ev12]; exact (y_Tc (y_CP_r _) hT))⟩, by rw [ht]; exact hP, va_K.moved hW.alike hK⟩, hS.F ht⟩) hS.2.2 dX7_agrees_8

set_option maxHeartbeats 4000000 in
set_option maxRecDepth 100000 in
theorem yt_X7_laysEnds (l : Launch) (dC : Nat → ClassId) (dI : Nat → Nat → Nat) (sz : Nat) {L : List Nat} {K : Nat → Nat} {cs : Nat → ClassId} (hLK : ∀ a {k : Nat}, K a = k → k ≠ 0 → a ∈ L) (A : Nat → Nat) (hA : y_A K A) (F : Nat → va_E) (a0 : Nat) (x1 : Int32) (ha0 : K a0 = 9) (hx1 : 0 ≤ x1.toInt ∧ x1.toInt ≤ 63) (hI : y_I K cs A F) (hPG : y_PG (y_at F (A 13))) (hNG : y_NG (y_at F (A 13)) (y_at F (A 20))) : Met l yX7_laysEnds (Cond.code yX7_laysEnds cX7_laysEnds 3 none :: T0) ({ frames := 9, cells := 0, slots := 0, locals := 209 }) (va_Pc [.ref a0, .int x1] (s_W dC dI sz L F [(cs 0, .int), (cs 1, .byte), (cs 2, .long), (cs 3, .object RX5), (cs 4, .object RX4), (cs 5, .array .int), (cs 6, .char), (cs 7, .boolean)])) (va_Qv (fun (G : Nat → va_E) => True ∧ True ∧ y_I K cs A G ∧ (∀ b, K b ∉ [70, 71, 72, 73, 79] → G b = F b) ∧ (∀ k, k ∈ ([1, 2, 3, 4, 5, 6, 7, 8, 11, 15, 16, 19, 25, 26, 27, 31, 32] : List Nat) → y_fi G a0 k = y_fi F a0 k) ∧ (y_CP (y_at F (A 20)) (y_at G (A 20)))) (fun (G : Nat → va_E) (t : State) => va_P (dC, dI) vwCl (va_pl L G) t.heap ∧ va_K (dC, dI) vwCl [(cs 0, .int), (cs 1, .byte), (cs 2, .long), (cs 3, .object RX5), (cs 4, .object RX4), (cs 5, .array .int), (cs 6, .char), (cs 7, .boolean)] t) (fun q => q ∈ L)) 0 0 (fun q => q ∈ L) := by
  refine Met.ofW (cc := cX7_laysEnds) (maxL := 3) (ret := none) (by decide) rfl ?_
  intro p e s m args below meth c s₁ B hml hv
  obtain ⟨rfl, hsz, hP, hK, hD, hN⟩ := hv
  have hx := B.exec
  have hb := B.bytes
  have hr := B.returns
  have hts : ∀ w ∈ T0, w.before _ s = true := fun w h => atoms_spec (ws := Cond.code yX7_laysEnds cX7_laysEnds 3 none :: T0) B.pre w (List.mem_cons_of_mem _ h)
  have hown : s.vm.findClass RX7 = some m.cls := findClass_of_methodNamed B.named
  have hlocks := B.notSynchronized
  have hS : va_S (fun q => q ∈ L) s.heap s.heap [] := va_S.rf
  have hfr : ∀ b, K b ∉ [70, 71, 72, 73, 79] → F b = F b := fun _ _ => rfl
  have hl := lv_entry ([.ref a0, .int x1]) (n := 3) (Nat.le_of_ble_eq_true rfl)
  rw [lg_entry_eq]
  generalize (lg_sl ([.ref a0, .int x1]) ++ List.replicate (3 - (lg_sl ([.ref a0, .int x1])).length) Slot.unset).toArray = ls at hl ⊢
  have hl : lv_has ls 3 [(0, .ref a0), (1, .int x1)] := hl
  refine s_gen hP hS (fun H locs hP hS => ?_)
  obtain ⟨z0, q0, oY0, bz0, bq0⟩ := y_opY hI ha0
  have hz0 : ∀ k, k ∈ ([1, 2, 3, 4, 5, 6, 7, 8, 11, 15, 16, 19, 25, 26, 27, 31, 32] : List Nat) → z0 k = z0 k := fun _ _ => rfl
  obtain ⟨f1, o2, b3⟩ := y_op13 hI
  obtain ⟨f4, o5, b6⟩ := y_op20 hI
  have hPG : y_PG f1 := by have q9 := hPG; rw [y_atE o2] at q9; exact q9
  have hNG : y_NG f1 f4 := by have q9 := hNG; rw [y_atE o2, y_atE o5] at q9; exact q9
  have hL := y_P0L hPG.1
  have hW := y_P0W hPG.1
  have hnn := And.intro hNG.1 (And.intro hNG.2.1 (And.intro hNG.2.2.1 hNG.2.2.2.1))
  refine lv_aload_n hx hb dX7_laysEnds_0 rfl (lv_at hl 0 rfl) ?_
  refine va_callv (va_runV (As := []) (rest := []) ⟨hx, hb, hml, hown, hts⟩ (y_X7_putsAside l dC dI H.size hLK A hA F a0 ha0 hI) (cwV 0 hts (ax_gV T_1041 T_1043 T_1044 T_265 T_1042) rfl rfl rfl (by decide +kernel) ⟨Nat.le_of_ble_eq_true rfl, Nat.le_of_ble_eq_true rfl⟩) ⟨fun a U g mk q => ⟨q.1, s_pc (U := U) rfl rfl q.2⟩, s_recv hK hP (hLK _ ha0 (by decide)) (ci := 7) rfl oY0, fun U hU hW => ⟨rfl, s_pw hU hW hP hK hD hN⟩⟩ rfl rfl hl.1 rfl (lv_room (Nat.le_of_ble_eq_true rfl)) dX7_laysEnds_1 ⟨Nat.zero_le _, Nat.zero_le _⟩) hS (fun q _ h => h) (fun q h => h) (fun F8 t H1 locs ht hvm hw hB hz1 hk1 hS => ?_)
  obtain ⟨hP, hK1⟩ := hB
  rw [ht] at hP
  generalize H1 = H at hP hS ⊢
  clear hz1 hk1 hvm hK1
  obtain ⟨h9, h11, hI, hfr1, hzf, h10⟩ := hw
  have o12 : F8 (A 13) = .inl (cs 0, 400, .inl f1) := (hfr1 _ (by rw [(y_k13 hA)]; decide)).trans o2
  have o13 : F8 (A 20) = .inl (cs 0, 918, .inl f4) := (hfr1 _ (by rw [(y_k20 hA)]; decide)).trans o5
  have oY14 : F8 a0 = .inr (7, y_fl A z0 q0) := (hfr1 _ (by rw [ha0]; decide)).trans oY0
  have hfr : ∀ b, K b ∉ [70, 71, 72, 73, 79] → F8 b = F b := fun b hb9 => (hfr1 b (fun q => hb9 (s_sub (by decide) q))).trans (hfr b hb9)
  obtain ⟨f15, o16, b17⟩ := y_op23 hI
  have h10 : (y_CP f4 f15) := by have q9 := h10; rw [y_atE o5, y_atE o16] at q9; exact q9
  refine lv_iconst (v := 0) hx hb dX7_laysEnds_4 (by decide) ?_
  refine lv_istore_n (lv' := [(2, .int 0), (0, .ref a0), (1, .int x1)]) hx hb dX7_laysEnds_5 rfl hl (by decide) rfl (fun ls hl => ?_)
  have h19 : (0 : Int32).toInt = 0 := by decide
  refine th_loop (fun n g H locs => ∃ (G : Nat → va_E) (ls : Array Slot) (w18 : Int32), g = F0 m 6 ls [] ∧ lv_has ls 3 [(0, .ref a0), (1, .int x1), (2, .int w18)] ∧ va_P (dC, dI) vwCl (va_pl L G) H ∧ va_S (fun q => q ∈ L) s.heap H locs ∧ y_I K cs A G ∧ (∀ b, K b ∉ [70, 71, 72, 73, 79] → G b = F b) ∧ (∀ k, k ∈ ([1, 2, 3, 4, 5, 6, 7, 8, 11, 15, 16, 19, 25, 26, 27, 31, 32] : List Nat) → y_fi G a0 k = z0 k) ∧ (0 ≤ w18.toInt ∧ w18.toInt ≤ 16) ∧ (0 ≤ x1.toInt ∧ x1.toInt ≤ 63) ∧ (y_NG f1 (y_at G (A 20))) ∧ (y_CP f4 (y_at G (A 23))) ∧ n = (17 - w18.toInt).toNat) _ ⟨F8, _, 0, rfl, lv_sub hl [1, 2, 0] rfl, hP, hS, hI, hfr, (fun k hk => (y_fiZ oY14 (s_sub (by decide) hk)).trans (hz0 k hk)), (by decide), ⟨by omega, by omega⟩, (by rw [y_atE o13]; exact hNG), (by rw [y_atE o16]; exact h10), rfl⟩ (fun n ih6 g H locs hq => ?_)
  obtain ⟨F24, ls, w18, rfl, hl, hP, hS, hI, hfr, hz0, h20, h21, h22, h23, hn⟩ := hq
  have o25 : F24 (A 13) = .inl (cs 0, 400, .inl f1) := (hfr _ (by rw [(y_k13 hA)]; decide)).trans o2
  have oY26 : F24 a0 = .inr (7, y_fl A z0 q0) := (hfr _ (by rw [ha0]; decide)).trans oY0
  have hz0 : ∀ k, k ∈ ([1, 2, 3, 4, 5, 6, 7, 8, 11, 15, 16, 19, 25, 26, 27, 31, 32] : List Nat) → z0 k = z0 k := fun _ _ => rfl
  obtain ⟨f27, o28, b29⟩ := y_op20 hI
  have h22 : (y_NG f1 f27) := by have q9 := h22; rw [y_atE o28] at q9; exact q9
  obtain ⟨f30, o31, b32⟩ := y_op23 hI
  have h23 : (y_CP f4 f30) := by have q9 := h23; rw [y_atE o31] at q9; exact q9
  have hn_32 := hn
  refine lv_iload_n hx hb dX7_laysEnds_6 rfl (lv_at hl 2 rfl) ?_
  refine lv_bipush (v := 16) hx hb dX7_laysEnds_7 (by decide) ?_
  refine lv_icmp_ge (tgt := 43) hx hb dX7_laysEnds_9 (by decide) (fun c33 => ?_) (fun c33 => ?_)
  · have c33 := (ax_ge (n := 16) (by decide)).mp c33
    refine lv_aload_n hx hb dX7_laysEnds_43 rfl (lv_at hl 0 rfl) ?_
    refine va_callv (va_runV (As := []) (rest := []) ⟨hx, hb, hml, hown, hts⟩ (y_X7_takesBack l dC dI H.size hLK A hA F24 a0 ha0 hI) (cwV 0 hts (ax_gV T_1049 T_1051 T_1052 T_265 T_1050) rfl rfl rfl (by decide +kernel) ⟨Nat.le_of_ble_eq_true rfl, Nat.le_of_ble_eq_true rfl⟩) ⟨fun a U g mk q => ⟨q.1, s_pc (U := U) rfl rfl q.2⟩, s_recv hK hP (hLK _ ha0 (by decide)) (ci := 7) rfl oY26, fun U hU hW => ⟨rfl, s_pw hU hW hP hK hD hN⟩⟩ rfl rfl hl.1 rfl (lv_room (Nat.le_of_ble_eq_true rfl)) dX7_laysEnds_44 ⟨Nat.zero_le _, Nat.zero_le _⟩) hS (fun q _ h => h) (fun q h => h) (fun F35 t H1 locs ht hvm hw hB hz1 hk1 hS => ?_)
    obtain ⟨hP, hK1⟩ := hB
    rw [ht] at hP
    generalize H1 = H at hP hS ⊢
    clear hz1 hk1 hvm hK1
    obtain ⟨h36, h38, hI, hfr1, hzf, h37⟩ := hw
    have o39 : F35 (A 13) = .inl (cs 0, 400, .inl f1) := (hfr1 _ (by rw [(y_k13 hA)]; decide)).trans o25
    have o40 : F35 (A 23) = .inl (cs 0, 918, .inl f30) := (hfr1 _ (by rw [(y_k23 hA)]; decide)).trans o31
    have oY41 : F35 a0 = .inr (7, y_fl A z0 q0) := (hfr1 _ (by rw [ha0]; decide)).trans oY26
    have hfr : ∀ b, K b ∉ [70, 71, 72, 73, 79] → F35 b = F b := fun b hb9 => (hfr1 b (fun q => hb9 (s_sub (by decide) q))).trans (hfr b hb9)
    obtain ⟨f42, o43, b44⟩ := y_op20 hI
    have h37 : (y_CP f30 f42) := by have q9 := h37; rw [y_atE o31, y_atE o43] at q9; exact q9
    exact W.vret hx hb hr (fun t ht hW => ⟨⟨F35, rfl, ⟨trivial, trivial, hI, hfr, fun k hk => (y_fiZ oY41 (s_sub (by decide) hk)).trans ((hz0 k hk).trans (y_fiZ oY0 (s_sub (by decide) hk)).symm), (by rw [y_atE o5, y_atE o43]; exact (y_CP_t h23 h37))⟩, by rw [ht]; exact hP, va_K.moved hW.alike hK⟩, hS.F ht⟩) hS.2.2 dX7_laysEnds_47
  · have c33 := mt (ax_ge (n := 16) (by decide)).mpr c33
    refine lv_aload_n hx hb dX7_laysEnds_12 rfl (lv_at hl 0 rfl) ?_
    refine lv_iconst (v := (-1)) hx hb dX7_laysEnds_13 (by decide) ?_
    refine va_callv (va_runV (As := [.int (-1)]) (rest := []) ⟨hx, hb, hml, hown, hts⟩ (y_X7_begins l dC dI H.size hLK A hA F24 a0 (-1) ha0 (by decide) hI (by rw [y_atE o25]; exact hPG) (by rw [y_atE o28]; exact ⟨h22.1, h22.2.1⟩)) (cwV 1 hts (ax_gV T_1017 T_1019 T_1020 T_265 T_1018) rfl rfl rfl (by decide +kernel) ⟨Nat.le_of_ble_eq_true rfl, Nat.le_of_ble_eq_true rfl⟩) ⟨fun a U g mk q => ⟨q.1, s_pc (U := U) rfl rfl q.2⟩, s_recv hK hP (hLK _ ha0 (by decide)) (ci := 7) rfl oY26, fun U hU hW => ⟨rfl, s_pw hU hW hP hK hD hN⟩⟩ rfl rfl hl.1 rfl (lv_room (Nat.le_of_ble_eq_true rfl)) dX7_laysEnds_14 ⟨Nat.zero_le _, Nat.zero_le _⟩) hS (fun q _ h => h) (fun q h => h) (fun F46 t H1 locs ht hvm hw hB hz1 hk1 hS => ?_)
    obtain ⟨hP, hK1⟩ := hB
    rw [ht] at hP
    generalize H1 = H at hP hS ⊢
    clear hz1 hk1 hvm hK1
    obtain ⟨h47, h49, hI, hfr1, hzf, h48⟩ := hw
    have o50 : F46 (A 13) = .inl (cs 0, 400, .inl f1) := (hfr1 _ (by rw [(y_k13 hA)]; decide)).trans o25
    have o51 : F46 (A 23) = .inl (cs 0, 918, .inl f30) := (hfr1 _ (by rw [(y_k23 hA)]; decide)).trans o31
    have oY52 : F46 a0 = .inr (7, y_fl A z0 q0) := (hfr1 _ (by rw [ha0]; decide)).trans oY26
    have hfr : ∀ b, K b ∉ [70, 71, 72, 73, 79] → F46 b = F b := fun b hb9 => (hfr1 b (fun q => hb9 (s_sub (by decide) q))).trans (hfr b hb9)
    obtain ⟨f53, o54, b55⟩ := y_op20 hI
    have h48 : (y_NG f1 f53) := by have q9 := h48; rw [y_atE o25, y_atE o54] at q9; exact q9
    refine lv_aload_n hx hb dX7_laysEnds_17 rfl (lv_at hl 0 rfl) ?_
    refine th_get (D := (dC, dI)) (ci := 7) (v := .ref (A 20)) (C := RX7) (T := TX7) (N := 34) hx hb hts inX7 hown hK hP (hLK _ ha0 (by decide)) oY52 rfl 20 (by decide) (hts _ T_251) (fun _ h9 => h9) rfl dX7_laysEnds_18 ?_
    refine lv_bipush (v := 8) hx hb dX7_laysEnds_21 (by decide) ?_
    refine lv_iload_n hx hb dX7_laysEnds_23 rfl (lv_at hl 1 rfl) ?_
    refine lv_iadd hx hb dX7_laysEnds_24 ?_
    refine lv_topi (fun v56 ev56 => ?_)
    have qv56 : v56.toInt = 8 + x1.toInt := by rw [ev56]; exact th_add (by decide) rfl ⟨by omega, by omega⟩
    refine lv_iload_n hx hb dX7_laysEnds_25 rfl (lv_at hl 2 rfl) ?_
    refine th_iast hx hb hK hP hD hS (hLK _ (y_k20 hA) (by decide)) 0 o54 rfl (th_in ⟨by omega, by omega⟩) dX7_laysEnds_26 (fun H locs hP hS => ?_)
    obtain ⟨f57, u58⟩ : ∃ g : Nat → Int32, g = upd f53 (v56 : Int32).toNatClampNeg w18 := ⟨_, rfl⟩
    rw [← u58] at hP
    have b59 : y_bd 20 f57 := trivial
    have hP : va_P (dC, dI) vwCl (va_pl L (va_up F46 (A 20) (.inl (cs 0, 918, .inl f57)))) H := hP
    obtain ⟨F60, hF61⟩ : ∃ G : Nat → va_E, G = va_up F46 (A 20) (.inl (cs 0, 918, .inl f57)) := ⟨_, rfl⟩
    rw [← hF61] at hP
    have hI : y_I K cs A F60 := by rw [hF61]; exact y_clA (i := 20) hA hI (by decide) b59
    have hfr : ∀ b, K b ∉ [70, 71, 72, 73, 79] → F60 b = F b := by rw [hF61]; exact s_fr hfr (y_k20 hA) (by decide)
    have o62 : F60 (A 13) = .inl (cs 0, 400, .inl f1) := by rw [hF61]; exact th_ne (th_kd (y_k13 hA) (y_k20 hA) (by decide)) o50
    have o63 : F60 (A 23) = .inl (cs 0, 918, .inl f30) := by rw [hF61]; exact th_ne (th_kd (y_k23 hA) (y_k20 hA) (by decide)) o51
    have oY64 : F60 a0 = .inr (7, y_fl A z0 q0) := by rw [hF61]; exact th_ne (th_kd ha0 (y_k20 hA) (by decide)) oY52
    have o65 : F60 (A 20) = .inl (cs 0, 918, .inl f57) := by rw [hF61]; exact th_up
    have u66 : ∀ j : Int, 0 ≤ j → y_c f57 j = if j = v56.toInt then w18 else y_c f53 j := by rw [u58]; exact y_cu rfl (by omega)
    have k67 : y_NG f1 f57 := y_NGe (y_E_u u66 (by omega)) h48 (by rw [u66 6 (by omega), if_neg (by omega)]; exact h48.2.2.1) (by rw [u66 7 (by omega), if_neg (by omega)]; exact h48.2.2.2.1) (by omega)
    refine lv_aload_n hx hb dX7_laysEnds_27 rfl (lv_at hl 0 rfl) ?_
    refine th_get (D := (dC, dI)) (ci := 7) (v := .ref (A 29)) (C := RX7) (T := TX7) (N := 34) hx hb hts inX7 hown hK hP (hLK _ ha0 (by decide)) oY64 rfl 29 (by decide) (hts _ T_258) (fun _ h9 => h9) rfl dX7_laysEnds_28 ?_
    refine lv_iload_n hx hb dX7_laysEnds_31 rfl (lv_at hl 2 rfl) ?_
    refine lv_aload_n hx hb dX7_laysEnds_32 rfl (lv_at hl 0 rfl) ?_
    refine va_calli (va_runV (As := []) (rest := [.int w18, .ref (A 29)]) ⟨hx, hb, hml, hown, hts⟩ (y_X7_endsBehind l dC dI H.size hLK A hA F60 a0 ha0 hI (by rw [y_atE o62]; exact hPG) (by rw [y_atE o62, y_atE o65]; exact k67)) (cwV 0 hts (ax_gV T_1200 T_1202 T_1203 T_265 T_1201) rfl rfl rfl (by decide +kernel) ⟨Nat.le_of_ble_eq_true rfl, Nat.le_of_ble_eq_true rfl⟩) ⟨fun a U g mk q => ⟨q.1, s_pc (U := U) rfl rfl q.2⟩, s_recv hK hP (hLK _ ha0 (by decide)) (ci := 7) rfl oY64, fun U hU hW => ⟨rfl, s_pw hU hW hP hK hD hN⟩⟩ rfl rfl hl.1 rfl (lv_room (Nat.le_of_ble_eq_true rfl)) dX7_laysEnds_33 ⟨Nat.zero_le _, Nat.zero_le _⟩) hS (fun q _ h => h) (fun q h => h) (fun r69 F70 t H1 locs ht hvm hw hB hz1 hk1 hS => ?_)
    obtain ⟨hP, hK1⟩ := hB
    rw [ht] at hP
    generalize H1 = H at hP hS ⊢
    clear hz1 hk1 hvm hK1
    obtain ⟨h71, h73, hI, hfr1, hzf, h72⟩ := hw
    have o74 : F70 (A 13) = .inl (cs 0, 400, .inl f1) := (hfr1 _ (by rw [(y_k13 hA)]; decide)).trans o62
    have o75 : F70 (A 23) = .inl (cs 0, 918, .inl f30) := (hfr1 _ (by rw [(y_k23 hA)]; decide)).trans o63
    have oY76 : F70 a0 = .inr (7, y_fl A z0 q0) := (hfr1 _ (by rw [ha0]; decide)).trans oY64
    have hfr : ∀ b, K b ∉ [70, 71, 72, 73, 79] → F70 b = F b := fun b hb9 => (hfr1 b (fun q => hb9 (s_sub (by decide) q))).trans (hfr b hb9)
    obtain ⟨f77, o78, b79⟩ := y_op20 hI
    have h72 : (y_NG f1 f77) := by have q9 := h72; rw [y_atE o62, y_atE o78] at q9; exact q9
    obtain ⟨f80, o81, b82⟩ := y_op29 hI
    refine th_iast hx hb hK hP hD hS (hLK _ (y_k29 hA) (by decide)) 0 o81 rfl (th_in ⟨by omega, by omega⟩) dX7_laysEnds_36 (fun H locs hP hS => ?_)
    obtain ⟨f83, u84⟩ : ∃ g : Nat → Int32, g = upd f80 (w18 : Int32).toNatClampNeg r69 := ⟨_, rfl⟩
    rw [← u84] at hP
    have b85 : y_bd 29 f83 := trivial
    have hP : va_P (dC, dI) vwCl (va_pl L (va_up F70 (A 29) (.inl (cs 0, 16, .inl f83)))) H := hP
    obtain ⟨F86, hF87⟩ : ∃ G : Nat → va_E, G = va_up F70 (A 29) (.inl (cs 0, 16, .inl f83)) := ⟨_, rfl⟩
    rw [← hF87] at hP
    have hI : y_I K cs A F86 := by rw [hF87]; exact y_clA (i := 29) hA hI (by decide) b85
    have hfr : ∀ b, K b ∉ [70, 71, 72, 73, 79] → F86 b = F b := by rw [hF87]; exact s_fr hfr (y_k29 hA) (by decide)
    have o88 : F86 (A 13) = .inl (cs 0, 400, .inl f1) := by rw [hF87]; exact th_ne (th_kd (y_k13 hA) (y_k29 hA) (by decide)) o74
    have o89 : F86 (A 23) = .inl (cs 0, 918, .inl f30) := by rw [hF87]; exact th_ne (th_kd (y_k23 hA) (y_k29 hA) (by decide)) o75
    have o90 : F86 (A 20) = .inl (cs 0, 918, .inl f77) := by rw [hF87]; exact th_ne (th_kd (y_k20 hA) (y_k29 hA) (by decide)) o78
    have oY91 : F86 a0 = .inr (7, y_fl A z0 q0) := by rw [hF87]; exact th_ne (th_kd ha0 (y_k29 hA) (by decide)) oY76
    have o92 : F86 (A 29) = .inl (cs 0, 16, .inl f83) := by rw [hF87]; exact th_up
    have u93 : ∀ j : Int, 0 ≤ j → y_c f83 j = if j = w18.toInt then r69 else y_c f80 j := by rw [u84]; exact y_cu rfl (by omega)
    obtain ⟨v94, ev94⟩ : ∃ y : Int32, w18 + 1 = y := ⟨_, rfl⟩
    have qv94 : v94.toInt = w18.toInt + 1 := by rw [← ev94]; exact th_add rfl (by decide) ⟨by omega, by omega⟩
    refine lv_iinc (v := v94) (lv' := [(2, .int v94), (0, .ref a0), (1, .int x1)]) hx hb dX7_laysEnds_37 hl (k := 2) rfl ev94 (by decide) rfl (fun ls hl => ?_)
    refine lv_goto (tgt := 6) hx hb dX7_laysEnds_40 (by decide) ?_
    exact ih6 _ _ _ _ (by omega) ⟨F86, _, v94, rfl, lv_sub hl [1, 2, 0] rfl, hP, hS, hI, hfr, (fun k hk => (y_fiZ oY91 (s_sub (by decide) hk)).trans (hz0 k hk)), ⟨by omega, by omega⟩, ⟨by omega, by omega⟩, (by rw [y_atE o90]; exact h72), (by rw [y_atE o89]; exact h23), rfl⟩

set_option maxHeartbeats 4000000 in
set_option maxRecDepth 100000 in
theorem yt_X7_likely (l : Launch) (dC : Nat → ClassId) (dI : Nat → Nat → Nat) (sz : Nat) {L : List Nat} {K : Nat → Nat} {cs : Nat → ClassId} (hLK : ∀ a {k : Nat}, K a = k → k ≠ 0 → a ∈ L) (A : Nat → Nat) (hA : y_A K A) (F : Nat → va_E) (a0 : Nat) (x1 : Int32) (x2 : Int32) (x3 : Int32) (ha0 : K a0 = 9) (hI : y_I K cs A F) (hT : y_T (y_fi F a0 15) (y_at F (A 13)) (y_at F (A 20)) (y_at F (A 30)) (y_fi F a0 31) (y_fi F a0 32)) : Met l yX7_likely (Cond.code yX7_likely cX7_likely 6 (some .int) :: T0) ({ frames := 10, cells := 0, slots := 0, locals := 231 }) (va_Pc [.ref a0, .int x1, .int x2, .int x3] (s_W dC dI sz L F [(cs 0, .int), (cs 1, .byte), (cs 2, .long), (cs 3, .object RX5), (cs 4, .object RX4), (cs 5, .array .int), (cs 6, .char), (cs 7, .boolean)])) (va_Qi (fun (r : Int32) (G : Nat → va_E) => True ∧ True ∧ y_I K cs A G ∧ (∀ b, K b ∉ [70, 71, 72, 73, 79] → G b = F b) ∧ (∀ k, k ∈ ([1, 2, 3, 4, 5, 6, 7, 8, 11, 15, 16, 19, 25, 26, 27, 31, 32] : List Nat) → y_fi G a0 k = y_fi F a0 k) ∧ (y_T (y_fi G a0 15) (y_at G (A 13)) (y_at G (A 20)) (y_at G (A 30)) (y_fi G a0 31) (y_fi G a0 32))) (fun (G : Nat → va_E) (t : State) => va_P (dC, dI) vwCl (va_pl L G) t.heap ∧ va_K (dC, dI) vwCl [(cs 0, .int), (cs 1, .byte), (cs 2, .long), (cs 3, .object RX5), (cs 4, .object RX4), (cs 5, .array .int), (cs 6, .char), (cs 7, .boolean)] t) (fun q => q ∈ L)) 0 0 (fun q => q ∈ L) := by
  refine Met.ofW (cc := cX7_likely) (maxL := 6) (ret := (some .int)) (by decide) rfl ?_
  intro p e s m args below meth c s₁ B hml hv
  obtain ⟨rfl, hsz, hP, hK, hD, hN⟩ := hv
  have hx := B.exec
  have hb := B.bytes
  have hr := B.returns
  have hts : ∀ w ∈ T0, w.before _ s = true := fun w h => atoms_spec (ws := Cond.code yX7_likely cX7_likely 6 (some .int) :: T0) B.pre w (List.mem_cons_of_mem _ h)
  have hown : s.vm.findClass RX7 = some m.cls := findClass_of_methodNamed B.named
  have hlocks := B.notSynchronized
  have hS : va_S (fun q => q ∈ L) s.heap s.heap [] := va_S.rf
  have hfr : ∀ b, K b ∉ [70, 71, 72, 73, 79] → F b = F b := fun _ _ => rfl
  have hl := lv_entry ([.ref a0, .int x1, .int x2, .int x3]) (n := 6) (Nat.le_of_ble_eq_true rfl)
  rw [lg_entry_eq]
  generalize (lg_sl ([.ref a0, .int x1, .int x2, .int x3]) ++ List.replicate (6 - (lg_sl ([.ref a0, .int x1, .int x2, .int x3])).length) Slot.unset).toArray = ls at hl ⊢
  have hl : lv_has ls 6 [(0, .ref a0), (1, .int x1), (2, .int x2), (3, .int x3)] := hl
  refine s_gen hP hS (fun H locs hP hS => ?_)
  obtain ⟨z0, q0, oY0, bz0, bq0⟩ := y_opY hI ha0
  have hz0 : ∀ k, k ∈ ([1, 2, 3, 4, 5, 6, 7, 8, 11, 15, 16, 19, 25, 26, 27, 31, 32] : List Nat) → z0 k = z0 k := fun _ _ => rfl
  obtain ⟨f1, o2, b3⟩ := y_op13 hI
  obtain ⟨f4, o5, b6⟩ := y_op20 hI
  obtain ⟨f7, o8, b9⟩ := y_op30 hI
  obtain ⟨v10, ev10⟩ : ∃ y : Int32, y = z0 15 := ⟨_, rfl⟩
  have qv10 : 0 ≤ v10.toInt ∧ v10.toInt ≤ 1 := by rw [ev10]; exact y_bY15 bz0
  have eF_15 := ev10
  obtain ⟨v11, ev11⟩ : ∃ y : Int32, y = z0 31 := ⟨_, rfl⟩
  have qv11 : 0 ≤ v11.toInt ∧ v11.toInt ≤ 20 := by rw [ev11]; exact y_bY31 bz0
  have eF_31 := ev11
  obtain ⟨v12, ev12⟩ : ∃ y : Int32, y = z0 32 := ⟨_, rfl⟩
  have qv12 : 0 ≤ v12.toInt ∧ v12.toInt ≤ 19 := by rw [ev12]; exact y_bY32 bz0
  have eF_32 := ev12
  have hT : y_T v10 f1 f4 f7 v11 v12 := by have q9 := hT; rw [y_fiZ oY0 (k := 15) (by decide), ← ev10, y_atE o2, y_atE o5, y_atE o8, y_fiZ oY0 (k := 31) (by decide), ← ev11, y_fiZ oY0 (k := 32) (by decide), ← ev12] at q9; exact q9
  have e0_v10 := ev10
  have e0_v11 := ev11
  have e0_v12 := ev12
  refine lv_aload_n hx hb dX7_likely_0 rfl (lv_at hl 0 rfl) ?_
  refine th_get (D := (dC, dI)) (ci := 7) (v := .int (z0 15)) (C := RX7) (T := TX7) (N := 34) hx hb hts inX7 hown hK hP (hLK _ ha0 (by decide)) oY0 rfl 15 (by decide) (hts _ T_271) (fun _ h9 => h9) rfl dX7_likely_1 ?_
  refine ax_eqi (y := v10) ev10.symm ?_
  refine lv_if_eq (tgt := 36) hx hb dX7_likely_4 (by decide) (fun c13 => ?_) (fun c13 => ?_)
  · have c13 := (ax_eq (n := 0) (by decide)).mp c13
    refine lv_iconst (v := (-1)) hx hb dX7_likely_36 (by decide) ?_
    have h14 : ((-1) : Int32).toInt = (-1) := by decide
    exact W.iret (v := (-1)) hx hb hr (fun t ht hW => ⟨⟨(-1), F, rfl, ⟨trivial, trivial, hI, hfr, fun k hk => (y_fiZ oY0 (s_sub (by decide) hk)).trans ((hz0 k hk).trans (y_fiZ oY0 (s_sub (by decide) hk)).symm), (by rw [y_fiZ oY0 (k := 15) (by decide), ← ev10, y_atE o2, y_atE o5, y_atE o8, y_fiZ oY0 (k := 31) (by decide), ← ev11, y_fiZ oY0 (k := 32) (by decide), ← ev12]; exact hT)⟩, by rw [ht]; exact hP, va_K.moved hW.alike hK⟩, hS.F ht⟩) hS.2.2 dX7_likely_37
  · have c13 := mt (ax_eq (n := 0) (by decide)).mpr c13
    obtain ⟨htd, hPG, hNG, hUG⟩ := y_TT hT (by omega)
    have hL := y_P0L hPG.1
    have hW := y_P0W hPG.1
    have hnn := And.intro hNG.1 (And.intro hNG.2.1 (And.intro hNG.2.2.1 hNG.2.2.2.1))
    refine lv_iload_n hx hb dX7_likely_7 rfl (lv_at hl 1 rfl) ?_
    refine lv_i2l hx hb dX7_likely_8 rfl ?_
    refine lv_topl (fun v15 ev15 => ?_)
    have qv15 : v15.toInt = x1.toInt := y_i2l ev15
    refine lv_lconst (v := 0) hx hb dX7_likely_9 (by decide) ?_
    refine lv_ldc2 hx hb hown (hts _ T_1243) dX7_likely_10 ?_
    refine va_calli (va_runS (As := [.long v15, .long 0, .long 63]) (rest := []) ⟨hx, hb, hml, hown, hts⟩ (y_X7_isIn l dC dI H.size F v15 0 63) (cwS 3 hts (ax_gS T_267 T_268 T_265 T_21) rfl rfl rfl (by decide +kernel) ⟨Nat.le_of_ble_eq_true rfl, Nat.le_of_ble_eq_true rfl⟩) ⟨fun a U g mk q => ⟨q.1, s_pc (U := U) rfl rfl q.2⟩, fun U hU hW => ⟨rfl, s_pw hU hW hP hK hD hN⟩⟩ rfl rfl hl.1 rfl (lv_room (Nat.le_of_ble_eq_true rfl)) dX7_likely_13 ⟨Nat.zero_le _, Nat.zero_le _⟩) hS (fun q _ h => h) (fun q h => h) (fun r17 F18 t H1 locs ht hvm hw hB hz1 hk1 hS => ?_)
    obtain ⟨hP, hK1⟩ := hB
    rw [ht] at hP
    generalize H1 = H at hP hS ⊢
    clear hz1 hk1 hvm hK1
    obtain ⟨h19, h21, hG9, h20⟩ := hw
    rw [hG9] at hP
    have h20 : ((r17.toInt = 0 ∧ (v15.toInt < 0 ∨ 63 < v15.toInt)) ∨ (r17.toInt = 1 ∧ 0 ≤ v15.toInt ∧ v15.toInt ≤ 63)) := by have q9 := h20; exact q9
    refine lv_if_eq (tgt := 36) hx hb dX7_likely_16 (by decide) (fun c22 => ?_) (fun c22 => ?_)
    · have c22 := (ax_eq (n := 0) (by decide)).mp c22
      refine lv_iconst (v := (-1)) hx hb dX7_likely_36 (by decide) ?_
      have h23 : ((-1) : Int32).toInt = (-1) := by decide
      exact W.iret (v := (-1)) hx hb hr (fun t ht hW => ⟨⟨(-1), F, rfl, ⟨trivial, trivial, hI, hfr, fun k hk => (y_fiZ oY0 (s_sub (by decide) hk)).trans ((hz0 k hk).trans (y_fiZ oY0 (s_sub (by decide) hk)).symm), (by rw [y_fiZ oY0 (k := 15) (by decide), ← ev10, y_atE o2, y_atE o5, y_atE o8, y_fiZ oY0 (k := 31) (by decide), ← ev11, y_fiZ oY0 (k := 32) (by decide), ← ev12]; exact hT)⟩, by rw [ht]; exact hP, va_K.moved hW.alike hK⟩, hS.F ht⟩) hS.2.2 dX7_likely_37
    · have c22 := mt (ax_eq (n := 0) (by decide)).mpr c22
      refine lv_iload_n hx hb dX7_likely_19 rfl (lv_at hl 2 rfl) ?_
      refine lv_i2l hx hb dX7_likely_20 rfl ?_
      refine lv_topl (fun v24 ev24 => ?_)
      have qv24 : v24.toInt = x2.toInt := y_i2l ev24
      refine lv_lconst (v := 0) hx hb dX7_likely_21 (by decide) ?_
      refine lv_ldc2 hx hb hown (hts _ T_1094) dX7_likely_22 ?_
      refine va_calli (va_runS (As := [.long v24, .long 0, .long 400]) (rest := []) ⟨hx, hb, hml, hown, hts⟩ (y_X7_isIn l dC dI H.size F v24 0 400) (cwS 3 hts (ax_gS T_267 T_268 T_265 T_21) rfl rfl rfl (by decide +kernel) ⟨Nat.le_of_ble_eq_true rfl, Nat.le_of_ble_eq_true rfl⟩) ⟨fun a U g mk q => ⟨q.1, s_pc (U := U) rfl rfl q.2⟩, fun U hU hW => ⟨rfl, s_pw hU hW hP hK hD hN⟩⟩ rfl rfl hl.1 rfl (lv_room (Nat.le_of_ble_eq_true rfl)) dX7_likely_25 ⟨Nat.zero_le _, Nat.zero_le _⟩) hS (fun q _ h => h) (fun q h => h) (fun r26 F27 t H1 locs ht hvm hw hB hz1 hk1 hS => ?_)
      obtain ⟨hP, hK1⟩ := hB
      rw [ht] at hP
      generalize H1 = H at hP hS ⊢
      clear hz1 hk1 hvm hK1
      obtain ⟨h28, h30, hG9, h29⟩ := hw
      rw [hG9] at hP
      have h29 : ((r26.toInt = 0 ∧ (v24.toInt < 0 ∨ 400 < v24.toInt)) ∨ (r26.toInt = 1 ∧ 0 ≤ v24.toInt ∧ v24.toInt ≤ 400)) := by have q9 := h29; exact q9
      refine lv_if_eq (tgt := 36) hx hb dX7_likely_28 (by decide) (fun c31 => ?_) (fun c31 => ?_)
      · have c31 := (ax_eq (n := 0) (by decide)).mp c31
        refine lv_iconst (v := (-1)) hx hb dX7_likely_36 (by decide) ?_
        have h32 : ((-1) : Int32).toInt = (-1) := by decide
        exact W.iret (v := (-1)) hx hb hr (fun t ht hW => ⟨⟨(-1), F, rfl, ⟨trivial, trivial, hI, hfr, fun k hk => (y_fiZ oY0 (s_sub (by decide) hk)).trans ((hz0 k hk).trans (y_fiZ oY0 (s_sub (by decide) hk)).symm), (by rw [y_fiZ oY0 (k := 15) (by decide), ← ev10, y_atE o2, y_atE o5, y_atE o8, y_fiZ oY0 (k := 31) (by decide), ← ev11, y_fiZ oY0 (k := 32) (by decide), ← ev12]; exact hT)⟩, by rw [ht]; exact hP, va_K.moved hW.alike hK⟩, hS.F ht⟩) hS.2.2 dX7_likely_37
      · have c31 := mt (ax_eq (n := 0) (by decide)).mpr c31
        refine lv_iload_n hx hb dX7_likely_31 rfl (lv_at hl 3 rfl) ?_
        refine lv_iconst (v := (-1)) hx hb dX7_likely_32 (by decide) ?_
        refine lv_icmp_ge (tgt := 38) hx hb dX7_likely_33 (by decide) (fun c33 => ?_) (fun c33 => ?_)
        · have c33 := (ax_ge (n := (-1)) (by decide)).mp c33
          refine lv_aload_n hx hb dX7_likely_38 rfl (lv_at hl 0 rfl) ?_
          refine lv_iload_n hx hb dX7_likely_39 rfl (lv_at hl 1 rfl) ?_
          have rg34 : 0 ≤ x1.toInt ∧ x1.toInt ≤ 63 := ⟨by omega, by omega⟩
          refine va_callv (va_runV (As := [.int x1]) (rest := []) ⟨hx, hb, hml, hown, hts⟩ (y_X7_laysEnds l dC dI H.size hLK A hA F a0 x1 ha0 rg34 hI (by rw [y_atE o2]; exact hPG) (by rw [y_atE o2, y_atE o5]; exact hNG)) (cwV 1 hts (ax_gV T_1244 T_1246 T_1247 T_265 T_1245) rfl rfl rfl (by decide +kernel) ⟨Nat.le_of_ble_eq_true rfl, Nat.le_of_ble_eq_true rfl⟩) ⟨fun a U g mk q => ⟨q.1, s_pc (U := U) rfl rfl q.2⟩, s_recv hK hP (hLK _ ha0 (by decide)) (ci := 7) rfl oY0, fun U hU hW => ⟨rfl, s_pw hU hW hP hK hD hN⟩⟩ rfl rfl hl.1 rfl (lv_room (Nat.le_of_ble_eq_true rfl)) dX7_likely_40 ⟨Nat.zero_le _, Nat.zero_le _⟩) hS (fun q _ h => h) (fun q h => h) (fun F36 t H1 locs ht hvm hw hB hz1 hk1 hS => ?_)
          obtain ⟨hP, hK1⟩ := hB
          rw [ht] at hP
          generalize H1 = H at hP hS ⊢
          clear hz1 hk1 hvm hK1
          obtain ⟨h37, h39, hI, hfr1, hzf, h38⟩ := hw
          have o40 : F36 (A 13) = .inl (cs 0, 400, .inl f1) := (hfr1 _ (by rw [(y_k13 hA)]; decide)).trans o2
          have o41 : F36 (A 30) = .inl (cs 0, 18360, .inl f7) := (hfr1 _ (by rw [(y_k30 hA)]; decide)).trans o8
          have oY42 : F36 a0 = .inr (7, y_fl A z0 q0) := (hfr1 _ (by rw [ha0]; decide)).trans oY0
          have hfr : ∀ b, K b ∉ [70, 71, 72, 73, 79] → F36 b = F b := fun b hb9 => (hfr1 b (fun q => hb9 (s_sub (by decide) q))).trans (hfr b hb9)
          obtain ⟨f43, o44, b45⟩ := y_op20 hI
          have h38 : (y_CP f4 f43) := by have q9 := h38; rw [y_atE o5, y_atE o44] at q9; exact q9
          refine lv_iconst (v := 0) hx hb dX7_likely_43 (by decide) ?_
          refine lv_istore (lv' := [(4, .int 0), (0, .ref a0), (1, .int x1), (2, .int x2), (3, .int x3)]) hx hb dX7_likely_44 hl (by decide) rfl (fun ls hl => ?_)
          refine lv_iconst (v := 0) hx hb dX7_likely_46 (by decide) ?_
          refine lv_istore (lv' := [(5, .int 0), (4, .int 0), (0, .ref a0), (1, .int x1), (2, .int x2), (3, .int x3)]) hx hb dX7_likely_47 hl (by decide) rfl (fun ls hl => ?_)
          have h48 : (0 : Int32).toInt = 0 := by decide
          have h49 : (0 : Int32).toInt = 0 := by decide
          refine th_loop (fun n g H locs => ∃ (G : Nat → va_E) (ls : Array Slot) (w46 : Int32) (w47 : Int32), g = F0 m 49 ls [] ∧ lv_has ls 6 [(0, .ref a0), (2, .int x2), (3, .int x3), (4, .int w46), (5, .int w47)] ∧ va_P (dC, dI) vwCl (va_pl L G) H ∧ va_S (fun q => q ∈ L) s.heap H locs ∧ y_I K cs A G ∧ (∀ b, K b ∉ [70, 71, 72, 73, 79] → G b = F b) ∧ (∀ k, k ∈ ([1, 2, 3, 4, 5, 6, 7, 8, 11, 15, 16, 19, 25, 26, 27, 31, 32] : List Nat) → y_fi G a0 k = z0 k) ∧ True ∧ (0 ≤ w47.toInt ∧ w47.toInt ≤ 16) ∧ (-1 ≤ x3.toInt ∧ x3.toInt ≤ 2147483647) ∧ (y_CP f4 (y_at G (A 20))) ∧ n = (17 - w47.toInt).toNat) _ ⟨F36, _, 0, 0, rfl, lv_sub hl [2, 4, 5, 1, 0] rfl, hP, hS, hI, hfr, (fun k hk => (y_fiZ oY42 (s_sub (by decide) hk)).trans (hz0 k hk)), trivial, (by decide), ⟨by omega, by have q9 := th_hi x3; omega⟩, (by rw [y_atE o44]; exact h38), rfl⟩ (fun n ih49 g H locs hq => ?_)
          obtain ⟨F54, ls, w46, w47, rfl, hl, hP, hS, hI, hfr, hz0, h50, h51, h52, h53, hn⟩ := hq
          have o55 : F54 (A 13) = .inl (cs 0, 400, .inl f1) := (hfr _ (by rw [(y_k13 hA)]; decide)).trans o2
          have o56 : F54 (A 30) = .inl (cs 0, 18360, .inl f7) := (hfr _ (by rw [(y_k30 hA)]; decide)).trans o8
          have oY57 : F54 a0 = .inr (7, y_fl A z0 q0) := (hfr _ (by rw [ha0]; decide)).trans oY0
          have hz0 : ∀ k, k ∈ ([1, 2, 3, 4, 5, 6, 7, 8, 11, 15, 16, 19, 25, 26, 27, 31, 32] : List Nat) → z0 k = z0 k := fun _ _ => rfl
          obtain ⟨f58, o59, b60⟩ := y_op20 hI
          have h53 : (y_CP f4 f58) := by have q9 := h53; rw [y_atE o59] at q9; exact q9
          have hn_60 := hn
          refine th_join (fun g H locs => ∃ (G : Nat → va_E) (ls : Array Slot) (w61 : Int32), g = F0 m 82 ls [] ∧ lv_has ls 6 [(0, .ref a0), (2, .int x2), (3, .int x3), (4, .int w61), (5, .int w47)] ∧ va_P (dC, dI) vwCl (va_pl L G) H ∧ va_S (fun q => q ∈ L) s.heap H locs ∧ y_I K cs A G ∧ (∀ b, K b ∉ [70, 71, 72, 73, 79] → G b = F b) ∧ (∀ k, k ∈ ([1, 2, 3, 4, 5, 6, 7, 8, 11, 15, 16, 19, 25, 26, 27, 31, 32] : List Nat) → y_fi G a0 k = z0 k) ∧ True ∧ (-1 ≤ x3.toInt ∧ x3.toInt ≤ 2147483647) ∧ (0 ≤ w47.toInt ∧ w47.toInt ≤ 15) ∧ (y_CP f4 (y_at G (A 20)))) (fun K82 => ?_) ?_
          · refine lv_iload hx hb dX7_likely_49 (lv_at hl 4 rfl) ?_
            refine lv_bipush (v := 16) hx hb dX7_likely_51 (by decide) ?_
            refine lv_icmp_ge (tgt := 88) hx hb dX7_likely_53 (by decide) (fun c62 => ?_) (fun c62 => ?_)
            · have c62 := (ax_ge (n := 16) (by decide)).mp c62
              refine lv_iload_n hx hb dX7_likely_88 rfl (lv_at hl 2 rfl) ?_
              refine lv_iconst (v := (-1)) hx hb dX7_likely_89 (by decide) ?_
              refine lv_icmp_ne (tgt := 98) hx hb dX7_likely_90 (by decide) (fun c63 => ?_) (fun c63 => ?_)
              · have c63 := mt (ax_eq (n := (-1)) (by decide)).mpr c63
                refine lv_iconst (v := (-1)) hx hb dX7_likely_98 (by decide) ?_
                have h64 : ((-1) : Int32).toInt = (-1) := by decide
                exact W.iret (v := (-1)) hx hb hr (fun t ht hW => ⟨⟨(-1), F54, rfl, ⟨trivial, trivial, hI, hfr, fun k hk => (y_fiZ oY57 (s_sub (by decide) hk)).trans ((hz0 k hk).trans (y_fiZ oY0 (s_sub (by decide) hk)).symm), (by rw [y_fiZ oY57 (k := 15) (by decide), ← ev10, y_atE o55, y_atE o59, y_atE o56, y_fiZ oY57 (k := 31) (by decide), ← ev11, y_fiZ oY57 (k := 32) (by decide), ← ev12]; exact (y_Tc h53 hT))⟩, by rw [ht]; exact hP, va_K.moved hW.alike hK⟩, hS.F ht⟩) hS.2.2 dX7_likely_99
              · have c63 := (ax_eq (n := (-1)) (by decide)).mp c63
                refine lv_iload hx hb dX7_likely_93 (lv_at hl 3 rfl) ?_
                refine lv_goto (tgt := 99) hx hb dX7_likely_95 (by decide) ?_
                exact W.iret (v := w46) hx hb hr (fun t ht hW => ⟨⟨w46, F54, rfl, ⟨trivial, trivial, hI, hfr, fun k hk => (y_fiZ oY57 (s_sub (by decide) hk)).trans ((hz0 k hk).trans (y_fiZ oY0 (s_sub (by decide) hk)).symm), (by rw [y_fiZ oY57 (k := 15) (by decide), ← ev10, y_atE o55, y_atE o59, y_atE o56, y_fiZ oY57 (k := 31) (by decide), ← ev11, y_fiZ oY57 (k := 32) (by decide), ← ev12]; exact (y_Tc h53 hT))⟩, by rw [ht]; exact hP, va_K.moved hW.alike hK⟩, hS.F ht⟩) hS.2.2 dX7_likely_99
            · have c62 := mt (ax_ge (n := 16) (by decide)).mpr c62
              refine lv_aload_n hx hb dX7_likely_56 rfl (lv_at hl 0 rfl) ?_
              refine th_get (D := (dC, dI)) (ci := 7) (v := .ref (A 29)) (C := RX7) (T := TX7) (N := 34) hx hb hts inX7 hown hK hP (hLK _ ha0 (by decide)) oY57 rfl 29 (by decide) (hts _ T_258) (fun _ h9 => h9) rfl dX7_likely_57 ?_
              refine lv_iload hx hb dX7_likely_60 (lv_at hl 4 rfl) ?_
              obtain ⟨f65, o66, b67⟩ := y_op29 hI
              refine th_iald hx hb hK hP (hLK _ (y_k29 hA) (by decide)) 0 o66 rfl (th_in ⟨by omega, by omega⟩) dX7_likely_62 ?_
              refine lv_topi (fun v68 ev68 => ?_)
              refine lv_iload_n hx hb dX7_likely_63 rfl (lv_at hl 1 rfl) ?_
              refine lv_icmp_eq (tgt := 70) hx hb dX7_likely_64 (by decide) (fun c69 => ?_) (fun c69 => ?_)
              · have c69 := Int32.toInt_inj.symm.mp c69
                refine lv_iload hx hb dX7_likely_70 (lv_at hl 3 rfl) ?_
                refine lv_iload_n hx hb dX7_likely_72 rfl (lv_at hl 2 rfl) ?_
                refine lv_icmp_ne (tgt := 79) hx hb dX7_likely_73 (by decide) (fun c70 => ?_) (fun c70 => ?_)
                · have c70 := mt Int32.toInt_inj.symm.mpr c70
                  obtain ⟨v71, ev71⟩ : ∃ y : Int32, w46 + 1 = y := ⟨_, rfl⟩
                  refine lv_iinc (v := v71) (lv' := [(4, .int v71), (0, .ref a0), (2, .int x2), (3, .int x3), (5, .int w47)]) hx hb dX7_likely_79 hl (k := 3) rfl ev71 (by decide) rfl (fun ls hl => ?_)
                  exact K82 _ _ _ ⟨F54, _, v71, rfl, lv_sub hl [1, 2, 3, 0, 4] rfl, hP, hS, hI, hfr, (fun k hk => (y_fiZ oY57 (s_sub (by decide) hk)).trans (hz0 k hk)), trivial, ⟨by omega, by have q9 := th_hi x3; omega⟩, ⟨by omega, by omega⟩, (by rw [y_atE o59]; exact h53)⟩
                · have c70 := Int32.toInt_inj.symm.mp c70
                  refine lv_iload hx hb dX7_likely_76 (lv_at hl 4 rfl) ?_
                  exact W.iret (v := w47) hx hb hr (fun t ht hW => ⟨⟨w47, F54, rfl, ⟨trivial, trivial, hI, hfr, fun k hk => (y_fiZ oY57 (s_sub (by decide) hk)).trans ((hz0 k hk).trans (y_fiZ oY0 (s_sub (by decide) hk)).symm), (by rw [y_fiZ oY57 (k := 15) (by decide), ← ev10, y_atE o55, y_atE o59, y_atE o56, y_fiZ oY57 (k := 31) (by decide), ← ev11, y_fiZ oY57 (k := 32) (by decide), ← ev12]; exact (y_Tc h53 hT))⟩, by rw [ht]; exact hP, va_K.moved hW.alike hK⟩, hS.F ht⟩) hS.2.2 dX7_likely_78
              · have c69 := mt Int32.toInt_inj.symm.mpr c69
                refine lv_goto (tgt := 82) hx hb dX7_likely_67 (by decide) ?_
                exact K82 _ _ _ ⟨F54, _, w46, rfl, lv_sub hl [0, 1, 2, 3, 4] rfl, hP, hS, hI, hfr, (fun k hk => (y_fiZ oY57 (s_sub (by decide) hk)).trans (hz0 k hk)), trivial, ⟨by omega, by have q9 := th_hi x3; omega⟩, ⟨by omega, by omega⟩, (by rw [y_atE o59]; exact h53)⟩
          · intro g H locs hq
            obtain ⟨F76, ls, w61, rfl, hl, hP, hS, hI, hfr, hz0, h72, h73, h74, h75⟩ := hq
            have o77 : F76 (A 13) = .inl (cs 0, 400, .inl f1) := (hfr _ (by rw [(y_k13 hA)]; decide)).trans o2
            have o78 : F76 (A 30) = .inl (cs 0, 18360, .inl f7) := (hfr _ (by rw [(y_k30 hA)]; decide)).trans o8
            have oY79 : F76 a0 = .inr (7, y_fl A z0 q0) := (hfr _ (by rw [ha0]; decide)).trans oY0
            have hz0 : ∀ k, k ∈ ([1, 2, 3, 4, 5, 6, 7, 8, 11, 15, 16, 19, 25, 26, 27, 31, 32] : List Nat) → z0 k = z0 k := fun _ _ => rfl
            obtain ⟨f80, o81, b82⟩ := y_op20 hI
            have h75 : (y_CP f4 f80) := by have q9 := h75; rw [y_atE o81] at q9; exact q9
            obtain ⟨v83, ev83⟩ : ∃ y : Int32, w47 + 1 = y := ⟨_, rfl⟩
            have qv83 : v83.toInt = w47.toInt + 1 := by rw [← ev83]; exact th_add rfl (by decide) ⟨by omega, by omega⟩
            refine lv_iinc (v := v83) (lv' := [(5, .int v83), (0, .ref a0), (2, .int x2), (3, .int x3), (4, .int w61)]) hx hb dX7_likely_82 hl (k := 4) rfl ev83 (by decide) rfl (fun ls hl => ?_)
            refine lv_goto (tgt := 49) hx hb dX7_likely_85 (by decide) ?_
            exact ih49 _ _ _ _ (by omega) ⟨F76, _, w61, v83, rfl, lv_sub hl [1, 2, 3, 4, 0] rfl, hP, hS, hI, hfr, (fun k hk => (y_fiZ oY79 (s_sub (by decide) hk)).trans (hz0 k hk)), trivial, ⟨by omega, by omega⟩, ⟨by omega, by have q9 := th_hi x3; omega⟩, (by rw [y_atE o81]; exact h75), rfl⟩
        · have c33 := mt (ax_ge (n := (-1)) (by decide)).mpr c33
          refine lv_iconst (v := (-1)) hx hb dX7_likely_36 (by decide) ?_
          have h84 : ((-1) : Int32).toInt = (-1) := by decide
          exact W.iret (v := (-1)) hx hb hr (fun t ht hW => ⟨⟨(-1), F, rfl, ⟨trivial, trivial, hI, hfr, fun k hk => (y_fiZ oY0 (s_sub (by decide) hk)).trans ((hz0 k hk).trans (y_fiZ oY0 (s_sub (by decide) hk)).symm), (by rw [y_fiZ oY0 (k := 15) (by decide), ← ev10, y_atE o2, y_atE o5, y_atE o8, y_fiZ oY0 (k := 31) (by decide), ← ev11, y_fiZ oY0 (k := 32) (by decide), ← ev12]; exact hT)⟩, by rw [ht]; exact hP, va_K.moved hW.alike hK⟩, hS.F ht⟩) hS.2.2 dX7_likely_37

set_option maxHeartbeats 4000000 in
set_option maxRecDepth 100000 in
theorem yt_X7_unlike (l : Launch) (dC : Nat → ClassId) (dI : Nat → Nat → Nat) (sz : Nat) {L : List Nat} {K : Nat → Nat} {cs : Nat → ClassId} (hLK : ∀ a {k : Nat}, K a = k → k ≠ 0 → a ∈ L) (A : Nat → Nat) (hA : y_A K A) (F : Nat → va_E) (a0 : Nat) (ha0 : K a0 = 9) (hI : y_I K cs A F) : Met l yX7_unlike (Cond.code yX7_unlike cX7_unlike 5 (some .int) :: T0) ({ frames := 1, cells := 0, slots := 0, locals := 20 }) (va_Pc [.ref a0] (s_W dC dI sz L F [(cs 0, .int), (cs 1, .byte), (cs 2, .long), (cs 3, .object RX5), (cs 4, .object RX4), (cs 5, .array .int), (cs 6, .char), (cs 7, .boolean)])) (va_Qi (fun (r : Int32) (G : Nat → va_E) => True ∧ True ∧ y_I K cs A G ∧ (∀ b, K b ∉ ([] : List Nat) → G b = F b) ∧ (∀ k, k ∈ ([1, 2, 3, 4, 5, 6, 7, 8, 11, 15, 16, 19, 25, 26, 27, 31, 32] : List Nat) → y_fi G a0 k = y_fi F a0 k) ∧ True) (fun (G : Nat → va_E) (t : State) => va_P (dC, dI) vwCl (va_pl L G) t.heap ∧ va_K (dC, dI) vwCl [(cs 0, .int), (cs 1, .byte), (cs 2, .long), (cs 3, .object RX5), (cs 4, .object RX4), (cs 5, .array .int), (cs 6, .char), (cs 7, .boolean)] t) (fun q => q ∈ L)) 0 0 (fun q => q ∈ L) := by
  refine Met.ofW (cc := cX7_unlike) (maxL := 5) (ret := (some .int)) (by decide) rfl ?_
  intro p e s m args below meth c s₁ B hml hv
  obtain ⟨rfl, hsz, hP, hK, hD, hN⟩ := hv
  have hx := B.exec
  have hb := B.bytes
  have hr := B.returns
  have hts : ∀ w ∈ T0, w.before _ s = true := fun w h => atoms_spec (ws := Cond.code yX7_unlike cX7_unlike 5 (some .int) :: T0) B.pre w (List.mem_cons_of_mem _ h)
  have hown : s.vm.findClass RX7 = some m.cls := findClass_of_methodNamed B.named
  have hlocks := B.notSynchronized
  have hS : va_S (fun q => q ∈ L) s.heap s.heap [] := va_S.rf
  have hfr : ∀ b, K b ∉ ([] : List Nat) → F b = F b := fun _ _ => rfl
  have hl := lv_entry ([.ref a0]) (n := 5) (Nat.le_of_ble_eq_true rfl)
  rw [lg_entry_eq]
  generalize (lg_sl ([.ref a0]) ++ List.replicate (5 - (lg_sl ([.ref a0])).length) Slot.unset).toArray = ls at hl ⊢
  have hl : lv_has ls 5 [(0, .ref a0)] := hl
  refine s_gen hP hS (fun H locs hP hS => ?_)
  obtain ⟨z0, q0, oY0, bz0, bq0⟩ := y_opY hI ha0
  have hz0 : ∀ k, k ∈ ([1, 2, 3, 4, 5, 6, 7, 8, 11, 15, 16, 19, 25, 26, 27, 31, 32] : List Nat) → z0 k = z0 k := fun _ _ => rfl
  refine lv_iconst (v := 0) hx hb dX7_unlike_0 (by decide) ?_
  refine lv_istore_n (lv' := [(1, .int 0), (0, .ref a0)]) hx hb dX7_unlike_1 rfl hl (by decide) rfl (fun ls hl => ?_)
  refine lv_iconst (v := 0) hx hb dX7_unlike_2 (by decide) ?_
  refine lv_istore_n (lv' := [(2, .int 0), (1, .int 0), (0, .ref a0)]) hx hb dX7_unlike_3 rfl hl (by decide) rfl (fun ls hl => ?_)
  have h3 : (0 : Int32).toInt = 0 := by decide
  have h4 : (0 : Int32).toInt = 0 := by decide
  refine th_loop (fun n g H locs => ∃ (G : Nat → va_E) (ls : Array Slot) (w1 : Int32) (w2 : Int32), g = F0 m 4 ls [] ∧ lv_has ls 5 [(0, .ref a0), (1, .int w1), (2, .int w2)] ∧ va_P (dC, dI) vwCl (va_pl L G) H ∧ va_S (fun q => q ∈ L) s.heap H locs ∧ y_I K cs A G ∧ (∀ b, K b ∉ ([] : List Nat) → G b = F b) ∧ (∀ k, k ∈ ([1, 2, 3, 4, 5, 6, 7, 8, 11, 15, 16, 19, 25, 26, 27, 31, 32] : List Nat) → y_fi G a0 k = z0 k) ∧ True ∧ (0 ≤ w2.toInt ∧ w2.toInt ≤ 16) ∧ n = (17 - w2.toInt).toNat) _ ⟨F, _, 0, 0, rfl, lv_sub hl [2, 1, 0] rfl, hP, hS, hI, hfr, (fun k hk => (y_fiZ oY0 (s_sub (by decide) hk)).trans (hz0 k hk)), trivial, (by decide), rfl⟩ (fun n ih4 g H locs hq => ?_)
  obtain ⟨F7, ls, w1, w2, rfl, hl, hP, hS, hI, hfr, hz0, h5, h6, hn⟩ := hq
  have oY8 : F7 a0 = .inr (7, y_fl A z0 q0) := (hfr _ (by rw [ha0]; decide)).trans oY0
  have hz0 : ∀ k, k ∈ ([1, 2, 3, 4, 5, 6, 7, 8, 11, 15, 16, 19, 25, 26, 27, 31, 32] : List Nat) → z0 k = z0 k := fun _ _ => rfl
  have hn_8 := hn
  refine lv_iload_n hx hb dX7_unlike_4 rfl (lv_at hl 2 rfl) ?_
  refine lv_bipush (v := 16) hx hb dX7_unlike_5 (by decide) ?_
  refine lv_icmp_ge (tgt := 58) hx hb dX7_unlike_7 (by decide) (fun c9 => ?_) (fun c9 => ?_)
  · have c9 := (ax_ge (n := 16) (by decide)).mp c9
    refine lv_iload_n hx hb dX7_unlike_58 rfl (lv_at hl 1 rfl) ?_
    exact W.iret (v := w1) hx hb hr (fun t ht hW => ⟨⟨w1, F7, rfl, ⟨trivial, trivial, hI, hfr, fun k hk => (y_fiZ oY8 (s_sub (by decide) hk)).trans ((hz0 k hk).trans (y_fiZ oY0 (s_sub (by decide) hk)).symm), trivial⟩, by rw [ht]; exact hP, va_K.moved hW.alike hK⟩, hS.F ht⟩) hS.2.2 dX7_unlike_59
  · have c9 := mt (ax_ge (n := 16) (by decide)).mpr c9
    refine lv_iconst (v := 1) hx hb dX7_unlike_10 (by decide) ?_
    refine lv_istore_n (lv' := [(3, .int 1), (0, .ref a0), (1, .int w1), (2, .int w2)]) hx hb dX7_unlike_11 rfl hl (by decide) rfl (fun ls hl => ?_)
    refine lv_iconst (v := 0) hx hb dX7_unlike_12 (by decide) ?_
    refine lv_istore (lv' := [(4, .int 0), (3, .int 1), (0, .ref a0), (1, .int w1), (2, .int w2)]) hx hb dX7_unlike_13 hl (by decide) rfl (fun ls hl => ?_)
    have h12 : (1 : Int32).toInt = 1 := by decide
    have h13 : (0 : Int32).toInt = 0 := by decide
    refine th_loop (fun n g H locs => ∃ (G : Nat → va_E) (ls : Array Slot) (w10 : Int32) (w11 : Int32), g = F0 m 15 ls [] ∧ lv_has ls 5 [(0, .ref a0), (1, .int w1), (2, .int w2), (3, .int w10), (4, .int w11)] ∧ va_P (dC, dI) vwCl (va_pl L G) H ∧ va_S (fun q => q ∈ L) s.heap H locs ∧ y_I K cs A G ∧ (∀ b, K b ∉ ([] : List Nat) → G b = F b) ∧ (∀ k, k ∈ ([1, 2, 3, 4, 5, 6, 7, 8, 11, 15, 16, 19, 25, 26, 27, 31, 32] : List Nat) → y_fi G a0 k = z0 k) ∧ (0 ≤ w10.toInt ∧ w10.toInt ≤ 1) ∧ (0 ≤ w11.toInt ∧ w11.toInt ≤ 15) ∧ (0 ≤ w2.toInt ∧ w2.toInt ≤ 15) ∧ n = (16 - w11.toInt).toNat) _ ⟨F7, _, 1, 0, rfl, lv_sub hl [2, 3, 4, 1, 0] rfl, hP, hS, hI, hfr, (fun k hk => (y_fiZ oY8 (s_sub (by decide) hk)).trans (hz0 k hk)), (by decide), (by decide), ⟨by omega, by omega⟩, rfl⟩ (fun n ih15 g H locs hq => ?_)
    obtain ⟨F17, ls, w10, w11, rfl, hl, hP, hS, hI, hfr, hz0, h14, h15, h16, hn⟩ := hq
    have oY18 : F17 a0 = .inr (7, y_fl A z0 q0) := (hfr _ (by rw [ha0]; decide)).trans oY0
    have hz0 : ∀ k, k ∈ ([1, 2, 3, 4, 5, 6, 7, 8, 11, 15, 16, 19, 25, 26, 27, 31, 32] : List Nat) → z0 k = z0 k := fun _ _ => rfl
    have hn_18 := hn
    refine th_join (fun g H locs => ∃ (G : Nat → va_E) (ls : Array Slot) (w19 : Int32), g = F0 m 39 ls [] ∧ lv_has ls 5 [(0, .ref a0), (1, .int w1), (2, .int w2), (3, .int w19), (4, .int w11)] ∧ va_P (dC, dI) vwCl (va_pl L G) H ∧ va_S (fun q => q ∈ L) s.heap H locs ∧ y_I K cs A G ∧ (∀ b, K b ∉ ([] : List Nat) → G b = F b) ∧ (∀ k, k ∈ ([1, 2, 3, 4, 5, 6, 7, 8, 11, 15, 16, 19, 25, 26, 27, 31, 32] : List Nat) → y_fi G a0 k = z0 k) ∧ (0 ≤ w19.toInt ∧ w19.toInt ≤ 1) ∧ (1 ≤ w2.toInt ∧ w2.toInt ≤ 15) ∧ (0 ≤ w11.toInt ∧ w11.toInt ≤ 14)) (fun K39 => ?_) ?_
    · refine lv_iload hx hb dX7_unlike_15 (lv_at hl 4 rfl) ?_
      refine lv_iload_n hx hb dX7_unlike_17 rfl (lv_at hl 2 rfl) ?_
      refine lv_icmp_ge (tgt := 45) hx hb dX7_unlike_18 (by decide) (fun c20 => ?_) (fun c20 => ?_)
      · have c20 := Int32.le_iff_toInt_le.mp c20
        refine lv_iload_n hx hb dX7_unlike_45 rfl (lv_at hl 1 rfl) ?_
        refine lv_iload_n hx hb dX7_unlike_46 rfl (lv_at hl 3 rfl) ?_
        have rg21 : 0 ≤ w10.toInt ∧ w10.toInt ≤ 1 := ⟨by omega, by omega⟩
        refine va_calli (va_runS (As := [.int w10]) (rest := [.int w1]) ⟨hx, hb, hml, hown, hts⟩ (y_X7_flag l dC dI H.size F17 w10 rg21) (cwS 1 hts (ax_gS T_1001 T_1003 T_265 T_1002) rfl rfl rfl (by decide +kernel) ⟨Nat.le_of_ble_eq_true rfl, Nat.le_of_ble_eq_true rfl⟩) ⟨fun a U g mk q => ⟨q.1, s_pc (U := U) rfl rfl q.2⟩, fun U hU hW => ⟨rfl, s_pw hU hW hP hK hD hN⟩⟩ rfl rfl hl.1 rfl (lv_room (Nat.le_of_ble_eq_true rfl)) dX7_unlike_47 ⟨Nat.zero_le _, Nat.zero_le _⟩) hS (fun q _ h => h) (fun q h => h) (fun r23 F24 t H1 locs ht hvm hw hB hz1 hk1 hS => ?_)
        obtain ⟨hP, hK1⟩ := hB
        rw [ht] at hP
        generalize H1 = H at hP hS ⊢
        clear hz1 hk1 hvm hK1
        obtain ⟨h25, h27, hG9, h26⟩ := hw
        rw [hG9] at hP
        refine lv_iadd hx hb dX7_unlike_50 ?_
        refine lv_topi (fun v28 ev28 => ?_)
        refine lv_istore_n (lv' := [(1, .int v28), (0, .ref a0), (2, .int w2), (3, .int w10), (4, .int w11)]) hx hb dX7_unlike_51 rfl hl (by decide) rfl (fun ls hl => ?_)
        obtain ⟨v29, ev29⟩ : ∃ y : Int32, w2 + 1 = y := ⟨_, rfl⟩
        have qv29 : v29.toInt = w2.toInt + 1 := by rw [← ev29]; exact th_add rfl (by decide) ⟨by omega, by omega⟩
        refine lv_iinc (v := v29) (lv' := [(2, .int v29), (1, .int v28), (0, .ref a0), (3, .int w10), (4, .int w11)]) hx hb dX7_unlike_52 hl (k := 2) rfl ev29 (by decide) rfl (fun ls hl => ?_)
        refine lv_goto (tgt := 4) hx hb dX7_unlike_55 (by decide) ?_
        exact ih4 _ _ _ _ (by omega) ⟨F17, _, v28, v29, rfl, lv_sub hl [2, 1, 0] rfl, hP, hS, hI, hfr, (fun k hk => (y_fiZ oY18 (s_sub (by decide) hk)).trans (hz0 k hk)), trivial, ⟨by omega, by omega⟩, rfl⟩
      · have c20 := mt Int32.le_iff_toInt_le.mpr c20
        refine lv_aload_n hx hb dX7_unlike_21 rfl (lv_at hl 0 rfl) ?_
        refine th_get (D := (dC, dI)) (ci := 7) (v := .ref (A 29)) (C := RX7) (T := TX7) (N := 34) hx hb hts inX7 hown hK hP (hLK _ ha0 (by decide)) oY18 rfl 29 (by decide) (hts _ T_258) (fun _ h9 => h9) rfl dX7_unlike_22 ?_
        refine lv_iload hx hb dX7_unlike_25 (lv_at hl 4 rfl) ?_
        obtain ⟨f30, o31, b32⟩ := y_op29 hI
        refine th_iald hx hb hK hP (hLK _ (y_k29 hA) (by decide)) 0 o31 rfl (th_in ⟨by omega, by omega⟩) dX7_unlike_27 ?_
        refine lv_topi (fun v33 ev33 => ?_)
        refine lv_aload_n hx hb dX7_unlike_28 rfl (lv_at hl 0 rfl) ?_
        refine th_get (D := (dC, dI)) (ci := 7) (v := .ref (A 29)) (C := RX7) (T := TX7) (N := 34) hx hb hts inX7 hown hK hP (hLK _ ha0 (by decide)) oY18 rfl 29 (by decide) (hts _ T_258) (fun _ h9 => h9) rfl dX7_unlike_29 ?_
        refine lv_iload_n hx hb dX7_unlike_32 rfl (lv_at hl 2 rfl) ?_
        refine th_iald hx hb hK hP (hLK _ (y_k29 hA) (by decide)) 0 o31 rfl (th_in ⟨by omega, by omega⟩) dX7_unlike_33 ?_
        refine lv_topi (fun v34 ev34 => ?_)
        refine lv_icmp_ne (tgt := 39) hx hb dX7_unlike_34 (by decide) (fun c35 => ?_) (fun c35 => ?_)
        · have c35 := mt Int32.toInt_inj.symm.mpr c35
          exact K39 _ _ _ ⟨F17, _, w10, rfl, lv_sub hl [0, 1, 2, 3, 4] rfl, hP, hS, hI, hfr, (fun k hk => (y_fiZ oY18 (s_sub (by decide) hk)).trans (hz0 k hk)), ⟨by omega, by omega⟩, ⟨by omega, by omega⟩, ⟨by omega, by omega⟩⟩
        · have c35 := Int32.toInt_inj.symm.mp c35
          refine lv_iconst (v := 0) hx hb dX7_unlike_37 (by decide) ?_
          refine lv_istore_n (lv' := [(3, .int 0), (0, .ref a0), (1, .int w1), (2, .int w2), (4, .int w11)]) hx hb dX7_unlike_38 rfl hl (by decide) rfl (fun ls hl => ?_)
          have h36 : (0 : Int32).toInt = 0 := by decide
          exact K39 _ _ _ ⟨F17, _, 0, rfl, lv_sub hl [1, 2, 3, 0, 4] rfl, hP, hS, hI, hfr, (fun k hk => (y_fiZ oY18 (s_sub (by decide) hk)).trans (hz0 k hk)), (by decide), ⟨by omega, by omega⟩, ⟨by omega, by omega⟩⟩
    · intro g H locs hq
      obtain ⟨F40, ls, w19, rfl, hl, hP, hS, hI, hfr, hz0, h37, h38, h39⟩ := hq
      have oY41 : F40 a0 = .inr (7, y_fl A z0 q0) := (hfr _ (by rw [ha0]; decide)).trans oY0
      have hz0 : ∀ k, k ∈ ([1, 2, 3, 4, 5, 6, 7, 8, 11, 15, 16, 19, 25, 26, 27, 31, 32] : List Nat) → z0 k = z0 k := fun _ _ => rfl
      obtain ⟨v42, ev42⟩ : ∃ y : Int32, w11 + 1 = y := ⟨_, rfl⟩
      have qv42 : v42.toInt = w11.toInt + 1 := by rw [← ev42]; exact th_add rfl (by decide) ⟨by omega, by omega⟩
      refine lv_iinc (v := v42) (lv' := [(4, .int v42), (0, .ref a0), (1, .int w1), (2, .int w2), (3, .int w19)]) hx hb dX7_unlike_39 hl (k := 4) rfl ev42 (by decide) rfl (fun ls hl => ?_)
      refine lv_goto (tgt := 15) hx hb dX7_unlike_42 (by decide) ?_
      exact ih15 _ _ _ _ (by omega) ⟨F40, _, w19, v42, rfl, lv_sub hl [1, 2, 3, 4, 0] rfl, hP, hS, hI, hfr, (fun k hk => (y_fiZ oY41 (s_sub (by decide) hk)).trans (hz0 k hk)), ⟨by omega, by omega⟩, ⟨by omega, by omega⟩, ⟨by omega, by omega⟩, rfl⟩

set_option maxHeartbeats 4000000 in
set_option maxRecDepth 100000 in
theorem yt_X7_tells (l : Launch) (dC : Nat → ClassId) (dI : Nat → Nat → Nat) (sz : Nat) {L : List Nat} {K : Nat → Nat} {cs : Nat → ClassId} (hLK : ∀ a {k : Nat}, K a = k → k ≠ 0 → a ∈ L) (A : Nat → Nat) (hA : y_A K A) (F : Nat → va_E) (a0 : Nat) (x1 : Int32) (ha0 : K a0 = 9) (hI : y_I K cs A F) (hT : y_T (y_fi F a0 15) (y_at F (A 13)) (y_at F (A 20)) (y_at F (A 30)) (y_fi F a0 31) (y_fi F a0 32)) : Met l yX7_tells (Cond.code yX7_tells cX7_tells 5 (some .int) :: T0) ({ frames := 10, cells := 0, slots := 0, locals := 231 }) (va_Pc [.ref a0, .int x1] (s_W dC dI sz L F [(cs 0, .int), (cs 1, .byte), (cs 2, .long), (cs 3, .object RX5), (cs 4, .object RX4), (cs 5, .array .int), (cs 6, .char), (cs 7, .boolean)])) (va_Qi (fun (r : Int32) (G : Nat → va_E) => True ∧ True ∧ y_I K cs A G ∧ (∀ b, K b ∉ [70, 71, 72, 73, 79] → G b = F b) ∧ (∀ k, k ∈ ([1, 2, 3, 4, 5, 6, 7, 8, 11, 15, 16, 19, 25, 26, 27, 31, 32] : List Nat) → y_fi G a0 k = y_fi F a0 k) ∧ (y_T (y_fi G a0 15) (y_at G (A 13)) (y_at G (A 20)) (y_at G (A 30)) (y_fi G a0 31) (y_fi G a0 32))) (fun (G : Nat → va_E) (t : State) => va_P (dC, dI) vwCl (va_pl L G) t.heap ∧ va_K (dC, dI) vwCl [(cs 0, .int), (cs 1, .byte), (cs 2, .long), (cs 3, .object RX5), (cs 4, .object RX4), (cs 5, .array .int), (cs 6, .char), (cs 7, .boolean)] t) (fun q => q ∈ L)) 0 0 (fun q => q ∈ L) := by
  refine Met.ofW (cc := cX7_tells) (maxL := 5) (ret := (some .int)) (by decide) rfl ?_
  intro p e s m args below meth c s₁ B hml hv
  obtain ⟨rfl, hsz, hP, hK, hD, hN⟩ := hv
  have hx := B.exec
  have hb := B.bytes
  have hr := B.returns
  have hts : ∀ w ∈ T0, w.before _ s = true := fun w h => atoms_spec (ws := Cond.code yX7_tells cX7_tells 5 (some .int) :: T0) B.pre w (List.mem_cons_of_mem _ h)
  have hown : s.vm.findClass RX7 = some m.cls := findClass_of_methodNamed B.named
  have hlocks := B.notSynchronized
  have hS : va_S (fun q => q ∈ L) s.heap s.heap [] := va_S.rf
  have hfr : ∀ b, K b ∉ [70, 71, 72, 73, 79] → F b = F b := fun _ _ => rfl
  have hl := lv_entry ([.ref a0, .int x1]) (n := 5) (Nat.le_of_ble_eq_true rfl)
  rw [lg_entry_eq]
  generalize (lg_sl ([.ref a0, .int x1]) ++ List.replicate (5 - (lg_sl ([.ref a0, .int x1])).length) Slot.unset).toArray = ls at hl ⊢
  have hl : lv_has ls 5 [(0, .ref a0), (1, .int x1)] := hl
  refine s_gen hP hS (fun H locs hP hS => ?_)
  obtain ⟨z0, q0, oY0, bz0, bq0⟩ := y_opY hI ha0
  have hz0 : ∀ k, k ∈ ([1, 2, 3, 4, 5, 6, 7, 8, 11, 15, 16, 19, 25, 26, 27, 31, 32] : List Nat) → z0 k = z0 k := fun _ _ => rfl
  obtain ⟨f1, o2, b3⟩ := y_op13 hI
  obtain ⟨f4, o5, b6⟩ := y_op20 hI
  obtain ⟨f7, o8, b9⟩ := y_op30 hI
  obtain ⟨v10, ev10⟩ : ∃ y : Int32, y = z0 15 := ⟨_, rfl⟩
  have qv10 : 0 ≤ v10.toInt ∧ v10.toInt ≤ 1 := by rw [ev10]; exact y_bY15 bz0
  have eF_15 := ev10
  obtain ⟨v11, ev11⟩ : ∃ y : Int32, y = z0 31 := ⟨_, rfl⟩
  have qv11 : 0 ≤ v11.toInt ∧ v11.toInt ≤ 20 := by rw [ev11]; exact y_bY31 bz0
  have eF_31 := ev11
  obtain ⟨v12, ev12⟩ : ∃ y : Int32, y = z0 32 := ⟨_, rfl⟩
  have qv12 : 0 ≤ v12.toInt ∧ v12.toInt ≤ 19 := by rw [ev12]; exact y_bY32 bz0
  have eF_32 := ev12
  have hT : y_T v10 f1 f4 f7 v11 v12 := by have q9 := hT; rw [y_fiZ oY0 (k := 15) (by decide), ← ev10, y_atE o2, y_atE o5, y_atE o8, y_fiZ oY0 (k := 31) (by decide), ← ev11, y_fiZ oY0 (k := 32) (by decide), ← ev12] at q9; exact q9
  have e0_v10 := ev10
  have e0_v11 := ev11
  have e0_v12 := ev12
  refine lv_aload_n hx hb dX7_tells_0 rfl (lv_at hl 0 rfl) ?_
  refine th_get (D := (dC, dI)) (ci := 7) (v := .int (z0 15)) (C := RX7) (T := TX7) (N := 34) hx hb hts inX7 hown hK hP (hLK _ ha0 (by decide)) oY0 rfl 15 (by decide) (hts _ T_271) (fun _ h9 => h9) rfl dX7_tells_1 ?_
  refine ax_eqi (y := v10) ev10.symm ?_
  refine lv_if_eq (tgt := 17) hx hb dX7_tells_4 (by decide) (fun c13 => ?_) (fun c13 => ?_)
  · have c13 := (ax_eq (n := 0) (by decide)).mp c13
    refine lv_iconst (v := (-1)) hx hb dX7_tells_17 (by decide) ?_
    have h14 : ((-1) : Int32).toInt = (-1) := by decide
    exact W.iret (v := (-1)) hx hb hr (fun t ht hW => ⟨⟨(-1), F, rfl, ⟨trivial, trivial, hI, hfr, fun k hk => (y_fiZ oY0 (s_sub (by decide) hk)).trans ((hz0 k hk).trans (y_fiZ oY0 (s_sub (by decide) hk)).symm), (by rw [y_fiZ oY0 (k := 15) (by decide), ← ev10, y_atE o2, y_atE o5, y_atE o8, y_fiZ oY0 (k := 31) (by decide), ← ev11, y_fiZ oY0 (k := 32) (by decide), ← ev12]; exact (y_Tc (y_CP_r _) hT))⟩, by rw [ht]; exact hP, va_K.moved hW.alike hK⟩, hS.F ht⟩) hS.2.2 dX7_tells_18
  · have c13 := mt (ax_eq (n := 0) (by decide)).mpr c13
    obtain ⟨htd, hPG, hNG, hUG⟩ := y_TT hT (by omega)
    have hL := y_P0L hPG.1
    have hW := y_P0W hPG.1
    have hnn := And.intro hNG.1 (And.intro hNG.2.1 (And.intro hNG.2.2.1 hNG.2.2.2.1))
    refine lv_iload_n hx hb dX7_tells_7 rfl (lv_at hl 1 rfl) ?_
    refine lv_i2l hx hb dX7_tells_8 rfl ?_
    refine lv_topl (fun v15 ev15 => ?_)
    have qv15 : v15.toInt = x1.toInt := y_i2l ev15
    refine lv_lconst (v := 0) hx hb dX7_tells_9 (by decide) ?_
    refine lv_lconst (v := 1) hx hb dX7_tells_10 (by decide) ?_
    refine va_calli (va_runS (As := [.long v15, .long 0, .long 1]) (rest := []) ⟨hx, hb, hml, hown, hts⟩ (y_X7_isIn l dC dI H.size F v15 0 1) (cwS 3 hts (ax_gS T_267 T_268 T_265 T_21) rfl rfl rfl (by decide +kernel) ⟨Nat.le_of_ble_eq_true rfl, Nat.le_of_ble_eq_true rfl⟩) ⟨fun a U g mk q => ⟨q.1, s_pc (U := U) rfl rfl q.2⟩, fun U hU hW => ⟨rfl, s_pw hU hW hP hK hD hN⟩⟩ rfl rfl hl.1 rfl (lv_room (Nat.le_of_ble_eq_true rfl)) dX7_tells_11 ⟨Nat.zero_le _, Nat.zero_le _⟩) hS (fun q _ h => h) (fun q h => h) (fun r17 F18 t H1 locs ht hvm hw hB hz1 hk1 hS => ?_)
    obtain ⟨hP, hK1⟩ := hB
    rw [ht] at hP
    generalize H1 = H at hP hS ⊢
    clear hz1 hk1 hvm hK1
    obtain ⟨h19, h21, hG9, h20⟩ := hw
    rw [hG9] at hP
    have h20 : ((r17.toInt = 0 ∧ (v15.toInt < 0 ∨ 1 < v15.toInt)) ∨ (r17.toInt = 1 ∧ 0 ≤ v15.toInt ∧ v15.toInt ≤ 1)) := by have q9 := h20; exact q9
    refine lv_if_ne (tgt := 19) hx hb dX7_tells_14 (by decide) (fun c22 => ?_) (fun c22 => ?_)
    · have c22 := mt (ax_eq (n := 0) (by decide)).mpr c22
      refine lv_iconst (v := (-1)) hx hb dX7_tells_19 (by decide) ?_
      refine lv_istore_n (lv' := [(2, .int (-1)), (0, .ref a0), (1, .int x1)]) hx hb dX7_tells_20 rfl hl (by decide) rfl (fun ls hl => ?_)
      refine lv_iconst (v := 0) hx hb dX7_tells_21 (by decide) ?_
      refine lv_istore_n (lv' := [(3, .int 0), (2, .int (-1)), (0, .ref a0), (1, .int x1)]) hx hb dX7_tells_22 rfl hl (by decide) rfl (fun ls hl => ?_)
      refine lv_iconst (v := 0) hx hb dX7_tells_23 (by decide) ?_
      refine lv_istore (lv' := [(4, .int 0), (3, .int 0), (2, .int (-1)), (0, .ref a0), (1, .int x1)]) hx hb dX7_tells_24 hl (by decide) rfl (fun ls hl => ?_)
      have h26 : ((-1) : Int32).toInt = (-1) := by decide
      have h27 : (0 : Int32).toInt = 0 := by decide
      have h28 : (0 : Int32).toInt = 0 := by decide
      refine th_loop (fun n g H locs => ∃ (G : Nat → va_E) (ls : Array Slot) (w23 : Int32) (w24 : Int32) (w25 : Int32), g = F0 m 26 ls [] ∧ lv_has ls 5 [(0, .ref a0), (1, .int x1), (2, .int w23), (3, .int w24), (4, .int w25)] ∧ va_P (dC, dI) vwCl (va_pl L G) H ∧ va_S (fun q => q ∈ L) s.heap H locs ∧ y_I K cs A G ∧ (∀ b, K b ∉ [70, 71, 72, 73, 79] → G b = F b) ∧ (∀ k, k ∈ ([1, 2, 3, 4, 5, 6, 7, 8, 11, 15, 16, 19, 25, 26, 27, 31, 32] : List Nat) → y_fi G a0 k = z0 k) ∧ (-1 ≤ w23.toInt ∧ w23.toInt ≤ 7) ∧ True ∧ (0 ≤ w25.toInt ∧ w25.toInt ≤ 8) ∧ (y_CP f4 (y_at G (A 20))) ∧ n = (9 - w25.toInt).toNat) _ ⟨F, _, (-1), 0, 0, rfl, lv_sub hl [3, 4, 2, 1, 0] rfl, hP, hS, hI, hfr, (fun k hk => (y_fiZ oY0 (s_sub (by decide) hk)).trans (hz0 k hk)), (by decide), trivial, (by decide), (by rw [y_atE o5]; exact (y_CP_r _)), rfl⟩ (fun n ih26 g H locs hq => ?_)
      obtain ⟨F33, ls, w23, w24, w25, rfl, hl, hP, hS, hI, hfr, hz0, h29, h30, h31, h32, hn⟩ := hq
      have o34 : F33 (A 13) = .inl (cs 0, 400, .inl f1) := (hfr _ (by rw [(y_k13 hA)]; decide)).trans o2
      have o35 : F33 (A 30) = .inl (cs 0, 18360, .inl f7) := (hfr _ (by rw [(y_k30 hA)]; decide)).trans o8
      have oY36 : F33 a0 = .inr (7, y_fl A z0 q0) := (hfr _ (by rw [ha0]; decide)).trans oY0
      have hz0 : ∀ k, k ∈ ([1, 2, 3, 4, 5, 6, 7, 8, 11, 15, 16, 19, 25, 26, 27, 31, 32] : List Nat) → z0 k = z0 k := fun _ _ => rfl
      obtain ⟨f37, o38, b39⟩ := y_op20 hI
      have h32 : (y_CP f4 f37) := by have q9 := h32; rw [y_atE o38] at q9; exact q9
      have hNGk := y_NGcp h32 (by omega) hNG
      have hn_39 := hn
      refine th_join (fun g H locs => ∃ (G : Nat → va_E) (ls : Array Slot) (w40 : Int32) (w41 : Int32), g = F0 m 63 ls [] ∧ lv_has ls 5 [(0, .ref a0), (1, .int x1), (2, .int w40), (3, .int w41), (4, .int w25)] ∧ va_P (dC, dI) vwCl (va_pl L G) H ∧ va_S (fun q => q ∈ L) s.heap H locs ∧ y_I K cs A G ∧ (∀ b, K b ∉ [70, 71, 72, 73, 79] → G b = F b) ∧ (∀ k, k ∈ ([1, 2, 3, 4, 5, 6, 7, 8, 11, 15, 16, 19, 25, 26, 27, 31, 32] : List Nat) → y_fi G a0 k = z0 k) ∧ (0 ≤ w40.toInt ∧ w40.toInt ≤ 7) ∧ True ∧ (0 ≤ w25.toInt ∧ w25.toInt ≤ 7) ∧ (y_CP f4 (y_at G (A 20)))) (fun K63 => ?_) ?_
      · refine lv_iload hx hb dX7_tells_26 (lv_at hl 4 rfl) ?_
        refine lv_bipush (v := 8) hx hb dX7_tells_28 (by decide) ?_
        refine lv_icmp_ge (tgt := 69) hx hb dX7_tells_30 (by decide) (fun c42 => ?_) (fun c42 => ?_)
        · have c42 := (ax_ge (n := 8) (by decide)).mp c42
          refine lv_iload_n hx hb dX7_tells_69 rfl (lv_at hl 1 rfl) ?_
          refine lv_if_ne (tgt := 77) hx hb dX7_tells_70 (by decide) (fun c43 => ?_) (fun c43 => ?_)
          · have c43 := mt (ax_eq (n := 0) (by decide)).mpr c43
            refine lv_iload_n hx hb dX7_tells_77 rfl (lv_at hl 3 rfl) ?_
            exact W.iret (v := w24) hx hb hr (fun t ht hW => ⟨⟨w24, F33, rfl, ⟨trivial, trivial, hI, hfr, fun k hk => (y_fiZ oY36 (s_sub (by decide) hk)).trans ((hz0 k hk).trans (y_fiZ oY0 (s_sub (by decide) hk)).symm), (by rw [y_fiZ oY36 (k := 15) (by decide), ← ev10, y_atE o34, y_atE o38, y_atE o35, y_fiZ oY36 (k := 31) (by decide), ← ev11, y_fiZ oY36 (k := 32) (by decide), ← ev12]; exact (y_Tc h32 hT))⟩, by rw [ht]; exact hP, va_K.moved hW.alike hK⟩, hS.F ht⟩) hS.2.2 dX7_tells_78
          · have c43 := (ax_eq (n := 0) (by decide)).mp c43
            refine lv_iload_n hx hb dX7_tells_73 rfl (lv_at hl 2 rfl) ?_
            refine lv_goto (tgt := 78) hx hb dX7_tells_74 (by decide) ?_
            exact W.iret (v := w23) hx hb hr (fun t ht hW => ⟨⟨w23, F33, rfl, ⟨trivial, trivial, hI, hfr, fun k hk => (y_fiZ oY36 (s_sub (by decide) hk)).trans ((hz0 k hk).trans (y_fiZ oY0 (s_sub (by decide) hk)).symm), (by rw [y_fiZ oY36 (k := 15) (by decide), ← ev10, y_atE o34, y_atE o38, y_atE o35, y_fiZ oY36 (k := 31) (by decide), ← ev11, y_fiZ oY36 (k := 32) (by decide), ← ev12]; exact (y_Tc h32 hT))⟩, by rw [ht]; exact hP, va_K.moved hW.alike hK⟩, hS.F ht⟩) hS.2.2 dX7_tells_78
        · have c42 := mt (ax_ge (n := 8) (by decide)).mpr c42
          refine lv_aload_n hx hb dX7_tells_33 rfl (lv_at hl 0 rfl) ?_
          refine lv_iload hx hb dX7_tells_34 (lv_at hl 4 rfl) ?_
          have rg44 : 0 ≤ w25.toInt ∧ w25.toInt ≤ 63 := ⟨by omega, by omega⟩
          refine va_callv (va_runV (As := [.int w25]) (rest := []) ⟨hx, hb, hml, hown, hts⟩ (y_X7_laysEnds l dC dI H.size hLK A hA F33 a0 w25 ha0 rg44 hI (by rw [y_atE o34]; exact hPG) (by rw [y_atE o34, y_atE o38]; exact hNGk)) (cwV 1 hts (ax_gV T_1244 T_1246 T_1247 T_265 T_1245) rfl rfl rfl (by decide +kernel) ⟨Nat.le_of_ble_eq_true rfl, Nat.le_of_ble_eq_true rfl⟩) ⟨fun a U g mk q => ⟨q.1, s_pc (U := U) rfl rfl q.2⟩, s_recv hK hP (hLK _ ha0 (by decide)) (ci := 7) rfl oY36, fun U hU hW => ⟨rfl, s_pw hU hW hP hK hD hN⟩⟩ rfl rfl hl.1 rfl (lv_room (Nat.le_of_ble_eq_true rfl)) dX7_tells_36 ⟨Nat.zero_le _, Nat.zero_le _⟩) hS (fun q _ h => h) (fun q h => h) (fun F46 t H1 locs ht hvm hw hB hz1 hk1 hS => ?_)
          obtain ⟨hP, hK1⟩ := hB
          rw [ht] at hP
          generalize H1 = H at hP hS ⊢
          clear hz1 hk1 hvm hK1
          obtain ⟨h47, h49, hI, hfr1, hzf, h48⟩ := hw
          have o50 : F46 (A 13) = .inl (cs 0, 400, .inl f1) := (hfr1 _ (by rw [(y_k13 hA)]; decide)).trans o34
          have o51 : F46 (A 30) = .inl (cs 0, 18360, .inl f7) := (hfr1 _ (by rw [(y_k30 hA)]; decide)).trans o35
          have oY52 : F46 a0 = .inr (7, y_fl A z0 q0) := (hfr1 _ (by rw [ha0]; decide)).trans oY36
          have hfr : ∀ b, K b ∉ [70, 71, 72, 73, 79] → F46 b = F b := fun b hb9 => (hfr1 b (fun q => hb9 (s_sub (by decide) q))).trans (hfr b hb9)
          obtain ⟨f53, o54, b55⟩ := y_op20 hI
          have h48 : (y_CP f37 f53) := by have q9 := h48; rw [y_atE o38, y_atE o54] at q9; exact q9
          refine lv_iload_n hx hb dX7_tells_39 rfl (lv_at hl 2 rfl) ?_
          refine lv_iconst (v := (-1)) hx hb dX7_tells_40 (by decide) ?_
          refine lv_icmp_eq (tgt := 55) hx hb dX7_tells_41 (by decide) (fun c56 => ?_) (fun c56 => ?_)
          · have c56 := (ax_eq (n := (-1)) (by decide)).mp c56
            refine lv_iload hx hb dX7_tells_55 (lv_at hl 4 rfl) ?_
            refine lv_istore_n (lv' := [(2, .int w25), (0, .ref a0), (1, .int x1), (3, .int w24), (4, .int w25)]) hx hb dX7_tells_57 rfl hl (by decide) rfl (fun ls hl => ?_)
            refine lv_aload_n hx hb dX7_tells_58 rfl (lv_at hl 1 rfl) ?_
            refine va_calli (va_runV (As := []) (rest := []) ⟨hx, hb, hml, hown, hts⟩ (y_X7_unlike l dC dI H.size hLK A hA F46 a0 ha0 hI) (cwV 0 hts (ax_gV T_1330 T_1332 T_1333 T_265 T_1331) rfl rfl rfl (by decide +kernel) ⟨Nat.le_of_ble_eq_true rfl, Nat.le_of_ble_eq_true rfl⟩) ⟨fun a U g mk q => ⟨q.1, s_pc (U := U) rfl rfl q.2⟩, s_recv hK hP (hLK _ ha0 (by decide)) (ci := 7) rfl oY52, fun U hU hW => ⟨rfl, s_pw hU hW hP hK hD hN⟩⟩ rfl rfl hl.1 rfl (lv_room (Nat.le_of_ble_eq_true rfl)) dX7_tells_59 ⟨Nat.zero_le _, Nat.zero_le _⟩) hS (fun q _ h => h) (fun q h => h) (fun r58 F59 t H1 locs ht hvm hw hB hz1 hk1 hS => ?_)
            obtain ⟨hP, hK1⟩ := hB
            rw [ht] at hP
            generalize H1 = H at hP hS ⊢
            clear hz1 hk1 hvm hK1
            obtain ⟨h60, h62, hI, hfr1, hzf, h61⟩ := hw
            have o63 : F59 (A 13) = .inl (cs 0, 400, .inl f1) := (hfr1 _ (by rw [(y_k13 hA)]; decide)).trans o50
            have o64 : F59 (A 30) = .inl (cs 0, 18360, .inl f7) := (hfr1 _ (by rw [(y_k30 hA)]; decide)).trans o51
            have o65 : F59 (A 20) = .inl (cs 0, 918, .inl f53) := (hfr1 _ (by rw [(y_k20 hA)]; decide)).trans o54
            have oY66 : F59 a0 = .inr (7, y_fl A z0 q0) := (hfr1 _ (by rw [ha0]; decide)).trans oY52
            have hfr : ∀ b, K b ∉ [70, 71, 72, 73, 79] → F59 b = F b := fun b hb9 => (hfr1 b (fun q => hb9 (s_sub (by decide) q))).trans (hfr b hb9)
            refine lv_istore_n (lv' := [(3, .int r58), (2, .int w25), (0, .ref a0), (1, .int x1), (4, .int w25)]) hx hb dX7_tells_62 rfl hl (by decide) rfl (fun ls hl => ?_)
            exact K63 _ _ _ ⟨F59, _, w25, r58, rfl, lv_sub hl [2, 3, 1, 0, 4] rfl, hP, hS, hI, hfr, (fun k hk => (y_fiZ oY66 (s_sub (by decide) hk)).trans (hz0 k hk)), ⟨by omega, by omega⟩, trivial, ⟨by omega, by omega⟩, (by rw [y_atE o65]; exact (y_CP_t h32 h48))⟩
          · have c56 := mt (ax_eq (n := (-1)) (by decide)).mpr c56
            refine lv_aload_n hx hb dX7_tells_44 rfl (lv_at hl 0 rfl) ?_
            refine va_calli (va_runV (As := []) (rest := []) ⟨hx, hb, hml, hown, hts⟩ (y_X7_unlike l dC dI H.size hLK A hA F46 a0 ha0 hI) (cwV 0 hts (ax_gV T_1330 T_1332 T_1333 T_265 T_1331) rfl rfl rfl (by decide +kernel) ⟨Nat.le_of_ble_eq_true rfl, Nat.le_of_ble_eq_true rfl⟩) ⟨fun a U g mk q => ⟨q.1, s_pc (U := U) rfl rfl q.2⟩, s_recv hK hP (hLK _ ha0 (by decide)) (ci := 7) rfl oY52, fun U hU hW => ⟨rfl, s_pw hU hW hP hK hD hN⟩⟩ rfl rfl hl.1 rfl (lv_room (Nat.le_of_ble_eq_true rfl)) dX7_tells_45 ⟨Nat.zero_le _, Nat.zero_le _⟩) hS (fun q _ h => h) (fun q h => h) (fun r68 F69 t H1 locs ht hvm hw hB hz1 hk1 hS => ?_)
            obtain ⟨hP, hK1⟩ := hB
            rw [ht] at hP
            generalize H1 = H at hP hS ⊢
            clear hz1 hk1 hvm hK1
            obtain ⟨h70, h72, hI, hfr1, hzf, h71⟩ := hw
            have o73 : F69 (A 13) = .inl (cs 0, 400, .inl f1) := (hfr1 _ (by rw [(y_k13 hA)]; decide)).trans o50
            have o74 : F69 (A 30) = .inl (cs 0, 18360, .inl f7) := (hfr1 _ (by rw [(y_k30 hA)]; decide)).trans o51
            have o75 : F69 (A 20) = .inl (cs 0, 918, .inl f53) := (hfr1 _ (by rw [(y_k20 hA)]; decide)).trans o54
            have oY76 : F69 a0 = .inr (7, y_fl A z0 q0) := (hfr1 _ (by rw [ha0]; decide)).trans oY52
            have hfr : ∀ b, K b ∉ [70, 71, 72, 73, 79] → F69 b = F b := fun b hb9 => (hfr1 b (fun q => hb9 (s_sub (by decide) q))).trans (hfr b hb9)
            refine lv_iload_n hx hb dX7_tells_48 rfl (lv_at hl 3 rfl) ?_
            refine lv_icmp_gt (tgt := 55) hx hb dX7_tells_49 (by decide) (fun c77 => ?_) (fun c77 => ?_)
            · have c77 := Int32.lt_iff_toInt_lt.mp c77
              refine lv_iload hx hb dX7_tells_55 (lv_at hl 4 rfl) ?_
              refine lv_istore_n (lv' := [(2, .int w25), (0, .ref a0), (1, .int x1), (3, .int w24), (4, .int w25)]) hx hb dX7_tells_57 rfl hl (by decide) rfl (fun ls hl => ?_)
              refine lv_aload_n hx hb dX7_tells_58 rfl (lv_at hl 1 rfl) ?_
              refine va_calli (va_runV (As := []) (rest := []) ⟨hx, hb, hml, hown, hts⟩ (y_X7_unlike l dC dI H.size hLK A hA F69 a0 ha0 hI) (cwV 0 hts (ax_gV T_1330 T_1332 T_1333 T_265 T_1331) rfl rfl rfl (by decide +kernel) ⟨Nat.le_of_ble_eq_true rfl, Nat.le_of_ble_eq_true rfl⟩) ⟨fun a U g mk q => ⟨q.1, s_pc (U := U) rfl rfl q.2⟩, s_recv hK hP (hLK _ ha0 (by decide)) (ci := 7) rfl oY76, fun U hU hW => ⟨rfl, s_pw hU hW hP hK hD hN⟩⟩ rfl rfl hl.1 rfl (lv_room (Nat.le_of_ble_eq_true rfl)) dX7_tells_59 ⟨Nat.zero_le _, Nat.zero_le _⟩) hS (fun q _ h => h) (fun q h => h) (fun r79 F80 t H1 locs ht hvm hw hB hz1 hk1 hS => ?_)
              obtain ⟨hP, hK1⟩ := hB
              rw [ht] at hP
              generalize H1 = H at hP hS ⊢
              clear hz1 hk1 hvm hK1
              obtain ⟨h81, h83, hI, hfr1, hzf, h82⟩ := hw
              have o84 : F80 (A 13) = .inl (cs 0, 400, .inl f1) := (hfr1 _ (by rw [(y_k13 hA)]; decide)).trans o73
              have o85 : F80 (A 30) = .inl (cs 0, 18360, .inl f7) := (hfr1 _ (by rw [(y_k30 hA)]; decide)).trans o74
              have o86 : F80 (A 20) = .inl (cs 0, 918, .inl f53) := (hfr1 _ (by rw [(y_k20 hA)]; decide)).trans o75
              have oY87 : F80 a0 = .inr (7, y_fl A z0 q0) := (hfr1 _ (by rw [ha0]; decide)).trans oY76
              have hfr : ∀ b, K b ∉ [70, 71, 72, 73, 79] → F80 b = F b := fun b hb9 => (hfr1 b (fun q => hb9 (s_sub (by decide) q))).trans (hfr b hb9)
              refine lv_istore_n (lv' := [(3, .int r79), (2, .int w25), (0, .ref a0), (1, .int x1), (4, .int w25)]) hx hb dX7_tells_62 rfl hl (by decide) rfl (fun ls hl => ?_)
              exact K63 _ _ _ ⟨F80, _, w25, r79, rfl, lv_sub hl [2, 3, 1, 0, 4] rfl, hP, hS, hI, hfr, (fun k hk => (y_fiZ oY87 (s_sub (by decide) hk)).trans (hz0 k hk)), ⟨by omega, by omega⟩, trivial, ⟨by omega, by omega⟩, (by rw [y_atE o86]; exact (y_CP_t h32 h48))⟩
            · have c77 := mt Int32.lt_iff_toInt_lt.mpr c77
              refine lv_goto (tgt := 63) hx hb dX7_tells_52 (by decide) ?_
              exact K63 _ _ _ ⟨F69, _, w23, w24, rfl, lv_sub hl [0, 1, 2, 3, 4] rfl, hP, hS, hI, hfr, (fun k hk => (y_fiZ oY76 (s_sub (by decide) hk)).trans (hz0 k hk)), ⟨by omega, by omega⟩, trivial, ⟨by omega, by omega⟩, (by rw [y_atE o75]; exact (y_CP_t h32 h48))⟩
      · intro g H locs hq
        obtain ⟨F92, ls, w40, w41, rfl, hl, hP, hS, hI, hfr, hz0, h88, h89, h90, h91⟩ := hq
        have o93 : F92 (A 13) = .inl (cs 0, 400, .inl f1) := (hfr _ (by rw [(y_k13 hA)]; decide)).trans o2
        have o94 : F92 (A 30) = .inl (cs 0, 18360, .inl f7) := (hfr _ (by rw [(y_k30 hA)]; decide)).trans o8
        have oY95 : F92 a0 = .inr (7, y_fl A z0 q0) := (hfr _ (by rw [ha0]; decide)).trans oY0
        have hz0 : ∀ k, k ∈ ([1, 2, 3, 4, 5, 6, 7, 8, 11, 15, 16, 19, 25, 26, 27, 31, 32] : List Nat) → z0 k = z0 k := fun _ _ => rfl
        obtain ⟨f96, o97, b98⟩ := y_op20 hI
        have h91 : (y_CP f4 f96) := by have q9 := h91; rw [y_atE o97] at q9; exact q9
        have hNGk := y_NGcp h91 (by omega) hNG
        obtain ⟨v99, ev99⟩ : ∃ y : Int32, w25 + 1 = y := ⟨_, rfl⟩
        have qv99 : v99.toInt = w25.toInt + 1 := by rw [← ev99]; exact th_add rfl (by decide) ⟨by omega, by omega⟩
        refine lv_iinc (v := v99) (lv' := [(4, .int v99), (0, .ref a0), (1, .int x1), (2, .int w40), (3, .int w41)]) hx hb dX7_tells_63 hl (k := 4) rfl ev99 (by decide) rfl (fun ls hl => ?_)
        refine lv_goto (tgt := 26) hx hb dX7_tells_66 (by decide) ?_
        exact ih26 _ _ _ _ (by omega) ⟨F92, _, w40, w41, v99, rfl, lv_sub hl [1, 2, 3, 4, 0] rfl, hP, hS, hI, hfr, (fun k hk => (y_fiZ oY95 (s_sub (by decide) hk)).trans (hz0 k hk)), ⟨by omega, by omega⟩, trivial, ⟨by omega, by omega⟩, (by rw [y_atE o97]; exact h91), rfl⟩
    · have c22 := (ax_eq (n := 0) (by decide)).mp c22
      refine lv_iconst (v := (-1)) hx hb dX7_tells_17 (by decide) ?_
      have h100 : ((-1) : Int32).toInt = (-1) := by decide
      exact W.iret (v := (-1)) hx hb hr (fun t ht hW => ⟨⟨(-1), F, rfl, ⟨trivial, trivial, hI, hfr, fun k hk => (y_fiZ oY0 (s_sub (by decide) hk)).trans ((hz0 k hk).trans (y_fiZ oY0 (s_sub (by decide) hk)).symm), (by rw [y_fiZ oY0 (k := 15) (by decide), ← ev10, y_atE o2, y_atE o5, y_atE o8, y_fiZ oY0 (k := 31) (by decide), ← ev11, y_fiZ oY0 (k := 32) (by decide), ← ev12]; exact (y_Tc (y_CP_r _) hT))⟩, by rw [ht]; exact hP, va_K.moved hW.alike hK⟩, hS.F ht⟩) hS.2.2 dX7_tells_18

set_option maxHeartbeats 4000000 in
set_option maxRecDepth 100000 in
theorem yt_X7_keeps (l : Launch) (dC : Nat → ClassId) (dI : Nat → Nat → Nat) (sz : Nat) {L : List Nat} {K : Nat → Nat} {cs : Nat → ClassId} (hLK : ∀ a {k : Nat}, K a = k → k ≠ 0 → a ∈ L) (A : Nat → Nat) (hA : y_A K A) (F : Nat → va_E) (a0 : Nat) (ha0 : K a0 = 9) (hI : y_I K cs A F) (hPG : y_PG (y_at F (A 13))) (hNG : y_NG (y_at F (A 13)) (y_at F (A 20))) (hUG : y_UG (y_at F (A 13)) (y_at F (A 30)) (y_fi F a0 31).toInt (y_fi F a0 32).toInt) : Met l yX7_keeps (Cond.code yX7_keeps cX7_keeps 2 none :: T0) ({ frames := 0, cells := 0, slots := 0, locals := 0 }) (va_Pc [.ref a0] (s_W dC dI sz L F [(cs 0, .int), (cs 1, .byte), (cs 2, .long), (cs 3, .object RX5), (cs 4, .object RX4), (cs 5, .array .int), (cs 6, .char), (cs 7, .boolean)])) (va_Qv (fun (G : Nat → va_E) => True ∧ True ∧ y_I K cs A G ∧ (∀ b, K b ∉ [9, 80] → G b = F b) ∧ (∀ k, k ∈ ([1, 2, 3, 4, 5, 6, 7, 8, 11, 15, 16, 19, 25, 26, 27] : List Nat) → y_fi G a0 k = y_fi F a0 k) ∧ (y_UG (y_at F (A 13)) (y_at G (A 30)) (y_fi G a0 31).toInt (y_fi G a0 32).toInt)) (fun (G : Nat → va_E) (t : State) => va_P (dC, dI) vwCl (va_pl L G) t.heap ∧ va_K (dC, dI) vwCl [(cs 0, .int), (cs 1, .byte), (cs 2, .long), (cs 3, .object RX5), (cs 4, .object RX4), (cs 5, .array .int), (cs 6, .char), (cs 7, .boolean)] t) (fun q => q ∈ L)) 0 0 (fun q => q ∈ L) := by
  refine Met.ofW (cc := cX7_keeps) (maxL := 2) (ret := none) (by decide) rfl ?_
  intro p e s m args below meth c s₁ B hml hv
  obtain ⟨rfl, hsz, hP, hK, hD, hN⟩ := hv
  have hx := B.exec
  have hb := B.bytes
  have hr := B.returns
  have hts : ∀ w ∈ T0, w.before _ s = true := fun w h => atoms_spec (ws := Cond.code yX7_keeps cX7_keeps 2 none :: T0) B.pre w (List.mem_cons_of_mem _ h)
  have hown : s.vm.findClass RX7 = some m.cls := findClass_of_methodNamed B.named
  have hlocks := B.notSynchronized
  have hS : va_S (fun q => q ∈ L) s.heap s.heap [] := va_S.rf
  have hfr : ∀ b, K b ∉ [9, 80] → F b = F b := fun _ _ => rfl
  have hl := lv_entry ([.ref a0]) (n := 2) (Nat.le_of_ble_eq_true rfl)
  rw [lg_entry_eq]
  generalize (lg_sl ([.ref a0]) ++ List.replicate (2 - (lg_sl ([.ref a0])).length) Slot.unset).toArray = ls at hl ⊢
  have hl : lv_has ls 2 [(0, .ref a0)] := hl
  refine s_gen hP hS (fun H locs hP hS => ?_)
  obtain ⟨z0, q0, oY0, bz0, bq0⟩ := y_opY hI ha0
  have hz0 : ∀ k, k ∈ ([1, 2, 3, 4, 5, 6, 7, 8, 11, 15, 16, 19, 25, 26, 27] : List Nat) → z0 k = z0 k := fun _ _ => rfl
  obtain ⟨f1, o2, b3⟩ := y_op13 hI
  obtain ⟨f4, o5, b6⟩ := y_op20 hI
  obtain ⟨f7, o8, b9⟩ := y_op30 hI
  obtain ⟨v10, ev10⟩ : ∃ y : Int32, y = z0 31 := ⟨_, rfl⟩
  have qv10 : 0 ≤ v10.toInt ∧ v10.toInt ≤ 20 := by rw [ev10]; exact y_bY31 bz0
  have eF_31 := ev10
  obtain ⟨v11, ev11⟩ : ∃ y : Int32, y = z0 32 := ⟨_, rfl⟩
  have qv11 : 0 ≤ v11.toInt ∧ v11.toInt ≤ 19 := by rw [ev11]; exact y_bY32 bz0
  have eF_32 := ev11
  have hPG : y_PG f1 := by have q9 := hPG; rw [y_atE o2] at q9; exact q9
  have hNG : y_NG f1 f4 := by have q9 := hNG; rw [y_atE o2, y_atE o5] at q9; exact q9
  have hUG : y_UG f1 f7 v10.toInt v11.toInt := by have q9 := hUG; rw [y_atE o2, y_atE o8, y_fiZ oY0 (k := 31) (by decide), ← ev10, y_fiZ oY0 (k := 32) (by decide), ← ev11] at q9; exact q9
  have hL := y_P0L hPG.1
  have hW := y_P0W hPG.1
  have hnn := And.intro hNG.1 (And.intro hNG.2.1 (And.intro hNG.2.2.1 hNG.2.2.2.1))
  have e0_v10 := ev10
  have e0_v11 := ev11
  refine lv_aload_n hx hb dX7_keeps_0 rfl (lv_at hl 0 rfl) ?_
  refine lv_aload_n hx hb dX7_keeps_1 rfl (lv_at hl 0 rfl) ?_
  refine th_get (D := (dC, dI)) (ci := 7) (v := .int (z0 32)) (C := RX7) (T := TX7) (N := 34) hx hb hts inX7 hown hK hP (hLK _ ha0 (by decide)) oY0 rfl 32 (by decide) (hts _ T_1232) (fun _ h9 => h9) rfl dX7_keeps_2 ?_
  refine ax_eqi (y := v11) ev11.symm ?_
  refine lv_iconst (v := 1) hx hb dX7_keeps_5 (by decide) ?_
  refine lv_iadd hx hb dX7_keeps_6 ?_
  refine lv_topi (fun v12 ev12 => ?_)
  have qv12 : v12.toInt = v11.toInt + 1 := by rw [ev12]; exact th_add rfl (by decide) ⟨by omega, by omega⟩
  refine lv_bipush (v := 20) hx hb dX7_keeps_7 (by decide) ?_
  refine lv_irem hx hb dX7_keeps_9 (by decide) ?_
  refine lv_topi (fun v13 ev13 => ?_)
  have qv13 : v13.toInt = v12.toInt % 20 := by rw [ev13]; exact th_rem rfl (by decide) (by omega) (by decide)
  refine th_put (D := (dC, dI)) (ci := 7) (v := .int v13) (ty := .int) (C := RX7) (T := TX7) (N := 34) hx hb hts inX7 tyX7 tyX7_ok nmX7 hown hK hP hD hS (hLK _ ha0 (by decide)) oY0 rfl 32 (by decide) (hts _ T_1232) (fun _ h9 => h9) rfl (by decide +kernel) rfl rfl (Nat.le_of_ble_eq_true rfl) dX7_keeps_10 (fun H locs hP hS => ?_)
  rw [y_fs32] at hP
  obtain ⟨z14, hz15⟩ : ∃ g : Nat → Int32, g = upd z0 32 v13 := ⟨_, rfl⟩
  rw [← hz15] at hP
  have bz16 : y_bY z14 := by rw [hz15]; exact y_bp32 bz0 ⟨by omega, by omega⟩
  have hP : va_P (dC, dI) vwCl (va_pl L (va_up F a0 (.inr (7, y_fl A z14 q0)))) H := hP
  obtain ⟨F17, hF18⟩ : ∃ G : Nat → va_E, G = va_up F a0 (.inr (7, y_fl A z14 q0)) := ⟨_, rfl⟩
  rw [← hF18] at hP
  have hI : y_I K cs A F17 := by rw [hF18]; exact y_clY hA hI ha0 bz16 bq0
  have hfr : ∀ b, K b ∉ [9, 80] → F17 b = F b := by rw [hF18]; exact s_fr hfr ha0 (by decide)
  have o19 : F17 (A 13) = .inl (cs 0, 400, .inl f1) := by rw [hF18]; exact th_ne (th_kd (y_k13 hA) ha0 (by decide)) o2
  have o20 : F17 (A 20) = .inl (cs 0, 918, .inl f4) := by rw [hF18]; exact th_ne (th_kd (y_k20 hA) ha0 (by decide)) o5
  have o21 : F17 (A 30) = .inl (cs 0, 18360, .inl f7) := by rw [hF18]; exact th_ne (th_kd (y_k30 hA) ha0 (by decide)) o8
  have oY22 : F17 a0 = .inr (7, y_fl A z14 q0) := by rw [hF18]; exact th_up
  have hz0 : ∀ k, k ∈ ([1, 2, 3, 4, 5, 6, 7, 8, 11, 15, 16, 19, 25, 26, 27] : List Nat) → z14 k = z0 k := fun k hk => by rw [hz15]; exact (y_un (fun q => absurd hk (by rw [q]; decide))).trans (hz0 k hk)
  have ev10 : v10 = z14 31 := by rw [hz15]; exact ev10.trans (y_un (by decide)).symm
  obtain ⟨v23, ev23⟩ : ∃ y : Int32, y = z14 32 := ⟨_, rfl⟩
  have qv23 : v23.toInt = v13.toInt := by rw [ev23, hz15, y_ue]
  refine lv_iconst (v := 0) hx hb dX7_keeps_13 (by decide) ?_
  refine lv_istore_n (lv' := [(1, .int 0), (0, .ref a0)]) hx hb dX7_keeps_14 rfl hl (by decide) rfl (fun ls hl => ?_)
  have h25 : (0 : Int32).toInt = 0 := by decide
  refine th_loop (fun n g H locs => ∃ (G : Nat → va_E) (ls : Array Slot) (w24 : Int32), g = F0 m 15 ls [] ∧ lv_has ls 2 [(0, .ref a0), (1, .int w24)] ∧ va_P (dC, dI) vwCl (va_pl L G) H ∧ va_S (fun q => q ∈ L) s.heap H locs ∧ y_I K cs A G ∧ (∀ b, K b ∉ [9, 80] → G b = F b) ∧ (∀ k, k ∈ ([1, 2, 3, 4, 5, 6, 7, 8, 11, 15, 16, 19, 25, 26, 27] : List Nat) → y_fi G a0 k = z0 k) ∧ (0 ≤ w24.toInt ∧ w24.toInt ≤ 918) ∧ (∀ j : Int, 0 ≤ j → j < w24.toInt → y_c (y_at G (A 30)) (918 * (y_fi G a0 32).toInt + j) = y_c f4 j) ∧ (∀ j : Int, 0 ≤ j → (j < 918 * (y_fi G a0 32).toInt ∨ 918 * (y_fi G a0 32).toInt + 918 ≤ j) → y_c (y_at G (A 30)) j = y_c f7 j) ∧ ((y_fi G a0 32).toInt = (v11.toInt + 1) % 20 ∧ (y_fi G a0 31).toInt = v10.toInt) ∧ n = (919 - w24.toInt).toNat) _ ⟨F17, _, 0, rfl, lv_sub hl [1, 0] rfl, hP, hS, hI, hfr, (fun k hk => (y_fiZ oY22 (s_sub (by decide) hk)).trans (hz0 k hk)), (by decide), (by rw [y_atE o21, y_fiZ oY22 (k := 32) (by decide), ← ev23]; exact (fun j h0 h1 => absurd h1 (by omega))), (by rw [y_fiZ oY22 (k := 32) (by decide), ← ev23, y_atE o21]; exact (fun j h0 h1 => rfl)), (by first | (rw [y_fiZ oY22 (k := 32) (by decide), ← ev23, y_fiZ oY22 (k := 31) (by decide), ← ev10]; omega) | rw [y_fiZ oY22 (k := 32) (by decide), ← ev23, y_fiZ oY22 (k := 31) (by decide), ← ev10]), rfl⟩ (fun n ih15 g H locs hq => ?_)
  obtain ⟨F30, ls, w24, rfl, hl, hP, hS, hI, hfr, hz0, h26, h27, h28, h29, hn⟩ := hq
  have o31 : F30 (A 13) = .inl (cs 0, 400, .inl f1) := (hfr _ (by rw [(y_k13 hA)]; decide)).trans o2
  have o32 : F30 (A 20) = .inl (cs 0, 918, .inl f4) := (hfr _ (by rw [(y_k20 hA)]; decide)).trans o5
  obtain ⟨z33, q34, oY35, bz36, bq37⟩ := y_opY hI ha0
  have hz0 : ∀ k, k ∈ ([1, 2, 3, 4, 5, 6, 7, 8, 11, 15, 16, 19, 25, 26, 27] : List Nat) → z33 k = z0 k := fun k hk => (y_fiZ oY35 (s_sub (by decide) hk)).symm.trans (hz0 k hk)
  obtain ⟨f38, o39, b40⟩ := y_op30 hI
  obtain ⟨v41, ev41⟩ : ∃ y : Int32, y = z33 32 := ⟨_, rfl⟩
  have qv41 : 0 ≤ v41.toInt ∧ v41.toInt ≤ 19 := by rw [ev41]; exact y_bY32 bz36
  have h27 : (∀ j : Int, 0 ≤ j → j < w24.toInt → y_c f38 (918 * v41.toInt + j) = y_c f4 j) := by have q9 := h27; rw [y_atE o39, y_fiZ oY35 (k := 32) (by decide), ← ev41] at q9; exact q9
  have h28 : (∀ j : Int, 0 ≤ j → (j < 918 * v41.toInt ∨ 918 * v41.toInt + 918 ≤ j) → y_c f38 j = y_c f7 j) := by have q9 := h28; rw [y_fiZ oY35 (k := 32) (by decide), ← ev41, y_atE o39] at q9; exact q9
  obtain ⟨v42, ev42⟩ : ∃ y : Int32, y = z33 31 := ⟨_, rfl⟩
  have qv42 : 0 ≤ v42.toInt ∧ v42.toInt ≤ 20 := by rw [ev42]; exact y_bY31 bz36
  have h29 : (v41.toInt = (v11.toInt + 1) % 20 ∧ v42.toInt = v10.toInt) := by have q9 := h29; rw [y_fiZ oY35 (k := 32) (by decide), ← ev41, y_fiZ oY35 (k := 31) (by decide), ← ev42] at q9; exact q9
  have hn_42 := hn
  refine lv_iload_n hx hb dX7_keeps_15 rfl (lv_at hl 1 rfl) ?_
  refine lv_sipush (v := 918) hx hb dX7_keeps_16 (by decide) ?_
  refine lv_icmp_ge (tgt := 49) hx hb dX7_keeps_19 (by decide) (fun c43 => ?_) (fun c43 => ?_)
  · have c43 := (ax_ge (n := 918) (by decide)).mp c43
    refine lv_aload_n hx hb dX7_keeps_49 rfl (lv_at hl 0 rfl) ?_
    refine th_get (D := (dC, dI)) (ci := 7) (v := .int (z33 31)) (C := RX7) (T := TX7) (N := 34) hx hb hts inX7 hown hK hP (hLK _ ha0 (by decide)) oY35 rfl 31 (by decide) (hts _ T_323) (fun _ h9 => h9) rfl dX7_keeps_50 ?_
    refine ax_eqi (y := v42) ev42.symm ?_
    refine lv_bipush (v := 20) hx hb dX7_keeps_53 (by decide) ?_
    refine lv_icmp_ge (tgt := 68) hx hb dX7_keeps_55 (by decide) (fun c44 => ?_) (fun c44 => ?_)
    · have c44 := (ax_ge (n := 20) (by decide)).mp c44
      exact W.vret hx hb hr (fun t ht hW => ⟨⟨F30, rfl, ⟨trivial, trivial, hI, hfr, fun k hk => (y_fiZ oY35 (s_sub (by decide) hk)).trans ((hz0 k hk).trans (y_fiZ oY0 (s_sub (by decide) hk)).symm), (by rw [y_atE o2, y_atE o39, y_fiZ oY35 (k := 31) (by decide), ← ev42, y_fiZ oY35 (k := 32) (by decide), ← ev41]; exact y_UGk (by omega) ⟨by omega, by omega⟩ (by omega) (by omega) ⟨by omega, by omega⟩ (fun j h0 h1 => h27 j h0 (by omega)) h28 hNG hUG)⟩, by rw [ht]; exact hP, va_K.moved hW.alike hK⟩, hS.F ht⟩) hS.2.2 dX7_keeps_68
    · have c44 := mt (ax_ge (n := 20) (by decide)).mpr c44
      refine lv_aload_n hx hb dX7_keeps_58 rfl (lv_at hl 0 rfl) ?_
      refine lv_dup hx hb dX7_keeps_59 rfl ?_
      refine th_get (D := (dC, dI)) (ci := 7) (v := .int (z33 31)) (C := RX7) (T := TX7) (N := 34) hx hb hts inX7 hown hK hP (hLK _ ha0 (by decide)) oY35 rfl 31 (by decide) (hts _ T_323) (fun _ h9 => h9) rfl dX7_keeps_60 ?_
      refine ax_eqi (y := v42) ev42.symm ?_
      refine lv_iconst (v := 1) hx hb dX7_keeps_63 (by decide) ?_
      refine lv_iadd hx hb dX7_keeps_64 ?_
      refine lv_topi (fun v45 ev45 => ?_)
      have qv45 : v45.toInt = v42.toInt + 1 := by rw [ev45]; exact th_add rfl (by decide) ⟨by omega, by omega⟩
      refine th_put (D := (dC, dI)) (ci := 7) (v := .int v45) (ty := .int) (C := RX7) (T := TX7) (N := 34) hx hb hts inX7 tyX7 tyX7_ok nmX7 hown hK hP hD hS (hLK _ ha0 (by decide)) oY35 rfl 31 (by decide) (hts _ T_323) (fun _ h9 => h9) rfl (by decide +kernel) rfl rfl (Nat.le_of_ble_eq_true rfl) dX7_keeps_65 (fun H locs hP hS => ?_)
      rw [y_fs31] at hP
      obtain ⟨z46, hz47⟩ : ∃ g : Nat → Int32, g = upd z33 31 v45 := ⟨_, rfl⟩
      rw [← hz47] at hP
      have bz48 : y_bY z46 := by rw [hz47]; exact y_bp31 bz36 ⟨by omega, by omega⟩
      have hP : va_P (dC, dI) vwCl (va_pl L (va_up F30 a0 (.inr (7, y_fl A z46 q34)))) H := hP
      obtain ⟨F49, hF50⟩ : ∃ G : Nat → va_E, G = va_up F30 a0 (.inr (7, y_fl A z46 q34)) := ⟨_, rfl⟩
      rw [← hF50] at hP
      have hI : y_I K cs A F49 := by rw [hF50]; exact y_clY hA hI ha0 bz48 bq37
      have hfr : ∀ b, K b ∉ [9, 80] → F49 b = F b := by rw [hF50]; exact s_fr hfr ha0 (by decide)
      have o51 : F49 (A 13) = .inl (cs 0, 400, .inl f1) := by rw [hF50]; exact th_ne (th_kd (y_k13 hA) ha0 (by decide)) o31
      have o52 : F49 (A 20) = .inl (cs 0, 918, .inl f4) := by rw [hF50]; exact th_ne (th_kd (y_k20 hA) ha0 (by decide)) o32
      have o53 : F49 (A 30) = .inl (cs 0, 18360, .inl f38) := by rw [hF50]; exact th_ne (th_kd (y_k30 hA) ha0 (by decide)) o39
      have oY54 : F49 a0 = .inr (7, y_fl A z46 q34) := by rw [hF50]; exact th_up
      have hz0 : ∀ k, k ∈ ([1, 2, 3, 4, 5, 6, 7, 8, 11, 15, 16, 19, 25, 26, 27] : List Nat) → z46 k = z0 k := fun k hk => by rw [hz47]; exact (y_un (fun q => absurd hk (by rw [q]; decide))).trans (hz0 k hk)
      have ev41 : v41 = z46 32 := by rw [hz47]; exact ev41.trans (y_un (by decide)).symm
      obtain ⟨v55, ev55⟩ : ∃ y : Int32, y = z46 31 := ⟨_, rfl⟩
      have qv55 : v55.toInt = v45.toInt := by rw [ev55, hz47, y_ue]
      exact W.vret hx hb hr (fun t ht hW => ⟨⟨F49, rfl, ⟨trivial, trivial, hI, hfr, fun k hk => (y_fiZ oY54 (s_sub (by decide) hk)).trans ((hz0 k hk).trans (y_fiZ oY0 (s_sub (by decide) hk)).symm), (by rw [y_atE o2, y_atE o53, y_fiZ oY54 (k := 31) (by decide), ← ev55, y_fiZ oY54 (k := 32) (by decide), ← ev41]; exact y_UGk (by omega) ⟨by omega, by omega⟩ (by omega) (by omega) ⟨by omega, by omega⟩ (fun j h0 h1 => h27 j h0 (by omega)) h28 hNG hUG)⟩, by rw [ht]; exact hP, va_K.moved hW.alike hK⟩, hS.F ht⟩) hS.2.2 dX7_keeps_68
  · have c43 := mt (ax_ge (n := 918) (by decide)).mpr c43
    refine lv_aload_n hx hb dX7_keeps_22 rfl (lv_at hl 0 rfl) ?_
    refine th_get (D := (dC, dI)) (ci := 7) (v := .ref (A 30)) (C := RX7) (T := TX7) (N := 34) hx hb hts inX7 hown hK hP (hLK _ ha0 (by decide)) oY35 rfl 30 (by decide) (hts _ T_259) (fun _ h9 => h9) rfl dX7_keeps_23 ?_
    refine lv_sipush (v := 918) hx hb dX7_keeps_26 (by decide) ?_
    refine lv_aload_n hx hb dX7_keeps_29 rfl (lv_at hl 0 rfl) ?_
    refine th_get (D := (dC, dI)) (ci := 7) (v := .int (z33 32)) (C := RX7) (T := TX7) (N := 34) hx hb hts inX7 hown hK hP (hLK _ ha0 (by decide)) oY35 rfl 32 (by decide) (hts _ T_1232) (fun _ h9 => h9) rfl dX7_keeps_30 ?_
    refine ax_eqi (y := v41) ev41.symm ?_
    refine lv_imul hx hb dX7_keeps_33 ?_
    refine lv_topi (fun v56 ev56 => ?_)
    have qv56 : v56.toInt = 918 * v41.toInt := by rw [ev56]; exact th_mul (by decide) rfl ⟨by omega, by omega⟩
    refine lv_iload_n hx hb dX7_keeps_34 rfl (lv_at hl 1 rfl) ?_
    refine lv_iadd hx hb dX7_keeps_35 ?_
    refine lv_topi (fun v57 ev57 => ?_)
    have qv57 : v57.toInt = v56.toInt + w24.toInt := by rw [ev57]; exact th_add rfl rfl ⟨by omega, by omega⟩
    refine lv_aload_n hx hb dX7_keeps_36 rfl (lv_at hl 0 rfl) ?_
    refine th_get (D := (dC, dI)) (ci := 7) (v := .ref (A 20)) (C := RX7) (T := TX7) (N := 34) hx hb hts inX7 hown hK hP (hLK _ ha0 (by decide)) oY35 rfl 20 (by decide) (hts _ T_251) (fun _ h9 => h9) rfl dX7_keeps_37 ?_
    refine lv_iload_n hx hb dX7_keeps_40 rfl (lv_at hl 1 rfl) ?_
    refine th_iald hx hb hK hP (hLK _ (y_k20 hA) (by decide)) 0 o32 rfl (th_in ⟨by omega, by omega⟩) dX7_keeps_41 ?_
    refine lv_topi (fun v58 ev58 => ?_)
    have Ev58 : v58 = y_c f4 (w24.toInt) := ev58.trans (y_ci (by omega))
    have tEv58 := congrArg Int32.toInt Ev58
    refine th_iast hx hb hK hP hD hS (hLK _ (y_k30 hA) (by decide)) 0 o39 rfl (th_in ⟨by omega, by omega⟩) dX7_keeps_42 (fun H locs hP hS => ?_)
    obtain ⟨f59, u60⟩ : ∃ g : Nat → Int32, g = upd f38 (v57 : Int32).toNatClampNeg v58 := ⟨_, rfl⟩
    rw [← u60] at hP
    have b61 : y_bd 30 f59 := trivial
    have hP : va_P (dC, dI) vwCl (va_pl L (va_up F30 (A 30) (.inl (cs 0, 18360, .inl f59)))) H := hP
    obtain ⟨F62, hF63⟩ : ∃ G : Nat → va_E, G = va_up F30 (A 30) (.inl (cs 0, 18360, .inl f59)) := ⟨_, rfl⟩
    rw [← hF63] at hP
    have hI : y_I K cs A F62 := by rw [hF63]; exact y_clA (i := 30) hA hI (by decide) b61
    have hfr : ∀ b, K b ∉ [9, 80] → F62 b = F b := by rw [hF63]; exact s_fr hfr (y_k30 hA) (by decide)
    have o64 : F62 (A 13) = .inl (cs 0, 400, .inl f1) := by rw [hF63]; exact th_ne (th_kd (y_k13 hA) (y_k30 hA) (by decide)) o31
    have o65 : F62 (A 20) = .inl (cs 0, 918, .inl f4) := by rw [hF63]; exact th_ne (th_kd (y_k20 hA) (y_k30 hA) (by decide)) o32
    have oY66 : F62 a0 = .inr (7, y_fl A z33 q34) := by rw [hF63]; exact th_ne (th_kd ha0 (y_k30 hA) (by decide)) oY35
    have o67 : F62 (A 30) = .inl (cs 0, 18360, .inl f59) := by rw [hF63]; exact th_up
    have u68 : ∀ j : Int, 0 ≤ j → y_c f59 j = if j = v57.toInt then v58 else y_c f38 j := by rw [u60]; exact y_cu rfl (by omega)
    obtain ⟨v69, ev69⟩ : ∃ y : Int32, w24 + 1 = y := ⟨_, rfl⟩
    have qv69 : v69.toInt = w24.toInt + 1 := by rw [← ev69]; exact th_add rfl (by decide) ⟨by omega, by omega⟩
    refine lv_iinc (v := v69) (lv' := [(1, .int v69), (0, .ref a0)]) hx hb dX7_keeps_43 hl (k := 1) rfl ev69 (by decide) rfl (fun ls hl => ?_)
    refine lv_goto (tgt := 15) hx hb dX7_keeps_46 (by decide) ?_
    exact ih15 _ _ _ _ (by omega) ⟨F62, _, v69, rfl, lv_sub hl [1, 0] rfl, hP, hS, hI, hfr, (fun k hk => (y_fiZ oY66 (s_sub (by decide) hk)).trans (hz0 k hk)), ⟨by omega, by omega⟩, (by rw [y_atE o67, y_fiZ oY66 (k := 32) (by decide), ← ev41]; exact (fun j h0 h1 => by rw [u68 _ (by omega)]; split; rename_i q9; rw [show j = w24.toInt by omega]; exact Ev58; exact h27 j h0 (by omega))), (by rw [y_fiZ oY66 (k := 32) (by decide), ← ev41, y_atE o67]; exact (fun j h0 h1 => by rw [u68 j h0, if_neg (by omega)]; exact h28 j h0 (by omega))), (by first | (rw [y_fiZ oY66 (k := 32) (by decide), ← ev41, y_fiZ oY66 (k := 31) (by decide), ← ev42]; omega) | rw [y_fiZ oY66 (k := 32) (by decide), ← ev41, y_fiZ oY66 (k := 31) (by decide), ← ev42]), rfl⟩

set_option maxHeartbeats 4000000 in
set_option maxRecDepth 100000 in
theorem yt_X7_undo (l : Launch) (dC : Nat → ClassId) (dI : Nat → Nat → Nat) (sz : Nat) {L : List Nat} {K : Nat → Nat} {cs : Nat → ClassId} (hLK : ∀ a {k : Nat}, K a = k → k ≠ 0 → a ∈ L) (A : Nat → Nat) (hA : y_A K A) (F : Nat → va_E) (a0 : Nat) (ha0 : K a0 = 9) (hI : y_I K cs A F) (hT : y_T (y_fi F a0 15) (y_at F (A 13)) (y_at F (A 20)) (y_at F (A 30)) (y_fi F a0 31) (y_fi F a0 32)) : Met l yX7_undo (Cond.code yX7_undo cX7_undo 2 (some .boolean) :: T0) ({ frames := 1, cells := 0, slots := 0, locals := 21 }) (va_Pc [.ref a0] (s_W dC dI sz L F [(cs 0, .int), (cs 1, .byte), (cs 2, .long), (cs 3, .object RX5), (cs 4, .object RX4), (cs 5, .array .int), (cs 6, .char), (cs 7, .boolean)])) (va_Qi (fun (r : Int32) (G : Nat → va_E) => (0 ≤ r.toInt ∧ r.toInt ≤ 1) ∧ True ∧ y_I K cs A G ∧ (∀ b, K b ∉ [9, 59, 70] → G b = F b) ∧ (∀ k, k ∈ ([1, 2, 3, 4, 5, 6, 7, 8, 11, 15, 16, 19, 25, 26, 27] : List Nat) → y_fi G a0 k = y_fi F a0 k) ∧ (y_T (y_fi G a0 15) (y_at G (A 13)) (y_at G (A 20)) (y_at G (A 30)) (y_fi G a0 31) (y_fi G a0 32))) (fun (G : Nat → va_E) (t : State) => va_P (dC, dI) vwCl (va_pl L G) t.heap ∧ va_K (dC, dI) vwCl [(cs 0, .int), (cs 1, .byte), (cs 2, .long), (cs 3, .object RX5), (cs 4, .object RX4), (cs 5, .array .int), (cs 6, .char), (cs 7, .boolean)] t) (fun q => q ∈ L)) 0 0 (fun q => q ∈ L) := by
  refine Met.ofW (cc := cX7_undo) (maxL := 2) (ret := (some .boolean)) (by decide) rfl ?_
  intro p e s m args below meth c s₁ B hml hv
  obtain ⟨rfl, hsz, hP, hK, hD, hN⟩ := hv
  have hx := B.exec
  have hb := B.bytes
  have hr := B.returns
  have hts : ∀ w ∈ T0, w.before _ s = true := fun w h => atoms_spec (ws := Cond.code yX7_undo cX7_undo 2 (some .boolean) :: T0) B.pre w (List.mem_cons_of_mem _ h)
  have hown : s.vm.findClass RX7 = some m.cls := findClass_of_methodNamed B.named
  have hlocks := B.notSynchronized
  have hS : va_S (fun q => q ∈ L) s.heap s.heap [] := va_S.rf
  have hfr : ∀ b, K b ∉ [9, 59, 70] → F b = F b := fun _ _ => rfl
  have hl := lv_entry ([.ref a0]) (n := 2) (Nat.le_of_ble_eq_true rfl)
  rw [lg_entry_eq]
  generalize (lg_sl ([.ref a0]) ++ List.replicate (2 - (lg_sl ([.ref a0])).length) Slot.unset).toArray = ls at hl ⊢
  have hl : lv_has ls 2 [(0, .ref a0)] := hl
  refine s_gen hP hS (fun H locs hP hS => ?_)
  obtain ⟨z0, q0, oY0, bz0, bq0⟩ := y_opY hI ha0
  have hz0 : ∀ k, k ∈ ([1, 2, 3, 4, 5, 6, 7, 8, 11, 15, 16, 19, 25, 26, 27] : List Nat) → z0 k = z0 k := fun _ _ => rfl
  obtain ⟨f1, o2, b3⟩ := y_op13 hI
  obtain ⟨f4, o5, b6⟩ := y_op20 hI
  obtain ⟨f7, o8, b9⟩ := y_op30 hI
  obtain ⟨v10, ev10⟩ : ∃ y : Int32, y = z0 15 := ⟨_, rfl⟩
  have qv10 : 0 ≤ v10.toInt ∧ v10.toInt ≤ 1 := by rw [ev10]; exact y_bY15 bz0
  have eF_15 := ev10
  obtain ⟨v11, ev11⟩ : ∃ y : Int32, y = z0 31 := ⟨_, rfl⟩
  have qv11 : 0 ≤ v11.toInt ∧ v11.toInt ≤ 20 := by rw [ev11]; exact y_bY31 bz0
  have eF_31 := ev11
  obtain ⟨v12, ev12⟩ : ∃ y : Int32, y = z0 32 := ⟨_, rfl⟩
  have qv12 : 0 ≤ v12.toInt ∧ v12.toInt ≤ 19 := by rw [ev12]; exact y_bY32 bz0
  have eF_32 := ev12
  have hT : y_T v10 f1 f4 f7 v11 v12 := by have q9 := hT; rw [y_fiZ oY0 (k := 15) (by decide), ← ev10, y_atE o2, y_atE o5, y_atE o8, y_fiZ oY0 (k := 31) (by decide), ← ev11, y_fiZ oY0 (k := 32) (by decide), ← ev12] at q9; exact q9
  have e0_v10 := ev10
  have e0_v11 := ev11
  have e0_v12 := ev12
  refine lv_aload_n hx hb dX7_undo_0 rfl (lv_at hl 0 rfl) ?_
  refine th_get (D := (dC, dI)) (ci := 7) (v := .int (z0 31)) (C := RX7) (T := TX7) (N := 34) hx hb hts inX7 hown hK hP (hLK _ ha0 (by decide)) oY0 rfl 31 (by decide) (hts _ T_323) (fun _ h9 => h9) rfl dX7_undo_1 ?_
  refine ax_eqi (y := v11) ev11.symm ?_
  refine lv_if_ne (tgt := 13) hx hb dX7_undo_4 (by decide) (fun c13 => ?_) (fun c13 => ?_)
  · have c13 := mt (ax_eq (n := 0) (by decide)).mpr c13
    obtain ⟨htd, hPG, hNG, hUG⟩ := y_TU hT c13
    have hL := y_P0L hPG.1
    have hW := y_P0W hPG.1
    have hnn := And.intro hNG.1 (And.intro hNG.2.1 (And.intro hNG.2.2.1 hNG.2.2.2.1))
    refine lv_iconst (v := 0) hx hb dX7_undo_13 (by decide) ?_
    refine lv_istore_n (lv' := [(1, .int 0), (0, .ref a0)]) hx hb dX7_undo_14 rfl hl (by decide) rfl (fun ls hl => ?_)
    have h15 : (0 : Int32).toInt = 0 := by decide
    refine th_loop (fun n g H locs => ∃ (G : Nat → va_E) (ls : Array Slot) (w14 : Int32), g = F0 m 15 ls [] ∧ lv_has ls 2 [(0, .ref a0), (1, .int w14)] ∧ va_P (dC, dI) vwCl (va_pl L G) H ∧ va_S (fun q => q ∈ L) s.heap H locs ∧ y_I K cs A G ∧ (∀ b, K b ∉ [9, 59, 70] → G b = F b) ∧ (∀ k, k ∈ ([1, 2, 3, 4, 5, 6, 7, 8, 11, 15, 16, 19, 25, 26, 27] : List Nat) → y_fi G a0 k = z0 k) ∧ (0 ≤ w14.toInt ∧ w14.toInt ≤ 918) ∧ (∀ j : Int, 0 ≤ j → j < w14.toInt → y_c (y_at G (A 20)) j = y_c f7 (918 * v12.toInt + j)) ∧ ((y_fi G a0 32).toInt = v12.toInt ∧ (y_fi G a0 31).toInt = v11.toInt) ∧ n = (919 - w14.toInt).toNat) _ ⟨F, _, 0, rfl, lv_sub hl [1, 0] rfl, hP, hS, hI, hfr, (fun k hk => (y_fiZ oY0 (s_sub (by decide) hk)).trans (hz0 k hk)), (by decide), (by rw [y_atE o5]; exact (fun j h0 h1 => absurd h1 (by omega))), (by first | (rw [y_fiZ oY0 (k := 32) (by decide), ← ev12, y_fiZ oY0 (k := 31) (by decide), ← ev11]; omega) | rw [y_fiZ oY0 (k := 32) (by decide), ← ev12, y_fiZ oY0 (k := 31) (by decide), ← ev11]), rfl⟩ (fun n ih15 g H locs hq => ?_)
    obtain ⟨F19, ls, w14, rfl, hl, hP, hS, hI, hfr, hz0, h16, h17, h18, hn⟩ := hq
    have o20 : F19 (A 13) = .inl (cs 0, 400, .inl f1) := (hfr _ (by rw [(y_k13 hA)]; decide)).trans o2
    have o21 : F19 (A 30) = .inl (cs 0, 18360, .inl f7) := (hfr _ (by rw [(y_k30 hA)]; decide)).trans o8
    obtain ⟨z22, q23, oY24, bz25, bq26⟩ := y_opY hI ha0
    have hz0 : ∀ k, k ∈ ([1, 2, 3, 4, 5, 6, 7, 8, 11, 15, 16, 19, 25, 26, 27] : List Nat) → z22 k = z0 k := fun k hk => (y_fiZ oY24 (s_sub (by decide) hk)).symm.trans (hz0 k hk)
    have ev10 : v10 = z22 15 := e0_v10.trans (hz0 15 (by decide)).symm
    obtain ⟨f27, o28, b29⟩ := y_op20 hI
    have h17 : (∀ j : Int, 0 ≤ j → j < w14.toInt → y_c f27 j = y_c f7 (918 * v12.toInt + j)) := by have q9 := h17; rw [y_atE o28] at q9; exact q9
    obtain ⟨v30, ev30⟩ : ∃ y : Int32, y = z22 32 := ⟨_, rfl⟩
    have qv30 : 0 ≤ v30.toInt ∧ v30.toInt ≤ 19 := by rw [ev30]; exact y_bY32 bz25
    obtain ⟨v31, ev31⟩ : ∃ y : Int32, y = z22 31 := ⟨_, rfl⟩
    have qv31 : 0 ≤ v31.toInt ∧ v31.toInt ≤ 20 := by rw [ev31]; exact y_bY31 bz25
    have h18 : (v30.toInt = v12.toInt ∧ v31.toInt = v11.toInt) := by have q9 := h18; rw [y_fiZ oY24 (k := 32) (by decide), ← ev30, y_fiZ oY24 (k := 31) (by decide), ← ev31] at q9; exact q9
    have hn_31 := hn
    refine lv_iload_n hx hb dX7_undo_15 rfl (lv_at hl 1 rfl) ?_
    refine lv_sipush (v := 918) hx hb dX7_undo_16 (by decide) ?_
    refine lv_icmp_ge (tgt := 49) hx hb dX7_undo_19 (by decide) (fun c32 => ?_) (fun c32 => ?_)
    · have c32 := (ax_ge (n := 918) (by decide)).mp c32
      refine lv_aload_n hx hb dX7_undo_49 rfl (lv_at hl 0 rfl) ?_
      refine lv_aload_n hx hb dX7_undo_50 rfl (lv_at hl 0 rfl) ?_
      refine th_get (D := (dC, dI)) (ci := 7) (v := .int (z22 32)) (C := RX7) (T := TX7) (N := 34) hx hb hts inX7 hown hK hP (hLK _ ha0 (by decide)) oY24 rfl 32 (by decide) (hts _ T_1232) (fun _ h9 => h9) rfl dX7_undo_51 ?_
      refine ax_eqi (y := v30) ev30.symm ?_
      refine lv_bipush (v := 20) hx hb dX7_undo_54 (by decide) ?_
      refine lv_iadd hx hb dX7_undo_56 ?_
      refine lv_topi (fun v33 ev33 => ?_)
      have qv33 : v33.toInt = v30.toInt + 20 := by rw [ev33]; exact th_add rfl (by decide) ⟨by omega, by omega⟩
      refine lv_iconst (v := 1) hx hb dX7_undo_57 (by decide) ?_
      refine lv_isub hx hb dX7_undo_58 ?_
      refine lv_topi (fun v34 ev34 => ?_)
      have qv34 : v34.toInt = v33.toInt - 1 := by rw [ev34]; exact th_sub rfl (by decide) ⟨by omega, by omega⟩
      refine lv_bipush (v := 20) hx hb dX7_undo_59 (by decide) ?_
      refine lv_irem hx hb dX7_undo_61 (by decide) ?_
      refine lv_topi (fun v35 ev35 => ?_)
      have qv35 : v35.toInt = v34.toInt % 20 := by rw [ev35]; exact th_rem rfl (by decide) (by omega) (by decide)
      refine th_put (D := (dC, dI)) (ci := 7) (v := .int v35) (ty := .int) (C := RX7) (T := TX7) (N := 34) hx hb hts inX7 tyX7 tyX7_ok nmX7 hown hK hP hD hS (hLK _ ha0 (by decide)) oY24 rfl 32 (by decide) (hts _ T_1232) (fun _ h9 => h9) rfl (by decide +kernel) rfl rfl (Nat.le_of_ble_eq_true rfl) dX7_undo_62 (fun H locs hP hS => ?_)
      rw [y_fs32] at hP
      obtain ⟨z36, hz37⟩ : ∃ g : Nat → Int32, g = upd z22 32 v35 := ⟨_, rfl⟩
      rw [← hz37] at hP
      have bz38 : y_bY z36 := by rw [hz37]; exact y_bp32 bz25 ⟨by omega, by omega⟩
      have hP : va_P (dC, dI) vwCl (va_pl L (va_up F19 a0 (.inr (7, y_fl A z36 q23)))) H := hP
      obtain ⟨F39, hF40⟩ : ∃ G : Nat → va_E, G = va_up F19 a0 (.inr (7, y_fl A z36 q23)) := ⟨_, rfl⟩
      rw [← hF40] at hP
      have hI : y_I K cs A F39 := by rw [hF40]; exact y_clY hA hI ha0 bz38 bq26
      have hfr : ∀ b, K b ∉ [9, 59, 70] → F39 b = F b := by rw [hF40]; exact s_fr hfr ha0 (by decide)
      have o41 : F39 (A 13) = .inl (cs 0, 400, .inl f1) := by rw [hF40]; exact th_ne (th_kd (y_k13 hA) ha0 (by decide)) o20
      have o42 : F39 (A 30) = .inl (cs 0, 18360, .inl f7) := by rw [hF40]; exact th_ne (th_kd (y_k30 hA) ha0 (by decide)) o21
      have o43 : F39 (A 20) = .inl (cs 0, 918, .inl f27) := by rw [hF40]; exact th_ne (th_kd (y_k20 hA) ha0 (by decide)) o28
      have oY44 : F39 a0 = .inr (7, y_fl A z36 q23) := by rw [hF40]; exact th_up
      have hz0 : ∀ k, k ∈ ([1, 2, 3, 4, 5, 6, 7, 8, 11, 15, 16, 19, 25, 26, 27] : List Nat) → z36 k = z0 k := fun k hk => by rw [hz37]; exact (y_un (fun q => absurd hk (by rw [q]; decide))).trans (hz0 k hk)
      have ev10 : v10 = z36 15 := by rw [hz37]; exact ev10.trans (y_un (by decide)).symm
      have ev31 : v31 = z36 31 := by rw [hz37]; exact ev31.trans (y_un (by decide)).symm
      obtain ⟨v45, ev45⟩ : ∃ y : Int32, y = z36 32 := ⟨_, rfl⟩
      have qv45 : v45.toInt = v35.toInt := by rw [ev45, hz37, y_ue]
      refine lv_aload_n hx hb dX7_undo_65 rfl (lv_at hl 0 rfl) ?_
      refine lv_dup hx hb dX7_undo_66 rfl ?_
      refine th_get (D := (dC, dI)) (ci := 7) (v := .int (z36 31)) (C := RX7) (T := TX7) (N := 34) hx hb hts inX7 hown hK hP (hLK _ ha0 (by decide)) oY44 rfl 31 (by decide) (hts _ T_323) (fun _ h9 => h9) rfl dX7_undo_67 ?_
      refine ax_eqi (y := v31) ev31.symm ?_
      refine lv_iconst (v := 1) hx hb dX7_undo_70 (by decide) ?_
      refine lv_isub hx hb dX7_undo_71 ?_
      refine lv_topi (fun v46 ev46 => ?_)
      have qv46 : v46.toInt = v31.toInt - 1 := by rw [ev46]; exact th_sub rfl (by decide) ⟨by omega, by omega⟩
      refine th_put (D := (dC, dI)) (ci := 7) (v := .int v46) (ty := .int) (C := RX7) (T := TX7) (N := 34) hx hb hts inX7 tyX7 tyX7_ok nmX7 hown hK hP hD hS (hLK _ ha0 (by decide)) oY44 rfl 31 (by decide) (hts _ T_323) (fun _ h9 => h9) rfl (by decide +kernel) rfl rfl (Nat.le_of_ble_eq_true rfl) dX7_undo_72 (fun H locs hP hS => ?_)
      rw [y_fs31] at hP
      obtain ⟨z47, hz48⟩ : ∃ g : Nat → Int32, g = upd z36 31 v46 := ⟨_, rfl⟩
      rw [← hz48] at hP
      have bz49 : y_bY z47 := by rw [hz48]; exact y_bp31 bz38 ⟨by omega, by omega⟩
      have hP : va_P (dC, dI) vwCl (va_pl L (va_up F39 a0 (.inr (7, y_fl A z47 q23)))) H := hP
      obtain ⟨F50, hF51⟩ : ∃ G : Nat → va_E, G = va_up F39 a0 (.inr (7, y_fl A z47 q23)) := ⟨_, rfl⟩
      rw [← hF51] at hP
      have hI : y_I K cs A F50 := by rw [hF51]; exact y_clY hA hI ha0 bz49 bq26
      have hfr : ∀ b, K b ∉ [9, 59, 70] → F50 b = F b := by rw [hF51]; exact s_fr hfr ha0 (by decide)
      have o52 : F50 (A 13) = .inl (cs 0, 400, .inl f1) := by rw [hF51]; exact th_ne (th_kd (y_k13 hA) ha0 (by decide)) o41
      have o53 : F50 (A 30) = .inl (cs 0, 18360, .inl f7) := by rw [hF51]; exact th_ne (th_kd (y_k30 hA) ha0 (by decide)) o42
      have o54 : F50 (A 20) = .inl (cs 0, 918, .inl f27) := by rw [hF51]; exact th_ne (th_kd (y_k20 hA) ha0 (by decide)) o43
      have oY55 : F50 a0 = .inr (7, y_fl A z47 q23) := by rw [hF51]; exact th_up
      have hz0 : ∀ k, k ∈ ([1, 2, 3, 4, 5, 6, 7, 8, 11, 15, 16, 19, 25, 26, 27] : List Nat) → z47 k = z0 k := fun k hk => by rw [hz48]; exact (y_un (fun q => absurd hk (by rw [q]; decide))).trans (hz0 k hk)
      have ev10 : v10 = z47 15 := by rw [hz48]; exact ev10.trans (y_un (by decide)).symm
      have ev45 : v45 = z47 32 := by rw [hz48]; exact ev45.trans (y_un (by decide)).symm
      obtain ⟨v56, ev56⟩ : ∃ y : Int32, y = z47 31 := ⟨_, rfl⟩
      have qv56 : v56.toInt = v46.toInt := by rw [ev56, hz48, y_ue]
      refine lv_iconst (v := 1) hx hb dX7_undo_75 (by decide) ?_
      have h57 : (1 : Int32).toInt = 1 := by decide
      exact W.zret (v := 1) (ty := .boolean) hx hb hr (by decide) (fun t ht hW => ⟨⟨1, F50, rfl, ⟨(by decide), trivial, hI, hfr, fun k hk => (y_fiZ oY55 (s_sub (by decide) hk)).trans ((hz0 k hk).trans (y_fiZ oY0 (s_sub (by decide) hk)).symm), (by rw [y_fiZ oY55 (k := 15) (by decide), ← ev10, y_atE o52, y_atE o54, y_atE o53, y_fiZ oY55 (k := 31) (by decide), ← ev56, y_fiZ oY55 (k := 32) (by decide), ← ev45]; exact (Or.inr ⟨by omega, hPG, y_NGcp (fun j h0 h1 => by rw [y_slc h0]; exact h17 j h0 (by omega)) (by omega) (y_UGt ⟨by omega, by omega⟩ (by omega) hUG), by rw [show v56.toInt = v11.toInt - 1 by omega]; exact y_UGs ⟨by omega, by omega⟩ (by omega) hUG⟩))⟩, by rw [ht]; exact hP, va_K.moved hW.alike hK⟩, hS.F ht⟩) hS.2.2 dX7_undo_76
    · have c32 := mt (ax_ge (n := 918) (by decide)).mpr c32
      refine lv_aload_n hx hb dX7_undo_22 rfl (lv_at hl 0 rfl) ?_
      refine th_get (D := (dC, dI)) (ci := 7) (v := .ref (A 20)) (C := RX7) (T := TX7) (N := 34) hx hb hts inX7 hown hK hP (hLK _ ha0 (by decide)) oY24 rfl 20 (by decide) (hts _ T_251) (fun _ h9 => h9) rfl dX7_undo_23 ?_
      refine lv_iload_n hx hb dX7_undo_26 rfl (lv_at hl 1 rfl) ?_
      refine lv_aload_n hx hb dX7_undo_27 rfl (lv_at hl 0 rfl) ?_
      refine th_get (D := (dC, dI)) (ci := 7) (v := .ref (A 30)) (C := RX7) (T := TX7) (N := 34) hx hb hts inX7 hown hK hP (hLK _ ha0 (by decide)) oY24 rfl 30 (by decide) (hts _ T_259) (fun _ h9 => h9) rfl dX7_undo_28 ?_
      refine lv_sipush (v := 918) hx hb dX7_undo_31 (by decide) ?_
      refine lv_aload_n hx hb dX7_undo_34 rfl (lv_at hl 0 rfl) ?_
      refine th_get (D := (dC, dI)) (ci := 7) (v := .int (z22 32)) (C := RX7) (T := TX7) (N := 34) hx hb hts inX7 hown hK hP (hLK _ ha0 (by decide)) oY24 rfl 32 (by decide) (hts _ T_1232) (fun _ h9 => h9) rfl dX7_undo_35 ?_
      refine ax_eqi (y := v30) ev30.symm ?_
      refine lv_imul hx hb dX7_undo_38 ?_
      refine lv_topi (fun v58 ev58 => ?_)
      have qv58 : v58.toInt = 918 * v30.toInt := by rw [ev58]; exact th_mul (by decide) rfl ⟨by omega, by omega⟩
      refine lv_iload_n hx hb dX7_undo_39 rfl (lv_at hl 1 rfl) ?_
      refine lv_iadd hx hb dX7_undo_40 ?_
      refine lv_topi (fun v59 ev59 => ?_)
      have qv59 : v59.toInt = v58.toInt + w14.toInt := by rw [ev59]; exact th_add rfl rfl ⟨by omega, by omega⟩
      refine th_iald hx hb hK hP (hLK _ (y_k30 hA) (by decide)) 0 o21 rfl (th_in ⟨by omega, by omega⟩) dX7_undo_41 ?_
      refine lv_topi (fun v60 ev60 => ?_)
      have Ev60 : v60 = y_c f7 (918 * v12.toInt + w14.toInt) := ev60.trans (y_ci (by omega))
      have tEv60 := congrArg Int32.toInt Ev60
      refine th_iast hx hb hK hP hD hS (hLK _ (y_k20 hA) (by decide)) 0 o28 rfl (th_in ⟨by omega, by omega⟩) dX7_undo_42 (fun H locs hP hS => ?_)
      obtain ⟨f61, u62⟩ : ∃ g : Nat → Int32, g = upd f27 (w14 : Int32).toNatClampNeg v60 := ⟨_, rfl⟩
      rw [← u62] at hP
      have b63 : y_bd 20 f61 := trivial
      have hP : va_P (dC, dI) vwCl (va_pl L (va_up F19 (A 20) (.inl (cs 0, 918, .inl f61)))) H := hP
      obtain ⟨F64, hF65⟩ : ∃ G : Nat → va_E, G = va_up F19 (A 20) (.inl (cs 0, 918, .inl f61)) := ⟨_, rfl⟩
      rw [← hF65] at hP
      have hI : y_I K cs A F64 := by rw [hF65]; exact y_clA (i := 20) hA hI (by decide) b63
      have hfr : ∀ b, K b ∉ [9, 59, 70] → F64 b = F b := by rw [hF65]; exact s_fr hfr (y_k20 hA) (by decide)
      have o66 : F64 (A 13) = .inl (cs 0, 400, .inl f1) := by rw [hF65]; exact th_ne (th_kd (y_k13 hA) (y_k20 hA) (by decide)) o20
      have o67 : F64 (A 30) = .inl (cs 0, 18360, .inl f7) := by rw [hF65]; exact th_ne (th_kd (y_k30 hA) (y_k20 hA) (by decide)) o21
      have oY68 : F64 a0 = .inr (7, y_fl A z22 q23) := by rw [hF65]; exact th_ne (th_kd ha0 (y_k20 hA) (by decide)) oY24
      have o69 : F64 (A 20) = .inl (cs 0, 918, .inl f61) := by rw [hF65]; exact th_up
      have u70 : ∀ j : Int, 0 ≤ j → y_c f61 j = if j = w14.toInt then v60 else y_c f27 j := by rw [u62]; exact y_cu rfl (by omega)
      obtain ⟨v71, ev71⟩ : ∃ y : Int32, w14 + 1 = y := ⟨_, rfl⟩
      have qv71 : v71.toInt = w14.toInt + 1 := by rw [← ev71]; exact th_add rfl (by decide) ⟨by omega, by omega⟩
      refine lv_iinc (v := v71) (lv' := [(1, .int v71), (0, .ref a0)]) hx hb dX7_undo_43 hl (k := 1) rfl ev71 (by decide) rfl (fun ls hl => ?_)
      refine lv_goto (tgt := 15) hx hb dX7_undo_46 (by decide) ?_
      exact ih15 _ _ _ _ (by omega) ⟨F64, _, v71, rfl, lv_sub hl [1, 0] rfl, hP, hS, hI, hfr, (fun k hk => (y_fiZ oY68 (s_sub (by decide) hk)).trans (hz0 k hk)), ⟨by omega, by omega⟩, (by rw [y_atE o69]; exact (fun j h0 h1 => by rw [u70 j h0]; split; rename_i q9; rw [q9]; exact Ev60; exact h17 j h0 (by omega))), (by first | (rw [y_fiZ oY68 (k := 32) (by decide), ← ev30, y_fiZ oY68 (k := 31) (by decide), ← ev31]; omega) | rw [y_fiZ oY68 (k := 32) (by decide), ← ev30, y_fiZ oY68 (k := 31) (by decide), ← ev31]), rfl⟩
  · have c13 := (ax_eq (n := 0) (by decide)).mp c13
    refine lv_aload_n hx hb dX7_undo_7 rfl (lv_at hl 0 rfl) ?_
    refine lv_iconst (v := 4) hx hb dX7_undo_8 (by decide) ?_
    refine va_calli (va_runV (As := [.int 4]) (rest := []) ⟨hx, hb, hml, hown, hts⟩ (y_X7_isRefused l dC dI H.size hLK A hA F a0 4 ha0 (by decide) hI) (cwV 1 hts (ax_gV T_262 T_263 T_264 T_265 T_20) rfl rfl rfl (by decide +kernel) ⟨Nat.le_of_ble_eq_true rfl, Nat.le_of_ble_eq_true rfl⟩) ⟨fun a U g mk q => ⟨q.1, s_pc (U := U) rfl rfl q.2⟩, s_recv hK hP (hLK _ ha0 (by decide)) (ci := 7) rfl oY0, fun U hU hW => ⟨rfl, s_pw hU hW hP hK hD hN⟩⟩ rfl rfl hl.1 rfl (lv_room (Nat.le_of_ble_eq_true rfl)) dX7_undo_9 ⟨Nat.zero_le _, Nat.zero_le _⟩) hS (fun q _ h => h) (fun q h => h) (fun r73 F74 t H1 locs ht hvm hw hB hz1 hk1 hS => ?_)
    obtain ⟨hP, hK1⟩ := hB
    rw [ht] at hP
    generalize H1 = H at hP hS ⊢
    clear hz1 hk1 hvm hK1
    obtain ⟨h75, h77, hI, hfr1, hzf, h76⟩ := hw
    have o78 : F74 (A 13) = .inl (cs 0, 400, .inl f1) := (hfr1 _ (by rw [(y_k13 hA)]; decide)).trans o2
    have o79 : F74 (A 20) = .inl (cs 0, 918, .inl f4) := (hfr1 _ (by rw [(y_k20 hA)]; decide)).trans o5
    have o80 : F74 (A 30) = .inl (cs 0, 18360, .inl f7) := (hfr1 _ (by rw [(y_k30 hA)]; decide)).trans o8
    have oY81 : F74 a0 = .inr (7, y_fl A z0 q0) := (hfr1 _ (by rw [ha0]; decide)).trans oY0
    have hfr : ∀ b, K b ∉ [9, 59, 70] → F74 b = F b := fun b hb9 => (hfr1 b (fun q => hb9 (s_sub (by decide) q))).trans (hfr b hb9)
    exact W.zret (v := r73) (ty := .boolean) hx hb hr (th_nz ⟨by omega, by omega⟩) (fun t ht hW => ⟨⟨r73, F74, rfl, ⟨⟨by omega, by omega⟩, trivial, hI, hfr, fun k hk => (y_fiZ oY81 (s_sub (by decide) hk)).trans ((hz0 k hk).trans (y_fiZ oY0 (s_sub (by decide) hk)).symm), (by rw [y_fiZ oY81 (k := 15) (by decide), ← ev10, y_atE o78, y_atE o79, y_atE o80, y_fiZ oY81 (k := 31) (by decide), ← ev11, y_fiZ oY81 (k := 32) (by decide), ← ev12]; exact hT)⟩, by rw [ht]; exact hP, va_K.moved hW.alike hK⟩, hS.F ht⟩) hS.2.2 dX7_undo_12
