set_option maxHeartbeats 4000000 in
set_option maxRecDepth 100000 in
theorem y_X7_lineOf (l : Launch) (dC : Nat → ClassId) (dI : Nat → Nat → Nat) (sz : Nat) {L : List Nat} {K : Nat → Nat} {cs : Nat → ClassId} (hLK : ∀ a {k : Nat}, K a = k → k ≠ 0 → a ∈ L) (A : Nat → Nat) (hA : y_A K A) (F : Nat → va_E) (a0 : Nat) (x1 : Int32) (ha0 : K a0 = 9) (hx1 : 0 ≤ x1.toInt ∧ x1.toInt ≤ 3) (hI : y_I K cs A F) (hNW : y_NW (y_c (y_at F (A 13)) 387).toInt (y_at F (A 20)) x1.toInt) (hgo : y_go (y_at F (A 20)) x1.toInt) : Met l yX7_lineOf (Cond.code yX7_lineOf cX7_lineOf 4 (some .int) :: T0) ({ frames := 4, cells := 0, slots := 0, locals := 89 }) (va_Pc [.ref a0, .int x1] (s_W dC dI sz L F [(cs 0, .int), (cs 1, .byte), (cs 2, .long), (cs 3, .object RX5), (cs 4, .object RX4), (cs 5, .array .int), (cs 6, .char), (cs 7, .boolean)])) (va_Qi (fun (r : Int32) (G : Nat → va_E) => True ∧ True ∧ y_I K cs A G ∧ (∀ b, K b ∉ ([] : List Nat) → G b = F b) ∧ (∀ k, k ∈ ([1, 2, 3, 4, 5, 6, 7, 8, 11, 15, 16, 19, 25, 26, 27, 31, 32] : List Nat) → y_fi G a0 k = y_fi F a0 k) ∧ (0 ≤ r.toInt ∧ r.toInt < (y_c (y_at F (A 13)) 387).toInt)) (fun (G : Nat → va_E) (t : State) => va_P (dC, dI) vwCl (va_pl L G) t.heap ∧ va_K (dC, dI) vwCl [(cs 0, .int), (cs 1, .byte), (cs 2, .long), (cs 3, .object RX5), (cs 4, .object RX4), (cs 5, .array .int), (cs 6, .char), (cs 7, .boolean)] t) (fun q => q ∈ L)) 0 0 (fun q => q ∈ L) := by
  refine Met.ofW (cc := cX7_lineOf) (maxL := 4) (ret := (some .int)) (by decide) rfl ?_
  intro p e s m args below meth c s₁ B hml hv
  obtain ⟨rfl, hsz, hP, hK, hD, hN⟩ := hv
  have hx := B.exec
  have hb := B.bytes
  have hr := B.returns
  have hts : ∀ w ∈ T0, w.before _ s = true := fun w h => atoms_spec (ws := Cond.code yX7_lineOf cX7_lineOf 4 (some .int) :: T0) B.pre w (List.mem_cons_of_mem _ h)
  have hown : s.vm.findClass RX7 = some m.cls := findClass_of_methodNamed B.named
  have hlocks := B.notSynchronized
  have hS : va_S (fun q => q ∈ L) s.heap s.heap [] := va_S.rf
  have hfr : ∀ b, K b ∉ ([] : List Nat) → F b = F b := fun _ _ => rfl
  have hl := lv_entry ([.ref a0, .int x1]) (n := 4) (Nat.le_of_ble_eq_true rfl)
  rw [lg_entry_eq]
  generalize (lg_sl ([.ref a0, .int x1]) ++ List.replicate (4 - (lg_sl ([.ref a0, .int x1])).length) Slot.unset).toArray = ls at hl ⊢
  have hl : lv_has ls 4 [(0, .ref a0), (1, .int x1)] := hl
  refine s_gen hP hS (fun H locs hP hS => ?_)
  obtain ⟨z0, q0, oY0, bz0, bq0⟩ := y_opY hI ha0
  have hz0 : ∀ k, k ∈ ([1, 2, 3, 4, 5, 6, 7, 8, 11, 15, 16, 19, 25, 26, 27, 31, 32] : List Nat) → z0 k = z0 k := fun _ _ => rfl
  obtain ⟨f1, o2, b3⟩ := y_op13 hI
  obtain ⟨f4, o5, b6⟩ := y_op20 hI
  have hNW : y_NW (y_c f1 387).toInt f4 x1.toInt := by have q9 := hNW; rw [y_atE o2, y_atE o5] at q9; exact q9
  have hgo : y_go f4 x1.toInt := by have q9 := hgo; rw [y_atE o5] at q9; exact q9
  have hnw := hNW.1.2.2
  refine lv_aload_n hx hb dX7_lineOf_0 rfl (lv_at hl 0 rfl) ?_
  refine th_get (D := (dC, dI)) (ci := 7) (v := .ref (A 20)) (C := RX7) (T := TX7) (N := 34) hx hb hts inX7 hown hK hP (hLK _ ha0 (by decide)) oY0 rfl 20 (by decide) (hts _ T_251) (fun _ h9 => h9) rfl dX7_lineOf_1 ?_
  refine lv_iconst (v := 3) hx hb dX7_lineOf_4 (by decide) ?_
  refine th_iald hx hb hK hP (hLK _ (y_k20 hA) (by decide)) 0 o5 rfl (ax_in (by decide)) dX7_lineOf_5 ?_
  refine lv_topi (fun v7 ev7 => ?_)
  have Ev7 : v7 = y_c f4 (3) := ev7.trans (y_ci (by decide))
  have tEv7 := congrArg Int32.toInt Ev7
  refine lv_if_ne (tgt := 25) hx hb dX7_lineOf_6 (by decide) (fun c8 => ?_) (fun c8 => ?_)
  · have c8 := mt (ax_eq (n := 0) (by decide)).mpr c8
    have hF9 := hNW.2.2 (by rw [← Ev7]; exact c8)
    refine lv_aload_n hx hb dX7_lineOf_25 rfl (lv_at hl 0 rfl) ?_
    refine lv_iload_n hx hb dX7_lineOf_26 rfl (lv_at hl 1 rfl) ?_
    refine va_calli (va_runV (As := [.int x1]) (rest := []) ⟨hx, hb, hml, hown, hts⟩ (y_X7_together l dC dI H.size hLK A hA F a0 x1 ha0 (⟨by omega, by omega⟩) hI (by rw [y_atE o5]; exact hNW.1)) (cwV 1 hts (ax_gV T_1061 T_1063 T_1064 T_265 T_1062) rfl rfl rfl (by decide +kernel) ⟨Nat.le_of_ble_eq_true rfl, Nat.le_of_ble_eq_true rfl⟩) ⟨fun a U g mk q => ⟨q.1, s_pc rfl rfl q.2⟩, s_recv hK hP (hLK _ ha0 (by decide)) (ci := 7) rfl oY0, fun U hU hW => ⟨rfl, s_pw hU hW hP hK hD hN⟩⟩ rfl rfl hl.1 rfl (lv_room (Nat.le_of_ble_eq_true rfl)) dX7_lineOf_27 ⟨Nat.zero_le _, Nat.zero_le _⟩) hS (fun q _ h => h) (fun q h => h) (fun r10 F11 t H1 locs ht hvm hw hB hz1 hk1 hS => ?_)
    obtain ⟨hP, hK1⟩ := hB
    rw [ht] at hP
    generalize H1 = H at hP hS ⊢
    obtain ⟨h12, h14, hI, hfr1, hzf, h13⟩ := hw
    have o15 : F11 (A 13) = .inl (cs 0, 400, .inl f1) := (hfr1 _ (by rw [(y_k13 hA)]; decide)).trans o2
    have o16 : F11 (A 20) = .inl (cs 0, 918, .inl f4) := (hfr1 _ (by rw [(y_k20 hA)]; decide)).trans o5
    have oY17 : F11 a0 = .inr (7, y_fl A z0 q0) := (hfr1 _ (by rw [ha0]; decide)).trans oY0
    have hfr : ∀ b, K b ∉ ([] : List Nat) → F11 b = F b := fun b hb9 => (hfr1 b (fun q => hb9 (s_sub (by decide) q))).trans (hfr b hb9)
    have h13 : (y_TG f4 x1.toInt r10) := by have q9 := h13; rw [y_atE o5] at q9; exact q9
    obtain ⟨i0, hi0, hbi⟩ := y_ex (y_8s h13.1 hNW.1.1) (h13.2.2.2.mpr hgo)
    obtain ⟨ii, hii0, hii1, hii2⟩ := y_nat8 hi0
    rw [← hii2] at hbi
    refine lv_istore_n (lv' := [(2, .int r10), (0, .ref a0), (1, .int x1)]) hx hb dX7_lineOf_30 rfl hl (by decide) rfl (fun ls hl => ?_)
    refine lv_iconst (v := 0) hx hb dX7_lineOf_31 (by decide) ?_
    refine lv_istore_n (lv' := [(3, .int 0), (2, .int r10), (0, .ref a0), (1, .int x1)]) hx hb dX7_lineOf_32 rfl hl (by decide) rfl (fun ls hl => ?_)
    have h19 : (0 : Int32).toInt = 0 := by decide
    refine th_loop (fun n g H locs => ∃ (G : Nat → va_E) (ls : Array Slot) (w18 : Int32), g = F0 m 33 ls [] ∧ lv_has ls 4 [(0, .ref a0), (1, .int x1), (2, .int r10), (3, .int w18)] ∧ va_P (dC, dI) vwCl (va_pl L G) H ∧ va_S (fun q => q ∈ L) s.heap H locs ∧ y_I K cs A G ∧ (∀ b, K b ∉ ([] : List Nat) → G b = F b) ∧ (∀ k, k ∈ ([1, 2, 3, 4, 5, 6, 7, 8, 11, 15, 16, 19, 25, 26, 27, 31, 32] : List Nat) → y_fi G a0 k = z0 k) ∧ (0 ≤ w18.toInt ∧ w18.toInt ≤ 7) ∧ (0 ≤ x1.toInt ∧ x1.toInt ≤ 3) ∧ (w18.toInt ≤ ii) ∧ n = (ii + 1 - w18.toInt).toNat) _ ⟨F11, _, 0, rfl, lv_sub hl [2, 3, 1, 0] rfl, hP, hS, hI, hfr, (fun k hk => (y_fiZ oY17 (s_sub (by decide) hk)).trans (hz0 k hk)), (by decide), ⟨by omega, by omega⟩, (by omega), rfl⟩ (fun n ih33 g H locs hq => ?_)
    obtain ⟨F23, ls, w18, rfl, hl, hP, hS, hI, hfr, hz0, h20, h21, h22, hn⟩ := hq
    have o24 : F23 (A 13) = .inl (cs 0, 400, .inl f1) := (hfr _ (by rw [(y_k13 hA)]; decide)).trans o2
    have o25 : F23 (A 20) = .inl (cs 0, 918, .inl f4) := (hfr _ (by rw [(y_k20 hA)]; decide)).trans o5
    have oY26 : F23 a0 = .inr (7, y_fl A z0 q0) := (hfr _ (by rw [ha0]; decide)).trans oY0
    have hz0 : ∀ k, k ∈ ([1, 2, 3, 4, 5, 6, 7, 8, 11, 15, 16, 19, 25, 26, 27, 31, 32] : List Nat) → z0 k = z0 k := fun _ _ => rfl
    have hn_26 := hn
    refine lv_iload_n hx hb dX7_lineOf_33 rfl (lv_at hl 2 rfl) ?_
    refine lv_iload_n hx hb dX7_lineOf_34 rfl (lv_at hl 3 rfl) ?_
    refine va_calli (va_runS (As := [.int r10, .int w18]) (rest := []) ⟨hx, hb, hml, hown, hts⟩ (y_X7_isOf l dC dI H.size F23 r10 w18 (⟨by omega, by omega⟩)) (cwS 2 hts (ax_gS T_1027 T_1029 T_265 T_1028) rfl rfl rfl (by decide +kernel) ⟨Nat.le_of_ble_eq_true rfl, Nat.le_of_ble_eq_true rfl⟩) ⟨fun a U g mk q => ⟨q.1, s_pc rfl rfl q.2⟩, fun U hU hW => ⟨rfl, s_pw hU hW hP hK hD hN⟩⟩ rfl rfl hl.1 rfl (lv_room (Nat.le_of_ble_eq_true rfl)) dX7_lineOf_35 ⟨Nat.zero_le _, Nat.zero_le _⟩) hS (fun q _ h => h) (fun q h => h) (fun r28 F29 t H1 locs ht hvm hw hB hz1 hk1 hS => ?_)
    obtain ⟨hP, hK1⟩ := hB
    rw [ht] at hP
    generalize H1 = H at hP hS ⊢
    obtain ⟨h30, h32, hG9, h31⟩ := hw
    rw [hG9] at hP
    have h31 : ((r28.toInt = 1 ∧ bt r10 w18.toInt.toNat = true) ∨ (r28.toInt = 0 ∧ bt r10 w18.toInt.toNat = false)) := by have q9 := h31; exact q9
    refine lv_if_ne (tgt := 47) hx hb dX7_lineOf_38 (by decide) (fun c33 => ?_) (fun c33 => ?_)
    · have c33 := mt (ax_eq (n := 0) (by decide)).mpr c33
      have hbf := y_bT h31 c33
      have hl9 := hF9 w18.toInt (by omega) (by omega)
      have hl8 := hl9.2 (h13.1 _ hbf)
      refine lv_aload_n hx hb dX7_lineOf_47 rfl (lv_at hl 0 rfl) ?_
      refine th_get (D := (dC, dI)) (ci := 7) (v := .ref (A 20)) (C := RX7) (T := TX7) (N := 34) hx hb hts inX7 hown hK hP (hLK _ ha0 (by decide)) oY26 rfl 20 (by decide) (hts _ T_251) (fun _ h9 => h9) rfl dX7_lineOf_48 ?_
      refine lv_iload_n hx hb dX7_lineOf_51 rfl (lv_at hl 1 rfl) ?_
      refine lv_iload_n hx hb dX7_lineOf_52 rfl (lv_at hl 3 rfl) ?_
      refine va_calli (va_runS (As := [.int x1, .int w18]) (rest := [.ref (A 20)]) ⟨hx, hb, hml, hown, hts⟩ (y_X7_nextAt l dC dI H.size F23 x1 w18 (⟨by omega, by omega⟩) (⟨by omega, by omega⟩)) (cwS 2 hts (ax_gS T_1024 T_1026 T_265 T_1025) rfl rfl rfl (by decide +kernel) ⟨Nat.le_of_ble_eq_true rfl, Nat.le_of_ble_eq_true rfl⟩) ⟨fun a U g mk q => ⟨q.1, s_pc rfl rfl q.2⟩, fun U hU hW => ⟨rfl, s_pw hU hW hP hK hD hN⟩⟩ rfl rfl hl.1 rfl (lv_room (Nat.le_of_ble_eq_true rfl)) dX7_lineOf_53 ⟨Nat.zero_le _, Nat.zero_le _⟩) hS (fun q _ h => h) (fun q h => h) (fun r35 F36 t H1 locs ht hvm hw hB hz1 hk1 hS => ?_)
      obtain ⟨hP, hK1⟩ := hB
      rw [ht] at hP
      generalize H1 = H at hP hS ⊢
      obtain ⟨h37, h39, hG9, h38⟩ := hw
      rw [hG9] at hP
      have h38 : (r35.toInt = 256 + 8 * x1.toInt + w18.toInt) := by have q9 := h38; exact q9
      refine th_iald hx hb hK hP (hLK _ (y_k20 hA) (by decide)) 0 o25 rfl (th_in ⟨by omega, by omega⟩) dX7_lineOf_56 ?_
      refine lv_topi (fun v40 ev40 => ?_)
      have Ev40 : v40 = y_c f4 (256 + 8 * x1.toInt + w18.toInt) := ev40.trans (y_ci (by omega))
      have tEv40 := congrArg Int32.toInt Ev40
      exact W.iret (v := v40) hx hb hr (fun t ht hW => ⟨⟨v40, F23, rfl, ⟨trivial, trivial, hI, hfr, fun k hk => (y_fiZ oY26 (s_sub (by decide) hk)).trans ((hz0 k hk).trans (y_fiZ oY0 (s_sub (by decide) hk)).symm), (by first | (rw [y_atE o2]; omega) | rw [y_atE o2])⟩, by rw [ht]; exact hP, va_K.moved hW.alike hK⟩, hS.F ht⟩) hS.2.2 dX7_lineOf_57
    · have c33 := (ax_eq (n := 0) (by decide)).mp c33
      have hne9 : ¬ w18.toInt = ii := fun q => by have q8 := y_bF h31 c33; rw [q, hbi] at q8; cases q8
      obtain ⟨v41, ev41⟩ : ∃ y : Int32, w18 + 1 = y := ⟨_, rfl⟩
      have qv41 : v41.toInt = w18.toInt + 1 := by rw [← ev41]; exact th_add rfl (by decide) ⟨by omega, by omega⟩
      refine lv_iinc (v := v41) (lv' := [(3, .int v41), (0, .ref a0), (1, .int x1), (2, .int r10)]) hx hb dX7_lineOf_41 hl (k := 3) rfl ev41 (by decide) rfl (fun ls hl => ?_)
      have h42 : 1 ≤ v41.toInt ∧ v41.toInt ≤ 7 := ⟨by omega, by omega⟩
      refine lv_goto (tgt := 33) hx hb dX7_lineOf_44 (by decide) ?_
      exact ih33 _ _ _ _ (by omega) ⟨F23, _, v41, rfl, lv_sub hl [1, 2, 3, 0] rfl, hP, hS, hI, hfr, (fun k hk => (y_fiZ oY26 (s_sub (by decide) hk)).trans (hz0 k hk)), ⟨by omega, by omega⟩, ⟨by omega, by omega⟩, (by omega), rfl⟩
  · have c8 := (ax_eq (n := 0) (by decide)).mp c8
    obtain ⟨hS1, hS2⟩ := hNW.2.1 (by rw [← Ev7]; exact c8)
    have hgn : 0 < (y_c f4 (109 + 6 * x1.toInt)).toInt := hgo.elim (fun _ q => (q.2.2.2 (by omega)).1)
    have ht9 := hS2 hgn
    have ht8 := hS1.1 ((y_c f4 (109 + 6 * x1.toInt)).toInt - 1) (by omega) (by omega)
    rw [show 288 + 48 * x1.toInt + 3 * ((y_c f4 (109 + 6 * x1.toInt)).toInt - 1) = 285 + 48 * x1.toInt + 3 * (y_c f4 (109 + 6 * x1.toInt)).toInt by omega] at ht8
    refine lv_aload_n hx hb dX7_lineOf_9 rfl (lv_at hl 0 rfl) ?_
    refine th_get (D := (dC, dI)) (ci := 7) (v := .ref (A 20)) (C := RX7) (T := TX7) (N := 34) hx hb hts inX7 hown hK hP (hLK _ ha0 (by decide)) oY0 rfl 20 (by decide) (hts _ T_251) (fun _ h9 => h9) rfl dX7_lineOf_10 ?_
    refine lv_iload_n hx hb dX7_lineOf_13 rfl (lv_at hl 1 rfl) ?_
    refine lv_aload_n hx hb dX7_lineOf_14 rfl (lv_at hl 0 rfl) ?_
    refine lv_iload_n hx hb dX7_lineOf_15 rfl (lv_at hl 1 rfl) ?_
    refine va_calli (va_runV (As := [.int x1]) (rest := [.int x1, .ref (A 20)]) ⟨hx, hb, hml, hown, hts⟩ (y_X7_top l dC dI H.size hLK A hA F a0 x1 ha0 (⟨by omega, by omega⟩) hI) (cwV 1 hts (ax_gV T_1074 T_1076 T_1077 T_265 T_1075) rfl rfl rfl (by decide +kernel) ⟨Nat.le_of_ble_eq_true rfl, Nat.le_of_ble_eq_true rfl⟩) ⟨fun a U g mk q => ⟨q.1, s_pc rfl rfl q.2⟩, s_recv hK hP (hLK _ ha0 (by decide)) (ci := 7) rfl oY0, fun U hU hW => ⟨rfl, s_pw hU hW hP hK hD hN⟩⟩ rfl rfl hl.1 rfl (lv_room (Nat.le_of_ble_eq_true rfl)) dX7_lineOf_16 ⟨Nat.zero_le _, Nat.zero_le _⟩) hS (fun q _ h => h) (fun q h => h) (fun r44 F45 t H1 locs ht hvm hw hB hz1 hk1 hS => ?_)
    obtain ⟨hP, hK1⟩ := hB
    rw [ht] at hP
    generalize H1 = H at hP hS ⊢
    obtain ⟨h46, h48, hI, hfr1, hzf, h47⟩ := hw
    have o49 : F45 (A 13) = .inl (cs 0, 400, .inl f1) := (hfr1 _ (by rw [(y_k13 hA)]; decide)).trans o2
    have o50 : F45 (A 20) = .inl (cs 0, 918, .inl f4) := (hfr1 _ (by rw [(y_k20 hA)]; decide)).trans o5
    have oY51 : F45 a0 = .inr (7, y_fl A z0 q0) := (hfr1 _ (by rw [ha0]; decide)).trans oY0
    have hfr : ∀ b, K b ∉ ([] : List Nat) → F45 b = F b := fun b hb9 => (hfr1 b (fun q => hb9 (s_sub (by decide) q))).trans (hfr b hb9)
    have h47 : (r44 = y_c f4 (109 + 6 * x1.toInt) - 1) := by have q9 := h47; rw [y_atE o5] at q9; exact q9
    have h52 := congrArg Int32.toInt h47
    have h53 : 0 ≤ r44.toInt ∧ r44.toInt ≤ 14 := by have q9 : r44.toInt = (y_c f4 (109 + 6 * x1.toInt)).toInt - 1 := (by rw [h47]; exact th_sub rfl (by decide) ⟨by omega, by omega⟩); exact ⟨by omega, by omega⟩
    have h54 : r44.toInt = (y_c f4 (109 + 6 * x1.toInt)).toInt - 1 := by rw [h47]; exact th_sub rfl (by decide) ⟨by omega, by omega⟩
    refine lv_iconst (v := 0) hx hb dX7_lineOf_19 (by decide) ?_
    refine va_calli (va_runS (As := [.int x1, .int r44, .int 0]) (rest := [.ref (A 20)]) ⟨hx, hb, hml, hown, hts⟩ (y_X7_partAt l dC dI H.size F45 x1 r44 0 (⟨by omega, by omega⟩) (⟨by omega, by omega⟩) (by decide)) (cwS 3 hts (ax_gS T_1078 T_1080 T_265 T_1079) rfl rfl rfl (by decide +kernel) ⟨Nat.le_of_ble_eq_true rfl, Nat.le_of_ble_eq_true rfl⟩) ⟨fun a U g mk q => ⟨q.1, s_pc rfl rfl q.2⟩, fun U hU hW => ⟨rfl, s_pw hU hW hP hK hD hN⟩⟩ rfl rfl hl.1 rfl (lv_room (Nat.le_of_ble_eq_true rfl)) dX7_lineOf_20 ⟨Nat.zero_le _, Nat.zero_le _⟩) hS (fun q _ h => h) (fun q h => h) (fun r56 F57 t H1 locs ht hvm hw hB hz1 hk1 hS => ?_)
    obtain ⟨hP, hK1⟩ := hB
    rw [ht] at hP
    generalize H1 = H at hP hS ⊢
    obtain ⟨h58, h60, hG9, h59⟩ := hw
    rw [hG9] at hP
    have h59 : (r56.toInt = 288 + 48 * x1.toInt + 3 * r44.toInt + 0) := by have q9 := h59; exact q9
    refine th_iald hx hb hK hP (hLK _ (y_k20 hA) (by decide)) 0 o50 rfl (th_in ⟨by omega, by omega⟩) dX7_lineOf_23 ?_
    refine lv_topi (fun v61 ev61 => ?_)
    have Ev61 : v61 = y_c f4 (285 + 48 * x1.toInt + 3 * (y_c f4 (109 + 6 * x1.toInt)).toInt) := ev61.trans (y_ci (by omega))
    have tEv61 := congrArg Int32.toInt Ev61
    exact W.iret (v := v61) hx hb hr (fun t ht hW => ⟨⟨v61, F45, rfl, ⟨trivial, trivial, hI, hfr, fun k hk => (y_fiZ oY51 (s_sub (by decide) hk)).trans ((hz0 k hk).trans (y_fiZ oY0 (s_sub (by decide) hk)).symm), (by first | (rw [y_atE o2]; omega) | rw [y_atE o2])⟩, by rw [ht]; exact hP, va_K.moved hW.alike hK⟩, hS.F ht⟩) hS.2.2 dX7_lineOf_24

set_option maxHeartbeats 4000000 in
set_option maxRecDepth 100000 in
theorem y_X7_canGo (l : Launch) (dC : Nat → ClassId) (dI : Nat → Nat → Nat) (sz : Nat) {L : List Nat} {K : Nat → Nat} {cs : Nat → ClassId} (hLK : ∀ a {k : Nat}, K a = k → k ≠ 0 → a ∈ L) (A : Nat → Nat) (hA : y_A K A) (F : Nat → va_E) (a0 : Nat) (x1 : Int32) (ha0 : K a0 = 9) (hx1 : 0 ≤ x1.toInt ∧ x1.toInt ≤ 3) (hI : y_I K cs A F) (hW0 : y_W0 (y_at F (A 20)) x1.toInt) : Met l yX7_canGo (Cond.code yX7_canGo cX7_canGo 2 (some .boolean) :: T0) ({ frames := 4, cells := 0, slots := 0, locals := 89 }) (va_Pc [.ref a0, .int x1] (s_W dC dI sz L F [(cs 0, .int), (cs 1, .byte), (cs 2, .long), (cs 3, .object RX5), (cs 4, .object RX4), (cs 5, .array .int), (cs 6, .char), (cs 7, .boolean)])) (va_Qi (fun (r : Int32) (G : Nat → va_E) => (0 ≤ r.toInt ∧ r.toInt ≤ 1) ∧ True ∧ y_I K cs A G ∧ (∀ b, K b ∉ ([] : List Nat) → G b = F b) ∧ (∀ k, k ∈ ([1, 2, 3, 4, 5, 6, 7, 8, 11, 15, 16, 19, 25, 26, 27, 31, 32] : List Nat) → y_fi G a0 k = y_fi F a0 k) ∧ (r.toInt = 0 ∨ y_go (y_at F (A 20)) x1.toInt)) (fun (G : Nat → va_E) (t : State) => va_P (dC, dI) vwCl (va_pl L G) t.heap ∧ va_K (dC, dI) vwCl [(cs 0, .int), (cs 1, .byte), (cs 2, .long), (cs 3, .object RX5), (cs 4, .object RX4), (cs 5, .array .int), (cs 6, .char), (cs 7, .boolean)] t) (fun q => q ∈ L)) 0 0 (fun q => q ∈ L) := by
  refine Met.ofW (cc := cX7_canGo) (maxL := 2) (ret := (some .boolean)) (by decide) rfl ?_
  intro p e s m args below meth c s₁ B hml hv
  obtain ⟨rfl, hsz, hP, hK, hD, hN⟩ := hv
  have hx := B.exec
  have hb := B.bytes
  have hr := B.returns
  have hts : ∀ w ∈ T0, w.before _ s = true := fun w h => atoms_spec (ws := Cond.code yX7_canGo cX7_canGo 2 (some .boolean) :: T0) B.pre w (List.mem_cons_of_mem _ h)
  have hown : s.vm.findClass RX7 = some m.cls := findClass_of_methodNamed B.named
  have hlocks := B.notSynchronized
  have hS : va_S (fun q => q ∈ L) s.heap s.heap [] := va_S.rf
  have hfr : ∀ b, K b ∉ ([] : List Nat) → F b = F b := fun _ _ => rfl
  have hl := lv_entry ([.ref a0, .int x1]) (n := 2) (Nat.le_of_ble_eq_true rfl)
  rw [lg_entry_eq]
  generalize (lg_sl ([.ref a0, .int x1]) ++ List.replicate (2 - (lg_sl ([.ref a0, .int x1])).length) Slot.unset).toArray = ls at hl ⊢
  have hl : lv_has ls 2 [(0, .ref a0), (1, .int x1)] := hl
  refine s_gen hP hS (fun H locs hP hS => ?_)
  obtain ⟨z0, q0, oY0, bz0, bq0⟩ := y_opY hI ha0
  have hz0 : ∀ k, k ∈ ([1, 2, 3, 4, 5, 6, 7, 8, 11, 15, 16, 19, 25, 26, 27, 31, 32] : List Nat) → z0 k = z0 k := fun _ _ => rfl
  obtain ⟨f1, o2, b3⟩ := y_op20 hI
  have hW0 : y_W0 f1 x1.toInt := by have q9 := hW0; rw [y_atE o2] at q9; exact q9
  refine lv_aload_n hx hb dX7_canGo_0 rfl (lv_at hl 0 rfl) ?_
  refine lv_iload_n hx hb dX7_canGo_1 rfl (lv_at hl 1 rfl) ?_
  refine lv_iconst (v := 0) hx hb dX7_canGo_2 (by decide) ?_
  refine va_calli (va_runV (As := [.int x1, .int 0]) (rest := []) ⟨hx, hb, hml, hown, hts⟩ (y_X7_its l dC dI H.size hLK A hA F a0 x1 0 ha0 (⟨by omega, by omega⟩) (by decide) hI) (cwV 2 hts (ax_gV T_1057 T_1059 T_1060 T_265 T_1058) rfl rfl rfl (by decide +kernel) ⟨Nat.le_of_ble_eq_true rfl, Nat.le_of_ble_eq_true rfl⟩) ⟨fun a U g mk q => ⟨q.1, s_pc rfl rfl q.2⟩, s_recv hK hP (hLK _ ha0 (by decide)) (ci := 7) rfl oY0, fun U hU hW => ⟨rfl, s_pw hU hW hP hK hD hN⟩⟩ rfl rfl hl.1 rfl (lv_room (Nat.le_of_ble_eq_true rfl)) dX7_canGo_3 ⟨Nat.zero_le _, Nat.zero_le _⟩) hS (fun q _ h => h) (fun q h => h) (fun r5 F6 t H1 locs ht hvm hw hB hz1 hk1 hS => ?_)
  obtain ⟨hP, hK1⟩ := hB
  rw [ht] at hP
  generalize H1 = H at hP hS ⊢
  obtain ⟨h7, h9, hI, hfr1, hzf, h8⟩ := hw
  have o10 : F6 (A 20) = .inl (cs 0, 918, .inl f1) := (hfr1 _ (by rw [(y_k20 hA)]; decide)).trans o2
  have oY11 : F6 a0 = .inr (7, y_fl A z0 q0) := (hfr1 _ (by rw [ha0]; decide)).trans oY0
  have hfr : ∀ b, K b ∉ ([] : List Nat) → F6 b = F b := fun b hb9 => (hfr1 b (fun q => hb9 (s_sub (by decide) q))).trans (hfr b hb9)
  have h8 : (r5 = y_c f1 (104 + 6 * x1.toInt + 0)) := by have q9 := h8; rw [y_atE o2] at q9; exact q9
  have h8 : r5 = y_c f1 (104 + 6 * x1.toInt) := h8.trans (congrArg (y_c f1) (by omega))
  have h12 := congrArg Int32.toInt h8
  refine lv_aload_n hx hb dX7_canGo_6 rfl (lv_at hl 0 rfl) ?_
  refine th_get (D := (dC, dI)) (ci := 7) (v := .ref (A 20)) (C := RX7) (T := TX7) (N := 34) hx hb hts inX7 hown hK hP (hLK _ ha0 (by decide)) oY11 rfl 20 (by decide) (hts _ T_251) (fun _ h9 => h9) rfl dX7_canGo_7 ?_
  refine lv_iconst (v := 0) hx hb dX7_canGo_10 (by decide) ?_
  refine th_iald hx hb hK hP (hLK _ (y_k20 hA) (by decide)) 0 o10 rfl (ax_in (by decide)) dX7_canGo_11 ?_
  refine lv_topi (fun v13 ev13 => ?_)
  refine lv_icmp_gt (tgt := 27) hx hb dX7_canGo_12 (by decide) (fun c14 => ?_) (fun c14 => ?_)
  · have c14 := Int32.lt_iff_toInt_lt.mp c14
    refine lv_iconst (v := 0) hx hb dX7_canGo_27 (by decide) ?_
    have h15 : (0 : Int32).toInt = 0 := by decide
    exact W.zret (v := 0) (ty := .boolean) hx hb hr (by decide) (fun t ht hW => ⟨⟨0, F6, rfl, ⟨(by decide), trivial, hI, hfr, fun k hk => (y_fiZ oY11 (s_sub (by decide) hk)).trans ((hz0 k hk).trans (y_fiZ oY0 (s_sub (by decide) hk)).symm), (by rw [y_atE o2]; exact Or.inl (by decide))⟩, by rw [ht]; exact hP, va_K.moved hW.alike hK⟩, hS.F ht⟩) hS.2.2 dX7_canGo_28
  · have c14 := mt Int32.lt_iff_toInt_lt.mpr c14
    refine lv_aload_n hx hb dX7_canGo_15 rfl (lv_at hl 0 rfl) ?_
    refine lv_iload_n hx hb dX7_canGo_16 rfl (lv_at hl 1 rfl) ?_
    refine va_calli (va_runV (As := [.int x1]) (rest := []) ⟨hx, hb, hml, hown, hts⟩ (y_X7_together l dC dI H.size hLK A hA F6 a0 x1 ha0 (⟨by omega, by omega⟩) hI (by rw [y_atE o10]; exact hW0)) (cwV 1 hts (ax_gV T_1061 T_1063 T_1064 T_265 T_1062) rfl rfl rfl (by decide +kernel) ⟨Nat.le_of_ble_eq_true rfl, Nat.le_of_ble_eq_true rfl⟩) ⟨fun a U g mk q => ⟨q.1, s_pc rfl rfl q.2⟩, s_recv hK hP (hLK _ ha0 (by decide)) (ci := 7) rfl oY11, fun U hU hW => ⟨rfl, s_pw hU hW hP hK hD hN⟩⟩ rfl rfl hl.1 rfl (lv_room (Nat.le_of_ble_eq_true rfl)) dX7_canGo_17 ⟨Nat.zero_le _, Nat.zero_le _⟩) hS (fun q _ h => h) (fun q h => h) (fun r17 F18 t H1 locs ht hvm hw hB hz1 hk1 hS => ?_)
    obtain ⟨hP, hK1⟩ := hB
    rw [ht] at hP
    generalize H1 = H at hP hS ⊢
    obtain ⟨h19, h21, hI, hfr1, hzf, h20⟩ := hw
    have o22 : F18 (A 20) = .inl (cs 0, 918, .inl f1) := (hfr1 _ (by rw [(y_k20 hA)]; decide)).trans o10
    have oY23 : F18 a0 = .inr (7, y_fl A z0 q0) := (hfr1 _ (by rw [ha0]; decide)).trans oY11
    have hfr : ∀ b, K b ∉ ([] : List Nat) → F18 b = F b := fun b hb9 => (hfr1 b (fun q => hb9 (s_sub (by decide) q))).trans (hfr b hb9)
    have h20 : (y_TG f1 x1.toInt r17) := by have q9 := h20; rw [y_atE o10] at q9; exact q9
    refine lv_if_eq (tgt := 27) hx hb dX7_canGo_20 (by decide) (fun c24 => ?_) (fun c24 => ?_)
    · have c24 := (ax_eq (n := 0) (by decide)).mp c24
      refine lv_iconst (v := 0) hx hb dX7_canGo_27 (by decide) ?_
      have h25 : (0 : Int32).toInt = 0 := by decide
      exact W.zret (v := 0) (ty := .boolean) hx hb hr (by decide) (fun t ht hW => ⟨⟨0, F18, rfl, ⟨(by decide), trivial, hI, hfr, fun k hk => (y_fiZ oY23 (s_sub (by decide) hk)).trans ((hz0 k hk).trans (y_fiZ oY0 (s_sub (by decide) hk)).symm), (by rw [y_atE o2]; exact Or.inl (by decide))⟩, by rw [ht]; exact hP, va_K.moved hW.alike hK⟩, hS.F ht⟩) hS.2.2 dX7_canGo_28
    · have c24 := mt (ax_eq (n := 0) (by decide)).mpr c24
      refine lv_iconst (v := 1) hx hb dX7_canGo_23 (by decide) ?_
      refine lv_goto (tgt := 28) hx hb dX7_canGo_24 (by decide) ?_
      have h26 : (1 : Int32).toInt = 1 := by decide
      exact W.zret (v := 1) (ty := .boolean) hx hb hr (by decide) (fun t ht hW => ⟨⟨1, F18, rfl, ⟨(by decide), trivial, hI, hfr, fun k hk => (y_fiZ oY23 (s_sub (by decide) hk)).trans ((hz0 k hk).trans (y_fiZ oY0 (s_sub (by decide) hk)).symm), (by rw [y_atE o2]; exact Or.inr (h20.2.2.2.mp (y_nz32 c24)))⟩, by rw [ht]; exact hP, va_K.moved hW.alike hK⟩, hS.F ht⟩) hS.2.2 dX7_canGo_28

set_option maxHeartbeats 4000000 in
set_option maxRecDepth 100000 in
theorem y_X7_goer (l : Launch) (dC : Nat → ClassId) (dI : Nat → Nat → Nat) (sz : Nat) {L : List Nat} {K : Nat → Nat} {cs : Nat → ClassId} (hLK : ∀ a {k : Nat}, K a = k → k ≠ 0 → a ∈ L) (A : Nat → Nat) (hA : y_A K A) (F : Nat → va_E) (a0 : Nat) (ha0 : K a0 = 9) (hI : y_I K cs A F) (hPG : y_PG (y_at F (A 13))) (hNG : y_NG (y_at F (A 13)) (y_at F (A 20))) : Met l yX7_goer (Cond.code yX7_goer cX7_goer 3 (some .int) :: T0) ({ frames := 5, cells := 0, slots := 0, locals := 110 }) (va_Pc [.ref a0] (s_W dC dI sz L F [(cs 0, .int), (cs 1, .byte), (cs 2, .long), (cs 3, .object RX5), (cs 4, .object RX4), (cs 5, .array .int), (cs 6, .char), (cs 7, .boolean)])) (va_Qi (fun (r : Int32) (G : Nat → va_E) => (-1 ≤ r.toInt ∧ r.toInt ≤ 3) ∧ True ∧ y_I K cs A G ∧ (∀ b, K b ∉ ([] : List Nat) → G b = F b) ∧ (∀ k, k ∈ ([1, 2, 3, 4, 5, 6, 7, 8, 11, 15, 16, 19, 25, 26, 27, 31, 32] : List Nat) → y_fi G a0 k = y_fi F a0 k) ∧ (r.toInt = -1 ∨ (0 ≤ r.toInt ∧ r.toInt < (y_c (y_at F (A 13)) 384).toInt ∧ y_go (y_at F (A 20)) r.toInt))) (fun (G : Nat → va_E) (t : State) => va_P (dC, dI) vwCl (va_pl L G) t.heap ∧ va_K (dC, dI) vwCl [(cs 0, .int), (cs 1, .byte), (cs 2, .long), (cs 3, .object RX5), (cs 4, .object RX4), (cs 5, .array .int), (cs 6, .char), (cs 7, .boolean)] t) (fun q => q ∈ L)) 0 0 (fun q => q ∈ L) := by
  refine Met.ofW (cc := cX7_goer) (maxL := 3) (ret := (some .int)) (by decide) rfl ?_
  intro p e s m args below meth c s₁ B hml hv
  obtain ⟨rfl, hsz, hP, hK, hD, hN⟩ := hv
  have hx := B.exec
  have hb := B.bytes
  have hr := B.returns
  have hts : ∀ w ∈ T0, w.before _ s = true := fun w h => atoms_spec (ws := Cond.code yX7_goer cX7_goer 3 (some .int) :: T0) B.pre w (List.mem_cons_of_mem _ h)
  have hown : s.vm.findClass RX7 = some m.cls := findClass_of_methodNamed B.named
  have hlocks := B.notSynchronized
  have hS : va_S (fun q => q ∈ L) s.heap s.heap [] := va_S.rf
  have hfr : ∀ b, K b ∉ ([] : List Nat) → F b = F b := fun _ _ => rfl
  have hl := lv_entry ([.ref a0]) (n := 3) (Nat.le_of_ble_eq_true rfl)
  rw [lg_entry_eq]
  generalize (lg_sl ([.ref a0]) ++ List.replicate (3 - (lg_sl ([.ref a0])).length) Slot.unset).toArray = ls at hl ⊢
  have hl : lv_has ls 3 [(0, .ref a0)] := hl
  refine s_gen hP hS (fun H locs hP hS => ?_)
  obtain ⟨z0, q0, oY0, bz0, bq0⟩ := y_opY hI ha0
  have hz0 : ∀ k, k ∈ ([1, 2, 3, 4, 5, 6, 7, 8, 11, 15, 16, 19, 25, 26, 27, 31, 32] : List Nat) → z0 k = z0 k := fun _ _ => rfl
  obtain ⟨f1, o2, b3⟩ := y_op13 hI
  obtain ⟨f4, o5, b6⟩ := y_op20 hI
  have hPG : y_PG f1 := by have q9 := hPG; rw [y_atE o2] at q9; exact q9
  have hNG : y_NG f1 f4 := by have q9 := hNG; rw [y_atE o2, y_atE o5] at q9; exact q9
  have hL := y_P0L hPG.1
  have hW := y_P0W hPG.1
  have hnn := And.intro hNG.1 (And.intro hNG.2.1 (And.intro hNG.2.2.1 hNG.2.2.2.1))
  refine th_join (fun g H locs => ∃ (G : Nat → va_E) (ls : Array Slot) (w7 : Int32), g = F0 m 22 ls [.int w7] ∧ lv_has ls 3 [(0, .ref a0)] ∧ va_P (dC, dI) vwCl (va_pl L G) H ∧ va_S (fun q => q ∈ L) s.heap H locs ∧ y_I K cs A G ∧ (∀ b, K b ∉ ([] : List Nat) → G b = F b) ∧ (∀ k, k ∈ ([1, 2, 3, 4, 5, 6, 7, 8, 11, 15, 16, 19, 25, 26, 27, 31, 32] : List Nat) → y_fi G a0 k = z0 k) ∧ (0 ≤ w7.toInt ∧ w7.toInt ≤ 4)) (fun K22 => ?_) ?_
  · refine lv_aload_n hx hb dX7_goer_0 rfl (lv_at hl 0 rfl) ?_
    refine th_get (D := (dC, dI)) (ci := 7) (v := .ref (A 20)) (C := RX7) (T := TX7) (N := 34) hx hb hts inX7 hown hK hP (hLK _ ha0 (by decide)) oY0 rfl 20 (by decide) (hts _ T_251) (fun _ h9 => h9) rfl dX7_goer_1 ?_
    refine lv_iconst (v := 4) hx hb dX7_goer_4 (by decide) ?_
    refine th_iald hx hb hK hP (hLK _ (y_k20 hA) (by decide)) 0 o5 rfl (ax_in (by decide)) dX7_goer_5 ?_
    refine lv_topi (fun v8 ev8 => ?_)
    refine lv_if_ne (tgt := 13) hx hb dX7_goer_6 (by decide) (fun c9 => ?_) (fun c9 => ?_)
    · have c9 := mt (ax_eq (n := 0) (by decide)).mpr c9
      refine lv_aload_n hx hb dX7_goer_13 rfl (lv_at hl 0 rfl) ?_
      refine th_get (D := (dC, dI)) (ci := 7) (v := .ref (A 20)) (C := RX7) (T := TX7) (N := 34) hx hb hts inX7 hown hK hP (hLK _ ha0 (by decide)) oY0 rfl 20 (by decide) (hts _ T_251) (fun _ h9 => h9) rfl dX7_goer_14 ?_
      refine lv_bipush (v := 6) hx hb dX7_goer_17 (by decide) ?_
      refine th_iald hx hb hK hP (hLK _ (y_k20 hA) (by decide)) 0 o5 rfl (ax_in (by decide)) dX7_goer_19 ?_
      refine lv_topi (fun v10 ev10 => ?_)
      have Ev10 : v10 = y_c f4 (6) := ev10.trans (y_ci (by decide))
      have tEv10 := congrArg Int32.toInt Ev10
      have h11 : -1 ≤ v10.toInt ∧ v10.toInt ≤ 3 := by have q9 : v10.toInt = (y_c f4 6).toInt := congrArg Int32.toInt (ev10.trans (y_ci (by decide))); omega
      refine lv_iconst (v := 1) hx hb dX7_goer_20 (by decide) ?_
      refine lv_iadd hx hb dX7_goer_21 ?_
      refine lv_topi (fun v12 ev12 => ?_)
      have qv12 : v12.toInt = v10.toInt + 1 := by rw [ev12]; exact th_add rfl (by decide) ⟨by omega, by omega⟩
      exact K22 _ _ _ ⟨F, _, v12, rfl, lv_sub hl [0] rfl, hP, hS, hI, hfr, (fun k hk => (y_fiZ oY0 (s_sub (by decide) hk)).trans (hz0 k hk)), ⟨by omega, by omega⟩⟩
    · have c9 := (ax_eq (n := 0) (by decide)).mp c9
      refine lv_iconst (v := 0) hx hb dX7_goer_9 (by decide) ?_
      refine lv_goto (tgt := 22) hx hb dX7_goer_10 (by decide) ?_
      have h13 : (0 : Int32).toInt = 0 := by decide
      exact K22 _ _ _ ⟨F, _, 0, rfl, lv_sub hl [0] rfl, hP, hS, hI, hfr, (fun k hk => (y_fiZ oY0 (s_sub (by decide) hk)).trans (hz0 k hk)), (by decide)⟩
  · intro g H locs hq
    obtain ⟨F15, ls, w7, rfl, hl, hP, hS, hI, hfr, hz0, h14⟩ := hq
    have o16 : F15 (A 13) = .inl (cs 0, 400, .inl f1) := (hfr _ (by rw [(y_k13 hA)]; decide)).trans o2
    have o17 : F15 (A 20) = .inl (cs 0, 918, .inl f4) := (hfr _ (by rw [(y_k20 hA)]; decide)).trans o5
    have oY18 : F15 a0 = .inr (7, y_fl A z0 q0) := (hfr _ (by rw [ha0]; decide)).trans oY0
    have hz0 : ∀ k, k ∈ ([1, 2, 3, 4, 5, 6, 7, 8, 11, 15, 16, 19, 25, 26, 27, 31, 32] : List Nat) → z0 k = z0 k := fun _ _ => rfl
    refine lv_istore_n (lv' := [(1, .int w7), (0, .ref a0)]) hx hb dX7_goer_22 rfl hl (by decide) rfl (fun ls hl => ?_)
    refine lv_iconst (v := 0) hx hb dX7_goer_23 (by decide) ?_
    refine lv_istore_n (lv' := [(2, .int 0), (1, .int w7), (0, .ref a0)]) hx hb dX7_goer_24 rfl hl (by decide) rfl (fun ls hl => ?_)
    have h20 : (0 : Int32).toInt = 0 := by decide
    refine th_loop (fun n g H locs => ∃ (G : Nat → va_E) (ls : Array Slot) (w19 : Int32), g = F0 m 25 ls [] ∧ lv_has ls 3 [(0, .ref a0), (1, .int w7), (2, .int w19)] ∧ va_P (dC, dI) vwCl (va_pl L G) H ∧ va_S (fun q => q ∈ L) s.heap H locs ∧ y_I K cs A G ∧ (∀ b, K b ∉ ([] : List Nat) → G b = F b) ∧ (∀ k, k ∈ ([1, 2, 3, 4, 5, 6, 7, 8, 11, 15, 16, 19, 25, 26, 27, 31, 32] : List Nat) → y_fi G a0 k = z0 k) ∧ (0 ≤ w19.toInt ∧ w19.toInt ≤ 4) ∧ (0 ≤ w7.toInt ∧ w7.toInt ≤ 4) ∧ n = (5 - w19.toInt).toNat) _ ⟨F15, _, 0, rfl, lv_sub hl [2, 1, 0] rfl, hP, hS, hI, hfr, (fun k hk => (y_fiZ oY18 (s_sub (by decide) hk)).trans (hz0 k hk)), (by decide), ⟨by omega, by omega⟩, rfl⟩ (fun n ih25 g H locs hq => ?_)
    obtain ⟨F23, ls, w19, rfl, hl, hP, hS, hI, hfr, hz0, h21, h22, hn⟩ := hq
    have o24 : F23 (A 13) = .inl (cs 0, 400, .inl f1) := (hfr _ (by rw [(y_k13 hA)]; decide)).trans o2
    have o25 : F23 (A 20) = .inl (cs 0, 918, .inl f4) := (hfr _ (by rw [(y_k20 hA)]; decide)).trans o5
    have oY26 : F23 a0 = .inr (7, y_fl A z0 q0) := (hfr _ (by rw [ha0]; decide)).trans oY0
    have hz0 : ∀ k, k ∈ ([1, 2, 3, 4, 5, 6, 7, 8, 11, 15, 16, 19, 25, 26, 27, 31, 32] : List Nat) → z0 k = z0 k := fun _ _ => rfl
    have hn_26 := hn
    refine lv_iload_n hx hb dX7_goer_25 rfl (lv_at hl 2 rfl) ?_
    refine lv_aload_n hx hb dX7_goer_26 rfl (lv_at hl 0 rfl) ?_
    refine va_calli (va_runV (As := []) (rest := [.int w19]) ⟨hx, hb, hml, hown, hts⟩ (y_X7_warps l dC dI H.size hLK A hA F23 a0 ha0 hI) (cwV 0 hts (ax_gV T_993 T_995 T_996 T_265 T_994) rfl rfl rfl (by decide +kernel) ⟨Nat.le_of_ble_eq_true rfl, Nat.le_of_ble_eq_true rfl⟩) ⟨fun a U g mk q => ⟨q.1, s_pc rfl rfl q.2⟩, s_recv hK hP (hLK _ ha0 (by decide)) (ci := 7) rfl oY26, fun U hU hW => ⟨rfl, s_pw hU hW hP hK hD hN⟩⟩ rfl rfl hl.1 rfl (lv_room (Nat.le_of_ble_eq_true rfl)) dX7_goer_27 ⟨Nat.zero_le _, Nat.zero_le _⟩) hS (fun q _ h => h) (fun q h => h) (fun r28 F29 t H1 locs ht hvm hw hB hz1 hk1 hS => ?_)
    obtain ⟨hP, hK1⟩ := hB
    rw [ht] at hP
    generalize H1 = H at hP hS ⊢
    obtain ⟨h30, h32, hI, hfr1, hzf, h31⟩ := hw
    have o33 : F29 (A 13) = .inl (cs 0, 400, .inl f1) := (hfr1 _ (by rw [(y_k13 hA)]; decide)).trans o24
    have o34 : F29 (A 20) = .inl (cs 0, 918, .inl f4) := (hfr1 _ (by rw [(y_k20 hA)]; decide)).trans o25
    have oY35 : F29 a0 = .inr (7, y_fl A z0 q0) := (hfr1 _ (by rw [ha0]; decide)).trans oY26
    have hfr : ∀ b, K b ∉ ([] : List Nat) → F29 b = F b := fun b hb9 => (hfr1 b (fun q => hb9 (s_sub (by decide) q))).trans (hfr b hb9)
    have h31 : (r28 = y_c f1 384) := by have q9 := h31; rw [y_atE o24] at q9; exact q9
    have h36 := congrArg Int32.toInt h31
    have h37 : 1 ≤ r28.toInt ∧ r28.toInt ≤ 4 := ⟨by omega, by omega⟩
    refine lv_icmp_ge (tgt := 63) hx hb dX7_goer_30 (by decide) (fun c38 => ?_) (fun c38 => ?_)
    · have c38 := Int32.le_iff_toInt_le.mp c38
      refine lv_iconst (v := (-1)) hx hb dX7_goer_63 (by decide) ?_
      have h39 : ((-1) : Int32).toInt = (-1) := by decide
      exact W.iret (v := (-1)) hx hb hr (fun t ht hW => ⟨⟨(-1), F29, rfl, ⟨(by decide), trivial, hI, hfr, fun k hk => (y_fiZ oY35 (s_sub (by decide) hk)).trans ((hz0 k hk).trans (y_fiZ oY0 (s_sub (by decide) hk)).symm), (by rw [y_atE o2, y_atE o5]; exact Or.inl (by decide))⟩, by rw [ht]; exact hP, va_K.moved hW.alike hK⟩, hS.F ht⟩) hS.2.2 dX7_goer_64
    · have c38 := mt Int32.le_iff_toInt_le.mpr c38
      refine lv_aload_n hx hb dX7_goer_33 rfl (lv_at hl 0 rfl) ?_
      refine lv_iload_n hx hb dX7_goer_34 rfl (lv_at hl 1 rfl) ?_
      refine lv_iload_n hx hb dX7_goer_35 rfl (lv_at hl 2 rfl) ?_
      refine lv_iadd hx hb dX7_goer_36 ?_
      refine lv_topi (fun v40 ev40 => ?_)
      have qv40 : v40.toInt = w7.toInt + w19.toInt := by rw [ev40]; exact th_add rfl rfl ⟨by omega, by omega⟩
      refine lv_aload_n hx hb dX7_goer_37 rfl (lv_at hl 0 rfl) ?_
      refine va_calli (va_runV (As := []) (rest := [.int v40, .ref a0]) ⟨hx, hb, hml, hown, hts⟩ (y_X7_warps l dC dI H.size hLK A hA F29 a0 ha0 hI) (cwV 0 hts (ax_gV T_993 T_995 T_996 T_265 T_994) rfl rfl rfl (by decide +kernel) ⟨Nat.le_of_ble_eq_true rfl, Nat.le_of_ble_eq_true rfl⟩) ⟨fun a U g mk q => ⟨q.1, s_pc rfl rfl q.2⟩, s_recv hK hP (hLK _ ha0 (by decide)) (ci := 7) rfl oY35, fun U hU hW => ⟨rfl, s_pw hU hW hP hK hD hN⟩⟩ rfl rfl hl.1 rfl (lv_room (Nat.le_of_ble_eq_true rfl)) dX7_goer_38 ⟨Nat.zero_le _, Nat.zero_le _⟩) hS (fun q _ h => h) (fun q h => h) (fun r42 F43 t H1 locs ht hvm hw hB hz1 hk1 hS => ?_)
      obtain ⟨hP, hK1⟩ := hB
      rw [ht] at hP
      generalize H1 = H at hP hS ⊢
      obtain ⟨h44, h46, hI, hfr1, hzf, h45⟩ := hw
      have o47 : F43 (A 13) = .inl (cs 0, 400, .inl f1) := (hfr1 _ (by rw [(y_k13 hA)]; decide)).trans o33
      have o48 : F43 (A 20) = .inl (cs 0, 918, .inl f4) := (hfr1 _ (by rw [(y_k20 hA)]; decide)).trans o34
      have oY49 : F43 a0 = .inr (7, y_fl A z0 q0) := (hfr1 _ (by rw [ha0]; decide)).trans oY35
      have hfr : ∀ b, K b ∉ ([] : List Nat) → F43 b = F b := fun b hb9 => (hfr1 b (fun q => hb9 (s_sub (by decide) q))).trans (hfr b hb9)
      have h45 : (r42 = y_c f1 384) := by have q9 := h45; rw [y_atE o33] at q9; exact q9
      have h50 := congrArg Int32.toInt h45
      have h51 : 1 ≤ r42.toInt ∧ r42.toInt ≤ 4 := ⟨by omega, by omega⟩
      refine lv_irem hx hb dX7_goer_41 (fun q => by have q2 := Int32.toInt_inj.mpr q; have q3 : (0 : Int32).toInt = 0 := (by decide); omega) ?_
      refine lv_topi (fun v52 ev52 => ?_)
      have qv52 : 0 ≤ v52.toInt ∧ v52.toInt < r42.toInt := by rw [ev52]; exact th_remV (by omega) (by omega)
      refine va_calli (va_runV (As := [.int v52]) (rest := []) ⟨hx, hb, hml, hown, hts⟩ (y_X7_canGo l dC dI H.size hLK A hA F43 a0 v52 ha0 (⟨by omega, by omega⟩) hI (by rw [y_atE o48]; exact (hNG.2.2.2.2 v52.toInt (by omega) (by omega)).1)) (cwV 1 hts (ax_gV T_1123 T_1125 T_1126 T_265 T_1124) rfl rfl rfl (by decide +kernel) ⟨Nat.le_of_ble_eq_true rfl, Nat.le_of_ble_eq_true rfl⟩) ⟨fun a U g mk q => ⟨q.1, s_pc rfl rfl q.2⟩, s_recv hK hP (hLK _ ha0 (by decide)) (ci := 7) rfl oY49, fun U hU hW => ⟨rfl, s_pw hU hW hP hK hD hN⟩⟩ rfl rfl hl.1 rfl (lv_room (Nat.le_of_ble_eq_true rfl)) dX7_goer_42 ⟨Nat.zero_le _, Nat.zero_le _⟩) hS (fun q _ h => h) (fun q h => h) (fun r54 F55 t H1 locs ht hvm hw hB hz1 hk1 hS => ?_)
      obtain ⟨hP, hK1⟩ := hB
      rw [ht] at hP
      generalize H1 = H at hP hS ⊢
      obtain ⟨h56, h58, hI, hfr1, hzf, h57⟩ := hw
      have o59 : F55 (A 13) = .inl (cs 0, 400, .inl f1) := (hfr1 _ (by rw [(y_k13 hA)]; decide)).trans o47
      have o60 : F55 (A 20) = .inl (cs 0, 918, .inl f4) := (hfr1 _ (by rw [(y_k20 hA)]; decide)).trans o48
      have oY61 : F55 a0 = .inr (7, y_fl A z0 q0) := (hfr1 _ (by rw [ha0]; decide)).trans oY49
      have hfr : ∀ b, K b ∉ ([] : List Nat) → F55 b = F b := fun b hb9 => (hfr1 b (fun q => hb9 (s_sub (by decide) q))).trans (hfr b hb9)
      have h57 : (r54.toInt = 0 ∨ y_go f4 v52.toInt) := by have q9 := h57; rw [y_atE o48] at q9; exact q9
      refine lv_if_eq (tgt := 57) hx hb dX7_goer_45 (by decide) (fun c62 => ?_) (fun c62 => ?_)
      · have c62 := (ax_eq (n := 0) (by decide)).mp c62
        obtain ⟨v63, ev63⟩ : ∃ y : Int32, w19 + 1 = y := ⟨_, rfl⟩
        have qv63 : v63.toInt = w19.toInt + 1 := by rw [← ev63]; exact th_add rfl (by decide) ⟨by omega, by omega⟩
        refine lv_iinc (v := v63) (lv' := [(2, .int v63), (0, .ref a0), (1, .int w7)]) hx hb dX7_goer_57 hl (k := 2) rfl ev63 (by decide) rfl (fun ls hl => ?_)
        refine lv_goto (tgt := 25) hx hb dX7_goer_60 (by decide) ?_
        exact ih25 _ _ _ _ (by omega) ⟨F55, _, v63, rfl, lv_sub hl [1, 2, 0] rfl, hP, hS, hI, hfr, (fun k hk => (y_fiZ oY61 (s_sub (by decide) hk)).trans (hz0 k hk)), ⟨by omega, by omega⟩, ⟨by omega, by omega⟩, rfl⟩
      · have c62 := mt (ax_eq (n := 0) (by decide)).mpr c62
        refine lv_iload_n hx hb dX7_goer_48 rfl (lv_at hl 1 rfl) ?_
        refine lv_iload_n hx hb dX7_goer_49 rfl (lv_at hl 2 rfl) ?_
        refine lv_iadd hx hb dX7_goer_50 ?_
        refine lv_topi (fun v64 ev64 => ?_)
        have qv64 : v64.toInt = w7.toInt + w19.toInt := by rw [ev64]; exact th_add rfl rfl ⟨by omega, by omega⟩
        refine lv_aload_n hx hb dX7_goer_51 rfl (lv_at hl 0 rfl) ?_
        refine va_calli (va_runV (As := []) (rest := [.int v64]) ⟨hx, hb, hml, hown, hts⟩ (y_X7_warps l dC dI H.size hLK A hA F55 a0 ha0 hI) (cwV 0 hts (ax_gV T_993 T_995 T_996 T_265 T_994) rfl rfl rfl (by decide +kernel) ⟨Nat.le_of_ble_eq_true rfl, Nat.le_of_ble_eq_true rfl⟩) ⟨fun a U g mk q => ⟨q.1, s_pc rfl rfl q.2⟩, s_recv hK hP (hLK _ ha0 (by decide)) (ci := 7) rfl oY61, fun U hU hW => ⟨rfl, s_pw hU hW hP hK hD hN⟩⟩ rfl rfl hl.1 rfl (lv_room (Nat.le_of_ble_eq_true rfl)) dX7_goer_52 ⟨Nat.zero_le _, Nat.zero_le _⟩) hS (fun q _ h => h) (fun q h => h) (fun r66 F67 t H1 locs ht hvm hw hB hz1 hk1 hS => ?_)
        obtain ⟨hP, hK1⟩ := hB
        rw [ht] at hP
        generalize H1 = H at hP hS ⊢
        obtain ⟨h68, h70, hI, hfr1, hzf, h69⟩ := hw
        have o71 : F67 (A 13) = .inl (cs 0, 400, .inl f1) := (hfr1 _ (by rw [(y_k13 hA)]; decide)).trans o59
        have o72 : F67 (A 20) = .inl (cs 0, 918, .inl f4) := (hfr1 _ (by rw [(y_k20 hA)]; decide)).trans o60
        have oY73 : F67 a0 = .inr (7, y_fl A z0 q0) := (hfr1 _ (by rw [ha0]; decide)).trans oY61
        have hfr : ∀ b, K b ∉ ([] : List Nat) → F67 b = F b := fun b hb9 => (hfr1 b (fun q => hb9 (s_sub (by decide) q))).trans (hfr b hb9)
        have h69 : (r66 = y_c f1 384) := by have q9 := h69; rw [y_atE o59] at q9; exact q9
        have h74 := congrArg Int32.toInt h69
        have h75 : 1 ≤ r66.toInt ∧ r66.toInt ≤ 4 := ⟨by omega, by omega⟩
        refine lv_irem hx hb dX7_goer_55 (fun q => by have q2 := Int32.toInt_inj.mpr q; have q3 : (0 : Int32).toInt = 0 := (by decide); omega) ?_
        refine lv_topi (fun v76 ev76 => ?_)
        have qv76 : 0 ≤ v76.toInt ∧ v76.toInt < r66.toInt := by rw [ev76]; exact th_remV (by omega) (by omega)
        have hsm : v76 = v52 := by rw [ev76, ev52, show v64 = v40 by rw [ev64, ev40], show r66 = r42 by rw [h69, h45]]
        exact W.iret (v := v76) hx hb hr (fun t ht hW => ⟨⟨v76, F67, rfl, ⟨⟨by omega, by omega⟩, trivial, hI, hfr, fun k hk => (y_fiZ oY73 (s_sub (by decide) hk)).trans ((hz0 k hk).trans (y_fiZ oY0 (s_sub (by decide) hk)).symm), (by rw [y_atE o2, y_atE o5]; exact Or.inr ⟨by omega, by omega, by rw [hsm]; exact h57.resolve_left c62⟩)⟩, by rw [ht]; exact hP, va_K.moved hW.alike hK⟩, hS.F ht⟩) hS.2.2 dX7_goer_56

set_option maxHeartbeats 4000000 in
set_option maxRecDepth 100000 in
theorem y_X7_partOf (l : Launch) (dC : Nat → ClassId) (dI : Nat → Nat → Nat) (sz : Nat) {L : List Nat} {K : Nat → Nat} {cs : Nat → ClassId} (hLK : ∀ a {k : Nat}, K a = k → k ≠ 0 → a ∈ L) (A : Nat → Nat) (hA : y_A K A) (F : Nat → va_E) (a0 : Nat) (x1 : Int32) (x2 : Int32) (x3 : Int32) (ha0 : K a0 = 9) (hx1 : 0 ≤ x1.toInt ∧ x1.toInt ≤ 3) (hx2 : 0 ≤ x2.toInt ∧ x2.toInt ≤ 7) (hI : y_I K cs A F) (hp4 : (-4 ≤ x3.toInt)) : Met l yX7_partOf (Cond.code yX7_partOf cX7_partOf 4 (some .int) :: T0) ({ frames := 1, cells := 0, slots := 0, locals := 22 }) (va_Pc [.ref a0, .int x1, .int x2, .int x3] (s_W dC dI sz L F [(cs 0, .int), (cs 1, .byte), (cs 2, .long), (cs 3, .object RX5), (cs 4, .object RX4), (cs 5, .array .int), (cs 6, .char), (cs 7, .boolean)])) (va_Qi (fun (r : Int32) (G : Nat → va_E) => True ∧ True ∧ y_I K cs A G ∧ (∀ b, K b ∉ ([] : List Nat) → G b = F b) ∧ (∀ k, k ∈ ([1, 2, 3, 4, 5, 6, 7, 8, 11, 15, 16, 19, 25, 26, 27, 31, 32] : List Nat) → y_fi G a0 k = y_fi F a0 k) ∧ True) (fun (G : Nat → va_E) (t : State) => va_P (dC, dI) vwCl (va_pl L G) t.heap ∧ va_K (dC, dI) vwCl [(cs 0, .int), (cs 1, .byte), (cs 2, .long), (cs 3, .object RX5), (cs 4, .object RX4), (cs 5, .array .int), (cs 6, .char), (cs 7, .boolean)] t) (fun q => q ∈ L)) 0 0 (fun q => q ∈ L) := by
  refine Met.ofW (cc := cX7_partOf) (maxL := 4) (ret := (some .int)) (by decide) rfl ?_
  intro p e s m args below meth c s₁ B hml hv
  obtain ⟨rfl, hsz, hP, hK, hD, hN⟩ := hv
  have hx := B.exec
  have hb := B.bytes
  have hr := B.returns
  have hts : ∀ w ∈ T0, w.before _ s = true := fun w h => atoms_spec (ws := Cond.code yX7_partOf cX7_partOf 4 (some .int) :: T0) B.pre w (List.mem_cons_of_mem _ h)
  have hown : s.vm.findClass RX7 = some m.cls := findClass_of_methodNamed B.named
  have hlocks := B.notSynchronized
  have hS : va_S (fun q => q ∈ L) s.heap s.heap [] := va_S.rf
  have hfr : ∀ b, K b ∉ ([] : List Nat) → F b = F b := fun _ _ => rfl
  have hl := lv_entry ([.ref a0, .int x1, .int x2, .int x3]) (n := 4) (Nat.le_of_ble_eq_true rfl)
  rw [lg_entry_eq]
  generalize (lg_sl ([.ref a0, .int x1, .int x2, .int x3]) ++ List.replicate (4 - (lg_sl ([.ref a0, .int x1, .int x2, .int x3])).length) Slot.unset).toArray = ls at hl ⊢
  have hl : lv_has ls 4 [(0, .ref a0), (1, .int x1), (2, .int x2), (3, .int x3)] := hl
  refine s_gen hP hS (fun H locs hP hS => ?_)
  obtain ⟨z0, q0, oY0, bz0, bq0⟩ := y_opY hI ha0
  have hz0 : ∀ k, k ∈ ([1, 2, 3, 4, 5, 6, 7, 8, 11, 15, 16, 19, 25, 26, 27, 31, 32] : List Nat) → z0 k = z0 k := fun _ _ => rfl
  refine lv_iload_n hx hb dX7_partOf_0 rfl (lv_at hl 3 rfl) ?_
  refine lv_if_lt (tgt := 8) hx hb dX7_partOf_1 (by decide) (fun c1 => ?_) (fun c1 => ?_)
  · have c1 := (ax_lt (n := 0) (by decide)).mp c1
    refine lv_aload_n hx hb dX7_partOf_8 rfl (lv_at hl 0 rfl) ?_
    refine th_get (D := (dC, dI)) (ci := 7) (v := .ref (A 20)) (C := RX7) (T := TX7) (N := 34) hx hb hts inX7 hown hK hP (hLK _ ha0 (by decide)) oY0 rfl 20 (by decide) (hts _ T_251) (fun _ h9 => h9) rfl dX7_partOf_9 ?_
    refine lv_iload_n hx hb dX7_partOf_12 rfl (lv_at hl 1 rfl) ?_
    refine lv_iload_n hx hb dX7_partOf_13 rfl (lv_at hl 2 rfl) ?_
    refine lv_iconst (v := (-1)) hx hb dX7_partOf_14 (by decide) ?_
    refine lv_iload_n hx hb dX7_partOf_15 rfl (lv_at hl 3 rfl) ?_
    refine lv_isub hx hb dX7_partOf_16 ?_
    refine lv_topi (fun v2 ev2 => ?_)
    have qv2 : v2.toInt = (-1) - x3.toInt := by rw [ev2]; exact th_sub (by decide) rfl (by have q8 := th_lo x3; have q9 := th_hi x3; exact ⟨by omega, by omega⟩)
    refine va_calli (va_runS (As := [.int x1, .int x2, .int v2]) (rest := [.ref (A 20)]) ⟨hx, hb, hml, hown, hts⟩ (y_X7_registerAt l dC dI H.size F x1 x2 v2 (⟨by omega, by omega⟩) (⟨by omega, by omega⟩) (⟨by omega, by omega⟩)) (cwS 3 hts (ax_gS T_1095 T_1097 T_265 T_1096) rfl rfl rfl (by decide +kernel) ⟨Nat.le_of_ble_eq_true rfl, Nat.le_of_ble_eq_true rfl⟩) ⟨fun a U g mk q => ⟨q.1, s_pc rfl rfl q.2⟩, fun U hU hW => ⟨rfl, s_pw hU hW hP hK hD hN⟩⟩ rfl rfl hl.1 rfl (lv_room (Nat.le_of_ble_eq_true rfl)) dX7_partOf_17 ⟨Nat.zero_le _, Nat.zero_le _⟩) hS (fun q _ h => h) (fun q h => h) (fun r4 F5 t H1 locs ht hvm hw hB hz1 hk1 hS => ?_)
    obtain ⟨hP, hK1⟩ := hB
    rw [ht] at hP
    generalize H1 = H at hP hS ⊢
    obtain ⟨h6, h8, hG9, h7⟩ := hw
    rw [hG9] at hP
    have h7 : (r4.toInt = 128 + 32 * x1.toInt + 4 * x2.toInt + v2.toInt) := by have q9 := h7; exact q9
    obtain ⟨f9, o10, b11⟩ := y_op20 hI
    refine th_iald hx hb hK hP (hLK _ (y_k20 hA) (by decide)) 0 o10 rfl (th_in ⟨by omega, by omega⟩) dX7_partOf_20 ?_
    refine lv_topi (fun v12 ev12 => ?_)
    exact W.iret (v := v12) hx hb hr (fun t ht hW => ⟨⟨v12, F, rfl, ⟨trivial, trivial, hI, hfr, fun k hk => (y_fiZ oY0 (s_sub (by decide) hk)).trans ((hz0 k hk).trans (y_fiZ oY0 (s_sub (by decide) hk)).symm), trivial⟩, by rw [ht]; exact hP, va_K.moved hW.alike hK⟩, hS.F ht⟩) hS.2.2 dX7_partOf_21
  · have c1 := mt (ax_lt (n := 0) (by decide)).mpr c1
    refine lv_iload_n hx hb dX7_partOf_4 rfl (lv_at hl 3 rfl) ?_
    refine lv_goto (tgt := 21) hx hb dX7_partOf_5 (by decide) ?_
    exact W.iret (v := x3) hx hb hr (fun t ht hW => ⟨⟨x3, F, rfl, ⟨trivial, trivial, hI, hfr, fun k hk => (y_fiZ oY0 (s_sub (by decide) hk)).trans ((hz0 k hk).trans (y_fiZ oY0 (s_sub (by decide) hk)).symm), trivial⟩, by rw [ht]; exact hP, va_K.moved hW.alike hK⟩, hS.F ht⟩) hS.2.2 dX7_partOf_21

set_option maxHeartbeats 4000000 in
set_option maxRecDepth 100000 in
theorem y_X7_modulo (l : Launch) (dC : Nat → ClassId) (dI : Nat → Nat → Nat) (sz : Nat) {L : List Nat} {cs : Nat → ClassId} (F : Nat → va_E) (y0 : Int64) (x1 : Int32) (hx1 : 1 ≤ x1.toInt ∧ x1.toInt ≤ 2147483647) : Met l yX7_modulo (Cond.code yX7_modulo cX7_modulo 5 (some .int) :: T0) ({ frames := 0, cells := 0, slots := 0, locals := 0 }) (va_Pc [.long y0, .int x1] (s_W dC dI sz L F [(cs 0, .int), (cs 1, .byte), (cs 2, .long), (cs 3, .object RX5), (cs 4, .object RX4), (cs 5, .array .int), (cs 6, .char), (cs 7, .boolean)])) (va_Qi (fun (r : Int32) (G : Nat → va_E) => True ∧ True ∧ G = F ∧ (0 ≤ r.toInt ∧ r.toInt < x1.toInt)) (fun (G : Nat → va_E) (t : State) => va_P (dC, dI) vwCl (va_pl L G) t.heap ∧ va_K (dC, dI) vwCl [(cs 0, .int), (cs 1, .byte), (cs 2, .long), (cs 3, .object RX5), (cs 4, .object RX4), (cs 5, .array .int), (cs 6, .char), (cs 7, .boolean)] t) (fun q => q ∈ L)) 0 0 (fun q => q ∈ L) := by
  refine Met.ofW (cc := cX7_modulo) (maxL := 5) (ret := (some .int)) (by decide) rfl ?_
  intro p e s m args below meth c s₁ B hml hv
  obtain ⟨rfl, hsz, hP, hK, hD, hN⟩ := hv
  have hx := B.exec
  have hb := B.bytes
  have hr := B.returns
  have hts : ∀ w ∈ T0, w.before _ s = true := fun w h => atoms_spec (ws := Cond.code yX7_modulo cX7_modulo 5 (some .int) :: T0) B.pre w (List.mem_cons_of_mem _ h)
  have hown : s.vm.findClass RX7 = some m.cls := findClass_of_methodNamed B.named
  have hlocks := B.notSynchronized
  have hS : va_S (fun q => q ∈ L) s.heap s.heap [] := va_S.rf
  have hl := lv_entry ([.long y0, .int x1]) (n := 5) (Nat.le_of_ble_eq_true rfl)
  rw [lg_entry_eq]
  generalize (lg_sl ([.long y0, .int x1]) ++ List.replicate (5 - (lg_sl ([.long y0, .int x1])).length) Slot.unset).toArray = ls at hl ⊢
  have hl : lv_has ls 5 [(0, .long y0), (2, .int x1)] := hl
  refine s_gen hP hS (fun H locs hP hS => ?_)
  refine lv_lload_n hx hb dX7_modulo_0 rfl (lv_at hl 0 rfl) ?_
  refine lv_iload_n hx hb dX7_modulo_1 rfl (lv_at hl 1 rfl) ?_
  refine lv_i2l hx hb dX7_modulo_2 rfl ?_
  refine lv_topl (fun v1 ev1 => ?_)
  have qv1 : v1.toInt = x1.toInt := y_i2l ev1
  refine lv_lrem hx hb dX7_modulo_3 (by rw [ev1]; exact th_nzL (by omega)) ?_
  refine lv_topl (fun v2 ev2 => ?_)
  have qv2 : -x1.toInt < v2.toInt ∧ v2.toInt < x1.toInt := by have q9 := y_modA (x := y0) (y := v1) (by omega); rw [← ev2] at q9; omega
  refine lv_lstore_n (lv' := [(3, .long v2), (0, .long y0), (2, .int x1)]) hx hb dX7_modulo_4 rfl hl (by decide) rfl (fun ls hl => ?_)
  refine lv_lload_n hx hb dX7_modulo_5 rfl (lv_at hl 0 rfl) ?_
  refine lv_lconst (v := 0) hx hb dX7_modulo_6 (by decide) ?_
  refine W.lcmp hx hb dX7_modulo_7 ?_
  refine lv_topi (fun v3 ev3 => ?_)
  have qv3 : (v3.toInt < 0 ↔ v2.toInt < 0) ∧ (0 < v3.toInt ↔ 0 < v2.toInt) := by rw [ev3]; exact y_cmp
  refine lv_if_ge (tgt := 18) hx hb dX7_modulo_8 (by decide) (fun c4 => ?_) (fun c4 => ?_)
  · have c4 := (ax_ge (n := 0) (by decide)).mp c4
    refine lv_lload_n hx hb dX7_modulo_18 rfl (lv_at hl 0 rfl) ?_
    refine lv_l2i hx hb dX7_modulo_19 rfl ?_
    refine lv_topi (fun v5 ev5 => ?_)
    have hi9 := th_hi x1
    have qv5 : v5.toInt = v2.toInt := by rw [ev5]; exact th_l32 ⟨by omega, by omega⟩
    exact W.iret (v := v5) hx hb hr (fun t ht hW => ⟨⟨v5, F, rfl, ⟨trivial, trivial, rfl, (by omega)⟩, by rw [ht]; exact hP, va_K.moved hW.alike hK⟩, hS.F ht⟩) hS.2.2 dX7_modulo_20
  · have c4 := mt (ax_ge (n := 0) (by decide)).mpr c4
    refine lv_lload_n hx hb dX7_modulo_11 rfl (lv_at hl 0 rfl) ?_
    refine lv_iload_n hx hb dX7_modulo_12 rfl (lv_at hl 2 rfl) ?_
    refine lv_i2l hx hb dX7_modulo_13 rfl ?_
    refine lv_topl (fun v6 ev6 => ?_)
    have qv6 : v6.toInt = x1.toInt := y_i2l ev6
    refine lv_ladd hx hb dX7_modulo_14 ?_
    refine lv_topl (fun v7 ev7 => ?_)
    have qv7 : v7.toInt = v2.toInt + v6.toInt := by rw [ev7]; exact y_addL ⟨by omega, by omega⟩
    refine lv_goto (tgt := 19) hx hb dX7_modulo_15 (by decide) ?_
    refine lv_l2i hx hb dX7_modulo_19 rfl ?_
    refine lv_topi (fun v8 ev8 => ?_)
    have hi9 := th_hi x1
    have qv8 : v8.toInt = v7.toInt := by rw [ev8]; exact th_l32 ⟨by omega, by omega⟩
    exact W.iret (v := v8) hx hb hr (fun t ht hW => ⟨⟨v8, F, rfl, ⟨trivial, trivial, rfl, (by omega)⟩, by rw [ht]; exact hP, va_K.moved hW.alike hK⟩, hS.F ht⟩) hS.2.2 dX7_modulo_20

set_option maxHeartbeats 4000000 in
set_option maxRecDepth 100000 in
theorem y_X7_bounded (l : Launch) (dC : Nat → ClassId) (dI : Nat → Nat → Nat) (sz : Nat) {L : List Nat} {cs : Nat → ClassId} (F : Nat → va_E) (y0 : Int64)  : Met l yX7_bounded (Cond.code yX7_bounded cX7_bounded 2 (some .int) :: T0) ({ frames := 0, cells := 0, slots := 0, locals := 0 }) (va_Pc [.long y0] (s_W dC dI sz L F [(cs 0, .int), (cs 1, .byte), (cs 2, .long), (cs 3, .object RX5), (cs 4, .object RX4), (cs 5, .array .int), (cs 6, .char), (cs 7, .boolean)])) (va_Qi (fun (r : Int32) (G : Nat → va_E) => True ∧ True ∧ G = F ∧ True) (fun (G : Nat → va_E) (t : State) => va_P (dC, dI) vwCl (va_pl L G) t.heap ∧ va_K (dC, dI) vwCl [(cs 0, .int), (cs 1, .byte), (cs 2, .long), (cs 3, .object RX5), (cs 4, .object RX4), (cs 5, .array .int), (cs 6, .char), (cs 7, .boolean)] t) (fun q => q ∈ L)) 0 0 (fun q => q ∈ L) := by
  refine Met.ofW (cc := cX7_bounded) (maxL := 2) (ret := (some .int)) (by decide) rfl ?_
  intro p e s m args below meth c s₁ B hml hv
  obtain ⟨rfl, hsz, hP, hK, hD, hN⟩ := hv
  have hx := B.exec
  have hb := B.bytes
  have hr := B.returns
  have hts : ∀ w ∈ T0, w.before _ s = true := fun w h => atoms_spec (ws := Cond.code yX7_bounded cX7_bounded 2 (some .int) :: T0) B.pre w (List.mem_cons_of_mem _ h)
  have hown : s.vm.findClass RX7 = some m.cls := findClass_of_methodNamed B.named
  have hlocks := B.notSynchronized
  have hS : va_S (fun q => q ∈ L) s.heap s.heap [] := va_S.rf
  have hl := lv_entry ([.long y0]) (n := 2) (Nat.le_of_ble_eq_true rfl)
  rw [lg_entry_eq]
  generalize (lg_sl ([.long y0]) ++ List.replicate (2 - (lg_sl ([.long y0])).length) Slot.unset).toArray = ls at hl ⊢
  have hl : lv_has ls 2 [(0, .long y0)] := hl
  refine s_gen hP hS (fun H locs hP hS => ?_)
  refine lv_lload_n hx hb dX7_bounded_0 rfl (lv_at hl 0 rfl) ?_
  refine lv_ldc2 hx hb hown (hts _ T_1038) dX7_bounded_1 ?_
  refine W.lcmp hx hb dX7_bounded_4 ?_
  refine lv_topi (fun v1 ev1 => ?_)
  have qv1 : (v1.toInt < 0 ↔ y0.toInt < 9999) ∧ (0 < v1.toInt ↔ 9999 < y0.toInt) := by rw [ev1]; exact y_cmp
  refine lv_if_le (tgt := 14) hx hb dX7_bounded_5 (by decide) (fun c2 => ?_) (fun c2 => ?_)
  · have c2 := (ax_le (n := 0) (by decide)).mp c2
    refine lv_lload_n hx hb dX7_bounded_14 rfl (lv_at hl 0 rfl) ?_
    refine lv_ldc2 hx hb hown (hts _ T_1039) dX7_bounded_15 ?_
    refine W.lcmp hx hb dX7_bounded_18 ?_
    refine lv_topi (fun v3 ev3 => ?_)
    have qv3 : (v3.toInt < 0 ↔ y0.toInt < (-9999)) ∧ (0 < v3.toInt ↔ (-9999) < y0.toInt) := by rw [ev3]; exact y_cmp
    refine lv_if_ge (tgt := 28) hx hb dX7_bounded_19 (by decide) (fun c4 => ?_) (fun c4 => ?_)
    · have c4 := (ax_ge (n := 0) (by decide)).mp c4
      refine lv_lload_n hx hb dX7_bounded_28 rfl (lv_at hl 0 rfl) ?_
      refine lv_l2i hx hb dX7_bounded_29 rfl ?_
      refine lv_topi (fun v5 ev5 => ?_)
      exact W.iret (v := v5) hx hb hr (fun t ht hW => ⟨⟨v5, F, rfl, ⟨trivial, trivial, rfl, trivial⟩, by rw [ht]; exact hP, va_K.moved hW.alike hK⟩, hS.F ht⟩) hS.2.2 dX7_bounded_30
    · have c4 := mt (ax_ge (n := 0) (by decide)).mpr c4
      refine lv_ldc2 hx hb hown (hts _ T_1039) dX7_bounded_22 ?_
      refine lv_goto (tgt := 29) hx hb dX7_bounded_25 (by decide) ?_
      refine lv_l2i hx hb dX7_bounded_29 rfl ?_
      refine lv_topi (fun v6 ev6 => ?_)
      exact W.iret (v := v6) hx hb hr (fun t ht hW => ⟨⟨v6, F, rfl, ⟨trivial, trivial, rfl, trivial⟩, by rw [ht]; exact hP, va_K.moved hW.alike hK⟩, hS.F ht⟩) hS.2.2 dX7_bounded_30
  · have c2 := mt (ax_le (n := 0) (by decide)).mpr c2
    refine lv_ldc2 hx hb hown (hts _ T_1038) dX7_bounded_8 ?_
    refine lv_goto (tgt := 29) hx hb dX7_bounded_11 (by decide) ?_
    refine lv_l2i hx hb dX7_bounded_29 rfl ?_
    refine lv_topi (fun v7 ev7 => ?_)
    exact W.iret (v := v7) hx hb hr (fun t ht hW => ⟨⟨v7, F, rfl, ⟨trivial, trivial, rfl, trivial⟩, by rw [ht]; exact hP, va_K.moved hW.alike hK⟩, hS.F ht⟩) hS.2.2 dX7_bounded_30

set_option maxHeartbeats 4000000 in
set_option maxRecDepth 100000 in
theorem y_X7_hasFirst (l : Launch) (dC : Nat → ClassId) (dI : Nat → Nat → Nat) (sz : Nat) {L : List Nat} {cs : Nat → ClassId} (F : Nat → va_E) (x0 : Int32) (hx0 : 0 ≤ x0.toInt ∧ x0.toInt ≤ 15) : Met l yX7_hasFirst (Cond.code yX7_hasFirst cX7_hasFirst 1 (some .boolean) :: T0) ({ frames := 1, cells := 0, slots := 0, locals := 20 }) (va_Pc [.int x0] (s_W dC dI sz L F [(cs 0, .int), (cs 1, .byte), (cs 2, .long), (cs 3, .object RX5), (cs 4, .object RX4), (cs 5, .array .int), (cs 6, .char), (cs 7, .boolean)])) (va_Qi (fun (r : Int32) (G : Nat → va_E) => (0 ≤ r.toInt ∧ r.toInt ≤ 1) ∧ True ∧ G = F ∧ ((r.toInt = 1 ∧ ¬ (x0.toInt = 5 ∨ x0.toInt = 6 ∨ 12 ≤ x0.toInt)) ∨ (r.toInt = 0 ∧ (x0.toInt = 5 ∨ x0.toInt = 6 ∨ 12 ≤ x0.toInt)))) (fun (G : Nat → va_E) (t : State) => va_P (dC, dI) vwCl (va_pl L G) t.heap ∧ va_K (dC, dI) vwCl [(cs 0, .int), (cs 1, .byte), (cs 2, .long), (cs 3, .object RX5), (cs 4, .object RX4), (cs 5, .array .int), (cs 6, .char), (cs 7, .boolean)] t) (fun q => q ∈ L)) 0 0 (fun q => q ∈ L) := by
  refine Met.ofW (cc := cX7_hasFirst) (maxL := 1) (ret := (some .boolean)) (by decide) rfl ?_
  intro p e s m args below meth c s₁ B hml hv
  obtain ⟨rfl, hsz, hP, hK, hD, hN⟩ := hv
  have hx := B.exec
  have hb := B.bytes
  have hr := B.returns
  have hts : ∀ w ∈ T0, w.before _ s = true := fun w h => atoms_spec (ws := Cond.code yX7_hasFirst cX7_hasFirst 1 (some .boolean) :: T0) B.pre w (List.mem_cons_of_mem _ h)
  have hown : s.vm.findClass RX7 = some m.cls := findClass_of_methodNamed B.named
  have hlocks := B.notSynchronized
  have hS : va_S (fun q => q ∈ L) s.heap s.heap [] := va_S.rf
  have hl := lv_entry ([.int x0]) (n := 1) (Nat.le_of_ble_eq_true rfl)
  rw [lg_entry_eq]
  generalize (lg_sl ([.int x0]) ++ List.replicate (1 - (lg_sl ([.int x0])).length) Slot.unset).toArray = ls at hl ⊢
  have hl : lv_has ls 1 [(0, .int x0)] := hl
  refine s_gen hP hS (fun H locs hP hS => ?_)
  refine lv_iload_n hx hb dX7_hasFirst_0 rfl (lv_at hl 0 rfl) ?_
  refine va_calli (va_runS (As := [.int x0]) (rest := []) ⟨hx, hb, hml, hown, hts⟩ (y_X7_partsOf l dC dI H.size F x0 (⟨by omega, by omega⟩)) (cwS 1 hts (ax_gS T_1197 T_1199 T_265 T_1198) rfl rfl rfl (by decide +kernel) ⟨Nat.le_of_ble_eq_true rfl, Nat.le_of_ble_eq_true rfl⟩) ⟨fun a U g mk q => ⟨q.1, s_pc rfl rfl q.2⟩, fun U hU hW => ⟨rfl, s_pw hU hW hP hK hD hN⟩⟩ rfl rfl hl.1 rfl (lv_room (Nat.le_of_ble_eq_true rfl)) dX7_hasFirst_1 ⟨Nat.zero_le _, Nat.zero_le _⟩) hS (fun q _ h => h) (fun q h => h) (fun r2 F3 t H1 locs ht hvm hw hB hz1 hk1 hS => ?_)
  obtain ⟨hP, hK1⟩ := hB
  rw [ht] at hP
  generalize H1 = H at hP hS ⊢
  obtain ⟨h4, h6, hG9, h5⟩ := hw
  rw [hG9] at hP
  have h5 : ((r2.toInt = 0 ∧ (x0.toInt = 5 ∨ x0.toInt = 6 ∨ 12 ≤ x0.toInt)) ∨ (r2.toInt = 1 ∧ (x0.toInt = 0 ∨ x0.toInt = 7 ∨ x0.toInt = 9 ∨ x0.toInt = 11)) ∨ (r2.toInt = 2 ∧ ((1 ≤ x0.toInt ∧ x0.toInt ≤ 4) ∨ x0.toInt = 8 ∨ x0.toInt = 10))) := by have q9 := h5; exact q9
  refine lv_if_le (tgt := 11) hx hb dX7_hasFirst_4 (by decide) (fun c7 => ?_) (fun c7 => ?_)
  · have c7 := (ax_le (n := 0) (by decide)).mp c7
    refine lv_iconst (v := 0) hx hb dX7_hasFirst_11 (by decide) ?_
    have h8 : (0 : Int32).toInt = 0 := by decide
    exact W.zret (v := 0) (ty := .boolean) hx hb hr (by decide) (fun t ht hW => ⟨⟨0, F, rfl, ⟨(by decide), trivial, rfl, (by omega)⟩, by rw [ht]; exact hP, va_K.moved hW.alike hK⟩, hS.F ht⟩) hS.2.2 dX7_hasFirst_12
  · have c7 := mt (ax_le (n := 0) (by decide)).mpr c7
    refine lv_iconst (v := 1) hx hb dX7_hasFirst_7 (by decide) ?_
    refine lv_goto (tgt := 12) hx hb dX7_hasFirst_8 (by decide) ?_
    have h9 : (1 : Int32).toInt = 1 := by decide
    exact W.zret (v := 1) (ty := .boolean) hx hb hr (by decide) (fun t ht hW => ⟨⟨1, F, rfl, ⟨(by decide), trivial, rfl, (by omega)⟩, by rw [ht]; exact hP, va_K.moved hW.alike hK⟩, hS.F ht⟩) hS.2.2 dX7_hasFirst_12
