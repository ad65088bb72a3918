set_option maxHeartbeats 4000000 in
set_option maxRecDepth 100000 in
theorem yt_X7_goer (l : Launch) (dC : Nat → ClassId) (dI : Nat → Nat → Nat) (sz : Nat) {L : List Nat} {K : Nat → Nat} {cs : Nat → ClassId} (hLK : ∀ a {k : Nat}, K a = k → k ≠ 0 → a ∈ L) (A : Nat → Nat) (hA : y_A K A) (F : Nat → va_E) (a0 : Nat) (ha0 : K a0 = 9) (hI : y_I K cs A F) (hPG : y_PG (y_at F (A 13))) (hNG : y_NG (y_at F (A 13)) (y_at F (A 20))) : Met l yX7_goer (Cond.code yX7_goer cX7_goer 3 (some .int) :: T0) ({ frames := 5, cells := 0, slots := 0, locals := 110 }) (va_Pc [.ref a0] (s_W dC dI sz L F [(cs 0, .int), (cs 1, .byte), (cs 2, .long), (cs 3, .object RX5), (cs 4, .object RX4), (cs 5, .array .int), (cs 6, .char), (cs 7, .boolean)])) (va_Qi (fun (r : Int32) (G : Nat → va_E) => (-1 ≤ r.toInt ∧ r.toInt ≤ 3) ∧ True ∧ y_I K cs A G ∧ (∀ b, K b ∉ ([] : List Nat) → G b = F b) ∧ (∀ k, k ∈ ([1, 2, 3, 4, 5, 6, 7, 8, 11, 15, 16, 19, 25, 26, 27, 31, 32] : List Nat) → y_fi G a0 k = y_fi F a0 k) ∧ (r.toInt = -1 ∨ (0 ≤ r.toInt ∧ r.toInt < (y_c (y_at F (A 13)) 384).toInt ∧ y_go (y_at F (A 20)) r.toInt))) (fun (G : Nat → va_E) (t : State) => va_P (dC, dI) vwCl (va_pl L G) t.heap ∧ va_K (dC, dI) vwCl [(cs 0, .int), (cs 1, .byte), (cs 2, .long), (cs 3, .object RX5), (cs 4, .object RX4), (cs 5, .array .int), (cs 6, .char), (cs 7, .boolean)] t) (fun q => q ∈ L)) 0 0 (fun q => q ∈ L) := by
  refine Met.ofW (cc := cX7_goer) (maxL := 3) (ret := (some .int)) (by decide) rfl ?_
  intro p e s m args below meth c s₁ B hml hv
  obtain ⟨rfl, hsz, hP, hK, hD, hN⟩ := hv
  have hx := B.exec
  have hb := B.bytes
  have hr := B.returns
  have hts : ∀ w ∈ T0, w.before _ s = true := fun w h => atoms_spec (ws := Cond.code yX7_goer cX7_goer 3 (some .int) :: T0) B.pre w (List.mem_cons_of_mem _ h)
  have hown : s.vm.findClass RX7 = some m.cls := findClass_of_methodNamed B.named
  have hlocks := B.notSynchronized
  have hS : va_S (fun q => q ∈ L) s.heap s.heap [] := va_S.rf
  have hfr : ∀ b, K b ∉ ([] : List Nat) → F b = F b := fun _ _ => rfl
  have hl := lv_entry ([.ref a0]) (n := 3) (Nat.le_of_ble_eq_true rfl)
  rw [lg_entry_eq]
  generalize (lg_sl ([.ref a0]) ++ List.replicate (3 - (lg_sl ([.ref a0])).length) Slot.unset).toArray = ls at hl ⊢
  have hl : lv_has ls 3 [(0, .ref a0)] := hl
  refine s_gen hP hS (fun H locs hP hS => ?_)
  obtain ⟨z0, q0, oY0, bz0, bq0⟩ := y_opY hI ha0
  have hz0 : ∀ k, k ∈ ([1, 2, 3, 4, 5, 6, 7, 8, 11, 15, 16, 19, 25, 26, 27, 31, 32] : List Nat) → z0 k = z0 k := fun _ _ => rfl
  obtain ⟨f1, o2, b3⟩ := y_op13 hI
  obtain ⟨f4, o5, b6⟩ := y_op20 hI
  have hPG : y_PG f1 := by have q9 := hPG; rw [y_atE o2] at q9; exact q9
  have hNG : y_NG f1 f4 := by have q9 := hNG; rw [y_atE o2, y_atE o5] at q9; exact q9
  have hL := y_P0L hPG.1
  have hW := y_P0W hPG.1
  have hnn := And.intro hNG.1 (And.intro hNG.2.1 (And.intro hNG.2.2.1 hNG.2.2.2.1))
  refine th_join (fun g H locs => ∃ (G : Nat → va_E) (ls : Array Slot) (w7 : Int32), g = F0 m 22 ls [.int w7] ∧ lv_has ls 3 [(0, .ref a0)] ∧ va_P (dC, dI) vwCl (va_pl L G) H ∧ va_S (fun q => q ∈ L) s.heap H locs ∧ y_I K cs A G ∧ (∀ b, K b ∉ ([] : List Nat) → G b = F b) ∧ (∀ k, k ∈ ([1, 2, 3, 4, 5, 6, 7, 8, 11, 15, 16, 19, 25, 26, 27, 31, 32] : List Nat) → y_fi G a0 k = z0 k) ∧ (0 ≤ w7.toInt ∧ w7.toInt ≤ 4)) (fun K22 => ?_) ?_
  · refine lv_aload_n hx hb dX7_goer_0 rfl (lv_at hl 0 rfl) ?_
    refine th_get (D := (dC, dI)) (ci := 7) (v := .ref (A 20)) (C := RX7) (T := TX7) (N := 34) hx hb hts inX7 hown hK hP (hLK _ ha0 (by decide)) oY0 rfl 20 (by decide) (hts _ T_251) (fun _ h9 => h9) rfl dX7_goer_1 ?_
    refine lv_iconst (v := 4) hx hb dX7_goer_4 (by decide) ?_
    refine th_iald hx hb hK hP (hLK _ (y_k20 hA) (by decide)) 0 o5 rfl (ax_in (by decide)) dX7_goer_5 ?_
    refine lv_topi (fun v8 ev8 => ?_)
    refine lv_if_ne (tgt := 13) hx hb dX7_goer_6 (by decide) (fun c9 => ?_) (fun c9 => ?_)
    · have c9 := mt (ax_eq (n := 0) (by decide)).mpr c9
      refine lv_aload_n hx hb dX7_goer_13 rfl (lv_at hl 0 rfl) ?_
      refine th_get (D := (dC, dI)) (ci := 7) (v := .ref (A 20)) (C := RX7) (T := TX7) (N := 34) hx hb hts inX7 hown hK hP (hLK _ ha0 (by decide)) oY0 rfl 20 (by decide) (hts _ T_251) (fun _ h9 => h9) rfl dX7_goer_14 ?_
      refine lv_bipush (v := 6) hx hb dX7_goer_17 (by decide) ?_
      refine th_iald hx hb hK hP (hLK _ (y_k20 hA) (by decide)) 0 o5 rfl (ax_in (by decide)) dX7_goer_19 ?_
      refine lv_topi (fun v10 ev10 => ?_)
      have Ev10 : v10 = y_c f4 (6) := ev10.trans (y_ci (by decide))
      have tEv10 := congrArg Int32.toInt Ev10
      have h11 : -1 ≤ v10.toInt ∧ v10.toInt ≤ 3 := by have q9 : v10.toInt = (y_c f4 6).toInt := congrArg Int32.toInt (ev10.trans (y_ci (by decide))); omega
      refine lv_iconst (v := 1) hx hb dX7_goer_20 (by decide) ?_
      refine lv_iadd hx hb dX7_goer_21 ?_
      refine lv_topi (fun v12 ev12 => ?_)
      have qv12 : v12.toInt = v10.toInt + 1 := by rw [ev12]; exact th_add rfl (by decide) ⟨by omega, by omega⟩
      exact K22 _ _ _ ⟨F, _, v12, rfl, lv_sub hl [0] rfl, hP, hS, hI, hfr, (fun k hk => (y_fiZ oY0 (s_sub (by decide) hk)).trans (hz0 k hk)), ⟨by omega, by omega⟩⟩
    · have c9 := (ax_eq (n := 0) (by decide)).mp c9
      refine lv_iconst (v := 0) hx hb dX7_goer_9 (by decide) ?_
      refine lv_goto (tgt := 22) hx hb dX7_goer_10 (by decide) ?_
      have h13 : (0 : Int32).toInt = 0 := by decide
      exact K22 _ _ _ ⟨F, _, 0, rfl, lv_sub hl [0] rfl, hP, hS, hI, hfr, (fun k hk => (y_fiZ oY0 (s_sub (by decide) hk)).trans (hz0 k hk)), (by decide)⟩
  · intro g H locs hq
    obtain ⟨F15, ls, w7, rfl, hl, hP, hS, hI, hfr, hz0, h14⟩ := hq
    have o16 : F15 (A 13) = .inl (cs 0, 400, .inl f1) := (hfr _ (by rw [(y_k13 hA)]; decide)).trans o2
    have o17 : F15 (A 20) = .inl (cs 0, 918, .inl f4) := (hfr _ (by rw [(y_k20 hA)]; decide)).trans o5
    have oY18 : F15 a0 = .inr (7, y_fl A z0 q0) := (hfr _ (by rw [ha0]; decide)).trans oY0
    have hz0 : ∀ k, k ∈ ([1, 2, 3, 4, 5, 6, 7, 8, 11, 15, 16, 19, 25, 26, 27, 31, 32] : List Nat) → z0 k = z0 k := fun _ _ => rfl
    refine lv_istore_n (lv' := [(1, .int w7), (0, .ref a0)]) hx hb dX7_goer_22 rfl hl (by decide) rfl (fun ls hl => ?_)
    refine lv_iconst (v := 0) hx hb dX7_goer_23 (by decide) ?_
    refine lv_istore_n (lv' := [(2, .int 0), (1, .int w7), (0, .ref a0)]) hx hb dX7_goer_24 rfl hl (by decide) rfl (fun ls hl => ?_)
    have h20 : (0 : Int32).toInt = 0 := by decide
    refine th_loop (fun n g H locs => ∃ (G : Nat → va_E) (ls : Array Slot) (w19 : Int32), g = F0 m 25 ls [] ∧ lv_has ls 3 [(0, .ref a0), (1, .int w7), (2, .int w19)] ∧ va_P (dC, dI) vwCl (va_pl L G) H ∧ va_S (fun q => q ∈ L) s.heap H locs ∧ y_I K cs A G ∧ (∀ b, K b ∉ ([] : List Nat) → G b = F b) ∧ (∀ k, k ∈ ([1, 2, 3, 4, 5, 6, 7, 8, 11, 15, 16, 19, 25, 26, 27, 31, 32] : List Nat) → y_fi G a0 k = z0 k) ∧ (0 ≤ w19.toInt ∧ w19.toInt ≤ 4) ∧ (0 ≤ w7.toInt ∧ w7.toInt ≤ 4) ∧ n = (5 - w19.toInt).toNat) _ ⟨F15, _, 0, rfl, lv_sub hl [2, 1, 0] rfl, hP, hS, hI, hfr, (fun k hk => (y_fiZ oY18 (s_sub (by decide) hk)).trans (hz0 k hk)), (by decide), ⟨by omega, by omega⟩, rfl⟩ (fun n ih25 g H locs hq => ?_)
    obtain ⟨F23, ls, w19, rfl, hl, hP, hS, hI, hfr, hz0, h21, h22, hn⟩ := hq
    have o24 : F23 (A 13) = .inl (cs 0, 400, .inl f1) := (hfr _ (by rw [(y_k13 hA)]; decide)).trans o2
    have o25 : F23 (A 20) = .inl (cs 0, 918, .inl f4) := (hfr _ (by rw [(y_k20 hA)]; decide)).trans o5
    have oY26 : F23 a0 = .inr (7, y_fl A z0 q0) := (hfr _ (by rw [ha0]; decide)).trans oY0
    have hz0 : ∀ k, k ∈ ([1, 2, 3, 4, 5, 6, 7, 8, 11, 15, 16, 19, 25, 26, 27, 31, 32] : List Nat) → z0 k = z0 k := fun _ _ => rfl
    have hn_26 := hn
    refine lv_iload_n hx hb dX7_goer_25 rfl (lv_at hl 2 rfl) ?_
    refine lv_aload_n hx hb dX7_goer_26 rfl (lv_at hl 0 rfl) ?_
    refine va_calli (va_runV (As := []) (rest := [.int w19]) ⟨hx, hb, hml, hown, hts⟩ (y_X7_warps l dC dI H.size hLK A hA F23 a0 ha0 hI) (cwV 0 hts (ax_gV T_993 T_995 T_996 T_265 T_994) rfl rfl rfl (by decide +kernel) ⟨Nat.le_of_ble_eq_true rfl, Nat.le_of_ble_eq_true rfl⟩) ⟨fun a U g mk q => ⟨q.1, s_pc rfl rfl q.2⟩, s_recv hK hP (hLK _ ha0 (by decide)) (ci := 7) rfl oY26, fun U hU hW => ⟨rfl, s_pw hU hW hP hK hD hN⟩⟩ rfl rfl hl.1 rfl (lv_room (Nat.le_of_ble_eq_true rfl)) dX7_goer_27 ⟨Nat.zero_le _, Nat.zero_le _⟩) hS (fun q _ h => h) (fun q h => h) (fun r28 F29 t H1 locs ht hvm hw hB hz1 hk1 hS => ?_)
    obtain ⟨hP, hK1⟩ := hB
    rw [ht] at hP
    generalize H1 = H at hP hS ⊢
    obtain ⟨h30, h32, hI, hfr1, hzf, h31⟩ := hw
    have o33 : F29 (A 13) = .inl (cs 0, 400, .inl f1) := (hfr1 _ (by rw [(y_k13 hA)]; decide)).trans o24
    have o34 : F29 (A 20) = .inl (cs 0, 918, .inl f4) := (hfr1 _ (by rw [(y_k20 hA)]; decide)).trans o25
    have oY35 : F29 a0 = .inr (7, y_fl A z0 q0) := (hfr1 _ (by rw [ha0]; decide)).trans oY26
    have hfr : ∀ b, K b ∉ ([] : List Nat) → F29 b = F b := fun b hb9 => (hfr1 b (fun q => hb9 (s_sub (by decide) q))).trans (hfr b hb9)
    have h31 : (r28 = y_c f1 384) := by have q9 := h31; rw [y_atE o24] at q9; exact q9
    have h36 := congrArg Int32.toInt h31
    have h37 : 1 ≤ r28.toInt ∧ r28.toInt ≤ 4 := ⟨by omega, by omega⟩
    refine lv_icmp_ge (tgt := 63) hx hb dX7_goer_30 (by decide) (fun c38 => ?_) (fun c38 => ?_)
    · have c38 := Int32.le_iff_toInt_le.mp c38
      refine lv_iconst (v := (-1)) hx hb dX7_goer_63 (by decide) ?_
      have h39 : ((-1) : Int32).toInt = (-1) := by decide
      exact W.iret (v := (-1)) hx hb hr (fun t ht hW => ⟨⟨(-1), F29, rfl, ⟨(by decide), trivial, hI, hfr, fun k hk => (y_fiZ oY35 (s_sub (by decide) hk)).trans ((hz0 k hk).trans (y_fiZ oY0 (s_sub (by decide) hk)).symm), (by rw [y_atE o2, y_atE o5]; exact Or.inl (by decide))⟩, by rw [ht]; exact hP, va_K.moved hW.alike hK⟩, hS.F ht⟩) hS.2.2 dX7_goer_64
    · have c38 := mt Int32.le_iff_toInt_le.mpr c38
      refine lv_aload_n hx hb dX7_goer_33 rfl (lv_at hl 0 rfl) ?_
      refine lv_iload_n hx hb dX7_goer_34 rfl (lv_at hl 1 rfl) ?_
      refine lv_iload_n hx hb dX7_goer_35 rfl (lv_at hl 2 rfl) ?_
      refine lv_iadd hx hb dX7_goer_36 ?_
      refine lv_topi (fun v40 ev40 => ?_)
      have qv40 : v40.toInt = w7.toInt + w19.toInt := by rw [ev40]; exact th_add rfl rfl ⟨by omega, by omega⟩
      refine lv_aload_n hx hb dX7_goer_37 rfl (lv_at hl 0 rfl) ?_
      refine va_calli (va_runV (As := []) (rest := [.int v40, .ref a0]) ⟨hx, hb, hml, hown, hts⟩ (y_X7_warps l dC dI H.size hLK A hA F29 a0 ha0 hI) (cwV 0 hts (ax_gV T_993 T_995 T_996 T_265 T_994) rfl rfl rfl (by decide +kernel) ⟨Nat.le_of_ble_eq_true rfl, Nat.le_of_ble_eq_true rfl⟩) ⟨fun a U g mk q => ⟨q.1, s_pc rfl rfl q.2⟩, s_recv hK hP (hLK _ ha0 (by decide)) (ci := 7) rfl oY35, fun U hU hW => ⟨rfl, s_pw hU hW hP hK hD hN⟩⟩ rfl rfl hl.1 rfl (lv_room (Nat.le_of_ble_eq_true rfl)) dX7_goer_38 ⟨Nat.zero_le _, Nat.zero_le _⟩) hS (fun q _ h => h) (fun q h => h) (fun r42 F43 t H1 locs ht hvm hw hB hz1 hk1 hS => ?_)
      obtain ⟨hP, hK1⟩ := hB
      rw [ht] at hP
      generalize H1 = H at hP hS ⊢
      obtain ⟨h44, h46, hI, hfr1, hzf, h45⟩ := hw
      have o47 : F43 (A 13) = .inl (cs 0, 400, .inl f1) := (hfr1 _ (by rw [(y_k13 hA)]; decide)).trans o33
      have o48 : F43 (A 20) = .inl (cs 0, 918, .inl f4) := (hfr1 _ (by rw [(y_k20 hA)]; decide)).trans o34
      have oY49 : F43 a0 = .inr (7, y_fl A z0 q0) := (hfr1 _ (by rw [ha0]; decide)).trans oY35
      have hfr : ∀ b, K b ∉ ([] : List Nat) → F43 b = F b := fun b hb9 => (hfr1 b (fun q => hb9 (s_sub (by decide) q))).trans (hfr b hb9)
      have h45 : (r42 = y_c f1 384) := by have q9 := h45; rw [y_atE o33] at q9; exact q9
      have h50 := congrArg Int32.toInt h45
      have h51 : 1 ≤ r42.toInt ∧ r42.toInt ≤ 4 := ⟨by omega, by omega⟩
      refine lv_irem hx hb dX7_goer_41 (fun q => by have q2 := Int32.toInt_inj.mpr q; have q3 : (0 : Int32).toInt = 0 := (by decide); omega) ?_
      refine lv_topi (fun v52 ev52 => ?_)
      have qv52 : 0 ≤ v52.toInt ∧ v52.toInt < r42.toInt := by rw [ev52]; exact th_remV (by omega) (by omega)
      refine va_calli (va_runV (As := [.int v52]) (rest := []) ⟨hx, hb, hml, hown, hts⟩ (y_X7_canGo l dC dI H.size hLK A hA F43 a0 v52 ha0 (⟨by omega, by omega⟩) hI (by rw [y_atE o48]; exact (hNG.2.2.2.2 v52.toInt (by omega) (by omega)).1)) (cwV 1 hts (ax_gV T_1123 T_1125 T_1126 T_265 T_1124) rfl rfl rfl (by decide +kernel) ⟨Nat.le_of_ble_eq_true rfl, Nat.le_of_ble_eq_true rfl⟩) ⟨fun a U g mk q => ⟨q.1, s_pc rfl rfl q.2⟩, s_recv hK hP (hLK _ ha0 (by decide)) (ci := 7) rfl oY49, fun U hU hW => ⟨rfl, s_pw hU hW hP hK hD hN⟩⟩ rfl rfl hl.1 rfl (lv_room (Nat.le_of_ble_eq_true rfl)) dX7_goer_42 ⟨Nat.zero_le _, Nat.zero_le _⟩) hS (fun q _ h => h) (fun q h => h) (fun r54 F55 t H1 locs ht hvm hw hB hz1 hk1 hS => ?_)
      obtain ⟨hP, hK1⟩ := hB
      rw [ht] at hP
      generalize H1 = H at hP hS ⊢
      obtain ⟨h56, h58, hI, hfr1, hzf, h57⟩ := hw
      have o59 : F55 (A 13) = .inl (cs 0, 400, .inl f1) := (hfr1 _ (by rw [(y_k13 hA)]; decide)).trans o47
      have o60 : F55 (A 20) = .inl (cs 0, 918, .inl f4) := (hfr1 _ (by rw [(y_k20 hA)]; decide)).trans o48
      have oY61 : F55 a0 = .inr (7, y_fl A z0 q0) := (hfr1 _ (by rw [ha0]; decide)).trans oY49
      have hfr : ∀ b, K b ∉ ([] : List Nat) → F55 b = F b := fun b hb9 => (hfr1 b (fun q => hb9 (s_sub (by decide) q))).trans (hfr b hb9)
      have h57 : (r54.toInt = 0 ∨ y_go f4 v52.toInt) := by have q9 := h57; rw [y_atE o48] at q9; exact q9
      refine lv_if_eq (tgt := 57) hx hb dX7_goer_45 (by decide) (fun c62 => ?_) (fun c62 => ?_)
      · have c62 := (ax_eq (n := 0) (by decide)).mp c62
        obtain ⟨v63, ev63⟩ : ∃ y : Int32, w19 + 1 = y := ⟨_, rfl⟩
        have qv63 : v63.toInt = w19.toInt + 1 := by rw [← ev63]; exact th_add rfl (by decide) ⟨by omega, by omega⟩
        refine lv_iinc (v := v63) (lv' := [(2, .int v63), (0, .ref a0), (1, .int w7)]) hx hb dX7_goer_57 hl (k := 2) rfl ev63 (by decide) rfl (fun ls hl => ?_)
        refine lv_goto (tgt := 25) hx hb dX7_goer_60 (by decide) ?_
        exact ih25 _ _ _ _ (by omega) ⟨F55, _, v63, rfl, lv_sub hl [1, 2, 0] rfl, hP, hS, hI, hfr, (fun k hk => (y_fiZ oY61 (s_sub (by decide) hk)).trans (hz0 k hk)), ⟨by omega, by omega⟩, ⟨by omega, by omega⟩, rfl⟩
      · have c62 := mt (ax_eq (n := 0) (by decide)).mpr c62
        refine lv_iload_n hx hb dX7_goer_48 rfl (lv_at hl 1 rfl) ?_
        refine lv_iload_n hx hb dX7_goer_49 rfl (lv_at hl 2 rfl) ?_
        refine lv_iadd hx hb dX7_goer_50 ?_
        refine lv_topi (fun v64 ev64 => ?_)
        have qv64 : v64.toInt = w7.toInt + w19.toInt := by rw [ev64]; exact th_add rfl rfl ⟨by omega, by omega⟩
        refine lv_aload_n hx hb dX7_goer_51 rfl (lv_at hl 0 rfl) ?_
        refine va_calli (va_runV (As := []) (rest := [.int v64]) ⟨hx, hb, hml, hown, hts⟩ (y_X7_warps l dC dI H.size hLK A hA F55 a0 ha0 hI) (cwV 0 hts (ax_gV T_993 T_995 T_996 T_265 T_994) rfl rfl rfl (by decide +kernel) ⟨Nat.le_of_ble_eq_true rfl, Nat.le_of_ble_eq_true rfl⟩) ⟨fun a U g mk q => ⟨q.1, s_pc rfl rfl q.2⟩, s_recv hK hP (hLK _ ha0 (by decide)) (ci := 7) rfl oY61, fun U hU hW => ⟨rfl, s_pw hU hW hP hK hD hN⟩⟩ rfl rfl hl.1 rfl (lv_room (Nat.le_of_ble_eq_true rfl)) dX7_goer_52 ⟨Nat.zero_le _, Nat.zero_le _⟩) hS (fun q _ h => h) (fun q h => h) (fun r66 F67 t H1 locs ht hvm hw hB hz1 hk1 hS => ?_)
        obtain ⟨hP, hK1⟩ := hB
        rw [ht] at hP
        generalize H1 = H at hP hS ⊢
        obtain ⟨h68, h70, hI, hfr1, hzf, h69⟩ := hw
        have o71 : F67 (A 13) = .inl (cs 0, 400, .inl f1) := (hfr1 _ (by rw [(y_k13 hA)]; decide)).trans o59
        have o72 : F67 (A 20) = .inl (cs 0, 918, .inl f4) := (hfr1 _ (by rw [(y_k20 hA)]; decide)).trans o60
        have oY73 : F67 a0 = .inr (7, y_fl A z0 q0) := (hfr1 _ (by rw [ha0]; decide)).trans oY61
        have hfr : ∀ b, K b ∉ ([] : List Nat) → F67 b = F b := fun b hb9 => (hfr1 b (fun q => hb9 (s_sub (by decide) q))).trans (hfr b hb9)
        have h69 : (r66 = y_c f1 384) := by have q9 := h69; rw [y_atE o59] at q9; exact q9
        have h74 := congrArg Int32.toInt h69
        have h75 : 1 ≤ r66.toInt ∧ r66.toInt ≤ 4 := ⟨by omega, by omega⟩
        refine lv_irem hx hb dX7_goer_55 (fun q => by have q2 := Int32.toInt_inj.mpr q; have q3 : (0 : Int32).toInt = 0 := (by decide); omega) ?_
        refine lv_topi (fun v76 ev76 => ?_)
        have qv76 : 0 ≤ v76.toInt ∧ v76.toInt < r66.toInt := by rw [ev76]; exact th_remV (by omega) (by omega)
        have hsm : v76 = v52 := by rw [ev76, ev52, show v64 = v40 by rw [ev64, ev40], show r66 = r42 by rw [h69, h45]]
        exact W.iret (v := v76) hx hb hr (fun t ht hW => ⟨⟨v76, F67, rfl, ⟨⟨by omega, by omega⟩, trivial, hI, hfr, fun k hk => (y_fiZ oY73 (s_sub (by decide) hk)).trans ((hz0 k hk).trans (y_fiZ oY0 (s_sub (by decide) hk)).symm), (by rw [y_atE o2, y_atE o5]; exact Or.inr ⟨by omega, by omega, by rw [hsm]; exact h57.resolve_left c62⟩)⟩, by rw [ht]; exact hP, va_K.moved hW.alike hK⟩, hS.F ht⟩) hS.2.2 dX7_goer_56

set_option maxHeartbeats 4000000 in
set_option maxRecDepth 100000 in
theorem yt_X7_partOf (l : Launch) (dC : Nat → ClassId) (dI : Nat → Nat → Nat) (sz : Nat) {L : List Nat} {K : Nat → Nat} {cs : Nat → ClassId} (hLK : ∀ a {k : Nat}, K a = k → k ≠ 0 → a ∈ L) (A : Nat → Nat) (hA : y_A K A) (F : Nat → va_E) (a0 : Nat) (x1 : Int32) (x2 : Int32) (x3 : Int32) (ha0 : K a0 = 9) (hx1 : 0 ≤ x1.toInt ∧ x1.toInt ≤ 3) (hx2 : 0 ≤ x2.toInt ∧ x2.toInt ≤ 7) (hI : y_I K cs A F) (hp4 : (-4 ≤ x3.toInt)) : Met l yX7_partOf (Cond.code yX7_partOf cX7_partOf 4 (some .int) :: T0) ({ frames := 1, cells := 0, slots := 0, locals := 22 }) (va_Pc [.ref a0, .int x1, .int x2, .int x3] (s_W dC dI sz L F [(cs 0, .int), (cs 1, .byte), (cs 2, .long), (cs 3, .object RX5), (cs 4, .object RX4), (cs 5, .array .int), (cs 6, .char), (cs 7, .boolean)])) (va_Qi (fun (r : Int32) (G : Nat → va_E) => True ∧ True ∧ y_I K cs A G ∧ (∀ b, K b ∉ ([] : List Nat) → G b = F b) ∧ (∀ k, k ∈ ([1, 2, 3, 4, 5, 6, 7, 8, 11, 15, 16, 19, 25, 26, 27, 31, 32] : List Nat) → y_fi G a0 k = y_fi F a0 k) ∧ True) (fun (G : Nat → va_E) (t : State) => va_P (dC, dI) vwCl (va_pl L G) t.heap ∧ va_K (dC, dI) vwCl [(cs 0, .int), (cs 1, .byte), (cs 2, .long), (cs 3, .object RX5), (cs 4, .object RX4), (cs 5, .array .int), (cs 6, .char), (cs 7, .boolean)] t) (fun q => q ∈ L)) 0 0 (fun q => q ∈ L) := by
  refine Met.ofW (cc := cX7_partOf) (maxL := 4) (ret := (some .int)) (by decide) rfl ?_
  intro p e s m args below meth c s₁ B hml hv
  obtain ⟨rfl, hsz, hP, hK, hD, hN⟩ := hv
  have hx := B.exec
  have hb := B.bytes
  have hr := B.returns
  have hts : ∀ w ∈ T0, w.before _ s = true := fun w h => atoms_spec (ws := Cond.code yX7_partOf cX7_partOf 4 (some .int) :: T0) B.pre w (List.mem_cons_of_mem _ h)
  have hown : s.vm.findClass RX7 = some m.cls := findClass_of_methodNamed B.named
  have hlocks := B.notSynchronized
  have hS : va_S (fun q => q ∈ L) s.heap s.heap [] := va_S.rf
  have hfr : ∀ b, K b ∉ ([] : List Nat) → F b = F b := fun _ _ => rfl
  have hl := lv_entry ([.ref a0, .int x1, .int x2, .int x3]) (n := 4) (Nat.le_of_ble_eq_true rfl)
  rw [lg_entry_eq]
  generalize (lg_sl ([.ref a0, .int x1, .int x2, .int x3]) ++ List.replicate (4 - (lg_sl ([.ref a0, .int x1, .int x2, .int x3])).length) Slot.unset).toArray = ls at hl ⊢
  have hl : lv_has ls 4 [(0, .ref a0), (1, .int x1), (2, .int x2), (3, .int x3)] := hl
  refine s_gen hP hS (fun H locs hP hS => ?_)
  obtain ⟨z0, q0, oY0, bz0, bq0⟩ := y_opY hI ha0
  have hz0 : ∀ k, k ∈ ([1, 2, 3, 4, 5, 6, 7, 8, 11, 15, 16, 19, 25, 26, 27, 31, 32] : List Nat) → z0 k = z0 k := fun _ _ => rfl
  refine lv_iload_n hx hb dX7_partOf_0 rfl (lv_at hl 3 rfl) ?_
  refine lv_if_lt (tgt := 8) hx hb dX7_partOf_1 (by decide) (fun c1 => ?_) (fun c1 => ?_)
  · have c1 := (ax_lt (n := 0) (by decide)).mp c1
    refine lv_aload_n hx hb dX7_partOf_8 rfl (lv_at hl 0 rfl) ?_
    refine th_get (D := (dC, dI)) (ci := 7) (v := .ref (A 20)) (C := RX7) (T := TX7) (N := 34) hx hb hts inX7 hown hK hP (hLK _ ha0 (by decide)) oY0 rfl 20 (by decide) (hts _ T_251) (fun _ h9 => h9) rfl dX7_partOf_9 ?_
    refine lv_iload_n hx hb dX7_partOf_12 rfl (lv_at hl 1 rfl) ?_
    refine lv_iload_n hx hb dX7_partOf_13 rfl (lv_at hl 2 rfl) ?_
    refine lv_iconst (v := (-1)) hx hb dX7_partOf_14 (by decide) ?_
    refine lv_iload_n hx hb dX7_partOf_15 rfl (lv_at hl 3 rfl) ?_
    refine lv_isub hx hb dX7_partOf_16 ?_
    refine lv_topi (fun v2 ev2 => ?_)
    have qv2 : v2.toInt = (-1) - x3.toInt := by rw [ev2]; exact th_sub (by decide) rfl (by have q8 := th_lo x3; have q9 := th_hi x3; exact ⟨by omega, by omega⟩)
    refine va_calli (va_runS (As := [.int x1, .int x2, .int v2]) (rest := [.ref (A 20)]) ⟨hx, hb, hml, hown, hts⟩ (y_X7_registerAt l dC dI H.size F x1 x2 v2 (⟨by omega, by omega⟩) (⟨by omega, by omega⟩) (⟨by omega, by omega⟩)) (cwS 3 hts (ax_gS T_1095 T_1097 T_265 T_1096) rfl rfl rfl (by decide +kernel) ⟨Nat.le_of_ble_eq_true rfl, Nat.le_of_ble_eq_true rfl⟩) ⟨fun a U g mk q => ⟨q.1, s_pc rfl rfl q.2⟩, fun U hU hW => ⟨rfl, s_pw hU hW hP hK hD hN⟩⟩ rfl rfl hl.1 rfl (lv_room (Nat.le_of_ble_eq_true rfl)) dX7_partOf_17 ⟨Nat.zero_le _, Nat.zero_le _⟩) hS (fun q _ h => h) (fun q h => h) (fun r4 F5 t H1 locs ht hvm hw hB hz1 hk1 hS => ?_)
    obtain ⟨hP, hK1⟩ := hB
    rw [ht] at hP
    generalize H1 = H at hP hS ⊢
    obtain ⟨h6, h8, hG9, h7⟩ := hw
    rw [hG9] at hP
    have h7 : (r4.toInt = 128 + 32 * x1.toInt + 4 * x2.toInt + v2.toInt) := by have q9 := h7; exact q9
    obtain ⟨f9, o10, b11⟩ := y_op20 hI
    refine th_iald hx hb hK hP (hLK _ (y_k20 hA) (by decide)) 0 o10 rfl (th_in ⟨by omega, by omega⟩) dX7_partOf_20 ?_
    refine lv_topi (fun v12 ev12 => ?_)
    exact W.iret (v := v12) hx hb hr (fun t ht hW => ⟨⟨v12, F, rfl, ⟨trivial, trivial, hI, hfr, fun k hk => (y_fiZ oY0 (s_sub (by decide) hk)).trans ((hz0 k hk).trans (y_fiZ oY0 (s_sub (by decide) hk)).symm), trivial⟩, by rw [ht]; exact hP, va_K.moved hW.alike hK⟩, hS.F ht⟩) hS.2.2 dX7_partOf_21
  · have c1 := mt (ax_lt (n := 0) (by decide)).mpr c1
    refine lv_iload_n hx hb dX7_partOf_4 rfl (lv_at hl 3 rfl) ?_
    refine lv_goto (tgt := 21) hx hb dX7_partOf_5 (by decide) ?_
    exact W.iret (v := x3) hx hb hr (fun t ht hW => ⟨⟨x3, F, rfl, ⟨trivial, trivial, hI, hfr, fun k hk => (y_fiZ oY0 (s_sub (by decide) hk)).trans ((hz0 k hk).trans (y_fiZ oY0 (s_sub (by decide) hk)).symm), trivial⟩, by rw [ht]; exact hP, va_K.moved hW.alike hK⟩, hS.F ht⟩) hS.2.2 dX7_partOf_21

set_option maxHeartbeats 4000000 in
set_option maxRecDepth 100000 in
theorem yt_X7_modulo (l : Launch) (dC : Nat → ClassId) (dI : Nat → Nat → Nat) (sz : Nat) {L : List Nat} {cs : Nat → ClassId} (F : Nat → va_E) (y0 : Int64) (x1 : Int32) (hx1 : 1 ≤ x1.toInt ∧ x1.toInt ≤ 2147483647) : Met l yX7_modulo (Cond.code yX7_modulo cX7_modulo 5 (some .int) :: T0) ({ frames := 0, cells := 0, slots := 0, locals := 0 }) (va_Pc [.long y0, .int x1] (s_W dC dI sz L F [(cs 0, .int), (cs 1, .byte), (cs 2, .long), (cs 3, .object RX5), (cs 4, .object RX4), (cs 5, .array .int), (cs 6, .char), (cs 7, .boolean)])) (va_Qi (fun (r : Int32) (G : Nat → va_E) => True ∧ True ∧ G = F ∧ (0 ≤ r.toInt ∧ r.toInt < x1.toInt)) (fun (G : Nat → va_E) (t : State) => va_P (dC, dI) vwCl (va_pl L G) t.heap ∧ va_K (dC, dI) vwCl [(cs 0, .int), (cs 1, .byte), (cs 2, .long), (cs 3, .object RX5), (cs 4, .object RX4), (cs 5, .array .int), (cs 6, .char), (cs 7, .boolean)] t) (fun q => q ∈ L)) 0 0 (fun q => q ∈ L) := by
  refine Met.ofW (cc := cX7_modulo) (maxL := 5) (ret := (some .int)) (by decide) rfl ?_
  intro p e s m args below meth c s₁ B hml hv
  obtain ⟨rfl, hsz, hP, hK, hD, hN⟩ := hv
  have hx := B.exec
  have hb := B.bytes
  have hr := B.returns
  have hts : ∀ w ∈ T0, w.before _ s = true := fun w h => atoms_spec (ws := Cond.code yX7_modulo cX7_modulo 5 (some .int) :: T0) B.pre w (List.mem_cons_of_mem _ h)
  have hown : s.vm.findClass RX7 = some m.cls := findClass_of_methodNamed B.named
  have hlocks := B.notSynchronized
  have hS : va_S (fun q => q ∈ L) s.heap s.heap [] := va_S.rf
  have hl := lv_entry ([.long y0, .int x1]) (n := 5) (Nat.le_of_ble_eq_true rfl)
  rw [lg_entry_eq]
  generalize (lg_sl ([.long y0, .int x1]) ++ List.replicate (5 - (lg_sl ([.long y0, .int x1])).length) Slot.unset).toArray = ls at hl ⊢
  have hl : lv_has ls 5 [(0, .long y0), (2, .int x1)] := hl
  refine s_gen hP hS (fun H locs hP hS => ?_)
  refine lv_lload_n hx hb dX7_modulo_0 rfl (lv_at hl 0 rfl) ?_
  refine lv_iload_n hx hb dX7_modulo_1 rfl (lv_at hl 1 rfl) ?_
  refine lv_i2l hx hb dX7_modulo_2 rfl ?_
  refine lv_topl (fun v1 ev1 => ?_)
  have qv1 : v1.toInt = x1.toInt := y_i2l ev1
  refine lv_lrem hx hb dX7_modulo_3 (by rw [ev1]; exact th_nzL (by omega)) ?_
  refine lv_topl (fun v2 ev2 => ?_)
  have qv2 : -x1.toInt < v2.toInt ∧ v2.toInt < x1.toInt := by have q9 := y_modA (x := y0) (y := v1) (by omega); rw [← ev2] at q9; omega
  refine lv_lstore_n (lv' := [(3, .long v2), (0, .long y0), (2, .int x1)]) hx hb dX7_modulo_4 rfl hl (by decide) rfl (fun ls hl => ?_)
  refine lv_lload_n hx hb dX7_modulo_5 rfl (lv_at hl 0 rfl) ?_
  refine lv_lconst (v := 0) hx hb dX7_modulo_6 (by decide) ?_
  refine W.lcmp hx hb dX7_modulo_7 ?_
  refine lv_topi (fun v3 ev3 => ?_)
  have qv3 : (v3.toInt < 0 ↔ v2.toInt < 0) ∧ (0 < v3.toInt ↔ 0 < v2.toInt) := by rw [ev3]; exact y_cmp
  refine lv_if_ge (tgt := 18) hx hb dX7_modulo_8 (by decide) (fun c4 => ?_) (fun c4 => ?_)
  · have c4 := (ax_ge (n := 0) (by decide)).mp c4
    refine lv_lload_n hx hb dX7_modulo_18 rfl (lv_at hl 0 rfl) ?_
    refine lv_l2i hx hb dX7_modulo_19 rfl ?_
    refine lv_topi (fun v5 ev5 => ?_)
    have hi9 := th_hi x1
    have qv5 : v5.toInt = v2.toInt := by rw [ev5]; exact th_l32 ⟨by omega, by omega⟩
    exact W.iret (v := v5) hx hb hr (fun t ht hW => ⟨⟨v5, F, rfl, ⟨trivial, trivial, rfl, (by omega)⟩, by rw [ht]; exact hP, va_K.moved hW.alike hK⟩, hS.F ht⟩) hS.2.2 dX7_modulo_20
  · have c4 := mt (ax_ge (n := 0) (by decide)).mpr c4
    refine lv_lload_n hx hb dX7_modulo_11 rfl (lv_at hl 0 rfl) ?_
    refine lv_iload_n hx hb dX7_modulo_12 rfl (lv_at hl 2 rfl) ?_
    refine lv_i2l hx hb dX7_modulo_13 rfl ?_
    refine lv_topl (fun v6 ev6 => ?_)
    have qv6 : v6.toInt = x1.toInt := y_i2l ev6
    refine lv_ladd hx hb dX7_modulo_14 ?_
    refine lv_topl (fun v7 ev7 => ?_)
    have qv7 : v7.toInt = v2.toInt + v6.toInt := by rw [ev7]; exact y_addL ⟨by omega, by omega⟩
    refine lv_goto (tgt := 19) hx hb dX7_modulo_15 (by decide) ?_
    refine lv_l2i hx hb dX7_modulo_19 rfl ?_
    refine lv_topi (fun v8 ev8 => ?_)
    have hi9 := th_hi x1
    have qv8 : v8.toInt = v7.toInt := by rw [ev8]; exact th_l32 ⟨by omega, by omega⟩
    exact W.iret (v := v8) hx hb hr (fun t ht hW => ⟨⟨v8, F, rfl, ⟨trivial, trivial, rfl, (by omega)⟩, by rw [ht]; exact hP, va_K.moved hW.alike hK⟩, hS.F ht⟩) hS.2.2 dX7_modulo_20

set_option maxHeartbeats 4000000 in
set_option maxRecDepth 100000 in
theorem yt_X7_bounded (l : Launch) (dC : Nat → ClassId) (dI : Nat → Nat → Nat) (sz : Nat) {L : List Nat} {cs : Nat → ClassId} (F : Nat → va_E) (y0 : Int64)  : Met l yX7_bounded (Cond.code yX7_bounded cX7_bounded 2 (some .int) :: T0) ({ frames := 0, cells := 0, slots := 0, locals := 0 }) (va_Pc [.long y0] (s_W dC dI sz L F [(cs 0, .int), (cs 1, .byte), (cs 2, .long), (cs 3, .object RX5), (cs 4, .object RX4), (cs 5, .array .int), (cs 6, .char), (cs 7, .boolean)])) (va_Qi (fun (r : Int32) (G : Nat → va_E) => True ∧ True ∧ G = F ∧ True) (fun (G : Nat → va_E) (t : State) => va_P (dC, dI) vwCl (va_pl L G) t.heap ∧ va_K (dC, dI) vwCl [(cs 0, .int), (cs 1, .byte), (cs 2, .long), (cs 3, .object RX5), (cs 4, .object RX4), (cs 5, .array .int), (cs 6, .char), (cs 7, .boolean)] t) (fun q => q ∈ L)) 0 0 (fun q => q ∈ L) := by
  refine Met.ofW (cc := cX7_bounded) (maxL := 2) (ret := (some .int)) (by decide) rfl ?_
  intro p e s m args below meth c s₁ B hml hv
  obtain ⟨rfl, hsz, hP, hK, hD, hN⟩ := hv
  have hx := B.exec
  have hb := B.bytes
  have hr := B.returns
  have hts : ∀ w ∈ T0, w.before _ s = true := fun w h => atoms_spec (ws := Cond.code yX7_bounded cX7_bounded 2 (some .int) :: T0) B.pre w (List.mem_cons_of_mem _ h)
  have hown : s.vm.findClass RX7 = some m.cls := findClass_of_methodNamed B.named
  have hlocks := B.notSynchronized
  have hS : va_S (fun q => q ∈ L) s.heap s.heap [] := va_S.rf
  have hl := lv_entry ([.long y0]) (n := 2) (Nat.le_of_ble_eq_true rfl)
  rw [lg_entry_eq]
  generalize (lg_sl ([.long y0]) ++ List.replicate (2 - (lg_sl ([.long y0])).length) Slot.unset).toArray = ls at hl ⊢
  have hl : lv_has ls 2 [(0, .long y0)] := hl
  refine s_gen hP hS (fun H locs hP hS => ?_)
  refine lv_lload_n hx hb dX7_bounded_0 rfl (lv_at hl 0 rfl) ?_
  refine lv_ldc2 hx hb hown (hts _ T_1038) dX7_bounded_1 ?_
  refine W.lcmp hx hb dX7_bounded_4 ?_
  refine lv_topi (fun v1 ev1 => ?_)
  have qv1 : (v1.toInt < 0 ↔ y0.toInt < 9999) ∧ (0 < v1.toInt ↔ 9999 < y0.toInt) := by rw [ev1]; exact y_cmp
  refine lv_if_le (tgt := 14) hx hb dX7_bounded_5 (by decide) (fun c2 => ?_) (fun c2 => ?_)
  · have c2 := (ax_le (n := 0) (by decide)).mp c2
    refine lv_lload_n hx hb dX7_bounded_14 rfl (lv_at hl 0 rfl) ?_
    refine lv_ldc2 hx hb hown (hts _ T_1039) dX7_bounded_15 ?_
    refine W.lcmp hx hb dX7_bounded_18 ?_
    refine lv_topi (fun v3 ev3 => ?_)
    have qv3 : (v3.toInt < 0 ↔ y0.toInt < (-9999)) ∧ (0 < v3.toInt ↔ (-9999) < y0.toInt) := by rw [ev3]; exact y_cmp
    refine lv_if_ge (tgt := 28) hx hb dX7_bounded_19 (by decide) (fun c4 => ?_) (fun c4 => ?_)
    · have c4 := (ax_ge (n := 0) (by decide)).mp c4
      refine lv_lload_n hx hb dX7_bounded_28 rfl (lv_at hl 0 rfl) ?_
      refine lv_l2i hx hb dX7_bounded_29 rfl ?_
      refine lv_topi (fun v5 ev5 => ?_)
      exact W.iret (v := v5) hx hb hr (fun t ht hW => ⟨⟨v5, F, rfl, ⟨trivial, trivial, rfl, trivial⟩, by rw [ht]; exact hP, va_K.moved hW.alike hK⟩, hS.F ht⟩) hS.2.2 dX7_bounded_30
    · have c4 := mt (ax_ge (n := 0) (by decide)).mpr c4
      refine lv_ldc2 hx hb hown (hts _ T_1039) dX7_bounded_22 ?_
      refine lv_goto (tgt := 29) hx hb dX7_bounded_25 (by decide) ?_
      refine lv_l2i hx hb dX7_bounded_29 rfl ?_
      refine lv_topi (fun v6 ev6 => ?_)
      exact W.iret (v := v6) hx hb hr (fun t ht hW => ⟨⟨v6, F, rfl, ⟨trivial, trivial, rfl, trivial⟩, by rw [ht]; exact hP, va_K.moved hW.alike hK⟩, hS.F ht⟩) hS.2.2 dX7_bounded_30
  · have c2 := mt (ax_le (n := 0) (by decide)).mpr c2
    refine lv_ldc2 hx hb hown (hts _ T_1038) dX7_bounded_8 ?_
    refine lv_goto (tgt := 29) hx hb dX7_bounded_11 (by decide) ?_
    refine lv_l2i hx hb dX7_bounded_29 rfl ?_
    refine lv_topi (fun v7 ev7 => ?_)
    exact W.iret (v := v7) hx hb hr (fun t ht hW => ⟨⟨v7, F, rfl, ⟨trivial, trivial, rfl, trivial⟩, by rw [ht]; exact hP, va_K.moved hW.alike hK⟩, hS.F ht⟩) hS.2.2 dX7_bounded_30

set_option maxHeartbeats 4000000 in
set_option maxRecDepth 100000 in
theorem yt_X7_hasFirst (l : Launch) (dC : Nat → ClassId) (dI : Nat → Nat → Nat) (sz : Nat) {L : List Nat} {cs : Nat → ClassId} (F : Nat → va_E) (x0 : Int32) (hx0 : 0 ≤ x0.toInt ∧ x0.toInt ≤ 15) : Met l yX7_hasFirst (Cond.code yX7_hasFirst cX7_hasFirst 1 (some .boolean) :: T0) ({ frames := 1, cells := 0, slots := 0, locals := 20 }) (va_Pc [.int x0] (s_W dC dI sz L F [(cs 0, .int), (cs 1, .byte), (cs 2, .long), (cs 3, .object RX5), (cs 4, .object RX4), (cs 5, .array .int), (cs 6, .char), (cs 7, .boolean)])) (va_Qi (fun (r : Int32) (G : Nat → va_E) => (0 ≤ r.toInt ∧ r.toInt ≤ 1) ∧ True ∧ G = F ∧ ((r.toInt = 1 ∧ ¬ (x0.toInt = 5 ∨ x0.toInt = 6 ∨ 12 ≤ x0.toInt)) ∨ (r.toInt = 0 ∧ (x0.toInt = 5 ∨ x0.toInt = 6 ∨ 12 ≤ x0.toInt)))) (fun (G : Nat → va_E) (t : State) => va_P (dC, dI) vwCl (va_pl L G) t.heap ∧ va_K (dC, dI) vwCl [(cs 0, .int), (cs 1, .byte), (cs 2, .long), (cs 3, .object RX5), (cs 4, .object RX4), (cs 5, .array .int), (cs 6, .char), (cs 7, .boolean)] t) (fun q => q ∈ L)) 0 0 (fun q => q ∈ L) := by
  refine Met.ofW (cc := cX7_hasFirst) (maxL := 1) (ret := (some .boolean)) (by decide) rfl ?_
  intro p e s m args below meth c s₁ B hml hv
  obtain ⟨rfl, hsz, hP, hK, hD, hN⟩ := hv
  have hx := B.exec
  have hb := B.bytes
  have hr := B.returns
  have hts : ∀ w ∈ T0, w.before _ s = true := fun w h => atoms_spec (ws := Cond.code yX7_hasFirst cX7_hasFirst 1 (some .boolean) :: T0) B.pre w (List.mem_cons_of_mem _ h)
  have hown : s.vm.findClass RX7 = some m.cls := findClass_of_methodNamed B.named
  have hlocks := B.notSynchronized
  have hS : va_S (fun q => q ∈ L) s.heap s.heap [] := va_S.rf
  have hl := lv_entry ([.int x0]) (n := 1) (Nat.le_of_ble_eq_true rfl)
  rw [lg_entry_eq]
  generalize (lg_sl ([.int x0]) ++ List.replicate (1 - (lg_sl ([.int x0])).length) Slot.unset).toArray = ls at hl ⊢
  have hl : lv_has ls 1 [(0, .int x0)] := hl
  refine s_gen hP hS (fun H locs hP hS => ?_)
  refine lv_iload_n hx hb dX7_hasFirst_0 rfl (lv_at hl 0 rfl) ?_
  refine va_calli (va_runS (As := [.int x0]) (rest := []) ⟨hx, hb, hml, hown, hts⟩ (y_X7_partsOf l dC dI H.size F x0 (⟨by omega, by omega⟩)) (cwS 1 hts (ax_gS T_1197 T_1199 T_265 T_1198) rfl rfl rfl (by decide +kernel) ⟨Nat.le_of_ble_eq_true rfl, Nat.le_of_ble_eq_true rfl⟩) ⟨fun a U g mk q => ⟨q.1, s_pc rfl rfl q.2⟩, fun U hU hW => ⟨rfl, s_pw hU hW hP hK hD hN⟩⟩ rfl rfl hl.1 rfl (lv_room (Nat.le_of_ble_eq_true rfl)) dX7_hasFirst_1 ⟨Nat.zero_le _, Nat.zero_le _⟩) hS (fun q _ h => h) (fun q h => h) (fun r2 F3 t H1 locs ht hvm hw hB hz1 hk1 hS => ?_)
  obtain ⟨hP, hK1⟩ := hB
  rw [ht] at hP
  generalize H1 = H at hP hS ⊢
  obtain ⟨h4, h6, hG9, h5⟩ := hw
  rw [hG9] at hP
  have h5 : ((r2.toInt = 0 ∧ (x0.toInt = 5 ∨ x0.toInt = 6 ∨ 12 ≤ x0.toInt)) ∨ (r2.toInt = 1 ∧ (x0.toInt = 0 ∨ x0.toInt = 7 ∨ x0.toInt = 9 ∨ x0.toInt = 11)) ∨ (r2.toInt = 2 ∧ ((1 ≤ x0.toInt ∧ x0.toInt ≤ 4) ∨ x0.toInt = 8 ∨ x0.toInt = 10))) := by have q9 := h5; exact q9
  refine lv_if_le (tgt := 11) hx hb dX7_hasFirst_4 (by decide) (fun c7 => ?_) (fun c7 => ?_)
  · have c7 := (ax_le (n := 0) (by decide)).mp c7
    refine lv_iconst (v := 0) hx hb dX7_hasFirst_11 (by decide) ?_
    have h8 : (0 : Int32).toInt = 0 := by decide
    exact W.zret (v := 0) (ty := .boolean) hx hb hr (by decide) (fun t ht hW => ⟨⟨0, F, rfl, ⟨(by decide), trivial, rfl, (by omega)⟩, by rw [ht]; exact hP, va_K.moved hW.alike hK⟩, hS.F ht⟩) hS.2.2 dX7_hasFirst_12
  · have c7 := mt (ax_le (n := 0) (by decide)).mpr c7
    refine lv_iconst (v := 1) hx hb dX7_hasFirst_7 (by decide) ?_
    refine lv_goto (tgt := 12) hx hb dX7_hasFirst_8 (by decide) ?_
    have h9 : (1 : Int32).toInt = 1 := by decide
    exact W.zret (v := 1) (ty := .boolean) hx hb hr (by decide) (fun t ht hW => ⟨⟨1, F, rfl, ⟨(by decide), trivial, rfl, (by omega)⟩, by rw [ht]; exact hP, va_K.moved hW.alike hK⟩, hS.F ht⟩) hS.2.2 dX7_hasFirst_12

set_option maxHeartbeats 4000000 in
set_option maxRecDepth 100000 in
theorem yt_X7_reads (l : Launch) (dC : Nat → ClassId) (dI : Nat → Nat → Nat) (sz : Nat) {L : List Nat} {K : Nat → Nat} {cs : Nat → ClassId} (hLK : ∀ a {k : Nat}, K a = k → k ≠ 0 → a ∈ L) (A : Nat → Nat) (hA : y_A K A) (F : Nat → va_E) (a0 : Nat) (x1 : Int32) (x2 : Int32) (x3 : Int32) (ha0 : K a0 = 9) (hx1 : 0 ≤ x1.toInt ∧ x1.toInt ≤ 3) (hx2 : 0 ≤ x2.toInt ∧ x2.toInt ≤ 39) (hI : y_I K cs A F) (hPG : y_PG (y_at F (A 13))) (hln : (x2.toInt < (y_c (y_at F (A 13)) 387).toInt)) : Met l yX7_reads (Cond.code yX7_reads cX7_reads 6 none :: T0) ({ frames := 3, cells := 0, slots := 0, locals := 64 }) (va_Pc [.ref a0, .int x1, .int x2, .int x3] (s_W dC dI sz L F [(cs 0, .int), (cs 1, .byte), (cs 2, .long), (cs 3, .object RX5), (cs 4, .object RX4), (cs 5, .array .int), (cs 6, .char), (cs 7, .boolean)])) (va_Qv (fun (G : Nat → va_E) => True ∧ True ∧ y_I K cs A G ∧ (∀ b, K b ∉ [71, 72] → G b = F b) ∧ (∀ k, k ∈ ([1, 2, 3, 4, 5, 6, 7, 8, 11, 15, 16, 19, 25, 26, 27, 31, 32] : List Nat) → y_fi G a0 k = y_fi F a0 k) ∧ True) (fun (G : Nat → va_E) (t : State) => va_P (dC, dI) vwCl (va_pl L G) t.heap ∧ va_K (dC, dI) vwCl [(cs 0, .int), (cs 1, .byte), (cs 2, .long), (cs 3, .object RX5), (cs 4, .object RX4), (cs 5, .array .int), (cs 6, .char), (cs 7, .boolean)] t) (fun q => q ∈ L)) 0 0 (fun q => q ∈ L) := by
  refine Met.ofW (cc := cX7_reads) (maxL := 6) (ret := none) (by decide) rfl ?_
  intro p e s m args below meth c s₁ B hml hv
  obtain ⟨rfl, hsz, hP, hK, hD, hN⟩ := hv
  have hx := B.exec
  have hb := B.bytes
  have hr := B.returns
  have hts : ∀ w ∈ T0, w.before _ s = true := fun w h => atoms_spec (ws := Cond.code yX7_reads cX7_reads 6 none :: T0) B.pre w (List.mem_cons_of_mem _ h)
  have hown : s.vm.findClass RX7 = some m.cls := findClass_of_methodNamed B.named
  have hlocks := B.notSynchronized
  have hS : va_S (fun q => q ∈ L) s.heap s.heap [] := va_S.rf
  have hfr : ∀ b, K b ∉ [71, 72] → F b = F b := fun _ _ => rfl
  have hl := lv_entry ([.ref a0, .int x1, .int x2, .int x3]) (n := 6) (Nat.le_of_ble_eq_true rfl)
  rw [lg_entry_eq]
  generalize (lg_sl ([.ref a0, .int x1, .int x2, .int x3]) ++ List.replicate (6 - (lg_sl ([.ref a0, .int x1, .int x2, .int x3])).length) Slot.unset).toArray = ls at hl ⊢
  have hl : lv_has ls 6 [(0, .ref a0), (1, .int x1), (2, .int x2), (3, .int x3)] := hl
  refine s_gen hP hS (fun H locs hP hS => ?_)
  obtain ⟨z0, q0, oY0, bz0, bq0⟩ := y_opY hI ha0
  have hz0 : ∀ k, k ∈ ([1, 2, 3, 4, 5, 6, 7, 8, 11, 15, 16, 19, 25, 26, 27, 31, 32] : List Nat) → z0 k = z0 k := fun _ _ => rfl
  obtain ⟨f1, o2, b3⟩ := y_op13 hI
  have hPG : y_PG f1 := by have q9 := hPG; rw [y_atE o2] at q9; exact q9
  have hln : (x2.toInt < (y_c f1 387).toInt) := by have q9 := hln; rw [y_atE o2] at q9; exact q9
  have hL := y_P0L hPG.1
  have hW := y_P0W hPG.1
  have hrg := hPG.1.1.1 x2.toInt (by omega) (by omega)
  unfold y_rg at hrg
  refine lv_aload_n hx hb dX7_reads_0 rfl (lv_at hl 0 rfl) ?_
  refine lv_iload_n hx hb dX7_reads_1 rfl (lv_at hl 2 rfl) ?_
  refine lv_iconst (v := 0) hx hb dX7_reads_2 (by decide) ?_
  refine va_calli (va_runV (As := [.int x2, .int 0]) (rest := []) ⟨hx, hb, hml, hown, hts⟩ (y_X7_of l dC dI H.size hLK A hA F a0 x2 0 ha0 (⟨by omega, by omega⟩) (by decide) hI) (cwV 2 hts (ax_gV T_1131 T_1133 T_1134 T_265 T_1132) rfl rfl rfl (by decide +kernel) ⟨Nat.le_of_ble_eq_true rfl, Nat.le_of_ble_eq_true rfl⟩) ⟨fun a U g mk q => ⟨q.1, s_pc rfl rfl q.2⟩, s_recv hK hP (hLK _ ha0 (by decide)) (ci := 7) rfl oY0, fun U hU hW => ⟨rfl, s_pw hU hW hP hK hD hN⟩⟩ rfl rfl hl.1 rfl (lv_room (Nat.le_of_ble_eq_true rfl)) dX7_reads_3 ⟨Nat.zero_le _, Nat.zero_le _⟩) hS (fun q _ h => h) (fun q h => h) (fun r5 F6 t H1 locs ht hvm hw hB hz1 hk1 hS => ?_)
  obtain ⟨hP, hK1⟩ := hB
  rw [ht] at hP
  generalize H1 = H at hP hS ⊢
  obtain ⟨h7, h9, hI, hfr1, hzf, h8⟩ := hw
  have o10 : F6 (A 13) = .inl (cs 0, 400, .inl f1) := (hfr1 _ (by rw [(y_k13 hA)]; decide)).trans o2
  have oY11 : F6 a0 = .inr (7, y_fl A z0 q0) := (hfr1 _ (by rw [ha0]; decide)).trans oY0
  have hfr : ∀ b, K b ∉ [71, 72] → F6 b = F b := fun b hb9 => (hfr1 b (fun q => hb9 (s_sub (by decide) q))).trans (hfr b hb9)
  have h8 : (r5 = y_c f1 (8 * x2.toInt + 0)) := by have q9 := h8; rw [y_atE o2] at q9; exact q9
  have h8 : r5 = y_c f1 (8 * x2.toInt) := h8.trans (congrArg (y_c f1) (by omega))
  have h12 := congrArg Int32.toInt h8
  have h13 : 0 ≤ r5.toInt ∧ r5.toInt ≤ 15 := by have q9 := congrArg Int32.toInt h8; exact ⟨by omega, by omega⟩
  refine lv_istore (lv' := [(4, .int r5), (0, .ref a0), (1, .int x1), (2, .int x2), (3, .int x3)]) hx hb dX7_reads_6 hl (by decide) rfl (fun ls hl => ?_)
  refine lv_iconst (v := 0) hx hb dX7_reads_8 (by decide) ?_
  refine lv_istore (lv' := [(5, .int 0), (4, .int r5), (0, .ref a0), (1, .int x1), (2, .int x2), (3, .int x3)]) hx hb dX7_reads_9 hl (by decide) rfl (fun ls hl => ?_)
  have h15 : (0 : Int32).toInt = 0 := by decide
  refine th_loop (fun n g H locs => ∃ (G : Nat → va_E) (ls : Array Slot) (w14 : Int32), g = F0 m 11 ls [] ∧ lv_has ls 6 [(0, .ref a0), (1, .int x1), (2, .int x2), (3, .int x3), (4, .int r5), (5, .int w14)] ∧ va_P (dC, dI) vwCl (va_pl L G) H ∧ va_S (fun q => q ∈ L) s.heap H locs ∧ y_I K cs A G ∧ (∀ b, K b ∉ [71, 72] → G b = F b) ∧ (∀ k, k ∈ ([1, 2, 3, 4, 5, 6, 7, 8, 11, 15, 16, 19, 25, 26, 27, 31, 32] : List Nat) → y_fi G a0 k = z0 k) ∧ (0 ≤ w14.toInt ∧ w14.toInt ≤ 8) ∧ (0 ≤ x1.toInt ∧ x1.toInt ≤ 3) ∧ (0 ≤ x2.toInt ∧ x2.toInt ≤ 39) ∧ (0 ≤ r5.toInt ∧ r5.toInt ≤ 15) ∧ (r5.toInt = (y_c f1 (8 * x2.toInt)).toInt) ∧ n = (9 - w14.toInt).toNat) _ ⟨F6, _, 0, rfl, lv_sub hl [2, 3, 4, 5, 1, 0] rfl, hP, hS, hI, hfr, (fun k hk => (y_fiZ oY11 (s_sub (by decide) hk)).trans (hz0 k hk)), (by decide), ⟨by omega, by omega⟩, ⟨by omega, by omega⟩, ⟨by omega, by omega⟩, (by omega), rfl⟩ (fun n ih11 g H locs hq => ?_)
  obtain ⟨F21, ls, w14, rfl, hl, hP, hS, hI, hfr, hz0, h16, h17, h18, h19, h20, hn⟩ := hq
  have o22 : F21 (A 13) = .inl (cs 0, 400, .inl f1) := (hfr _ (by rw [(y_k13 hA)]; decide)).trans o2
  have oY23 : F21 a0 = .inr (7, y_fl A z0 q0) := (hfr _ (by rw [ha0]; decide)).trans oY0
  have hz0 : ∀ k, k ∈ ([1, 2, 3, 4, 5, 6, 7, 8, 11, 15, 16, 19, 25, 26, 27, 31, 32] : List Nat) → z0 k = z0 k := fun _ _ => rfl
  have hn_23 := hn
  refine th_join (fun g H locs => ∃ (G : Nat → va_E) (ls : Array Slot), g = F0 m 111 ls [] ∧ lv_has ls 6 [(0, .ref a0), (1, .int x1), (2, .int x2), (3, .int x3), (4, .int r5), (5, .int w14)] ∧ va_P (dC, dI) vwCl (va_pl L G) H ∧ va_S (fun q => q ∈ L) s.heap H locs ∧ y_I K cs A G ∧ (∀ b, K b ∉ [71, 72] → G b = F b) ∧ (∀ k, k ∈ ([1, 2, 3, 4, 5, 6, 7, 8, 11, 15, 16, 19, 25, 26, 27, 31, 32] : List Nat) → y_fi G a0 k = z0 k) ∧ (0 ≤ x1.toInt ∧ x1.toInt ≤ 3) ∧ (0 ≤ x2.toInt ∧ x2.toInt ≤ 39) ∧ (0 ≤ r5.toInt ∧ r5.toInt ≤ 15) ∧ (0 ≤ w14.toInt ∧ w14.toInt ≤ 7) ∧ (r5.toInt = (y_c f1 (8 * x2.toInt)).toInt)) (fun K111 => ?_) ?_
  refine th_join (fun g H locs => ∃ (G : Nat → va_E) (ls : Array Slot) (w24 : Int32) (w25 : Int32), g = F0 m 110 ls [.int w24, .int w25, .ref (A 22)] ∧ lv_has ls 6 [(0, .ref a0), (1, .int x1), (2, .int x2), (3, .int x3), (4, .int r5), (5, .int w14)] ∧ va_P (dC, dI) vwCl (va_pl L G) H ∧ va_S (fun q => q ∈ L) s.heap H locs ∧ y_I K cs A G ∧ (∀ b, K b ∉ [71, 72] → G b = F b) ∧ (∀ k, k ∈ ([1, 2, 3, 4, 5, 6, 7, 8, 11, 15, 16, 19, 25, 26, 27, 31, 32] : List Nat) → y_fi G a0 k = z0 k) ∧ True ∧ (0 ≤ w25.toInt ∧ w25.toInt ≤ 7) ∧ (0 ≤ x1.toInt ∧ x1.toInt ≤ 3) ∧ (0 ≤ x2.toInt ∧ x2.toInt ≤ 39) ∧ (0 ≤ r5.toInt ∧ r5.toInt ≤ 15) ∧ (0 ≤ w14.toInt ∧ w14.toInt ≤ 7) ∧ (r5.toInt = (y_c f1 (8 * x2.toInt)).toInt)) (fun K110 => ?_) ?_
  refine th_join (fun g H locs => ∃ (G : Nat → va_E) (ls : Array Slot) (w26 : Int32) (w27 : Int32), g = F0 m 69 ls [.int w26, .int w27, .ref (A 21)] ∧ lv_has ls 6 [(0, .ref a0), (1, .int x1), (2, .int x2), (3, .int x3), (4, .int r5), (5, .int w14)] ∧ va_P (dC, dI) vwCl (va_pl L G) H ∧ va_S (fun q => q ∈ L) s.heap H locs ∧ y_I K cs A G ∧ (∀ b, K b ∉ [71, 72] → G b = F b) ∧ (∀ k, k ∈ ([1, 2, 3, 4, 5, 6, 7, 8, 11, 15, 16, 19, 25, 26, 27, 31, 32] : List Nat) → y_fi G a0 k = z0 k) ∧ True ∧ (0 ≤ w27.toInt ∧ w27.toInt ≤ 7) ∧ (0 ≤ x1.toInt ∧ x1.toInt ≤ 3) ∧ (0 ≤ x2.toInt ∧ x2.toInt ≤ 39) ∧ (0 ≤ r5.toInt ∧ r5.toInt ≤ 15) ∧ (0 ≤ w14.toInt ∧ w14.toInt ≤ 7) ∧ (r5.toInt = (y_c f1 (8 * x2.toInt)).toInt)) (fun K69 => ?_) ?_
  · refine lv_iload hx hb dX7_reads_11 (lv_at hl 5 rfl) ?_
    refine lv_bipush (v := 8) hx hb dX7_reads_13 (by decide) ?_
    refine lv_icmp_ge (tgt := 117) hx hb dX7_reads_15 (by decide) (fun c28 => ?_) (fun c28 => ?_)
    · have c28 := (ax_ge (n := 8) (by decide)).mp c28
      exact W.vret hx hb hr (fun t ht hW => ⟨⟨F21, rfl, ⟨trivial, trivial, hI, hfr, fun k hk => (y_fiZ oY23 (s_sub (by decide) hk)).trans ((hz0 k hk).trans (y_fiZ oY0 (s_sub (by decide) hk)).symm), trivial⟩, by rw [ht]; exact hP, va_K.moved hW.alike hK⟩, hS.F ht⟩) hS.2.2 dX7_reads_117
    · have c28 := mt (ax_ge (n := 8) (by decide)).mpr c28
      refine lv_iload_n hx hb dX7_reads_18 rfl (lv_at hl 3 rfl) ?_
      refine lv_iload hx hb dX7_reads_19 (lv_at hl 5 rfl) ?_
      refine va_calli (va_runS (As := [.int x3, .int w14]) (rest := []) ⟨hx, hb, hml, hown, hts⟩ (y_X7_isOf l dC dI H.size F21 x3 w14 (⟨by omega, by omega⟩)) (cwS 2 hts (ax_gS T_1027 T_1029 T_265 T_1028) rfl rfl rfl (by decide +kernel) ⟨Nat.le_of_ble_eq_true rfl, Nat.le_of_ble_eq_true rfl⟩) ⟨fun a U g mk q => ⟨q.1, s_pc rfl rfl q.2⟩, fun U hU hW => ⟨rfl, s_pw hU hW hP hK hD hN⟩⟩ rfl rfl hl.1 rfl (lv_room (Nat.le_of_ble_eq_true rfl)) dX7_reads_21 ⟨Nat.zero_le _, Nat.zero_le _⟩) hS (fun q _ h => h) (fun q h => h) (fun r30 F31 t H1 locs ht hvm hw hB hz1 hk1 hS => ?_)
      obtain ⟨hP, hK1⟩ := hB
      rw [ht] at hP
      generalize H1 = H at hP hS ⊢
      obtain ⟨h32, h34, hG9, h33⟩ := hw
      rw [hG9] at hP
      have h33 : ((r30.toInt = 1 ∧ bt x3 w14.toInt.toNat = true) ∨ (r30.toInt = 0 ∧ bt x3 w14.toInt.toNat = false)) := by have q9 := h33; exact q9
      refine lv_if_ne (tgt := 30) hx hb dX7_reads_24 (by decide) (fun c35 => ?_) (fun c35 => ?_)
      · have c35 := mt (ax_eq (n := 0) (by decide)).mpr c35
        refine lv_aload_n hx hb dX7_reads_30 rfl (lv_at hl 0 rfl) ?_
        refine th_get (D := (dC, dI)) (ci := 7) (v := .ref (A 21)) (C := RX7) (T := TX7) (N := 34) hx hb hts inX7 hown hK hP (hLK _ ha0 (by decide)) oY23 rfl 21 (by decide) (hts _ T_252) (fun _ h9 => h9) rfl dX7_reads_31 ?_
        refine lv_iload hx hb dX7_reads_34 (lv_at hl 5 rfl) ?_
        refine lv_iload hx hb dX7_reads_36 (lv_at hl 4 rfl) ?_
        refine va_calli (va_runS (As := [.int r5]) (rest := [.int w14, .ref (A 21)]) ⟨hx, hb, hml, hown, hts⟩ (y_X7_hasFirst l dC dI H.size F21 r5 (⟨by omega, by omega⟩)) (cwS 1 hts (ax_gS T_1298 T_1300 T_265 T_1299) rfl rfl rfl (by decide +kernel) ⟨Nat.le_of_ble_eq_true rfl, Nat.le_of_ble_eq_true rfl⟩) ⟨fun a U g mk q => ⟨q.1, s_pc rfl rfl q.2⟩, fun U hU hW => ⟨rfl, s_pw hU hW hP hK hD hN⟩⟩ rfl rfl hl.1 rfl (lv_room (Nat.le_of_ble_eq_true rfl)) dX7_reads_38 ⟨Nat.zero_le _, Nat.zero_le _⟩) hS (fun q _ h => h) (fun q h => h) (fun r37 F38 t H1 locs ht hvm hw hB hz1 hk1 hS => ?_)
        obtain ⟨hP, hK1⟩ := hB
        rw [ht] at hP
        generalize H1 = H at hP hS ⊢
        obtain ⟨h39, h41, hG9, h40⟩ := hw
        rw [hG9] at hP
        have h40 : ((r37.toInt = 1 ∧ ¬ (r5.toInt = 5 ∨ r5.toInt = 6 ∨ 12 ≤ r5.toInt)) ∨ (r37.toInt = 0 ∧ (r5.toInt = 5 ∨ r5.toInt = 6 ∨ 12 ≤ r5.toInt))) := by have q9 := h40; exact q9
        refine lv_if_ne (tgt := 52) hx hb dX7_reads_41 (by decide) (fun c42 => ?_) (fun c42 => ?_)
        · have c42 := mt (ax_eq (n := 0) (by decide)).mpr c42
          refine lv_aload_n hx hb dX7_reads_52 rfl (lv_at hl 0 rfl) ?_
          refine lv_iload_n hx hb dX7_reads_53 rfl (lv_at hl 1 rfl) ?_
          refine lv_iload hx hb dX7_reads_54 (lv_at hl 5 rfl) ?_
          refine lv_aload_n hx hb dX7_reads_56 rfl (lv_at hl 0 rfl) ?_
          refine lv_iload_n hx hb dX7_reads_57 rfl (lv_at hl 2 rfl) ?_
          refine lv_iconst (v := 2) hx hb dX7_reads_58 (by decide) ?_
          refine va_calli (va_runV (As := [.int x2, .int 2]) (rest := [.int w14, .int x1, .ref a0, .int w14, .ref (A 21)]) ⟨hx, hb, hml, hown, hts⟩ (y_X7_of l dC dI H.size hLK A hA F21 a0 x2 2 ha0 (⟨by omega, by omega⟩) (by decide) hI) (cwV 2 hts (ax_gV T_1131 T_1133 T_1134 T_265 T_1132) rfl rfl rfl (by decide +kernel) ⟨Nat.le_of_ble_eq_true rfl, Nat.le_of_ble_eq_true rfl⟩) ⟨fun a U g mk q => ⟨q.1, s_pc rfl rfl q.2⟩, s_recv hK hP (hLK _ ha0 (by decide)) (ci := 7) rfl oY23, fun U hU hW => ⟨rfl, s_pw hU hW hP hK hD hN⟩⟩ rfl rfl hl.1 rfl (lv_room (Nat.le_of_ble_eq_true rfl)) dX7_reads_59 ⟨Nat.zero_le _, Nat.zero_le _⟩) hS (fun q _ h => h) (fun q h => h) (fun r44 F45 t H1 locs ht hvm hw hB hz1 hk1 hS => ?_)
          obtain ⟨hP, hK1⟩ := hB
          rw [ht] at hP
          generalize H1 = H at hP hS ⊢
          obtain ⟨h46, h48, hI, hfr1, hzf, h47⟩ := hw
          have o49 : F45 (A 13) = .inl (cs 0, 400, .inl f1) := (hfr1 _ (by rw [(y_k13 hA)]; decide)).trans o22
          have oY50 : F45 a0 = .inr (7, y_fl A z0 q0) := (hfr1 _ (by rw [ha0]; decide)).trans oY23
          have hfr : ∀ b, K b ∉ [71, 72] → F45 b = F b := fun b hb9 => (hfr1 b (fun q => hb9 (s_sub (by decide) q))).trans (hfr b hb9)
          have h47 : (r44 = y_c f1 (8 * x2.toInt + 2)) := by have q9 := h47; rw [y_atE o22] at q9; exact q9
          have h47 : r44 = y_c f1 (8 * x2.toInt + 2) := h47.trans (congrArg (y_c f1) (by omega))
          have h51 := congrArg Int32.toInt h47
          refine va_calli (va_runV (As := [.int x1, .int w14, .int r44]) (rest := [.int w14, .ref (A 21)]) ⟨hx, hb, hml, hown, hts⟩ (y_X7_partOf l dC dI H.size hLK A hA F45 a0 x1 w14 r44 ha0 (⟨by omega, by omega⟩) (⟨by omega, by omega⟩) hI (by omega)) (cwV 3 hts (ax_gV T_1301 T_1303 T_1304 T_265 T_1302) rfl rfl rfl (by decide +kernel) ⟨Nat.le_of_ble_eq_true rfl, Nat.le_of_ble_eq_true rfl⟩) ⟨fun a U g mk q => ⟨q.1, s_pc rfl rfl q.2⟩, s_recv hK hP (hLK _ ha0 (by decide)) (ci := 7) rfl oY50, fun U hU hW => ⟨rfl, s_pw hU hW hP hK hD hN⟩⟩ rfl rfl hl.1 rfl (lv_room (Nat.le_of_ble_eq_true rfl)) dX7_reads_62 ⟨Nat.zero_le _, Nat.zero_le _⟩) hS (fun q _ h => h) (fun q h => h) (fun r53 F54 t H1 locs ht hvm hw hB hz1 hk1 hS => ?_)
          obtain ⟨hP, hK1⟩ := hB
          rw [ht] at hP
          generalize H1 = H at hP hS ⊢
          obtain ⟨h55, h57, hI, hfr1, hzf, h56⟩ := hw
          have o58 : F54 (A 13) = .inl (cs 0, 400, .inl f1) := (hfr1 _ (by rw [(y_k13 hA)]; decide)).trans o49
          have oY59 : F54 a0 = .inr (7, y_fl A z0 q0) := (hfr1 _ (by rw [ha0]; decide)).trans oY50
          have hfr : ∀ b, K b ∉ [71, 72] → F54 b = F b := fun b hb9 => (hfr1 b (fun q => hb9 (s_sub (by decide) q))).trans (hfr b hb9)
          refine lv_goto (tgt := 69) hx hb dX7_reads_65 (by decide) ?_
          exact K69 _ _ _ ⟨F54, _, r53, w14, rfl, lv_sub hl [0, 1, 2, 3, 4, 5] rfl, hP, hS, hI, hfr, (fun k hk => (y_fiZ oY59 (s_sub (by decide) hk)).trans (hz0 k hk)), trivial, ⟨by omega, by omega⟩, ⟨by omega, by omega⟩, ⟨by omega, by omega⟩, ⟨by omega, by omega⟩, ⟨by omega, by omega⟩, (by omega)⟩
        · have c42 := (ax_eq (n := 0) (by decide)).mp c42
          refine lv_aload_n hx hb dX7_reads_44 rfl (lv_at hl 0 rfl) ?_
          refine lv_iload_n hx hb dX7_reads_45 rfl (lv_at hl 2 rfl) ?_
          refine va_calli (va_runV (As := [.int x2]) (rest := [.int w14, .ref (A 21)]) ⟨hx, hb, hml, hown, hts⟩ (y_X7_isFork l dC dI H.size hLK A hA F21 a0 x2 ha0 (⟨by omega, by omega⟩) hI) (cwV 1 hts (ax_gV T_1179 T_1181 T_1182 T_265 T_1180) rfl rfl rfl (by decide +kernel) ⟨Nat.le_of_ble_eq_true rfl, Nat.le_of_ble_eq_true rfl⟩) ⟨fun a U g mk q => ⟨q.1, s_pc rfl rfl q.2⟩, s_recv hK hP (hLK _ ha0 (by decide)) (ci := 7) rfl oY23, fun U hU hW => ⟨rfl, s_pw hU hW hP hK hD hN⟩⟩ rfl rfl hl.1 rfl (lv_room (Nat.le_of_ble_eq_true rfl)) dX7_reads_46 ⟨Nat.zero_le _, Nat.zero_le _⟩) hS (fun q _ h => h) (fun q h => h) (fun r61 F62 t H1 locs ht hvm hw hB hz1 hk1 hS => ?_)
          obtain ⟨hP, hK1⟩ := hB
          rw [ht] at hP
          generalize H1 = H at hP hS ⊢
          obtain ⟨h63, h65, hI, hfr1, hzf, h64⟩ := hw
          have o66 : F62 (A 13) = .inl (cs 0, 400, .inl f1) := (hfr1 _ (by rw [(y_k13 hA)]; decide)).trans o22
          have oY67 : F62 a0 = .inr (7, y_fl A z0 q0) := (hfr1 _ (by rw [ha0]; decide)).trans oY23
          have hfr : ∀ b, K b ∉ [71, 72] → F62 b = F b := fun b hb9 => (hfr1 b (fun q => hb9 (s_sub (by decide) q))).trans (hfr b hb9)
          have h64 : ((r61.toInt = 1 ∧ (y_c f1 (8 * x2.toInt)).toInt = 12 ∧ ¬ (y_c f1 (8 * x2.toInt + 5)).toInt = -1000000) ∨ (r61.toInt = 0 ∧ (¬ (y_c f1 (8 * x2.toInt)).toInt = 12 ∨ (y_c f1 (8 * x2.toInt + 5)).toInt = -1000000))) := by have q9 := h64; rw [y_atE o22] at q9; exact q9
          refine lv_if_eq (tgt := 68) hx hb dX7_reads_49 (by decide) (fun c68 => ?_) (fun c68 => ?_)
          · have c68 := (ax_eq (n := 0) (by decide)).mp c68
            refine lv_iconst (v := 0) hx hb dX7_reads_68 (by decide) ?_
            have h69 : (0 : Int32).toInt = 0 := by decide
            exact K69 _ _ _ ⟨F62, _, 0, w14, rfl, lv_sub hl [0, 1, 2, 3, 4, 5] rfl, hP, hS, hI, hfr, (fun k hk => (y_fiZ oY67 (s_sub (by decide) hk)).trans (hz0 k hk)), trivial, ⟨by omega, by omega⟩, ⟨by omega, by omega⟩, ⟨by omega, by omega⟩, ⟨by omega, by omega⟩, ⟨by omega, by omega⟩, (by omega)⟩
          · have c68 := mt (ax_eq (n := 0) (by decide)).mpr c68
            refine lv_aload_n hx hb dX7_reads_52 rfl (lv_at hl 0 rfl) ?_
            refine lv_iload_n hx hb dX7_reads_53 rfl (lv_at hl 1 rfl) ?_
            refine lv_iload hx hb dX7_reads_54 (lv_at hl 5 rfl) ?_
            refine lv_aload_n hx hb dX7_reads_56 rfl (lv_at hl 0 rfl) ?_
            refine lv_iload_n hx hb dX7_reads_57 rfl (lv_at hl 2 rfl) ?_
            refine lv_iconst (v := 2) hx hb dX7_reads_58 (by decide) ?_
            refine va_calli (va_runV (As := [.int x2, .int 2]) (rest := [.int w14, .int x1, .ref a0, .int w14, .ref (A 21)]) ⟨hx, hb, hml, hown, hts⟩ (y_X7_of l dC dI H.size hLK A hA F62 a0 x2 2 ha0 (⟨by omega, by omega⟩) (by decide) hI) (cwV 2 hts (ax_gV T_1131 T_1133 T_1134 T_265 T_1132) rfl rfl rfl (by decide +kernel) ⟨Nat.le_of_ble_eq_true rfl, Nat.le_of_ble_eq_true rfl⟩) ⟨fun a U g mk q => ⟨q.1, s_pc rfl rfl q.2⟩, s_recv hK hP (hLK _ ha0 (by decide)) (ci := 7) rfl oY67, fun U hU hW => ⟨rfl, s_pw hU hW hP hK hD hN⟩⟩ rfl rfl hl.1 rfl (lv_room (Nat.le_of_ble_eq_true rfl)) dX7_reads_59 ⟨Nat.zero_le _, Nat.zero_le _⟩) hS (fun q _ h => h) (fun q h => h) (fun r71 F72 t H1 locs ht hvm hw hB hz1 hk1 hS => ?_)
            obtain ⟨hP, hK1⟩ := hB
            rw [ht] at hP
            generalize H1 = H at hP hS ⊢
            obtain ⟨h73, h75, hI, hfr1, hzf, h74⟩ := hw
            have o76 : F72 (A 13) = .inl (cs 0, 400, .inl f1) := (hfr1 _ (by rw [(y_k13 hA)]; decide)).trans o66
            have oY77 : F72 a0 = .inr (7, y_fl A z0 q0) := (hfr1 _ (by rw [ha0]; decide)).trans oY67
            have hfr : ∀ b, K b ∉ [71, 72] → F72 b = F b := fun b hb9 => (hfr1 b (fun q => hb9 (s_sub (by decide) q))).trans (hfr b hb9)
            have h74 : (r71 = y_c f1 (8 * x2.toInt + 2)) := by have q9 := h74; rw [y_atE o66] at q9; exact q9
            have h74 : r71 = y_c f1 (8 * x2.toInt + 2) := h74.trans (congrArg (y_c f1) (by omega))
            have h78 := congrArg Int32.toInt h74
            refine va_calli (va_runV (As := [.int x1, .int w14, .int r71]) (rest := [.int w14, .ref (A 21)]) ⟨hx, hb, hml, hown, hts⟩ (y_X7_partOf l dC dI H.size hLK A hA F72 a0 x1 w14 r71 ha0 (⟨by omega, by omega⟩) (⟨by omega, by omega⟩) hI (by omega)) (cwV 3 hts (ax_gV T_1301 T_1303 T_1304 T_265 T_1302) rfl rfl rfl (by decide +kernel) ⟨Nat.le_of_ble_eq_true rfl, Nat.le_of_ble_eq_true rfl⟩) ⟨fun a U g mk q => ⟨q.1, s_pc rfl rfl q.2⟩, s_recv hK hP (hLK _ ha0 (by decide)) (ci := 7) rfl oY77, fun U hU hW => ⟨rfl, s_pw hU hW hP hK hD hN⟩⟩ rfl rfl hl.1 rfl (lv_room (Nat.le_of_ble_eq_true rfl)) dX7_reads_62 ⟨Nat.zero_le _, Nat.zero_le _⟩) hS (fun q _ h => h) (fun q h => h) (fun r80 F81 t H1 locs ht hvm hw hB hz1 hk1 hS => ?_)
            obtain ⟨hP, hK1⟩ := hB
            rw [ht] at hP
            generalize H1 = H at hP hS ⊢
            obtain ⟨h82, h84, hI, hfr1, hzf, h83⟩ := hw
            have o85 : F81 (A 13) = .inl (cs 0, 400, .inl f1) := (hfr1 _ (by rw [(y_k13 hA)]; decide)).trans o76
            have oY86 : F81 a0 = .inr (7, y_fl A z0 q0) := (hfr1 _ (by rw [ha0]; decide)).trans oY77
            have hfr : ∀ b, K b ∉ [71, 72] → F81 b = F b := fun b hb9 => (hfr1 b (fun q => hb9 (s_sub (by decide) q))).trans (hfr b hb9)
            refine lv_goto (tgt := 69) hx hb dX7_reads_65 (by decide) ?_
            exact K69 _ _ _ ⟨F81, _, r80, w14, rfl, lv_sub hl [0, 1, 2, 3, 4, 5] rfl, hP, hS, hI, hfr, (fun k hk => (y_fiZ oY86 (s_sub (by decide) hk)).trans (hz0 k hk)), trivial, ⟨by omega, by omega⟩, ⟨by omega, by omega⟩, ⟨by omega, by omega⟩, ⟨by omega, by omega⟩, ⟨by omega, by omega⟩, (by omega)⟩
      · have c35 := (ax_eq (n := 0) (by decide)).mp c35
        refine lv_goto (tgt := 111) hx hb dX7_reads_27 (by decide) ?_
        exact K111 _ _ _ ⟨F21, _, rfl, lv_sub hl [0, 1, 2, 3, 4, 5] rfl, hP, hS, hI, hfr, (fun k hk => (y_fiZ oY23 (s_sub (by decide) hk)).trans (hz0 k hk)), ⟨by omega, by omega⟩, ⟨by omega, by omega⟩, ⟨by omega, by omega⟩, ⟨by omega, by omega⟩, (by omega)⟩
  · intro g H locs hq
    obtain ⟨F94, ls, w26, w27, rfl, hl, hP, hS, hI, hfr, hz0, h87, h88, h89, h90, h91, h92, h93⟩ := hq
    have o95 : F94 (A 13) = .inl (cs 0, 400, .inl f1) := (hfr _ (by rw [(y_k13 hA)]; decide)).trans o2
    have oY96 : F94 a0 = .inr (7, y_fl A z0 q0) := (hfr _ (by rw [ha0]; decide)).trans oY0
    have hz0 : ∀ k, k ∈ ([1, 2, 3, 4, 5, 6, 7, 8, 11, 15, 16, 19, 25, 26, 27, 31, 32] : List Nat) → z0 k = z0 k := fun _ _ => rfl
    obtain ⟨f97, o98, b99⟩ := y_op21 hI
    refine th_iast hx hb hK hP hD hS (hLK _ (y_k21 hA) (by decide)) 0 o98 rfl (th_in ⟨by omega, by omega⟩) dX7_reads_69 (fun H locs hP hS => ?_)
    obtain ⟨f100, u101⟩ : ∃ g : Nat → Int32, g = upd f97 (w27 : Int32).toNatClampNeg w26 := ⟨_, rfl⟩
    rw [← u101] at hP
    have b102 : y_bd 21 f100 := trivial
    have hP : va_P (dC, dI) vwCl (va_pl L (va_up F94 (A 21) (.inl (cs 0, 8, .inl f100)))) H := hP
    obtain ⟨F103, hF104⟩ : ∃ G : Nat → va_E, G = va_up F94 (A 21) (.inl (cs 0, 8, .inl f100)) := ⟨_, rfl⟩
    rw [← hF104] at hP
    have hI : y_I K cs A F103 := by rw [hF104]; exact y_clA (i := 21) hA hI (by decide) b102
    have hfr : ∀ b, K b ∉ [71, 72] → F103 b = F b := by rw [hF104]; exact s_fr hfr (y_k21 hA) (by decide)
    have o105 : F103 (A 13) = .inl (cs 0, 400, .inl f1) := by rw [hF104]; exact th_ne (th_kd (y_k13 hA) (y_k21 hA) (by decide)) o95
    have oY106 : F103 a0 = .inr (7, y_fl A z0 q0) := by rw [hF104]; exact th_ne (th_kd ha0 (y_k21 hA) (by decide)) oY96
    have o107 : F103 (A 21) = .inl (cs 0, 8, .inl f100) := by rw [hF104]; exact th_up
    have u108 : ∀ j : Int, 0 ≤ j → y_c f100 j = if j = w27.toInt then w26 else y_c f97 j := by rw [u101]; exact y_cu rfl (by omega)
    refine lv_aload_n hx hb dX7_reads_70 rfl (lv_at hl 0 rfl) ?_
    refine th_get (D := (dC, dI)) (ci := 7) (v := .ref (A 22)) (C := RX7) (T := TX7) (N := 34) hx hb hts inX7 hown hK hP (hLK _ ha0 (by decide)) oY106 rfl 22 (by decide) (hts _ T_253) (fun _ h9 => h9) rfl dX7_reads_71 ?_
    refine lv_iload hx hb dX7_reads_74 (lv_at hl 5 rfl) ?_
    refine lv_iload hx hb dX7_reads_76 (lv_at hl 4 rfl) ?_
    refine va_calli (va_runS (As := [.int r5]) (rest := [.int w14, .ref (A 22)]) ⟨hx, hb, hml, hown, hts⟩ (y_X7_partsOf l dC dI H.size F103 r5 (⟨by omega, by omega⟩)) (cwS 1 hts (ax_gS T_1197 T_1199 T_265 T_1198) rfl rfl rfl (by decide +kernel) ⟨Nat.le_of_ble_eq_true rfl, Nat.le_of_ble_eq_true rfl⟩) ⟨fun a U g mk q => ⟨q.1, s_pc rfl rfl q.2⟩, fun U hU hW => ⟨rfl, s_pw hU hW hP hK hD hN⟩⟩ rfl rfl hl.1 rfl (lv_room (Nat.le_of_ble_eq_true rfl)) dX7_reads_78 ⟨Nat.zero_le _, Nat.zero_le _⟩) hS (fun q _ h => h) (fun q h => h) (fun r110 F111 t H1 locs ht hvm hw hB hz1 hk1 hS => ?_)
    obtain ⟨hP, hK1⟩ := hB
    rw [ht] at hP
    generalize H1 = H at hP hS ⊢
    obtain ⟨h112, h114, hG9, h113⟩ := hw
    rw [hG9] at hP
    have h113 : ((r110.toInt = 0 ∧ (r5.toInt = 5 ∨ r5.toInt = 6 ∨ 12 ≤ r5.toInt)) ∨ (r110.toInt = 1 ∧ (r5.toInt = 0 ∨ r5.toInt = 7 ∨ r5.toInt = 9 ∨ r5.toInt = 11)) ∨ (r110.toInt = 2 ∧ ((1 ≤ r5.toInt ∧ r5.toInt ≤ 4) ∨ r5.toInt = 8 ∨ r5.toInt = 10))) := by have q9 := h113; exact q9
    refine lv_iconst (v := 2) hx hb dX7_reads_81 (by decide) ?_
    refine lv_icmp_eq (tgt := 93) hx hb dX7_reads_82 (by decide) (fun c115 => ?_) (fun c115 => ?_)
    · have c115 := (ax_eq (n := 2) (by decide)).mp c115
      refine lv_aload_n hx hb dX7_reads_93 rfl (lv_at hl 0 rfl) ?_
      refine lv_iload_n hx hb dX7_reads_94 rfl (lv_at hl 1 rfl) ?_
      refine lv_iload hx hb dX7_reads_95 (lv_at hl 5 rfl) ?_
      refine lv_aload_n hx hb dX7_reads_97 rfl (lv_at hl 0 rfl) ?_
      refine lv_iload_n hx hb dX7_reads_98 rfl (lv_at hl 2 rfl) ?_
      refine lv_iconst (v := 3) hx hb dX7_reads_99 (by decide) ?_
      refine va_calli (va_runV (As := [.int x2, .int 3]) (rest := [.int w14, .int x1, .ref a0, .int w14, .ref (A 22)]) ⟨hx, hb, hml, hown, hts⟩ (y_X7_of l dC dI H.size hLK A hA F103 a0 x2 3 ha0 (⟨by omega, by omega⟩) (by decide) hI) (cwV 2 hts (ax_gV T_1131 T_1133 T_1134 T_265 T_1132) rfl rfl rfl (by decide +kernel) ⟨Nat.le_of_ble_eq_true rfl, Nat.le_of_ble_eq_true rfl⟩) ⟨fun a U g mk q => ⟨q.1, s_pc rfl rfl q.2⟩, s_recv hK hP (hLK _ ha0 (by decide)) (ci := 7) rfl oY106, fun U hU hW => ⟨rfl, s_pw hU hW hP hK hD hN⟩⟩ rfl rfl hl.1 rfl (lv_room (Nat.le_of_ble_eq_true rfl)) dX7_reads_100 ⟨Nat.zero_le _, Nat.zero_le _⟩) hS (fun q _ h => h) (fun q h => h) (fun r117 F118 t H1 locs ht hvm hw hB hz1 hk1 hS => ?_)
      obtain ⟨hP, hK1⟩ := hB
      rw [ht] at hP
      generalize H1 = H at hP hS ⊢
      obtain ⟨h119, h121, hI, hfr1, hzf, h120⟩ := hw
      have o122 : F118 (A 13) = .inl (cs 0, 400, .inl f1) := (hfr1 _ (by rw [(y_k13 hA)]; decide)).trans o105
      have o123 : F118 (A 21) = .inl (cs 0, 8, .inl f100) := (hfr1 _ (by rw [(y_k21 hA)]; decide)).trans o107
      have oY124 : F118 a0 = .inr (7, y_fl A z0 q0) := (hfr1 _ (by rw [ha0]; decide)).trans oY106
      have hfr : ∀ b, K b ∉ [71, 72] → F118 b = F b := fun b hb9 => (hfr1 b (fun q => hb9 (s_sub (by decide) q))).trans (hfr b hb9)
      have h120 : (r117 = y_c f1 (8 * x2.toInt + 3)) := by have q9 := h120; rw [y_atE o105] at q9; exact q9
      have h120 : r117 = y_c f1 (8 * x2.toInt + 3) := h120.trans (congrArg (y_c f1) (by omega))
      have h125 := congrArg Int32.toInt h120
      refine va_calli (va_runV (As := [.int x1, .int w14, .int r117]) (rest := [.int w14, .ref (A 22)]) ⟨hx, hb, hml, hown, hts⟩ (y_X7_partOf l dC dI H.size hLK A hA F118 a0 x1 w14 r117 ha0 (⟨by omega, by omega⟩) (⟨by omega, by omega⟩) hI (by omega)) (cwV 3 hts (ax_gV T_1301 T_1303 T_1304 T_265 T_1302) rfl rfl rfl (by decide +kernel) ⟨Nat.le_of_ble_eq_true rfl, Nat.le_of_ble_eq_true rfl⟩) ⟨fun a U g mk q => ⟨q.1, s_pc rfl rfl q.2⟩, s_recv hK hP (hLK _ ha0 (by decide)) (ci := 7) rfl oY124, fun U hU hW => ⟨rfl, s_pw hU hW hP hK hD hN⟩⟩ rfl rfl hl.1 rfl (lv_room (Nat.le_of_ble_eq_true rfl)) dX7_reads_103 ⟨Nat.zero_le _, Nat.zero_le _⟩) hS (fun q _ h => h) (fun q h => h) (fun r127 F128 t H1 locs ht hvm hw hB hz1 hk1 hS => ?_)
      obtain ⟨hP, hK1⟩ := hB
      rw [ht] at hP
      generalize H1 = H at hP hS ⊢
      obtain ⟨h129, h131, hI, hfr1, hzf, h130⟩ := hw
      have o132 : F128 (A 13) = .inl (cs 0, 400, .inl f1) := (hfr1 _ (by rw [(y_k13 hA)]; decide)).trans o122
      have o133 : F128 (A 21) = .inl (cs 0, 8, .inl f100) := (hfr1 _ (by rw [(y_k21 hA)]; decide)).trans o123
      have oY134 : F128 a0 = .inr (7, y_fl A z0 q0) := (hfr1 _ (by rw [ha0]; decide)).trans oY124
      have hfr : ∀ b, K b ∉ [71, 72] → F128 b = F b := fun b hb9 => (hfr1 b (fun q => hb9 (s_sub (by decide) q))).trans (hfr b hb9)
      refine lv_goto (tgt := 110) hx hb dX7_reads_106 (by decide) ?_
      exact K110 _ _ _ ⟨F128, _, r127, w14, rfl, lv_sub hl [0, 1, 2, 3, 4, 5] rfl, hP, hS, hI, hfr, (fun k hk => (y_fiZ oY134 (s_sub (by decide) hk)).trans (hz0 k hk)), trivial, ⟨by omega, by omega⟩, ⟨by omega, by omega⟩, ⟨by omega, by omega⟩, ⟨by omega, by omega⟩, ⟨by omega, by omega⟩, (by omega)⟩
    · have c115 := mt (ax_eq (n := 2) (by decide)).mpr c115
      refine lv_aload_n hx hb dX7_reads_85 rfl (lv_at hl 0 rfl) ?_
      refine lv_iload_n hx hb dX7_reads_86 rfl (lv_at hl 2 rfl) ?_
      refine va_calli (va_runV (As := [.int x2]) (rest := [.int w14, .ref (A 22)]) ⟨hx, hb, hml, hown, hts⟩ (y_X7_isFork l dC dI H.size hLK A hA F103 a0 x2 ha0 (⟨by omega, by omega⟩) hI) (cwV 1 hts (ax_gV T_1179 T_1181 T_1182 T_265 T_1180) rfl rfl rfl (by decide +kernel) ⟨Nat.le_of_ble_eq_true rfl, Nat.le_of_ble_eq_true rfl⟩) ⟨fun a U g mk q => ⟨q.1, s_pc rfl rfl q.2⟩, s_recv hK hP (hLK _ ha0 (by decide)) (ci := 7) rfl oY106, fun U hU hW => ⟨rfl, s_pw hU hW hP hK hD hN⟩⟩ rfl rfl hl.1 rfl (lv_room (Nat.le_of_ble_eq_true rfl)) dX7_reads_87 ⟨Nat.zero_le _, Nat.zero_le _⟩) hS (fun q _ h => h) (fun q h => h) (fun r136 F137 t H1 locs ht hvm hw hB hz1 hk1 hS => ?_)
      obtain ⟨hP, hK1⟩ := hB
      rw [ht] at hP
      generalize H1 = H at hP hS ⊢
      obtain ⟨h138, h140, hI, hfr1, hzf, h139⟩ := hw
      have o141 : F137 (A 13) = .inl (cs 0, 400, .inl f1) := (hfr1 _ (by rw [(y_k13 hA)]; decide)).trans o105
      have o142 : F137 (A 21) = .inl (cs 0, 8, .inl f100) := (hfr1 _ (by rw [(y_k21 hA)]; decide)).trans o107
      have oY143 : F137 a0 = .inr (7, y_fl A z0 q0) := (hfr1 _ (by rw [ha0]; decide)).trans oY106
      have hfr : ∀ b, K b ∉ [71, 72] → F137 b = F b := fun b hb9 => (hfr1 b (fun q => hb9 (s_sub (by decide) q))).trans (hfr b hb9)
      have h139 : ((r136.toInt = 1 ∧ (y_c f1 (8 * x2.toInt)).toInt = 12 ∧ ¬ (y_c f1 (8 * x2.toInt + 5)).toInt = -1000000) ∨ (r136.toInt = 0 ∧ (¬ (y_c f1 (8 * x2.toInt)).toInt = 12 ∨ (y_c f1 (8 * x2.toInt + 5)).toInt = -1000000))) := by have q9 := h139; rw [y_atE o105] at q9; exact q9
      refine lv_if_eq (tgt := 109) hx hb dX7_reads_90 (by decide) (fun c144 => ?_) (fun c144 => ?_)
      · have c144 := (ax_eq (n := 0) (by decide)).mp c144
        refine lv_iconst (v := 0) hx hb dX7_reads_109 (by decide) ?_
        have h145 : (0 : Int32).toInt = 0 := by decide
        exact K110 _ _ _ ⟨F137, _, 0, w14, rfl, lv_sub hl [0, 1, 2, 3, 4, 5] rfl, hP, hS, hI, hfr, (fun k hk => (y_fiZ oY143 (s_sub (by decide) hk)).trans (hz0 k hk)), trivial, ⟨by omega, by omega⟩, ⟨by omega, by omega⟩, ⟨by omega, by omega⟩, ⟨by omega, by omega⟩, ⟨by omega, by omega⟩, (by omega)⟩
      · have c144 := mt (ax_eq (n := 0) (by decide)).mpr c144
        refine lv_aload_n hx hb dX7_reads_93 rfl (lv_at hl 0 rfl) ?_
        refine lv_iload_n hx hb dX7_reads_94 rfl (lv_at hl 1 rfl) ?_
        refine lv_iload hx hb dX7_reads_95 (lv_at hl 5 rfl) ?_
        refine lv_aload_n hx hb dX7_reads_97 rfl (lv_at hl 0 rfl) ?_
        refine lv_iload_n hx hb dX7_reads_98 rfl (lv_at hl 2 rfl) ?_
        refine lv_iconst (v := 3) hx hb dX7_reads_99 (by decide) ?_
        refine va_calli (va_runV (As := [.int x2, .int 3]) (rest := [.int w14, .int x1, .ref a0, .int w14, .ref (A 22)]) ⟨hx, hb, hml, hown, hts⟩ (y_X7_of l dC dI H.size hLK A hA F137 a0 x2 3 ha0 (⟨by omega, by omega⟩) (by decide) hI) (cwV 2 hts (ax_gV T_1131 T_1133 T_1134 T_265 T_1132) rfl rfl rfl (by decide +kernel) ⟨Nat.le_of_ble_eq_true rfl, Nat.le_of_ble_eq_true rfl⟩) ⟨fun a U g mk q => ⟨q.1, s_pc rfl rfl q.2⟩, s_recv hK hP (hLK _ ha0 (by decide)) (ci := 7) rfl oY143, fun U hU hW => ⟨rfl, s_pw hU hW hP hK hD hN⟩⟩ rfl rfl hl.1 rfl (lv_room (Nat.le_of_ble_eq_true rfl)) dX7_reads_100 ⟨Nat.zero_le _, Nat.zero_le _⟩) hS (fun q _ h => h) (fun q h => h) (fun r147 F148 t H1 locs ht hvm hw hB hz1 hk1 hS => ?_)
        obtain ⟨hP, hK1⟩ := hB
        rw [ht] at hP
        generalize H1 = H at hP hS ⊢
        obtain ⟨h149, h151, hI, hfr1, hzf, h150⟩ := hw
        have o152 : F148 (A 13) = .inl (cs 0, 400, .inl f1) := (hfr1 _ (by rw [(y_k13 hA)]; decide)).trans o141
        have o153 : F148 (A 21) = .inl (cs 0, 8, .inl f100) := (hfr1 _ (by rw [(y_k21 hA)]; decide)).trans o142
        have oY154 : F148 a0 = .inr (7, y_fl A z0 q0) := (hfr1 _ (by rw [ha0]; decide)).trans oY143
        have hfr : ∀ b, K b ∉ [71, 72] → F148 b = F b := fun b hb9 => (hfr1 b (fun q => hb9 (s_sub (by decide) q))).trans (hfr b hb9)
        have h150 : (r147 = y_c f1 (8 * x2.toInt + 3)) := by have q9 := h150; rw [y_atE o141] at q9; exact q9
        have h150 : r147 = y_c f1 (8 * x2.toInt + 3) := h150.trans (congrArg (y_c f1) (by omega))
        have h155 := congrArg Int32.toInt h150
        refine va_calli (va_runV (As := [.int x1, .int w14, .int r147]) (rest := [.int w14, .ref (A 22)]) ⟨hx, hb, hml, hown, hts⟩ (y_X7_partOf l dC dI H.size hLK A hA F148 a0 x1 w14 r147 ha0 (⟨by omega, by omega⟩) (⟨by omega, by omega⟩) hI (by omega)) (cwV 3 hts (ax_gV T_1301 T_1303 T_1304 T_265 T_1302) rfl rfl rfl (by decide +kernel) ⟨Nat.le_of_ble_eq_true rfl, Nat.le_of_ble_eq_true rfl⟩) ⟨fun a U g mk q => ⟨q.1, s_pc rfl rfl q.2⟩, s_recv hK hP (hLK _ ha0 (by decide)) (ci := 7) rfl oY154, fun U hU hW => ⟨rfl, s_pw hU hW hP hK hD hN⟩⟩ rfl rfl hl.1 rfl (lv_room (Nat.le_of_ble_eq_true rfl)) dX7_reads_103 ⟨Nat.zero_le _, Nat.zero_le _⟩) hS (fun q _ h => h) (fun q h => h) (fun r157 F158 t H1 locs ht hvm hw hB hz1 hk1 hS => ?_)
        obtain ⟨hP, hK1⟩ := hB
        rw [ht] at hP
        generalize H1 = H at hP hS ⊢
        obtain ⟨h159, h161, hI, hfr1, hzf, h160⟩ := hw
        have o162 : F158 (A 13) = .inl (cs 0, 400, .inl f1) := (hfr1 _ (by rw [(y_k13 hA)]; decide)).trans o152
        have o163 : F158 (A 21) = .inl (cs 0, 8, .inl f100) := (hfr1 _ (by rw [(y_k21 hA)]; decide)).trans o153
        have oY164 : F158 a0 = .inr (7, y_fl A z0 q0) := (hfr1 _ (by rw [ha0]; decide)).trans oY154
        have hfr : ∀ b, K b ∉ [71, 72] → F158 b = F b := fun b hb9 => (hfr1 b (fun q => hb9 (s_sub (by decide) q))).trans (hfr b hb9)
        refine lv_goto (tgt := 110) hx hb dX7_reads_106 (by decide) ?_
        exact K110 _ _ _ ⟨F158, _, r157, w14, rfl, lv_sub hl [0, 1, 2, 3, 4, 5] rfl, hP, hS, hI, hfr, (fun k hk => (y_fiZ oY164 (s_sub (by decide) hk)).trans (hz0 k hk)), trivial, ⟨by omega, by omega⟩, ⟨by omega, by omega⟩, ⟨by omega, by omega⟩, ⟨by omega, by omega⟩, ⟨by omega, by omega⟩, (by omega)⟩
  · intro g H locs hq
    obtain ⟨F172, ls, w24, w25, rfl, hl, hP, hS, hI, hfr, hz0, h165, h166, h167, h168, h169, h170, h171⟩ := hq
    have o173 : F172 (A 13) = .inl (cs 0, 400, .inl f1) := (hfr _ (by rw [(y_k13 hA)]; decide)).trans o2
    have oY174 : F172 a0 = .inr (7, y_fl A z0 q0) := (hfr _ (by rw [ha0]; decide)).trans oY0
    have hz0 : ∀ k, k ∈ ([1, 2, 3, 4, 5, 6, 7, 8, 11, 15, 16, 19, 25, 26, 27, 31, 32] : List Nat) → z0 k = z0 k := fun _ _ => rfl
    obtain ⟨f175, o176, b177⟩ := y_op22 hI
    refine th_iast hx hb hK hP hD hS (hLK _ (y_k22 hA) (by decide)) 0 o176 rfl (th_in ⟨by omega, by omega⟩) dX7_reads_110 (fun H locs hP hS => ?_)
    obtain ⟨f178, u179⟩ : ∃ g : Nat → Int32, g = upd f175 (w25 : Int32).toNatClampNeg w24 := ⟨_, rfl⟩
    rw [← u179] at hP
    have b180 : y_bd 22 f178 := trivial
    have hP : va_P (dC, dI) vwCl (va_pl L (va_up F172 (A 22) (.inl (cs 0, 8, .inl f178)))) H := hP
    obtain ⟨F181, hF182⟩ : ∃ G : Nat → va_E, G = va_up F172 (A 22) (.inl (cs 0, 8, .inl f178)) := ⟨_, rfl⟩
    rw [← hF182] at hP
    have hI : y_I K cs A F181 := by rw [hF182]; exact y_clA (i := 22) hA hI (by decide) b180
    have hfr : ∀ b, K b ∉ [71, 72] → F181 b = F b := by rw [hF182]; exact s_fr hfr (y_k22 hA) (by decide)
    have o183 : F181 (A 13) = .inl (cs 0, 400, .inl f1) := by rw [hF182]; exact th_ne (th_kd (y_k13 hA) (y_k22 hA) (by decide)) o173
    have oY184 : F181 a0 = .inr (7, y_fl A z0 q0) := by rw [hF182]; exact th_ne (th_kd ha0 (y_k22 hA) (by decide)) oY174
    have o185 : F181 (A 22) = .inl (cs 0, 8, .inl f178) := by rw [hF182]; exact th_up
    have u186 : ∀ j : Int, 0 ≤ j → y_c f178 j = if j = w25.toInt then w24 else y_c f175 j := by rw [u179]; exact y_cu rfl (by omega)
    exact K111 _ _ _ ⟨F181, _, rfl, lv_sub hl [0, 1, 2, 3, 4, 5] rfl, hP, hS, hI, hfr, (fun k hk => (y_fiZ oY184 (s_sub (by decide) hk)).trans (hz0 k hk)), ⟨by omega, by omega⟩, ⟨by omega, by omega⟩, ⟨by omega, by omega⟩, ⟨by omega, by omega⟩, (by omega)⟩
  · intro g H locs hq
    obtain ⟨F192, ls, rfl, hl, hP, hS, hI, hfr, hz0, h187, h188, h189, h190, h191⟩ := hq
    have o193 : F192 (A 13) = .inl (cs 0, 400, .inl f1) := (hfr _ (by rw [(y_k13 hA)]; decide)).trans o2
    have oY194 : F192 a0 = .inr (7, y_fl A z0 q0) := (hfr _ (by rw [ha0]; decide)).trans oY0
    have hz0 : ∀ k, k ∈ ([1, 2, 3, 4, 5, 6, 7, 8, 11, 15, 16, 19, 25, 26, 27, 31, 32] : List Nat) → z0 k = z0 k := fun _ _ => rfl
    obtain ⟨v195, ev195⟩ : ∃ y : Int32, w14 + 1 = y := ⟨_, rfl⟩
    have qv195 : v195.toInt = w14.toInt + 1 := by rw [← ev195]; exact th_add rfl (by decide) ⟨by omega, by omega⟩
    refine lv_iinc (v := v195) (lv' := [(5, .int v195), (0, .ref a0), (1, .int x1), (2, .int x2), (3, .int x3), (4, .int r5)]) hx hb dX7_reads_111 hl (k := 5) rfl ev195 (by decide) rfl (fun ls hl => ?_)
    refine lv_goto (tgt := 11) hx hb dX7_reads_114 (by decide) ?_
    exact ih11 _ _ _ _ (by omega) ⟨F192, _, v195, rfl, lv_sub hl [1, 2, 3, 4, 5, 0] rfl, hP, hS, hI, hfr, (fun k hk => (y_fiZ oY194 (s_sub (by decide) hk)).trans (hz0 k hk)), ⟨by omega, by omega⟩, ⟨by omega, by omega⟩, ⟨by omega, by omega⟩, ⟨by omega, by omega⟩, (by omega), rfl⟩

set_option maxHeartbeats 4000000 in
set_option maxRecDepth 100000 in
theorem yt_X7_bankOf (l : Launch) (dC : Nat → ClassId) (dI : Nat → Nat → Nat) (sz : Nat) {L : List Nat} {K : Nat → Nat} {cs : Nat → ClassId} (hLK : ∀ a {k : Nat}, K a = k → k ≠ 0 → a ∈ L) (A : Nat → Nat) (hA : y_A K A) (F : Nat → va_E) (a0 : Nat) (x1 : Int32) (ha0 : K a0 = 9) (hx1 : 0 ≤ x1.toInt ∧ x1.toInt ≤ 31) (hI : y_I K cs A F) : Met l yX7_bankOf (Cond.code yX7_bankOf cX7_bankOf 2 (some .int) :: T0) ({ frames := 0, cells := 0, slots := 0, locals := 0 }) (va_Pc [.ref a0, .int x1] (s_W dC dI sz L F [(cs 0, .int), (cs 1, .byte), (cs 2, .long), (cs 3, .object RX5), (cs 4, .object RX4), (cs 5, .array .int), (cs 6, .char), (cs 7, .boolean)])) (va_Qi (fun (r : Int32) (G : Nat → va_E) => (-3 ≤ r.toInt ∧ r.toInt ≤ 3) ∧ True ∧ y_I K cs A G ∧ (∀ b, K b ∉ ([] : List Nat) → G b = F b) ∧ (∀ k, k ∈ ([1, 2, 3, 4, 5, 6, 7, 8, 11, 15, 16, 19, 25, 26, 27, 31, 32] : List Nat) → y_fi G a0 k = y_fi F a0 k) ∧ True) (fun (G : Nat → va_E) (t : State) => va_P (dC, dI) vwCl (va_pl L G) t.heap ∧ va_K (dC, dI) vwCl [(cs 0, .int), (cs 1, .byte), (cs 2, .long), (cs 3, .object RX5), (cs 4, .object RX4), (cs 5, .array .int), (cs 6, .char), (cs 7, .boolean)] t) (fun q => q ∈ L)) 0 0 (fun q => q ∈ L) := by
  refine Met.ofW (cc := cX7_bankOf) (maxL := 2) (ret := (some .int)) (by decide) rfl ?_
  intro p e s m args below meth c s₁ B hml hv
  obtain ⟨rfl, hsz, hP, hK, hD, hN⟩ := hv
  have hx := B.exec
  have hb := B.bytes
  have hr := B.returns
  have hts : ∀ w ∈ T0, w.before _ s = true := fun w h => atoms_spec (ws := Cond.code yX7_bankOf cX7_bankOf 2 (some .int) :: T0) B.pre w (List.mem_cons_of_mem _ h)
  have hown : s.vm.findClass RX7 = some m.cls := findClass_of_methodNamed B.named
  have hlocks := B.notSynchronized
  have hS : va_S (fun q => q ∈ L) s.heap s.heap [] := va_S.rf
  have hfr : ∀ b, K b ∉ ([] : List Nat) → F b = F b := fun _ _ => rfl
  have hl := lv_entry ([.ref a0, .int x1]) (n := 2) (Nat.le_of_ble_eq_true rfl)
  rw [lg_entry_eq]
  generalize (lg_sl ([.ref a0, .int x1]) ++ List.replicate (2 - (lg_sl ([.ref a0, .int x1])).length) Slot.unset).toArray = ls at hl ⊢
  have hl : lv_has ls 2 [(0, .ref a0), (1, .int x1)] := hl
  refine s_gen hP hS (fun H locs hP hS => ?_)
  obtain ⟨z0, q0, oY0, bz0, bq0⟩ := y_opY hI ha0
  have hz0 : ∀ k, k ∈ ([1, 2, 3, 4, 5, 6, 7, 8, 11, 15, 16, 19, 25, 26, 27, 31, 32] : List Nat) → z0 k = z0 k := fun _ _ => rfl
  refine lv_iload_n hx hb dX7_bankOf_0 rfl (lv_at hl 1 rfl) ?_
  refine lv_aload_n hx hb dX7_bankOf_1 rfl (lv_at hl 0 rfl) ?_
  refine th_get (D := (dC, dI)) (ci := 7) (v := .ref (A 20)) (C := RX7) (T := TX7) (N := 34) hx hb hts inX7 hown hK hP (hLK _ ha0 (by decide)) oY0 rfl 20 (by decide) (hts _ T_251) (fun _ h9 => h9) rfl dX7_bankOf_2 ?_
  refine lv_iconst (v := 5) hx hb dX7_bankOf_5 (by decide) ?_
  obtain ⟨f1, o2, b3⟩ := y_op20 hI
  refine th_iald hx hb hK hP (hLK _ (y_k20 hA) (by decide)) 0 o2 rfl (ax_in (by decide)) dX7_bankOf_6 ?_
  refine lv_topi (fun v4 ev4 => ?_)
  refine lv_iload_n hx hb dX7_bankOf_7 rfl (lv_at hl 1 rfl) ?_
  refine lv_iconst (v := 4) hx hb dX7_bankOf_8 (by decide) ?_
  refine lv_idiv hx hb dX7_bankOf_9 (by decide) ?_
  refine lv_topi (fun v5 ev5 => ?_)
  have qv5 : v5.toInt = x1.toInt / 4 := by rw [ev5]; exact th_div rfl (by decide) (by omega) (by decide)
  refine lv_imul hx hb dX7_bankOf_10 ?_
  refine lv_topi (fun v6 ev6 => ?_)
  refine lv_iadd hx hb dX7_bankOf_11 ?_
  refine lv_topi (fun v7 ev7 => ?_)
  refine lv_iconst (v := 4) hx hb dX7_bankOf_12 (by decide) ?_
  refine lv_irem hx hb dX7_bankOf_13 (by decide) ?_
  refine lv_topi (fun v8 ev8 => ?_)
  exact W.iret (v := v8) hx hb hr (fun t ht hW => ⟨⟨v8, F, rfl, ⟨⟨by omega, by omega⟩, trivial, hI, hfr, fun k hk => (y_fiZ oY0 (s_sub (by decide) hk)).trans ((hz0 k hk).trans (y_fiZ oY0 (s_sub (by decide) hk)).symm), trivial⟩, by rw [ht]; exact hP, va_K.moved hW.alike hK⟩, hS.F ht⟩) hS.2.2 dX7_bankOf_14

set_option maxHeartbeats 4000000 in
set_option maxRecDepth 100000 in
theorem yt_X7_segments (l : Launch) (dC : Nat → ClassId) (dI : Nat → Nat → Nat) (sz : Nat) {L : List Nat} {K : Nat → Nat} {cs : Nat → ClassId} (hLK : ∀ a {k : Nat}, K a = k → k ≠ 0 → a ∈ L) (A : Nat → Nat) (hA : y_A K A) (F : Nat → va_E) (a0 : Nat) (x1 : Int32) (ha0 : K a0 = 9) (hI : y_I K cs A F) : Met l yX7_segments (Cond.code yX7_segments cX7_segments 5 (some .int) :: T0) ({ frames := 1, cells := 0, slots := 0, locals := 24 }) (va_Pc [.ref a0, .int x1] (s_W dC dI sz L F [(cs 0, .int), (cs 1, .byte), (cs 2, .long), (cs 3, .object RX5), (cs 4, .object RX4), (cs 5, .array .int), (cs 6, .char), (cs 7, .boolean)])) (va_Qi (fun (r : Int32) (G : Nat → va_E) => True ∧ True ∧ y_I K cs A G ∧ (∀ b, K b ∉ ([] : List Nat) → G b = F b) ∧ (∀ k, k ∈ ([1, 2, 3, 4, 5, 6, 7, 8, 11, 15, 16, 19, 25, 26, 27, 31, 32] : List Nat) → y_fi G a0 k = y_fi F a0 k) ∧ True) (fun (G : Nat → va_E) (t : State) => va_P (dC, dI) vwCl (va_pl L G) t.heap ∧ va_K (dC, dI) vwCl [(cs 0, .int), (cs 1, .byte), (cs 2, .long), (cs 3, .object RX5), (cs 4, .object RX4), (cs 5, .array .int), (cs 6, .char), (cs 7, .boolean)] t) (fun q => q ∈ L)) 0 0 (fun q => q ∈ L) := by
  refine Met.ofW (cc := cX7_segments) (maxL := 5) (ret := (some .int)) (by decide) rfl ?_
  intro p e s m args below meth c s₁ B hml hv
  obtain ⟨rfl, hsz, hP, hK, hD, hN⟩ := hv
  have hx := B.exec
  have hb := B.bytes
  have hr := B.returns
  have hts : ∀ w ∈ T0, w.before _ s = true := fun w h => atoms_spec (ws := Cond.code yX7_segments cX7_segments 5 (some .int) :: T0) B.pre w (List.mem_cons_of_mem _ h)
  have hown : s.vm.findClass RX7 = some m.cls := findClass_of_methodNamed B.named
  have hlocks := B.notSynchronized
  have hS : va_S (fun q => q ∈ L) s.heap s.heap [] := va_S.rf
  have hfr : ∀ b, K b ∉ ([] : List Nat) → F b = F b := fun _ _ => rfl
  have hl := lv_entry ([.ref a0, .int x1]) (n := 5) (Nat.le_of_ble_eq_true rfl)
  rw [lg_entry_eq]
  generalize (lg_sl ([.ref a0, .int x1]) ++ List.replicate (5 - (lg_sl ([.ref a0, .int x1])).length) Slot.unset).toArray = ls at hl ⊢
  have hl : lv_has ls 5 [(0, .ref a0), (1, .int x1)] := hl
  refine s_gen hP hS (fun H locs hP hS => ?_)
  obtain ⟨z0, q0, oY0, bz0, bq0⟩ := y_opY hI ha0
  have hz0 : ∀ k, k ∈ ([1, 2, 3, 4, 5, 6, 7, 8, 11, 15, 16, 19, 25, 26, 27, 31, 32] : List Nat) → z0 k = z0 k := fun _ _ => rfl
  refine lv_iconst (v := 0) hx hb dX7_segments_0 (by decide) ?_
  refine lv_istore_n (lv' := [(2, .int 0), (0, .ref a0), (1, .int x1)]) hx hb dX7_segments_1 rfl hl (by decide) rfl (fun ls hl => ?_)
  refine lv_iconst (v := 0) hx hb dX7_segments_2 (by decide) ?_
  refine lv_istore_n (lv' := [(3, .int 0), (2, .int 0), (0, .ref a0), (1, .int x1)]) hx hb dX7_segments_3 rfl hl (by decide) rfl (fun ls hl => ?_)
  have h3 : (0 : Int32).toInt = 0 := by decide
  have h4 : (0 : Int32).toInt = 0 := by decide
  refine th_loop (fun n g H locs => ∃ (G : Nat → va_E) (ls : Array Slot) (w1 : Int32) (w2 : Int32), g = F0 m 4 ls [] ∧ lv_has ls 5 [(0, .ref a0), (1, .int x1), (2, .int w1), (3, .int w2)] ∧ va_P (dC, dI) vwCl (va_pl L G) H ∧ va_S (fun q => q ∈ L) s.heap H locs ∧ y_I K cs A G ∧ (∀ b, K b ∉ ([] : List Nat) → G b = F b) ∧ (∀ k, k ∈ ([1, 2, 3, 4, 5, 6, 7, 8, 11, 15, 16, 19, 25, 26, 27, 31, 32] : List Nat) → y_fi G a0 k = z0 k) ∧ True ∧ (0 ≤ w2.toInt ∧ w2.toInt ≤ 8) ∧ n = (9 - w2.toInt).toNat) _ ⟨F, _, 0, 0, rfl, lv_sub hl [2, 3, 1, 0] rfl, hP, hS, hI, hfr, (fun k hk => (y_fiZ oY0 (s_sub (by decide) hk)).trans (hz0 k hk)), trivial, (by decide), rfl⟩ (fun n ih4 g H locs hq => ?_)
  obtain ⟨F7, ls, w1, w2, rfl, hl, hP, hS, hI, hfr, hz0, h5, h6, hn⟩ := hq
  have oY8 : F7 a0 = .inr (7, y_fl A z0 q0) := (hfr _ (by rw [ha0]; decide)).trans oY0
  have hz0 : ∀ k, k ∈ ([1, 2, 3, 4, 5, 6, 7, 8, 11, 15, 16, 19, 25, 26, 27, 31, 32] : List Nat) → z0 k = z0 k := fun _ _ => rfl
  have hn_8 := hn
  refine th_join (fun g H locs => ∃ (G : Nat → va_E) (ls : Array Slot) (w9 : Int32), g = F0 m 38 ls [] ∧ lv_has ls 5 [(0, .ref a0), (1, .int x1), (2, .int w9), (3, .int w2)] ∧ va_P (dC, dI) vwCl (va_pl L G) H ∧ va_S (fun q => q ∈ L) s.heap H locs ∧ y_I K cs A G ∧ (∀ b, K b ∉ ([] : List Nat) → G b = F b) ∧ (∀ k, k ∈ ([1, 2, 3, 4, 5, 6, 7, 8, 11, 15, 16, 19, 25, 26, 27, 31, 32] : List Nat) → y_fi G a0 k = z0 k) ∧ True ∧ (0 ≤ w2.toInt ∧ w2.toInt ≤ 7)) (fun K38 => ?_) ?_
  · refine lv_iload_n hx hb dX7_segments_4 rfl (lv_at hl 3 rfl) ?_
    refine lv_bipush (v := 8) hx hb dX7_segments_5 (by decide) ?_
    refine lv_icmp_ge (tgt := 44) hx hb dX7_segments_7 (by decide) (fun c10 => ?_) (fun c10 => ?_)
    · have c10 := (ax_ge (n := 8) (by decide)).mp c10
      refine lv_iconst (v := 0) hx hb dX7_segments_44 (by decide) ?_
      refine lv_istore_n (lv' := [(3, .int 0), (0, .ref a0), (1, .int x1), (2, .int w1)]) hx hb dX7_segments_45 rfl hl (by decide) rfl (fun ls hl => ?_)
      refine lv_iconst (v := 0) hx hb dX7_segments_46 (by decide) ?_
      refine lv_istore (lv' := [(4, .int 0), (3, .int 0), (0, .ref a0), (1, .int x1), (2, .int w1)]) hx hb dX7_segments_47 hl (by decide) rfl (fun ls hl => ?_)
      have h13 : (0 : Int32).toInt = 0 := by decide
      have h14 : (0 : Int32).toInt = 0 := by decide
      refine th_loop (fun n g H locs => ∃ (G : Nat → va_E) (ls : Array Slot) (w11 : Int32) (w12 : Int32), g = F0 m 49 ls [] ∧ lv_has ls 5 [(2, .int w1), (3, .int w11), (4, .int w12)] ∧ va_P (dC, dI) vwCl (va_pl L G) H ∧ va_S (fun q => q ∈ L) s.heap H locs ∧ y_I K cs A G ∧ (∀ b, K b ∉ ([] : List Nat) → G b = F b) ∧ (∀ k, k ∈ ([1, 2, 3, 4, 5, 6, 7, 8, 11, 15, 16, 19, 25, 26, 27, 31, 32] : List Nat) → y_fi G a0 k = z0 k) ∧ True ∧ (0 ≤ w12.toInt ∧ w12.toInt ≤ 8) ∧ n = (9 - w12.toInt).toNat) _ ⟨F7, _, 0, 0, rfl, lv_sub hl [4, 1, 0] rfl, hP, hS, hI, hfr, (fun k hk => (y_fiZ oY8 (s_sub (by decide) hk)).trans (hz0 k hk)), trivial, (by decide), rfl⟩ (fun n ih49 g H locs hq => ?_)
      obtain ⟨F17, ls, w11, w12, rfl, hl, hP, hS, hI, hfr, hz0, h15, h16, hn⟩ := hq
      have oY18 : F17 a0 = .inr (7, y_fl A z0 q0) := (hfr _ (by rw [ha0]; decide)).trans oY0
      have hz0 : ∀ k, k ∈ ([1, 2, 3, 4, 5, 6, 7, 8, 11, 15, 16, 19, 25, 26, 27, 31, 32] : List Nat) → z0 k = z0 k := fun _ _ => rfl
      have hn_18 := hn
      refine lv_iload hx hb dX7_segments_49 (lv_at hl 2 rfl) ?_
      refine lv_bipush (v := 8) hx hb dX7_segments_51 (by decide) ?_
      refine lv_icmp_ge (tgt := 71) hx hb dX7_segments_53 (by decide) (fun c19 => ?_) (fun c19 => ?_)
      · have c19 := (ax_ge (n := 8) (by decide)).mp c19
        refine lv_iload_n hx hb dX7_segments_71 rfl (lv_at hl 1 rfl) ?_
        exact W.iret (v := w11) hx hb hr (fun t ht hW => ⟨⟨w11, F17, rfl, ⟨trivial, trivial, hI, hfr, fun k hk => (y_fiZ oY18 (s_sub (by decide) hk)).trans ((hz0 k hk).trans (y_fiZ oY0 (s_sub (by decide) hk)).symm), trivial⟩, by rw [ht]; exact hP, va_K.moved hW.alike hK⟩, hS.F ht⟩) hS.2.2 dX7_segments_72
      · have c19 := mt (ax_ge (n := 8) (by decide)).mpr c19
        refine lv_iload_n hx hb dX7_segments_56 rfl (lv_at hl 1 rfl) ?_
        refine lv_iload_n hx hb dX7_segments_57 rfl (lv_at hl 0 rfl) ?_
        refine lv_iload hx hb dX7_segments_58 (lv_at hl 2 rfl) ?_
        refine lv_ishr hx hb dX7_segments_60 ?_
        refine lv_topi (fun v20 ev20 => ?_)
        refine lv_iconst (v := 1) hx hb dX7_segments_61 (by decide) ?_
        refine lv_iand hx hb dX7_segments_62 ?_
        refine lv_topi (fun v21 ev21 => ?_)
        have qv21 : 0 ≤ v21.toInt ∧ v21.toInt ≤ 1 := by rw [ev21]; exact th_and 1 (by decide) (by decide)
        refine lv_iadd hx hb dX7_segments_63 ?_
        refine lv_topi (fun v22 ev22 => ?_)
        refine lv_istore_n (lv' := [(3, .int v22), (2, .int w1), (4, .int w12)]) hx hb dX7_segments_64 rfl hl (by decide) rfl (fun ls hl => ?_)
        obtain ⟨v23, ev23⟩ : ∃ y : Int32, w12 + 1 = y := ⟨_, rfl⟩
        have qv23 : v23.toInt = w12.toInt + 1 := by rw [← ev23]; exact th_add rfl (by decide) ⟨by omega, by omega⟩
        refine lv_iinc (v := v23) (lv' := [(4, .int v23), (3, .int v22), (2, .int w1)]) hx hb dX7_segments_65 hl (k := 2) rfl ev23 (by decide) rfl (fun ls hl => ?_)
        refine lv_goto (tgt := 49) hx hb dX7_segments_68 (by decide) ?_
        exact ih49 _ _ _ _ (by omega) ⟨F17, _, v22, v23, rfl, lv_sub hl [2, 1, 0] rfl, hP, hS, hI, hfr, (fun k hk => (y_fiZ oY18 (s_sub (by decide) hk)).trans (hz0 k hk)), trivial, ⟨by omega, by omega⟩, rfl⟩
    · have c10 := mt (ax_ge (n := 8) (by decide)).mpr c10
      refine lv_iload_n hx hb dX7_segments_10 rfl (lv_at hl 1 rfl) ?_
      refine lv_iload_n hx hb dX7_segments_11 rfl (lv_at hl 3 rfl) ?_
      refine va_calli (va_runS (As := [.int x1, .int w2]) (rest := []) ⟨hx, hb, hml, hown, hts⟩ (y_X7_isOf l dC dI H.size F7 x1 w2 (⟨by omega, by omega⟩)) (cwS 2 hts (ax_gS T_1027 T_1029 T_265 T_1028) rfl rfl rfl (by decide +kernel) ⟨Nat.le_of_ble_eq_true rfl, Nat.le_of_ble_eq_true rfl⟩) ⟨fun a U g mk q => ⟨q.1, s_pc rfl rfl q.2⟩, fun U hU hW => ⟨rfl, s_pw hU hW hP hK hD hN⟩⟩ rfl rfl hl.1 rfl (lv_room (Nat.le_of_ble_eq_true rfl)) dX7_segments_12 ⟨Nat.zero_le _, Nat.zero_le _⟩) hS (fun q _ h => h) (fun q h => h) (fun r25 F26 t H1 locs ht hvm hw hB hz1 hk1 hS => ?_)
      obtain ⟨hP, hK1⟩ := hB
      rw [ht] at hP
      generalize H1 = H at hP hS ⊢
      obtain ⟨h27, h29, hG9, h28⟩ := hw
      rw [hG9] at hP
      have h28 : ((r25.toInt = 1 ∧ bt x1 w2.toInt.toNat = true) ∨ (r25.toInt = 0 ∧ bt x1 w2.toInt.toNat = false)) := by have q9 := h28; exact q9
      refine lv_if_eq (tgt := 38) hx hb dX7_segments_15 (by decide) (fun c30 => ?_) (fun c30 => ?_)
      · have c30 := (ax_eq (n := 0) (by decide)).mp c30
        exact K38 _ _ _ ⟨F7, _, w1, rfl, lv_sub hl [0, 1, 2, 3] rfl, hP, hS, hI, hfr, (fun k hk => (y_fiZ oY8 (s_sub (by decide) hk)).trans (hz0 k hk)), trivial, ⟨by omega, by omega⟩⟩
      · have c30 := mt (ax_eq (n := 0) (by decide)).mpr c30
        refine lv_iload_n hx hb dX7_segments_18 rfl (lv_at hl 2 rfl) ?_
        refine lv_iconst (v := 1) hx hb dX7_segments_19 (by decide) ?_
        refine lv_aload_n hx hb dX7_segments_20 rfl (lv_at hl 0 rfl) ?_
        refine th_get (D := (dC, dI)) (ci := 7) (v := .ref (A 21)) (C := RX7) (T := TX7) (N := 34) hx hb hts inX7 hown hK hP (hLK _ ha0 (by decide)) oY8 rfl 21 (by decide) (hts _ T_252) (fun _ h9 => h9) rfl dX7_segments_21 ?_
        refine lv_iload_n hx hb dX7_segments_24 rfl (lv_at hl 3 rfl) ?_
        obtain ⟨f31, o32, b33⟩ := y_op21 hI
        refine th_iald hx hb hK hP (hLK _ (y_k21 hA) (by decide)) 0 o32 rfl (th_in ⟨by omega, by omega⟩) dX7_segments_25 ?_
        refine lv_topi (fun v34 ev34 => ?_)
        refine lv_i2l hx hb dX7_segments_26 rfl ?_
        refine lv_topl (fun v35 ev35 => ?_)
        have qv35 : v35.toInt = v34.toInt := y_i2l ev35
        refine lv_bipush (v := 64) hx hb dX7_segments_27 (by decide) ?_
        refine va_calli (va_runS (As := [.long v35, .int 64]) (rest := [.int 1, .int w1]) ⟨hx, hb, hml, hown, hts⟩ (y_X7_modulo l dC dI H.size F7 v35 64 (by decide)) (cwS 2 hts (ax_gS T_1204 T_1206 T_265 T_1205) rfl rfl rfl (by decide +kernel) ⟨Nat.le_of_ble_eq_true rfl, Nat.le_of_ble_eq_true rfl⟩) ⟨fun a U g mk q => ⟨q.1, s_pc rfl rfl q.2⟩, fun U hU hW => ⟨rfl, s_pw hU hW hP hK hD hN⟩⟩ rfl rfl hl.1 rfl (lv_room (Nat.le_of_ble_eq_true rfl)) dX7_segments_29 ⟨Nat.zero_le _, Nat.zero_le _⟩) hS (fun q _ h => h) (fun q h => h) (fun r37 F38 t H1 locs ht hvm hw hB hz1 hk1 hS => ?_)
        obtain ⟨hP, hK1⟩ := hB
        rw [ht] at hP
        generalize H1 = H at hP hS ⊢
        obtain ⟨h39, h41, hG9, h40⟩ := hw
        rw [hG9] at hP
        have h40 : (0 ≤ r37.toInt ∧ r37.toInt < 64) := by have q9 := h40; exact q9
        refine lv_bipush (v := 8) hx hb dX7_segments_32 (by decide) ?_
        refine lv_idiv hx hb dX7_segments_34 (by decide) ?_
        refine lv_topi (fun v42 ev42 => ?_)
        refine lv_ishl hx hb dX7_segments_35 ?_
        refine lv_topi (fun v43 ev43 => ?_)
        refine lv_ior hx hb dX7_segments_36 ?_
        refine lv_topi (fun v44 ev44 => ?_)
        refine lv_istore_n (lv' := [(2, .int v44), (0, .ref a0), (1, .int x1), (3, .int w2)]) hx hb dX7_segments_37 rfl hl (by decide) rfl (fun ls hl => ?_)
        exact K38 _ _ _ ⟨F7, _, v44, rfl, lv_sub hl [1, 2, 0, 3] rfl, hP, hS, hI, hfr, (fun k hk => (y_fiZ oY8 (s_sub (by decide) hk)).trans (hz0 k hk)), trivial, ⟨by omega, by omega⟩⟩
  · intro g H locs hq
    obtain ⟨F47, ls, w9, rfl, hl, hP, hS, hI, hfr, hz0, h45, h46⟩ := hq
    have oY48 : F47 a0 = .inr (7, y_fl A z0 q0) := (hfr _ (by rw [ha0]; decide)).trans oY0
    have hz0 : ∀ k, k ∈ ([1, 2, 3, 4, 5, 6, 7, 8, 11, 15, 16, 19, 25, 26, 27, 31, 32] : List Nat) → z0 k = z0 k := fun _ _ => rfl
    obtain ⟨v49, ev49⟩ : ∃ y : Int32, w2 + 1 = y := ⟨_, rfl⟩
    have qv49 : v49.toInt = w2.toInt + 1 := by rw [← ev49]; exact th_add rfl (by decide) ⟨by omega, by omega⟩
    refine lv_iinc (v := v49) (lv' := [(3, .int v49), (0, .ref a0), (1, .int x1), (2, .int w9)]) hx hb dX7_segments_38 hl (k := 3) rfl ev49 (by decide) rfl (fun ls hl => ?_)
    refine lv_goto (tgt := 4) hx hb dX7_segments_41 (by decide) ?_
    exact ih4 _ _ _ _ (by omega) ⟨F47, _, w9, v49, rfl, lv_sub hl [1, 2, 3, 0] rfl, hP, hS, hI, hfr, (fun k hk => (y_fiZ oY48 (s_sub (by decide) hk)).trans (hz0 k hk)), trivial, ⟨by omega, by omega⟩, rfl⟩

set_option maxHeartbeats 4000000 in
set_option maxRecDepth 100000 in
theorem yt_X7_isAsked (l : Launch) (dC : Nat → ClassId) (dI : Nat → Nat → Nat) (sz : Nat) {L : List Nat} {K : Nat → Nat} {cs : Nat → ClassId} (hLK : ∀ a {k : Nat}, K a = k → k ≠ 0 → a ∈ L) (A : Nat → Nat) (hA : y_A K A) (F : Nat → va_E) (a0 : Nat) (x1 : Int32) (x2 : Int32) (ha0 : K a0 = 9) (hx2 : 0 ≤ x2.toInt ∧ x2.toInt ≤ 31) (hI : y_I K cs A F) : Met l yX7_isAsked (Cond.code yX7_isAsked cX7_isAsked 4 (some .boolean) :: T0) ({ frames := 1, cells := 0, slots := 0, locals := 24 }) (va_Pc [.ref a0, .int x1, .int x2] (s_W dC dI sz L F [(cs 0, .int), (cs 1, .byte), (cs 2, .long), (cs 3, .object RX5), (cs 4, .object RX4), (cs 5, .array .int), (cs 6, .char), (cs 7, .boolean)])) (va_Qi (fun (r : Int32) (G : Nat → va_E) => (0 ≤ r.toInt ∧ r.toInt ≤ 1) ∧ True ∧ y_I K cs A G ∧ (∀ b, K b ∉ ([] : List Nat) → G b = F b) ∧ (∀ k, k ∈ ([1, 2, 3, 4, 5, 6, 7, 8, 11, 15, 16, 19, 25, 26, 27, 31, 32] : List Nat) → y_fi G a0 k = y_fi F a0 k) ∧ True) (fun (G : Nat → va_E) (t : State) => va_P (dC, dI) vwCl (va_pl L G) t.heap ∧ va_K (dC, dI) vwCl [(cs 0, .int), (cs 1, .byte), (cs 2, .long), (cs 3, .object RX5), (cs 4, .object RX4), (cs 5, .array .int), (cs 6, .char), (cs 7, .boolean)] t) (fun q => q ∈ L)) 0 0 (fun q => q ∈ L) := by
  refine Met.ofW (cc := cX7_isAsked) (maxL := 4) (ret := (some .boolean)) (by decide) rfl ?_
  intro p e s m args below meth c s₁ B hml hv
  obtain ⟨rfl, hsz, hP, hK, hD, hN⟩ := hv
  have hx := B.exec
  have hb := B.bytes
  have hr := B.returns
  have hts : ∀ w ∈ T0, w.before _ s = true := fun w h => atoms_spec (ws := Cond.code yX7_isAsked cX7_isAsked 4 (some .boolean) :: T0) B.pre w (List.mem_cons_of_mem _ h)
  have hown : s.vm.findClass RX7 = some m.cls := findClass_of_methodNamed B.named
  have hlocks := B.notSynchronized
  have hS : va_S (fun q => q ∈ L) s.heap s.heap [] := va_S.rf
  have hfr : ∀ b, K b ∉ ([] : List Nat) → F b = F b := fun _ _ => rfl
  have hl := lv_entry ([.ref a0, .int x1, .int x2]) (n := 4) (Nat.le_of_ble_eq_true rfl)
  rw [lg_entry_eq]
  generalize (lg_sl ([.ref a0, .int x1, .int x2]) ++ List.replicate (4 - (lg_sl ([.ref a0, .int x1, .int x2])).length) Slot.unset).toArray = ls at hl ⊢
  have hl : lv_has ls 4 [(0, .ref a0), (1, .int x1), (2, .int x2)] := hl
  refine s_gen hP hS (fun H locs hP hS => ?_)
  obtain ⟨z0, q0, oY0, bz0, bq0⟩ := y_opY hI ha0
  have hz0 : ∀ k, k ∈ ([1, 2, 3, 4, 5, 6, 7, 8, 11, 15, 16, 19, 25, 26, 27, 31, 32] : List Nat) → z0 k = z0 k := fun _ _ => rfl
  refine lv_iconst (v := 0) hx hb dX7_isAsked_0 (by decide) ?_
  refine lv_istore_n (lv' := [(3, .int 0), (0, .ref a0), (1, .int x1), (2, .int x2)]) hx hb dX7_isAsked_1 rfl hl (by decide) rfl (fun ls hl => ?_)
  have h2 : (0 : Int32).toInt = 0 := by decide
  refine th_loop (fun n g H locs => ∃ (G : Nat → va_E) (ls : Array Slot) (w1 : Int32), g = F0 m 2 ls [] ∧ lv_has ls 4 [(0, .ref a0), (1, .int x1), (2, .int x2), (3, .int w1)] ∧ va_P (dC, dI) vwCl (va_pl L G) H ∧ va_S (fun q => q ∈ L) s.heap H locs ∧ y_I K cs A G ∧ (∀ b, K b ∉ ([] : List Nat) → G b = F b) ∧ (∀ k, k ∈ ([1, 2, 3, 4, 5, 6, 7, 8, 11, 15, 16, 19, 25, 26, 27, 31, 32] : List Nat) → y_fi G a0 k = z0 k) ∧ (0 ≤ w1.toInt ∧ w1.toInt ≤ 8) ∧ (0 ≤ x2.toInt ∧ x2.toInt ≤ 31) ∧ n = (9 - w1.toInt).toNat) _ ⟨F, _, 0, rfl, lv_sub hl [1, 2, 3, 0] rfl, hP, hS, hI, hfr, (fun k hk => (y_fiZ oY0 (s_sub (by decide) hk)).trans (hz0 k hk)), (by decide), ⟨by omega, by omega⟩, rfl⟩ (fun n ih2 g H locs hq => ?_)
  obtain ⟨F5, ls, w1, rfl, hl, hP, hS, hI, hfr, hz0, h3, h4, hn⟩ := hq
  have oY6 : F5 a0 = .inr (7, y_fl A z0 q0) := (hfr _ (by rw [ha0]; decide)).trans oY0
  have hz0 : ∀ k, k ∈ ([1, 2, 3, 4, 5, 6, 7, 8, 11, 15, 16, 19, 25, 26, 27, 31, 32] : List Nat) → z0 k = z0 k := fun _ _ => rfl
  have hn_6 := hn
  refine th_join (fun g H locs => ∃ (G : Nat → va_E) (ls : Array Slot), g = F0 m 34 ls [] ∧ lv_has ls 4 [(0, .ref a0), (1, .int x1), (2, .int x2), (3, .int w1)] ∧ va_P (dC, dI) vwCl (va_pl L G) H ∧ va_S (fun q => q ∈ L) s.heap H locs ∧ y_I K cs A G ∧ (∀ b, K b ∉ ([] : List Nat) → G b = F b) ∧ (∀ k, k ∈ ([1, 2, 3, 4, 5, 6, 7, 8, 11, 15, 16, 19, 25, 26, 27, 31, 32] : List Nat) → y_fi G a0 k = z0 k) ∧ (0 ≤ x2.toInt ∧ x2.toInt ≤ 31) ∧ (0 ≤ w1.toInt ∧ w1.toInt ≤ 7)) (fun K34 => ?_) ?_
  · refine lv_iload_n hx hb dX7_isAsked_2 rfl (lv_at hl 3 rfl) ?_
    refine lv_bipush (v := 8) hx hb dX7_isAsked_3 (by decide) ?_
    refine lv_icmp_ge (tgt := 40) hx hb dX7_isAsked_5 (by decide) (fun c7 => ?_) (fun c7 => ?_)
    · have c7 := (ax_ge (n := 8) (by decide)).mp c7
      refine lv_iconst (v := 0) hx hb dX7_isAsked_40 (by decide) ?_
      have h8 : (0 : Int32).toInt = 0 := by decide
      exact W.zret (v := 0) (ty := .boolean) hx hb hr (by decide) (fun t ht hW => ⟨⟨0, F5, rfl, ⟨(by decide), trivial, hI, hfr, fun k hk => (y_fiZ oY6 (s_sub (by decide) hk)).trans ((hz0 k hk).trans (y_fiZ oY0 (s_sub (by decide) hk)).symm), trivial⟩, by rw [ht]; exact hP, va_K.moved hW.alike hK⟩, hS.F ht⟩) hS.2.2 dX7_isAsked_41
    · have c7 := mt (ax_ge (n := 8) (by decide)).mpr c7
      refine lv_iload_n hx hb dX7_isAsked_8 rfl (lv_at hl 1 rfl) ?_
      refine lv_iload_n hx hb dX7_isAsked_9 rfl (lv_at hl 3 rfl) ?_
      refine va_calli (va_runS (As := [.int x1, .int w1]) (rest := []) ⟨hx, hb, hml, hown, hts⟩ (y_X7_isOf l dC dI H.size F5 x1 w1 (⟨by omega, by omega⟩)) (cwS 2 hts (ax_gS T_1027 T_1029 T_265 T_1028) rfl rfl rfl (by decide +kernel) ⟨Nat.le_of_ble_eq_true rfl, Nat.le_of_ble_eq_true rfl⟩) ⟨fun a U g mk q => ⟨q.1, s_pc rfl rfl q.2⟩, fun U hU hW => ⟨rfl, s_pw hU hW hP hK hD hN⟩⟩ rfl rfl hl.1 rfl (lv_room (Nat.le_of_ble_eq_true rfl)) dX7_isAsked_10 ⟨Nat.zero_le _, Nat.zero_le _⟩) hS (fun q _ h => h) (fun q h => h) (fun r10 F11 t H1 locs ht hvm hw hB hz1 hk1 hS => ?_)
      obtain ⟨hP, hK1⟩ := hB
      rw [ht] at hP
      generalize H1 = H at hP hS ⊢
      obtain ⟨h12, h14, hG9, h13⟩ := hw
      rw [hG9] at hP
      have h13 : ((r10.toInt = 1 ∧ bt x1 w1.toInt.toNat = true) ∨ (r10.toInt = 0 ∧ bt x1 w1.toInt.toNat = false)) := by have q9 := h13; exact q9
      refine lv_if_eq (tgt := 34) hx hb dX7_isAsked_13 (by decide) (fun c15 => ?_) (fun c15 => ?_)
      · have c15 := (ax_eq (n := 0) (by decide)).mp c15
        exact K34 _ _ _ ⟨F5, _, rfl, lv_sub hl [0, 1, 2, 3] rfl, hP, hS, hI, hfr, (fun k hk => (y_fiZ oY6 (s_sub (by decide) hk)).trans (hz0 k hk)), ⟨by omega, by omega⟩, ⟨by omega, by omega⟩⟩
      · have c15 := mt (ax_eq (n := 0) (by decide)).mpr c15
        refine lv_aload_n hx hb dX7_isAsked_16 rfl (lv_at hl 0 rfl) ?_
        refine th_get (D := (dC, dI)) (ci := 7) (v := .ref (A 21)) (C := RX7) (T := TX7) (N := 34) hx hb hts inX7 hown hK hP (hLK _ ha0 (by decide)) oY6 rfl 21 (by decide) (hts _ T_252) (fun _ h9 => h9) rfl dX7_isAsked_17 ?_
        refine lv_iload_n hx hb dX7_isAsked_20 rfl (lv_at hl 3 rfl) ?_
        obtain ⟨f16, o17, b18⟩ := y_op21 hI
        refine th_iald hx hb hK hP (hLK _ (y_k21 hA) (by decide)) 0 o17 rfl (th_in ⟨by omega, by omega⟩) dX7_isAsked_21 ?_
        refine lv_topi (fun v19 ev19 => ?_)
        refine lv_i2l hx hb dX7_isAsked_22 rfl ?_
        refine lv_topl (fun v20 ev20 => ?_)
        have qv20 : v20.toInt = v19.toInt := y_i2l ev20
        refine lv_bipush (v := 32) hx hb dX7_isAsked_23 (by decide) ?_
        refine va_calli (va_runS (As := [.long v20, .int 32]) (rest := []) ⟨hx, hb, hml, hown, hts⟩ (y_X7_modulo l dC dI H.size F5 v20 32 (by decide)) (cwS 2 hts (ax_gS T_1204 T_1206 T_265 T_1205) rfl rfl rfl (by decide +kernel) ⟨Nat.le_of_ble_eq_true rfl, Nat.le_of_ble_eq_true rfl⟩) ⟨fun a U g mk q => ⟨q.1, s_pc rfl rfl q.2⟩, fun U hU hW => ⟨rfl, s_pw hU hW hP hK hD hN⟩⟩ rfl rfl hl.1 rfl (lv_room (Nat.le_of_ble_eq_true rfl)) dX7_isAsked_25 ⟨Nat.zero_le _, Nat.zero_le _⟩) hS (fun q _ h => h) (fun q h => h) (fun r22 F23 t H1 locs ht hvm hw hB hz1 hk1 hS => ?_)
        obtain ⟨hP, hK1⟩ := hB
        rw [ht] at hP
        generalize H1 = H at hP hS ⊢
        obtain ⟨h24, h26, hG9, h25⟩ := hw
        rw [hG9] at hP
        have h25 : (0 ≤ r22.toInt ∧ r22.toInt < 32) := by have q9 := h25; exact q9
        refine lv_iload_n hx hb dX7_isAsked_28 rfl (lv_at hl 2 rfl) ?_
        refine lv_icmp_ne (tgt := 34) hx hb dX7_isAsked_29 (by decide) (fun c27 => ?_) (fun c27 => ?_)
        · have c27 := mt Int32.toInt_inj.symm.mpr c27
          exact K34 _ _ _ ⟨F5, _, rfl, lv_sub hl [0, 1, 2, 3] rfl, hP, hS, hI, hfr, (fun k hk => (y_fiZ oY6 (s_sub (by decide) hk)).trans (hz0 k hk)), ⟨by omega, by omega⟩, ⟨by omega, by omega⟩⟩
        · have c27 := Int32.toInt_inj.symm.mp c27
          refine lv_iconst (v := 1) hx hb dX7_isAsked_32 (by decide) ?_
          have h28 : (1 : Int32).toInt = 1 := by decide
          exact W.zret (v := 1) (ty := .boolean) hx hb hr (by decide) (fun t ht hW => ⟨⟨1, F5, rfl, ⟨(by decide), trivial, hI, hfr, fun k hk => (y_fiZ oY6 (s_sub (by decide) hk)).trans ((hz0 k hk).trans (y_fiZ oY0 (s_sub (by decide) hk)).symm), trivial⟩, by rw [ht]; exact hP, va_K.moved hW.alike hK⟩, hS.F ht⟩) hS.2.2 dX7_isAsked_33
  · intro g H locs hq
    obtain ⟨F31, ls, rfl, hl, hP, hS, hI, hfr, hz0, h29, h30⟩ := hq
    have oY32 : F31 a0 = .inr (7, y_fl A z0 q0) := (hfr _ (by rw [ha0]; decide)).trans oY0
    have hz0 : ∀ k, k ∈ ([1, 2, 3, 4, 5, 6, 7, 8, 11, 15, 16, 19, 25, 26, 27, 31, 32] : List Nat) → z0 k = z0 k := fun _ _ => rfl
    obtain ⟨v33, ev33⟩ : ∃ y : Int32, w1 + 1 = y := ⟨_, rfl⟩
    have qv33 : v33.toInt = w1.toInt + 1 := by rw [← ev33]; exact th_add rfl (by decide) ⟨by omega, by omega⟩
    refine lv_iinc (v := v33) (lv' := [(3, .int v33), (0, .ref a0), (1, .int x1), (2, .int x2)]) hx hb dX7_isAsked_34 hl (k := 3) rfl ev33 (by decide) rfl (fun ls hl => ?_)
    refine lv_goto (tgt := 2) hx hb dX7_isAsked_37 (by decide) ?_
    exact ih2 _ _ _ _ (by omega) ⟨F31, _, v33, rfl, lv_sub hl [1, 2, 3, 0] rfl, hP, hS, hI, hfr, (fun k hk => (y_fiZ oY32 (s_sub (by decide) hk)).trans (hz0 k hk)), ⟨by omega, by omega⟩, ⟨by omega, by omega⟩, rfl⟩

set_option maxHeartbeats 4000000 in
set_option maxRecDepth 100000 in
theorem yt_X7_clashes (l : Launch) (dC : Nat → ClassId) (dI : Nat → Nat → Nat) (sz : Nat) {L : List Nat} {K : Nat → Nat} {cs : Nat → ClassId} (hLK : ∀ a {k : Nat}, K a = k → k ≠ 0 → a ∈ L) (A : Nat → Nat) (hA : y_A K A) (F : Nat → va_E) (a0 : Nat) (x1 : Int32) (ha0 : K a0 = 9) (hI : y_I K cs A F) : Met l yX7_clashes (Cond.code yX7_clashes cX7_clashes 6 (some .int) :: T0) ({ frames := 2, cells := 0, slots := 0, locals := 47 }) (va_Pc [.ref a0, .int x1] (s_W dC dI sz L F [(cs 0, .int), (cs 1, .byte), (cs 2, .long), (cs 3, .object RX5), (cs 4, .object RX4), (cs 5, .array .int), (cs 6, .char), (cs 7, .boolean)])) (va_Qi (fun (r : Int32) (G : Nat → va_E) => (0 ≤ r.toInt ∧ r.toInt ≤ 2147483647) ∧ True ∧ y_I K cs A G ∧ (∀ b, K b ∉ ([] : List Nat) → G b = F b) ∧ (∀ k, k ∈ ([1, 2, 3, 4, 5, 6, 7, 8, 11, 15, 16, 19, 25, 26, 27, 31, 32] : List Nat) → y_fi G a0 k = y_fi F a0 k) ∧ True) (fun (G : Nat → va_E) (t : State) => va_P (dC, dI) vwCl (va_pl L G) t.heap ∧ va_K (dC, dI) vwCl [(cs 0, .int), (cs 1, .byte), (cs 2, .long), (cs 3, .object RX5), (cs 4, .object RX4), (cs 5, .array .int), (cs 6, .char), (cs 7, .boolean)] t) (fun q => q ∈ L)) 0 0 (fun q => q ∈ L) := by
  refine Met.ofW (cc := cX7_clashes) (maxL := 6) (ret := (some .int)) (by decide) rfl ?_
  intro p e s m args below meth c s₁ B hml hv
  obtain ⟨rfl, hsz, hP, hK, hD, hN⟩ := hv
  have hx := B.exec
  have hb := B.bytes
  have hr := B.returns
  have hts : ∀ w ∈ T0, w.before _ s = true := fun w h => atoms_spec (ws := Cond.code yX7_clashes cX7_clashes 6 (some .int) :: T0) B.pre w (List.mem_cons_of_mem _ h)
  have hown : s.vm.findClass RX7 = some m.cls := findClass_of_methodNamed B.named
  have hlocks := B.notSynchronized
  have hS : va_S (fun q => q ∈ L) s.heap s.heap [] := va_S.rf
  have hfr : ∀ b, K b ∉ ([] : List Nat) → F b = F b := fun _ _ => rfl
  have hl := lv_entry ([.ref a0, .int x1]) (n := 6) (Nat.le_of_ble_eq_true rfl)
  rw [lg_entry_eq]
  generalize (lg_sl ([.ref a0, .int x1]) ++ List.replicate (6 - (lg_sl ([.ref a0, .int x1])).length) Slot.unset).toArray = ls at hl ⊢
  have hl : lv_has ls 6 [(0, .ref a0), (1, .int x1)] := hl
  refine s_gen hP hS (fun H locs hP hS => ?_)
  obtain ⟨z0, q0, oY0, bz0, bq0⟩ := y_opY hI ha0
  have hz0 : ∀ k, k ∈ ([1, 2, 3, 4, 5, 6, 7, 8, 11, 15, 16, 19, 25, 26, 27, 31, 32] : List Nat) → z0 k = z0 k := fun _ _ => rfl
  refine lv_iconst (v := 0) hx hb dX7_clashes_0 (by decide) ?_
  refine lv_istore_n (lv' := [(2, .int 0), (0, .ref a0), (1, .int x1)]) hx hb dX7_clashes_1 rfl hl (by decide) rfl (fun ls hl => ?_)
  refine lv_iconst (v := 0) hx hb dX7_clashes_2 (by decide) ?_
  refine lv_istore_n (lv' := [(3, .int 0), (2, .int 0), (0, .ref a0), (1, .int x1)]) hx hb dX7_clashes_3 rfl hl (by decide) rfl (fun ls hl => ?_)
  have h3 : (0 : Int32).toInt = 0 := by decide
  have h4 : (0 : Int32).toInt = 0 := by decide
  refine th_loop (fun n g H locs => ∃ (G : Nat → va_E) (ls : Array Slot) (w1 : Int32) (w2 : Int32), g = F0 m 4 ls [] ∧ lv_has ls 6 [(0, .ref a0), (1, .int x1), (2, .int w1), (3, .int w2)] ∧ va_P (dC, dI) vwCl (va_pl L G) H ∧ va_S (fun q => q ∈ L) s.heap H locs ∧ y_I K cs A G ∧ (∀ b, K b ∉ ([] : List Nat) → G b = F b) ∧ (∀ k, k ∈ ([1, 2, 3, 4, 5, 6, 7, 8, 11, 15, 16, 19, 25, 26, 27, 31, 32] : List Nat) → y_fi G a0 k = z0 k) ∧ (0 ≤ w1.toInt ∧ w1.toInt ≤ 2147483647) ∧ (0 ≤ w2.toInt ∧ w2.toInt ≤ 4) ∧ n = (5 - w2.toInt).toNat) _ ⟨F, _, 0, 0, rfl, lv_sub hl [2, 3, 1, 0] rfl, hP, hS, hI, hfr, (fun k hk => (y_fiZ oY0 (s_sub (by decide) hk)).trans (hz0 k hk)), (by decide), (by decide), rfl⟩ (fun n ih4 g H locs hq => ?_)
  obtain ⟨F7, ls, w1, w2, rfl, hl, hP, hS, hI, hfr, hz0, h5, h6, hn⟩ := hq
  have oY8 : F7 a0 = .inr (7, y_fl A z0 q0) := (hfr _ (by rw [ha0]; decide)).trans oY0
  have hz0 : ∀ k, k ∈ ([1, 2, 3, 4, 5, 6, 7, 8, 11, 15, 16, 19, 25, 26, 27, 31, 32] : List Nat) → z0 k = z0 k := fun _ _ => rfl
  have hn_8 := hn
  refine th_join (fun g H locs => ∃ (G : Nat → va_E) (ls : Array Slot) (w9 : Int32), g = F0 m 60 ls [] ∧ lv_has ls 6 [(0, .ref a0), (1, .int x1), (2, .int w9), (3, .int w2)] ∧ va_P (dC, dI) vwCl (va_pl L G) H ∧ va_S (fun q => q ∈ L) s.heap H locs ∧ y_I K cs A G ∧ (∀ b, K b ∉ ([] : List Nat) → G b = F b) ∧ (∀ k, k ∈ ([1, 2, 3, 4, 5, 6, 7, 8, 11, 15, 16, 19, 25, 26, 27, 31, 32] : List Nat) → y_fi G a0 k = z0 k) ∧ (0 ≤ w9.toInt ∧ w9.toInt ≤ 2147483647) ∧ (0 ≤ w2.toInt ∧ w2.toInt ≤ 3)) (fun K60 => ?_) ?_
  · refine lv_iload_n hx hb dX7_clashes_4 rfl (lv_at hl 3 rfl) ?_
    refine lv_iconst (v := 4) hx hb dX7_clashes_5 (by decide) ?_
    refine lv_icmp_ge (tgt := 66) hx hb dX7_clashes_6 (by decide) (fun c10 => ?_) (fun c10 => ?_)
    · have c10 := (ax_ge (n := 4) (by decide)).mp c10
      refine lv_iload_n hx hb dX7_clashes_66 rfl (lv_at hl 2 rfl) ?_
      exact W.iret (v := w1) hx hb hr (fun t ht hW => ⟨⟨w1, F7, rfl, ⟨⟨by omega, by have q9 := th_hi w1; omega⟩, trivial, hI, hfr, fun k hk => (y_fiZ oY8 (s_sub (by decide) hk)).trans ((hz0 k hk).trans (y_fiZ oY0 (s_sub (by decide) hk)).symm), trivial⟩, by rw [ht]; exact hP, va_K.moved hW.alike hK⟩, hS.F ht⟩) hS.2.2 dX7_clashes_67
    · have c10 := mt (ax_ge (n := 4) (by decide)).mpr c10
      refine lv_iconst (v := 0) hx hb dX7_clashes_9 (by decide) ?_
      refine lv_istore (lv' := [(4, .int 0), (0, .ref a0), (1, .int x1), (2, .int w1), (3, .int w2)]) hx hb dX7_clashes_10 hl (by decide) rfl (fun ls hl => ?_)
      refine lv_iconst (v := 0) hx hb dX7_clashes_12 (by decide) ?_
      refine lv_istore (lv' := [(5, .int 0), (4, .int 0), (0, .ref a0), (1, .int x1), (2, .int w1), (3, .int w2)]) hx hb dX7_clashes_13 hl (by decide) rfl (fun ls hl => ?_)
      have h13 : (0 : Int32).toInt = 0 := by decide
      have h14 : (0 : Int32).toInt = 0 := by decide
      refine th_loop (fun n g H locs => ∃ (G : Nat → va_E) (ls : Array Slot) (w11 : Int32) (w12 : Int32), g = F0 m 15 ls [] ∧ lv_has ls 6 [(0, .ref a0), (1, .int x1), (2, .int w1), (3, .int w2), (4, .int w11), (5, .int w12)] ∧ va_P (dC, dI) vwCl (va_pl L G) H ∧ va_S (fun q => q ∈ L) s.heap H locs ∧ y_I K cs A G ∧ (∀ b, K b ∉ ([] : List Nat) → G b = F b) ∧ (∀ k, k ∈ ([1, 2, 3, 4, 5, 6, 7, 8, 11, 15, 16, 19, 25, 26, 27, 31, 32] : List Nat) → y_fi G a0 k = z0 k) ∧ True ∧ (0 ≤ w12.toInt ∧ w12.toInt ≤ 32) ∧ (0 ≤ w1.toInt ∧ w1.toInt ≤ 2147483647) ∧ (0 ≤ w2.toInt ∧ w2.toInt ≤ 3) ∧ n = (33 - w12.toInt).toNat) _ ⟨F7, _, 0, 0, rfl, lv_sub hl [2, 3, 4, 5, 1, 0] rfl, hP, hS, hI, hfr, (fun k hk => (y_fiZ oY8 (s_sub (by decide) hk)).trans (hz0 k hk)), trivial, (by decide), ⟨by omega, by have q9 := th_hi w1; omega⟩, ⟨by omega, by omega⟩, rfl⟩ (fun n ih15 g H locs hq => ?_)
      obtain ⟨F19, ls, w11, w12, rfl, hl, hP, hS, hI, hfr, hz0, h15, h16, h17, h18, hn⟩ := hq
      have oY20 : F19 a0 = .inr (7, y_fl A z0 q0) := (hfr _ (by rw [ha0]; decide)).trans oY0
      have hz0 : ∀ k, k ∈ ([1, 2, 3, 4, 5, 6, 7, 8, 11, 15, 16, 19, 25, 26, 27, 31, 32] : List Nat) → z0 k = z0 k := fun _ _ => rfl
      have hn_20 := hn
      refine th_join (fun g H locs => ∃ (G : Nat → va_E) (ls : Array Slot) (w21 : Int32), g = F0 m 45 ls [] ∧ lv_has ls 6 [(0, .ref a0), (1, .int x1), (2, .int w1), (3, .int w2), (4, .int w21), (5, .int w12)] ∧ va_P (dC, dI) vwCl (va_pl L G) H ∧ va_S (fun q => q ∈ L) s.heap H locs ∧ y_I K cs A G ∧ (∀ b, K b ∉ ([] : List Nat) → G b = F b) ∧ (∀ k, k ∈ ([1, 2, 3, 4, 5, 6, 7, 8, 11, 15, 16, 19, 25, 26, 27, 31, 32] : List Nat) → y_fi G a0 k = z0 k) ∧ True ∧ (0 ≤ w1.toInt ∧ w1.toInt ≤ 2147483647) ∧ (0 ≤ w2.toInt ∧ w2.toInt ≤ 3) ∧ (0 ≤ w12.toInt ∧ w12.toInt ≤ 31)) (fun K45 => ?_) ?_
      · refine lv_iload hx hb dX7_clashes_15 (lv_at hl 5 rfl) ?_
        refine lv_bipush (v := 32) hx hb dX7_clashes_17 (by decide) ?_
        refine lv_icmp_ge (tgt := 51) hx hb dX7_clashes_19 (by decide) (fun c22 => ?_) (fun c22 => ?_)
        · have c22 := (ax_ge (n := 32) (by decide)).mp c22
          refine lv_iload hx hb dX7_clashes_51 (lv_at hl 4 rfl) ?_
          refine lv_iload_n hx hb dX7_clashes_53 rfl (lv_at hl 2 rfl) ?_
          refine lv_icmp_le (tgt := 60) hx hb dX7_clashes_54 (by decide) (fun c23 => ?_) (fun c23 => ?_)
          · have c23 := Int32.le_iff_toInt_le.mp c23
            exact K60 _ _ _ ⟨F19, _, w1, rfl, lv_sub hl [0, 1, 2, 3] rfl, hP, hS, hI, hfr, (fun k hk => (y_fiZ oY20 (s_sub (by decide) hk)).trans (hz0 k hk)), ⟨by omega, by have q9 := th_hi w1; omega⟩, ⟨by omega, by omega⟩⟩
          · have c23 := mt Int32.le_iff_toInt_le.mpr c23
            refine lv_iload hx hb dX7_clashes_57 (lv_at hl 4 rfl) ?_
            refine lv_istore_n (lv' := [(2, .int w11), (0, .ref a0), (1, .int x1), (3, .int w2), (4, .int w11), (5, .int w12)]) hx hb dX7_clashes_59 rfl hl (by decide) rfl (fun ls hl => ?_)
            exact K60 _ _ _ ⟨F19, _, w11, rfl, lv_sub hl [1, 2, 0, 3] rfl, hP, hS, hI, hfr, (fun k hk => (y_fiZ oY20 (s_sub (by decide) hk)).trans (hz0 k hk)), ⟨by omega, by have q9 := th_hi w11; omega⟩, ⟨by omega, by omega⟩⟩
        · have c22 := mt (ax_ge (n := 32) (by decide)).mpr c22
          refine lv_aload_n hx hb dX7_clashes_22 rfl (lv_at hl 0 rfl) ?_
          refine lv_iload hx hb dX7_clashes_23 (lv_at hl 5 rfl) ?_
          refine va_calli (va_runV (As := [.int w12]) (rest := []) ⟨hx, hb, hml, hown, hts⟩ (y_X7_bankOf l dC dI H.size hLK A hA F19 a0 w12 ha0 (⟨by omega, by omega⟩) hI) (cwV 1 hts (ax_gV T_1081 T_1083 T_1084 T_265 T_1082) rfl rfl rfl (by decide +kernel) ⟨Nat.le_of_ble_eq_true rfl, Nat.le_of_ble_eq_true rfl⟩) ⟨fun a U g mk q => ⟨q.1, s_pc rfl rfl q.2⟩, s_recv hK hP (hLK _ ha0 (by decide)) (ci := 7) rfl oY20, fun U hU hW => ⟨rfl, s_pw hU hW hP hK hD hN⟩⟩ rfl rfl hl.1 rfl (lv_room (Nat.le_of_ble_eq_true rfl)) dX7_clashes_25 ⟨Nat.zero_le _, Nat.zero_le _⟩) hS (fun q _ h => h) (fun q h => h) (fun r25 F26 t H1 locs ht hvm hw hB hz1 hk1 hS => ?_)
          obtain ⟨hP, hK1⟩ := hB
          rw [ht] at hP
          generalize H1 = H at hP hS ⊢
          obtain ⟨h27, h29, hI, hfr1, hzf, h28⟩ := hw
          have oY30 : F26 a0 = .inr (7, y_fl A z0 q0) := (hfr1 _ (by rw [ha0]; decide)).trans oY20
          have hfr : ∀ b, K b ∉ ([] : List Nat) → F26 b = F b := fun b hb9 => (hfr1 b (fun q => hb9 (s_sub (by decide) q))).trans (hfr b hb9)
          refine lv_iload_n hx hb dX7_clashes_28 rfl (lv_at hl 3 rfl) ?_
          refine lv_icmp_ne (tgt := 45) hx hb dX7_clashes_29 (by decide) (fun c31 => ?_) (fun c31 => ?_)
          · have c31 := mt Int32.toInt_inj.symm.mpr c31
            exact K45 _ _ _ ⟨F26, _, w11, rfl, lv_sub hl [0, 1, 2, 3, 4, 5] rfl, hP, hS, hI, hfr, (fun k hk => (y_fiZ oY30 (s_sub (by decide) hk)).trans (hz0 k hk)), trivial, ⟨by omega, by have q9 := th_hi w1; omega⟩, ⟨by omega, by omega⟩, ⟨by omega, by omega⟩⟩
          · have c31 := Int32.toInt_inj.symm.mp c31
            refine lv_aload_n hx hb dX7_clashes_32 rfl (lv_at hl 0 rfl) ?_
            refine lv_iload_n hx hb dX7_clashes_33 rfl (lv_at hl 1 rfl) ?_
            refine lv_iload hx hb dX7_clashes_34 (lv_at hl 5 rfl) ?_
            refine va_calli (va_runV (As := [.int x1, .int w12]) (rest := []) ⟨hx, hb, hml, hown, hts⟩ (y_X7_isAsked l dC dI H.size hLK A hA F26 a0 x1 w12 ha0 (⟨by omega, by omega⟩) hI) (cwV 2 hts (ax_gV T_1085 T_1087 T_1088 T_265 T_1086) rfl rfl rfl (by decide +kernel) ⟨Nat.le_of_ble_eq_true rfl, Nat.le_of_ble_eq_true rfl⟩) ⟨fun a U g mk q => ⟨q.1, s_pc rfl rfl q.2⟩, s_recv hK hP (hLK _ ha0 (by decide)) (ci := 7) rfl oY30, fun U hU hW => ⟨rfl, s_pw hU hW hP hK hD hN⟩⟩ rfl rfl hl.1 rfl (lv_room (Nat.le_of_ble_eq_true rfl)) dX7_clashes_36 ⟨Nat.zero_le _, Nat.zero_le _⟩) hS (fun q _ h => h) (fun q h => h) (fun r33 F34 t H1 locs ht hvm hw hB hz1 hk1 hS => ?_)
            obtain ⟨hP, hK1⟩ := hB
            rw [ht] at hP
            generalize H1 = H at hP hS ⊢
            obtain ⟨h35, h37, hI, hfr1, hzf, h36⟩ := hw
            have oY38 : F34 a0 = .inr (7, y_fl A z0 q0) := (hfr1 _ (by rw [ha0]; decide)).trans oY30
            have hfr : ∀ b, K b ∉ ([] : List Nat) → F34 b = F b := fun b hb9 => (hfr1 b (fun q => hb9 (s_sub (by decide) q))).trans (hfr b hb9)
            refine lv_if_eq (tgt := 45) hx hb dX7_clashes_39 (by decide) (fun c39 => ?_) (fun c39 => ?_)
            · have c39 := (ax_eq (n := 0) (by decide)).mp c39
              exact K45 _ _ _ ⟨F34, _, w11, rfl, lv_sub hl [0, 1, 2, 3, 4, 5] rfl, hP, hS, hI, hfr, (fun k hk => (y_fiZ oY38 (s_sub (by decide) hk)).trans (hz0 k hk)), trivial, ⟨by omega, by have q9 := th_hi w1; omega⟩, ⟨by omega, by omega⟩, ⟨by omega, by omega⟩⟩
            · have c39 := mt (ax_eq (n := 0) (by decide)).mpr c39
              obtain ⟨v40, ev40⟩ : ∃ y : Int32, w11 + 1 = y := ⟨_, rfl⟩
              refine lv_iinc (v := v40) (lv' := [(4, .int v40), (0, .ref a0), (1, .int x1), (2, .int w1), (3, .int w2), (5, .int w12)]) hx hb dX7_clashes_42 hl (k := 4) rfl ev40 (by decide) rfl (fun ls hl => ?_)
              exact K45 _ _ _ ⟨F34, _, v40, rfl, lv_sub hl [1, 2, 3, 4, 0, 5] rfl, hP, hS, hI, hfr, (fun k hk => (y_fiZ oY38 (s_sub (by decide) hk)).trans (hz0 k hk)), trivial, ⟨by omega, by have q9 := th_hi w1; omega⟩, ⟨by omega, by omega⟩, ⟨by omega, by omega⟩⟩
      · intro g H locs hq
        obtain ⟨F45, ls, w21, rfl, hl, hP, hS, hI, hfr, hz0, h41, h42, h43, h44⟩ := hq
        have oY46 : F45 a0 = .inr (7, y_fl A z0 q0) := (hfr _ (by rw [ha0]; decide)).trans oY0
        have hz0 : ∀ k, k ∈ ([1, 2, 3, 4, 5, 6, 7, 8, 11, 15, 16, 19, 25, 26, 27, 31, 32] : List Nat) → z0 k = z0 k := fun _ _ => rfl
        obtain ⟨v47, ev47⟩ : ∃ y : Int32, w12 + 1 = y := ⟨_, rfl⟩
        have qv47 : v47.toInt = w12.toInt + 1 := by rw [← ev47]; exact th_add rfl (by decide) ⟨by omega, by omega⟩
        refine lv_iinc (v := v47) (lv' := [(5, .int v47), (0, .ref a0), (1, .int x1), (2, .int w1), (3, .int w2), (4, .int w21)]) hx hb dX7_clashes_45 hl (k := 5) rfl ev47 (by decide) rfl (fun ls hl => ?_)
        refine lv_goto (tgt := 15) hx hb dX7_clashes_48 (by decide) ?_
        exact ih15 _ _ _ _ (by omega) ⟨F45, _, w21, v47, rfl, lv_sub hl [1, 2, 3, 4, 5, 0] rfl, hP, hS, hI, hfr, (fun k hk => (y_fiZ oY46 (s_sub (by decide) hk)).trans (hz0 k hk)), trivial, ⟨by omega, by omega⟩, ⟨by omega, by have q9 := th_hi w1; omega⟩, ⟨by omega, by omega⟩, rfl⟩
  · intro g H locs hq
    obtain ⟨F50, ls, w9, rfl, hl, hP, hS, hI, hfr, hz0, h48, h49⟩ := hq
    have oY51 : F50 a0 = .inr (7, y_fl A z0 q0) := (hfr _ (by rw [ha0]; decide)).trans oY0
    have hz0 : ∀ k, k ∈ ([1, 2, 3, 4, 5, 6, 7, 8, 11, 15, 16, 19, 25, 26, 27, 31, 32] : List Nat) → z0 k = z0 k := fun _ _ => rfl
    obtain ⟨v52, ev52⟩ : ∃ y : Int32, w2 + 1 = y := ⟨_, rfl⟩
    have qv52 : v52.toInt = w2.toInt + 1 := by rw [← ev52]; exact th_add rfl (by decide) ⟨by omega, by omega⟩
    refine lv_iinc (v := v52) (lv' := [(3, .int v52), (0, .ref a0), (1, .int x1), (2, .int w9)]) hx hb dX7_clashes_60 hl (k := 3) rfl ev52 (by decide) rfl (fun ls hl => ?_)
    refine lv_goto (tgt := 4) hx hb dX7_clashes_63 (by decide) ?_
    exact ih4 _ _ _ _ (by omega) ⟨F50, _, w9, v52, rfl, lv_sub hl [1, 2, 3, 0] rfl, hP, hS, hI, hfr, (fun k hk => (y_fiZ oY51 (s_sub (by decide) hk)).trans (hz0 k hk)), ⟨by omega, by have q9 := th_hi w9; omega⟩, ⟨by omega, by omega⟩, rfl⟩

set_option maxHeartbeats 4000000 in
set_option maxRecDepth 100000 in
theorem yt_X7_takes0 (l : Launch) (dC : Nat → ClassId) (dI : Nat → Nat → Nat) (sz : Nat) {L : List Nat} {K : Nat → Nat} {cs : Nat → ClassId} (hLK : ∀ a {k : Nat}, K a = k → k ≠ 0 → a ∈ L) (A : Nat → Nat) (hA : y_A K A) (F : Nat → va_E) (a0 : Nat) (x1 : Int32) (x2 : Int32) (x3 : Int32) (ha0 : K a0 = 9) (hx1 : 0 ≤ x1.toInt ∧ x1.toInt ≤ 3) (hx2 : 0 ≤ x2.toInt ∧ x2.toInt ≤ 39) (hI : y_I K cs A F) (hPG : y_PG (y_at F (A 13))) (hln : (x2.toInt < (y_c (y_at F (A 13)) 387).toInt)) : Met l yX7_takes0 (Cond.code yX7_takes0 cX7_takes0 7 (some .int) :: T0) ({ frames := 4, cells := 0, slots := 0, locals := 89 }) (va_Pc [.ref a0, .int x1, .int x2, .int x3] (s_W dC dI sz L F [(cs 0, .int), (cs 1, .byte), (cs 2, .long), (cs 3, .object RX5), (cs 4, .object RX4), (cs 5, .array .int), (cs 6, .char), (cs 7, .boolean)])) (va_Qi (fun (r : Int32) (G : Nat → va_E) => True ∧ True ∧ y_I K cs A G ∧ (∀ b, K b ∉ [71, 72] → G b = F b) ∧ (∀ k, k ∈ ([1, 2, 3, 4, 5, 6, 7, 8, 11, 15, 16, 19, 25, 26, 27, 31, 32] : List Nat) → y_fi G a0 k = y_fi F a0 k) ∧ True) (fun (G : Nat → va_E) (t : State) => va_P (dC, dI) vwCl (va_pl L G) t.heap ∧ va_K (dC, dI) vwCl [(cs 0, .int), (cs 1, .byte), (cs 2, .long), (cs 3, .object RX5), (cs 4, .object RX4), (cs 5, .array .int), (cs 6, .char), (cs 7, .boolean)] t) (fun q => q ∈ L)) 0 0 (fun q => q ∈ L) := by
  refine Met.ofW (cc := cX7_takes0) (maxL := 7) (ret := (some .int)) (by decide) rfl ?_
  intro p e s m args below meth c s₁ B hml hv
  obtain ⟨rfl, hsz, hP, hK, hD, hN⟩ := hv
  have hx := B.exec
  have hb := B.bytes
  have hr := B.returns
  have hts : ∀ w ∈ T0, w.before _ s = true := fun w h => atoms_spec (ws := Cond.code yX7_takes0 cX7_takes0 7 (some .int) :: T0) B.pre w (List.mem_cons_of_mem _ h)
  have hown : s.vm.findClass RX7 = some m.cls := findClass_of_methodNamed B.named
  have hlocks := B.notSynchronized
  have hS : va_S (fun q => q ∈ L) s.heap s.heap [] := va_S.rf
  have hfr : ∀ b, K b ∉ [71, 72] → F b = F b := fun _ _ => rfl
  have hl := lv_entry ([.ref a0, .int x1, .int x2, .int x3]) (n := 7) (Nat.le_of_ble_eq_true rfl)
  rw [lg_entry_eq]
  generalize (lg_sl ([.ref a0, .int x1, .int x2, .int x3]) ++ List.replicate (7 - (lg_sl ([.ref a0, .int x1, .int x2, .int x3])).length) Slot.unset).toArray = ls at hl ⊢
  have hl : lv_has ls 7 [(0, .ref a0), (1, .int x1), (2, .int x2), (3, .int x3)] := hl
  refine s_gen hP hS (fun H locs hP hS => ?_)
  obtain ⟨z0, q0, oY0, bz0, bq0⟩ := y_opY hI ha0
  have hz0 : ∀ k, k ∈ ([1, 2, 3, 4, 5, 6, 7, 8, 11, 15, 16, 19, 25, 26, 27, 31, 32] : List Nat) → z0 k = z0 k := fun _ _ => rfl
  obtain ⟨f1, o2, b3⟩ := y_op13 hI
  have hPG : y_PG f1 := by have q9 := hPG; rw [y_atE o2] at q9; exact q9
  have hln : (x2.toInt < (y_c f1 387).toInt) := by have q9 := hln; rw [y_atE o2] at q9; exact q9
  have hL := y_P0L hPG.1
  have hW := y_P0W hPG.1
  refine th_join (fun g H locs => ∃ (G : Nat → va_E) (ls : Array Slot), g = F0 m 51 ls [] ∧ lv_has ls 7 [(0, .ref a0), (3, .int x3)] ∧ va_P (dC, dI) vwCl (va_pl L G) H ∧ va_S (fun q => q ∈ L) s.heap H locs ∧ y_I K cs A G ∧ (∀ b, K b ∉ [71, 72] → G b = F b) ∧ (∀ k, k ∈ ([1, 2, 3, 4, 5, 6, 7, 8, 11, 15, 16, 19, 25, 26, 27, 31, 32] : List Nat) → y_fi G a0 k = z0 k)) (fun K51 => ?_) ?_
  refine th_join (fun g H locs => ∃ (G : Nat → va_E) (ls : Array Slot), g = F0 m 29 ls [] ∧ lv_has ls 7 [(0, .ref a0), (3, .int x3)] ∧ va_P (dC, dI) vwCl (va_pl L G) H ∧ va_S (fun q => q ∈ L) s.heap H locs ∧ y_I K cs A G ∧ (∀ b, K b ∉ [71, 72] → G b = F b) ∧ (∀ k, k ∈ ([1, 2, 3, 4, 5, 6, 7, 8, 11, 15, 16, 19, 25, 26, 27, 31, 32] : List Nat) → y_fi G a0 k = z0 k)) (fun K29 => ?_) ?_
  · refine lv_aload_n hx hb dX7_takes0_0 rfl (lv_at hl 0 rfl) ?_
    refine lv_iload_n hx hb dX7_takes0_1 rfl (lv_at hl 2 rfl) ?_
    refine lv_iconst (v := 0) hx hb dX7_takes0_2 (by decide) ?_
    refine va_calli (va_runV (As := [.int x2, .int 0]) (rest := []) ⟨hx, hb, hml, hown, hts⟩ (y_X7_of l dC dI H.size hLK A hA F a0 x2 0 ha0 (⟨by omega, by omega⟩) (by decide) hI) (cwV 2 hts (ax_gV T_1131 T_1133 T_1134 T_265 T_1132) rfl rfl rfl (by decide +kernel) ⟨Nat.le_of_ble_eq_true rfl, Nat.le_of_ble_eq_true rfl⟩) ⟨fun a U g mk q => ⟨q.1, s_pc rfl rfl q.2⟩, s_recv hK hP (hLK _ ha0 (by decide)) (ci := 7) rfl oY0, fun U hU hW => ⟨rfl, s_pw hU hW hP hK hD hN⟩⟩ rfl rfl hl.1 rfl (lv_room (Nat.le_of_ble_eq_true rfl)) dX7_takes0_3 ⟨Nat.zero_le _, Nat.zero_le _⟩) hS (fun q _ h => h) (fun q h => h) (fun r5 F6 t H1 locs ht hvm hw hB hz1 hk1 hS => ?_)
    obtain ⟨hP, hK1⟩ := hB
    rw [ht] at hP
    generalize H1 = H at hP hS ⊢
    obtain ⟨h7, h9, hI, hfr1, hzf, h8⟩ := hw
    have o10 : F6 (A 13) = .inl (cs 0, 400, .inl f1) := (hfr1 _ (by rw [(y_k13 hA)]; decide)).trans o2
    have oY11 : F6 a0 = .inr (7, y_fl A z0 q0) := (hfr1 _ (by rw [ha0]; decide)).trans oY0
    have hfr : ∀ b, K b ∉ [71, 72] → F6 b = F b := fun b hb9 => (hfr1 b (fun q => hb9 (s_sub (by decide) q))).trans (hfr b hb9)
    have h8 : (r5 = y_c f1 (8 * x2.toInt + 0)) := by have q9 := h8; rw [y_atE o2] at q9; exact q9
    have h8 : r5 = y_c f1 (8 * x2.toInt) := h8.trans (congrArg (y_c f1) (by omega))
    have h12 := congrArg Int32.toInt h8
    refine lv_istore (lv' := [(4, .int r5), (0, .ref a0), (1, .int x1), (2, .int x2), (3, .int x3)]) hx hb dX7_takes0_6 hl (by decide) rfl (fun ls hl => ?_)
    refine lv_aload_n hx hb dX7_takes0_8 rfl (lv_at hl 1 rfl) ?_
    refine lv_iload_n hx hb dX7_takes0_9 rfl (lv_at hl 2 rfl) ?_
    refine lv_iload_n hx hb dX7_takes0_10 rfl (lv_at hl 3 rfl) ?_
    refine lv_iload_n hx hb dX7_takes0_11 rfl (lv_at hl 4 rfl) ?_
    refine va_callv (va_runV (As := [.int x1, .int x2, .int x3]) (rest := []) ⟨hx, hb, hml, hown, hts⟩ (y_X7_reads l dC dI H.size hLK A hA F6 a0 x1 x2 x3 ha0 (⟨by omega, by omega⟩) (⟨by omega, by omega⟩) hI (by rw [y_atE o10]; exact hPG) (by first | (rw [y_atE o10]; omega) | rw [y_atE o10])) (cwV 3 hts (ax_gV T_1318 T_1320 T_1321 T_265 T_1319) rfl rfl rfl (by decide +kernel) ⟨Nat.le_of_ble_eq_true rfl, Nat.le_of_ble_eq_true rfl⟩) ⟨fun a U g mk q => ⟨q.1, s_pc rfl rfl q.2⟩, s_recv hK hP (hLK _ ha0 (by decide)) (ci := 7) rfl oY11, fun U hU hW => ⟨rfl, s_pw hU hW hP hK hD hN⟩⟩ rfl rfl hl.1 rfl (lv_room (Nat.le_of_ble_eq_true rfl)) dX7_takes0_12 ⟨Nat.zero_le _, Nat.zero_le _⟩) hS (fun q _ h => h) (fun q h => h) (fun F14 t H1 locs ht hvm hw hB hz1 hk1 hS => ?_)
    obtain ⟨hP, hK1⟩ := hB
    rw [ht] at hP
    generalize H1 = H at hP hS ⊢
    obtain ⟨h15, h17, hI, hfr1, hzf, h16⟩ := hw
    have o18 : F14 (A 13) = .inl (cs 0, 400, .inl f1) := (hfr1 _ (by rw [(y_k13 hA)]; decide)).trans o10
    have oY19 : F14 a0 = .inr (7, y_fl A z0 q0) := (hfr1 _ (by rw [ha0]; decide)).trans oY11
    have hfr : ∀ b, K b ∉ [71, 72] → F14 b = F b := fun b hb9 => (hfr1 b (fun q => hb9 (s_sub (by decide) q))).trans (hfr b hb9)
    refine lv_iload hx hb dX7_takes0_15 (lv_at hl 0 rfl) ?_
    refine lv_bipush (v := 7) hx hb dX7_takes0_17 (by decide) ?_
    refine lv_icmp_eq (tgt := 29) hx hb dX7_takes0_19 (by decide) (fun c20 => ?_) (fun c20 => ?_)
    · have c20 := (ax_eq (n := 7) (by decide)).mp c20
      exact K29 _ _ _ ⟨F14, _, rfl, lv_sub hl [1, 4] rfl, hP, hS, hI, hfr, (fun k hk => (y_fiZ oY19 (s_sub (by decide) hk)).trans (hz0 k hk))⟩
    · have c20 := mt (ax_eq (n := 7) (by decide)).mpr c20
      refine lv_iload hx hb dX7_takes0_22 (lv_at hl 0 rfl) ?_
      refine lv_bipush (v := 8) hx hb dX7_takes0_24 (by decide) ?_
      refine lv_icmp_ne (tgt := 37) hx hb dX7_takes0_26 (by decide) (fun c21 => ?_) (fun c21 => ?_)
      · have c21 := mt (ax_eq (n := 8) (by decide)).mpr c21
        refine lv_iload hx hb dX7_takes0_37 (lv_at hl 0 rfl) ?_
        refine lv_bipush (v := 9) hx hb dX7_takes0_39 (by decide) ?_
        refine lv_icmp_eq (tgt := 51) hx hb dX7_takes0_41 (by decide) (fun c22 => ?_) (fun c22 => ?_)
        · have c22 := (ax_eq (n := 9) (by decide)).mp c22
          exact K51 _ _ _ ⟨F14, _, rfl, lv_sub hl [1, 4] rfl, hP, hS, hI, hfr, (fun k hk => (y_fiZ oY19 (s_sub (by decide) hk)).trans (hz0 k hk))⟩
        · have c22 := mt (ax_eq (n := 9) (by decide)).mpr c22
          refine lv_iload hx hb dX7_takes0_44 (lv_at hl 0 rfl) ?_
          refine lv_bipush (v := 10) hx hb dX7_takes0_46 (by decide) ?_
          refine lv_icmp_ne (tgt := 57) hx hb dX7_takes0_48 (by decide) (fun c23 => ?_) (fun c23 => ?_)
          · have c23 := mt (ax_eq (n := 10) (by decide)).mpr c23
            refine lv_iload hx hb dX7_takes0_57 (lv_at hl 0 rfl) ?_
            refine lv_bipush (v := 11) hx hb dX7_takes0_59 (by decide) ?_
            refine lv_icmp_eq (tgt := 66) hx hb dX7_takes0_61 (by decide) (fun c24 => ?_) (fun c24 => ?_)
            · have c24 := (ax_eq (n := 11) (by decide)).mp c24
              refine lv_iconst (v := 0) hx hb dX7_takes0_66 (by decide) ?_
              refine lv_istore (lv' := [(5, .int 0), (4, .int r5), (0, .ref a0), (1, .int x1), (2, .int x2), (3, .int x3)]) hx hb dX7_takes0_67 hl (by decide) rfl (fun ls hl => ?_)
              refine lv_iconst (v := 0) hx hb dX7_takes0_69 (by decide) ?_
              refine lv_istore (lv' := [(6, .int 0), (5, .int 0), (4, .int r5), (0, .ref a0), (1, .int x1), (2, .int x2), (3, .int x3)]) hx hb dX7_takes0_70 hl (by decide) rfl (fun ls hl => ?_)
              have h27 : (0 : Int32).toInt = 0 := by decide
              have h28 : (0 : Int32).toInt = 0 := by decide
              refine th_loop (fun n g H locs => ∃ (G : Nat → va_E) (ls : Array Slot) (w25 : Int32) (w26 : Int32), g = F0 m 72 ls [] ∧ lv_has ls 7 [(3, .int x3), (5, .int w25), (6, .int w26)] ∧ va_P (dC, dI) vwCl (va_pl L G) H ∧ va_S (fun q => q ∈ L) s.heap H locs ∧ y_I K cs A G ∧ (∀ b, K b ∉ [71, 72] → G b = F b) ∧ (∀ k, k ∈ ([1, 2, 3, 4, 5, 6, 7, 8, 11, 15, 16, 19, 25, 26, 27, 31, 32] : List Nat) → y_fi G a0 k = z0 k) ∧ True ∧ (0 ≤ w26.toInt ∧ w26.toInt ≤ 8) ∧ n = (9 - w26.toInt).toNat) _ ⟨F14, _, 0, 0, rfl, lv_sub hl [6, 1, 0] rfl, hP, hS, hI, hfr, (fun k hk => (y_fiZ oY19 (s_sub (by decide) hk)).trans (hz0 k hk)), trivial, (by decide), rfl⟩ (fun n ih72 g H locs hq => ?_)
              obtain ⟨F31, ls, w25, w26, rfl, hl, hP, hS, hI, hfr, hz0, h29, h30, hn⟩ := hq
              have o32 : F31 (A 13) = .inl (cs 0, 400, .inl f1) := (hfr _ (by rw [(y_k13 hA)]; decide)).trans o2
              have oY33 : F31 a0 = .inr (7, y_fl A z0 q0) := (hfr _ (by rw [ha0]; decide)).trans oY0
              have hz0 : ∀ k, k ∈ ([1, 2, 3, 4, 5, 6, 7, 8, 11, 15, 16, 19, 25, 26, 27, 31, 32] : List Nat) → z0 k = z0 k := fun _ _ => rfl
              have hn_33 := hn
              refine lv_iload hx hb dX7_takes0_72 (lv_at hl 2 rfl) ?_
              refine lv_bipush (v := 8) hx hb dX7_takes0_74 (by decide) ?_
              refine lv_icmp_ge (tgt := 96) hx hb dX7_takes0_76 (by decide) (fun c34 => ?_) (fun c34 => ?_)
              · have c34 := (ax_ge (n := 8) (by decide)).mp c34
                refine lv_iload hx hb dX7_takes0_96 (lv_at hl 1 rfl) ?_
                exact W.iret (v := w25) hx hb hr (fun t ht hW => ⟨⟨w25, F31, rfl, ⟨trivial, trivial, hI, hfr, fun k hk => (y_fiZ oY33 (s_sub (by decide) hk)).trans ((hz0 k hk).trans (y_fiZ oY0 (s_sub (by decide) hk)).symm), trivial⟩, by rw [ht]; exact hP, va_K.moved hW.alike hK⟩, hS.F ht⟩) hS.2.2 dX7_takes0_98
              · have c34 := mt (ax_ge (n := 8) (by decide)).mpr c34
                refine lv_iload hx hb dX7_takes0_79 (lv_at hl 1 rfl) ?_
                refine lv_iload_n hx hb dX7_takes0_81 rfl (lv_at hl 0 rfl) ?_
                refine lv_iload hx hb dX7_takes0_82 (lv_at hl 2 rfl) ?_
                refine lv_ishr hx hb dX7_takes0_84 ?_
                refine lv_topi (fun v35 ev35 => ?_)
                refine lv_iconst (v := 1) hx hb dX7_takes0_85 (by decide) ?_
                refine lv_iand hx hb dX7_takes0_86 ?_
                refine lv_topi (fun v36 ev36 => ?_)
                have qv36 : 0 ≤ v36.toInt ∧ v36.toInt ≤ 1 := by rw [ev36]; exact th_and 1 (by decide) (by decide)
                refine lv_iadd hx hb dX7_takes0_87 ?_
                refine lv_topi (fun v37 ev37 => ?_)
                refine lv_istore (lv' := [(5, .int v37), (3, .int x3), (6, .int w26)]) hx hb dX7_takes0_88 hl (by decide) rfl (fun ls hl => ?_)
                obtain ⟨v38, ev38⟩ : ∃ y : Int32, w26 + 1 = y := ⟨_, rfl⟩
                have qv38 : v38.toInt = w26.toInt + 1 := by rw [← ev38]; exact th_add rfl (by decide) ⟨by omega, by omega⟩
                refine lv_iinc (v := v38) (lv' := [(6, .int v38), (5, .int v37), (3, .int x3)]) hx hb dX7_takes0_90 hl (k := 2) rfl ev38 (by decide) rfl (fun ls hl => ?_)
                refine lv_goto (tgt := 72) hx hb dX7_takes0_93 (by decide) ?_
                exact ih72 _ _ _ _ (by omega) ⟨F31, _, v37, v38, rfl, lv_sub hl [2, 1, 0] rfl, hP, hS, hI, hfr, (fun k hk => (y_fiZ oY33 (s_sub (by decide) hk)).trans (hz0 k hk)), trivial, ⟨by omega, by omega⟩, rfl⟩
            · have c24 := mt (ax_eq (n := 11) (by decide)).mpr c24
              refine lv_iconst (v := 1) hx hb dX7_takes0_64 (by decide) ?_
              have h39 : (1 : Int32).toInt = 1 := by decide
              exact W.iret (v := 1) hx hb hr (fun t ht hW => ⟨⟨1, F14, rfl, ⟨trivial, trivial, hI, hfr, fun k hk => (y_fiZ oY19 (s_sub (by decide) hk)).trans ((hz0 k hk).trans (y_fiZ oY0 (s_sub (by decide) hk)).symm), trivial⟩, by rw [ht]; exact hP, va_K.moved hW.alike hK⟩, hS.F ht⟩) hS.2.2 dX7_takes0_65
          · have c23 := (ax_eq (n := 10) (by decide)).mp c23
            exact K51 _ _ _ ⟨F14, _, rfl, lv_sub hl [1, 4] rfl, hP, hS, hI, hfr, (fun k hk => (y_fiZ oY19 (s_sub (by decide) hk)).trans (hz0 k hk))⟩
      · have c21 := (ax_eq (n := 8) (by decide)).mp c21
        exact K29 _ _ _ ⟨F14, _, rfl, lv_sub hl [1, 4] rfl, hP, hS, hI, hfr, (fun k hk => (y_fiZ oY19 (s_sub (by decide) hk)).trans (hz0 k hk))⟩
  · intro g H locs hq
    obtain ⟨F40, ls, rfl, hl, hP, hS, hI, hfr, hz0⟩ := hq
    have o41 : F40 (A 13) = .inl (cs 0, 400, .inl f1) := (hfr _ (by rw [(y_k13 hA)]; decide)).trans o2
    have oY42 : F40 a0 = .inr (7, y_fl A z0 q0) := (hfr _ (by rw [ha0]; decide)).trans oY0
    have hz0 : ∀ k, k ∈ ([1, 2, 3, 4, 5, 6, 7, 8, 11, 15, 16, 19, 25, 26, 27, 31, 32] : List Nat) → z0 k = z0 k := fun _ _ => rfl
    refine lv_iconst (v := 2) hx hb dX7_takes0_29 (by decide) ?_
    refine lv_aload_n hx hb dX7_takes0_30 rfl (lv_at hl 0 rfl) ?_
    refine lv_iload_n hx hb dX7_takes0_31 rfl (lv_at hl 1 rfl) ?_
    refine va_calli (va_runV (As := [.int x3]) (rest := [.int 2]) ⟨hx, hb, hml, hown, hts⟩ (y_X7_segments l dC dI H.size hLK A hA F40 a0 x3 ha0 hI) (cwV 1 hts (ax_gV T_1322 T_1324 T_1325 T_265 T_1323) rfl rfl rfl (by decide +kernel) ⟨Nat.le_of_ble_eq_true rfl, Nat.le_of_ble_eq_true rfl⟩) ⟨fun a U g mk q => ⟨q.1, s_pc rfl rfl q.2⟩, s_recv hK hP (hLK _ ha0 (by decide)) (ci := 7) rfl oY42, fun U hU hW => ⟨rfl, s_pw hU hW hP hK hD hN⟩⟩ rfl rfl hl.1 rfl (lv_room (Nat.le_of_ble_eq_true rfl)) dX7_takes0_32 ⟨Nat.zero_le _, Nat.zero_le _⟩) hS (fun q _ h => h) (fun q h => h) (fun r44 F45 t H1 locs ht hvm hw hB hz1 hk1 hS => ?_)
    obtain ⟨hP, hK1⟩ := hB
    rw [ht] at hP
    generalize H1 = H at hP hS ⊢
    obtain ⟨h46, h48, hI, hfr1, hzf, h47⟩ := hw
    have o49 : F45 (A 13) = .inl (cs 0, 400, .inl f1) := (hfr1 _ (by rw [(y_k13 hA)]; decide)).trans o41
    have oY50 : F45 a0 = .inr (7, y_fl A z0 q0) := (hfr1 _ (by rw [ha0]; decide)).trans oY42
    have hfr : ∀ b, K b ∉ [71, 72] → F45 b = F b := fun b hb9 => (hfr1 b (fun q => hb9 (s_sub (by decide) q))).trans (hfr b hb9)
    refine lv_iadd hx hb dX7_takes0_35 ?_
    refine lv_topi (fun v51 ev51 => ?_)
    exact W.iret (v := v51) hx hb hr (fun t ht hW => ⟨⟨v51, F45, rfl, ⟨trivial, trivial, hI, hfr, fun k hk => (y_fiZ oY50 (s_sub (by decide) hk)).trans ((hz0 k hk).trans (y_fiZ oY0 (s_sub (by decide) hk)).symm), trivial⟩, by rw [ht]; exact hP, va_K.moved hW.alike hK⟩, hS.F ht⟩) hS.2.2 dX7_takes0_36
  · intro g H locs hq
    obtain ⟨F52, ls, rfl, hl, hP, hS, hI, hfr, hz0⟩ := hq
    have o53 : F52 (A 13) = .inl (cs 0, 400, .inl f1) := (hfr _ (by rw [(y_k13 hA)]; decide)).trans o2
    have oY54 : F52 a0 = .inr (7, y_fl A z0 q0) := (hfr _ (by rw [ha0]; decide)).trans oY0
    have hz0 : ∀ k, k ∈ ([1, 2, 3, 4, 5, 6, 7, 8, 11, 15, 16, 19, 25, 26, 27, 31, 32] : List Nat) → z0 k = z0 k := fun _ _ => rfl
    refine lv_aload_n hx hb dX7_takes0_51 rfl (lv_at hl 0 rfl) ?_
    refine lv_iload_n hx hb dX7_takes0_52 rfl (lv_at hl 1 rfl) ?_
    refine va_calli (va_runV (As := [.int x3]) (rest := []) ⟨hx, hb, hml, hown, hts⟩ (y_X7_clashes l dC dI H.size hLK A hA F52 a0 x3 ha0 hI) (cwV 1 hts (ax_gV T_1326 T_1328 T_1329 T_265 T_1327) rfl rfl rfl (by decide +kernel) ⟨Nat.le_of_ble_eq_true rfl, Nat.le_of_ble_eq_true rfl⟩) ⟨fun a U g mk q => ⟨q.1, s_pc rfl rfl q.2⟩, s_recv hK hP (hLK _ ha0 (by decide)) (ci := 7) rfl oY54, fun U hU hW => ⟨rfl, s_pw hU hW hP hK hD hN⟩⟩ rfl rfl hl.1 rfl (lv_room (Nat.le_of_ble_eq_true rfl)) dX7_takes0_53 ⟨Nat.zero_le _, Nat.zero_le _⟩) hS (fun q _ h => h) (fun q h => h) (fun r56 F57 t H1 locs ht hvm hw hB hz1 hk1 hS => ?_)
    obtain ⟨hP, hK1⟩ := hB
    rw [ht] at hP
    generalize H1 = H at hP hS ⊢
    obtain ⟨h58, h60, hI, hfr1, hzf, h59⟩ := hw
    have o61 : F57 (A 13) = .inl (cs 0, 400, .inl f1) := (hfr1 _ (by rw [(y_k13 hA)]; decide)).trans o53
    have oY62 : F57 a0 = .inr (7, y_fl A z0 q0) := (hfr1 _ (by rw [ha0]; decide)).trans oY54
    have hfr : ∀ b, K b ∉ [71, 72] → F57 b = F b := fun b hb9 => (hfr1 b (fun q => hb9 (s_sub (by decide) q))).trans (hfr b hb9)
    exact W.iret (v := r56) hx hb hr (fun t ht hW => ⟨⟨r56, F57, rfl, ⟨trivial, trivial, hI, hfr, fun k hk => (y_fiZ oY62 (s_sub (by decide) hk)).trans ((hz0 k hk).trans (y_fiZ oY0 (s_sub (by decide) hk)).symm), trivial⟩, by rw [ht]; exact hP, va_K.moved hW.alike hK⟩, hS.F ht⟩) hS.2.2 dX7_takes0_56

set_option maxHeartbeats 4000000 in
set_option maxRecDepth 100000 in
theorem yt_X7_made (l : Launch) (dC : Nat → ClassId) (dI : Nat → Nat → Nat) (sz : Nat) {L : List Nat} {cs : Nat → ClassId} (F : Nat → va_E) (x0 : Int32) (x1 : Int32) (x2 : Int32) (hx0 : 0 ≤ x0.toInt ∧ x0.toInt ≤ 15) : Met l yX7_made (Cond.code yX7_made cX7_made 3 (some .int) :: T0) ({ frames := 1, cells := 0, slots := 0, locals := 24 }) (va_Pc [.int x0, .int x1, .int x2] (s_W dC dI sz L F [(cs 0, .int), (cs 1, .byte), (cs 2, .long), (cs 3, .object RX5), (cs 4, .object RX4), (cs 5, .array .int), (cs 6, .char), (cs 7, .boolean)])) (va_Qi (fun (r : Int32) (G : Nat → va_E) => True ∧ True ∧ G = F ∧ True) (fun (G : Nat → va_E) (t : State) => va_P (dC, dI) vwCl (va_pl L G) t.heap ∧ va_K (dC, dI) vwCl [(cs 0, .int), (cs 1, .byte), (cs 2, .long), (cs 3, .object RX5), (cs 4, .object RX4), (cs 5, .array .int), (cs 6, .char), (cs 7, .boolean)] t) (fun q => q ∈ L)) 0 0 (fun q => q ∈ L) := by
  refine Met.ofW (cc := cX7_made) (maxL := 3) (ret := (some .int)) (by decide) rfl ?_
  intro p e s m args below meth c s₁ B hml hv
  obtain ⟨rfl, hsz, hP, hK, hD, hN⟩ := hv
  have hx := B.exec
  have hb := B.bytes
  have hr := B.returns
  have hts : ∀ w ∈ T0, w.before _ s = true := fun w h => atoms_spec (ws := Cond.code yX7_made cX7_made 3 (some .int) :: T0) B.pre w (List.mem_cons_of_mem _ h)
  have hown : s.vm.findClass RX7 = some m.cls := findClass_of_methodNamed B.named
  have hlocks := B.notSynchronized
  have hS : va_S (fun q => q ∈ L) s.heap s.heap [] := va_S.rf
  have hl := lv_entry ([.int x0, .int x1, .int x2]) (n := 3) (Nat.le_of_ble_eq_true rfl)
  rw [lg_entry_eq]
  generalize (lg_sl ([.int x0, .int x1, .int x2]) ++ List.replicate (3 - (lg_sl ([.int x0, .int x1, .int x2])).length) Slot.unset).toArray = ls at hl ⊢
  have hl : lv_has ls 3 [(0, .int x0), (1, .int x1), (2, .int x2)] := hl
  refine s_gen hP hS (fun H locs hP hS => ?_)
  refine lv_iload_n hx hb dX7_made_0 rfl (lv_at hl 0 rfl) ?_
  by_cases c1 : x0 = 1
  · refine ax_eqi c1 ?_
    refine lv_tableIn (off := 31) (tgt := 32) hx hb dX7_made_1 (by decide) (by decide) (by decide) (by decide) ?_
    have c1 := (ax_eq (n := 1) (by decide)).mp c1
    refine lv_iload_n hx hb dX7_made_32 rfl (lv_at hl 1 rfl) ?_
    refine lv_i2l hx hb dX7_made_33 rfl ?_
    refine lv_topl (fun v2 ev2 => ?_)
    have qv2 : v2.toInt = x1.toInt := y_i2l ev2
    refine lv_iload_n hx hb dX7_made_34 rfl (lv_at hl 2 rfl) ?_
    refine lv_i2l hx hb dX7_made_35 rfl ?_
    refine lv_topl (fun v3 ev3 => ?_)
    have qv3 : v3.toInt = x2.toInt := y_i2l ev3
    refine lv_ladd hx hb dX7_made_36 ?_
    refine lv_topl (fun v4 ev4 => ?_)
    refine va_calli (va_runS (As := [.long v4]) (rest := []) ⟨hx, hb, hml, hown, hts⟩ (y_X7_bounded l dC dI H.size F v4) (cwS 1 hts (ax_gS T_1272 T_1274 T_265 T_1273) rfl rfl rfl (by decide +kernel) ⟨Nat.le_of_ble_eq_true rfl, Nat.le_of_ble_eq_true rfl⟩) ⟨fun a U g mk q => ⟨q.1, s_pc rfl rfl q.2⟩, fun U hU hW => ⟨rfl, s_pw hU hW hP hK hD hN⟩⟩ rfl rfl hl.1 rfl (lv_room (Nat.le_of_ble_eq_true rfl)) dX7_made_37 ⟨Nat.zero_le _, Nat.zero_le _⟩) hS (fun q _ h => h) (fun q h => h) (fun r6 F7 t H1 locs ht hvm hw hB hz1 hk1 hS => ?_)
    obtain ⟨hP, hK1⟩ := hB
    rw [ht] at hP
    generalize H1 = H at hP hS ⊢
    obtain ⟨h8, h10, hG9, h9⟩ := hw
    rw [hG9] at hP
    exact W.iret (v := r6) hx hb hr (fun t ht hW => ⟨⟨r6, F, rfl, ⟨trivial, trivial, rfl, trivial⟩, by rw [ht]; exact hP, va_K.moved hW.alike hK⟩, hS.F ht⟩) hS.2.2 dX7_made_40
  · have c1 := mt (ax_eq (n := 1) (by decide)).mpr c1
    by_cases c11 : x0 = 2
    · refine ax_eqi c11 ?_
      refine lv_tableIn (off := 40) (tgt := 41) hx hb dX7_made_1 (by decide) (by decide) (by decide) (by decide) ?_
      have c11 := (ax_eq (n := 2) (by decide)).mp c11
      refine lv_iload_n hx hb dX7_made_41 rfl (lv_at hl 1 rfl) ?_
      refine lv_i2l hx hb dX7_made_42 rfl ?_
      refine lv_topl (fun v12 ev12 => ?_)
      have qv12 : v12.toInt = x1.toInt := y_i2l ev12
      refine lv_iload_n hx hb dX7_made_43 rfl (lv_at hl 2 rfl) ?_
      refine lv_i2l hx hb dX7_made_44 rfl ?_
      refine lv_topl (fun v13 ev13 => ?_)
      have qv13 : v13.toInt = x2.toInt := y_i2l ev13
      refine lv_lsub hx hb dX7_made_45 ?_
      refine lv_topl (fun v14 ev14 => ?_)
      refine va_calli (va_runS (As := [.long v14]) (rest := []) ⟨hx, hb, hml, hown, hts⟩ (y_X7_bounded l dC dI H.size F v14) (cwS 1 hts (ax_gS T_1272 T_1274 T_265 T_1273) rfl rfl rfl (by decide +kernel) ⟨Nat.le_of_ble_eq_true rfl, Nat.le_of_ble_eq_true rfl⟩) ⟨fun a U g mk q => ⟨q.1, s_pc rfl rfl q.2⟩, fun U hU hW => ⟨rfl, s_pw hU hW hP hK hD hN⟩⟩ rfl rfl hl.1 rfl (lv_room (Nat.le_of_ble_eq_true rfl)) dX7_made_46 ⟨Nat.zero_le _, Nat.zero_le _⟩) hS (fun q _ h => h) (fun q h => h) (fun r16 F17 t H1 locs ht hvm hw hB hz1 hk1 hS => ?_)
      obtain ⟨hP, hK1⟩ := hB
      rw [ht] at hP
      generalize H1 = H at hP hS ⊢
      obtain ⟨h18, h20, hG9, h19⟩ := hw
      rw [hG9] at hP
      exact W.iret (v := r16) hx hb hr (fun t ht hW => ⟨⟨r16, F, rfl, ⟨trivial, trivial, rfl, trivial⟩, by rw [ht]; exact hP, va_K.moved hW.alike hK⟩, hS.F ht⟩) hS.2.2 dX7_made_49
    · have c11 := mt (ax_eq (n := 2) (by decide)).mpr c11
      by_cases c21 : x0 = 3
      · refine ax_eqi c21 ?_
        refine lv_tableIn (off := 49) (tgt := 50) hx hb dX7_made_1 (by decide) (by decide) (by decide) (by decide) ?_
        have c21 := (ax_eq (n := 3) (by decide)).mp c21
        refine lv_iload_n hx hb dX7_made_50 rfl (lv_at hl 1 rfl) ?_
        refine lv_i2l hx hb dX7_made_51 rfl ?_
        refine lv_topl (fun v22 ev22 => ?_)
        have qv22 : v22.toInt = x1.toInt := y_i2l ev22
        refine lv_iload_n hx hb dX7_made_52 rfl (lv_at hl 2 rfl) ?_
        refine lv_i2l hx hb dX7_made_53 rfl ?_
        refine lv_topl (fun v23 ev23 => ?_)
        have qv23 : v23.toInt = x2.toInt := y_i2l ev23
        refine lv_lmul hx hb dX7_made_54 ?_
        refine lv_topl (fun v24 ev24 => ?_)
        refine va_calli (va_runS (As := [.long v24]) (rest := []) ⟨hx, hb, hml, hown, hts⟩ (y_X7_bounded l dC dI H.size F v24) (cwS 1 hts (ax_gS T_1272 T_1274 T_265 T_1273) rfl rfl rfl (by decide +kernel) ⟨Nat.le_of_ble_eq_true rfl, Nat.le_of_ble_eq_true rfl⟩) ⟨fun a U g mk q => ⟨q.1, s_pc rfl rfl q.2⟩, fun U hU hW => ⟨rfl, s_pw hU hW hP hK hD hN⟩⟩ rfl rfl hl.1 rfl (lv_room (Nat.le_of_ble_eq_true rfl)) dX7_made_55 ⟨Nat.zero_le _, Nat.zero_le _⟩) hS (fun q _ h => h) (fun q h => h) (fun r26 F27 t H1 locs ht hvm hw hB hz1 hk1 hS => ?_)
        obtain ⟨hP, hK1⟩ := hB
        rw [ht] at hP
        generalize H1 = H at hP hS ⊢
        obtain ⟨h28, h30, hG9, h29⟩ := hw
        rw [hG9] at hP
        exact W.iret (v := r26) hx hb hr (fun t ht hW => ⟨⟨r26, F, rfl, ⟨trivial, trivial, rfl, trivial⟩, by rw [ht]; exact hP, va_K.moved hW.alike hK⟩, hS.F ht⟩) hS.2.2 dX7_made_58
      · have c21 := mt (ax_eq (n := 3) (by decide)).mpr c21
        by_cases c31 : x0 = 4
        · refine ax_eqi c31 ?_
          refine lv_tableIn (off := 58) (tgt := 59) hx hb dX7_made_1 (by decide) (by decide) (by decide) (by decide) ?_
          have c31 := (ax_eq (n := 4) (by decide)).mp c31
          refine lv_iload_n hx hb dX7_made_59 rfl (lv_at hl 2 rfl) ?_
          refine lv_if_gt (tgt := 67) hx hb dX7_made_60 (by decide) (fun c32 => ?_) (fun c32 => ?_)
          · have c32 := (ax_gt (n := 0) (by decide)).mp c32
            refine lv_iload_n hx hb dX7_made_67 rfl (lv_at hl 1 rfl) ?_
            refine lv_i2l hx hb dX7_made_68 rfl ?_
            refine lv_topl (fun v33 ev33 => ?_)
            have qv33 : v33.toInt = x1.toInt := y_i2l ev33
            refine lv_iload_n hx hb dX7_made_69 rfl (lv_at hl 2 rfl) ?_
            refine va_calli (va_runS (As := [.long v33, .int x2]) (rest := []) ⟨hx, hb, hml, hown, hts⟩ (y_X7_modulo l dC dI H.size F v33 x2 (⟨by omega, by have q9 := th_hi x2; omega⟩)) (cwS 2 hts (ax_gS T_1204 T_1206 T_265 T_1205) rfl rfl rfl (by decide +kernel) ⟨Nat.le_of_ble_eq_true rfl, Nat.le_of_ble_eq_true rfl⟩) ⟨fun a U g mk q => ⟨q.1, s_pc rfl rfl q.2⟩, fun U hU hW => ⟨rfl, s_pw hU hW hP hK hD hN⟩⟩ rfl rfl hl.1 rfl (lv_room (Nat.le_of_ble_eq_true rfl)) dX7_made_70 ⟨Nat.zero_le _, Nat.zero_le _⟩) hS (fun q _ h => h) (fun q h => h) (fun r35 F36 t H1 locs ht hvm hw hB hz1 hk1 hS => ?_)
            obtain ⟨hP, hK1⟩ := hB
            rw [ht] at hP
            generalize H1 = H at hP hS ⊢
            obtain ⟨h37, h39, hG9, h38⟩ := hw
            rw [hG9] at hP
            have h38 : (0 ≤ r35.toInt ∧ r35.toInt < x2.toInt) := by have q9 := h38; exact q9
            exact W.iret (v := r35) hx hb hr (fun t ht hW => ⟨⟨r35, F, rfl, ⟨trivial, trivial, rfl, trivial⟩, by rw [ht]; exact hP, va_K.moved hW.alike hK⟩, hS.F ht⟩) hS.2.2 dX7_made_73
          · have c32 := mt (ax_gt (n := 0) (by decide)).mpr c32
            refine lv_iconst (v := 0) hx hb dX7_made_63 (by decide) ?_
            refine lv_goto (tgt := 73) hx hb dX7_made_64 (by decide) ?_
            have h40 : (0 : Int32).toInt = 0 := by decide
            exact W.iret (v := 0) hx hb hr (fun t ht hW => ⟨⟨0, F, rfl, ⟨trivial, trivial, rfl, trivial⟩, by rw [ht]; exact hP, va_K.moved hW.alike hK⟩, hS.F ht⟩) hS.2.2 dX7_made_73
        · have c31 := mt (ax_eq (n := 4) (by decide)).mpr c31
          refine lv_tableOut (tgt := 74) hx hb dX7_made_1 (by omega) (by decide) ?_
          refine lv_iload_n hx hb dX7_made_74 rfl (lv_at hl 1 rfl) ?_
          exact W.iret (v := x1) hx hb hr (fun t ht hW => ⟨⟨x1, F, rfl, ⟨trivial, trivial, rfl, trivial⟩, by rw [ht]; exact hP, va_K.moved hW.alike hK⟩, hS.F ht⟩) hS.2.2 dX7_made_75

set_option maxHeartbeats 4000000 in
set_option maxRecDepth 100000 in
theorem yt_X7_touches (l : Launch) (dC : Nat → ClassId) (dI : Nat → Nat → Nat) (sz : Nat) {L : List Nat} {K : Nat → Nat} {cs : Nat → ClassId} (hLK : ∀ a {k : Nat}, K a = k → k ≠ 0 → a ∈ L) (A : Nat → Nat) (hA : y_A K A) (F : Nat → va_E) (a0 : Nat) (x1 : Int32) (x2 : Int32) (x3 : Int32) (ha0 : K a0 = 9) (hx1 : 0 ≤ x1.toInt ∧ x1.toInt ≤ 95) (hx2 : 0 ≤ x2.toInt ∧ x2.toInt ≤ 31) (hx3 : 0 ≤ x3.toInt ∧ x3.toInt ≤ 1) (hI : y_I K cs A F) : Met l yX7_touches (Cond.code yX7_touches cX7_touches 6 none :: T0) ({ frames := 0, cells := 0, slots := 0, locals := 0 }) (va_Pc [.ref a0, .int x1, .int x2, .int x3] (s_W dC dI sz L F [(cs 0, .int), (cs 1, .byte), (cs 2, .long), (cs 3, .object RX5), (cs 4, .object RX4), (cs 5, .array .int), (cs 6, .char), (cs 7, .boolean)])) (va_Qv (fun (G : Nat → va_E) => True ∧ True ∧ y_I K cs A G ∧ (∀ b, K b ∉ [70] → G b = F b) ∧ (∀ k, k ∈ ([1, 2, 3, 4, 5, 6, 7, 8, 11, 15, 16, 19, 25, 26, 27, 31, 32] : List Nat) → y_fi G a0 k = y_fi F a0 k) ∧ (y_E6 (y_at F (A 20)) (y_at G (A 20)))) (fun (G : Nat → va_E) (t : State) => va_P (dC, dI) vwCl (va_pl L G) t.heap ∧ va_K (dC, dI) vwCl [(cs 0, .int), (cs 1, .byte), (cs 2, .long), (cs 3, .object RX5), (cs 4, .object RX4), (cs 5, .array .int), (cs 6, .char), (cs 7, .boolean)] t) (fun q => q ∈ L)) 0 0 (fun q => q ∈ L) := by
  refine Met.ofW (cc := cX7_touches) (maxL := 6) (ret := none) (by decide) rfl ?_
  intro p e s m args below meth c s₁ B hml hv
  obtain ⟨rfl, hsz, hP, hK, hD, hN⟩ := hv
  have hx := B.exec
  have hb := B.bytes
  have hr := B.returns
  have hts : ∀ w ∈ T0, w.before _ s = true := fun w h => atoms_spec (ws := Cond.code yX7_touches cX7_touches 6 none :: T0) B.pre w (List.mem_cons_of_mem _ h)
  have hown : s.vm.findClass RX7 = some m.cls := findClass_of_methodNamed B.named
  have hlocks := B.notSynchronized
  have hS : va_S (fun q => q ∈ L) s.heap s.heap [] := va_S.rf
  have hfr : ∀ b, K b ∉ [70] → F b = F b := fun _ _ => rfl
  have hl := lv_entry ([.ref a0, .int x1, .int x2, .int x3]) (n := 6) (Nat.le_of_ble_eq_true rfl)
  rw [lg_entry_eq]
  generalize (lg_sl ([.ref a0, .int x1, .int x2, .int x3]) ++ List.replicate (6 - (lg_sl ([.ref a0, .int x1, .int x2, .int x3])).length) Slot.unset).toArray = ls at hl ⊢
  have hl : lv_has ls 6 [(0, .ref a0), (1, .int x1), (2, .int x2), (3, .int x3)] := hl
  refine s_gen hP hS (fun H locs hP hS => ?_)
  obtain ⟨z0, q0, oY0, bz0, bq0⟩ := y_opY hI ha0
  have hz0 : ∀ k, k ∈ ([1, 2, 3, 4, 5, 6, 7, 8, 11, 15, 16, 19, 25, 26, 27, 31, 32] : List Nat) → z0 k = z0 k := fun _ _ => rfl
  obtain ⟨f1, o2, b3⟩ := y_op20 hI
  refine th_join (fun g H locs => ∃ (G : Nat → va_E) (ls : Array Slot), g = F0 m 39 ls [] ∧ lv_has ls 6 [(0, .ref a0), (1, .int x1)] ∧ va_P (dC, dI) vwCl (va_pl L G) H ∧ va_S (fun q => q ∈ L) s.heap H locs ∧ y_I K cs A G ∧ (∀ b, K b ∉ [70] → G b = F b) ∧ (∀ k, k ∈ ([1, 2, 3, 4, 5, 6, 7, 8, 11, 15, 16, 19, 25, 26, 27, 31, 32] : List Nat) → y_fi G a0 k = z0 k) ∧ (0 ≤ x1.toInt ∧ x1.toInt ≤ 95) ∧ (y_E6 f1 (y_at G (A 20)))) (fun K39 => ?_) ?_
  · refine lv_iload_n hx hb dX7_touches_0 rfl (lv_at hl 3 rfl) ?_
    refine lv_if_eq (tgt := 23) hx hb dX7_touches_1 (by decide) (fun c4 => ?_) (fun c4 => ?_)
    · have c4 := (ax_eq (n := 0) (by decide)).mp c4
      refine lv_aload_n hx hb dX7_touches_23 rfl (lv_at hl 0 rfl) ?_
      refine th_get (D := (dC, dI)) (ci := 7) (v := .ref (A 20)) (C := RX7) (T := TX7) (N := 34) hx hb hts inX7 hown hK hP (hLK _ ha0 (by decide)) oY0 rfl 20 (by decide) (hts _ T_251) (fun _ h9 => h9) rfl dX7_touches_24 ?_
      refine lv_sipush (v := 480) hx hb dX7_touches_27 (by decide) ?_
      refine lv_iload_n hx hb dX7_touches_30 rfl (lv_at hl 1 rfl) ?_
      refine lv_iadd hx hb dX7_touches_31 ?_
      refine lv_topi (fun v5 ev5 => ?_)
      have qv5 : v5.toInt = 480 + x1.toInt := by rw [ev5]; exact th_add (by decide) rfl ⟨by omega, by omega⟩
      refine lv_dup2_11 hx hb dX7_touches_32 rfl rfl ?_
      refine th_iald hx hb hK hP (hLK _ (y_k20 hA) (by decide)) 0 o2 rfl (th_in ⟨by omega, by omega⟩) dX7_touches_33 ?_
      refine lv_topi (fun v6 ev6 => ?_)
      refine lv_iconst (v := 1) hx hb dX7_touches_34 (by decide) ?_
      refine lv_iload_n hx hb dX7_touches_35 rfl (lv_at hl 2 rfl) ?_
      refine lv_ishl hx hb dX7_touches_36 ?_
      refine lv_topi (fun v7 ev7 => ?_)
      refine lv_ior hx hb dX7_touches_37 ?_
      refine lv_topi (fun v8 ev8 => ?_)
      refine th_iast hx hb hK hP hD hS (hLK _ (y_k20 hA) (by decide)) 0 o2 rfl (th_in ⟨by omega, by omega⟩) dX7_touches_38 (fun H locs hP hS => ?_)
      obtain ⟨f9, u10⟩ : ∃ g : Nat → Int32, g = upd f1 (v5 : Int32).toNatClampNeg v8 := ⟨_, rfl⟩
      rw [← u10] at hP
      have b11 : y_bd 20 f9 := trivial
      have hP : va_P (dC, dI) vwCl (va_pl L (va_up F (A 20) (.inl (cs 0, 918, .inl f9)))) H := hP
      obtain ⟨F12, hF13⟩ : ∃ G : Nat → va_E, G = va_up F (A 20) (.inl (cs 0, 918, .inl f9)) := ⟨_, rfl⟩
      rw [← hF13] at hP
      have hI : y_I K cs A F12 := by rw [hF13]; exact y_clA (i := 20) hA hI (by decide) b11
      have hfr : ∀ b, K b ∉ [70] → F12 b = F b := by rw [hF13]; exact s_fr hfr (y_k20 hA) (by decide)
      have oY14 : F12 a0 = .inr (7, y_fl A z0 q0) := by rw [hF13]; exact th_ne (th_kd ha0 (y_k20 hA) (by decide)) oY0
      have o15 : F12 (A 20) = .inl (cs 0, 918, .inl f9) := by rw [hF13]; exact th_up
      have u16 : ∀ j : Int, 0 ≤ j → y_c f9 j = if j = v5.toInt then v8 else y_c f1 j := by rw [u10]; exact y_cu rfl (by omega)
      exact K39 _ _ _ ⟨F12, _, rfl, lv_sub hl [0, 1] rfl, hP, hS, hI, hfr, (fun k hk => (y_fiZ oY14 (s_sub (by decide) hk)).trans (hz0 k hk)), ⟨by omega, by omega⟩, (by rw [y_atE o15]; exact (y_E6_t (y_E6_r _) (y_E6_u u16 (by omega))))⟩
    · have c4 := mt (ax_eq (n := 0) (by decide)).mpr c4
      refine lv_aload_n hx hb dX7_touches_4 rfl (lv_at hl 0 rfl) ?_
      refine th_get (D := (dC, dI)) (ci := 7) (v := .ref (A 20)) (C := RX7) (T := TX7) (N := 34) hx hb hts inX7 hown hK hP (hLK _ ha0 (by decide)) oY0 rfl 20 (by decide) (hts _ T_251) (fun _ h9 => h9) rfl dX7_touches_5 ?_
      refine lv_sipush (v := 576) hx hb dX7_touches_8 (by decide) ?_
      refine lv_iload_n hx hb dX7_touches_11 rfl (lv_at hl 1 rfl) ?_
      refine lv_iadd hx hb dX7_touches_12 ?_
      refine lv_topi (fun v17 ev17 => ?_)
      have qv17 : v17.toInt = 576 + x1.toInt := by rw [ev17]; exact th_add (by decide) rfl ⟨by omega, by omega⟩
      refine lv_dup2_11 hx hb dX7_touches_13 rfl rfl ?_
      refine th_iald hx hb hK hP (hLK _ (y_k20 hA) (by decide)) 0 o2 rfl (th_in ⟨by omega, by omega⟩) dX7_touches_14 ?_
      refine lv_topi (fun v18 ev18 => ?_)
      refine lv_iconst (v := 1) hx hb dX7_touches_15 (by decide) ?_
      refine lv_iload_n hx hb dX7_touches_16 rfl (lv_at hl 2 rfl) ?_
      refine lv_ishl hx hb dX7_touches_17 ?_
      refine lv_topi (fun v19 ev19 => ?_)
      refine lv_ior hx hb dX7_touches_18 ?_
      refine lv_topi (fun v20 ev20 => ?_)
      refine th_iast hx hb hK hP hD hS (hLK _ (y_k20 hA) (by decide)) 0 o2 rfl (th_in ⟨by omega, by omega⟩) dX7_touches_19 (fun H locs hP hS => ?_)
      obtain ⟨f21, u22⟩ : ∃ g : Nat → Int32, g = upd f1 (v17 : Int32).toNatClampNeg v20 := ⟨_, rfl⟩
      rw [← u22] at hP
      have b23 : y_bd 20 f21 := trivial
      have hP : va_P (dC, dI) vwCl (va_pl L (va_up F (A 20) (.inl (cs 0, 918, .inl f21)))) H := hP
      obtain ⟨F24, hF25⟩ : ∃ G : Nat → va_E, G = va_up F (A 20) (.inl (cs 0, 918, .inl f21)) := ⟨_, rfl⟩
      rw [← hF25] at hP
      have hI : y_I K cs A F24 := by rw [hF25]; exact y_clA (i := 20) hA hI (by decide) b23
      have hfr : ∀ b, K b ∉ [70] → F24 b = F b := by rw [hF25]; exact s_fr hfr (y_k20 hA) (by decide)
      have oY26 : F24 a0 = .inr (7, y_fl A z0 q0) := by rw [hF25]; exact th_ne (th_kd ha0 (y_k20 hA) (by decide)) oY0
      have o27 : F24 (A 20) = .inl (cs 0, 918, .inl f21) := by rw [hF25]; exact th_up
      have u28 : ∀ j : Int, 0 ≤ j → y_c f21 j = if j = v17.toInt then v20 else y_c f1 j := by rw [u22]; exact y_cu rfl (by omega)
      refine lv_goto (tgt := 39) hx hb dX7_touches_20 (by decide) ?_
      exact K39 _ _ _ ⟨F24, _, rfl, lv_sub hl [0, 1] rfl, hP, hS, hI, hfr, (fun k hk => (y_fiZ oY26 (s_sub (by decide) hk)).trans (hz0 k hk)), ⟨by omega, by omega⟩, (by rw [y_atE o27]; exact (y_E6_t (y_E6_r _) (y_E6_u u28 (by omega))))⟩
  · intro g H locs hq
    obtain ⟨F31, ls, rfl, hl, hP, hS, hI, hfr, hz0, h29, h30⟩ := hq
    have oY32 : F31 a0 = .inr (7, y_fl A z0 q0) := (hfr _ (by rw [ha0]; decide)).trans oY0
    have hz0 : ∀ k, k ∈ ([1, 2, 3, 4, 5, 6, 7, 8, 11, 15, 16, 19, 25, 26, 27, 31, 32] : List Nat) → z0 k = z0 k := fun _ _ => rfl
    obtain ⟨f33, o34, b35⟩ := y_op20 hI
    have h30 : (y_E6 f1 f33) := by have q9 := h30; rw [y_atE o34] at q9; exact q9
    refine lv_aload_n hx hb dX7_touches_39 rfl (lv_at hl 0 rfl) ?_
    refine th_get (D := (dC, dI)) (ci := 7) (v := .ref (A 20)) (C := RX7) (T := TX7) (N := 34) hx hb hts inX7 hown hK hP (hLK _ ha0 (by decide)) oY32 rfl 20 (by decide) (hts _ T_251) (fun _ h9 => h9) rfl dX7_touches_40 ?_
    refine lv_sipush (v := 576) hx hb dX7_touches_43 (by decide) ?_
    refine lv_iload_n hx hb dX7_touches_46 rfl (lv_at hl 1 rfl) ?_
    refine lv_iadd hx hb dX7_touches_47 ?_
    refine lv_topi (fun v36 ev36 => ?_)
    have qv36 : v36.toInt = 576 + x1.toInt := by rw [ev36]; exact th_add (by decide) rfl ⟨by omega, by omega⟩
    refine th_iald hx hb hK hP (hLK _ (y_k20 hA) (by decide)) 0 o34 rfl (th_in ⟨by omega, by omega⟩) dX7_touches_48 ?_
    refine lv_topi (fun v37 ev37 => ?_)
    refine lv_istore (lv' := [(4, .int v37), (0, .ref a0), (1, .int x1)]) hx hb dX7_touches_49 hl (by decide) rfl (fun ls hl => ?_)
    refine lv_iload hx hb dX7_touches_51 (lv_at hl 0 rfl) ?_
    refine lv_aload_n hx hb dX7_touches_53 rfl (lv_at hl 1 rfl) ?_
    refine th_get (D := (dC, dI)) (ci := 7) (v := .ref (A 20)) (C := RX7) (T := TX7) (N := 34) hx hb hts inX7 hown hK hP (hLK _ ha0 (by decide)) oY32 rfl 20 (by decide) (hts _ T_251) (fun _ h9 => h9) rfl dX7_touches_54 ?_
    refine lv_sipush (v := 480) hx hb dX7_touches_57 (by decide) ?_
    refine lv_iload_n hx hb dX7_touches_60 rfl (lv_at hl 2 rfl) ?_
    refine lv_iadd hx hb dX7_touches_61 ?_
    refine lv_topi (fun v38 ev38 => ?_)
    have qv38 : v38.toInt = 480 + x1.toInt := by rw [ev38]; exact th_add (by decide) rfl ⟨by omega, by omega⟩
    refine th_iald hx hb hK hP (hLK _ (y_k20 hA) (by decide)) 0 o34 rfl (th_in ⟨by omega, by omega⟩) dX7_touches_62 ?_
    refine lv_topi (fun v39 ev39 => ?_)
    refine lv_ior hx hb dX7_touches_63 ?_
    refine lv_topi (fun v40 ev40 => ?_)
    refine lv_istore (lv' := [(5, .int v40), (4, .int v37), (0, .ref a0), (1, .int x1)]) hx hb dX7_touches_64 hl (by decide) rfl (fun ls hl => ?_)
    refine lv_iload hx hb dX7_touches_66 (lv_at hl 1 rfl) ?_
    refine lv_if_eq (tgt := 92) hx hb dX7_touches_68 (by decide) (fun c41 => ?_) (fun c41 => ?_)
    · have c41 := (ax_eq (n := 0) (by decide)).mp c41
      exact W.vret hx hb hr (fun t ht hW => ⟨⟨F31, rfl, ⟨trivial, trivial, hI, hfr, fun k hk => (y_fiZ oY32 (s_sub (by decide) hk)).trans ((hz0 k hk).trans (y_fiZ oY0 (s_sub (by decide) hk)).symm), (by rw [y_atE o2, y_atE o34]; exact h30)⟩, by rw [ht]; exact hP, va_K.moved hW.alike hK⟩, hS.F ht⟩) hS.2.2 dX7_touches_92
    · have c41 := mt (ax_eq (n := 0) (by decide)).mpr c41
      refine lv_iload hx hb dX7_touches_71 (lv_at hl 0 rfl) ?_
      refine lv_iload hx hb dX7_touches_73 (lv_at hl 0 rfl) ?_
      refine lv_iconst (v := 1) hx hb dX7_touches_75 (by decide) ?_
      refine lv_isub hx hb dX7_touches_76 ?_
      refine lv_topi (fun v42 ev42 => ?_)
      refine lv_iand hx hb dX7_touches_77 ?_
      refine lv_topi (fun v43 ev43 => ?_)
      refine lv_if_eq (tgt := 92) hx hb dX7_touches_78 (by decide) (fun c44 => ?_) (fun c44 => ?_)
      · have c44 := (ax_eq (n := 0) (by decide)).mp c44
        exact W.vret hx hb hr (fun t ht hW => ⟨⟨F31, rfl, ⟨trivial, trivial, hI, hfr, fun k hk => (y_fiZ oY32 (s_sub (by decide) hk)).trans ((hz0 k hk).trans (y_fiZ oY0 (s_sub (by decide) hk)).symm), (by rw [y_atE o2, y_atE o34]; exact h30)⟩, by rw [ht]; exact hP, va_K.moved hW.alike hK⟩, hS.F ht⟩) hS.2.2 dX7_touches_92
      · have c44 := mt (ax_eq (n := 0) (by decide)).mpr c44
        refine lv_aload_n hx hb dX7_touches_81 rfl (lv_at hl 2 rfl) ?_
        refine th_get (D := (dC, dI)) (ci := 7) (v := .ref (A 20)) (C := RX7) (T := TX7) (N := 34) hx hb hts inX7 hown hK hP (hLK _ ha0 (by decide)) oY32 rfl 20 (by decide) (hts _ T_251) (fun _ h9 => h9) rfl dX7_touches_82 ?_
        refine lv_sipush (v := 672) hx hb dX7_touches_85 (by decide) ?_
        refine lv_iload_n hx hb dX7_touches_88 rfl (lv_at hl 3 rfl) ?_
        refine lv_iadd hx hb dX7_touches_89 ?_
        refine lv_topi (fun v45 ev45 => ?_)
        have qv45 : v45.toInt = 672 + x1.toInt := by rw [ev45]; exact th_add (by decide) rfl ⟨by omega, by omega⟩
        refine lv_iconst (v := 1) hx hb dX7_touches_90 (by decide) ?_
        refine th_iast hx hb hK hP hD hS (hLK _ (y_k20 hA) (by decide)) 0 o34 rfl (th_in ⟨by omega, by omega⟩) dX7_touches_91 (fun H locs hP hS => ?_)
        obtain ⟨f46, u47⟩ : ∃ g : Nat → Int32, g = upd f33 (v45 : Int32).toNatClampNeg 1 := ⟨_, rfl⟩
        rw [← u47] at hP
        have b48 : y_bd 20 f46 := trivial
        have hP : va_P (dC, dI) vwCl (va_pl L (va_up F31 (A 20) (.inl (cs 0, 918, .inl f46)))) H := hP
        obtain ⟨F49, hF50⟩ : ∃ G : Nat → va_E, G = va_up F31 (A 20) (.inl (cs 0, 918, .inl f46)) := ⟨_, rfl⟩
        rw [← hF50] at hP
        have hI : y_I K cs A F49 := by rw [hF50]; exact y_clA (i := 20) hA hI (by decide) b48
        have hfr : ∀ b, K b ∉ [70] → F49 b = F b := by rw [hF50]; exact s_fr hfr (y_k20 hA) (by decide)
        have oY51 : F49 a0 = .inr (7, y_fl A z0 q0) := by rw [hF50]; exact th_ne (th_kd ha0 (y_k20 hA) (by decide)) oY32
        have o52 : F49 (A 20) = .inl (cs 0, 918, .inl f46) := by rw [hF50]; exact th_up
        have u53 : ∀ j : Int, 0 ≤ j → y_c f46 j = if j = v45.toInt then 1 else y_c f33 j := by rw [u47]; exact y_cu rfl (by omega)
        exact W.vret hx hb hr (fun t ht hW => ⟨⟨F49, rfl, ⟨trivial, trivial, hI, hfr, fun k hk => (y_fiZ oY51 (s_sub (by decide) hk)).trans ((hz0 k hk).trans (y_fiZ oY0 (s_sub (by decide) hk)).symm), (by rw [y_atE o2, y_atE o52]; exact (y_E6_t h30 (y_E6_u u53 (by omega))))⟩, by rw [ht]; exact hP, va_K.moved hW.alike hK⟩, hS.F ht⟩) hS.2.2 dX7_touches_92
