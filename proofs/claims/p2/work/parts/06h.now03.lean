set_option maxHeartbeats 4000000 in
set_option maxRecDepth 100000 in
theorem y_X7_goer (l : Launch) (dC : Nat → ClassId) (dI : Nat → Nat → Nat) (sz : Nat) {L : List Nat} {K : Nat → Nat} {cs : Nat → ClassId} (hLK : ∀ a {k : Nat}, K a = k → k ≠ 0 → a ∈ L) (A : Nat → Nat) (hA : y_A K A) (F : Nat → va_E) (a0 : Nat) (ha0 : K a0 = 9) (hI : y_I K cs A F) (hPG : y_PG (y_at F (A 13))) (hNG : y_NG (y_at F (A 13)) (y_at F (A 20))) : Met l yX7_goer (Cond.code yX7_goer cX7_goer 3 (some .int) :: T0) ({ frames := 5, cells := 0, slots := 0, locals := 110 }) (va_Pc [.ref a0] (s_W dC dI sz L F [(cs 0, .int), (cs 1, .byte), (cs 2, .long), (cs 3, .object RX5), (cs 4, .object RX4), (cs 5, .array .int), (cs 6, .char), (cs 7, .boolean)])) (va_Qi (fun (r : Int32) (G : Nat → va_E) => (-1 ≤ r.toInt ∧ r.toInt ≤ 3) ∧ True ∧ y_I K cs A G ∧ (∀ b, K b ∉ ([] : List Nat) → G b = F b) ∧ (∀ k, k ∈ ([1, 2, 3, 4, 5, 6, 7, 8, 11, 15, 16, 19, 25, 26, 27, 31, 32] : List Nat) → y_fi G a0 k = y_fi F a0 k) ∧ (r.toInt = -1 ∨ (0 ≤ r.toInt ∧ r.toInt < (y_c (y_at F (A 13)) 384).toInt ∧ y_go (y_at F (A 20)) r.toInt))) (fun (G : Nat → va_E) (t : State) => va_P (dC, dI) vwCl (va_pl L G) t.heap ∧ va_K (dC, dI) vwCl [(cs 0, .int), (cs 1, .byte), (cs 2, .long), (cs 3, .object RX5), (cs 4, .object RX4), (cs 5, .array .int), (cs 6, .char), (cs 7, .boolean)] t) (fun q => q ∈ L)) 0 0 (fun q => q ∈ L) := by
  refine Met.ofW (cc := cX7_goer) (maxL := 3) (ret := (some .int)) (by decide) rfl ?_
  intro p e s m args below meth c s₁ B hml hv
  obtain ⟨rfl, hsz, hP, hK, hD, hN⟩ := hv
  have hx := B.exec
  have hb := B.bytes
  have hr := B.returns
  have hts : ∀ w ∈ T0, w.before _ s = true := fun w h => atoms_spec (ws := Cond.code yX7_goer cX7_goer 3 (some .int) :: T0) B.pre w (List.mem_cons_of_mem _ h)
  have hown : s.vm.findClass RX7 = some m.cls := findClass_of_methodNamed B.named
  have hlocks := B.notSynchronized
  have hS : va_S (fun q => q ∈ L) s.heap s.heap [] := va_S.rf
  have hfr : ∀ b, K b ∉ ([] : List Nat) → F b = F b := fun _ _ => rfl
  have hl := lv_entry ([.ref a0]) (n := 3) (Nat.le_of_ble_eq_true rfl)
  rw [lg_entry_eq]
  generalize (lg_sl ([.ref a0]) ++ List.replicate (3 - (lg_sl ([.ref a0])).length) Slot.unset).toArray = ls at hl ⊢
  have hl : lv_has ls 3 [(0, .ref a0)] := hl
  refine s_gen hP hS (fun H locs hP hS => ?_)
  obtain ⟨z0, q0, oY0, bz0, bq0⟩ := y_opY hI ha0
  have hz0 : ∀ k, k ∈ ([1, 2, 3, 4, 5, 6, 7, 8, 11, 15, 16, 19, 25, 26, 27, 31, 32] : List Nat) → z0 k = z0 k := fun _ _ => rfl
  obtain ⟨f1, o2, b3⟩ := y_op13 hI
  obtain ⟨f4, o5, b6⟩ := y_op20 hI
  replace hPG : y_PG f1 := by have q9 := hPG; rw [y_atE o2] at q9; exact q9
  replace hNG : y_NG f1 f4 := by have q9 := hNG; rw [y_atE o2, y_atE o5] at q9; exact q9
  have hL := y_P0L hPG.1
  have hW := y_P0W hPG.1
  have hnn := And.intro hNG.1 (And.intro hNG.2.1 (And.intro hNG.2.2.1 hNG.2.2.2.1))
  refine th_join (fun g H locs => ∃ (G : Nat → va_E) (ls : Array Slot) (w7 : Int32), g = F0 m 22 ls [.int w7] ∧ lv_has ls 3 [(0, .ref a0)] ∧ va_P (dC, dI) vwCl (va_pl L G) H ∧ va_S (fun q => q ∈ L) s.heap H locs ∧ y_I K cs A G ∧ (∀ b, K b ∉ ([] : List Nat) → G b = F b) ∧ (∀ k, k ∈ ([1, 2, 3, 4, 5, 6, 7, 8, 11, 15, 16, 19, 25, 26, 27, 31, 32] : List Nat) → y_fi G a0 k = z0 k) ∧ (0 ≤ w7.toInt ∧ w7.toInt ≤ 4)) (fun K22 => ?_) ?_
  · refine lv_aload_n hx hb dX7_goer_0 rfl (lv_at hl 0 rfl) ?_
    refine th_get (D := (dC, dI)) (ci := 7) (v := .ref (A 20)) (C := RX7) (T := TX7) (N := 34) hx hb hts inX7 hown hK hP (hLK _ ha0 (by decide)) oY0 rfl 20 (by decide) (hts _ T_251) (fun _ h9 => h9) rfl dX7_goer_1 ?_
    refine lv_iconst (v := 4) hx hb dX7_goer_4 (by decide) ?_
    refine th_iald hx hb hK hP (hLK _ (y_k20 hA) (by decide)) 0 o5 rfl (ax_in (by decide)) dX7_goer_5 ?_
    refine lv_topi (fun v8 ev8 => ?_)
    refine lv_if_ne (tgt := 13) hx hb dX7_goer_6 (by decide) (fun c9 => ?_) (fun c9 => ?_)
    · have c9 := mt (ax_eq (n := 0) (by decide)).mpr c9
      refine lv_aload_n hx hb dX7_goer_13 rfl (lv_at hl 0 rfl) ?_
      refine th_get (D := (dC, dI)) (ci := 7) (v := .ref (A 20)) (C := RX7) (T := TX7) (N := 34) hx hb hts inX7 hown hK hP (hLK _ ha0 (by decide)) oY0 rfl 20 (by decide) (hts _ T_251) (fun _ h9 => h9) rfl dX7_goer_14 ?_
      refine lv_bipush (v := 6) hx hb dX7_goer_17 (by decide) ?_
      refine th_iald hx hb hK hP (hLK _ (y_k20 hA) (by decide)) 0 o5 rfl (ax_in (by decide)) dX7_goer_19 ?_
      refine lv_topi (fun v10 ev10 => ?_)
      have Ev10 : v10 = y_c f4 (6) := ev10.trans (y_ci (by decide))
      have tEv10 := congrArg Int32.toInt Ev10
      have h11 : -1 ≤ v10.toInt ∧ v10.toInt ≤ 3 := by have q9 : v10.toInt = (y_c f4 6).toInt := congrArg Int32.toInt (ev10.trans (y_ci (by decide))); omega
      refine lv_iconst (v := 1) hx hb dX7_goer_20 (by decide) ?_
      refine lv_iadd hx hb dX7_goer_21 ?_
      refine lv_topi (fun v12 ev12 => ?_)
      have qv12 : v12.toInt = v10.toInt + 1 := by rw [ev12]; exact th_add rfl (by decide) ⟨by omega, by omega⟩
      exact K22 _ _ _ ⟨F, _, v12, rfl, lv_sub hl [0] rfl, hP, hS, hI, hfr, (fun k hk => (y_fiZ oY0 (s_sub (by decide) hk)).trans (hz0 k hk)), ⟨by omega, by omega⟩⟩
    · have c9 := (ax_eq (n := 0) (by decide)).mp c9
      refine lv_iconst (v := 0) hx hb dX7_goer_9 (by decide) ?_
      refine lv_goto (tgt := 22) hx hb dX7_goer_10 (by decide) ?_
      have h13 : (0 : Int32).toInt = 0 := by decide
      exact K22 _ _ _ ⟨F, _, 0, rfl, lv_sub hl [0] rfl, hP, hS, hI, hfr, (fun k hk => (y_fiZ oY0 (s_sub (by decide) hk)).trans (hz0 k hk)), (by decide)⟩
  · intro g H locs hq
    obtain ⟨F15, ls, w7, rfl, hl, hP, hS, hI, hfr, hz0, h14⟩ := hq
    have o16 : F15 (A 13) = .inl (cs 0, 400, .inl f1) := (hfr _ (by rw [(y_k13 hA)]; decide)).trans o2
    have o17 : F15 (A 20) = .inl (cs 0, 918, .inl f4) := (hfr _ (by rw [(y_k20 hA)]; decide)).trans o5
    have oY18 : F15 a0 = .inr (7, y_fl A z0 q0) := (hfr _ (by rw [ha0]; decide)).trans oY0
    have hz0 : ∀ k, k ∈ ([1, 2, 3, 4, 5, 6, 7, 8, 11, 15, 16, 19, 25, 26, 27, 31, 32] : List Nat) → z0 k = z0 k := fun _ _ => rfl
    refine lv_istore_n (lv' := [(1, .int w7), (0, .ref a0)]) hx hb dX7_goer_22 rfl hl (by decide) rfl (fun ls hl => ?_)
    refine lv_iconst (v := 0) hx hb dX7_goer_23 (by decide) ?_
    refine lv_istore_n (lv' := [(2, .int 0), (1, .int w7), (0, .ref a0)]) hx hb dX7_goer_24 rfl hl (by decide) rfl (fun ls hl => ?_)
    have h20 : (0 : Int32).toInt = 0 := by decide
    refine th_loop (fun n g H locs => ∃ (G : Nat → va_E) (ls : Array Slot) (w19 : Int32), g = F0 m 25 ls [] ∧ lv_has ls 3 [(0, .ref a0), (1, .int w7), (2, .int w19)] ∧ va_P (dC, dI) vwCl (va_pl L G) H ∧ va_S (fun q => q ∈ L) s.heap H locs ∧ y_I K cs A G ∧ (∀ b, K b ∉ ([] : List Nat) → G b = F b) ∧ (∀ k, k ∈ ([1, 2, 3, 4, 5, 6, 7, 8, 11, 15, 16, 19, 25, 26, 27, 31, 32] : List Nat) → y_fi G a0 k = z0 k) ∧ (0 ≤ w19.toInt ∧ w19.toInt ≤ 4) ∧ (0 ≤ w7.toInt ∧ w7.toInt ≤ 4) ∧ n = (5 - w19.toInt).toNat) _ ⟨F15, _, 0, rfl, lv_sub hl [2, 1, 0] rfl, hP, hS, hI, hfr, (fun k hk => (y_fiZ oY18 (s_sub (by decide) hk)).trans (hz0 k hk)), (by decide), ⟨by omega, by omega⟩, rfl⟩ (fun n ih25 g H locs hq => ?_)
    obtain ⟨F23, ls, w19, rfl, hl, hP, hS, hI, hfr, hz0, h21, h22, hn⟩ := hq
    have o24 : F23 (A 13) = .inl (cs 0, 400, .inl f1) := (hfr _ (by rw [(y_k13 hA)]; decide)).trans o2
    have o25 : F23 (A 20) = .inl (cs 0, 918, .inl f4) := (hfr _ (by rw [(y_k20 hA)]; decide)).trans o5
    have oY26 : F23 a0 = .inr (7, y_fl A z0 q0) := (hfr _ (by rw [ha0]; decide)).trans oY0
    have hz0 : ∀ k, k ∈ ([1, 2, 3, 4, 5, 6, 7, 8, 11, 15, 16, 19, 25, 26, 27, 31, 32] : List Nat) → z0 k = z0 k := fun _ _ => rfl
    have hn_26 := hn
    refine lv_iload_n hx hb dX7_goer_25 rfl (lv_at hl 2 rfl) ?_
    refine lv_aload_n hx hb dX7_goer_26 rfl (lv_at hl 0 rfl) ?_
    refine va_calli (va_runV (As := []) (rest := [.int w19]) ⟨hx, hb, hml, hown, hts⟩ (y_X7_warps l dC dI H.size hLK A hA F23 a0 ha0 hI) (cwV 0 hts (ax_gV T_993 T_995 T_996 T_265 T_994) rfl rfl rfl (by decide +kernel) ⟨Nat.le_of_ble_eq_true rfl, Nat.le_of_ble_eq_true rfl⟩) ⟨fun a U g mk q => ⟨q.1, s_pc (U := U) rfl rfl q.2⟩, s_recv hK hP (hLK _ ha0 (by decide)) (ci := 7) rfl oY26, fun U hU hW => ⟨rfl, s_pw hU hW hP hK hD hN⟩⟩ rfl rfl hl.1 rfl (lv_room (Nat.le_of_ble_eq_true rfl)) dX7_goer_27 ⟨Nat.zero_le _, Nat.zero_le _⟩) hS (fun q _ h => h) (fun q h => h) (fun r28 F29 t H1 locs ht hvm hw hB hz1 hk1 hS => ?_)
    obtain ⟨hP, hK1⟩ := hB
    rw [ht] at hP
    generalize H1 = H at hP hS ⊢
    clear hz1 hk1 hvm hK1
    obtain ⟨h30, h32, hI, hfr1, hzf, h31⟩ := hw
    have o33 : F29 (A 13) = .inl (cs 0, 400, .inl f1) := (hfr1 _ (by rw [(y_k13 hA)]; decide)).trans o24
    have o34 : F29 (A 20) = .inl (cs 0, 918, .inl f4) := (hfr1 _ (by rw [(y_k20 hA)]; decide)).trans o25
    have oY35 : F29 a0 = .inr (7, y_fl A z0 q0) := (hfr1 _ (by rw [ha0]; decide)).trans oY26
    have hfr : ∀ b, K b ∉ ([] : List Nat) → F29 b = F b := fun b hb9 => (hfr1 b (fun q => hb9 (s_sub (by decide) q))).trans (hfr b hb9)
    replace h31 : (r28 = y_c f1 384) := by have q9 := h31; rw [y_atE o24] at q9; exact q9
    have h36 := congrArg Int32.toInt h31
    have h37 : 1 ≤ r28.toInt ∧ r28.toInt ≤ 4 := ⟨by omega, by omega⟩
    refine lv_icmp_ge (tgt := 63) hx hb dX7_goer_30 (by decide) (fun c38 => ?_) (fun c38 => ?_)
    · have c38 := Int32.le_iff_toInt_le.mp c38
      refine lv_iconst (v := (-1)) hx hb dX7_goer_63 (by decide) ?_
      have h39 : ((-1) : Int32).toInt = (-1) := by decide
      exact W.iret (v := (-1)) hx hb hr (fun t ht hW => ⟨⟨(-1), F29, rfl, ⟨(by decide), trivial, hI, hfr, fun k hk => (y_fiZ oY35 (s_sub (by decide) hk)).trans ((hz0 k hk).trans (y_fiZ oY0 (s_sub (by decide) hk)).symm), (by rw [y_atE o2, y_atE o5]; exact Or.inl (by decide))⟩, by rw [ht]; exact hP, va_K.moved hW.alike hK⟩, hS.F ht⟩) hS.2.2 dX7_goer_64
    · have c38 := mt Int32.le_iff_toInt_le.mpr c38
      refine lv_aload_n hx hb dX7_goer_33 rfl (lv_at hl 0 rfl) ?_
      refine lv_iload_n hx hb dX7_goer_34 rfl (lv_at hl 1 rfl) ?_
      refine lv_iload_n hx hb dX7_goer_35 rfl (lv_at hl 2 rfl) ?_
      refine lv_iadd hx hb dX7_goer_36 ?_
      refine lv_topi (fun v40 ev40 => ?_)
      have qv40 : v40.toInt = w7.toInt + w19.toInt := by rw [ev40]; exact th_add rfl rfl ⟨by omega, by omega⟩
      refine lv_aload_n hx hb dX7_goer_37 rfl (lv_at hl 0 rfl) ?_
      refine va_calli (va_runV (As := []) (rest := [.int v40, .ref a0]) ⟨hx, hb, hml, hown, hts⟩ (y_X7_warps l dC dI H.size hLK A hA F29 a0 ha0 hI) (cwV 0 hts (ax_gV T_993 T_995 T_996 T_265 T_994) rfl rfl rfl (by decide +kernel) ⟨Nat.le_of_ble_eq_true rfl, Nat.le_of_ble_eq_true rfl⟩) ⟨fun a U g mk q => ⟨q.1, s_pc (U := U) rfl rfl q.2⟩, s_recv hK hP (hLK _ ha0 (by decide)) (ci := 7) rfl oY35, fun U hU hW => ⟨rfl, s_pw hU hW hP hK hD hN⟩⟩ rfl rfl hl.1 rfl (lv_room (Nat.le_of_ble_eq_true rfl)) dX7_goer_38 ⟨Nat.zero_le _, Nat.zero_le _⟩) hS (fun q _ h => h) (fun q h => h) (fun r42 F43 t H1 locs ht hvm hw hB hz1 hk1 hS => ?_)
      obtain ⟨hP, hK1⟩ := hB
      rw [ht] at hP
      generalize H1 = H at hP hS ⊢
      clear hz1 hk1 hvm hK1
      obtain ⟨h44, h46, hI, hfr1, hzf, h45⟩ := hw
      have o47 : F43 (A 13) = .inl (cs 0, 400, .inl f1) := (hfr1 _ (by rw [(y_k13 hA)]; decide)).trans o33
      have o48 : F43 (A 20) = .inl (cs 0, 918, .inl f4) := (hfr1 _ (by rw [(y_k20 hA)]; decide)).trans o34
      have oY49 : F43 a0 = .inr (7, y_fl A z0 q0) := (hfr1 _ (by rw [ha0]; decide)).trans oY35
      have hfr : ∀ b, K b ∉ ([] : List Nat) → F43 b = F b := fun b hb9 => (hfr1 b (fun q => hb9 (s_sub (by decide) q))).trans (hfr b hb9)
      replace h45 : (r42 = y_c f1 384) := by have q9 := h45; rw [y_atE o33] at q9; exact q9
      have h50 := congrArg Int32.toInt h45
      have h51 : 1 ≤ r42.toInt ∧ r42.toInt ≤ 4 := ⟨by omega, by omega⟩
      refine lv_irem hx hb dX7_goer_41 (fun q => by have q2 := Int32.toInt_inj.mpr q; have q3 : (0 : Int32).toInt = 0 := (by decide); omega) ?_
      refine lv_topi (fun v52 ev52 => ?_)
      have qv52 : 0 ≤ v52.toInt ∧ v52.toInt < r42.toInt := by rw [ev52]; exact th_remV (by omega) (by omega)
      have rg53 : 0 ≤ v52.toInt ∧ v52.toInt ≤ 3 := ⟨by omega, by omega⟩
      refine va_calli (va_runV (As := [.int v52]) (rest := []) ⟨hx, hb, hml, hown, hts⟩ (y_X7_canGo l dC dI H.size hLK A hA F43 a0 v52 ha0 rg53 hI (by rw [y_atE o48]; exact (hNG.2.2.2.2 v52.toInt (by omega) (by omega)).1)) (cwV 1 hts (ax_gV T_1123 T_1125 T_1126 T_265 T_1124) rfl rfl rfl (by decide +kernel) ⟨Nat.le_of_ble_eq_true rfl, Nat.le_of_ble_eq_true rfl⟩) ⟨fun a U g mk q => ⟨q.1, s_pc (U := U) rfl rfl q.2⟩, s_recv hK hP (hLK _ ha0 (by decide)) (ci := 7) rfl oY49, fun U hU hW => ⟨rfl, s_pw hU hW hP hK hD hN⟩⟩ rfl rfl hl.1 rfl (lv_room (Nat.le_of_ble_eq_true rfl)) dX7_goer_42 ⟨Nat.zero_le _, Nat.zero_le _⟩) hS (fun q _ h => h) (fun q h => h) (fun r55 F56 t H1 locs ht hvm hw hB hz1 hk1 hS => ?_)
      obtain ⟨hP, hK1⟩ := hB
      rw [ht] at hP
      generalize H1 = H at hP hS ⊢
      clear hz1 hk1 hvm hK1
      obtain ⟨h57, h59, hI, hfr1, hzf, h58⟩ := hw
      have o60 : F56 (A 13) = .inl (cs 0, 400, .inl f1) := (hfr1 _ (by rw [(y_k13 hA)]; decide)).trans o47
      have o61 : F56 (A 20) = .inl (cs 0, 918, .inl f4) := (hfr1 _ (by rw [(y_k20 hA)]; decide)).trans o48
      have oY62 : F56 a0 = .inr (7, y_fl A z0 q0) := (hfr1 _ (by rw [ha0]; decide)).trans oY49
      have hfr : ∀ b, K b ∉ ([] : List Nat) → F56 b = F b := fun b hb9 => (hfr1 b (fun q => hb9 (s_sub (by decide) q))).trans (hfr b hb9)
      replace h58 : (r55.toInt = 0 ∨ y_go f4 v52.toInt) := by have q9 := h58; rw [y_atE o48] at q9; exact q9
      refine lv_if_eq (tgt := 57) hx hb dX7_goer_45 (by decide) (fun c63 => ?_) (fun c63 => ?_)
      · have c63 := (ax_eq (n := 0) (by decide)).mp c63
        obtain ⟨v64, ev64⟩ : ∃ y : Int32, w19 + 1 = y := ⟨_, rfl⟩
        have qv64 : v64.toInt = w19.toInt + 1 := by rw [← ev64]; exact th_add rfl (by decide) ⟨by omega, by omega⟩
        refine lv_iinc (v := v64) (lv' := [(2, .int v64), (0, .ref a0), (1, .int w7)]) hx hb dX7_goer_57 hl (k := 2) rfl ev64 (by decide) rfl (fun ls hl => ?_)
        refine lv_goto (tgt := 25) hx hb dX7_goer_60 (by decide) ?_
        exact ih25 _ _ _ _ (by omega) ⟨F56, _, v64, rfl, lv_sub hl [1, 2, 0] rfl, hP, hS, hI, hfr, (fun k hk => (y_fiZ oY62 (s_sub (by decide) hk)).trans (hz0 k hk)), ⟨by omega, by omega⟩, ⟨by omega, by omega⟩, rfl⟩
      · have c63 := mt (ax_eq (n := 0) (by decide)).mpr c63
        refine lv_iload_n hx hb dX7_goer_48 rfl (lv_at hl 1 rfl) ?_
        refine lv_iload_n hx hb dX7_goer_49 rfl (lv_at hl 2 rfl) ?_
        refine lv_iadd hx hb dX7_goer_50 ?_
        refine lv_topi (fun v65 ev65 => ?_)
        have qv65 : v65.toInt = w7.toInt + w19.toInt := by rw [ev65]; exact th_add rfl rfl ⟨by omega, by omega⟩
        refine lv_aload_n hx hb dX7_goer_51 rfl (lv_at hl 0 rfl) ?_
        refine va_calli (va_runV (As := []) (rest := [.int v65]) ⟨hx, hb, hml, hown, hts⟩ (y_X7_warps l dC dI H.size hLK A hA F56 a0 ha0 hI) (cwV 0 hts (ax_gV T_993 T_995 T_996 T_265 T_994) rfl rfl rfl (by decide +kernel) ⟨Nat.le_of_ble_eq_true rfl, Nat.le_of_ble_eq_true rfl⟩) ⟨fun a U g mk q => ⟨q.1, s_pc (U := U) rfl rfl q.2⟩, s_recv hK hP (hLK _ ha0 (by decide)) (ci := 7) rfl oY62, fun U hU hW => ⟨rfl, s_pw hU hW hP hK hD hN⟩⟩ rfl rfl hl.1 rfl (lv_room (Nat.le_of_ble_eq_true rfl)) dX7_goer_52 ⟨Nat.zero_le _, Nat.zero_le _⟩) hS (fun q _ h => h) (fun q h => h) (fun r67 F68 t H1 locs ht hvm hw hB hz1 hk1 hS => ?_)
        obtain ⟨hP, hK1⟩ := hB
        rw [ht] at hP
        generalize H1 = H at hP hS ⊢
        clear hz1 hk1 hvm hK1
        obtain ⟨h69, h71, hI, hfr1, hzf, h70⟩ := hw
        have o72 : F68 (A 13) = .inl (cs 0, 400, .inl f1) := (hfr1 _ (by rw [(y_k13 hA)]; decide)).trans o60
        have o73 : F68 (A 20) = .inl (cs 0, 918, .inl f4) := (hfr1 _ (by rw [(y_k20 hA)]; decide)).trans o61
        have oY74 : F68 a0 = .inr (7, y_fl A z0 q0) := (hfr1 _ (by rw [ha0]; decide)).trans oY62
        have hfr : ∀ b, K b ∉ ([] : List Nat) → F68 b = F b := fun b hb9 => (hfr1 b (fun q => hb9 (s_sub (by decide) q))).trans (hfr b hb9)
        replace h70 : (r67 = y_c f1 384) := by have q9 := h70; rw [y_atE o60] at q9; exact q9
        have h75 := congrArg Int32.toInt h70
        have h76 : 1 ≤ r67.toInt ∧ r67.toInt ≤ 4 := ⟨by omega, by omega⟩
        refine lv_irem hx hb dX7_goer_55 (fun q => by have q2 := Int32.toInt_inj.mpr q; have q3 : (0 : Int32).toInt = 0 := (by decide); omega) ?_
        refine lv_topi (fun v77 ev77 => ?_)
        have qv77 : 0 ≤ v77.toInt ∧ v77.toInt < r67.toInt := by rw [ev77]; exact th_remV (by omega) (by omega)
        have hsm : v77 = v52 := by rw [ev77, ev52, show v65 = v40 by rw [ev65, ev40], show r67 = r42 by rw [h70, h45]]
        exact W.iret (v := v77) hx hb hr (fun t ht hW => ⟨⟨v77, F68, rfl, ⟨⟨by omega, by omega⟩, trivial, hI, hfr, fun k hk => (y_fiZ oY74 (s_sub (by decide) hk)).trans ((hz0 k hk).trans (y_fiZ oY0 (s_sub (by decide) hk)).symm), (by rw [y_atE o2, y_atE o5]; exact Or.inr ⟨by omega, by omega, by rw [hsm]; exact h58.resolve_left c63⟩)⟩, by rw [ht]; exact hP, va_K.moved hW.alike hK⟩, hS.F ht⟩) hS.2.2 dX7_goer_56

set_option maxHeartbeats 4000000 in
set_option maxRecDepth 100000 in
theorem y_X7_partOf (l : Launch) (dC : Nat → ClassId) (dI : Nat → Nat → Nat) (sz : Nat) {L : List Nat} {K : Nat → Nat} {cs : Nat → ClassId} (hLK : ∀ a {k : Nat}, K a = k → k ≠ 0 → a ∈ L) (A : Nat → Nat) (hA : y_A K A) (F : Nat → va_E) (a0 : Nat) (x1 : Int32) (x2 : Int32) (x3 : Int32) (ha0 : K a0 = 9) (hx1 : 0 ≤ x1.toInt ∧ x1.toInt ≤ 3) (hx2 : 0 ≤ x2.toInt ∧ x2.toInt ≤ 7) (hI : y_I K cs A F) (hp4 : (-4 ≤ x3.toInt)) : Met l yX7_partOf (Cond.code yX7_partOf cX7_partOf 4 (some .int) :: T0) ({ frames := 1, cells := 0, slots := 0, locals := 22 }) (va_Pc [.ref a0, .int x1, .int x2, .int x3] (s_W dC dI sz L F [(cs 0, .int), (cs 1, .byte), (cs 2, .long), (cs 3, .object RX5), (cs 4, .object RX4), (cs 5, .array .int), (cs 6, .char), (cs 7, .boolean)])) (va_Qi (fun (r : Int32) (G : Nat → va_E) => True ∧ True ∧ y_I K cs A G ∧ (∀ b, K b ∉ ([] : List Nat) → G b = F b) ∧ (∀ k, k ∈ ([1, 2, 3, 4, 5, 6, 7, 8, 11, 15, 16, 19, 25, 26, 27, 31, 32] : List Nat) → y_fi G a0 k = y_fi F a0 k) ∧ True) (fun (G : Nat → va_E) (t : State) => va_P (dC, dI) vwCl (va_pl L G) t.heap ∧ va_K (dC, dI) vwCl [(cs 0, .int), (cs 1, .byte), (cs 2, .long), (cs 3, .object RX5), (cs 4, .object RX4), (cs 5, .array .int), (cs 6, .char), (cs 7, .boolean)] t) (fun q => q ∈ L)) 0 0 (fun q => q ∈ L) := by
  refine Met.ofW (cc := cX7_partOf) (maxL := 4) (ret := (some .int)) (by decide) rfl ?_
  intro p e s m args below meth c s₁ B hml hv
  obtain ⟨rfl, hsz, hP, hK, hD, hN⟩ := hv
  have hx := B.exec
  have hb := B.bytes
  have hr := B.returns
  have hts : ∀ w ∈ T0, w.before _ s = true := fun w h => atoms_spec (ws := Cond.code yX7_partOf cX7_partOf 4 (some .int) :: T0) B.pre w (List.mem_cons_of_mem _ h)
  have hown : s.vm.findClass RX7 = some m.cls := findClass_of_methodNamed B.named
  have hlocks := B.notSynchronized
  have hS : va_S (fun q => q ∈ L) s.heap s.heap [] := va_S.rf
  have hfr : ∀ b, K b ∉ ([] : List Nat) → F b = F b := fun _ _ => rfl
  have hl := lv_entry ([.ref a0, .int x1, .int x2, .int x3]) (n := 4) (Nat.le_of_ble_eq_true rfl)
  rw [lg_entry_eq]
  generalize (lg_sl ([.ref a0, .int x1, .int x2, .int x3]) ++ List.replicate (4 - (lg_sl ([.ref a0, .int x1, .int x2, .int x3])).length) Slot.unset).toArray = ls at hl ⊢
  have hl : lv_has ls 4 [(0, .ref a0), (1, .int x1), (2, .int x2), (3, .int x3)] := hl
  refine s_gen hP hS (fun H locs hP hS => ?_)
  obtain ⟨z0, q0, oY0, bz0, bq0⟩ := y_opY hI ha0
  have hz0 : ∀ k, k ∈ ([1, 2, 3, 4, 5, 6, 7, 8, 11, 15, 16, 19, 25, 26, 27, 31, 32] : List Nat) → z0 k = z0 k := fun _ _ => rfl
  refine lv_iload_n hx hb dX7_partOf_0 rfl (lv_at hl 3 rfl) ?_
  refine lv_if_lt (tgt := 8) hx hb dX7_partOf_1 (by decide) (fun c1 => ?_) (fun c1 => ?_)
  · have c1 := (ax_lt (n := 0) (by decide)).mp c1
    refine lv_aload_n hx hb dX7_partOf_8 rfl (lv_at hl 0 rfl) ?_
    refine th_get (D := (dC, dI)) (ci := 7) (v := .ref (A 20)) (C := RX7) (T := TX7) (N := 34) hx hb hts inX7 hown hK hP (hLK _ ha0 (by decide)) oY0 rfl 20 (by decide) (hts _ T_251) (fun _ h9 => h9) rfl dX7_partOf_9 ?_
    refine lv_iload_n hx hb dX7_partOf_12 rfl (lv_at hl 1 rfl) ?_
    refine lv_iload_n hx hb dX7_partOf_13 rfl (lv_at hl 2 rfl) ?_
    refine lv_iconst (v := (-1)) hx hb dX7_partOf_14 (by decide) ?_
    refine lv_iload_n hx hb dX7_partOf_15 rfl (lv_at hl 3 rfl) ?_
    refine lv_isub hx hb dX7_partOf_16 ?_
    refine lv_topi (fun v2 ev2 => ?_)
    have qv2 : v2.toInt = (-1) - x3.toInt := by rw [ev2]; exact th_sub (by decide) rfl (by have q8 := th_lo x3; have q9 := th_hi x3; exact ⟨by omega, by omega⟩)
    have rg3 : 0 ≤ x1.toInt ∧ x1.toInt ≤ 3 := ⟨by omega, by omega⟩
    have rg4 : 0 ≤ x2.toInt ∧ x2.toInt ≤ 7 := ⟨by omega, by omega⟩
    have rg5 : 0 ≤ v2.toInt ∧ v2.toInt ≤ 3 := ⟨by omega, by omega⟩
    refine va_calli (va_runS (As := [.int x1, .int x2, .int v2]) (rest := [.ref (A 20)]) ⟨hx, hb, hml, hown, hts⟩ (y_X7_registerAt l dC dI H.size F x1 x2 v2 rg3 rg4 rg5) (cwS 3 hts (ax_gS T_1095 T_1097 T_265 T_1096) rfl rfl rfl (by decide +kernel) ⟨Nat.le_of_ble_eq_true rfl, Nat.le_of_ble_eq_true rfl⟩) ⟨fun a U g mk q => ⟨q.1, s_pc (U := U) rfl rfl q.2⟩, fun U hU hW => ⟨rfl, s_pw hU hW hP hK hD hN⟩⟩ rfl rfl hl.1 rfl (lv_room (Nat.le_of_ble_eq_true rfl)) dX7_partOf_17 ⟨Nat.zero_le _, Nat.zero_le _⟩) hS (fun q _ h => h) (fun q h => h) (fun r7 F8 t H1 locs ht hvm hw hB hz1 hk1 hS => ?_)
    obtain ⟨hP, hK1⟩ := hB
    rw [ht] at hP
    generalize H1 = H at hP hS ⊢
    clear hz1 hk1 hvm hK1
    obtain ⟨h9, h11, hG9, h10⟩ := hw
    rw [hG9] at hP
    replace h10 : (r7.toInt = 128 + 32 * x1.toInt + 4 * x2.toInt + v2.toInt) := by have q9 := h10; exact q9
    obtain ⟨f12, o13, b14⟩ := y_op20 hI
    refine th_iald hx hb hK hP (hLK _ (y_k20 hA) (by decide)) 0 o13 rfl (th_in ⟨by omega, by omega⟩) dX7_partOf_20 ?_
    refine lv_topi (fun v15 ev15 => ?_)
    exact W.iret (v := v15) hx hb hr (fun t ht hW => ⟨⟨v15, F, rfl, ⟨trivial, trivial, hI, hfr, fun k hk => (y_fiZ oY0 (s_sub (by decide) hk)).trans ((hz0 k hk).trans (y_fiZ oY0 (s_sub (by decide) hk)).symm), trivial⟩, by rw [ht]; exact hP, va_K.moved hW.alike hK⟩, hS.F ht⟩) hS.2.2 dX7_partOf_21
  · have c1 := mt (ax_lt (n := 0) (by decide)).mpr c1
    refine lv_iload_n hx hb dX7_partOf_4 rfl (lv_at hl 3 rfl) ?_
    refine lv_goto (tgt := 21) hx hb dX7_partOf_5 (by decide) ?_
    exact W.iret (v := x3) hx hb hr (fun t ht hW => ⟨⟨x3, F, rfl, ⟨trivial, trivial, hI, hfr, fun k hk => (y_fiZ oY0 (s_sub (by decide) hk)).trans ((hz0 k hk).trans (y_fiZ oY0 (s_sub (by decide) hk)).symm), trivial⟩, by rw [ht]; exact hP, va_K.moved hW.alike hK⟩, hS.F ht⟩) hS.2.2 dX7_partOf_21

set_option maxHeartbeats 4000000 in
set_option maxRecDepth 100000 in
theorem y_X7_modulo (l : Launch) (dC : Nat → ClassId) (dI : Nat → Nat → Nat) (sz : Nat) {L : List Nat} {cs : Nat → ClassId} (F : Nat → va_E) (y0 : Int64) (x1 : Int32) (hx1 : 1 ≤ x1.toInt ∧ x1.toInt ≤ 2147483647) : Met l yX7_modulo (Cond.code yX7_modulo cX7_modulo 5 (some .int) :: T0) ({ frames := 0, cells := 0, slots := 0, locals := 0 }) (va_Pc [.long y0, .int x1] (s_W dC dI sz L F [(cs 0, .int), (cs 1, .byte), (cs 2, .long), (cs 3, .object RX5), (cs 4, .object RX4), (cs 5, .array .int), (cs 6, .char), (cs 7, .boolean)])) (va_Qi (fun (r : Int32) (G : Nat → va_E) => True ∧ True ∧ G = F ∧ (0 ≤ r.toInt ∧ r.toInt < x1.toInt)) (fun (G : Nat → va_E) (t : State) => va_P (dC, dI) vwCl (va_pl L G) t.heap ∧ va_K (dC, dI) vwCl [(cs 0, .int), (cs 1, .byte), (cs 2, .long), (cs 3, .object RX5), (cs 4, .object RX4), (cs 5, .array .int), (cs 6, .char), (cs 7, .boolean)] t) (fun q => q ∈ L)) 0 0 (fun q => q ∈ L) := by
  refine Met.ofW (cc := cX7_modulo) (maxL := 5) (ret := (some .int)) (by decide) rfl ?_
  intro p e s m args below meth c s₁ B hml hv
  obtain ⟨rfl, hsz, hP, hK, hD, hN⟩ := hv
  have hx := B.exec
  have hb := B.bytes
  have hr := B.returns
  have hts : ∀ w ∈ T0, w.before _ s = true := fun w h => atoms_spec (ws := Cond.code yX7_modulo cX7_modulo 5 (some .int) :: T0) B.pre w (List.mem_cons_of_mem _ h)
  have hown : s.vm.findClass RX7 = some m.cls := findClass_of_methodNamed B.named
  have hlocks := B.notSynchronized
  have hS : va_S (fun q => q ∈ L) s.heap s.heap [] := va_S.rf
  have hl := lv_entry ([.long y0, .int x1]) (n := 5) (Nat.le_of_ble_eq_true rfl)
  rw [lg_entry_eq]
  generalize (lg_sl ([.long y0, .int x1]) ++ List.replicate (5 - (lg_sl ([.long y0, .int x1])).length) Slot.unset).toArray = ls at hl ⊢
  have hl : lv_has ls 5 [(0, .long y0), (2, .int x1)] := hl
  refine s_gen hP hS (fun H locs hP hS => ?_)
  refine lv_lload_n hx hb dX7_modulo_0 rfl (lv_at hl 0 rfl) ?_
  refine lv_iload_n hx hb dX7_modulo_1 rfl (lv_at hl 1 rfl) ?_
  refine lv_i2l hx hb dX7_modulo_2 rfl ?_
  refine lv_topl (fun v1 ev1 => ?_)
  have qv1 : v1.toInt = x1.toInt := y_i2l ev1
  refine lv_lrem hx hb dX7_modulo_3 (by rw [ev1]; exact th_nzL (by omega)) ?_
  refine lv_topl (fun v2 ev2 => ?_)
  have qv2 : -x1.toInt < v2.toInt ∧ v2.toInt < x1.toInt := by have q9 := y_modA (x := y0) (y := v1) (by omega); rw [← ev2] at q9; omega
  refine lv_lstore_n (lv' := [(3, .long v2), (0, .long y0), (2, .int x1)]) hx hb dX7_modulo_4 rfl hl (by decide) rfl (fun ls hl => ?_)
  refine lv_lload_n hx hb dX7_modulo_5 rfl (lv_at hl 0 rfl) ?_
  refine lv_lconst (v := 0) hx hb dX7_modulo_6 (by decide) ?_
  refine W.lcmp hx hb dX7_modulo_7 ?_
  refine lv_topi (fun v3 ev3 => ?_)
  have qv3 : (v3.toInt < 0 ↔ v2.toInt < 0) ∧ (0 < v3.toInt ↔ 0 < v2.toInt) := by rw [ev3]; exact y_cmp
  refine lv_if_ge (tgt := 18) hx hb dX7_modulo_8 (by decide) (fun c4 => ?_) (fun c4 => ?_)
  · have c4 := (ax_ge (n := 0) (by decide)).mp c4
    refine lv_lload_n hx hb dX7_modulo_18 rfl (lv_at hl 0 rfl) ?_
    refine lv_l2i hx hb dX7_modulo_19 rfl ?_
    refine lv_topi (fun v5 ev5 => ?_)
    have hi9 := th_hi x1
    have qv5 : v5.toInt = v2.toInt := by rw [ev5]; exact th_l32 ⟨by omega, by omega⟩
    exact W.iret (v := v5) hx hb hr (fun t ht hW => ⟨⟨v5, F, rfl, ⟨trivial, trivial, rfl, (by omega)⟩, by rw [ht]; exact hP, va_K.moved hW.alike hK⟩, hS.F ht⟩) hS.2.2 dX7_modulo_20
  · have c4 := mt (ax_ge (n := 0) (by decide)).mpr c4
    refine lv_lload_n hx hb dX7_modulo_11 rfl (lv_at hl 0 rfl) ?_
    refine lv_iload_n hx hb dX7_modulo_12 rfl (lv_at hl 2 rfl) ?_
    refine lv_i2l hx hb dX7_modulo_13 rfl ?_
    refine lv_topl (fun v6 ev6 => ?_)
    have qv6 : v6.toInt = x1.toInt := y_i2l ev6
    refine lv_ladd hx hb dX7_modulo_14 ?_
    refine lv_topl (fun v7 ev7 => ?_)
    have qv7 : v7.toInt = v2.toInt + v6.toInt := by rw [ev7]; exact y_addL ⟨by omega, by omega⟩
    refine lv_goto (tgt := 19) hx hb dX7_modulo_15 (by decide) ?_
    refine lv_l2i hx hb dX7_modulo_19 rfl ?_
    refine lv_topi (fun v8 ev8 => ?_)
    have hi9 := th_hi x1
    have qv8 : v8.toInt = v7.toInt := by rw [ev8]; exact th_l32 ⟨by omega, by omega⟩
    exact W.iret (v := v8) hx hb hr (fun t ht hW => ⟨⟨v8, F, rfl, ⟨trivial, trivial, rfl, (by omega)⟩, by rw [ht]; exact hP, va_K.moved hW.alike hK⟩, hS.F ht⟩) hS.2.2 dX7_modulo_20

set_option maxHeartbeats 4000000 in
set_option maxRecDepth 100000 in
theorem y_X7_bounded (l : Launch) (dC : Nat → ClassId) (dI : Nat → Nat → Nat) (sz : Nat) {L : List Nat} {cs : Nat → ClassId} (F : Nat → va_E) (y0 : Int64)  : Met l yX7_bounded (Cond.code yX7_bounded cX7_bounded 2 (some .int) :: T0) ({ frames := 0, cells := 0, slots := 0, locals := 0 }) (va_Pc [.long y0] (s_W dC dI sz L F [(cs 0, .int), (cs 1, .byte), (cs 2, .long), (cs 3, .object RX5), (cs 4, .object RX4), (cs 5, .array .int), (cs 6, .char), (cs 7, .boolean)])) (va_Qi (fun (r : Int32) (G : Nat → va_E) => True ∧ True ∧ G = F ∧ True) (fun (G : Nat → va_E) (t : State) => va_P (dC, dI) vwCl (va_pl L G) t.heap ∧ va_K (dC, dI) vwCl [(cs 0, .int), (cs 1, .byte), (cs 2, .long), (cs 3, .object RX5), (cs 4, .object RX4), (cs 5, .array .int), (cs 6, .char), (cs 7, .boolean)] t) (fun q => q ∈ L)) 0 0 (fun q => q ∈ L) := by
  refine Met.ofW (cc := cX7_bounded) (maxL := 2) (ret := (some .int)) (by decide) rfl ?_
  intro p e s m args below meth c s₁ B hml hv
  obtain ⟨rfl, hsz, hP, hK, hD, hN⟩ := hv
  have hx := B.exec
  have hb := B.bytes
  have hr := B.returns
  have hts : ∀ w ∈ T0, w.before _ s = true := fun w h => atoms_spec (ws := Cond.code yX7_bounded cX7_bounded 2 (some .int) :: T0) B.pre w (List.mem_cons_of_mem _ h)
  have hown : s.vm.findClass RX7 = some m.cls := findClass_of_methodNamed B.named
  have hlocks := B.notSynchronized
  have hS : va_S (fun q => q ∈ L) s.heap s.heap [] := va_S.rf
  have hl := lv_entry ([.long y0]) (n := 2) (Nat.le_of_ble_eq_true rfl)
  rw [lg_entry_eq]
  generalize (lg_sl ([.long y0]) ++ List.replicate (2 - (lg_sl ([.long y0])).length) Slot.unset).toArray = ls at hl ⊢
  have hl : lv_has ls 2 [(0, .long y0)] := hl
  refine s_gen hP hS (fun H locs hP hS => ?_)
  refine lv_lload_n hx hb dX7_bounded_0 rfl (lv_at hl 0 rfl) ?_
  refine lv_ldc2 hx hb hown (hts _ T_1038) dX7_bounded_1 ?_
  refine W.lcmp hx hb dX7_bounded_4 ?_
  refine lv_topi (fun v1 ev1 => ?_)
  have qv1 : (v1.toInt < 0 ↔ y0.toInt < 9999) ∧ (0 < v1.toInt ↔ 9999 < y0.toInt) := by rw [ev1]; exact y_cmp
  refine lv_if_le (tgt := 14) hx hb dX7_bounded_5 (by decide) (fun c2 => ?_) (fun c2 => ?_)
  · have c2 := (ax_le (n := 0) (by decide)).mp c2
    refine lv_lload_n hx hb dX7_bounded_14 rfl (lv_at hl 0 rfl) ?_
    refine lv_ldc2 hx hb hown (hts _ T_1039) dX7_bounded_15 ?_
    refine W.lcmp hx hb dX7_bounded_18 ?_
    refine lv_topi (fun v3 ev3 => ?_)
    have qv3 : (v3.toInt < 0 ↔ y0.toInt < (-9999)) ∧ (0 < v3.toInt ↔ (-9999) < y0.toInt) := by rw [ev3]; exact y_cmp
    refine lv_if_ge (tgt := 28) hx hb dX7_bounded_19 (by decide) (fun c4 => ?_) (fun c4 => ?_)
    · have c4 := (ax_ge (n := 0) (by decide)).mp c4
      refine lv_lload_n hx hb dX7_bounded_28 rfl (lv_at hl 0 rfl) ?_
      refine lv_l2i hx hb dX7_bounded_29 rfl ?_
      refine lv_topi (fun v5 ev5 => ?_)
      exact W.iret (v := v5) hx hb hr (fun t ht hW => ⟨⟨v5, F, rfl, ⟨trivial, trivial, rfl, trivial⟩, by rw [ht]; exact hP, va_K.moved hW.alike hK⟩, hS.F ht⟩) hS.2.2 dX7_bounded_30
    · have c4 := mt (ax_ge (n := 0) (by decide)).mpr c4
      refine lv_ldc2 hx hb hown (hts _ T_1039) dX7_bounded_22 ?_
      refine lv_goto (tgt := 29) hx hb dX7_bounded_25 (by decide) ?_
      refine lv_l2i hx hb dX7_bounded_29 rfl ?_
      refine lv_topi (fun v6 ev6 => ?_)
      exact W.iret (v := v6) hx hb hr (fun t ht hW => ⟨⟨v6, F, rfl, ⟨trivial, trivial, rfl, trivial⟩, by rw [ht]; exact hP, va_K.moved hW.alike hK⟩, hS.F ht⟩) hS.2.2 dX7_bounded_30
  · have c2 := mt (ax_le (n := 0) (by decide)).mpr c2
    refine lv_ldc2 hx hb hown (hts _ T_1038) dX7_bounded_8 ?_
    refine lv_goto (tgt := 29) hx hb dX7_bounded_11 (by decide) ?_
    refine lv_l2i hx hb dX7_bounded_29 rfl ?_
    refine lv_topi (fun v7 ev7 => ?_)
    exact W.iret (v := v7) hx hb hr (fun t ht hW => ⟨⟨v7, F, rfl, ⟨trivial, trivial, rfl, trivial⟩, by rw [ht]; exact hP, va_K.moved hW.alike hK⟩, hS.F ht⟩) hS.2.2 dX7_bounded_30

set_option maxHeartbeats 4000000 in
set_option maxRecDepth 100000 in
theorem y_X7_hasFirst (l : Launch) (dC : Nat → ClassId) (dI : Nat → Nat → Nat) (sz : Nat) {L : List Nat} {cs : Nat → ClassId} (F : Nat → va_E) (x0 : Int32) (hx0 : 0 ≤ x0.toInt ∧ x0.toInt ≤ 15) : Met l yX7_hasFirst (Cond.code yX7_hasFirst cX7_hasFirst 1 (some .boolean) :: T0) ({ frames := 1, cells := 0, slots := 0, locals := 20 }) (va_Pc [.int x0] (s_W dC dI sz L F [(cs 0, .int), (cs 1, .byte), (cs 2, .long), (cs 3, .object RX5), (cs 4, .object RX4), (cs 5, .array .int), (cs 6, .char), (cs 7, .boolean)])) (va_Qi (fun (r : Int32) (G : Nat → va_E) => (0 ≤ r.toInt ∧ r.toInt ≤ 1) ∧ True ∧ G = F ∧ ((r.toInt = 1 ∧ ¬ (x0.toInt = 5 ∨ x0.toInt = 6 ∨ 12 ≤ x0.toInt)) ∨ (r.toInt = 0 ∧ (x0.toInt = 5 ∨ x0.toInt = 6 ∨ 12 ≤ x0.toInt)))) (fun (G : Nat → va_E) (t : State) => va_P (dC, dI) vwCl (va_pl L G) t.heap ∧ va_K (dC, dI) vwCl [(cs 0, .int), (cs 1, .byte), (cs 2, .long), (cs 3, .object RX5), (cs 4, .object RX4), (cs 5, .array .int), (cs 6, .char), (cs 7, .boolean)] t) (fun q => q ∈ L)) 0 0 (fun q => q ∈ L) := by
  refine Met.ofW (cc := cX7_hasFirst) (maxL := 1) (ret := (some .boolean)) (by decide) rfl ?_
  intro p e s m args below meth c s₁ B hml hv
  obtain ⟨rfl, hsz, hP, hK, hD, hN⟩ := hv
  have hx := B.exec
  have hb := B.bytes
  have hr := B.returns
  have hts : ∀ w ∈ T0, w.before _ s = true := fun w h => atoms_spec (ws := Cond.code yX7_hasFirst cX7_hasFirst 1 (some .boolean) :: T0) B.pre w (List.mem_cons_of_mem _ h)
  have hown : s.vm.findClass RX7 = some m.cls := findClass_of_methodNamed B.named
  have hlocks := B.notSynchronized
  have hS : va_S (fun q => q ∈ L) s.heap s.heap [] := va_S.rf
  have hl := lv_entry ([.int x0]) (n := 1) (Nat.le_of_ble_eq_true rfl)
  rw [lg_entry_eq]
  generalize (lg_sl ([.int x0]) ++ List.replicate (1 - (lg_sl ([.int x0])).length) Slot.unset).toArray = ls at hl ⊢
  have hl : lv_has ls 1 [(0, .int x0)] := hl
  refine s_gen hP hS (fun H locs hP hS => ?_)
  refine lv_iload_n hx hb dX7_hasFirst_0 rfl (lv_at hl 0 rfl) ?_
  have rg1 : 0 ≤ x0.toInt ∧ x0.toInt ≤ 15 := ⟨by omega, by omega⟩
  refine va_calli (va_runS (As := [.int x0]) (rest := []) ⟨hx, hb, hml, hown, hts⟩ (y_X7_partsOf l dC dI H.size F x0 rg1) (cwS 1 hts (ax_gS T_1197 T_1199 T_265 T_1198) rfl rfl rfl (by decide +kernel) ⟨Nat.le_of_ble_eq_true rfl, Nat.le_of_ble_eq_true rfl⟩) ⟨fun a U g mk q => ⟨q.1, s_pc (U := U) rfl rfl q.2⟩, fun U hU hW => ⟨rfl, s_pw hU hW hP hK hD hN⟩⟩ rfl rfl hl.1 rfl (lv_room (Nat.le_of_ble_eq_true rfl)) dX7_hasFirst_1 ⟨Nat.zero_le _, Nat.zero_le _⟩) hS (fun q _ h => h) (fun q h => h) (fun r3 F4 t H1 locs ht hvm hw hB hz1 hk1 hS => ?_)
  obtain ⟨hP, hK1⟩ := hB
  rw [ht] at hP
  generalize H1 = H at hP hS ⊢
  clear hz1 hk1 hvm hK1
  obtain ⟨h5, h7, hG9, h6⟩ := hw
  rw [hG9] at hP
  replace h6 : ((r3.toInt = 0 ∧ (x0.toInt = 5 ∨ x0.toInt = 6 ∨ 12 ≤ x0.toInt)) ∨ (r3.toInt = 1 ∧ (x0.toInt = 0 ∨ x0.toInt = 7 ∨ x0.toInt = 9 ∨ x0.toInt = 11)) ∨ (r3.toInt = 2 ∧ ((1 ≤ x0.toInt ∧ x0.toInt ≤ 4) ∨ x0.toInt = 8 ∨ x0.toInt = 10))) := by have q9 := h6; exact q9
  refine lv_if_le (tgt := 11) hx hb dX7_hasFirst_4 (by decide) (fun c8 => ?_) (fun c8 => ?_)
  · have c8 := (ax_le (n := 0) (by decide)).mp c8
    refine lv_iconst (v := 0) hx hb dX7_hasFirst_11 (by decide) ?_
    have h9 : (0 : Int32).toInt = 0 := by decide
    exact W.zret (v := 0) (ty := .boolean) hx hb hr (by decide) (fun t ht hW => ⟨⟨0, F, rfl, ⟨(by decide), trivial, rfl, (by omega)⟩, by rw [ht]; exact hP, va_K.moved hW.alike hK⟩, hS.F ht⟩) hS.2.2 dX7_hasFirst_12
  · have c8 := mt (ax_le (n := 0) (by decide)).mpr c8
    refine lv_iconst (v := 1) hx hb dX7_hasFirst_7 (by decide) ?_
    refine lv_goto (tgt := 12) hx hb dX7_hasFirst_8 (by decide) ?_
    have h10 : (1 : Int32).toInt = 1 := by decide
    exact W.zret (v := 1) (ty := .boolean) hx hb hr (by decide) (fun t ht hW => ⟨⟨1, F, rfl, ⟨(by decide), trivial, rfl, (by omega)⟩, by rw [ht]; exact hP, va_K.moved hW.alike hK⟩, hS.F ht⟩) hS.2.2 dX7_hasFirst_12
