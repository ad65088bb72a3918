set_option maxHeartbeats 4000000 in
set_option maxRecDepth 100000 in
theorem y_X7_holding (l : Launch) (dC : Nat → ClassId) (dI : Nat → Nat → Nat) (sz : Nat) {L : List Nat} {K : Nat → Nat} {cs : Nat → ClassId} (hLK : ∀ a {k : Nat}, K a = k → k ≠ 0 → a ∈ L) (A : Nat → Nat) (hA : y_A K A) (F : Nat → va_E) (a0 : Nat) (x1 : Int32) (x2 : Int32) (ha0 : K a0 = 9) (hx1 : 0 ≤ x1.toInt ∧ x1.toInt ≤ 39) (hI : y_I K cs A F) (hPG : y_PG (y_at F (A 13))) (hl1 : (x1.toInt < (y_c (y_at F (A 13)) 387).toInt)) : Met l yX7_holding (Cond.code yX7_holding cX7_holding 6 (some .int) :: T0) ({ frames := 3, cells := 0, slots := 0, locals := 64 }) (va_Pc [.ref a0, .int x1, .int x2] (s_W dC dI sz L F [(cs 0, .int), (cs 1, .byte), (cs 2, .long), (cs 3, .object RX5), (cs 4, .object RX4), (cs 5, .array .int), (cs 6, .char), (cs 7, .boolean)])) (va_Qi (fun (r : Int32) (G : Nat → va_E) => True ∧ True ∧ y_I K cs A G ∧ (∀ b, K b ∉ ([] : List Nat) → G b = F b) ∧ (∀ k, k ∈ ([1, 2, 3, 4, 5, 6, 7, 8, 11, 15, 16, 19, 25, 26, 27, 31, 32] : List Nat) → y_fi G a0 k = y_fi F a0 k) ∧ (y_sub r x2 ∧ (r = x2 ∨ ((y_c (y_at F (A 13)) (8 * x1.toInt)).toInt = 12 ∧ ¬ (y_c (y_at F (A 13)) (8 * x1.toInt + 5)).toInt = -1000000)))) (fun (G : Nat → va_E) (t : State) => va_P (dC, dI) vwCl (va_pl L G) t.heap ∧ va_K (dC, dI) vwCl [(cs 0, .int), (cs 1, .byte), (cs 2, .long), (cs 3, .object RX5), (cs 4, .object RX4), (cs 5, .array .int), (cs 6, .char), (cs 7, .boolean)] t) (fun q => q ∈ L)) 0 0 (fun q => q ∈ L) := by
  refine Met.ofW (cc := cX7_holding) (maxL := 6) (ret := (some .int)) (by decide) rfl ?_
  intro p e s m args below meth c s₁ B hml hv
  obtain ⟨rfl, hsz, hP, hK, hD, hN⟩ := hv
  have hx := B.exec
  have hb := B.bytes
  have hr := B.returns
  have hts : ∀ w ∈ T0, w.before _ s = true := fun w h => atoms_spec (ws := Cond.code yX7_holding cX7_holding 6 (some .int) :: T0) B.pre w (List.mem_cons_of_mem _ h)
  have hown : s.vm.findClass RX7 = some m.cls := findClass_of_methodNamed B.named
  have hlocks := B.notSynchronized
  have hS : va_S (fun q => q ∈ L) s.heap s.heap [] := va_S.rf
  have hfr : ∀ b, K b ∉ ([] : List Nat) → F b = F b := fun _ _ => rfl
  have hl := lv_entry ([.ref a0, .int x1, .int x2]) (n := 6) (Nat.le_of_ble_eq_true rfl)
  rw [lg_entry_eq]
  generalize (lg_sl ([.ref a0, .int x1, .int x2]) ++ List.replicate (6 - (lg_sl ([.ref a0, .int x1, .int x2])).length) Slot.unset).toArray = ls at hl ⊢
  have hl : lv_has ls 6 [(0, .ref a0), (1, .int x1), (2, .int x2)] := hl
  refine s_gen hP hS (fun H locs hP hS => ?_)
  obtain ⟨z0, q0, oY0, bz0, bq0⟩ := y_opY hI ha0
  have hz0 : ∀ k, k ∈ ([1, 2, 3, 4, 5, 6, 7, 8, 11, 15, 16, 19, 25, 26, 27, 31, 32] : List Nat) → z0 k = z0 k := fun _ _ => rfl
  obtain ⟨f1, o2, b3⟩ := y_op13 hI
  replace hPG : y_PG f1 := by have q9 := hPG; rw [y_atE o2] at q9; exact q9
  replace hl1 : (x1.toInt < (y_c f1 387).toInt) := by have q9 := hl1; rw [y_atE o2] at q9; exact q9
  have hL := y_P0L hPG.1
  have hW := y_P0W hPG.1
  refine lv_aload_n hx hb dX7_holding_0 rfl (lv_at hl 0 rfl) ?_
  refine lv_iload_n hx hb dX7_holding_1 rfl (lv_at hl 1 rfl) ?_
  have rg4 : 0 ≤ x1.toInt ∧ x1.toInt ≤ 40 := ⟨by omega, by omega⟩
  refine va_calli (va_runV (As := [.int x1]) (rest := []) ⟨hx, hb, hml, hown, hts⟩ (y_X7_isFork l dC dI H.size hLK A hA F a0 x1 ha0 rg4 hI) (cwV 1 hts (ax_gV T_1179 T_1181 T_1182 T_265 T_1180) rfl rfl rfl (by decide +kernel) ⟨Nat.le_of_ble_eq_true rfl, Nat.le_of_ble_eq_true rfl⟩) ⟨fun a U g mk q => ⟨q.1, s_pc (U := U) rfl rfl q.2⟩, s_recv hK hP (hLK _ ha0 (by decide)) (ci := 7) rfl oY0, fun U hU hW => ⟨rfl, s_pw hU hW hP hK hD hN⟩⟩ rfl rfl hl.1 rfl (lv_room (Nat.le_of_ble_eq_true rfl)) dX7_holding_2 ⟨Nat.zero_le _, Nat.zero_le _⟩) hS (fun q _ h => h) (fun q h => h) (fun r6 F7 t H1 locs ht hvm hw hB hz1 hk1 hS => ?_)
  obtain ⟨hP, hK1⟩ := hB
  rw [ht] at hP
  generalize H1 = H at hP hS ⊢
  clear hz1 hk1 hvm hK1
  obtain ⟨h8, h10, hI, hfr1, hzf, h9⟩ := hw
  have o11 : F7 (A 13) = .inl (cs 0, 400, .inl f1) := (hfr1 _ (by rw [(y_k13 hA)]; decide)).trans o2
  have oY12 : F7 a0 = .inr (7, y_fl A z0 q0) := (hfr1 _ (by rw [ha0]; decide)).trans oY0
  have hfr : ∀ b, K b ∉ ([] : List Nat) → F7 b = F b := fun b hb9 => (hfr1 b (fun q => hb9 (s_sub (by decide) q))).trans (hfr b hb9)
  replace h9 : ((r6.toInt = 1 ∧ (y_c f1 (8 * x1.toInt)).toInt = 12 ∧ ¬ (y_c f1 (8 * x1.toInt + 5)).toInt = -1000000) ∨ (r6.toInt = 0 ∧ (¬ (y_c f1 (8 * x1.toInt)).toInt = 12 ∨ (y_c f1 (8 * x1.toInt + 5)).toInt = -1000000))) := by have q9 := h9; rw [y_atE o2] at q9; exact q9
  refine lv_if_ne (tgt := 10) hx hb dX7_holding_5 (by decide) (fun c13 => ?_) (fun c13 => ?_)
  · have c13 := mt (ax_eq (n := 0) (by decide)).mpr c13
    refine lv_iconst (v := 0) hx hb dX7_holding_10 (by decide) ?_
    refine lv_istore_n (lv' := [(3, .int 0), (0, .ref a0), (1, .int x1), (2, .int x2)]) hx hb dX7_holding_11 rfl hl (by decide) rfl (fun ls hl => ?_)
    refine lv_iconst (v := 0) hx hb dX7_holding_12 (by decide) ?_
    refine lv_istore (lv' := [(4, .int 0), (3, .int 0), (0, .ref a0), (1, .int x1), (2, .int x2)]) hx hb dX7_holding_13 hl (by decide) rfl (fun ls hl => ?_)
    have h16 : (0 : Int32).toInt = 0 := by decide
    have h17 : (0 : Int32).toInt = 0 := by decide
    refine th_loop (fun n g H locs => ∃ (G : Nat → va_E) (ls : Array Slot) (w14 : Int32) (w15 : Int32), g = F0 m 15 ls [] ∧ lv_has ls 6 [(0, .ref a0), (1, .int x1), (2, .int x2), (3, .int w14), (4, .int w15)] ∧ va_P (dC, dI) vwCl (va_pl L G) H ∧ va_S (fun q => q ∈ L) s.heap H locs ∧ y_I K cs A G ∧ (∀ b, K b ∉ ([] : List Nat) → G b = F b) ∧ (∀ k, k ∈ ([1, 2, 3, 4, 5, 6, 7, 8, 11, 15, 16, 19, 25, 26, 27, 31, 32] : List Nat) → y_fi G a0 k = z0 k) ∧ True ∧ (0 ≤ w15.toInt ∧ w15.toInt ≤ 8) ∧ (0 ≤ x1.toInt ∧ x1.toInt ≤ 39) ∧ (y_sub w14 x2) ∧ ((y_c f1 (8 * x1.toInt)).toInt = 12 ∧ ¬ (y_c f1 (8 * x1.toInt + 5)).toInt = -1000000) ∧ n = (9 - w15.toInt).toNat) _ ⟨F7, _, 0, 0, rfl, lv_sub hl [2, 3, 4, 1, 0] rfl, hP, hS, hI, hfr, (fun k hk => (y_fiZ oY12 (s_sub (by decide) hk)).trans (hz0 k hk)), trivial, (by decide), ⟨by omega, by omega⟩, (show (y_sub 0 x2) from (y_sub_0 _)), (by omega), rfl⟩ (fun n ih15 g H locs hq => ?_)
    obtain ⟨F23, ls, w14, w15, rfl, hl, hP, hS, hI, hfr, hz0, h18, h19, h20, h21, h22, hn⟩ := hq
    have o24 : F23 (A 13) = .inl (cs 0, 400, .inl f1) := (hfr _ (by rw [(y_k13 hA)]; decide)).trans o2
    have oY25 : F23 a0 = .inr (7, y_fl A z0 q0) := (hfr _ (by rw [ha0]; decide)).trans oY0
    have hz0 : ∀ k, k ∈ ([1, 2, 3, 4, 5, 6, 7, 8, 11, 15, 16, 19, 25, 26, 27, 31, 32] : List Nat) → z0 k = z0 k := fun _ _ => rfl
    have hn_25 := hn
    refine th_join (fun g H locs => ∃ (G : Nat → va_E) (ls : Array Slot) (w26 : Int32), g = F0 m 117 ls [] ∧ lv_has ls 6 [(0, .ref a0), (1, .int x1), (2, .int x2), (3, .int w26), (4, .int w15)] ∧ va_P (dC, dI) vwCl (va_pl L G) H ∧ va_S (fun q => q ∈ L) s.heap H locs ∧ y_I K cs A G ∧ (∀ b, K b ∉ ([] : List Nat) → G b = F b) ∧ (∀ k, k ∈ ([1, 2, 3, 4, 5, 6, 7, 8, 11, 15, 16, 19, 25, 26, 27, 31, 32] : List Nat) → y_fi G a0 k = z0 k) ∧ True ∧ (0 ≤ x1.toInt ∧ x1.toInt ≤ 39) ∧ (0 ≤ w15.toInt ∧ w15.toInt ≤ 7) ∧ (y_sub w26 x2) ∧ ((y_c f1 (8 * x1.toInt)).toInt = 12 ∧ ¬ (y_c f1 (8 * x1.toInt + 5)).toInt = -1000000)) (fun K117 => ?_) ?_
    refine th_join (fun g H locs => ∃ (G : Nat → va_E) (ls : Array Slot), g = F0 m 110 ls [] ∧ lv_has ls 6 [(0, .ref a0), (1, .int x1), (2, .int x2), (3, .int w14), (4, .int w15)] ∧ va_P (dC, dI) vwCl (va_pl L G) H ∧ va_S (fun q => q ∈ L) s.heap H locs ∧ y_I K cs A G ∧ (∀ b, K b ∉ ([] : List Nat) → G b = F b) ∧ (∀ k, k ∈ ([1, 2, 3, 4, 5, 6, 7, 8, 11, 15, 16, 19, 25, 26, 27, 31, 32] : List Nat) → y_fi G a0 k = z0 k) ∧ (0 ≤ x1.toInt ∧ x1.toInt ≤ 39) ∧ (0 ≤ w15.toInt ∧ w15.toInt ≤ 7) ∧ (y_sub w14 x2) ∧ ((y_c f1 (8 * x1.toInt)).toInt = 12 ∧ ¬ (y_c f1 (8 * x1.toInt + 5)).toInt = -1000000) ∧ (bt x2 w15.toInt.toNat = true)) (fun K110 => ?_) ?_
    · refine lv_iload hx hb dX7_holding_15 (lv_at hl 4 rfl) ?_
      refine lv_bipush (v := 8) hx hb dX7_holding_17 (by decide) ?_
      refine lv_icmp_ge (tgt := 123) hx hb dX7_holding_19 (by decide) (fun c27 => ?_) (fun c27 => ?_)
      · have c27 := (ax_ge (n := 8) (by decide)).mp c27
        refine lv_iload_n hx hb dX7_holding_123 rfl (lv_at hl 3 rfl) ?_
        exact W.iret (v := w14) hx hb hr (fun t ht hW => ⟨⟨w14, F23, rfl, ⟨trivial, trivial, hI, hfr, fun k hk => (y_fiZ oY25 (s_sub (by decide) hk)).trans ((hz0 k hk).trans (y_fiZ oY0 (s_sub (by decide) hk)).symm), (by rw [y_atE o2]; exact ⟨h21, Or.inr ⟨by omega, by omega⟩⟩)⟩, by rw [ht]; exact hP, va_K.moved hW.alike hK⟩, hS.F ht⟩) hS.2.2 dX7_holding_124
      · have c27 := mt (ax_ge (n := 8) (by decide)).mpr c27
        refine lv_iload_n hx hb dX7_holding_22 rfl (lv_at hl 2 rfl) ?_
        refine lv_iload hx hb dX7_holding_23 (lv_at hl 4 rfl) ?_
        have rg28 : 0 ≤ w15.toInt ∧ w15.toInt ≤ 31 := ⟨by omega, by omega⟩
        refine va_calli (va_runS (As := [.int x2, .int w15]) (rest := []) ⟨hx, hb, hml, hown, hts⟩ (y_X7_isOf l dC dI H.size F23 x2 w15 rg28) (cwS 2 hts (ax_gS T_1027 T_1029 T_265 T_1028) rfl rfl rfl (by decide +kernel) ⟨Nat.le_of_ble_eq_true rfl, Nat.le_of_ble_eq_true rfl⟩) ⟨fun a U g mk q => ⟨q.1, s_pc (U := U) rfl rfl q.2⟩, fun U hU hW => ⟨rfl, s_pw hU hW hP hK hD hN⟩⟩ rfl rfl hl.1 rfl (lv_room (Nat.le_of_ble_eq_true rfl)) dX7_holding_25 ⟨Nat.zero_le _, Nat.zero_le _⟩) hS (fun q _ h => h) (fun q h => h) (fun r30 F31 t H1 locs ht hvm hw hB hz1 hk1 hS => ?_)
        obtain ⟨hP, hK1⟩ := hB
        rw [ht] at hP
        generalize H1 = H at hP hS ⊢
        clear hz1 hk1 hvm hK1
        obtain ⟨h32, h34, hG9, h33⟩ := hw
        rw [hG9] at hP
        replace h33 : ((r30.toInt = 1 ∧ bt x2 w15.toInt.toNat = true) ∨ (r30.toInt = 0 ∧ bt x2 w15.toInt.toNat = false)) := by have q9 := h33; exact q9
        refine lv_if_ne (tgt := 34) hx hb dX7_holding_28 (by decide) (fun c35 => ?_) (fun c35 => ?_)
        · have c35 := mt (ax_eq (n := 0) (by decide)).mpr c35
          have hbk := y_bT h33 c35
          refine lv_aload_n hx hb dX7_holding_34 rfl (lv_at hl 0 rfl) ?_
          refine lv_iload_n hx hb dX7_holding_35 rfl (lv_at hl 1 rfl) ?_
          refine lv_iconst (v := 5) hx hb dX7_holding_36 (by decide) ?_
          refine va_calli (va_runV (As := [.int x1, .int 5]) (rest := []) ⟨hx, hb, hml, hown, hts⟩ (y_X7_of l dC dI H.size hLK A hA F23 a0 x1 5 ha0 rg4 (by decide) hI) (cwV 2 hts (ax_gV T_1131 T_1133 T_1134 T_265 T_1132) rfl rfl rfl (by decide +kernel) ⟨Nat.le_of_ble_eq_true rfl, Nat.le_of_ble_eq_true rfl⟩) ⟨fun a U g mk q => ⟨q.1, s_pc (U := U) rfl rfl q.2⟩, s_recv hK hP (hLK _ ha0 (by decide)) (ci := 7) rfl oY25, fun U hU hW => ⟨rfl, s_pw hU hW hP hK hD hN⟩⟩ rfl rfl hl.1 rfl (lv_room (Nat.le_of_ble_eq_true rfl)) dX7_holding_37 ⟨Nat.zero_le _, Nat.zero_le _⟩) hS (fun q _ h => h) (fun q h => h) (fun r37 F38 t H1 locs ht hvm hw hB hz1 hk1 hS => ?_)
          obtain ⟨hP, hK1⟩ := hB
          rw [ht] at hP
          generalize H1 = H at hP hS ⊢
          clear hz1 hk1 hvm hK1
          obtain ⟨h39, h41, hI, hfr1, hzf, h40⟩ := hw
          have o42 : F38 (A 13) = .inl (cs 0, 400, .inl f1) := (hfr1 _ (by rw [(y_k13 hA)]; decide)).trans o24
          have oY43 : F38 a0 = .inr (7, y_fl A z0 q0) := (hfr1 _ (by rw [ha0]; decide)).trans oY25
          have hfr : ∀ b, K b ∉ ([] : List Nat) → F38 b = F b := fun b hb9 => (hfr1 b (fun q => hb9 (s_sub (by decide) q))).trans (hfr b hb9)
          replace h40 : (r37 = y_c f1 (8 * x1.toInt + 5)) := by have q9 := h40; rw [y_atE o24] at q9; exact q9
          have h40 : r37 = y_c f1 (8 * x1.toInt + 5) := h40.trans (congrArg (y_c f1) (by omega))
          have h44 := congrArg Int32.toInt h40
          refine lv_istore (lv' := [(5, .int r37), (0, .ref a0), (1, .int x1), (2, .int x2), (3, .int w14), (4, .int w15)]) hx hb dX7_holding_40 hl (by decide) rfl (fun ls hl => ?_)
          refine lv_iload hx hb dX7_holding_42 (lv_at hl 0 rfl) ?_
          refine lv_if_ne (tgt := 67) hx hb dX7_holding_44 (by decide) (fun c45 => ?_) (fun c45 => ?_)
          · have c45 := mt (ax_eq (n := 0) (by decide)).mpr c45
            refine lv_iload hx hb dX7_holding_67 (lv_at hl 0 rfl) ?_
            refine lv_iconst (v := 1) hx hb dX7_holding_69 (by decide) ?_
            refine lv_icmp_ne (tgt := 93) hx hb dX7_holding_70 (by decide) (fun c46 => ?_) (fun c46 => ?_)
            · have c46 := mt (ax_eq (n := 1) (by decide)).mpr c46
              refine lv_aload_n hx hb dX7_holding_93 rfl (lv_at hl 1 rfl) ?_
              refine th_get (D := (dC, dI)) (ci := 7) (v := .ref (A 21)) (C := RX7) (T := TX7) (N := 34) hx hb hts inX7 hown hK hP (hLK _ ha0 (by decide)) oY43 rfl 21 (by decide) (hts _ T_252) (fun _ h9 => h9) rfl dX7_holding_94 ?_
              refine lv_iload hx hb dX7_holding_97 (lv_at hl 5 rfl) ?_
              obtain ⟨f47, o48, b49⟩ := y_op21 hI
              refine th_iald hx hb hK hP (hLK _ (y_k21 hA) (by decide)) 0 o48 rfl (th_in ⟨by omega, by omega⟩) dX7_holding_99 ?_
              refine lv_topi (fun v50 ev50 => ?_)
              refine lv_aload_n hx hb dX7_holding_100 rfl (lv_at hl 1 rfl) ?_
              refine th_get (D := (dC, dI)) (ci := 7) (v := .ref (A 22)) (C := RX7) (T := TX7) (N := 34) hx hb hts inX7 hown hK hP (hLK _ ha0 (by decide)) oY43 rfl 22 (by decide) (hts _ T_253) (fun _ h9 => h9) rfl dX7_holding_101 ?_
              refine lv_iload hx hb dX7_holding_104 (lv_at hl 5 rfl) ?_
              obtain ⟨f51, o52, b53⟩ := y_op22 hI
              refine th_iald hx hb hK hP (hLK _ (y_k22 hA) (by decide)) 0 o52 rfl (th_in ⟨by omega, by omega⟩) dX7_holding_106 ?_
              refine lv_topi (fun v54 ev54 => ?_)
              refine lv_icmp_le (tgt := 117) hx hb dX7_holding_107 (by decide) (fun c55 => ?_) (fun c55 => ?_)
              · have c55 := Int32.le_iff_toInt_le.mp c55
                exact K117 _ _ _ ⟨F38, _, w14, rfl, lv_sub hl [1, 2, 3, 4, 5] rfl, hP, hS, hI, hfr, (fun k hk => (y_fiZ oY43 (s_sub (by decide) hk)).trans (hz0 k hk)), trivial, ⟨by omega, by omega⟩, ⟨by omega, by omega⟩, (show (y_sub w14 x2) from h21), (by omega)⟩
              · have c55 := mt Int32.le_iff_toInt_le.mpr c55
                exact K110 _ _ _ ⟨F38, _, rfl, lv_sub hl [1, 2, 3, 4, 5] rfl, hP, hS, hI, hfr, (fun k hk => (y_fiZ oY43 (s_sub (by decide) hk)).trans (hz0 k hk)), ⟨by omega, by omega⟩, ⟨by omega, by omega⟩, (show (y_sub w14 x2) from h21), (by omega), (show (bt x2 w15.toInt.toNat = true) from hbk)⟩
            · have c46 := (ax_eq (n := 1) (by decide)).mp c46
              refine lv_aload_n hx hb dX7_holding_73 rfl (lv_at hl 1 rfl) ?_
              refine th_get (D := (dC, dI)) (ci := 7) (v := .ref (A 21)) (C := RX7) (T := TX7) (N := 34) hx hb hts inX7 hown hK hP (hLK _ ha0 (by decide)) oY43 rfl 21 (by decide) (hts _ T_252) (fun _ h9 => h9) rfl dX7_holding_74 ?_
              refine lv_iload hx hb dX7_holding_77 (lv_at hl 5 rfl) ?_
              obtain ⟨f56, o57, b58⟩ := y_op21 hI
              refine th_iald hx hb hK hP (hLK _ (y_k21 hA) (by decide)) 0 o57 rfl (th_in ⟨by omega, by omega⟩) dX7_holding_79 ?_
              refine lv_topi (fun v59 ev59 => ?_)
              refine lv_aload_n hx hb dX7_holding_80 rfl (lv_at hl 1 rfl) ?_
              refine th_get (D := (dC, dI)) (ci := 7) (v := .ref (A 22)) (C := RX7) (T := TX7) (N := 34) hx hb hts inX7 hown hK hP (hLK _ ha0 (by decide)) oY43 rfl 22 (by decide) (hts _ T_253) (fun _ h9 => h9) rfl dX7_holding_81 ?_
              refine lv_iload hx hb dX7_holding_84 (lv_at hl 5 rfl) ?_
              obtain ⟨f60, o61, b62⟩ := y_op22 hI
              refine th_iald hx hb hK hP (hLK _ (y_k22 hA) (by decide)) 0 o61 rfl (th_in ⟨by omega, by omega⟩) dX7_holding_86 ?_
              refine lv_topi (fun v63 ev63 => ?_)
              refine lv_icmp_ne (tgt := 117) hx hb dX7_holding_87 (by decide) (fun c64 => ?_) (fun c64 => ?_)
              · have c64 := mt Int32.toInt_inj.symm.mpr c64
                exact K117 _ _ _ ⟨F38, _, w14, rfl, lv_sub hl [1, 2, 3, 4, 5] rfl, hP, hS, hI, hfr, (fun k hk => (y_fiZ oY43 (s_sub (by decide) hk)).trans (hz0 k hk)), trivial, ⟨by omega, by omega⟩, ⟨by omega, by omega⟩, (show (y_sub w14 x2) from h21), (by omega)⟩
              · have c64 := Int32.toInt_inj.symm.mp c64
                refine lv_goto (tgt := 110) hx hb dX7_holding_90 (by decide) ?_
                exact K110 _ _ _ ⟨F38, _, rfl, lv_sub hl [1, 2, 3, 4, 5] rfl, hP, hS, hI, hfr, (fun k hk => (y_fiZ oY43 (s_sub (by decide) hk)).trans (hz0 k hk)), ⟨by omega, by omega⟩, ⟨by omega, by omega⟩, (show (y_sub w14 x2) from h21), (by omega), (show (bt x2 w15.toInt.toNat = true) from hbk)⟩
          · have c45 := (ax_eq (n := 0) (by decide)).mp c45
            refine lv_aload_n hx hb dX7_holding_47 rfl (lv_at hl 1 rfl) ?_
            refine th_get (D := (dC, dI)) (ci := 7) (v := .ref (A 21)) (C := RX7) (T := TX7) (N := 34) hx hb hts inX7 hown hK hP (hLK _ ha0 (by decide)) oY43 rfl 21 (by decide) (hts _ T_252) (fun _ h9 => h9) rfl dX7_holding_48 ?_
            refine lv_iload hx hb dX7_holding_51 (lv_at hl 5 rfl) ?_
            obtain ⟨f65, o66, b67⟩ := y_op21 hI
            refine th_iald hx hb hK hP (hLK _ (y_k21 hA) (by decide)) 0 o66 rfl (th_in ⟨by omega, by omega⟩) dX7_holding_53 ?_
            refine lv_topi (fun v68 ev68 => ?_)
            refine lv_aload_n hx hb dX7_holding_54 rfl (lv_at hl 1 rfl) ?_
            refine th_get (D := (dC, dI)) (ci := 7) (v := .ref (A 22)) (C := RX7) (T := TX7) (N := 34) hx hb hts inX7 hown hK hP (hLK _ ha0 (by decide)) oY43 rfl 22 (by decide) (hts _ T_253) (fun _ h9 => h9) rfl dX7_holding_55 ?_
            refine lv_iload hx hb dX7_holding_58 (lv_at hl 5 rfl) ?_
            obtain ⟨f69, o70, b71⟩ := y_op22 hI
            refine th_iald hx hb hK hP (hLK _ (y_k22 hA) (by decide)) 0 o70 rfl (th_in ⟨by omega, by omega⟩) dX7_holding_60 ?_
            refine lv_topi (fun v72 ev72 => ?_)
            refine lv_icmp_ge (tgt := 117) hx hb dX7_holding_61 (by decide) (fun c73 => ?_) (fun c73 => ?_)
            · have c73 := Int32.le_iff_toInt_le.mp c73
              exact K117 _ _ _ ⟨F38, _, w14, rfl, lv_sub hl [1, 2, 3, 4, 5] rfl, hP, hS, hI, hfr, (fun k hk => (y_fiZ oY43 (s_sub (by decide) hk)).trans (hz0 k hk)), trivial, ⟨by omega, by omega⟩, ⟨by omega, by omega⟩, (show (y_sub w14 x2) from h21), (by omega)⟩
            · have c73 := mt Int32.le_iff_toInt_le.mpr c73
              refine lv_goto (tgt := 110) hx hb dX7_holding_64 (by decide) ?_
              exact K110 _ _ _ ⟨F38, _, rfl, lv_sub hl [1, 2, 3, 4, 5] rfl, hP, hS, hI, hfr, (fun k hk => (y_fiZ oY43 (s_sub (by decide) hk)).trans (hz0 k hk)), ⟨by omega, by omega⟩, ⟨by omega, by omega⟩, (show (y_sub w14 x2) from h21), (by omega), (show (bt x2 w15.toInt.toNat = true) from hbk)⟩
        · have c35 := (ax_eq (n := 0) (by decide)).mp c35
          refine lv_goto (tgt := 117) hx hb dX7_holding_31 (by decide) ?_
          exact K117 _ _ _ ⟨F23, _, w14, rfl, lv_sub hl [0, 1, 2, 3, 4] rfl, hP, hS, hI, hfr, (fun k hk => (y_fiZ oY25 (s_sub (by decide) hk)).trans (hz0 k hk)), trivial, ⟨by omega, by omega⟩, ⟨by omega, by omega⟩, (show (y_sub w14 x2) from h21), (by omega)⟩
    · intro g H locs hq
      obtain ⟨F79, ls, rfl, hl, hP, hS, hI, hfr, hz0, h74, h75, h76, h77, h78⟩ := hq
      have o80 : F79 (A 13) = .inl (cs 0, 400, .inl f1) := (hfr _ (by rw [(y_k13 hA)]; decide)).trans o2
      have oY81 : F79 a0 = .inr (7, y_fl A z0 q0) := (hfr _ (by rw [ha0]; decide)).trans oY0
      have hz0 : ∀ k, k ∈ ([1, 2, 3, 4, 5, 6, 7, 8, 11, 15, 16, 19, 25, 26, 27, 31, 32] : List Nat) → z0 k = z0 k := fun _ _ => rfl
      have hbk := h78
      refine lv_iload_n hx hb dX7_holding_110 rfl (lv_at hl 3 rfl) ?_
      refine lv_iconst (v := 1) hx hb dX7_holding_111 (by decide) ?_
      refine lv_iload hx hb dX7_holding_112 (lv_at hl 4 rfl) ?_
      refine lv_ishl hx hb dX7_holding_114 ?_
      refine lv_topi (fun v82 ev82 => ?_)
      refine lv_ior hx hb dX7_holding_115 ?_
      refine lv_topi (fun v83 ev83 => ?_)
      have hor : v83 = w14 ||| (1 : Int32) <<< (w15 &&& 31) := by rw [ev83, ev82]
      refine lv_istore_n (lv' := [(3, .int v83), (0, .ref a0), (1, .int x1), (2, .int x2), (4, .int w15)]) hx hb dX7_holding_116 rfl hl (by decide) rfl (fun ls hl => ?_)
      exact K117 _ _ _ ⟨F79, _, v83, rfl, lv_sub hl [1, 2, 3, 0, 4] rfl, hP, hS, hI, hfr, (fun k hk => (y_fiZ oY81 (s_sub (by decide) hk)).trans (hz0 k hk)), trivial, ⟨by omega, by omega⟩, ⟨by omega, by omega⟩, (show (y_sub v83 x2) from (by rw [hor]; exact y_sub_or ⟨by omega, by omega⟩ h76 hbk)), (by omega)⟩
    · intro g H locs hq
      obtain ⟨F89, ls, w26, rfl, hl, hP, hS, hI, hfr, hz0, h84, h85, h86, h87, h88⟩ := hq
      have o90 : F89 (A 13) = .inl (cs 0, 400, .inl f1) := (hfr _ (by rw [(y_k13 hA)]; decide)).trans o2
      have oY91 : F89 a0 = .inr (7, y_fl A z0 q0) := (hfr _ (by rw [ha0]; decide)).trans oY0
      have hz0 : ∀ k, k ∈ ([1, 2, 3, 4, 5, 6, 7, 8, 11, 15, 16, 19, 25, 26, 27, 31, 32] : List Nat) → z0 k = z0 k := fun _ _ => rfl
      obtain ⟨v92, ev92⟩ : ∃ y : Int32, w15 + 1 = y := ⟨_, rfl⟩
      have qv92 : v92.toInt = w15.toInt + 1 := by rw [← ev92]; exact th_add rfl (by decide) ⟨by omega, by omega⟩
      refine lv_iinc (v := v92) (lv' := [(4, .int v92), (0, .ref a0), (1, .int x1), (2, .int x2), (3, .int w26)]) hx hb dX7_holding_117 hl (k := 4) rfl ev92 (by decide) rfl (fun ls hl => ?_)
      refine lv_goto (tgt := 15) hx hb dX7_holding_120 (by decide) ?_
      exact ih15 _ _ _ _ (by omega) ⟨F89, _, w26, v92, rfl, lv_sub hl [1, 2, 3, 4, 0] rfl, hP, hS, hI, hfr, (fun k hk => (y_fiZ oY91 (s_sub (by decide) hk)).trans (hz0 k hk)), trivial, ⟨by omega, by omega⟩, ⟨by omega, by omega⟩, (show (y_sub w26 x2) from h87), (by omega), rfl⟩
  · have c13 := (ax_eq (n := 0) (by decide)).mp c13
    refine lv_iload_n hx hb dX7_holding_8 rfl (lv_at hl 2 rfl) ?_
    exact W.iret (v := x2) hx hb hr (fun t ht hW => ⟨⟨x2, F7, rfl, ⟨trivial, trivial, hI, hfr, fun k hk => (y_fiZ oY12 (s_sub (by decide) hk)).trans ((hz0 k hk).trans (y_fiZ oY0 (s_sub (by decide) hk)).symm), (by rw [y_atE o2]; exact ⟨y_sub_r _, Or.inl rfl⟩)⟩, by rw [ht]; exact hP, va_K.moved hW.alike hK⟩, hS.F ht⟩) hS.2.2 dX7_holding_9

set_option maxHeartbeats 4000000 in
set_option maxRecDepth 100000 in
theorem y_X7_nexts (l : Launch) (dC : Nat → ClassId) (dI : Nat → Nat → Nat) (sz : Nat) {L : List Nat} {K : Nat → Nat} {cs : Nat → ClassId} (hLK : ∀ a {k : Nat}, K a = k → k ≠ 0 → a ∈ L) (A : Nat → Nat) (hA : y_A K A) (F : Nat → va_E) (a0 : Nat) (x1 : Int32) (x2 : Int32) (x3 : Int32) (ha0 : K a0 = 9) (hx1 : 0 ≤ x1.toInt ∧ x1.toInt ≤ 3) (hI : y_I K cs A F) (hP0 : y_P0 (y_at F (A 13))) (hW0 : y_W0 (y_at F (A 20)) x1.toInt) (hWf : y_Wf (y_c (y_at F (A 13)) 387).toInt (y_at F (A 20)) x1.toInt) (hm1 : ((y_c (y_at F (A 20)) 3).toInt = 1)) (hx3 : (0 ≤ x3.toInt ∧ x3.toInt ≤ (y_c (y_at F (A 13)) 387).toInt)) : Met l yX7_nexts (Cond.code yX7_nexts cX7_nexts 5 none :: T0) ({ frames := 3, cells := 0, slots := 0, locals := 66 }) (va_Pc [.ref a0, .int x1, .int x2, .int x3] (s_W dC dI sz L F [(cs 0, .int), (cs 1, .byte), (cs 2, .long), (cs 3, .object RX5), (cs 4, .object RX4), (cs 5, .array .int), (cs 6, .char), (cs 7, .boolean)])) (va_Qv (fun (G : Nat → va_E) => True ∧ True ∧ y_I K cs A G ∧ (∀ b, K b ∉ [70] → G b = F b) ∧ (∀ k, k ∈ ([1, 2, 3, 4, 5, 6, 7, 8, 11, 15, 16, 19, 25, 26, 27, 31, 32] : List Nat) → y_fi G a0 k = y_fi F a0 k) ∧ (y_W0 (y_at G (A 20)) x1.toInt ∧ y_Wf (y_c (y_at F (A 13)) 387).toInt (y_at G (A 20)) x1.toInt ∧ y_fw x1.toInt (y_at F (A 20)) (y_at G (A 20)) ∧ ∀ i, bt x2 i = false → bt (y_c (y_at G (A 20)) (107 + 6 * x1.toInt)) i = bt (y_c (y_at F (A 20)) (107 + 6 * x1.toInt)) i)) (fun (G : Nat → va_E) (t : State) => va_P (dC, dI) vwCl (va_pl L G) t.heap ∧ va_K (dC, dI) vwCl [(cs 0, .int), (cs 1, .byte), (cs 2, .long), (cs 3, .object RX5), (cs 4, .object RX4), (cs 5, .array .int), (cs 6, .char), (cs 7, .boolean)] t) (fun q => q ∈ L)) 0 0 (fun q => q ∈ L) := by
  refine Met.ofW (cc := cX7_nexts) (maxL := 5) (ret := none) (by decide) rfl ?_
  intro p e s m args below meth c s₁ B hml hv
  obtain ⟨rfl, hsz, hP, hK, hD, hN⟩ := hv
  have hx := B.exec
  have hb := B.bytes
  have hr := B.returns
  have hts : ∀ w ∈ T0, w.before _ s = true := fun w h => atoms_spec (ws := Cond.code yX7_nexts cX7_nexts 5 none :: T0) B.pre w (List.mem_cons_of_mem _ h)
  have hown : s.vm.findClass RX7 = some m.cls := findClass_of_methodNamed B.named
  have hlocks := B.notSynchronized
  have hS : va_S (fun q => q ∈ L) s.heap s.heap [] := va_S.rf
  have hfr : ∀ b, K b ∉ [70] → F b = F b := fun _ _ => rfl
  have hl := lv_entry ([.ref a0, .int x1, .int x2, .int x3]) (n := 5) (Nat.le_of_ble_eq_true rfl)
  rw [lg_entry_eq]
  generalize (lg_sl ([.ref a0, .int x1, .int x2, .int x3]) ++ List.replicate (5 - (lg_sl ([.ref a0, .int x1, .int x2, .int x3])).length) Slot.unset).toArray = ls at hl ⊢
  have hl : lv_has ls 5 [(0, .ref a0), (1, .int x1), (2, .int x2), (3, .int x3)] := hl
  refine s_gen hP hS (fun H locs hP hS => ?_)
  obtain ⟨z0, q0, oY0, bz0, bq0⟩ := y_opY hI ha0
  have hz0 : ∀ k, k ∈ ([1, 2, 3, 4, 5, 6, 7, 8, 11, 15, 16, 19, 25, 26, 27, 31, 32] : List Nat) → z0 k = z0 k := fun _ _ => rfl
  obtain ⟨f1, o2, b3⟩ := y_op13 hI
  obtain ⟨f4, o5, b6⟩ := y_op20 hI
  replace hP0 : y_P0 f1 := by have q9 := hP0; rw [y_atE o2] at q9; exact q9
  replace hW0 : y_W0 f4 x1.toInt := by have q9 := hW0; rw [y_atE o5] at q9; exact q9
  replace hWf : y_Wf (y_c f1 387).toInt f4 x1.toInt := by have q9 := hWf; rw [y_atE o2, y_atE o5] at q9; exact q9
  replace hm1 : ((y_c f4 3).toInt = 1) := by have q9 := hm1; rw [y_atE o5] at q9; exact q9
  replace hx3 : (0 ≤ x3.toInt ∧ x3.toInt ≤ (y_c f1 387).toInt) := by have q9 := hx3; rw [y_atE o2] at q9; exact q9
  have hL := y_P0L hP0
  have hW := y_P0W hP0
  have hnw := hW0.2.2
  refine lv_iconst (v := 0) hx hb dX7_nexts_0 (by decide) ?_
  refine lv_istore (lv' := [(4, .int 0), (0, .ref a0), (1, .int x1), (2, .int x2), (3, .int x3)]) hx hb dX7_nexts_1 hl (by decide) rfl (fun ls hl => ?_)
  have h8 : (0 : Int32).toInt = 0 := by decide
  refine th_loop (fun n g H locs => ∃ (G : Nat → va_E) (ls : Array Slot) (w7 : Int32), g = F0 m 3 ls [] ∧ lv_has ls 5 [(0, .ref a0), (1, .int x1), (2, .int x2), (3, .int x3), (4, .int w7)] ∧ va_P (dC, dI) vwCl (va_pl L G) H ∧ va_S (fun q => q ∈ L) s.heap H locs ∧ y_I K cs A G ∧ (∀ b, K b ∉ [70] → G b = F b) ∧ (∀ k, k ∈ ([1, 2, 3, 4, 5, 6, 7, 8, 11, 15, 16, 19, 25, 26, 27, 31, 32] : List Nat) → y_fi G a0 k = z0 k) ∧ (0 ≤ w7.toInt ∧ w7.toInt ≤ 8) ∧ (0 ≤ x1.toInt ∧ x1.toInt ≤ 3) ∧ (∀ j : Int, 0 ≤ j → y_c (y_at G (A 20)) j = y_nxt f4 x1.toInt w7.toInt x2 x3 j) ∧ n = (9 - w7.toInt).toNat) _ ⟨F, _, 0, rfl, lv_sub hl [1, 2, 3, 4, 0] rfl, hP, hS, hI, hfr, (fun k hk => (y_fiZ oY0 (s_sub (by decide) hk)).trans (hz0 k hk)), (by decide), ⟨by omega, by omega⟩, (by rw [y_atE o5]; exact (fun j _ => by rw [show (0 : Int32).toInt = 0 by decide]; exact y_nxt0.symm)), rfl⟩ (fun n ih3 g H locs hq => ?_)
  obtain ⟨F12, ls, w7, rfl, hl, hP, hS, hI, hfr, hz0, h9, h10, h11, hn⟩ := hq
  have o13 : F12 (A 13) = .inl (cs 0, 400, .inl f1) := (hfr _ (by rw [(y_k13 hA)]; decide)).trans o2
  have oY14 : F12 a0 = .inr (7, y_fl A z0 q0) := (hfr _ (by rw [ha0]; decide)).trans oY0
  have hz0 : ∀ k, k ∈ ([1, 2, 3, 4, 5, 6, 7, 8, 11, 15, 16, 19, 25, 26, 27, 31, 32] : List Nat) → z0 k = z0 k := fun _ _ => rfl
  obtain ⟨f15, o16, b17⟩ := y_op20 hI
  replace h11 : (∀ j : Int, 0 ≤ j → y_c f15 j = y_nxt f4 x1.toInt w7.toInt x2 x3 j) := by have q9 := h11; rw [y_atE o16] at q9; exact q9
  have hn_17 := hn
  refine th_join (fun g H locs => ∃ (G : Nat → va_E) (ls : Array Slot), g = F0 m 31 ls [] ∧ lv_has ls 5 [(0, .ref a0), (1, .int x1), (2, .int x2), (3, .int x3), (4, .int w7)] ∧ va_P (dC, dI) vwCl (va_pl L G) H ∧ va_S (fun q => q ∈ L) s.heap H locs ∧ y_I K cs A G ∧ (∀ b, K b ∉ [70] → G b = F b) ∧ (∀ k, k ∈ ([1, 2, 3, 4, 5, 6, 7, 8, 11, 15, 16, 19, 25, 26, 27, 31, 32] : List Nat) → y_fi G a0 k = z0 k) ∧ (0 ≤ x1.toInt ∧ x1.toInt ≤ 3) ∧ (0 ≤ w7.toInt ∧ w7.toInt ≤ 7) ∧ (∀ j : Int, 0 ≤ j → y_c (y_at G (A 20)) j = y_nxt f4 x1.toInt (w7.toInt + 1) x2 x3 j)) (fun K31 => ?_) ?_
  · refine lv_iload hx hb dX7_nexts_3 (lv_at hl 4 rfl) ?_
    refine lv_bipush (v := 8) hx hb dX7_nexts_5 (by decide) ?_
    refine lv_icmp_ge (tgt := 37) hx hb dX7_nexts_7 (by decide) (fun c18 => ?_) (fun c18 => ?_)
    · have c18 := (ax_ge (n := 8) (by decide)).mp c18
      have hq8 := y_nexts ⟨by omega, by omega⟩ (fun j hj => by have q9 := h11 j hj; rw [show w7.toInt = 8 by omega] at q9; exact q9) hx3 hW0 hWf
      have hm9 := congrArg Int32.toInt (y_fw3 (by omega) hq8.2.1)
      have hn9 := hq8.1.2.2.2
      refine lv_aload_n hx hb dX7_nexts_37 rfl (lv_at hl 0 rfl) ?_
      refine th_get (D := (dC, dI)) (ci := 7) (v := .ref (A 20)) (C := RX7) (T := TX7) (N := 34) hx hb hts inX7 hown hK hP (hLK _ ha0 (by decide)) oY14 rfl 20 (by decide) (hts _ T_251) (fun _ h9 => h9) rfl dX7_nexts_38 ?_
      refine lv_iconst (v := 3) hx hb dX7_nexts_41 (by decide) ?_
      refine th_iald hx hb hK hP (hLK _ (y_k20 hA) (by decide)) 0 o16 rfl (ax_in (by decide)) dX7_nexts_42 ?_
      refine lv_topi (fun v19 ev19 => ?_)
      have Ev19 : v19 = y_c f15 (3) := ev19.trans (y_ci (by decide))
      have tEv19 := congrArg Int32.toInt Ev19
      refine lv_iconst (v := 1) hx hb dX7_nexts_43 (by decide) ?_
      refine lv_icmp_ne (tgt := 61) hx hb dX7_nexts_44 (by decide) (fun c20 => ?_) (fun c20 => ?_)
      · have c20 := mt (ax_eq (n := 1) (by decide)).mpr c20
        exact W.vret hx hb hr (fun t ht hW => ⟨⟨F12, rfl, ⟨trivial, trivial, hI, hfr, fun k hk => (y_fiZ oY14 (s_sub (by decide) hk)).trans ((hz0 k hk).trans (y_fiZ oY0 (s_sub (by decide) hk)).symm), (by rw [y_atE o16, y_atE o2, y_atE o5]; exact y_nextsA (by omega) hq8)⟩, by rw [ht]; exact hP, va_K.moved hW.alike hK⟩, hS.F ht⟩) hS.2.2 dX7_nexts_61
      · have c20 := (ax_eq (n := 1) (by decide)).mp c20
        refine lv_iload_n hx hb dX7_nexts_47 rfl (lv_at hl 3 rfl) ?_
        refine lv_aload_n hx hb dX7_nexts_48 rfl (lv_at hl 0 rfl) ?_
        refine va_calli (va_runV (As := []) (rest := [.int x3]) ⟨hx, hb, hml, hown, hts⟩ (y_X7_lines l dC dI H.size hLK A hA F12 a0 ha0 hI) (cwV 0 hts (ax_gV T_1030 T_1032 T_1033 T_265 T_1031) rfl rfl rfl (by decide +kernel) ⟨Nat.le_of_ble_eq_true rfl, Nat.le_of_ble_eq_true rfl⟩) ⟨fun a U g mk q => ⟨q.1, s_pc (U := U) rfl rfl q.2⟩, s_recv hK hP (hLK _ ha0 (by decide)) (ci := 7) rfl oY14, fun U hU hW => ⟨rfl, s_pw hU hW hP hK hD hN⟩⟩ rfl rfl hl.1 rfl (lv_room (Nat.le_of_ble_eq_true rfl)) dX7_nexts_49 ⟨Nat.zero_le _, Nat.zero_le _⟩) hS (fun q _ h => h) (fun q h => h) (fun r22 F23 t H1 locs ht hvm hw hB hz1 hk1 hS => ?_)
        obtain ⟨hP, hK1⟩ := hB
        rw [ht] at hP
        generalize H1 = H at hP hS ⊢
        clear hz1 hk1 hvm hK1
        obtain ⟨h24, h26, hI, hfr1, hzf, h25⟩ := hw
        have o27 : F23 (A 13) = .inl (cs 0, 400, .inl f1) := (hfr1 _ (by rw [(y_k13 hA)]; decide)).trans o13
        have o28 : F23 (A 20) = .inl (cs 0, 918, .inl f15) := (hfr1 _ (by rw [(y_k20 hA)]; decide)).trans o16
        have oY29 : F23 a0 = .inr (7, y_fl A z0 q0) := (hfr1 _ (by rw [ha0]; decide)).trans oY14
        have hfr : ∀ b, K b ∉ [70] → F23 b = F b := fun b hb9 => (hfr1 b (fun q => hb9 (s_sub (by decide) q))).trans (hfr b hb9)
        replace h25 : (r22 = y_c f1 387) := by have q9 := h25; rw [y_atE o13] at q9; exact q9
        have h30 := congrArg Int32.toInt h25
        have h31 : 1 ≤ r22.toInt ∧ r22.toInt ≤ 40 := ⟨by omega, by omega⟩
        refine lv_icmp_ne (tgt := 61) hx hb dX7_nexts_52 (by decide) (fun c32 => ?_) (fun c32 => ?_)
        · have c32 := mt Int32.toInt_inj.symm.mpr c32
          exact W.vret hx hb hr (fun t ht hW => ⟨⟨F23, rfl, ⟨trivial, trivial, hI, hfr, fun k hk => (y_fiZ oY29 (s_sub (by decide) hk)).trans ((hz0 k hk).trans (y_fiZ oY0 (s_sub (by decide) hk)).symm), (by rw [y_atE o28, y_atE o2, y_atE o5]; exact y_nextsA (by omega) hq8)⟩, by rw [ht]; exact hP, va_K.moved hW.alike hK⟩, hS.F ht⟩) hS.2.2 dX7_nexts_61
        · have c32 := Int32.toInt_inj.symm.mp c32
          refine lv_aload_n hx hb dX7_nexts_55 rfl (lv_at hl 0 rfl) ?_
          refine lv_iload_n hx hb dX7_nexts_56 rfl (lv_at hl 1 rfl) ?_
          refine lv_iload_n hx hb dX7_nexts_57 rfl (lv_at hl 2 rfl) ?_
          have rg33 : 0 ≤ x1.toInt ∧ x1.toInt ≤ 3 := ⟨by omega, by omega⟩
          refine va_callv (va_runV (As := [.int x1, .int x2]) (rest := []) ⟨hx, hb, hml, hown, hts⟩ (y_X7_dies l dC dI H.size hLK A hA F23 a0 x1 x2 ha0 rg33 hI (by rw [y_atE o28]; exact hn9)) (cwV 2 hts (ax_gV T_1106 T_1108 T_1109 T_265 T_1107) rfl rfl rfl (by decide +kernel) ⟨Nat.le_of_ble_eq_true rfl, Nat.le_of_ble_eq_true rfl⟩) ⟨fun a U g mk q => ⟨q.1, s_pc (U := U) rfl rfl q.2⟩, s_recv hK hP (hLK _ ha0 (by decide)) (ci := 7) rfl oY29, fun U hU hW => ⟨rfl, s_pw hU hW hP hK hD hN⟩⟩ rfl rfl hl.1 rfl (lv_room (Nat.le_of_ble_eq_true rfl)) dX7_nexts_58 ⟨Nat.zero_le _, Nat.zero_le _⟩) hS (fun q _ h => h) (fun q h => h) (fun F35 t H1 locs ht hvm hw hB hz1 hk1 hS => ?_)
          obtain ⟨hP, hK1⟩ := hB
          rw [ht] at hP
          generalize H1 = H at hP hS ⊢
          clear hz1 hk1 hvm hK1
          obtain ⟨h36, h38, hI, hfr1, hzf, h37⟩ := hw
          have o39 : F35 (A 13) = .inl (cs 0, 400, .inl f1) := (hfr1 _ (by rw [(y_k13 hA)]; decide)).trans o27
          have oY40 : F35 a0 = .inr (7, y_fl A z0 q0) := (hfr1 _ (by rw [ha0]; decide)).trans oY29
          have hfr : ∀ b, K b ∉ [70] → F35 b = F b := fun b hb9 => (hfr1 b (fun q => hb9 (s_sub (by decide) q))).trans (hfr b hb9)
          obtain ⟨f41, o42, b43⟩ := y_op20 hI
          replace h37 : (∀ j : Int, 0 ≤ j → y_c f41 j = y_die f15 x1.toInt (y_c f15 (109 + 6 * x1.toInt)).toInt x2 j) := by have q9 := h37; rw [y_atE o42, y_atE o28] at q9; exact q9
          exact W.vret hx hb hr (fun t ht hW => ⟨⟨F35, rfl, ⟨trivial, trivial, hI, hfr, fun k hk => (y_fiZ oY40 (s_sub (by decide) hk)).trans ((hz0 k hk).trans (y_fiZ oY0 (s_sub (by decide) hk)).symm), (by rw [y_atE o42, y_atE o2, y_atE o5]; exact y_nextsD ⟨by omega, by omega⟩ hn9.2 hq8 h37)⟩, by rw [ht]; exact hP, va_K.moved hW.alike hK⟩, hS.F ht⟩) hS.2.2 dX7_nexts_61
    · have c18 := mt (ax_ge (n := 8) (by decide)).mpr c18
      refine lv_iload_n hx hb dX7_nexts_10 rfl (lv_at hl 2 rfl) ?_
      refine lv_iload hx hb dX7_nexts_11 (lv_at hl 4 rfl) ?_
      have rg44 : 0 ≤ w7.toInt ∧ w7.toInt ≤ 31 := ⟨by omega, by omega⟩
      refine va_calli (va_runS (As := [.int x2, .int w7]) (rest := []) ⟨hx, hb, hml, hown, hts⟩ (y_X7_isOf l dC dI H.size F12 x2 w7 rg44) (cwS 2 hts (ax_gS T_1027 T_1029 T_265 T_1028) rfl rfl rfl (by decide +kernel) ⟨Nat.le_of_ble_eq_true rfl, Nat.le_of_ble_eq_true rfl⟩) ⟨fun a U g mk q => ⟨q.1, s_pc (U := U) rfl rfl q.2⟩, fun U hU hW => ⟨rfl, s_pw hU hW hP hK hD hN⟩⟩ rfl rfl hl.1 rfl (lv_room (Nat.le_of_ble_eq_true rfl)) dX7_nexts_13 ⟨Nat.zero_le _, Nat.zero_le _⟩) hS (fun q _ h => h) (fun q h => h) (fun r46 F47 t H1 locs ht hvm hw hB hz1 hk1 hS => ?_)
      obtain ⟨hP, hK1⟩ := hB
      rw [ht] at hP
      generalize H1 = H at hP hS ⊢
      clear hz1 hk1 hvm hK1
      obtain ⟨h48, h50, hG9, h49⟩ := hw
      rw [hG9] at hP
      replace h49 : ((r46.toInt = 1 ∧ bt x2 w7.toInt.toNat = true) ∨ (r46.toInt = 0 ∧ bt x2 w7.toInt.toNat = false)) := by have q9 := h49; exact q9
      refine lv_if_eq (tgt := 31) hx hb dX7_nexts_16 (by decide) (fun c51 => ?_) (fun c51 => ?_)
      · have c51 := (ax_eq (n := 0) (by decide)).mp c51
        exact K31 _ _ _ ⟨F12, _, rfl, lv_sub hl [0, 1, 2, 3, 4] rfl, hP, hS, hI, hfr, (fun k hk => (y_fiZ oY14 (s_sub (by decide) hk)).trans (hz0 k hk)), ⟨by omega, by omega⟩, ⟨by omega, by omega⟩, (by rw [y_atE o16]; exact (y_nxtN h11 (y_bF h49 c51)))⟩
      · have c51 := mt (ax_eq (n := 0) (by decide)).mpr c51
        have hbk := y_bT h49 c51
        refine lv_aload_n hx hb dX7_nexts_19 rfl (lv_at hl 0 rfl) ?_
        refine th_get (D := (dC, dI)) (ci := 7) (v := .ref (A 20)) (C := RX7) (T := TX7) (N := 34) hx hb hts inX7 hown hK hP (hLK _ ha0 (by decide)) oY14 rfl 20 (by decide) (hts _ T_251) (fun _ h9 => h9) rfl dX7_nexts_20 ?_
        refine lv_iload_n hx hb dX7_nexts_23 rfl (lv_at hl 1 rfl) ?_
        refine lv_iload hx hb dX7_nexts_24 (lv_at hl 4 rfl) ?_
        have rg52 : 0 ≤ x1.toInt ∧ x1.toInt ≤ 3 := ⟨by omega, by omega⟩
        have rg53 : 0 ≤ w7.toInt ∧ w7.toInt ≤ 7 := ⟨by omega, by omega⟩
        refine va_calli (va_runS (As := [.int x1, .int w7]) (rest := [.ref (A 20)]) ⟨hx, hb, hml, hown, hts⟩ (y_X7_nextAt l dC dI H.size F12 x1 w7 rg52 rg53) (cwS 2 hts (ax_gS T_1024 T_1026 T_265 T_1025) rfl rfl rfl (by decide +kernel) ⟨Nat.le_of_ble_eq_true rfl, Nat.le_of_ble_eq_true rfl⟩) ⟨fun a U g mk q => ⟨q.1, s_pc (U := U) rfl rfl q.2⟩, fun U hU hW => ⟨rfl, s_pw hU hW hP hK hD hN⟩⟩ rfl rfl hl.1 rfl (lv_room (Nat.le_of_ble_eq_true rfl)) dX7_nexts_26 ⟨Nat.zero_le _, Nat.zero_le _⟩) hS (fun q _ h => h) (fun q h => h) (fun r55 F56 t H1 locs ht hvm hw hB hz1 hk1 hS => ?_)
        obtain ⟨hP, hK1⟩ := hB
        rw [ht] at hP
        generalize H1 = H at hP hS ⊢
        clear hz1 hk1 hvm hK1
        obtain ⟨h57, h59, hG9, h58⟩ := hw
        rw [hG9] at hP
        replace h58 : (r55.toInt = 256 + 8 * x1.toInt + w7.toInt) := by have q9 := h58; exact q9
        refine lv_iload_n hx hb dX7_nexts_29 rfl (lv_at hl 3 rfl) ?_
        refine th_iast hx hb hK hP hD hS (hLK _ (y_k20 hA) (by decide)) 0 o16 rfl (th_in ⟨by omega, by omega⟩) dX7_nexts_30 (fun H locs hP hS => ?_)
        obtain ⟨f60, u61⟩ : ∃ g : Nat → Int32, g = upd f15 (r55 : Int32).toNatClampNeg x3 := ⟨_, rfl⟩
        rw [← u61] at hP
        have b62 : y_bd 20 f60 := trivial
        have hP : va_P (dC, dI) vwCl (va_pl L (va_up F12 (A 20) (.inl (cs 0, 918, .inl f60)))) H := hP
        obtain ⟨F63, hF64⟩ : ∃ G : Nat → va_E, G = va_up F12 (A 20) (.inl (cs 0, 918, .inl f60)) := ⟨_, rfl⟩
        rw [← hF64] at hP
        have hI : y_I K cs A F63 := by rw [hF64]; exact y_clA (i := 20) hA hI (by decide) b62
        have hfr : ∀ b, K b ∉ [70] → F63 b = F b := by rw [hF64]; exact s_fr hfr (y_k20 hA) (by decide)
        have o65 : F63 (A 13) = .inl (cs 0, 400, .inl f1) := by rw [hF64]; exact th_ne (th_kd (y_k13 hA) (y_k20 hA) (by decide)) o13
        have oY66 : F63 a0 = .inr (7, y_fl A z0 q0) := by rw [hF64]; exact th_ne (th_kd ha0 (y_k20 hA) (by decide)) oY14
        have o67 : F63 (A 20) = .inl (cs 0, 918, .inl f60) := by rw [hF64]; exact th_up
        have u68 : ∀ j : Int, 0 ≤ j → y_c f60 j = if j = r55.toInt then x3 else y_c f15 j := by rw [u61]; exact y_cu rfl (by omega)
        exact K31 _ _ _ ⟨F63, _, rfl, lv_sub hl [0, 1, 2, 3, 4] rfl, hP, hS, hI, hfr, (fun k hk => (y_fiZ oY66 (s_sub (by decide) hk)).trans (hz0 k hk)), ⟨by omega, by omega⟩, ⟨by omega, by omega⟩, (by rw [y_atE o67]; exact (y_nxtS (by omega) (by omega) h11 u68 (by omega) hbk))⟩
  · intro g H locs hq
    obtain ⟨F72, ls, rfl, hl, hP, hS, hI, hfr, hz0, h69, h70, h71⟩ := hq
    have o73 : F72 (A 13) = .inl (cs 0, 400, .inl f1) := (hfr _ (by rw [(y_k13 hA)]; decide)).trans o2
    have oY74 : F72 a0 = .inr (7, y_fl A z0 q0) := (hfr _ (by rw [ha0]; decide)).trans oY0
    have hz0 : ∀ k, k ∈ ([1, 2, 3, 4, 5, 6, 7, 8, 11, 15, 16, 19, 25, 26, 27, 31, 32] : List Nat) → z0 k = z0 k := fun _ _ => rfl
    obtain ⟨f75, o76, b77⟩ := y_op20 hI
    replace h71 : (∀ j : Int, 0 ≤ j → y_c f75 j = y_nxt f4 x1.toInt (w7.toInt + 1) x2 x3 j) := by have q9 := h71; rw [y_atE o76] at q9; exact q9
    obtain ⟨v78, ev78⟩ : ∃ y : Int32, w7 + 1 = y := ⟨_, rfl⟩
    have qv78 : v78.toInt = w7.toInt + 1 := by rw [← ev78]; exact th_add rfl (by decide) ⟨by omega, by omega⟩
    refine lv_iinc (v := v78) (lv' := [(4, .int v78), (0, .ref a0), (1, .int x1), (2, .int x2), (3, .int x3)]) hx hb dX7_nexts_31 hl (k := 4) rfl ev78 (by decide) rfl (fun ls hl => ?_)
    refine lv_goto (tgt := 3) hx hb dX7_nexts_34 (by decide) ?_
    exact ih3 _ _ _ _ (by omega) ⟨F72, _, v78, rfl, lv_sub hl [1, 2, 3, 4, 0] rfl, hP, hS, hI, hfr, (fun k hk => (y_fiZ oY74 (s_sub (by decide) hk)).trans (hz0 k hk)), ⟨by omega, by omega⟩, ⟨by omega, by omega⟩, (by rw [y_atE o76]; exact (fun j hj => by rw [show v78.toInt = w7.toInt + 1 by omega]; exact h71 j hj)), rfl⟩

set_option maxHeartbeats 4000000 in
set_option maxRecDepth 100000 in
theorem y_X7_laysPart (l : Launch) (dC : Nat → ClassId) (dI : Nat → Nat → Nat) (sz : Nat) {L : List Nat} {K : Nat → Nat} {cs : Nat → ClassId} (hLK : ∀ a {k : Nat}, K a = k → k ≠ 0 → a ∈ L) (A : Nat → Nat) (hA : y_A K A) (F : Nat → va_E) (a0 : Nat) (x1 : Int32) (x2 : Int32) (x3 : Int32) (x4 : Int32) (ha0 : K a0 = 9) (hx1 : 0 ≤ x1.toInt ∧ x1.toInt ≤ 3) (hI : y_I K cs A F) (hW0 : y_W0 (y_at F (A 20)) x1.toInt) (hWs : y_Ws (y_c (y_at F (A 13)) 387).toInt (y_at F (A 20)) x1.toInt) (hLP : y_LP (y_c (y_at F (A 13)) 387).toInt (y_at F (A 20)) x1.toInt x2 x3 x4) : Met l yX7_laysPart (Cond.code yX7_laysPart cX7_laysPart 5 none :: T0) ({ frames := 3, cells := 0, slots := 0, locals := 68 }) (va_Pc [.ref a0, .int x1, .int x2, .int x3, .int x4] (s_W dC dI sz L F [(cs 0, .int), (cs 1, .byte), (cs 2, .long), (cs 3, .object RX5), (cs 4, .object RX4), (cs 5, .array .int), (cs 6, .char), (cs 7, .boolean)])) (va_Qv (fun (G : Nat → va_E) => True ∧ True ∧ y_I K cs A G ∧ (∀ b, K b ∉ [70] → G b = F b) ∧ (∀ k, k ∈ ([1, 2, 3, 4, 5, 6, 7, 8, 11, 15, 16, 19, 25, 26, 27, 31, 32] : List Nat) → y_fi G a0 k = y_fi F a0 k) ∧ (y_W0 (y_at G (A 20)) x1.toInt ∧ y_Ws (y_c (y_at F (A 13)) 387).toInt (y_at G (A 20)) x1.toInt ∧ y_fw x1.toInt (y_at F (A 20)) (y_at G (A 20)) ∧ y_LQ (y_at F (A 20)) x1.toInt x4 (y_at G (A 20)))) (fun (G : Nat → va_E) (t : State) => va_P (dC, dI) vwCl (va_pl L G) t.heap ∧ va_K (dC, dI) vwCl [(cs 0, .int), (cs 1, .byte), (cs 2, .long), (cs 3, .object RX5), (cs 4, .object RX4), (cs 5, .array .int), (cs 6, .char), (cs 7, .boolean)] t) (fun q => q ∈ L)) 0 0 (fun q => q ∈ L) := by
  refine Met.ofW (cc := cX7_laysPart) (maxL := 5) (ret := none) (by decide) rfl ?_
  intro p e s m args below meth c s₁ B hml hv
  obtain ⟨rfl, hsz, hP, hK, hD, hN⟩ := hv
  have hx := B.exec
  have hb := B.bytes
  have hr := B.returns
  have hts : ∀ w ∈ T0, w.before _ s = true := fun w h => atoms_spec (ws := Cond.code yX7_laysPart cX7_laysPart 5 none :: T0) B.pre w (List.mem_cons_of_mem _ h)
  have hown : s.vm.findClass RX7 = some m.cls := findClass_of_methodNamed B.named
  have hlocks := B.notSynchronized
  have hS : va_S (fun q => q ∈ L) s.heap s.heap [] := va_S.rf
  have hfr : ∀ b, K b ∉ [70] → F b = F b := fun _ _ => rfl
  have hl := lv_entry ([.ref a0, .int x1, .int x2, .int x3, .int x4]) (n := 5) (Nat.le_of_ble_eq_true rfl)
  rw [lg_entry_eq]
  generalize (lg_sl ([.ref a0, .int x1, .int x2, .int x3, .int x4]) ++ List.replicate (5 - (lg_sl ([.ref a0, .int x1, .int x2, .int x3, .int x4])).length) Slot.unset).toArray = ls at hl ⊢
  have hl : lv_has ls 5 [(0, .ref a0), (1, .int x1), (2, .int x2), (3, .int x3), (4, .int x4)] := hl
  refine s_gen hP hS (fun H locs hP hS => ?_)
  obtain ⟨z0, q0, oY0, bz0, bq0⟩ := y_opY hI ha0
  have hz0 : ∀ k, k ∈ ([1, 2, 3, 4, 5, 6, 7, 8, 11, 15, 16, 19, 25, 26, 27, 31, 32] : List Nat) → z0 k = z0 k := fun _ _ => rfl
  obtain ⟨f1, o2, b3⟩ := y_op13 hI
  obtain ⟨f4, o5, b6⟩ := y_op20 hI
  replace hW0 : y_W0 f4 x1.toInt := by have q9 := hW0; rw [y_atE o5] at q9; exact q9
  replace hWs : y_Ws (y_c f1 387).toInt f4 x1.toInt := by have q9 := hWs; rw [y_atE o2, y_atE o5] at q9; exact q9
  replace hLP : y_LP (y_c f1 387).toInt f4 x1.toInt x2 x3 x4 := by have q9 := hLP; rw [y_atE o2, y_atE o5] at q9; exact q9
  have hnw := hW0.2.2.2
  refine lv_iload_n hx hb dX7_laysPart_0 rfl (lv_at hl 2 rfl) ?_
  refine lv_iload_n hx hb dX7_laysPart_1 rfl (lv_at hl 3 rfl) ?_
  refine lv_icmp_eq (tgt := 17) hx hb dX7_laysPart_2 (by decide) (fun c7 => ?_) (fun c7 => ?_)
  · have c7 := Int32.toInt_inj.symm.mp c7
    refine lv_iload_n hx hb dX7_laysPart_17 rfl (lv_at hl 2 rfl) ?_
    refine lv_aload_n hx hb dX7_laysPart_18 rfl (lv_at hl 0 rfl) ?_
    refine va_calli (va_runV (As := []) (rest := [.int x2]) ⟨hx, hb, hml, hown, hts⟩ (y_X7_lines l dC dI H.size hLK A hA F a0 ha0 hI) (cwV 0 hts (ax_gV T_1030 T_1032 T_1033 T_265 T_1031) rfl rfl rfl (by decide +kernel) ⟨Nat.le_of_ble_eq_true rfl, Nat.le_of_ble_eq_true rfl⟩) ⟨fun a U g mk q => ⟨q.1, s_pc (U := U) rfl rfl q.2⟩, s_recv hK hP (hLK _ ha0 (by decide)) (ci := 7) rfl oY0, fun U hU hW => ⟨rfl, s_pw hU hW hP hK hD hN⟩⟩ rfl rfl hl.1 rfl (lv_room (Nat.le_of_ble_eq_true rfl)) dX7_laysPart_19 ⟨Nat.zero_le _, Nat.zero_le _⟩) hS (fun q _ h => h) (fun q h => h) (fun r9 F10 t H1 locs ht hvm hw hB hz1 hk1 hS => ?_)
    obtain ⟨hP, hK1⟩ := hB
    rw [ht] at hP
    generalize H1 = H at hP hS ⊢
    clear hz1 hk1 hvm hK1
    obtain ⟨h11, h13, hI, hfr1, hzf, h12⟩ := hw
    have o14 : F10 (A 13) = .inl (cs 0, 400, .inl f1) := (hfr1 _ (by rw [(y_k13 hA)]; decide)).trans o2
    have o15 : F10 (A 20) = .inl (cs 0, 918, .inl f4) := (hfr1 _ (by rw [(y_k20 hA)]; decide)).trans o5
    have oY16 : F10 a0 = .inr (7, y_fl A z0 q0) := (hfr1 _ (by rw [ha0]; decide)).trans oY0
    have hfr : ∀ b, K b ∉ [70] → F10 b = F b := fun b hb9 => (hfr1 b (fun q => hb9 (s_sub (by decide) q))).trans (hfr b hb9)
    replace h12 : (r9 = y_c f1 387) := by have q9 := h12; rw [y_atE o2] at q9; exact q9
    have h17 := congrArg Int32.toInt h12
    refine lv_icmp_ne (tgt := 32) hx hb dX7_laysPart_22 (by decide) (fun c18 => ?_) (fun c18 => ?_)
    · have c18 := mt Int32.toInt_inj.symm.mpr c18
      exact W.vret hx hb hr (fun t ht hW => ⟨⟨F10, rfl, ⟨trivial, trivial, hI, hfr, fun k hk => (y_fiZ oY16 (s_sub (by decide) hk)).trans ((hz0 k hk).trans (y_fiZ oY0 (s_sub (by decide) hk)).symm), (by rw [y_atE o15, y_atE o2, y_atE o5]; exact y_laysN hW0 hWs)⟩, by rw [ht]; exact hP, va_K.moved hW.alike hK⟩, hS.F ht⟩) hS.2.2 dX7_laysPart_32
    · have c18 := Int32.toInt_inj.symm.mp c18
      refine lv_aload_n hx hb dX7_laysPart_25 rfl (lv_at hl 0 rfl) ?_
      refine lv_iload_n hx hb dX7_laysPart_26 rfl (lv_at hl 1 rfl) ?_
      refine lv_iload hx hb dX7_laysPart_27 (lv_at hl 4 rfl) ?_
      have rg19 : 0 ≤ x1.toInt ∧ x1.toInt ≤ 3 := ⟨by omega, by omega⟩
      refine va_callv (va_runV (As := [.int x1, .int x4]) (rest := []) ⟨hx, hb, hml, hown, hts⟩ (y_X7_dies l dC dI H.size hLK A hA F10 a0 x1 x4 ha0 rg19 hI (by rw [y_atE o15]; exact hnw)) (cwV 2 hts (ax_gV T_1106 T_1108 T_1109 T_265 T_1107) rfl rfl rfl (by decide +kernel) ⟨Nat.le_of_ble_eq_true rfl, Nat.le_of_ble_eq_true rfl⟩) ⟨fun a U g mk q => ⟨q.1, s_pc (U := U) rfl rfl q.2⟩, s_recv hK hP (hLK _ ha0 (by decide)) (ci := 7) rfl oY16, fun U hU hW => ⟨rfl, s_pw hU hW hP hK hD hN⟩⟩ rfl rfl hl.1 rfl (lv_room (Nat.le_of_ble_eq_true rfl)) dX7_laysPart_29 ⟨Nat.zero_le _, Nat.zero_le _⟩) hS (fun q _ h => h) (fun q h => h) (fun F21 t H1 locs ht hvm hw hB hz1 hk1 hS => ?_)
      obtain ⟨hP, hK1⟩ := hB
      rw [ht] at hP
      generalize H1 = H at hP hS ⊢
      clear hz1 hk1 hvm hK1
      obtain ⟨h22, h24, hI, hfr1, hzf, h23⟩ := hw
      have o25 : F21 (A 13) = .inl (cs 0, 400, .inl f1) := (hfr1 _ (by rw [(y_k13 hA)]; decide)).trans o14
      have oY26 : F21 a0 = .inr (7, y_fl A z0 q0) := (hfr1 _ (by rw [ha0]; decide)).trans oY16
      have hfr : ∀ b, K b ∉ [70] → F21 b = F b := fun b hb9 => (hfr1 b (fun q => hb9 (s_sub (by decide) q))).trans (hfr b hb9)
      obtain ⟨f27, o28, b29⟩ := y_op20 hI
      replace h23 : (∀ j : Int, 0 ≤ j → y_c f27 j = y_die f4 x1.toInt (y_c f4 (109 + 6 * x1.toInt)).toInt x4 j) := by have q9 := h23; rw [y_atE o28, y_atE o15] at q9; exact q9
      exact W.vret hx hb hr (fun t ht hW => ⟨⟨F21, rfl, ⟨trivial, trivial, hI, hfr, fun k hk => (y_fiZ oY26 (s_sub (by decide) hk)).trans ((hz0 k hk).trans (y_fiZ oY0 (s_sub (by decide) hk)).symm), (by rw [y_atE o28, y_atE o2, y_atE o5]; exact y_laysD ⟨by omega, by omega⟩ h23 hW0 hWs hLP.2.1)⟩, by rw [ht]; exact hP, va_K.moved hW.alike hK⟩, hS.F ht⟩) hS.2.2 dX7_laysPart_32
  · have c7 := mt Int32.toInt_inj.symm.mpr c7
    refine lv_aload_n hx hb dX7_laysPart_5 rfl (lv_at hl 0 rfl) ?_
    refine lv_iload_n hx hb dX7_laysPart_6 rfl (lv_at hl 1 rfl) ?_
    refine lv_iload_n hx hb dX7_laysPart_7 rfl (lv_at hl 2 rfl) ?_
    refine lv_iload_n hx hb dX7_laysPart_8 rfl (lv_at hl 3 rfl) ?_
    refine lv_iload hx hb dX7_laysPart_9 (lv_at hl 4 rfl) ?_
    have rg30 : 0 ≤ x1.toInt ∧ x1.toInt ≤ 3 := ⟨by omega, by omega⟩
    refine va_callv (va_runV (As := [.int x1, .int x2, .int x3, .int x4]) (rest := []) ⟨hx, hb, hml, hown, hts⟩ (y_X7_pushes l dC dI H.size hLK A hA F a0 x1 x2 x3 x4 ha0 rg30 hI (by rw [y_atE o5]; exact hnw)) (cwV 4 hts (ax_gV T_1034 T_1036 T_1037 T_265 T_1035) rfl rfl rfl (by decide +kernel) ⟨Nat.le_of_ble_eq_true rfl, Nat.le_of_ble_eq_true rfl⟩) ⟨fun a U g mk q => ⟨q.1, s_pc (U := U) rfl rfl q.2⟩, s_recv hK hP (hLK _ ha0 (by decide)) (ci := 7) rfl oY0, fun U hU hW => ⟨rfl, s_pw hU hW hP hK hD hN⟩⟩ rfl rfl hl.1 rfl (lv_room (Nat.le_of_ble_eq_true rfl)) dX7_laysPart_11 ⟨Nat.zero_le _, Nat.zero_le _⟩) hS (fun q _ h => h) (fun q h => h) (fun F32 t H1 locs ht hvm hw hB hz1 hk1 hS => ?_)
    obtain ⟨hP, hK1⟩ := hB
    rw [ht] at hP
    generalize H1 = H at hP hS ⊢
    clear hz1 hk1 hvm hK1
    obtain ⟨h33, h35, hI, hfr1, hzf, h34⟩ := hw
    have o36 : F32 (A 13) = .inl (cs 0, 400, .inl f1) := (hfr1 _ (by rw [(y_k13 hA)]; decide)).trans o2
    have oY37 : F32 a0 = .inr (7, y_fl A z0 q0) := (hfr1 _ (by rw [ha0]; decide)).trans oY0
    have hfr : ∀ b, K b ∉ [70] → F32 b = F b := fun b hb9 => (hfr1 b (fun q => hb9 (s_sub (by decide) q))).trans (hfr b hb9)
    obtain ⟨f38, o39, b40⟩ := y_op20 hI
    replace h34 : (∀ j : Int, 0 ≤ j → y_c f38 j = y_psh f4 x1.toInt x2 x3 x4 j) := by have q9 := h34; rw [y_atE o39, y_atE o5] at q9; exact q9
    refine lv_goto (tgt := 32) hx hb dX7_laysPart_14 (by decide) ?_
    exact W.vret hx hb hr (fun t ht hW => ⟨⟨F32, rfl, ⟨trivial, trivial, hI, hfr, fun k hk => (y_fiZ oY37 (s_sub (by decide) hk)).trans ((hz0 k hk).trans (y_fiZ oY0 (s_sub (by decide) hk)).symm), (by rw [y_atE o39, y_atE o2, y_atE o5]; exact y_laysP ⟨by omega, by omega⟩ h34 hW0 hWs hLP)⟩, by rw [ht]; exact hP, va_K.moved hW.alike hK⟩, hS.F ht⟩) hS.2.2 dX7_laysPart_32
