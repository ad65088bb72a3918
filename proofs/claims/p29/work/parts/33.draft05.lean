set_option maxHeartbeats 4000000 in
set_option maxRecDepth 100000 in
theorem y_X7_joins (l : Launch) (dC : Nat → ClassId) (dI : Nat → Nat → Nat) (sz : Nat) {L : List Nat} {K : Nat → Nat} {cs : Nat → ClassId} (hLK : ∀ a {k : Nat}, K a = k → k ≠ 0 → a ∈ L) (A : Nat → Nat) (hA : y_A K A) (F : Nat → va_E) (a0 : Nat) (ha0 : K a0 = 9) (hI : y_I K cs A F) : Met l yX7_joins (Cond.code yX7_joins cX7_joins 4 none :: T0) ({ frames := 1, cells := 0, slots := 0, locals := 22 }) (va_Pc [.ref a0] (s_W dC dI sz L F [(cs 0, .int), (cs 1, .byte), (cs 2, .long), (cs 3, .object RX5), (cs 4, .object RX4), (cs 5, .array .int), (cs 6, .char), (cs 7, .boolean)])) (va_Qv (fun (G : Nat → va_E) => True ∧ True ∧ y_I K cs A G ∧ (∀ b, K b ∉ [9, 62] → G b = F b) ∧ (∀ k, k ∈ ([1, 2, 3, 4, 7, 8, 11, 15, 16, 19, 25, 26, 27, 31, 32] : List Nat) → y_fi G a0 k = y_fi F a0 k) ∧ (((y_fi F a0 5).toInt = 0 ∨ ¬ (y_fi G a0 5).toInt = 0) ∧ (((y_fi F a0 5).toInt = 0 → y_DS (y_at F (A 12))) → (y_fi G a0 5).toInt = 0 → y_DS (y_at G (A 12))) ∧ (y_c (y_at G (A 12)) 387).toInt = (y_c (y_at F (A 12)) 387).toInt ∧ ((y_fi G a0 5).toInt = 0 → y_JG (y_at G (A 12)) (y_c (y_at F (A 12)) 387).toInt (y_c (y_at F (A 12)) 387).toInt))) (fun (G : Nat → va_E) (t : State) => va_P (dC, dI) vwCl (va_pl L G) t.heap ∧ va_K (dC, dI) vwCl [(cs 0, .int), (cs 1, .byte), (cs 2, .long), (cs 3, .object RX5), (cs 4, .object RX4), (cs 5, .array .int), (cs 6, .char), (cs 7, .boolean)] t) (fun q => q ∈ L)) 0 0 (fun q => q ∈ L) := by
  refine Met.ofW (cc := cX7_joins) (maxL := 4) (ret := none) (by decide) rfl ?_
  intro p e s m args below meth c s₁ B hml hv
  obtain ⟨rfl, hsz, hP, hK, hD, hN⟩ := hv
  have hx := B.exec
  have hb := B.bytes
  have hr := B.returns
  have hts : ∀ w ∈ T0, w.before _ s = true := fun w h => atoms_spec (ws := Cond.code yX7_joins cX7_joins 4 none :: T0) B.pre w (List.mem_cons_of_mem _ h)
  have hown : s.vm.findClass RX7 = some m.cls := findClass_of_methodNamed B.named
  have hlocks := B.notSynchronized
  have hS : va_S (fun q => q ∈ L) s.heap s.heap [] := va_S.rf
  have hfr : ∀ b, K b ∉ [9, 62] → F b = F b := fun _ _ => rfl
  have hl := lv_entry ([.ref a0]) (n := 4) (Nat.le_of_ble_eq_true rfl)
  rw [lg_entry_eq]
  generalize (lg_sl ([.ref a0]) ++ List.replicate (4 - (lg_sl ([.ref a0])).length) Slot.unset).toArray = ls at hl ⊢
  have hl : lv_has ls 4 [(0, .ref a0)] := hl
  refine s_gen hP hS (fun H locs hP hS => ?_)
  obtain ⟨z0, q0, oY0, bz0⟩ := y_opY hI ha0
  have hz0 : ∀ k, k ∈ ([1, 2, 3, 4, 7, 8, 11, 15, 16, 19, 25, 26, 27, 31, 32] : List Nat) → z0 k = z0 k := fun _ _ => rfl
  obtain ⟨f1, o2, b3⟩ := y_op12 hI
  obtain ⟨v4, ev4⟩ : ∃ y : Int32, y = z0 5 := ⟨_, rfl⟩
  have eF_5 := ev4
  have hnb : 0 ≤ (y_c f1 387).toInt ∧ (y_c f1 387).toInt ≤ 40 := b3
  obtain ⟨nn, hnn⟩ : ∃ n : Int, n = (y_c f1 387).toInt := ⟨_, rfl⟩
  rw [← hnn] at hnb
  have e0_v4 := ev4
  refine lv_iconst (v := 0) hx hb dX7_joins_0 (by decide) ?_
  refine lv_istore_n (lv' := [(1, .int 0), (0, .ref a0)]) hx hb dX7_joins_1 rfl hl (by decide) rfl (fun ls hl => ?_)
  have h6 : (0 : Int32).toInt = 0 := by decide
  refine th_loop (fun n g H locs => ∃ (G : Nat → va_E) (ls : Array Slot) (w5 : Int32), g = F0 m 2 ls [] ∧ lv_has ls 4 [(0, .ref a0), (1, .int w5)] ∧ va_P (dC, dI) vwCl (va_pl L G) H ∧ va_S (fun q => q ∈ L) s.heap H locs ∧ y_I K cs A G ∧ (∀ b, K b ∉ [9, 62] → G b = F b) ∧ (∀ k, k ∈ ([1, 2, 3, 4, 7, 8, 11, 15, 16, 19, 25, 26, 27, 31, 32] : List Nat) → y_fi G a0 k = z0 k) ∧ (0 ≤ w5.toInt ∧ w5.toInt ≤ 40) ∧ (y_c (y_at G (A 12)) 387).toInt = nn ∧ ((v4.toInt = 0 → y_DS f1) → (y_fi G a0 5).toInt = 0 → y_DS (y_at G (A 12))) ∧ ((y_fi G a0 5).toInt = 0 → y_JG (y_at G (A 12)) nn w5.toInt) ∧ (v4.toInt = 0 ∨ ¬ (y_fi G a0 5).toInt = 0) ∧ n = (41 - w5.toInt).toNat) _ ⟨F, _, 0, rfl, lv_sub hl [1, 0] rfl, hP, hS, hI, hfr, (fun k hk => (y_fiZ oY0 (s_sub (by decide) hk)).trans (hz0 k hk)), (by decide), (by rw [y_atE o2]; exact hnn.symm), (by rw [y_fiZ oY0 (k := 5) (by decide), ← ev4, y_atE o2]; exact (fun hd hg => hd (by omega))), (by rw [y_fiZ oY0 (k := 5) (by decide), ← ev4, y_atE o2]; exact (fun _ i h0 h1 => absurd h1 (by omega))), (by rw [y_fiZ oY0 (k := 5) (by decide), ← ev4]; omega), rfl⟩ (fun n ih2 g H locs hq => ?_)
  obtain ⟨F12, ls, w5, rfl, hl, hP, hS, hI, hfr, hz0, h7, h8, h9, h10, h11, hn⟩ := hq
  obtain ⟨z13, q14, oY15, bz16⟩ := y_opY hI ha0
  have hz0 : ∀ k, k ∈ ([1, 2, 3, 4, 7, 8, 11, 15, 16, 19, 25, 26, 27, 31, 32] : List Nat) → z13 k = z0 k := fun k hk => (y_fiZ oY15 (s_sub (by decide) hk)).symm.trans (hz0 k hk)
  obtain ⟨f17, o18, b19⟩ := y_op12 hI
  have h8 : (y_c f17 387).toInt = nn := by have q9 := h8; rw [y_atE o18] at q9; exact q9
  obtain ⟨v20, ev20⟩ : ∃ y : Int32, y = z13 5 := ⟨_, rfl⟩
  have h9 : ((v4.toInt = 0 → y_DS f1) → v20.toInt = 0 → y_DS f17) := by have q9 := h9; rw [y_fiZ oY15 (k := 5) (by decide), ← ev20, y_atE o18] at q9; exact q9
  have h10 : (v20.toInt = 0 → y_JG f17 nn w5.toInt) := by have q9 := h10; rw [y_fiZ oY15 (k := 5) (by decide), ← ev20, y_atE o18] at q9; exact q9
  have h11 : (v4.toInt = 0 ∨ ¬ v20.toInt = 0) := by have q9 := h11; rw [y_fiZ oY15 (k := 5) (by decide), ← ev20] at q9; exact q9
  have hn_20 := hn
  refine th_join (fun g H locs => ∃ (G : Nat → va_E) (ls : Array Slot), g = F0 m 106 ls [] ∧ lv_has ls 4 [(0, .ref a0), (1, .int w5)] ∧ va_P (dC, dI) vwCl (va_pl L G) H ∧ va_S (fun q => q ∈ L) s.heap H locs ∧ y_I K cs A G ∧ (∀ b, K b ∉ [9, 62] → G b = F b) ∧ (∀ k, k ∈ ([1, 2, 3, 4, 7, 8, 11, 15, 16, 19, 25, 26, 27, 31, 32] : List Nat) → y_fi G a0 k = z0 k) ∧ (0 ≤ w5.toInt ∧ w5.toInt ≤ 39) ∧ (y_c (y_at G (A 12)) 387).toInt = nn ∧ ((v4.toInt = 0 → y_DS f1) → (y_fi G a0 5).toInt = 0 → y_DS (y_at G (A 12))) ∧ ((y_fi G a0 5).toInt = 0 → y_JG (y_at G (A 12)) nn (w5.toInt + 1)) ∧ (v4.toInt = 0 ∨ ¬ (y_fi G a0 5).toInt = 0)) (fun K106 => ?_) ?_
  refine th_join (fun g H locs => ∃ (G : Nat → va_E) (ls : Array Slot) (w21 : Int32), g = F0 m 95 ls [] ∧ lv_has ls 4 [(0, .ref a0), (1, .int w5), (2, .int w21)] ∧ va_P (dC, dI) vwCl (va_pl L G) H ∧ va_S (fun q => q ∈ L) s.heap H locs ∧ y_I K cs A G ∧ (∀ b, K b ∉ [9, 62] → G b = F b) ∧ (∀ k, k ∈ ([1, 2, 3, 4, 7, 8, 11, 15, 16, 19, 25, 26, 27, 31, 32] : List Nat) → y_fi G a0 k = z0 k) ∧ (-1 ≤ w21.toInt ∧ w21.toInt ≤ 39) ∧ (0 ≤ w5.toInt ∧ w5.toInt ≤ 39) ∧ (y_at G (A 12)) = f17 ∧ ((v4.toInt = 0 ∨ ¬ (y_fi G a0 5).toInt = 0)) ∧ (w21.toInt < nn ∧ ((y_fi G a0 5).toInt = 0 → 0 ≤ w21.toInt))) (fun K95 => ?_) ?_
  · refine lv_iload_n hx hb dX7_joins_2 rfl (lv_at hl 1 rfl) ?_
    refine lv_aload_n hx hb dX7_joins_3 rfl (lv_at hl 0 rfl) ?_
    refine va_calli (va_runV (As := []) (rest := [.int w5]) ⟨hx, hb, hml, hown, hts⟩ (y_X7_drafted l dC dI H.size hLK A hA F12 a0 ha0 hI) (cwV 0 hts (ax_gV T_293 T_294 T_295 T_265 T_28) rfl rfl rfl (by decide +kernel) ⟨Nat.le_of_ble_eq_true rfl, Nat.le_of_ble_eq_true rfl⟩) ⟨fun a U g mk q => ⟨q.1, s_pc rfl rfl q.2⟩, s_recv hK hP (hLK _ ha0 (by decide)) (ci := 7) rfl oY15, fun U hU hW => ⟨rfl, s_pw hU hW hP hK hD hN⟩⟩ rfl rfl hl.1 rfl (lv_room (Nat.le_of_ble_eq_true rfl)) dX7_joins_4 ⟨Nat.zero_le _, Nat.zero_le _⟩) hS (fun q _ h => h) (fun q h => h) (fun r23 F24 t H1 locs ht hvm hw hB hz1 hk1 hS => ?_)
    obtain ⟨hP, hK1⟩ := hB
    rw [ht] at hP
    generalize H1 = H at hP hS ⊢
    obtain ⟨h25, h27, hI, hfr1, hzf, h26⟩ := hw
    have o28 : F24 (A 12) = .inl (cs 0, 400, .inl f17) := (hfr1 _ (by rw [(y_k12 hA)]; decide)).trans o18
    have oY29 : F24 a0 = .inr (7, y_fl A z13 q14) := (hfr1 _ (by rw [ha0]; decide)).trans oY15
    have hfr : ∀ b, K b ∉ [9, 62] → F24 b = F b := fun b hb9 => (hfr1 b (fun q => hb9 (s_sub (by decide) q))).trans (hfr b hb9)
    have h26 : (r23 = y_c f17 387) := by have q9 := h26; rw [y_atE o18] at q9; exact q9
    have h30 := congrArg Int32.toInt h26
    refine lv_icmp_ge (tgt := 112) hx hb dX7_joins_7 (by decide) (fun c31 => ?_) (fun c31 => ?_)
    · have c31 := Int32.le_iff_toInt_le.mp c31
      exact W.vret hx hb hr (fun t ht hW => ⟨⟨F24, rfl, ⟨trivial, trivial, hI, hfr, fun k hk => (y_fiZ oY29 (s_sub (by decide) hk)).trans ((hz0 k hk).trans (y_fiZ oY0 (s_sub (by decide) hk)).symm), (by rw [y_fiZ oY0 (k := 5) (by decide), ← eF_5, y_fiZ oY29 (k := 5) (by decide), ← ev20, y_atE o2, y_atE o28]; rw [← hnn]; exact ⟨by omega, (fun hd hg => h9 hd (by omega)), h8, fun hg => y_JGle (by omega) (h10 hg)⟩)⟩, by rw [ht]; exact hP, va_K.moved hW.alike hK⟩, hS.F ht⟩) hS.2.2 dX7_joins_112
    · have c31 := mt Int32.le_iff_toInt_le.mpr c31
      refine lv_aload_n hx hb dX7_joins_10 rfl (lv_at hl 0 rfl) ?_
      refine th_get (D := (dC, dI)) (ci := 7) (v := .int (z13 5)) (C := RX7) (T := TX7) (N := 34) hx hb hts inX7 hown hK hP (hLK _ ha0 (by decide)) oY29 rfl 5 (by decide) (hts _ T_274) (fun _ h9 => h9) rfl dX7_joins_11 ?_
      refine ax_eqi (y := v20) ev20.symm ?_
      refine lv_if_ne (tgt := 112) hx hb dX7_joins_14 (by decide) (fun c32 => ?_) (fun c32 => ?_)
      · have c32 := mt (ax_eq (n := 0) (by decide)).mpr c32
        exact W.vret hx hb hr (fun t ht hW => ⟨⟨F24, rfl, ⟨trivial, trivial, hI, hfr, fun k hk => (y_fiZ oY29 (s_sub (by decide) hk)).trans ((hz0 k hk).trans (y_fiZ oY0 (s_sub (by decide) hk)).symm), (by rw [y_fiZ oY0 (k := 5) (by decide), ← eF_5, y_fiZ oY29 (k := 5) (by decide), ← ev20, y_atE o2, y_atE o28]; rw [← hnn]; exact ⟨by omega, (fun hd hg => h9 hd (by omega)), h8, fun hg => y_JGle (by omega) (h10 hg)⟩)⟩, by rw [ht]; exact hP, va_K.moved hW.alike hK⟩, hS.F ht⟩) hS.2.2 dX7_joins_112
      · have c32 := (ax_eq (n := 0) (by decide)).mp c32
        refine lv_aload_n hx hb dX7_joins_17 rfl (lv_at hl 0 rfl) ?_
        refine th_get (D := (dC, dI)) (ci := 7) (v := .ref (A 12)) (C := RX7) (T := TX7) (N := 34) hx hb hts inX7 hown hK hP (hLK _ ha0 (by decide)) oY29 rfl 12 (by decide) (hts _ T_245) (fun _ h9 => h9) rfl dX7_joins_18 ?_
        refine lv_iload_n hx hb dX7_joins_21 rfl (lv_at hl 1 rfl) ?_
        refine lv_iconst (v := 0) hx hb dX7_joins_22 (by decide) ?_
        refine va_calli (va_runS (As := [.int w5, .int 0]) (rest := [.ref (A 12)]) ⟨hx, hb, hml, hown, hts⟩ (y_X7_lineAt l dC dI H.size F24 w5 0 (⟨by omega, by omega⟩) (by decide)) (cwS 2 hts (ax_gS T_1216 T_1218 T_265 T_1217) rfl rfl rfl (by decide +kernel) ⟨Nat.le_of_ble_eq_true rfl, Nat.le_of_ble_eq_true rfl⟩) ⟨fun a U g mk q => ⟨q.1, s_pc rfl rfl q.2⟩, fun U hU hW => ⟨rfl, s_pw hU hW hP hK hD hN⟩⟩ rfl rfl hl.1 rfl (lv_room (Nat.le_of_ble_eq_true rfl)) dX7_joins_23 ⟨Nat.zero_le _, Nat.zero_le _⟩) hS (fun q _ h => h) (fun q h => h) (fun r34 F35 t H1 locs ht hvm hw hB hz1 hk1 hS => ?_)
        obtain ⟨hP, hK1⟩ := hB
        rw [ht] at hP
        generalize H1 = H at hP hS ⊢
        obtain ⟨h36, h38, hG9, h37⟩ := hw
        rw [hG9] at hP
        have h37 : (r34.toInt = 8 * w5.toInt + 0) := by have q9 := h37; exact q9
        refine th_iald hx hb hK hP (hLK _ (y_k12 hA) (by decide)) 0 o28 rfl (th_in ⟨by omega, by omega⟩) dX7_joins_26 ?_
        refine lv_topi (fun v39 ev39 => ?_)
        have h40 : v39.toInt = (y_c f17 (8 * w5.toInt)).toInt := congrArg Int32.toInt (ev39.trans (y_ci (by omega)))
        refine lv_bipush (v := 12) hx hb dX7_joins_27 (by decide) ?_
        refine lv_icmp_eq (tgt := 35) hx hb dX7_joins_29 (by decide) (fun c41 => ?_) (fun c41 => ?_)
        · have c41 := (ax_eq (n := 12) (by decide)).mp c41
          refine lv_iconst (v := (-1)) hx hb dX7_joins_35 (by decide) ?_
          refine lv_istore_n (lv' := [(2, .int (-1)), (0, .ref a0), (1, .int w5)]) hx hb dX7_joins_36 rfl hl (by decide) rfl (fun ls hl => ?_)
          refine lv_iconst (v := 0) hx hb dX7_joins_37 (by decide) ?_
          refine lv_istore_n (lv' := [(3, .int 0), (2, .int (-1)), (0, .ref a0), (1, .int w5)]) hx hb dX7_joins_38 rfl hl (by decide) rfl (fun ls hl => ?_)
          have h44 : ((-1) : Int32).toInt = (-1) := by decide
          have h45 : (0 : Int32).toInt = 0 := by decide
          refine th_loop (fun n g H locs => ∃ (G : Nat → va_E) (ls : Array Slot) (w42 : Int32) (w43 : Int32), g = F0 m 39 ls [] ∧ lv_has ls 4 [(0, .ref a0), (1, .int w5), (2, .int w42), (3, .int w43)] ∧ va_P (dC, dI) vwCl (va_pl L G) H ∧ va_S (fun q => q ∈ L) s.heap H locs ∧ y_I K cs A G ∧ (∀ b, K b ∉ [9, 62] → G b = F b) ∧ (∀ k, k ∈ ([1, 2, 3, 4, 7, 8, 11, 15, 16, 19, 25, 26, 27, 31, 32] : List Nat) → y_fi G a0 k = z0 k) ∧ (-1 ≤ w42.toInt ∧ w42.toInt ≤ 39) ∧ (0 ≤ w43.toInt ∧ w43.toInt ≤ 40) ∧ (0 ≤ w5.toInt ∧ w5.toInt ≤ 39) ∧ (y_at G (A 12)) = f17 ∧ ((v4.toInt = 0 ∨ ¬ (y_fi G a0 5).toInt = 0)) ∧ ((y_fi G a0 5).toInt = 0 ∧ w42.toInt < nn) ∧ n = (41 - w43.toInt).toNat) _ ⟨F24, _, (-1), 0, rfl, lv_sub hl [2, 3, 1, 0] rfl, hP, hS, hI, hfr, (fun k hk => (y_fiZ oY29 (s_sub (by decide) hk)).trans (hz0 k hk)), (by decide), (by decide), ⟨by omega, by omega⟩, (by rw [y_atE o28]; exact rfl), (by rw [y_fiZ oY29 (k := 5) (by decide), ← ev20]; omega), (by rw [y_fiZ oY29 (k := 5) (by decide), ← ev20]; omega), rfl⟩ (fun n ih39 g H locs hq => ?_)
          obtain ⟨F52, ls, w42, w43, rfl, hl, hP, hS, hI, hfr, hz0, h46, h47, h48, h49, h50, h51, hn⟩ := hq
          obtain ⟨z53, q54, oY55, bz56⟩ := y_opY hI ha0
          have hz0 : ∀ k, k ∈ ([1, 2, 3, 4, 7, 8, 11, 15, 16, 19, 25, 26, 27, 31, 32] : List Nat) → z53 k = z0 k := fun k hk => (y_fiZ oY55 (s_sub (by decide) hk)).symm.trans (hz0 k hk)
          obtain ⟨f57, o58, b59⟩ := y_op12 hI
          have h49 : f57 = f17 := by have q9 := h49; rw [y_atE o58] at q9; exact q9
          obtain ⟨v60, ev60⟩ : ∃ y : Int32, y = z53 5 := ⟨_, rfl⟩
          have h50 : ((v4.toInt = 0 ∨ ¬ v60.toInt = 0)) := by have q9 := h50; rw [y_fiZ oY55 (k := 5) (by decide), ← ev60] at q9; exact q9
          have h51 : (v60.toInt = 0 ∧ w42.toInt < nn) := by have q9 := h51; rw [y_fiZ oY55 (k := 5) (by decide), ← ev60] at q9; exact q9
          have hn_60 := hn
          refine th_join (fun g H locs => ∃ (G : Nat → va_E) (ls : Array Slot) (w61 : Int32), g = F0 m 73 ls [] ∧ lv_has ls 4 [(0, .ref a0), (1, .int w5), (2, .int w61), (3, .int w43)] ∧ va_P (dC, dI) vwCl (va_pl L G) H ∧ va_S (fun q => q ∈ L) s.heap H locs ∧ y_I K cs A G ∧ (∀ b, K b ∉ [9, 62] → G b = F b) ∧ (∀ k, k ∈ ([1, 2, 3, 4, 7, 8, 11, 15, 16, 19, 25, 26, 27, 31, 32] : List Nat) → y_fi G a0 k = z0 k) ∧ (-1 ≤ w61.toInt ∧ w61.toInt ≤ 39) ∧ (0 ≤ w5.toInt ∧ w5.toInt ≤ 39) ∧ (0 ≤ w43.toInt ∧ w43.toInt ≤ 39) ∧ (y_at G (A 12)) = f17 ∧ ((v4.toInt = 0 ∨ ¬ (y_fi G a0 5).toInt = 0)) ∧ ((y_fi G a0 5).toInt = 0 ∧ w61.toInt < nn)) (fun K73 => ?_) ?_
          · refine lv_iload_n hx hb dX7_joins_39 rfl (lv_at hl 3 rfl) ?_
            refine lv_aload_n hx hb dX7_joins_40 rfl (lv_at hl 0 rfl) ?_
            refine va_calli (va_runV (As := []) (rest := [.int w43]) ⟨hx, hb, hml, hown, hts⟩ (y_X7_drafted l dC dI H.size hLK A hA F52 a0 ha0 hI) (cwV 0 hts (ax_gV T_293 T_294 T_295 T_265 T_28) rfl rfl rfl (by decide +kernel) ⟨Nat.le_of_ble_eq_true rfl, Nat.le_of_ble_eq_true rfl⟩) ⟨fun a U g mk q => ⟨q.1, s_pc rfl rfl q.2⟩, s_recv hK hP (hLK _ ha0 (by decide)) (ci := 7) rfl oY55, fun U hU hW => ⟨rfl, s_pw hU hW hP hK hD hN⟩⟩ rfl rfl hl.1 rfl (lv_room (Nat.le_of_ble_eq_true rfl)) dX7_joins_41 ⟨Nat.zero_le _, Nat.zero_le _⟩) hS (fun q _ h => h) (fun q h => h) (fun r63 F64 t H1 locs ht hvm hw hB hz1 hk1 hS => ?_)
            obtain ⟨hP, hK1⟩ := hB
            rw [ht] at hP
            generalize H1 = H at hP hS ⊢
            obtain ⟨h65, h67, hI, hfr1, hzf, h66⟩ := hw
            have o68 : F64 (A 12) = .inl (cs 0, 400, .inl f57) := (hfr1 _ (by rw [(y_k12 hA)]; decide)).trans o58
            have oY69 : F64 a0 = .inr (7, y_fl A z53 q54) := (hfr1 _ (by rw [ha0]; decide)).trans oY55
            have hfr : ∀ b, K b ∉ [9, 62] → F64 b = F b := fun b hb9 => (hfr1 b (fun q => hb9 (s_sub (by decide) q))).trans (hfr b hb9)
            have h66 : (r63 = y_c f57 387) := by have q9 := h66; rw [y_atE o58] at q9; exact q9
            have h70 := congrArg Int32.toInt h66
            refine lv_icmp_ge (tgt := 79) hx hb dX7_joins_44 (by decide) (fun c71 => ?_) (fun c71 => ?_)
            · have c71 := Int32.le_iff_toInt_le.mp c71
              refine lv_iload_n hx hb dX7_joins_79 rfl (lv_at hl 2 rfl) ?_
              refine lv_iconst (v := (-1)) hx hb dX7_joins_80 (by decide) ?_
              refine lv_icmp_ne (tgt := 95) hx hb dX7_joins_81 (by decide) (fun c72 => ?_) (fun c72 => ?_)
              · have c72 := mt (ax_eq (n := (-1)) (by decide)).mpr c72
                exact K95 _ _ _ ⟨F64, _, w42, rfl, lv_sub hl [0, 1, 2] rfl, hP, hS, hI, hfr, (fun k hk => (y_fiZ oY69 (s_sub (by decide) hk)).trans (hz0 k hk)), ⟨by omega, by omega⟩, ⟨by omega, by omega⟩, (by rw [y_atE o68]; exact h49), (by rw [y_fiZ oY69 (k := 5) (by decide), ← ev60]; omega), (by rw [y_fiZ oY69 (k := 5) (by decide), ← ev60]; omega)⟩
              · have c72 := (ax_eq (n := (-1)) (by decide)).mp c72
                refine lv_aload_n hx hb dX7_joins_84 rfl (lv_at hl 0 rfl) ?_
                refine lv_iconst (v := 3) hx hb dX7_joins_85 (by decide) ?_
                refine lv_aload_n hx hb dX7_joins_86 rfl (lv_at hl 0 rfl) ?_
                refine th_get (D := (dC, dI)) (ci := 7) (v := .ref (A 14)) (C := RX7) (T := TX7) (N := 34) hx hb hts inX7 hown hK hP (hLK _ ha0 (by decide)) oY69 rfl 14 (by decide) (hts _ T_247) (fun _ h9 => h9) rfl dX7_joins_87 ?_
                refine lv_iload_n hx hb dX7_joins_90 rfl (lv_at hl 1 rfl) ?_
                obtain ⟨f73, o74, b75⟩ := y_op14 hI
                refine th_iald hx hb hK hP (hLK _ (y_k14 hA) (by decide)) 0 o74 rfl (th_in ⟨by omega, by omega⟩) dX7_joins_91 ?_
                refine lv_topi (fun v76 ev76 => ?_)
                refine va_callv (va_runV (As := [.int 3, .int v76]) (rest := []) ⟨hx, hb, hml, hown, hts⟩ (y_X7_fail l dC dI H.size hLK A hA F64 a0 3 v76 ha0 (by decide) hI) (cwV 2 hts (ax_gV T_290 T_291 T_292 T_265 T_27) rfl rfl rfl (by decide +kernel) ⟨Nat.le_of_ble_eq_true rfl, Nat.le_of_ble_eq_true rfl⟩) ⟨fun a U g mk q => ⟨q.1, s_pc rfl rfl q.2⟩, s_recv hK hP (hLK _ ha0 (by decide)) (ci := 7) rfl oY69, fun U hU hW => ⟨rfl, s_pw hU hW hP hK hD hN⟩⟩ rfl rfl hl.1 rfl (lv_room (Nat.le_of_ble_eq_true rfl)) dX7_joins_92 ⟨Nat.zero_le _, Nat.zero_le _⟩) hS (fun q _ h => h) (fun q h => h) (fun F78 t H1 locs ht hvm hw hB hz1 hk1 hS => ?_)
                obtain ⟨hP, hK1⟩ := hB
                rw [ht] at hP
                generalize H1 = H at hP hS ⊢
                obtain ⟨h79, h81, hI, hfr1, hzf, h80⟩ := hw
                have o82 : F78 (A 12) = .inl (cs 0, 400, .inl f57) := (hfr1 _ (by rw [(y_k12 hA)]; decide)).trans o68
                have o83 : F78 (A 14) = .inl (cs 0, 40, .inl f73) := (hfr1 _ (by rw [(y_k14 hA)]; decide)).trans o74
                obtain ⟨z84, q85, oY86, bz87⟩ := y_opY hI ha0
                have hzf : ∀ k, k ∈ ([1, 2, 3, 4, 7, 8, 11, 15, 16, 19, 25, 26, 27, 31, 32] : List Nat) → z84 k = z53 k := fun k hk => by have q9 := hzf k hk; rw [y_fiZ oY86 (s_sub (by decide) hk), y_fiZ oY69 (s_sub (by decide) hk)] at q9; exact q9
                have hz0 : ∀ k, k ∈ ([1, 2, 3, 4, 7, 8, 11, 15, 16, 19, 25, 26, 27, 31, 32] : List Nat) → z84 k = z0 k := fun k hk => (hzf k (s_sub (by decide) hk)).trans (hz0 k hk)
                have hfr : ∀ b, K b ∉ [9, 62] → F78 b = F b := fun b hb9 => (hfr1 b (fun q => hb9 (s_sub (by decide) q))).trans (hfr b hb9)
                obtain ⟨v88, ev88⟩ : ∃ y : Int32, y = z84 5 := ⟨_, rfl⟩
                have h80 : (¬ v88.toInt = 0) := by have q9 := h80; rw [y_fiZ oY86 (k := 5) (by decide), ← ev88] at q9; exact q9
                exact K95 _ _ _ ⟨F78, _, w42, rfl, lv_sub hl [0, 1, 2] rfl, hP, hS, hI, hfr, (fun k hk => (y_fiZ oY86 (s_sub (by decide) hk)).trans (hz0 k hk)), ⟨by omega, by omega⟩, ⟨by omega, by omega⟩, (by rw [y_atE o82]; exact h49), (by rw [y_fiZ oY86 (k := 5) (by decide), ← ev88]; omega), (by rw [y_fiZ oY86 (k := 5) (by decide), ← ev88]; omega)⟩
            · have c71 := mt Int32.le_iff_toInt_le.mpr c71
              refine lv_aload_n hx hb dX7_joins_47 rfl (lv_at hl 0 rfl) ?_
              refine th_get (D := (dC, dI)) (ci := 7) (v := .ref (A 12)) (C := RX7) (T := TX7) (N := 34) hx hb hts inX7 hown hK hP (hLK _ ha0 (by decide)) oY69 rfl 12 (by decide) (hts _ T_245) (fun _ h9 => h9) rfl dX7_joins_48 ?_
              refine lv_iload_n hx hb dX7_joins_51 rfl (lv_at hl 3 rfl) ?_
              refine lv_bipush (v := 7) hx hb dX7_joins_52 (by decide) ?_
              refine va_calli (va_runS (As := [.int w43, .int 7]) (rest := [.ref (A 12)]) ⟨hx, hb, hml, hown, hts⟩ (y_X7_lineAt l dC dI H.size F64 w43 7 (⟨by omega, by omega⟩) (by decide)) (cwS 2 hts (ax_gS T_1216 T_1218 T_265 T_1217) rfl rfl rfl (by decide +kernel) ⟨Nat.le_of_ble_eq_true rfl, Nat.le_of_ble_eq_true rfl⟩) ⟨fun a U g mk q => ⟨q.1, s_pc rfl rfl q.2⟩, fun U hU hW => ⟨rfl, s_pw hU hW hP hK hD hN⟩⟩ rfl rfl hl.1 rfl (lv_room (Nat.le_of_ble_eq_true rfl)) dX7_joins_54 ⟨Nat.zero_le _, Nat.zero_le _⟩) hS (fun q _ h => h) (fun q h => h) (fun r90 F91 t H1 locs ht hvm hw hB hz1 hk1 hS => ?_)
              obtain ⟨hP, hK1⟩ := hB
              rw [ht] at hP
              generalize H1 = H at hP hS ⊢
              obtain ⟨h92, h94, hG9, h93⟩ := hw
              rw [hG9] at hP
              have h93 : (r90.toInt = 8 * w43.toInt + 7) := by have q9 := h93; exact q9
              refine th_iald hx hb hK hP (hLK _ (y_k12 hA) (by decide)) 0 o68 rfl (th_in ⟨by omega, by omega⟩) dX7_joins_57 ?_
              refine lv_topi (fun v95 ev95 => ?_)
              refine lv_aload_n hx hb dX7_joins_58 rfl (lv_at hl 0 rfl) ?_
              refine th_get (D := (dC, dI)) (ci := 7) (v := .ref (A 12)) (C := RX7) (T := TX7) (N := 34) hx hb hts inX7 hown hK hP (hLK _ ha0 (by decide)) oY69 rfl 12 (by decide) (hts _ T_245) (fun _ h9 => h9) rfl dX7_joins_59 ?_
              refine lv_iload_n hx hb dX7_joins_62 rfl (lv_at hl 1 rfl) ?_
              refine lv_iconst (v := 4) hx hb dX7_joins_63 (by decide) ?_
              refine va_calli (va_runS (As := [.int w5, .int 4]) (rest := [.ref (A 12), .int v95]) ⟨hx, hb, hml, hown, hts⟩ (y_X7_lineAt l dC dI H.size F64 w5 4 (⟨by omega, by omega⟩) (by decide)) (cwS 2 hts (ax_gS T_1216 T_1218 T_265 T_1217) rfl rfl rfl (by decide +kernel) ⟨Nat.le_of_ble_eq_true rfl, Nat.le_of_ble_eq_true rfl⟩) ⟨fun a U g mk q => ⟨q.1, s_pc rfl rfl q.2⟩, fun U hU hW => ⟨rfl, s_pw hU hW hP hK hD hN⟩⟩ rfl rfl hl.1 rfl (lv_room (Nat.le_of_ble_eq_true rfl)) dX7_joins_64 ⟨Nat.zero_le _, Nat.zero_le _⟩) hS (fun q _ h => h) (fun q h => h) (fun r97 F98 t H1 locs ht hvm hw hB hz1 hk1 hS => ?_)
              obtain ⟨hP, hK1⟩ := hB
              rw [ht] at hP
              generalize H1 = H at hP hS ⊢
              obtain ⟨h99, h101, hG9, h100⟩ := hw
              rw [hG9] at hP
              have h100 : (r97.toInt = 8 * w5.toInt + 4) := by have q9 := h100; exact q9
              refine th_iald hx hb hK hP (hLK _ (y_k12 hA) (by decide)) 0 o68 rfl (th_in ⟨by omega, by omega⟩) dX7_joins_67 ?_
              refine lv_topi (fun v102 ev102 => ?_)
              refine lv_icmp_ne (tgt := 73) hx hb dX7_joins_68 (by decide) (fun c103 => ?_) (fun c103 => ?_)
              · have c103 := mt Int32.toInt_inj.symm.mpr c103
                exact K73 _ _ _ ⟨F64, _, w42, rfl, lv_sub hl [0, 1, 2, 3] rfl, hP, hS, hI, hfr, (fun k hk => (y_fiZ oY69 (s_sub (by decide) hk)).trans (hz0 k hk)), ⟨by omega, by omega⟩, ⟨by omega, by omega⟩, ⟨by omega, by omega⟩, (by rw [y_atE o68]; exact h49), (by rw [y_fiZ oY69 (k := 5) (by decide), ← ev60]; omega), (by rw [y_fiZ oY69 (k := 5) (by decide), ← ev60]; omega)⟩
              · have c103 := Int32.toInt_inj.symm.mp c103
                refine lv_iload_n hx hb dX7_joins_71 rfl (lv_at hl 3 rfl) ?_
                refine lv_istore_n (lv' := [(2, .int w43), (0, .ref a0), (1, .int w5), (3, .int w43)]) hx hb dX7_joins_72 rfl hl (by decide) rfl (fun ls hl => ?_)
                exact K73 _ _ _ ⟨F64, _, w43, rfl, lv_sub hl [1, 2, 0, 3] rfl, hP, hS, hI, hfr, (fun k hk => (y_fiZ oY69 (s_sub (by decide) hk)).trans (hz0 k hk)), ⟨by omega, by omega⟩, ⟨by omega, by omega⟩, ⟨by omega, by omega⟩, (by rw [y_atE o68]; exact h49), (by rw [y_fiZ oY69 (k := 5) (by decide), ← ev60]; omega), (by rw [y_fiZ oY69 (k := 5) (by decide), ← ev60]; omega)⟩
          · intro g H locs hq
            obtain ⟨F110, ls, w61, rfl, hl, hP, hS, hI, hfr, hz0, h104, h105, h106, h107, h108, h109⟩ := hq
            obtain ⟨z111, q112, oY113, bz114⟩ := y_opY hI ha0
            have hz0 : ∀ k, k ∈ ([1, 2, 3, 4, 7, 8, 11, 15, 16, 19, 25, 26, 27, 31, 32] : List Nat) → z111 k = z0 k := fun k hk => (y_fiZ oY113 (s_sub (by decide) hk)).symm.trans (hz0 k hk)
            obtain ⟨f115, o116, b117⟩ := y_op12 hI
            have h107 : f115 = f17 := by have q9 := h107; rw [y_atE o116] at q9; exact q9
            obtain ⟨v118, ev118⟩ : ∃ y : Int32, y = z111 5 := ⟨_, rfl⟩
            have h108 : ((v4.toInt = 0 ∨ ¬ v118.toInt = 0)) := by have q9 := h108; rw [y_fiZ oY113 (k := 5) (by decide), ← ev118] at q9; exact q9
            have h109 : (v118.toInt = 0 ∧ w61.toInt < nn) := by have q9 := h109; rw [y_fiZ oY113 (k := 5) (by decide), ← ev118] at q9; exact q9
            obtain ⟨v119, ev119⟩ : ∃ y : Int32, w43 + 1 = y := ⟨_, rfl⟩
            have qv119 : v119.toInt = w43.toInt + 1 := by rw [← ev119]; exact th_add rfl (by decide) ⟨by omega, by omega⟩
            refine lv_iinc (v := v119) (lv' := [(3, .int v119), (0, .ref a0), (1, .int w5), (2, .int w61)]) hx hb dX7_joins_73 hl (k := 3) rfl ev119 (by decide) rfl (fun ls hl => ?_)
            refine lv_goto (tgt := 39) hx hb dX7_joins_76 (by decide) ?_
            exact ih39 _ _ _ _ (by omega) ⟨F110, _, w61, v119, rfl, lv_sub hl [1, 2, 3, 0] rfl, hP, hS, hI, hfr, (fun k hk => (y_fiZ oY113 (s_sub (by decide) hk)).trans (hz0 k hk)), ⟨by omega, by omega⟩, ⟨by omega, by omega⟩, ⟨by omega, by omega⟩, (by rw [y_atE o116]; exact h107), (by rw [y_fiZ oY113 (k := 5) (by decide), ← ev118]; omega), (by rw [y_fiZ oY113 (k := 5) (by decide), ← ev118]; omega), rfl⟩
        · have c41 := mt (ax_eq (n := 12) (by decide)).mpr c41
          refine lv_goto (tgt := 106) hx hb dX7_joins_32 (by decide) ?_
          exact K106 _ _ _ ⟨F24, _, rfl, lv_sub hl [0, 1] rfl, hP, hS, hI, hfr, (fun k hk => (y_fiZ oY29 (s_sub (by decide) hk)).trans (hz0 k hk)), ⟨by omega, by omega⟩, (by rw [y_atE o28]; exact h8), (by rw [y_fiZ oY29 (k := 5) (by decide), ← ev20, y_atE o28]; exact (fun hd hg => h9 hd (by omega))), (by rw [y_fiZ oY29 (k := 5) (by decide), ← ev20, y_atE o28]; exact (fun hg => y_JGs (by omega) (fun j h0 h1 => rfl) (fun q => absurd q (by omega)) (h10 (by omega)))), (by rw [y_fiZ oY29 (k := 5) (by decide), ← ev20]; omega)⟩
  · intro g H locs hq
    obtain ⟨F125, ls, w21, rfl, hl, hP, hS, hI, hfr, hz0, h120, h121, h122, h123, h124⟩ := hq
    obtain ⟨z126, q127, oY128, bz129⟩ := y_opY hI ha0
    have hz0 : ∀ k, k ∈ ([1, 2, 3, 4, 7, 8, 11, 15, 16, 19, 25, 26, 27, 31, 32] : List Nat) → z126 k = z0 k := fun k hk => (y_fiZ oY128 (s_sub (by decide) hk)).symm.trans (hz0 k hk)
    obtain ⟨f130, o131, b132⟩ := y_op12 hI
    have h122 : f130 = f17 := by have q9 := h122; rw [y_atE o131] at q9; exact q9
    obtain ⟨v133, ev133⟩ : ∃ y : Int32, y = z126 5 := ⟨_, rfl⟩
    have h123 : ((v4.toInt = 0 ∨ ¬ v133.toInt = 0)) := by have q9 := h123; rw [y_fiZ oY128 (k := 5) (by decide), ← ev133] at q9; exact q9
    have h124 : (w21.toInt < nn ∧ (v133.toInt = 0 → 0 ≤ w21.toInt)) := by have q9 := h124; rw [y_fiZ oY128 (k := 5) (by decide), ← ev133] at q9; exact q9
    refine lv_aload_n hx hb dX7_joins_95 rfl (lv_at hl 0 rfl) ?_
    refine th_get (D := (dC, dI)) (ci := 7) (v := .ref (A 12)) (C := RX7) (T := TX7) (N := 34) hx hb hts inX7 hown hK hP (hLK _ ha0 (by decide)) oY128 rfl 12 (by decide) (hts _ T_245) (fun _ h9 => h9) rfl dX7_joins_96 ?_
    refine lv_iload_n hx hb dX7_joins_99 rfl (lv_at hl 1 rfl) ?_
    refine lv_iconst (v := 4) hx hb dX7_joins_100 (by decide) ?_
    refine va_calli (va_runS (As := [.int w5, .int 4]) (rest := [.ref (A 12)]) ⟨hx, hb, hml, hown, hts⟩ (y_X7_lineAt l dC dI H.size F125 w5 4 (⟨by omega, by omega⟩) (by decide)) (cwS 2 hts (ax_gS T_1216 T_1218 T_265 T_1217) rfl rfl rfl (by decide +kernel) ⟨Nat.le_of_ble_eq_true rfl, Nat.le_of_ble_eq_true rfl⟩) ⟨fun a U g mk q => ⟨q.1, s_pc rfl rfl q.2⟩, fun U hU hW => ⟨rfl, s_pw hU hW hP hK hD hN⟩⟩ rfl rfl hl.1 rfl (lv_room (Nat.le_of_ble_eq_true rfl)) dX7_joins_101 ⟨Nat.zero_le _, Nat.zero_le _⟩) hS (fun q _ h => h) (fun q h => h) (fun r135 F136 t H1 locs ht hvm hw hB hz1 hk1 hS => ?_)
    obtain ⟨hP, hK1⟩ := hB
    rw [ht] at hP
    generalize H1 = H at hP hS ⊢
    obtain ⟨h137, h139, hG9, h138⟩ := hw
    rw [hG9] at hP
    have h138 : (r135.toInt = 8 * w5.toInt + 4) := by have q9 := h138; exact q9
    refine lv_iload_n hx hb dX7_joins_104 rfl (lv_at hl 2 rfl) ?_
    refine th_iast hx hb hK hP hD hS (hLK _ (y_k12 hA) (by decide)) 0 o131 rfl (th_in ⟨by omega, by omega⟩) dX7_joins_105 (fun H locs hP hS => ?_)
    obtain ⟨f140, u141⟩ : ∃ g : Nat → Int32, g = upd f130 (r135 : Int32).toNatClampNeg w21 := ⟨_, rfl⟩
    rw [← u141] at hP
    have b142 : y_bd 12 f140 := by rw [u141]; exact th_updJ (P := fun y => 0 ≤ y.toInt ∧ y.toInt ≤ 40) b132 (fun q => by have q2 := th_tn (by omega) q; omega)
    have hP : va_P (dC, dI) vwCl (va_pl L (va_up F125 (A 12) (.inl (cs 0, 400, .inl f140)))) H := hP
    obtain ⟨F143, hF144⟩ : ∃ G : Nat → va_E, G = va_up F125 (A 12) (.inl (cs 0, 400, .inl f140)) := ⟨_, rfl⟩
    rw [← hF144] at hP
    have hI : y_I K cs A F143 := by rw [hF144]; exact y_clA (i := 12) hA hI (by decide) b142
    have hfr : ∀ b, K b ∉ [9, 62] → F143 b = F b := by rw [hF144]; exact s_fr hfr (y_k12 hA) (by decide)
    have oY145 : F143 a0 = .inr (7, y_fl A z126 q127) := by rw [hF144]; exact th_ne (th_kd ha0 (y_k12 hA) (by decide)) oY128
    have o146 : F143 (A 12) = .inl (cs 0, 400, .inl f140) := by rw [hF144]; exact th_up
    have u147 : ∀ j : Int, 0 ≤ j → y_c f140 j = if j = r135.toInt then w21 else y_c f130 j := by rw [u141]; exact y_cu rfl (by omega)
    have hn149 : (y_c f140 387).toInt = nn := by rw [u147 387 (by omega), if_neg (by omega), h122]; exact h8
    exact K106 _ _ _ ⟨F143, _, rfl, lv_sub hl [0, 1] rfl, hP, hS, hI, hfr, (fun k hk => (y_fiZ oY145 (s_sub (by decide) hk)).trans (hz0 k hk)), ⟨by omega, by omega⟩, (by rw [y_atE o146]; exact hn149), (by rw [y_fiZ oY145 (k := 5) (by decide), ← ev133, y_atE o146]; exact (fun hd hg => y_DSj (k := w5.toInt) ⟨by omega, by omega⟩ (fun j h0 h1 => by rw [u147 j h0, if_neg (by omega)]; exact congrArg (fun f => y_c f j) h122) ((fun hd hg => h9 hd (by omega)) hd (by omega)))), (by rw [y_fiZ oY145 (k := 5) (by decide), ← ev133, y_atE o146]; exact (fun hg => y_JGs (by omega) (fun j h0 h1 => by rw [u147 j h0, if_neg (by omega)]; exact congrArg (fun f => y_c f j) h122) (fun _ => by rw [u147 _ (by omega), if_pos (by omega)]; exact ⟨by omega, by omega⟩) (h10 (by omega)))), (by rw [y_fiZ oY145 (k := 5) (by decide), ← ev133]; omega)⟩
  · intro g H locs hq
    obtain ⟨F155, ls, rfl, hl, hP, hS, hI, hfr, hz0, h150, h151, h152, h153, h154⟩ := hq
    obtain ⟨z156, q157, oY158, bz159⟩ := y_opY hI ha0
    have hz0 : ∀ k, k ∈ ([1, 2, 3, 4, 7, 8, 11, 15, 16, 19, 25, 26, 27, 31, 32] : List Nat) → z156 k = z0 k := fun k hk => (y_fiZ oY158 (s_sub (by decide) hk)).symm.trans (hz0 k hk)
    obtain ⟨f160, o161, b162⟩ := y_op12 hI
    have h151 : (y_c f160 387).toInt = nn := by have q9 := h151; rw [y_atE o161] at q9; exact q9
    obtain ⟨v163, ev163⟩ : ∃ y : Int32, y = z156 5 := ⟨_, rfl⟩
    have h152 : ((v4.toInt = 0 → y_DS f1) → v163.toInt = 0 → y_DS f160) := by have q9 := h152; rw [y_fiZ oY158 (k := 5) (by decide), ← ev163, y_atE o161] at q9; exact q9
    have h153 : (v163.toInt = 0 → y_JG f160 nn (w5.toInt + 1)) := by have q9 := h153; rw [y_fiZ oY158 (k := 5) (by decide), ← ev163, y_atE o161] at q9; exact q9
    have h154 : (v4.toInt = 0 ∨ ¬ v163.toInt = 0) := by have q9 := h154; rw [y_fiZ oY158 (k := 5) (by decide), ← ev163] at q9; exact q9
    obtain ⟨v164, ev164⟩ : ∃ y : Int32, w5 + 1 = y := ⟨_, rfl⟩
    have qv164 : v164.toInt = w5.toInt + 1 := by rw [← ev164]; exact th_add rfl (by decide) ⟨by omega, by omega⟩
    refine lv_iinc (v := v164) (lv' := [(1, .int v164), (0, .ref a0)]) hx hb dX7_joins_106 hl (k := 1) rfl ev164 (by decide) rfl (fun ls hl => ?_)
    refine lv_goto (tgt := 2) hx hb dX7_joins_109 (by decide) ?_
    exact ih2 _ _ _ _ (by omega) ⟨F155, _, v164, rfl, lv_sub hl [1, 0] rfl, hP, hS, hI, hfr, (fun k hk => (y_fiZ oY158 (s_sub (by decide) hk)).trans (hz0 k hk)), ⟨by omega, by omega⟩, (by rw [y_atE o161]; exact h151), (by rw [y_fiZ oY158 (k := 5) (by decide), ← ev163, y_atE o161]; exact (fun hd hg => h152 hd (by omega))), (by rw [y_fiZ oY158 (k := 5) (by decide), ← ev163, y_atE o161]; exact (fun hg => y_JGc (by omega) (h153 (by omega)))), (by rw [y_fiZ oY158 (k := 5) (by decide), ← ev163]; omega), rfl⟩
