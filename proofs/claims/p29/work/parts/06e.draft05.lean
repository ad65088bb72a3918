set_option maxHeartbeats 4000000 in
set_option maxRecDepth 100000 in
theorem y_X7_joins (l : Launch) (dC : Nat → ClassId) (dI : Nat → Nat → Nat) (sz : Nat) {L : List Nat} {K : Nat → Nat} {cs : Nat → ClassId} (hLK : ∀ a {k : Nat}, K a = k → k ≠ 0 → a ∈ L) (A : Nat → Nat) (hA : y_A K A) (F : Nat → va_E) (a0 : Nat) (ha0 : K a0 = 9) (hI : y_I K cs A F) : Met l yX7_joins (Cond.code yX7_joins cX7_joins 4 none :: T0) ({ frames := 1, cells := 0, slots := 0, locals := 22 }) (va_Pc [.ref a0] (s_W dC dI sz L F [(cs 0, .int), (cs 1, .byte), (cs 2, .long), (cs 3, .object RX5), (cs 4, .object RX4), (cs 5, .array .int), (cs 6, .char), (cs 7, .boolean)])) (va_Qv (fun (G : Nat → va_E) => True ∧ True ∧ y_I K cs A G ∧ (∀ b, K b ∉ [9, 62] → G b = F b) ∧ (∀ k, k ∈ ([1, 2, 3, 4, 7, 8, 11, 15, 16, 19, 25, 26, 27, 31, 32] : List Nat) → y_fi G a0 k = y_fi F a0 k) ∧ (((y_fi F a0 5).toInt = 0 ∨ ¬ (y_fi G a0 5).toInt = 0) ∧ (((y_fi F a0 5).toInt = 0 → y_DS (y_at F (A 12))) → (y_fi G a0 5).toInt = 0 → y_DS (y_at G (A 12))) ∧ (y_c (y_at G (A 12)) 387).toInt = (y_c (y_at F (A 12)) 387).toInt ∧ ((y_fi G a0 5).toInt = 0 → y_JG (y_at G (A 12)) (y_c (y_at F (A 12)) 387).toInt (y_c (y_at F (A 12)) 387).toInt))) (fun (G : Nat → va_E) (t : State) => va_P (dC, dI) vwCl (va_pl L G) t.heap ∧ va_K (dC, dI) vwCl [(cs 0, .int), (cs 1, .byte), (cs 2, .long), (cs 3, .object RX5), (cs 4, .object RX4), (cs 5, .array .int), (cs 6, .char), (cs 7, .boolean)] t) (fun q => q ∈ L)) 0 0 (fun q => q ∈ L) := by
  refine Met.ofW (cc := cX7_joins) (maxL := 4) (ret := none) (by decide) rfl ?_
  intro p e s m args below meth c s₁ B hml hv
  obtain ⟨rfl, hsz, hP, hK, hD, hN⟩ := hv
  have hx := B.exec
  have hb := B.bytes
  have hr := B.returns
  have hts : ∀ w ∈ T0, w.before _ s = true := fun w h => atoms_spec (ws := Cond.code yX7_joins cX7_joins 4 none :: T0) B.pre w (List.mem_cons_of_mem _ h)
  have hown : s.vm.findClass RX7 = some m.cls := findClass_of_methodNamed B.named
  have hlocks := B.notSynchronized
  have hS : va_S (fun q => q ∈ L) s.heap s.heap [] := va_S.rf
  have hfr : ∀ b, K b ∉ [9, 62] → F b = F b := fun _ _ => rfl
  have hl := lv_entry ([.ref a0]) (n := 4) (Nat.le_of_ble_eq_true rfl)
  rw [lg_entry_eq]
  generalize (lg_sl ([.ref a0]) ++ List.replicate (4 - (lg_sl ([.ref a0])).length) Slot.unset).toArray = ls at hl ⊢
  have hl : lv_has ls 4 [(0, .ref a0)] := hl
  refine s_gen hP hS (fun H locs hP hS => ?_)
  obtain ⟨z0, q0, oY0, bz0, bq0⟩ := y_opY hI ha0
  have hz0 : ∀ k, k ∈ ([1, 2, 3, 4, 7, 8, 11, 15, 16, 19, 25, 26, 27, 31, 32] : List Nat) → z0 k = z0 k := fun _ _ => rfl
  obtain ⟨f1, o2, b3⟩ := y_op12 hI
  obtain ⟨v4, ev4⟩ : ∃ y : Int32, y = z0 5 := ⟨_, rfl⟩
  have eF_5 := ev4
  have hnb : 0 ≤ (y_c f1 387).toInt ∧ (y_c f1 387).toInt ≤ 40 := b3
  obtain ⟨nn, hnn⟩ : ∃ n : Int, n = (y_c f1 387).toInt := ⟨_, rfl⟩
  rw [← hnn] at hnb
  have e0_v4 := ev4
  refine lv_iconst (v := 0) hx hb dX7_joins_0 (by decide) ?_
  refine lv_istore_n (lv' := [(1, .int 0), (0, .ref a0)]) hx hb dX7_joins_1 rfl hl (by decide) rfl (fun ls hl => ?_)
  have h6 : (0 : Int32).toInt = 0 := by decide
  refine th_loop (fun n g H locs => ∃ (G : Nat → va_E) (ls : Array Slot) (w5 : Int32), g = F0 m 2 ls [] ∧ lv_has ls 4 [(0, .ref a0), (1, .int w5)] ∧ va_P (dC, dI) vwCl (va_pl L G) H ∧ va_S (fun q => q ∈ L) s.heap H locs ∧ y_I K cs A G ∧ (∀ b, K b ∉ [9, 62] → G b = F b) ∧ (∀ k, k ∈ ([1, 2, 3, 4, 7, 8, 11, 15, 16, 19, 25, 26, 27, 31, 32] : List Nat) → y_fi G a0 k = z0 k) ∧ (0 ≤ w5.toInt ∧ w5.toInt ≤ 40) ∧ (y_c (y_at G (A 12)) 387).toInt = nn ∧ ((v4.toInt = 0 → y_DS f1) → (y_fi G a0 5).toInt = 0 → y_DS (y_at G (A 12))) ∧ ((y_fi G a0 5).toInt = 0 → y_JG (y_at G (A 12)) nn w5.toInt) ∧ (v4.toInt = 0 ∨ ¬ (y_fi G a0 5).toInt = 0) ∧ n = (41 - w5.toInt).toNat) _ ⟨F, _, 0, rfl, lv_sub hl [1, 0] rfl, hP, hS, hI, hfr, (fun k hk => (y_fiZ oY0 (s_sub (by decide) hk)).trans (hz0 k hk)), (by decide), (by rw [y_atE o2]; exact hnn.symm), (by rw [y_fiZ oY0 (k := 5) (by decide), ← ev4, y_atE o2]; exact (fun hd hg => hd (by omega))), (by rw [y_fiZ oY0 (k := 5) (by decide), ← ev4, y_atE o2]; exact (fun _ i h0 h1 => absurd h1 (by omega))), (by first | (rw [y_fiZ oY0 (k := 5) (by decide), ← ev4]; omega) | rw [y_fiZ oY0 (k := 5) (by decide), ← ev4]), rfl⟩ (fun n ih2 g H locs hq => ?_)
  obtain ⟨F12, ls, w5, rfl, hl, hP, hS, hI, hfr, hz0, h7, h8, h9, h10, h11, hn⟩ := hq
  obtain ⟨z13, q14, oY15, bz16, bq17⟩ := y_opY hI ha0
  have hz0 : ∀ k, k ∈ ([1, 2, 3, 4, 7, 8, 11, 15, 16, 19, 25, 26, 27, 31, 32] : List Nat) → z13 k = z0 k := fun k hk => (y_fiZ oY15 (s_sub (by decide) hk)).symm.trans (hz0 k hk)
  obtain ⟨f18, o19, b20⟩ := y_op12 hI
  have h8 : (y_c f18 387).toInt = nn := by have q9 := h8; rw [y_atE o19] at q9; exact q9
  obtain ⟨v21, ev21⟩ : ∃ y : Int32, y = z13 5 := ⟨_, rfl⟩
  have h9 : ((v4.toInt = 0 → y_DS f1) → v21.toInt = 0 → y_DS f18) := by have q9 := h9; rw [y_fiZ oY15 (k := 5) (by decide), ← ev21, y_atE o19] at q9; exact q9
  have h10 : (v21.toInt = 0 → y_JG f18 nn w5.toInt) := by have q9 := h10; rw [y_fiZ oY15 (k := 5) (by decide), ← ev21, y_atE o19] at q9; exact q9
  have h11 : (v4.toInt = 0 ∨ ¬ v21.toInt = 0) := by have q9 := h11; rw [y_fiZ oY15 (k := 5) (by decide), ← ev21] at q9; exact q9
  have hn_21 := hn
  refine th_join (fun g H locs => ∃ (G : Nat → va_E) (ls : Array Slot), g = F0 m 106 ls [] ∧ lv_has ls 4 [(0, .ref a0), (1, .int w5)] ∧ va_P (dC, dI) vwCl (va_pl L G) H ∧ va_S (fun q => q ∈ L) s.heap H locs ∧ y_I K cs A G ∧ (∀ b, K b ∉ [9, 62] → G b = F b) ∧ (∀ k, k ∈ ([1, 2, 3, 4, 7, 8, 11, 15, 16, 19, 25, 26, 27, 31, 32] : List Nat) → y_fi G a0 k = z0 k) ∧ (0 ≤ w5.toInt ∧ w5.toInt ≤ 39) ∧ (y_c (y_at G (A 12)) 387).toInt = nn ∧ ((v4.toInt = 0 → y_DS f1) → (y_fi G a0 5).toInt = 0 → y_DS (y_at G (A 12))) ∧ ((y_fi G a0 5).toInt = 0 → y_JG (y_at G (A 12)) nn (w5.toInt + 1)) ∧ (v4.toInt = 0 ∨ ¬ (y_fi G a0 5).toInt = 0)) (fun K106 => ?_) ?_
  refine th_join (fun g H locs => ∃ (G : Nat → va_E) (ls : Array Slot) (w22 : Int32), g = F0 m 95 ls [] ∧ lv_has ls 4 [(0, .ref a0), (1, .int w5), (2, .int w22)] ∧ va_P (dC, dI) vwCl (va_pl L G) H ∧ va_S (fun q => q ∈ L) s.heap H locs ∧ y_I K cs A G ∧ (∀ b, K b ∉ [9, 62] → G b = F b) ∧ (∀ k, k ∈ ([1, 2, 3, 4, 7, 8, 11, 15, 16, 19, 25, 26, 27, 31, 32] : List Nat) → y_fi G a0 k = z0 k) ∧ (-1 ≤ w22.toInt ∧ w22.toInt ≤ 39) ∧ (0 ≤ w5.toInt ∧ w5.toInt ≤ 39) ∧ (y_at G (A 12)) = f18 ∧ ((v4.toInt = 0 ∨ ¬ (y_fi G a0 5).toInt = 0) ∧ v21.toInt = 0) ∧ (w22.toInt < nn ∧ ((y_fi G a0 5).toInt = 0 → 0 ≤ w22.toInt))) (fun K95 => ?_) ?_
  · refine lv_iload_n hx hb dX7_joins_2 rfl (lv_at hl 1 rfl) ?_
    refine lv_aload_n hx hb dX7_joins_3 rfl (lv_at hl 0 rfl) ?_
    refine va_calli (va_runV (As := []) (rest := [.int w5]) ⟨hx, hb, hml, hown, hts⟩ (y_X7_drafted l dC dI H.size hLK A hA F12 a0 ha0 hI) (cwV 0 hts (ax_gV T_293 T_294 T_295 T_265 T_28) rfl rfl rfl (by decide +kernel) ⟨Nat.le_of_ble_eq_true rfl, Nat.le_of_ble_eq_true rfl⟩) ⟨fun a U g mk q => ⟨q.1, s_pc rfl rfl q.2⟩, s_recv hK hP (hLK _ ha0 (by decide)) (ci := 7) rfl oY15, fun U hU hW => ⟨rfl, s_pw hU hW hP hK hD hN⟩⟩ rfl rfl hl.1 rfl (lv_room (Nat.le_of_ble_eq_true rfl)) dX7_joins_4 ⟨Nat.zero_le _, Nat.zero_le _⟩) hS (fun q _ h => h) (fun q h => h) (fun r24 F25 t H1 locs ht hvm hw hB hz1 hk1 hS => ?_)
    obtain ⟨hP, hK1⟩ := hB
    rw [ht] at hP
    generalize H1 = H at hP hS ⊢
    obtain ⟨h26, h28, hI, hfr1, hzf, h27⟩ := hw
    have o29 : F25 (A 12) = .inl (cs 0, 400, .inl f18) := (hfr1 _ (by rw [(y_k12 hA)]; decide)).trans o19
    have oY30 : F25 a0 = .inr (7, y_fl A z13 q14) := (hfr1 _ (by rw [ha0]; decide)).trans oY15
    have hfr : ∀ b, K b ∉ [9, 62] → F25 b = F b := fun b hb9 => (hfr1 b (fun q => hb9 (s_sub (by decide) q))).trans (hfr b hb9)
    have h27 : (r24 = y_c f18 387) := by have q9 := h27; rw [y_atE o19] at q9; exact q9
    have h31 := congrArg Int32.toInt h27
    refine lv_icmp_ge (tgt := 112) hx hb dX7_joins_7 (by decide) (fun c32 => ?_) (fun c32 => ?_)
    · have c32 := Int32.le_iff_toInt_le.mp c32
      exact W.vret hx hb hr (fun t ht hW => ⟨⟨F25, rfl, ⟨trivial, trivial, hI, hfr, fun k hk => (y_fiZ oY30 (s_sub (by decide) hk)).trans ((hz0 k hk).trans (y_fiZ oY0 (s_sub (by decide) hk)).symm), (by rw [y_fiZ oY0 (k := 5) (by decide), ← eF_5, y_fiZ oY30 (k := 5) (by decide), ← ev21, y_atE o2, y_atE o29]; rw [← hnn]; exact ⟨by omega, (fun hd hg => h9 hd (by omega)), h8, fun hg => y_JGle (by omega) (h10 hg)⟩)⟩, by rw [ht]; exact hP, va_K.moved hW.alike hK⟩, hS.F ht⟩) hS.2.2 dX7_joins_112
    · have c32 := mt Int32.le_iff_toInt_le.mpr c32
      refine lv_aload_n hx hb dX7_joins_10 rfl (lv_at hl 0 rfl) ?_
      refine th_get (D := (dC, dI)) (ci := 7) (v := .int (z13 5)) (C := RX7) (T := TX7) (N := 34) hx hb hts inX7 hown hK hP (hLK _ ha0 (by decide)) oY30 rfl 5 (by decide) (hts _ T_274) (fun _ h9 => h9) rfl dX7_joins_11 ?_
      refine ax_eqi (y := v21) ev21.symm ?_
      refine lv_if_ne (tgt := 112) hx hb dX7_joins_14 (by decide) (fun c33 => ?_) (fun c33 => ?_)
      · have c33 := mt (ax_eq (n := 0) (by decide)).mpr c33
        exact W.vret hx hb hr (fun t ht hW => ⟨⟨F25, rfl, ⟨trivial, trivial, hI, hfr, fun k hk => (y_fiZ oY30 (s_sub (by decide) hk)).trans ((hz0 k hk).trans (y_fiZ oY0 (s_sub (by decide) hk)).symm), (by rw [y_fiZ oY0 (k := 5) (by decide), ← eF_5, y_fiZ oY30 (k := 5) (by decide), ← ev21, y_atE o2, y_atE o29]; rw [← hnn]; exact ⟨by omega, (fun hd hg => h9 hd (by omega)), h8, fun hg => y_JGle (by omega) (h10 hg)⟩)⟩, by rw [ht]; exact hP, va_K.moved hW.alike hK⟩, hS.F ht⟩) hS.2.2 dX7_joins_112
      · have c33 := (ax_eq (n := 0) (by decide)).mp c33
        refine lv_aload_n hx hb dX7_joins_17 rfl (lv_at hl 0 rfl) ?_
        refine th_get (D := (dC, dI)) (ci := 7) (v := .ref (A 12)) (C := RX7) (T := TX7) (N := 34) hx hb hts inX7 hown hK hP (hLK _ ha0 (by decide)) oY30 rfl 12 (by decide) (hts _ T_245) (fun _ h9 => h9) rfl dX7_joins_18 ?_
        refine lv_iload_n hx hb dX7_joins_21 rfl (lv_at hl 1 rfl) ?_
        refine lv_iconst (v := 0) hx hb dX7_joins_22 (by decide) ?_
        refine va_calli (va_runS (As := [.int w5, .int 0]) (rest := [.ref (A 12)]) ⟨hx, hb, hml, hown, hts⟩ (y_X7_lineAt l dC dI H.size F25 w5 0 (⟨by omega, by omega⟩) (by decide)) (cwS 2 hts (ax_gS T_1216 T_1218 T_265 T_1217) rfl rfl rfl (by decide +kernel) ⟨Nat.le_of_ble_eq_true rfl, Nat.le_of_ble_eq_true rfl⟩) ⟨fun a U g mk q => ⟨q.1, s_pc rfl rfl q.2⟩, fun U hU hW => ⟨rfl, s_pw hU hW hP hK hD hN⟩⟩ rfl rfl hl.1 rfl (lv_room (Nat.le_of_ble_eq_true rfl)) dX7_joins_23 ⟨Nat.zero_le _, Nat.zero_le _⟩) hS (fun q _ h => h) (fun q h => h) (fun r35 F36 t H1 locs ht hvm hw hB hz1 hk1 hS => ?_)
        obtain ⟨hP, hK1⟩ := hB
        rw [ht] at hP
        generalize H1 = H at hP hS ⊢
        obtain ⟨h37, h39, hG9, h38⟩ := hw
        rw [hG9] at hP
        have h38 : (r35.toInt = 8 * w5.toInt + 0) := by have q9 := h38; exact q9
        refine th_iald hx hb hK hP (hLK _ (y_k12 hA) (by decide)) 0 o29 rfl (th_in ⟨by omega, by omega⟩) dX7_joins_26 ?_
        refine lv_topi (fun v40 ev40 => ?_)
        have h41 : v40.toInt = (y_c f18 (8 * w5.toInt)).toInt := congrArg Int32.toInt (ev40.trans (y_ci (by omega)))
        refine lv_bipush (v := 12) hx hb dX7_joins_27 (by decide) ?_
        refine lv_icmp_eq (tgt := 35) hx hb dX7_joins_29 (by decide) (fun c42 => ?_) (fun c42 => ?_)
        · have c42 := (ax_eq (n := 12) (by decide)).mp c42
          refine lv_iconst (v := (-1)) hx hb dX7_joins_35 (by decide) ?_
          refine lv_istore_n (lv' := [(2, .int (-1)), (0, .ref a0), (1, .int w5)]) hx hb dX7_joins_36 rfl hl (by decide) rfl (fun ls hl => ?_)
          refine lv_iconst (v := 0) hx hb dX7_joins_37 (by decide) ?_
          refine lv_istore_n (lv' := [(3, .int 0), (2, .int (-1)), (0, .ref a0), (1, .int w5)]) hx hb dX7_joins_38 rfl hl (by decide) rfl (fun ls hl => ?_)
          have h45 : ((-1) : Int32).toInt = (-1) := by decide
          have h46 : (0 : Int32).toInt = 0 := by decide
          refine th_loop (fun n g H locs => ∃ (G : Nat → va_E) (ls : Array Slot) (w43 : Int32) (w44 : Int32), g = F0 m 39 ls [] ∧ lv_has ls 4 [(0, .ref a0), (1, .int w5), (2, .int w43), (3, .int w44)] ∧ va_P (dC, dI) vwCl (va_pl L G) H ∧ va_S (fun q => q ∈ L) s.heap H locs ∧ y_I K cs A G ∧ (∀ b, K b ∉ [9, 62] → G b = F b) ∧ (∀ k, k ∈ ([1, 2, 3, 4, 7, 8, 11, 15, 16, 19, 25, 26, 27, 31, 32] : List Nat) → y_fi G a0 k = z0 k) ∧ (-1 ≤ w43.toInt ∧ w43.toInt ≤ 39) ∧ (0 ≤ w44.toInt ∧ w44.toInt ≤ 40) ∧ (0 ≤ w5.toInt ∧ w5.toInt ≤ 39) ∧ (y_at G (A 12)) = f18 ∧ ((v4.toInt = 0 ∨ ¬ (y_fi G a0 5).toInt = 0) ∧ v21.toInt = 0) ∧ ((y_fi G a0 5).toInt = 0 ∧ w43.toInt < nn) ∧ n = (41 - w44.toInt).toNat) _ ⟨F25, _, (-1), 0, rfl, lv_sub hl [2, 3, 1, 0] rfl, hP, hS, hI, hfr, (fun k hk => (y_fiZ oY30 (s_sub (by decide) hk)).trans (hz0 k hk)), (by decide), (by decide), ⟨by omega, by omega⟩, (by first | (rw [y_atE o29]; exact rfl) | rw [y_atE o29]), (by first | (rw [y_fiZ oY30 (k := 5) (by decide), ← ev21]; omega) | rw [y_fiZ oY30 (k := 5) (by decide), ← ev21]), (by first | (rw [y_fiZ oY30 (k := 5) (by decide), ← ev21]; omega) | rw [y_fiZ oY30 (k := 5) (by decide), ← ev21]), rfl⟩ (fun n ih39 g H locs hq => ?_)
          obtain ⟨F53, ls, w43, w44, rfl, hl, hP, hS, hI, hfr, hz0, h47, h48, h49, h50, h51, h52, hn⟩ := hq
          obtain ⟨z54, q55, oY56, bz57, bq58⟩ := y_opY hI ha0
          have hz0 : ∀ k, k ∈ ([1, 2, 3, 4, 7, 8, 11, 15, 16, 19, 25, 26, 27, 31, 32] : List Nat) → z54 k = z0 k := fun k hk => (y_fiZ oY56 (s_sub (by decide) hk)).symm.trans (hz0 k hk)
          obtain ⟨f59, o60, b61⟩ := y_op12 hI
          have h50 : f59 = f18 := by have q9 := h50; rw [y_atE o60] at q9; exact q9
          obtain ⟨v62, ev62⟩ : ∃ y : Int32, y = z54 5 := ⟨_, rfl⟩
          have h51 : ((v4.toInt = 0 ∨ ¬ v62.toInt = 0) ∧ v21.toInt = 0) := by have q9 := h51; rw [y_fiZ oY56 (k := 5) (by decide), ← ev62] at q9; exact q9
          have h52 : (v62.toInt = 0 ∧ w43.toInt < nn) := by have q9 := h52; rw [y_fiZ oY56 (k := 5) (by decide), ← ev62] at q9; exact q9
          have h63 : (y_c f59 387).toInt = nn := by rw [h50]; exact h8
          have hn_63 := hn
          refine th_join (fun g H locs => ∃ (G : Nat → va_E) (ls : Array Slot) (w64 : Int32), g = F0 m 73 ls [] ∧ lv_has ls 4 [(0, .ref a0), (1, .int w5), (2, .int w64), (3, .int w44)] ∧ va_P (dC, dI) vwCl (va_pl L G) H ∧ va_S (fun q => q ∈ L) s.heap H locs ∧ y_I K cs A G ∧ (∀ b, K b ∉ [9, 62] → G b = F b) ∧ (∀ k, k ∈ ([1, 2, 3, 4, 7, 8, 11, 15, 16, 19, 25, 26, 27, 31, 32] : List Nat) → y_fi G a0 k = z0 k) ∧ (-1 ≤ w64.toInt ∧ w64.toInt ≤ 39) ∧ (0 ≤ w5.toInt ∧ w5.toInt ≤ 39) ∧ (0 ≤ w44.toInt ∧ w44.toInt ≤ 39) ∧ (y_at G (A 12)) = f18 ∧ ((v4.toInt = 0 ∨ ¬ (y_fi G a0 5).toInt = 0) ∧ v21.toInt = 0) ∧ ((y_fi G a0 5).toInt = 0 ∧ w64.toInt < nn)) (fun K73 => ?_) ?_
          · refine lv_iload_n hx hb dX7_joins_39 rfl (lv_at hl 3 rfl) ?_
            refine lv_aload_n hx hb dX7_joins_40 rfl (lv_at hl 0 rfl) ?_
            refine va_calli (va_runV (As := []) (rest := [.int w44]) ⟨hx, hb, hml, hown, hts⟩ (y_X7_drafted l dC dI H.size hLK A hA F53 a0 ha0 hI) (cwV 0 hts (ax_gV T_293 T_294 T_295 T_265 T_28) rfl rfl rfl (by decide +kernel) ⟨Nat.le_of_ble_eq_true rfl, Nat.le_of_ble_eq_true rfl⟩) ⟨fun a U g mk q => ⟨q.1, s_pc rfl rfl q.2⟩, s_recv hK hP (hLK _ ha0 (by decide)) (ci := 7) rfl oY56, fun U hU hW => ⟨rfl, s_pw hU hW hP hK hD hN⟩⟩ rfl rfl hl.1 rfl (lv_room (Nat.le_of_ble_eq_true rfl)) dX7_joins_41 ⟨Nat.zero_le _, Nat.zero_le _⟩) hS (fun q _ h => h) (fun q h => h) (fun r66 F67 t H1 locs ht hvm hw hB hz1 hk1 hS => ?_)
            obtain ⟨hP, hK1⟩ := hB
            rw [ht] at hP
            generalize H1 = H at hP hS ⊢
            obtain ⟨h68, h70, hI, hfr1, hzf, h69⟩ := hw
            have o71 : F67 (A 12) = .inl (cs 0, 400, .inl f59) := (hfr1 _ (by rw [(y_k12 hA)]; decide)).trans o60
            have oY72 : F67 a0 = .inr (7, y_fl A z54 q55) := (hfr1 _ (by rw [ha0]; decide)).trans oY56
            have hfr : ∀ b, K b ∉ [9, 62] → F67 b = F b := fun b hb9 => (hfr1 b (fun q => hb9 (s_sub (by decide) q))).trans (hfr b hb9)
            have h69 : (r66 = y_c f59 387) := by have q9 := h69; rw [y_atE o60] at q9; exact q9
            have h73 := congrArg Int32.toInt h69
            refine lv_icmp_ge (tgt := 79) hx hb dX7_joins_44 (by decide) (fun c74 => ?_) (fun c74 => ?_)
            · have c74 := Int32.le_iff_toInt_le.mp c74
              refine lv_iload_n hx hb dX7_joins_79 rfl (lv_at hl 2 rfl) ?_
              refine lv_iconst (v := (-1)) hx hb dX7_joins_80 (by decide) ?_
              refine lv_icmp_ne (tgt := 95) hx hb dX7_joins_81 (by decide) (fun c75 => ?_) (fun c75 => ?_)
              · have c75 := mt (ax_eq (n := (-1)) (by decide)).mpr c75
                exact K95 _ _ _ ⟨F67, _, w43, rfl, lv_sub hl [0, 1, 2] rfl, hP, hS, hI, hfr, (fun k hk => (y_fiZ oY72 (s_sub (by decide) hk)).trans (hz0 k hk)), ⟨by omega, by omega⟩, ⟨by omega, by omega⟩, (by rw [y_atE o71]; exact h50), (by first | (rw [y_fiZ oY72 (k := 5) (by decide), ← ev62]; omega) | rw [y_fiZ oY72 (k := 5) (by decide), ← ev62]), (by first | (rw [y_fiZ oY72 (k := 5) (by decide), ← ev62]; omega) | rw [y_fiZ oY72 (k := 5) (by decide), ← ev62])⟩
              · have c75 := (ax_eq (n := (-1)) (by decide)).mp c75
                refine lv_aload_n hx hb dX7_joins_84 rfl (lv_at hl 0 rfl) ?_
                refine lv_iconst (v := 3) hx hb dX7_joins_85 (by decide) ?_
                refine lv_aload_n hx hb dX7_joins_86 rfl (lv_at hl 0 rfl) ?_
                refine th_get (D := (dC, dI)) (ci := 7) (v := .ref (A 14)) (C := RX7) (T := TX7) (N := 34) hx hb hts inX7 hown hK hP (hLK _ ha0 (by decide)) oY72 rfl 14 (by decide) (hts _ T_247) (fun _ h9 => h9) rfl dX7_joins_87 ?_
                refine lv_iload_n hx hb dX7_joins_90 rfl (lv_at hl 1 rfl) ?_
                obtain ⟨f76, o77, b78⟩ := y_op14 hI
                refine th_iald hx hb hK hP (hLK _ (y_k14 hA) (by decide)) 0 o77 rfl (th_in ⟨by omega, by omega⟩) dX7_joins_91 ?_
                refine lv_topi (fun v79 ev79 => ?_)
                refine va_callv (va_runV (As := [.int 3, .int v79]) (rest := []) ⟨hx, hb, hml, hown, hts⟩ (y_X7_fail l dC dI H.size hLK A hA F67 a0 3 v79 ha0 (by decide) hI) (cwV 2 hts (ax_gV T_290 T_291 T_292 T_265 T_27) rfl rfl rfl (by decide +kernel) ⟨Nat.le_of_ble_eq_true rfl, Nat.le_of_ble_eq_true rfl⟩) ⟨fun a U g mk q => ⟨q.1, s_pc rfl rfl q.2⟩, s_recv hK hP (hLK _ ha0 (by decide)) (ci := 7) rfl oY72, fun U hU hW => ⟨rfl, s_pw hU hW hP hK hD hN⟩⟩ rfl rfl hl.1 rfl (lv_room (Nat.le_of_ble_eq_true rfl)) dX7_joins_92 ⟨Nat.zero_le _, Nat.zero_le _⟩) hS (fun q _ h => h) (fun q h => h) (fun F81 t H1 locs ht hvm hw hB hz1 hk1 hS => ?_)
                obtain ⟨hP, hK1⟩ := hB
                rw [ht] at hP
                generalize H1 = H at hP hS ⊢
                obtain ⟨h82, h84, hI, hfr1, hzf, h83⟩ := hw
                have o85 : F81 (A 12) = .inl (cs 0, 400, .inl f59) := (hfr1 _ (by rw [(y_k12 hA)]; decide)).trans o71
                have o86 : F81 (A 14) = .inl (cs 0, 40, .inl f76) := (hfr1 _ (by rw [(y_k14 hA)]; decide)).trans o77
                obtain ⟨z87, q88, oY89, bz90, bq91⟩ := y_opY hI ha0
                have hzf : ∀ k, k ∈ ([1, 2, 3, 4, 7, 8, 11, 15, 16, 19, 25, 26, 27, 31, 32] : List Nat) → z87 k = z54 k := fun k hk => by have q9 := hzf k hk; rw [y_fiZ oY89 (s_sub (by decide) hk), y_fiZ oY72 (s_sub (by decide) hk)] at q9; exact q9
                have hz0 : ∀ k, k ∈ ([1, 2, 3, 4, 7, 8, 11, 15, 16, 19, 25, 26, 27, 31, 32] : List Nat) → z87 k = z0 k := fun k hk => (hzf k (s_sub (by decide) hk)).trans (hz0 k hk)
                have hfr : ∀ b, K b ∉ [9, 62] → F81 b = F b := fun b hb9 => (hfr1 b (fun q => hb9 (s_sub (by decide) q))).trans (hfr b hb9)
                obtain ⟨v92, ev92⟩ : ∃ y : Int32, y = z87 5 := ⟨_, rfl⟩
                have h83 : (¬ v92.toInt = 0) := by have q9 := h83; rw [y_fiZ oY89 (k := 5) (by decide), ← ev92] at q9; exact q9
                exact K95 _ _ _ ⟨F81, _, w43, rfl, lv_sub hl [0, 1, 2] rfl, hP, hS, hI, hfr, (fun k hk => (y_fiZ oY89 (s_sub (by decide) hk)).trans (hz0 k hk)), ⟨by omega, by omega⟩, ⟨by omega, by omega⟩, (by rw [y_atE o85]; exact h50), (by first | (rw [y_fiZ oY89 (k := 5) (by decide), ← ev92]; omega) | rw [y_fiZ oY89 (k := 5) (by decide), ← ev92]), (by first | (rw [y_fiZ oY89 (k := 5) (by decide), ← ev92]; omega) | rw [y_fiZ oY89 (k := 5) (by decide), ← ev92])⟩
            · have c74 := mt Int32.le_iff_toInt_le.mpr c74
              refine lv_aload_n hx hb dX7_joins_47 rfl (lv_at hl 0 rfl) ?_
              refine th_get (D := (dC, dI)) (ci := 7) (v := .ref (A 12)) (C := RX7) (T := TX7) (N := 34) hx hb hts inX7 hown hK hP (hLK _ ha0 (by decide)) oY72 rfl 12 (by decide) (hts _ T_245) (fun _ h9 => h9) rfl dX7_joins_48 ?_
              refine lv_iload_n hx hb dX7_joins_51 rfl (lv_at hl 3 rfl) ?_
              refine lv_bipush (v := 7) hx hb dX7_joins_52 (by decide) ?_
              refine va_calli (va_runS (As := [.int w44, .int 7]) (rest := [.ref (A 12)]) ⟨hx, hb, hml, hown, hts⟩ (y_X7_lineAt l dC dI H.size F67 w44 7 (⟨by omega, by omega⟩) (by decide)) (cwS 2 hts (ax_gS T_1216 T_1218 T_265 T_1217) rfl rfl rfl (by decide +kernel) ⟨Nat.le_of_ble_eq_true rfl, Nat.le_of_ble_eq_true rfl⟩) ⟨fun a U g mk q => ⟨q.1, s_pc rfl rfl q.2⟩, fun U hU hW => ⟨rfl, s_pw hU hW hP hK hD hN⟩⟩ rfl rfl hl.1 rfl (lv_room (Nat.le_of_ble_eq_true rfl)) dX7_joins_54 ⟨Nat.zero_le _, Nat.zero_le _⟩) hS (fun q _ h => h) (fun q h => h) (fun r94 F95 t H1 locs ht hvm hw hB hz1 hk1 hS => ?_)
              obtain ⟨hP, hK1⟩ := hB
              rw [ht] at hP
              generalize H1 = H at hP hS ⊢
              obtain ⟨h96, h98, hG9, h97⟩ := hw
              rw [hG9] at hP
              have h97 : (r94.toInt = 8 * w44.toInt + 7) := by have q9 := h97; exact q9
              refine th_iald hx hb hK hP (hLK _ (y_k12 hA) (by decide)) 0 o71 rfl (th_in ⟨by omega, by omega⟩) dX7_joins_57 ?_
              refine lv_topi (fun v99 ev99 => ?_)
              refine lv_aload_n hx hb dX7_joins_58 rfl (lv_at hl 0 rfl) ?_
              refine th_get (D := (dC, dI)) (ci := 7) (v := .ref (A 12)) (C := RX7) (T := TX7) (N := 34) hx hb hts inX7 hown hK hP (hLK _ ha0 (by decide)) oY72 rfl 12 (by decide) (hts _ T_245) (fun _ h9 => h9) rfl dX7_joins_59 ?_
              refine lv_iload_n hx hb dX7_joins_62 rfl (lv_at hl 1 rfl) ?_
              refine lv_iconst (v := 4) hx hb dX7_joins_63 (by decide) ?_
              refine va_calli (va_runS (As := [.int w5, .int 4]) (rest := [.ref (A 12), .int v99]) ⟨hx, hb, hml, hown, hts⟩ (y_X7_lineAt l dC dI H.size F67 w5 4 (⟨by omega, by omega⟩) (by decide)) (cwS 2 hts (ax_gS T_1216 T_1218 T_265 T_1217) rfl rfl rfl (by decide +kernel) ⟨Nat.le_of_ble_eq_true rfl, Nat.le_of_ble_eq_true rfl⟩) ⟨fun a U g mk q => ⟨q.1, s_pc rfl rfl q.2⟩, fun U hU hW => ⟨rfl, s_pw hU hW hP hK hD hN⟩⟩ rfl rfl hl.1 rfl (lv_room (Nat.le_of_ble_eq_true rfl)) dX7_joins_64 ⟨Nat.zero_le _, Nat.zero_le _⟩) hS (fun q _ h => h) (fun q h => h) (fun r101 F102 t H1 locs ht hvm hw hB hz1 hk1 hS => ?_)
              obtain ⟨hP, hK1⟩ := hB
              rw [ht] at hP
              generalize H1 = H at hP hS ⊢
              obtain ⟨h103, h105, hG9, h104⟩ := hw
              rw [hG9] at hP
              have h104 : (r101.toInt = 8 * w5.toInt + 4) := by have q9 := h104; exact q9
              refine th_iald hx hb hK hP (hLK _ (y_k12 hA) (by decide)) 0 o71 rfl (th_in ⟨by omega, by omega⟩) dX7_joins_67 ?_
              refine lv_topi (fun v106 ev106 => ?_)
              refine lv_icmp_ne (tgt := 73) hx hb dX7_joins_68 (by decide) (fun c107 => ?_) (fun c107 => ?_)
              · have c107 := mt Int32.toInt_inj.symm.mpr c107
                exact K73 _ _ _ ⟨F67, _, w43, rfl, lv_sub hl [0, 1, 2, 3] rfl, hP, hS, hI, hfr, (fun k hk => (y_fiZ oY72 (s_sub (by decide) hk)).trans (hz0 k hk)), ⟨by omega, by omega⟩, ⟨by omega, by omega⟩, ⟨by omega, by omega⟩, (by rw [y_atE o71]; exact h50), (by first | (rw [y_fiZ oY72 (k := 5) (by decide), ← ev62]; omega) | rw [y_fiZ oY72 (k := 5) (by decide), ← ev62]), (by first | (rw [y_fiZ oY72 (k := 5) (by decide), ← ev62]; omega) | rw [y_fiZ oY72 (k := 5) (by decide), ← ev62])⟩
              · have c107 := Int32.toInt_inj.symm.mp c107
                refine lv_iload_n hx hb dX7_joins_71 rfl (lv_at hl 3 rfl) ?_
                refine lv_istore_n (lv' := [(2, .int w44), (0, .ref a0), (1, .int w5), (3, .int w44)]) hx hb dX7_joins_72 rfl hl (by decide) rfl (fun ls hl => ?_)
                exact K73 _ _ _ ⟨F67, _, w44, rfl, lv_sub hl [1, 2, 0, 3] rfl, hP, hS, hI, hfr, (fun k hk => (y_fiZ oY72 (s_sub (by decide) hk)).trans (hz0 k hk)), ⟨by omega, by omega⟩, ⟨by omega, by omega⟩, ⟨by omega, by omega⟩, (by rw [y_atE o71]; exact h50), (by first | (rw [y_fiZ oY72 (k := 5) (by decide), ← ev62]; omega) | rw [y_fiZ oY72 (k := 5) (by decide), ← ev62]), (by first | (rw [y_fiZ oY72 (k := 5) (by decide), ← ev62]; omega) | rw [y_fiZ oY72 (k := 5) (by decide), ← ev62])⟩
          · intro g H locs hq
            obtain ⟨F114, ls, w64, rfl, hl, hP, hS, hI, hfr, hz0, h108, h109, h110, h111, h112, h113⟩ := hq
            obtain ⟨z115, q116, oY117, bz118, bq119⟩ := y_opY hI ha0
            have hz0 : ∀ k, k ∈ ([1, 2, 3, 4, 7, 8, 11, 15, 16, 19, 25, 26, 27, 31, 32] : List Nat) → z115 k = z0 k := fun k hk => (y_fiZ oY117 (s_sub (by decide) hk)).symm.trans (hz0 k hk)
            obtain ⟨f120, o121, b122⟩ := y_op12 hI
            have h111 : f120 = f18 := by have q9 := h111; rw [y_atE o121] at q9; exact q9
            obtain ⟨v123, ev123⟩ : ∃ y : Int32, y = z115 5 := ⟨_, rfl⟩
            have h112 : ((v4.toInt = 0 ∨ ¬ v123.toInt = 0) ∧ v21.toInt = 0) := by have q9 := h112; rw [y_fiZ oY117 (k := 5) (by decide), ← ev123] at q9; exact q9
            have h113 : (v123.toInt = 0 ∧ w64.toInt < nn) := by have q9 := h113; rw [y_fiZ oY117 (k := 5) (by decide), ← ev123] at q9; exact q9
            have h124 : (y_c f120 387).toInt = nn := by rw [h111]; exact h8
            obtain ⟨v125, ev125⟩ : ∃ y : Int32, w44 + 1 = y := ⟨_, rfl⟩
            have qv125 : v125.toInt = w44.toInt + 1 := by rw [← ev125]; exact th_add rfl (by decide) ⟨by omega, by omega⟩
            refine lv_iinc (v := v125) (lv' := [(3, .int v125), (0, .ref a0), (1, .int w5), (2, .int w64)]) hx hb dX7_joins_73 hl (k := 3) rfl ev125 (by decide) rfl (fun ls hl => ?_)
            refine lv_goto (tgt := 39) hx hb dX7_joins_76 (by decide) ?_
            exact ih39 _ _ _ _ (by omega) ⟨F114, _, w64, v125, rfl, lv_sub hl [1, 2, 3, 0] rfl, hP, hS, hI, hfr, (fun k hk => (y_fiZ oY117 (s_sub (by decide) hk)).trans (hz0 k hk)), ⟨by omega, by omega⟩, ⟨by omega, by omega⟩, ⟨by omega, by omega⟩, (by rw [y_atE o121]; exact h111), (by first | (rw [y_fiZ oY117 (k := 5) (by decide), ← ev123]; omega) | rw [y_fiZ oY117 (k := 5) (by decide), ← ev123]), (by first | (rw [y_fiZ oY117 (k := 5) (by decide), ← ev123]; omega) | rw [y_fiZ oY117 (k := 5) (by decide), ← ev123]), rfl⟩
        · have c42 := mt (ax_eq (n := 12) (by decide)).mpr c42
          refine lv_goto (tgt := 106) hx hb dX7_joins_32 (by decide) ?_
          exact K106 _ _ _ ⟨F25, _, rfl, lv_sub hl [0, 1] rfl, hP, hS, hI, hfr, (fun k hk => (y_fiZ oY30 (s_sub (by decide) hk)).trans (hz0 k hk)), ⟨by omega, by omega⟩, (by rw [y_atE o29]; exact h8), (by rw [y_fiZ oY30 (k := 5) (by decide), ← ev21, y_atE o29]; exact (fun hd hg => h9 hd (by omega))), (by rw [y_fiZ oY30 (k := 5) (by decide), ← ev21, y_atE o29]; exact (fun hg => y_JGs (by omega) (fun j h0 h1 => rfl) (fun q => absurd q (by omega)) (h10 (by omega)))), (by first | (rw [y_fiZ oY30 (k := 5) (by decide), ← ev21]; omega) | rw [y_fiZ oY30 (k := 5) (by decide), ← ev21])⟩
  · intro g H locs hq
    obtain ⟨F131, ls, w22, rfl, hl, hP, hS, hI, hfr, hz0, h126, h127, h128, h129, h130⟩ := hq
    obtain ⟨z132, q133, oY134, bz135, bq136⟩ := y_opY hI ha0
    have hz0 : ∀ k, k ∈ ([1, 2, 3, 4, 7, 8, 11, 15, 16, 19, 25, 26, 27, 31, 32] : List Nat) → z132 k = z0 k := fun k hk => (y_fiZ oY134 (s_sub (by decide) hk)).symm.trans (hz0 k hk)
    obtain ⟨f137, o138, b139⟩ := y_op12 hI
    have h128 : f137 = f18 := by have q9 := h128; rw [y_atE o138] at q9; exact q9
    obtain ⟨v140, ev140⟩ : ∃ y : Int32, y = z132 5 := ⟨_, rfl⟩
    have h129 : ((v4.toInt = 0 ∨ ¬ v140.toInt = 0) ∧ v21.toInt = 0) := by have q9 := h129; rw [y_fiZ oY134 (k := 5) (by decide), ← ev140] at q9; exact q9
    have h130 : (w22.toInt < nn ∧ (v140.toInt = 0 → 0 ≤ w22.toInt)) := by have q9 := h130; rw [y_fiZ oY134 (k := 5) (by decide), ← ev140] at q9; exact q9
    have h141 : (y_c f137 387).toInt = nn := by rw [h128]; exact h8
    refine lv_aload_n hx hb dX7_joins_95 rfl (lv_at hl 0 rfl) ?_
    refine th_get (D := (dC, dI)) (ci := 7) (v := .ref (A 12)) (C := RX7) (T := TX7) (N := 34) hx hb hts inX7 hown hK hP (hLK _ ha0 (by decide)) oY134 rfl 12 (by decide) (hts _ T_245) (fun _ h9 => h9) rfl dX7_joins_96 ?_
    refine lv_iload_n hx hb dX7_joins_99 rfl (lv_at hl 1 rfl) ?_
    refine lv_iconst (v := 4) hx hb dX7_joins_100 (by decide) ?_
    refine va_calli (va_runS (As := [.int w5, .int 4]) (rest := [.ref (A 12)]) ⟨hx, hb, hml, hown, hts⟩ (y_X7_lineAt l dC dI H.size F131 w5 4 (⟨by omega, by omega⟩) (by decide)) (cwS 2 hts (ax_gS T_1216 T_1218 T_265 T_1217) rfl rfl rfl (by decide +kernel) ⟨Nat.le_of_ble_eq_true rfl, Nat.le_of_ble_eq_true rfl⟩) ⟨fun a U g mk q => ⟨q.1, s_pc rfl rfl q.2⟩, fun U hU hW => ⟨rfl, s_pw hU hW hP hK hD hN⟩⟩ rfl rfl hl.1 rfl (lv_room (Nat.le_of_ble_eq_true rfl)) dX7_joins_101 ⟨Nat.zero_le _, Nat.zero_le _⟩) hS (fun q _ h => h) (fun q h => h) (fun r143 F144 t H1 locs ht hvm hw hB hz1 hk1 hS => ?_)
    obtain ⟨hP, hK1⟩ := hB
    rw [ht] at hP
    generalize H1 = H at hP hS ⊢
    obtain ⟨h145, h147, hG9, h146⟩ := hw
    rw [hG9] at hP
    have h146 : (r143.toInt = 8 * w5.toInt + 4) := by have q9 := h146; exact q9
    refine lv_iload_n hx hb dX7_joins_104 rfl (lv_at hl 2 rfl) ?_
    refine th_iast hx hb hK hP hD hS (hLK _ (y_k12 hA) (by decide)) 0 o138 rfl (th_in ⟨by omega, by omega⟩) dX7_joins_105 (fun H locs hP hS => ?_)
    obtain ⟨f148, u149⟩ : ∃ g : Nat → Int32, g = upd f137 (r143 : Int32).toNatClampNeg w22 := ⟨_, rfl⟩
    rw [← u149] at hP
    have b150 : y_bd 12 f148 := by rw [u149]; exact th_updJ (P := fun y => 0 ≤ y.toInt ∧ y.toInt ≤ 40) b139 (fun q => by have q2 := th_tn (by omega) q; omega)
    have hP : va_P (dC, dI) vwCl (va_pl L (va_up F131 (A 12) (.inl (cs 0, 400, .inl f148)))) H := hP
    obtain ⟨F151, hF152⟩ : ∃ G : Nat → va_E, G = va_up F131 (A 12) (.inl (cs 0, 400, .inl f148)) := ⟨_, rfl⟩
    rw [← hF152] at hP
    have hI : y_I K cs A F151 := by rw [hF152]; exact y_clA (i := 12) hA hI (by decide) b150
    have hfr : ∀ b, K b ∉ [9, 62] → F151 b = F b := by rw [hF152]; exact s_fr hfr (y_k12 hA) (by decide)
    have oY153 : F151 a0 = .inr (7, y_fl A z132 q133) := by rw [hF152]; exact th_ne (th_kd ha0 (y_k12 hA) (by decide)) oY134
    have o154 : F151 (A 12) = .inl (cs 0, 400, .inl f148) := by rw [hF152]; exact th_up
    have u155 : ∀ j : Int, 0 ≤ j → y_c f148 j = if j = r143.toInt then w22 else y_c f137 j := by rw [u149]; exact y_cu rfl (by omega)
    have hn157 : (y_c f148 387).toInt = nn := by rw [u155 387 (by omega), if_neg (by omega), h128]; exact h8
    exact K106 _ _ _ ⟨F151, _, rfl, lv_sub hl [0, 1] rfl, hP, hS, hI, hfr, (fun k hk => (y_fiZ oY153 (s_sub (by decide) hk)).trans (hz0 k hk)), ⟨by omega, by omega⟩, (by rw [y_atE o154]; exact hn157), (by rw [y_fiZ oY153 (k := 5) (by decide), ← ev140, y_atE o154]; exact (fun hd hg => y_DSj (k := w5.toInt) ⟨by omega, by omega⟩ (fun j h0 h1 => by rw [u155 j h0, if_neg (by omega)]; exact congrArg (fun f => y_c f j) h128) ((fun hd hg => h9 hd (by omega)) hd (by omega)))), (by rw [y_fiZ oY153 (k := 5) (by decide), ← ev140, y_atE o154]; exact (fun hg => y_JGs (by omega) (fun j h0 h1 => by rw [u155 j h0, if_neg (by omega)]; exact congrArg (fun f => y_c f j) h128) (fun _ => by rw [u155 _ (by omega), if_pos (by omega)]; exact ⟨by omega, by omega⟩) (h10 (by omega)))), (by first | (rw [y_fiZ oY153 (k := 5) (by decide), ← ev140]; omega) | rw [y_fiZ oY153 (k := 5) (by decide), ← ev140])⟩
  · intro g H locs hq
    obtain ⟨F163, ls, rfl, hl, hP, hS, hI, hfr, hz0, h158, h159, h160, h161, h162⟩ := hq
    obtain ⟨z164, q165, oY166, bz167, bq168⟩ := y_opY hI ha0
    have hz0 : ∀ k, k ∈ ([1, 2, 3, 4, 7, 8, 11, 15, 16, 19, 25, 26, 27, 31, 32] : List Nat) → z164 k = z0 k := fun k hk => (y_fiZ oY166 (s_sub (by decide) hk)).symm.trans (hz0 k hk)
    obtain ⟨f169, o170, b171⟩ := y_op12 hI
    have h159 : (y_c f169 387).toInt = nn := by have q9 := h159; rw [y_atE o170] at q9; exact q9
    obtain ⟨v172, ev172⟩ : ∃ y : Int32, y = z164 5 := ⟨_, rfl⟩
    have h160 : ((v4.toInt = 0 → y_DS f1) → v172.toInt = 0 → y_DS f169) := by have q9 := h160; rw [y_fiZ oY166 (k := 5) (by decide), ← ev172, y_atE o170] at q9; exact q9
    have h161 : (v172.toInt = 0 → y_JG f169 nn (w5.toInt + 1)) := by have q9 := h161; rw [y_fiZ oY166 (k := 5) (by decide), ← ev172, y_atE o170] at q9; exact q9
    have h162 : (v4.toInt = 0 ∨ ¬ v172.toInt = 0) := by have q9 := h162; rw [y_fiZ oY166 (k := 5) (by decide), ← ev172] at q9; exact q9
    obtain ⟨v173, ev173⟩ : ∃ y : Int32, w5 + 1 = y := ⟨_, rfl⟩
    have qv173 : v173.toInt = w5.toInt + 1 := by rw [← ev173]; exact th_add rfl (by decide) ⟨by omega, by omega⟩
    refine lv_iinc (v := v173) (lv' := [(1, .int v173), (0, .ref a0)]) hx hb dX7_joins_106 hl (k := 1) rfl ev173 (by decide) rfl (fun ls hl => ?_)
    refine lv_goto (tgt := 2) hx hb dX7_joins_109 (by decide) ?_
    exact ih2 _ _ _ _ (by omega) ⟨F163, _, v173, rfl, lv_sub hl [1, 0] rfl, hP, hS, hI, hfr, (fun k hk => (y_fiZ oY166 (s_sub (by decide) hk)).trans (hz0 k hk)), ⟨by omega, by omega⟩, (by rw [y_atE o170]; exact h159), (by rw [y_fiZ oY166 (k := 5) (by decide), ← ev172, y_atE o170]; exact (fun hd hg => h160 hd (by omega))), (by rw [y_fiZ oY166 (k := 5) (by decide), ← ev172, y_atE o170]; exact (fun hg => y_JGc (by omega) (h161 (by omega)))), (by first | (rw [y_fiZ oY166 (k := 5) (by decide), ← ev172]; omega) | rw [y_fiZ oY166 (k := 5) (by decide), ← ev172]), rfl⟩
