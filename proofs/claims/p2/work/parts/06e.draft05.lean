set_option maxHeartbeats 4000000 in
set_option maxRecDepth 100000 in
theorem y_X7_joins (l : Launch) (dC : Nat → ClassId) (dI : Nat → Nat → Nat) (sz : Nat) {L : List Nat} {K : Nat → Nat} {cs : Nat → ClassId} (hLK : ∀ a {k : Nat}, K a = k → k ≠ 0 → a ∈ L) (A : Nat → Nat) (hA : y_A K A) (F : Nat → va_E) (a0 : Nat) (ha0 : K a0 = 9) (hI : y_I K cs A F) : Met l yX7_joins (Cond.code yX7_joins cX7_joins 4 none :: T0) ({ frames := 1, cells := 0, slots := 0, locals := 22 }) (va_Pc [.ref a0] (s_W dC dI sz L F [(cs 0, .int), (cs 1, .byte), (cs 2, .long), (cs 3, .object RX5), (cs 4, .object RX4), (cs 5, .array .int), (cs 6, .char), (cs 7, .boolean)])) (va_Qv (fun (G : Nat → va_E) => True ∧ True ∧ y_I K cs A G ∧ (∀ b, K b ∉ [9, 62] → G b = F b) ∧ (∀ k, k ∈ ([1, 2, 3, 4, 7, 8, 11, 15, 16, 19, 25, 26, 27, 31, 32] : List Nat) → y_fi G a0 k = y_fi F a0 k) ∧ (((y_fi F a0 5).toInt = 0 ∨ ¬ (y_fi G a0 5).toInt = 0) ∧ (((y_fi F a0 5).toInt = 0 → y_DS (y_at F (A 12))) → (y_fi G a0 5).toInt = 0 → y_DS (y_at G (A 12))) ∧ (y_c (y_at G (A 12)) 387).toInt = (y_c (y_at F (A 12)) 387).toInt ∧ ((y_fi G a0 5).toInt = 0 → y_JG (y_at G (A 12)) (y_c (y_at F (A 12)) 387).toInt (y_c (y_at F (A 12)) 387).toInt))) (fun (G : Nat → va_E) (t : State) => va_P (dC, dI) vwCl (va_pl L G) t.heap ∧ va_K (dC, dI) vwCl [(cs 0, .int), (cs 1, .byte), (cs 2, .long), (cs 3, .object RX5), (cs 4, .object RX4), (cs 5, .array .int), (cs 6, .char), (cs 7, .boolean)] t) (fun q => q ∈ L)) 0 0 (fun q => q ∈ L) := by
  refine Met.ofW (cc := cX7_joins) (maxL := 4) (ret := none) (by decide) rfl ?_
  intro p e s m args below meth c s₁ B hml hv
  obtain ⟨rfl, hsz, hP, hK, hD, hN⟩ := hv
  have hx := B.exec
  have hb := B.bytes
  have hr := B.returns
  have hts : ∀ w ∈ T0, w.before _ s = true := fun w h => atoms_spec (ws := Cond.code yX7_joins cX7_joins 4 none :: T0) B.pre w (List.mem_cons_of_mem _ h)
  have hown : s.vm.findClass RX7 = some m.cls := findClass_of_methodNamed B.named
  have hlocks := B.notSynchronized
  have hS : va_S (fun q => q ∈ L) s.heap s.heap [] := va_S.rf
  have hfr : ∀ b, K b ∉ [9, 62] → F b = F b := fun _ _ => rfl
  have hl := lv_entry ([.ref a0]) (n := 4) (Nat.le_of_ble_eq_true rfl)
  rw [lg_entry_eq]
  generalize (lg_sl ([.ref a0]) ++ List.replicate (4 - (lg_sl ([.ref a0])).length) Slot.unset).toArray = ls at hl ⊢
  have hl : lv_has ls 4 [(0, .ref a0)] := hl
  refine s_gen hP hS (fun H locs hP hS => ?_)
  obtain ⟨z0, q0, oY0, bz0, bq0⟩ := y_opY hI ha0
  have hz0 : ∀ k, k ∈ ([1, 2, 3, 4, 7, 8, 11, 15, 16, 19, 25, 26, 27, 31, 32] : List Nat) → z0 k = z0 k := fun _ _ => rfl
  obtain ⟨f1, o2, b3⟩ := y_op12 hI
  obtain ⟨v4, ev4⟩ : ∃ y : Int32, y = z0 5 := ⟨_, rfl⟩
  have eF_5 := ev4
  have hnb : 0 ≤ (y_c f1 387).toInt ∧ (y_c f1 387).toInt ≤ 40 := b3
  obtain ⟨nn, hnn⟩ : ∃ n : Int, n = (y_c f1 387).toInt := ⟨_, rfl⟩
  rw [← hnn] at hnb
  have e0_v4 := ev4
  refine lv_iconst (v := 0) hx hb dX7_joins_0 (by decide) ?_
  refine lv_istore_n (lv' := [(1, .int 0), (0, .ref a0)]) hx hb dX7_joins_1 rfl hl (by decide) rfl (fun ls hl => ?_)
  have h6 : (0 : Int32).toInt = 0 := by decide
  refine th_loop (fun n g H locs => ∃ (G : Nat → va_E) (ls : Array Slot) (w5 : Int32), g = F0 m 2 ls [] ∧ lv_has ls 4 [(0, .ref a0), (1, .int w5)] ∧ va_P (dC, dI) vwCl (va_pl L G) H ∧ va_S (fun q => q ∈ L) s.heap H locs ∧ y_I K cs A G ∧ (∀ b, K b ∉ [9, 62] → G b = F b) ∧ (∀ k, k ∈ ([1, 2, 3, 4, 7, 8, 11, 15, 16, 19, 25, 26, 27, 31, 32] : List Nat) → y_fi G a0 k = z0 k) ∧ (0 ≤ w5.toInt ∧ w5.toInt ≤ 40) ∧ (y_c (y_at G (A 12)) 387).toInt = nn ∧ ((v4.toInt = 0 → y_DS f1) → (y_fi G a0 5).toInt = 0 → y_DS (y_at G (A 12))) ∧ ((y_fi G a0 5).toInt = 0 → y_JG (y_at G (A 12)) nn w5.toInt) ∧ (v4.toInt = 0 ∨ ¬ (y_fi G a0 5).toInt = 0) ∧ n = (41 - w5.toInt).toNat) _ ⟨F, _, 0, rfl, lv_sub hl [1, 0] rfl, hP, hS, hI, hfr, (fun k hk => (y_fiZ oY0 (s_sub (by decide) hk)).trans (hz0 k hk)), (by decide), (by rw [y_atE o2]; exact hnn.symm), (by rw [y_fiZ oY0 (k := 5) (by decide), ← ev4, y_atE o2]; exact (fun hd hg => hd (by omega))), (by rw [y_fiZ oY0 (k := 5) (by decide), ← ev4, y_atE o2]; exact (fun _ i h0 h1 => absurd h1 (by omega))), (by first | (rw [y_fiZ oY0 (k := 5) (by decide), ← ev4]; omega) | rw [y_fiZ oY0 (k := 5) (by decide), ← ev4]), rfl⟩ (fun n ih2 g H locs hq => ?_)
  obtain ⟨F12, ls, w5, rfl, hl, hP, hS, hI, hfr, hz0, h7, h8, h9, h10, h11, hn⟩ := hq
  obtain ⟨z13, q14, oY15, bz16, bq17⟩ := y_opY hI ha0
  have hz0 : ∀ k, k ∈ ([1, 2, 3, 4, 7, 8, 11, 15, 16, 19, 25, 26, 27, 31, 32] : List Nat) → z13 k = z0 k := fun k hk => (y_fiZ oY15 (s_sub (by decide) hk)).symm.trans (hz0 k hk)
  obtain ⟨f18, o19, b20⟩ := y_op12 hI
  replace h8 : (y_c f18 387).toInt = nn := by have q9 := h8; rw [y_atE o19] at q9; exact q9
  obtain ⟨v21, ev21⟩ : ∃ y : Int32, y = z13 5 := ⟨_, rfl⟩
  replace h9 : ((v4.toInt = 0 → y_DS f1) → v21.toInt = 0 → y_DS f18) := by have q9 := h9; rw [y_fiZ oY15 (k := 5) (by decide), ← ev21, y_atE o19] at q9; exact q9
  replace h10 : (v21.toInt = 0 → y_JG f18 nn w5.toInt) := by have q9 := h10; rw [y_fiZ oY15 (k := 5) (by decide), ← ev21, y_atE o19] at q9; exact q9
  replace h11 : (v4.toInt = 0 ∨ ¬ v21.toInt = 0) := by have q9 := h11; rw [y_fiZ oY15 (k := 5) (by decide), ← ev21] at q9; exact q9
  have hn_21 := hn
  refine th_join (fun g H locs => ∃ (G : Nat → va_E) (ls : Array Slot), g = F0 m 106 ls [] ∧ lv_has ls 4 [(0, .ref a0), (1, .int w5)] ∧ va_P (dC, dI) vwCl (va_pl L G) H ∧ va_S (fun q => q ∈ L) s.heap H locs ∧ y_I K cs A G ∧ (∀ b, K b ∉ [9, 62] → G b = F b) ∧ (∀ k, k ∈ ([1, 2, 3, 4, 7, 8, 11, 15, 16, 19, 25, 26, 27, 31, 32] : List Nat) → y_fi G a0 k = z0 k) ∧ (0 ≤ w5.toInt ∧ w5.toInt ≤ 39) ∧ (y_c (y_at G (A 12)) 387).toInt = nn ∧ ((v4.toInt = 0 → y_DS f1) → (y_fi G a0 5).toInt = 0 → y_DS (y_at G (A 12))) ∧ ((y_fi G a0 5).toInt = 0 → y_JG (y_at G (A 12)) nn (w5.toInt + 1)) ∧ (v4.toInt = 0 ∨ ¬ (y_fi G a0 5).toInt = 0)) (fun K106 => ?_) ?_
  refine th_join (fun g H locs => ∃ (G : Nat → va_E) (ls : Array Slot) (w22 : Int32), g = F0 m 95 ls [] ∧ lv_has ls 4 [(0, .ref a0), (1, .int w5), (2, .int w22)] ∧ va_P (dC, dI) vwCl (va_pl L G) H ∧ va_S (fun q => q ∈ L) s.heap H locs ∧ y_I K cs A G ∧ (∀ b, K b ∉ [9, 62] → G b = F b) ∧ (∀ k, k ∈ ([1, 2, 3, 4, 7, 8, 11, 15, 16, 19, 25, 26, 27, 31, 32] : List Nat) → y_fi G a0 k = z0 k) ∧ (-1 ≤ w22.toInt ∧ w22.toInt ≤ 39) ∧ (0 ≤ w5.toInt ∧ w5.toInt ≤ 39) ∧ (y_at G (A 12)) = f18 ∧ ((v4.toInt = 0 ∨ ¬ (y_fi G a0 5).toInt = 0) ∧ v21.toInt = 0) ∧ (w22.toInt < nn ∧ ((y_fi G a0 5).toInt = 0 → 0 ≤ w22.toInt))) (fun K95 => ?_) ?_
  · refine lv_iload_n hx hb dX7_joins_2 rfl (lv_at hl 1 rfl) ?_
    refine lv_aload_n hx hb dX7_joins_3 rfl (lv_at hl 0 rfl) ?_
    refine va_calli (va_runV (As := []) (rest := [.int w5]) ⟨hx, hb, hml, hown, hts⟩ (y_X7_drafted l dC dI H.size hLK A hA F12 a0 ha0 hI) (cwV 0 hts (ax_gV T_293 T_294 T_295 T_265 T_28) rfl rfl rfl (by decide +kernel) ⟨Nat.le_of_ble_eq_true rfl, Nat.le_of_ble_eq_true rfl⟩) ⟨fun a U g mk q => ⟨q.1, s_pc (U := U) rfl rfl q.2⟩, s_recv hK hP (hLK _ ha0 (by decide)) (ci := 7) rfl oY15, fun U hU hW => ⟨rfl, s_pw hU hW hP hK hD hN⟩⟩ rfl rfl hl.1 rfl (lv_room (Nat.le_of_ble_eq_true rfl)) dX7_joins_4 ⟨Nat.zero_le _, Nat.zero_le _⟩) hS (fun q _ h => h) (fun q h => h) (fun r24 F25 t H1 locs ht hvm hw hB hz1 hk1 hS => ?_)
    obtain ⟨hP, hK1⟩ := hB
    rw [ht] at hP
    generalize H1 = H at hP hS ⊢
    clear hz1 hk1 hvm hK1
    obtain ⟨h26, h28, hI, hfr1, hzf, h27⟩ := hw
    have o29 : F25 (A 12) = .inl (cs 0, 400, .inl f18) := (hfr1 _ (by rw [(y_k12 hA)]; decide)).trans o19
    have oY30 : F25 a0 = .inr (7, y_fl A z13 q14) := (hfr1 _ (by rw [ha0]; decide)).trans oY15
    have hfr : ∀ b, K b ∉ [9, 62] → F25 b = F b := fun b hb9 => (hfr1 b (fun q => hb9 (s_sub (by decide) q))).trans (hfr b hb9)
    replace h27 : (r24 = y_c f18 387) := by have q9 := h27; rw [y_atE o19] at q9; exact q9
    have h31 := congrArg Int32.toInt h27
    refine lv_icmp_ge (tgt := 112) hx hb dX7_joins_7 (by decide) (fun c32 => ?_) (fun c32 => ?_)
    · have c32 := Int32.le_iff_toInt_le.mp c32
      exact W.vret hx hb hr (fun t ht hW => ⟨⟨F25, rfl, ⟨trivial, trivial, hI, hfr, fun k hk => (y_fiZ oY30 (s_sub (by decide) hk)).trans ((hz0 k hk).trans (y_fiZ oY0 (s_sub (by decide) hk)).symm), (by rw [y_fiZ oY0 (k := 5) (by decide), ← eF_5, y_fiZ oY30 (k := 5) (by decide), ← ev21, y_atE o2, y_atE o29]; rw [← hnn]; exact ⟨by omega, (fun hd hg => h9 hd (by omega)), h8, fun hg => y_JGle (by omega) (h10 hg)⟩)⟩, by rw [ht]; exact hP, va_K.moved hW.alike hK⟩, hS.F ht⟩) hS.2.2 dX7_joins_112
    · have c32 := mt Int32.le_iff_toInt_le.mpr c32
      refine lv_aload_n hx hb dX7_joins_10 rfl (lv_at hl 0 rfl) ?_
      refine th_get (D := (dC, dI)) (ci := 7) (v := .int (z13 5)) (C := RX7) (T := TX7) (N := 34) hx hb hts inX7 hown hK hP (hLK _ ha0 (by decide)) oY30 rfl 5 (by decide) (hts _ T_274) (fun _ h9 => h9) rfl dX7_joins_11 ?_
      refine ax_eqi (y := v21) ev21.symm ?_
      refine lv_if_ne (tgt := 112) hx hb dX7_joins_14 (by decide) (fun c33 => ?_) (fun c33 => ?_)
      · have c33 := mt (ax_eq (n := 0) (by decide)).mpr c33
        exact W.vret hx hb hr (fun t ht hW => ⟨⟨F25, rfl, ⟨trivial, trivial, hI, hfr, fun k hk => (y_fiZ oY30 (s_sub (by decide) hk)).trans ((hz0 k hk).trans (y_fiZ oY0 (s_sub (by decide) hk)).symm), (by rw [y_fiZ oY0 (k := 5) (by decide), ← eF_5, y_fiZ oY30 (k := 5) (by decide), ← ev21, y_atE o2, y_atE o29]; rw [← hnn]; exact ⟨by omega, (fun hd hg => h9 hd (by omega)), h8, fun hg => y_JGle (by omega) (h10 hg)⟩)⟩, by rw [ht]; exact hP, va_K.moved hW.alike hK⟩, hS.F ht⟩) hS.2.2 dX7_joins_112
      · have c33 := (ax_eq (n := 0) (by decide)).mp c33
        refine lv_aload_n hx hb dX7_joins_17 rfl (lv_at hl 0 rfl) ?_
        refine th_get (D := (dC, dI)) (ci := 7) (v := .ref (A 12)) (C := RX7) (T := TX7) (N := 34) hx hb hts inX7 hown hK hP (hLK _ ha0 (by decide)) oY30 rfl 12 (by decide) (hts _ T_245) (fun _ h9 => h9) rfl dX7_joins_18 ?_
        refine lv_iload_n hx hb dX7_joins_21 rfl (lv_at hl 1 rfl) ?_
        refine lv_iconst (v := 0) hx hb dX7_joins_22 (by decide) ?_
        have rg34 : 0 ≤ w5.toInt ∧ w5.toInt ≤ 40 := ⟨by omega, by omega⟩
        refine va_calli (va_runS (As := [.int w5, .int 0]) (rest := [.ref (A 12)]) ⟨hx, hb, hml, hown, hts⟩ (y_X7_lineAt l dC dI H.size F25 w5 0 rg34 (by decide)) (cwS 2 hts (ax_gS T_1216 T_1218 T_265 T_1217) rfl rfl rfl (by decide +kernel) ⟨Nat.le_of_ble_eq_true rfl, Nat.le_of_ble_eq_true rfl⟩) ⟨fun a U g mk q => ⟨q.1, s_pc (U := U) rfl rfl q.2⟩, fun U hU hW => ⟨rfl, s_pw hU hW hP hK hD hN⟩⟩ rfl rfl hl.1 rfl (lv_room (Nat.le_of_ble_eq_true rfl)) dX7_joins_23 ⟨Nat.zero_le _, Nat.zero_le _⟩) hS (fun q _ h => h) (fun q h => h) (fun r36 F37 t H1 locs ht hvm hw hB hz1 hk1 hS => ?_)
        obtain ⟨hP, hK1⟩ := hB
        rw [ht] at hP
        generalize H1 = H at hP hS ⊢
        clear hz1 hk1 hvm hK1
        obtain ⟨h38, h40, hG9, h39⟩ := hw
        rw [hG9] at hP
        replace h39 : (r36.toInt = 8 * w5.toInt + 0) := by have q9 := h39; exact q9
        refine th_iald hx hb hK hP (hLK _ (y_k12 hA) (by decide)) 0 o29 rfl (th_in ⟨by omega, by omega⟩) dX7_joins_26 ?_
        refine lv_topi (fun v41 ev41 => ?_)
        have h42 : v41.toInt = (y_c f18 (8 * w5.toInt)).toInt := congrArg Int32.toInt (ev41.trans (y_ci (by omega)))
        refine lv_bipush (v := 12) hx hb dX7_joins_27 (by decide) ?_
        refine lv_icmp_eq (tgt := 35) hx hb dX7_joins_29 (by decide) (fun c43 => ?_) (fun c43 => ?_)
        · have c43 := (ax_eq (n := 12) (by decide)).mp c43
          refine lv_iconst (v := (-1)) hx hb dX7_joins_35 (by decide) ?_
          refine lv_istore_n (lv' := [(2, .int (-1)), (0, .ref a0), (1, .int w5)]) hx hb dX7_joins_36 rfl hl (by decide) rfl (fun ls hl => ?_)
          refine lv_iconst (v := 0) hx hb dX7_joins_37 (by decide) ?_
          refine lv_istore_n (lv' := [(3, .int 0), (2, .int (-1)), (0, .ref a0), (1, .int w5)]) hx hb dX7_joins_38 rfl hl (by decide) rfl (fun ls hl => ?_)
          have h46 : ((-1) : Int32).toInt = (-1) := by decide
          have h47 : (0 : Int32).toInt = 0 := by decide
          refine th_loop (fun n g H locs => ∃ (G : Nat → va_E) (ls : Array Slot) (w44 : Int32) (w45 : Int32), g = F0 m 39 ls [] ∧ lv_has ls 4 [(0, .ref a0), (1, .int w5), (2, .int w44), (3, .int w45)] ∧ va_P (dC, dI) vwCl (va_pl L G) H ∧ va_S (fun q => q ∈ L) s.heap H locs ∧ y_I K cs A G ∧ (∀ b, K b ∉ [9, 62] → G b = F b) ∧ (∀ k, k ∈ ([1, 2, 3, 4, 7, 8, 11, 15, 16, 19, 25, 26, 27, 31, 32] : List Nat) → y_fi G a0 k = z0 k) ∧ (-1 ≤ w44.toInt ∧ w44.toInt ≤ 39) ∧ (0 ≤ w45.toInt ∧ w45.toInt ≤ 40) ∧ (0 ≤ w5.toInt ∧ w5.toInt ≤ 39) ∧ (y_at G (A 12)) = f18 ∧ ((v4.toInt = 0 ∨ ¬ (y_fi G a0 5).toInt = 0) ∧ v21.toInt = 0) ∧ ((y_fi G a0 5).toInt = 0 ∧ w44.toInt < nn) ∧ n = (41 - w45.toInt).toNat) _ ⟨F25, _, (-1), 0, rfl, lv_sub hl [2, 3, 1, 0] rfl, hP, hS, hI, hfr, (fun k hk => (y_fiZ oY30 (s_sub (by decide) hk)).trans (hz0 k hk)), (by decide), (by decide), ⟨by omega, by omega⟩, (by first | (rw [y_atE o29]; exact rfl) | rw [y_atE o29]), (by first | (rw [y_fiZ oY30 (k := 5) (by decide), ← ev21]; omega) | rw [y_fiZ oY30 (k := 5) (by decide), ← ev21]), (by first | (rw [y_fiZ oY30 (k := 5) (by decide), ← ev21]; omega) | rw [y_fiZ oY30 (k := 5) (by decide), ← ev21]), rfl⟩ (fun n ih39 g H locs hq => ?_)
          obtain ⟨F54, ls, w44, w45, rfl, hl, hP, hS, hI, hfr, hz0, h48, h49, h50, h51, h52, h53, hn⟩ := hq
          obtain ⟨z55, q56, oY57, bz58, bq59⟩ := y_opY hI ha0
          have hz0 : ∀ k, k ∈ ([1, 2, 3, 4, 7, 8, 11, 15, 16, 19, 25, 26, 27, 31, 32] : List Nat) → z55 k = z0 k := fun k hk => (y_fiZ oY57 (s_sub (by decide) hk)).symm.trans (hz0 k hk)
          obtain ⟨f60, o61, b62⟩ := y_op12 hI
          replace h51 : f60 = f18 := by have q9 := h51; rw [y_atE o61] at q9; exact q9
          obtain ⟨v63, ev63⟩ : ∃ y : Int32, y = z55 5 := ⟨_, rfl⟩
          replace h52 : ((v4.toInt = 0 ∨ ¬ v63.toInt = 0) ∧ v21.toInt = 0) := by have q9 := h52; rw [y_fiZ oY57 (k := 5) (by decide), ← ev63] at q9; exact q9
          replace h53 : (v63.toInt = 0 ∧ w44.toInt < nn) := by have q9 := h53; rw [y_fiZ oY57 (k := 5) (by decide), ← ev63] at q9; exact q9
          have h64 : (y_c f60 387).toInt = nn := by rw [h51]; exact h8
          have hn_64 := hn
          refine th_join (fun g H locs => ∃ (G : Nat → va_E) (ls : Array Slot) (w65 : Int32), g = F0 m 73 ls [] ∧ lv_has ls 4 [(0, .ref a0), (1, .int w5), (2, .int w65), (3, .int w45)] ∧ va_P (dC, dI) vwCl (va_pl L G) H ∧ va_S (fun q => q ∈ L) s.heap H locs ∧ y_I K cs A G ∧ (∀ b, K b ∉ [9, 62] → G b = F b) ∧ (∀ k, k ∈ ([1, 2, 3, 4, 7, 8, 11, 15, 16, 19, 25, 26, 27, 31, 32] : List Nat) → y_fi G a0 k = z0 k) ∧ (-1 ≤ w65.toInt ∧ w65.toInt ≤ 39) ∧ (0 ≤ w5.toInt ∧ w5.toInt ≤ 39) ∧ (0 ≤ w45.toInt ∧ w45.toInt ≤ 39) ∧ (y_at G (A 12)) = f18 ∧ ((v4.toInt = 0 ∨ ¬ (y_fi G a0 5).toInt = 0) ∧ v21.toInt = 0) ∧ ((y_fi G a0 5).toInt = 0 ∧ w65.toInt < nn)) (fun K73 => ?_) ?_
          · refine lv_iload_n hx hb dX7_joins_39 rfl (lv_at hl 3 rfl) ?_
            refine lv_aload_n hx hb dX7_joins_40 rfl (lv_at hl 0 rfl) ?_
            refine va_calli (va_runV (As := []) (rest := [.int w45]) ⟨hx, hb, hml, hown, hts⟩ (y_X7_drafted l dC dI H.size hLK A hA F54 a0 ha0 hI) (cwV 0 hts (ax_gV T_293 T_294 T_295 T_265 T_28) rfl rfl rfl (by decide +kernel) ⟨Nat.le_of_ble_eq_true rfl, Nat.le_of_ble_eq_true rfl⟩) ⟨fun a U g mk q => ⟨q.1, s_pc (U := U) rfl rfl q.2⟩, s_recv hK hP (hLK _ ha0 (by decide)) (ci := 7) rfl oY57, fun U hU hW => ⟨rfl, s_pw hU hW hP hK hD hN⟩⟩ rfl rfl hl.1 rfl (lv_room (Nat.le_of_ble_eq_true rfl)) dX7_joins_41 ⟨Nat.zero_le _, Nat.zero_le _⟩) hS (fun q _ h => h) (fun q h => h) (fun r67 F68 t H1 locs ht hvm hw hB hz1 hk1 hS => ?_)
            obtain ⟨hP, hK1⟩ := hB
            rw [ht] at hP
            generalize H1 = H at hP hS ⊢
            clear hz1 hk1 hvm hK1
            obtain ⟨h69, h71, hI, hfr1, hzf, h70⟩ := hw
            have o72 : F68 (A 12) = .inl (cs 0, 400, .inl f60) := (hfr1 _ (by rw [(y_k12 hA)]; decide)).trans o61
            have oY73 : F68 a0 = .inr (7, y_fl A z55 q56) := (hfr1 _ (by rw [ha0]; decide)).trans oY57
            have hfr : ∀ b, K b ∉ [9, 62] → F68 b = F b := fun b hb9 => (hfr1 b (fun q => hb9 (s_sub (by decide) q))).trans (hfr b hb9)
            replace h70 : (r67 = y_c f60 387) := by have q9 := h70; rw [y_atE o61] at q9; exact q9
            have h74 := congrArg Int32.toInt h70
            refine lv_icmp_ge (tgt := 79) hx hb dX7_joins_44 (by decide) (fun c75 => ?_) (fun c75 => ?_)
            · have c75 := Int32.le_iff_toInt_le.mp c75
              refine lv_iload_n hx hb dX7_joins_79 rfl (lv_at hl 2 rfl) ?_
              refine lv_iconst (v := (-1)) hx hb dX7_joins_80 (by decide) ?_
              refine lv_icmp_ne (tgt := 95) hx hb dX7_joins_81 (by decide) (fun c76 => ?_) (fun c76 => ?_)
              · have c76 := mt (ax_eq (n := (-1)) (by decide)).mpr c76
                exact K95 _ _ _ ⟨F68, _, w44, rfl, lv_sub hl [0, 1, 2] rfl, hP, hS, hI, hfr, (fun k hk => (y_fiZ oY73 (s_sub (by decide) hk)).trans (hz0 k hk)), ⟨by omega, by omega⟩, ⟨by omega, by omega⟩, (by rw [y_atE o72]; exact h51), (by first | (rw [y_fiZ oY73 (k := 5) (by decide), ← ev63]; omega) | rw [y_fiZ oY73 (k := 5) (by decide), ← ev63]), (by first | (rw [y_fiZ oY73 (k := 5) (by decide), ← ev63]; omega) | rw [y_fiZ oY73 (k := 5) (by decide), ← ev63])⟩
              · have c76 := (ax_eq (n := (-1)) (by decide)).mp c76
                refine lv_aload_n hx hb dX7_joins_84 rfl (lv_at hl 0 rfl) ?_
                refine lv_iconst (v := 3) hx hb dX7_joins_85 (by decide) ?_
                refine lv_aload_n hx hb dX7_joins_86 rfl (lv_at hl 0 rfl) ?_
                refine th_get (D := (dC, dI)) (ci := 7) (v := .ref (A 14)) (C := RX7) (T := TX7) (N := 34) hx hb hts inX7 hown hK hP (hLK _ ha0 (by decide)) oY73 rfl 14 (by decide) (hts _ T_247) (fun _ h9 => h9) rfl dX7_joins_87 ?_
                refine lv_iload_n hx hb dX7_joins_90 rfl (lv_at hl 1 rfl) ?_
                obtain ⟨f77, o78, b79⟩ := y_op14 hI
                refine th_iald hx hb hK hP (hLK _ (y_k14 hA) (by decide)) 0 o78 rfl (th_in ⟨by omega, by omega⟩) dX7_joins_91 ?_
                refine lv_topi (fun v80 ev80 => ?_)
                refine va_callv (va_runV (As := [.int 3, .int v80]) (rest := []) ⟨hx, hb, hml, hown, hts⟩ (y_X7_fail l dC dI H.size hLK A hA F68 a0 3 v80 ha0 (by decide) hI) (cwV 2 hts (ax_gV T_290 T_291 T_292 T_265 T_27) rfl rfl rfl (by decide +kernel) ⟨Nat.le_of_ble_eq_true rfl, Nat.le_of_ble_eq_true rfl⟩) ⟨fun a U g mk q => ⟨q.1, s_pc (U := U) rfl rfl q.2⟩, s_recv hK hP (hLK _ ha0 (by decide)) (ci := 7) rfl oY73, fun U hU hW => ⟨rfl, s_pw hU hW hP hK hD hN⟩⟩ rfl rfl hl.1 rfl (lv_room (Nat.le_of_ble_eq_true rfl)) dX7_joins_92 ⟨Nat.zero_le _, Nat.zero_le _⟩) hS (fun q _ h => h) (fun q h => h) (fun F82 t H1 locs ht hvm hw hB hz1 hk1 hS => ?_)
                obtain ⟨hP, hK1⟩ := hB
                rw [ht] at hP
                generalize H1 = H at hP hS ⊢
                clear hz1 hk1 hvm hK1
                obtain ⟨h83, h85, hI, hfr1, hzf, h84⟩ := hw
                have o86 : F82 (A 12) = .inl (cs 0, 400, .inl f60) := (hfr1 _ (by rw [(y_k12 hA)]; decide)).trans o72
                have o87 : F82 (A 14) = .inl (cs 0, 40, .inl f77) := (hfr1 _ (by rw [(y_k14 hA)]; decide)).trans o78
                obtain ⟨z88, q89, oY90, bz91, bq92⟩ := y_opY hI ha0
                have hzf : ∀ k, k ∈ ([1, 2, 3, 4, 7, 8, 11, 15, 16, 19, 25, 26, 27, 31, 32] : List Nat) → z88 k = z55 k := fun k hk => by have q9 := hzf k hk; rw [y_fiZ oY90 (s_sub (by decide) hk), y_fiZ oY73 (s_sub (by decide) hk)] at q9; exact q9
                have hz0 : ∀ k, k ∈ ([1, 2, 3, 4, 7, 8, 11, 15, 16, 19, 25, 26, 27, 31, 32] : List Nat) → z88 k = z0 k := fun k hk => (hzf k (s_sub (by decide) hk)).trans (hz0 k hk)
                have hfr : ∀ b, K b ∉ [9, 62] → F82 b = F b := fun b hb9 => (hfr1 b (fun q => hb9 (s_sub (by decide) q))).trans (hfr b hb9)
                obtain ⟨v93, ev93⟩ : ∃ y : Int32, y = z88 5 := ⟨_, rfl⟩
                replace h84 : (¬ v93.toInt = 0) := by have q9 := h84; rw [y_fiZ oY90 (k := 5) (by decide), ← ev93] at q9; exact q9
                exact K95 _ _ _ ⟨F82, _, w44, rfl, lv_sub hl [0, 1, 2] rfl, hP, hS, hI, hfr, (fun k hk => (y_fiZ oY90 (s_sub (by decide) hk)).trans (hz0 k hk)), ⟨by omega, by omega⟩, ⟨by omega, by omega⟩, (by rw [y_atE o86]; exact h51), (by first | (rw [y_fiZ oY90 (k := 5) (by decide), ← ev93]; omega) | rw [y_fiZ oY90 (k := 5) (by decide), ← ev93]), (by first | (rw [y_fiZ oY90 (k := 5) (by decide), ← ev93]; omega) | rw [y_fiZ oY90 (k := 5) (by decide), ← ev93])⟩
            · have c75 := mt Int32.le_iff_toInt_le.mpr c75
              refine lv_aload_n hx hb dX7_joins_47 rfl (lv_at hl 0 rfl) ?_
              refine th_get (D := (dC, dI)) (ci := 7) (v := .ref (A 12)) (C := RX7) (T := TX7) (N := 34) hx hb hts inX7 hown hK hP (hLK _ ha0 (by decide)) oY73 rfl 12 (by decide) (hts _ T_245) (fun _ h9 => h9) rfl dX7_joins_48 ?_
              refine lv_iload_n hx hb dX7_joins_51 rfl (lv_at hl 3 rfl) ?_
              refine lv_bipush (v := 7) hx hb dX7_joins_52 (by decide) ?_
              have rg94 : 0 ≤ w45.toInt ∧ w45.toInt ≤ 40 := ⟨by omega, by omega⟩
              refine va_calli (va_runS (As := [.int w45, .int 7]) (rest := [.ref (A 12)]) ⟨hx, hb, hml, hown, hts⟩ (y_X7_lineAt l dC dI H.size F68 w45 7 rg94 (by decide)) (cwS 2 hts (ax_gS T_1216 T_1218 T_265 T_1217) rfl rfl rfl (by decide +kernel) ⟨Nat.le_of_ble_eq_true rfl, Nat.le_of_ble_eq_true rfl⟩) ⟨fun a U g mk q => ⟨q.1, s_pc (U := U) rfl rfl q.2⟩, fun U hU hW => ⟨rfl, s_pw hU hW hP hK hD hN⟩⟩ rfl rfl hl.1 rfl (lv_room (Nat.le_of_ble_eq_true rfl)) dX7_joins_54 ⟨Nat.zero_le _, Nat.zero_le _⟩) hS (fun q _ h => h) (fun q h => h) (fun r96 F97 t H1 locs ht hvm hw hB hz1 hk1 hS => ?_)
              obtain ⟨hP, hK1⟩ := hB
              rw [ht] at hP
              generalize H1 = H at hP hS ⊢
              clear hz1 hk1 hvm hK1
              obtain ⟨h98, h100, hG9, h99⟩ := hw
              rw [hG9] at hP
              replace h99 : (r96.toInt = 8 * w45.toInt + 7) := by have q9 := h99; exact q9
              refine th_iald hx hb hK hP (hLK _ (y_k12 hA) (by decide)) 0 o72 rfl (th_in ⟨by omega, by omega⟩) dX7_joins_57 ?_
              refine lv_topi (fun v101 ev101 => ?_)
              refine lv_aload_n hx hb dX7_joins_58 rfl (lv_at hl 0 rfl) ?_
              refine th_get (D := (dC, dI)) (ci := 7) (v := .ref (A 12)) (C := RX7) (T := TX7) (N := 34) hx hb hts inX7 hown hK hP (hLK _ ha0 (by decide)) oY73 rfl 12 (by decide) (hts _ T_245) (fun _ h9 => h9) rfl dX7_joins_59 ?_
              refine lv_iload_n hx hb dX7_joins_62 rfl (lv_at hl 1 rfl) ?_
              refine lv_iconst (v := 4) hx hb dX7_joins_63 (by decide) ?_
              refine va_calli (va_runS (As := [.int w5, .int 4]) (rest := [.ref (A 12), .int v101]) ⟨hx, hb, hml, hown, hts⟩ (y_X7_lineAt l dC dI H.size F68 w5 4 rg34 (by decide)) (cwS 2 hts (ax_gS T_1216 T_1218 T_265 T_1217) rfl rfl rfl (by decide +kernel) ⟨Nat.le_of_ble_eq_true rfl, Nat.le_of_ble_eq_true rfl⟩) ⟨fun a U g mk q => ⟨q.1, s_pc (U := U) rfl rfl q.2⟩, fun U hU hW => ⟨rfl, s_pw hU hW hP hK hD hN⟩⟩ rfl rfl hl.1 rfl (lv_room (Nat.le_of_ble_eq_true rfl)) dX7_joins_64 ⟨Nat.zero_le _, Nat.zero_le _⟩) hS (fun q _ h => h) (fun q h => h) (fun r103 F104 t H1 locs ht hvm hw hB hz1 hk1 hS => ?_)
              obtain ⟨hP, hK1⟩ := hB
              rw [ht] at hP
              generalize H1 = H at hP hS ⊢
              clear hz1 hk1 hvm hK1
              obtain ⟨h105, h107, hG9, h106⟩ := hw
              rw [hG9] at hP
              replace h106 : (r103.toInt = 8 * w5.toInt + 4) := by have q9 := h106; exact q9
              refine th_iald hx hb hK hP (hLK _ (y_k12 hA) (by decide)) 0 o72 rfl (th_in ⟨by omega, by omega⟩) dX7_joins_67 ?_
              refine lv_topi (fun v108 ev108 => ?_)
              refine lv_icmp_ne (tgt := 73) hx hb dX7_joins_68 (by decide) (fun c109 => ?_) (fun c109 => ?_)
              · have c109 := mt Int32.toInt_inj.symm.mpr c109
                exact K73 _ _ _ ⟨F68, _, w44, rfl, lv_sub hl [0, 1, 2, 3] rfl, hP, hS, hI, hfr, (fun k hk => (y_fiZ oY73 (s_sub (by decide) hk)).trans (hz0 k hk)), ⟨by omega, by omega⟩, ⟨by omega, by omega⟩, ⟨by omega, by omega⟩, (by rw [y_atE o72]; exact h51), (by first | (rw [y_fiZ oY73 (k := 5) (by decide), ← ev63]; omega) | rw [y_fiZ oY73 (k := 5) (by decide), ← ev63]), (by first | (rw [y_fiZ oY73 (k := 5) (by decide), ← ev63]; omega) | rw [y_fiZ oY73 (k := 5) (by decide), ← ev63])⟩
              · have c109 := Int32.toInt_inj.symm.mp c109
                refine lv_iload_n hx hb dX7_joins_71 rfl (lv_at hl 3 rfl) ?_
                refine lv_istore_n (lv' := [(2, .int w45), (0, .ref a0), (1, .int w5), (3, .int w45)]) hx hb dX7_joins_72 rfl hl (by decide) rfl (fun ls hl => ?_)
                exact K73 _ _ _ ⟨F68, _, w45, rfl, lv_sub hl [1, 2, 0, 3] rfl, hP, hS, hI, hfr, (fun k hk => (y_fiZ oY73 (s_sub (by decide) hk)).trans (hz0 k hk)), ⟨by omega, by omega⟩, ⟨by omega, by omega⟩, ⟨by omega, by omega⟩, (by rw [y_atE o72]; exact h51), (by first | (rw [y_fiZ oY73 (k := 5) (by decide), ← ev63]; omega) | rw [y_fiZ oY73 (k := 5) (by decide), ← ev63]), (by first | (rw [y_fiZ oY73 (k := 5) (by decide), ← ev63]; omega) | rw [y_fiZ oY73 (k := 5) (by decide), ← ev63])⟩
          · intro g H locs hq
            obtain ⟨F116, ls, w65, rfl, hl, hP, hS, hI, hfr, hz0, h110, h111, h112, h113, h114, h115⟩ := hq
            obtain ⟨z117, q118, oY119, bz120, bq121⟩ := y_opY hI ha0
            have hz0 : ∀ k, k ∈ ([1, 2, 3, 4, 7, 8, 11, 15, 16, 19, 25, 26, 27, 31, 32] : List Nat) → z117 k = z0 k := fun k hk => (y_fiZ oY119 (s_sub (by decide) hk)).symm.trans (hz0 k hk)
            obtain ⟨f122, o123, b124⟩ := y_op12 hI
            replace h113 : f122 = f18 := by have q9 := h113; rw [y_atE o123] at q9; exact q9
            obtain ⟨v125, ev125⟩ : ∃ y : Int32, y = z117 5 := ⟨_, rfl⟩
            replace h114 : ((v4.toInt = 0 ∨ ¬ v125.toInt = 0) ∧ v21.toInt = 0) := by have q9 := h114; rw [y_fiZ oY119 (k := 5) (by decide), ← ev125] at q9; exact q9
            replace h115 : (v125.toInt = 0 ∧ w65.toInt < nn) := by have q9 := h115; rw [y_fiZ oY119 (k := 5) (by decide), ← ev125] at q9; exact q9
            have h126 : (y_c f122 387).toInt = nn := by rw [h113]; exact h8
            obtain ⟨v127, ev127⟩ : ∃ y : Int32, w45 + 1 = y := ⟨_, rfl⟩
            have qv127 : v127.toInt = w45.toInt + 1 := by rw [← ev127]; exact th_add rfl (by decide) ⟨by omega, by omega⟩
            refine lv_iinc (v := v127) (lv' := [(3, .int v127), (0, .ref a0), (1, .int w5), (2, .int w65)]) hx hb dX7_joins_73 hl (k := 3) rfl ev127 (by decide) rfl (fun ls hl => ?_)
            refine lv_goto (tgt := 39) hx hb dX7_joins_76 (by decide) ?_
            exact ih39 _ _ _ _ (by omega) ⟨F116, _, w65, v127, rfl, lv_sub hl [1, 2, 3, 0] rfl, hP, hS, hI, hfr, (fun k hk => (y_fiZ oY119 (s_sub (by decide) hk)).trans (hz0 k hk)), ⟨by omega, by omega⟩, ⟨by omega, by omega⟩, ⟨by omega, by omega⟩, (by rw [y_atE o123]; exact h113), (by first | (rw [y_fiZ oY119 (k := 5) (by decide), ← ev125]; omega) | rw [y_fiZ oY119 (k := 5) (by decide), ← ev125]), (by first | (rw [y_fiZ oY119 (k := 5) (by decide), ← ev125]; omega) | rw [y_fiZ oY119 (k := 5) (by decide), ← ev125]), rfl⟩
        · have c43 := mt (ax_eq (n := 12) (by decide)).mpr c43
          refine lv_goto (tgt := 106) hx hb dX7_joins_32 (by decide) ?_
          exact K106 _ _ _ ⟨F25, _, rfl, lv_sub hl [0, 1] rfl, hP, hS, hI, hfr, (fun k hk => (y_fiZ oY30 (s_sub (by decide) hk)).trans (hz0 k hk)), ⟨by omega, by omega⟩, (by rw [y_atE o29]; exact h8), (by rw [y_fiZ oY30 (k := 5) (by decide), ← ev21, y_atE o29]; exact (fun hd hg => h9 hd (by omega))), (by rw [y_fiZ oY30 (k := 5) (by decide), ← ev21, y_atE o29]; exact (fun hg => y_JGs (by omega) (fun j h0 h1 => rfl) (fun q => absurd q (by omega)) (h10 (by omega)))), (by first | (rw [y_fiZ oY30 (k := 5) (by decide), ← ev21]; omega) | rw [y_fiZ oY30 (k := 5) (by decide), ← ev21])⟩
  · intro g H locs hq
    obtain ⟨F133, ls, w22, rfl, hl, hP, hS, hI, hfr, hz0, h128, h129, h130, h131, h132⟩ := hq
    obtain ⟨z134, q135, oY136, bz137, bq138⟩ := y_opY hI ha0
    have hz0 : ∀ k, k ∈ ([1, 2, 3, 4, 7, 8, 11, 15, 16, 19, 25, 26, 27, 31, 32] : List Nat) → z134 k = z0 k := fun k hk => (y_fiZ oY136 (s_sub (by decide) hk)).symm.trans (hz0 k hk)
    obtain ⟨f139, o140, b141⟩ := y_op12 hI
    replace h130 : f139 = f18 := by have q9 := h130; rw [y_atE o140] at q9; exact q9
    obtain ⟨v142, ev142⟩ : ∃ y : Int32, y = z134 5 := ⟨_, rfl⟩
    replace h131 : ((v4.toInt = 0 ∨ ¬ v142.toInt = 0) ∧ v21.toInt = 0) := by have q9 := h131; rw [y_fiZ oY136 (k := 5) (by decide), ← ev142] at q9; exact q9
    replace h132 : (w22.toInt < nn ∧ (v142.toInt = 0 → 0 ≤ w22.toInt)) := by have q9 := h132; rw [y_fiZ oY136 (k := 5) (by decide), ← ev142] at q9; exact q9
    have h143 : (y_c f139 387).toInt = nn := by rw [h130]; exact h8
    refine lv_aload_n hx hb dX7_joins_95 rfl (lv_at hl 0 rfl) ?_
    refine th_get (D := (dC, dI)) (ci := 7) (v := .ref (A 12)) (C := RX7) (T := TX7) (N := 34) hx hb hts inX7 hown hK hP (hLK _ ha0 (by decide)) oY136 rfl 12 (by decide) (hts _ T_245) (fun _ h9 => h9) rfl dX7_joins_96 ?_
    refine lv_iload_n hx hb dX7_joins_99 rfl (lv_at hl 1 rfl) ?_
    refine lv_iconst (v := 4) hx hb dX7_joins_100 (by decide) ?_
    have rg144 : 0 ≤ w5.toInt ∧ w5.toInt ≤ 40 := ⟨by omega, by omega⟩
    refine va_calli (va_runS (As := [.int w5, .int 4]) (rest := [.ref (A 12)]) ⟨hx, hb, hml, hown, hts⟩ (y_X7_lineAt l dC dI H.size F133 w5 4 rg144 (by decide)) (cwS 2 hts (ax_gS T_1216 T_1218 T_265 T_1217) rfl rfl rfl (by decide +kernel) ⟨Nat.le_of_ble_eq_true rfl, Nat.le_of_ble_eq_true rfl⟩) ⟨fun a U g mk q => ⟨q.1, s_pc (U := U) rfl rfl q.2⟩, fun U hU hW => ⟨rfl, s_pw hU hW hP hK hD hN⟩⟩ rfl rfl hl.1 rfl (lv_room (Nat.le_of_ble_eq_true rfl)) dX7_joins_101 ⟨Nat.zero_le _, Nat.zero_le _⟩) hS (fun q _ h => h) (fun q h => h) (fun r146 F147 t H1 locs ht hvm hw hB hz1 hk1 hS => ?_)
    obtain ⟨hP, hK1⟩ := hB
    rw [ht] at hP
    generalize H1 = H at hP hS ⊢
    clear hz1 hk1 hvm hK1
    obtain ⟨h148, h150, hG9, h149⟩ := hw
    rw [hG9] at hP
    replace h149 : (r146.toInt = 8 * w5.toInt + 4) := by have q9 := h149; exact q9
    refine lv_iload_n hx hb dX7_joins_104 rfl (lv_at hl 2 rfl) ?_
    refine th_iast hx hb hK hP hD hS (hLK _ (y_k12 hA) (by decide)) 0 o140 rfl (th_in ⟨by omega, by omega⟩) dX7_joins_105 (fun H locs hP hS => ?_)
    obtain ⟨f151, u152⟩ : ∃ g : Nat → Int32, g = upd f139 (r146 : Int32).toNatClampNeg w22 := ⟨_, rfl⟩
    rw [← u152] at hP
    have b153 : y_bd 12 f151 := by rw [u152]; exact th_updJ (P := fun y => 0 ≤ y.toInt ∧ y.toInt ≤ 40) b141 (fun q => by have q2 := th_tn (by omega) q; omega)
    have hP : va_P (dC, dI) vwCl (va_pl L (va_up F133 (A 12) (.inl (cs 0, 400, .inl f151)))) H := hP
    obtain ⟨F154, hF155⟩ : ∃ G : Nat → va_E, G = va_up F133 (A 12) (.inl (cs 0, 400, .inl f151)) := ⟨_, rfl⟩
    rw [← hF155] at hP
    have hI : y_I K cs A F154 := by rw [hF155]; exact y_clA (i := 12) hA hI (by decide) b153
    have hfr : ∀ b, K b ∉ [9, 62] → F154 b = F b := by rw [hF155]; exact s_fr hfr (y_k12 hA) (by decide)
    have oY156 : F154 a0 = .inr (7, y_fl A z134 q135) := by rw [hF155]; exact th_ne (th_kd ha0 (y_k12 hA) (by decide)) oY136
    have o157 : F154 (A 12) = .inl (cs 0, 400, .inl f151) := by rw [hF155]; exact th_up
    have u158 : ∀ j : Int, 0 ≤ j → y_c f151 j = if j = r146.toInt then w22 else y_c f139 j := by rw [u152]; exact y_cu rfl (by omega)
    have hn160 : (y_c f151 387).toInt = nn := by rw [u158 387 (by omega), if_neg (by omega), h130]; exact h8
    exact K106 _ _ _ ⟨F154, _, rfl, lv_sub hl [0, 1] rfl, hP, hS, hI, hfr, (fun k hk => (y_fiZ oY156 (s_sub (by decide) hk)).trans (hz0 k hk)), ⟨by omega, by omega⟩, (by rw [y_atE o157]; exact hn160), (by rw [y_fiZ oY156 (k := 5) (by decide), ← ev142, y_atE o157]; exact (fun hd hg => y_DSj (k := w5.toInt) ⟨by omega, by omega⟩ (fun j h0 h1 => by rw [u158 j h0, if_neg (by omega)]; exact congrArg (fun f => y_c f j) h130) ((fun hd hg => h9 hd (by omega)) hd (by omega)))), (by rw [y_fiZ oY156 (k := 5) (by decide), ← ev142, y_atE o157]; exact (fun hg => y_JGs (by omega) (fun j h0 h1 => by rw [u158 j h0, if_neg (by omega)]; exact congrArg (fun f => y_c f j) h130) (fun _ => by rw [u158 _ (by omega), if_pos (by omega)]; exact ⟨by omega, by omega⟩) (h10 (by omega)))), (by first | (rw [y_fiZ oY156 (k := 5) (by decide), ← ev142]; omega) | rw [y_fiZ oY156 (k := 5) (by decide), ← ev142])⟩
  · intro g H locs hq
    obtain ⟨F166, ls, rfl, hl, hP, hS, hI, hfr, hz0, h161, h162, h163, h164, h165⟩ := hq
    obtain ⟨z167, q168, oY169, bz170, bq171⟩ := y_opY hI ha0
    have hz0 : ∀ k, k ∈ ([1, 2, 3, 4, 7, 8, 11, 15, 16, 19, 25, 26, 27, 31, 32] : List Nat) → z167 k = z0 k := fun k hk => (y_fiZ oY169 (s_sub (by decide) hk)).symm.trans (hz0 k hk)
    obtain ⟨f172, o173, b174⟩ := y_op12 hI
    replace h162 : (y_c f172 387).toInt = nn := by have q9 := h162; rw [y_atE o173] at q9; exact q9
    obtain ⟨v175, ev175⟩ : ∃ y : Int32, y = z167 5 := ⟨_, rfl⟩
    replace h163 : ((v4.toInt = 0 → y_DS f1) → v175.toInt = 0 → y_DS f172) := by have q9 := h163; rw [y_fiZ oY169 (k := 5) (by decide), ← ev175, y_atE o173] at q9; exact q9
    replace h164 : (v175.toInt = 0 → y_JG f172 nn (w5.toInt + 1)) := by have q9 := h164; rw [y_fiZ oY169 (k := 5) (by decide), ← ev175, y_atE o173] at q9; exact q9
    replace h165 : (v4.toInt = 0 ∨ ¬ v175.toInt = 0) := by have q9 := h165; rw [y_fiZ oY169 (k := 5) (by decide), ← ev175] at q9; exact q9
    obtain ⟨v176, ev176⟩ : ∃ y : Int32, w5 + 1 = y := ⟨_, rfl⟩
    have qv176 : v176.toInt = w5.toInt + 1 := by rw [← ev176]; exact th_add rfl (by decide) ⟨by omega, by omega⟩
    refine lv_iinc (v := v176) (lv' := [(1, .int v176), (0, .ref a0)]) hx hb dX7_joins_106 hl (k := 1) rfl ev176 (by decide) rfl (fun ls hl => ?_)
    refine lv_goto (tgt := 2) hx hb dX7_joins_109 (by decide) ?_
    exact ih2 _ _ _ _ (by omega) ⟨F166, _, v176, rfl, lv_sub hl [1, 0] rfl, hP, hS, hI, hfr, (fun k hk => (y_fiZ oY169 (s_sub (by decide) hk)).trans (hz0 k hk)), ⟨by omega, by omega⟩, (by rw [y_atE o173]; exact h162), (by rw [y_fiZ oY169 (k := 5) (by decide), ← ev175, y_atE o173]; exact (fun hd hg => h163 hd (by omega))), (by rw [y_fiZ oY169 (k := 5) (by decide), ← ev175, y_atE o173]; exact (fun hg => y_JGc (by omega) (h164 (by omega)))), (by first | (rw [y_fiZ oY169 (k := 5) (by decide), ← ev175]; omega) | rw [y_fiZ oY169 (k := 5) (by decide), ← ev175]), rfl⟩
