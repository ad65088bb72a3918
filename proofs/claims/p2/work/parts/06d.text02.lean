set_option maxHeartbeats 4000000 in
set_option maxRecDepth 100000 in
theorem y_X7_number (l : Launch) (dC : Nat → ClassId) (dI : Nat → Nat → Nat) (sz : Nat) {L : List Nat} {K : Nat → Nat} {cs : Nat → ClassId} (hLK : ∀ a {k : Nat}, K a = k → k ≠ 0 → a ∈ L) (A : Nat → Nat) (hA : y_A K A) (F : Nat → va_E) (a0 : Nat) (x1 : Int32) (x2 : Int32) (ha0 : K a0 = 9) (hI : y_I K cs A F) : Met l yX7_number (Cond.code yX7_number cX7_number 5 (some .int) :: T0) ({ frames := 1, cells := 0, slots := 0, locals := 25 }) (va_Pc [.ref a0, .int x1, .int x2] (s_W dC dI sz L F [(cs 0, .int), (cs 1, .byte), (cs 2, .long), (cs 3, .object RX5), (cs 4, .object RX4), (cs 5, .array .int), (cs 6, .char), (cs 7, .boolean)])) (va_Qi (fun (r : Int32) (G : Nat → va_E) => True ∧ True ∧ y_I K cs A G ∧ (∀ b, K b ∉ [9] → G b = F b) ∧ (∀ k, k ∈ ([1, 3, 7, 8, 11, 15, 16, 19, 25, 26, 27, 31, 32] : List Nat) → y_fi G a0 k = y_fi F a0 k) ∧ (((y_fi F a0 5).toInt = 0 ∨ ¬ (y_fi G a0 5).toInt = 0) ∧ ((y_fi G a0 5).toInt = 0 → x1.toInt ≤ r.toInt ∧ r.toInt ≤ x2.toInt))) (fun (G : Nat → va_E) (t : State) => va_P (dC, dI) vwCl (va_pl L G) t.heap ∧ va_K (dC, dI) vwCl [(cs 0, .int), (cs 1, .byte), (cs 2, .long), (cs 3, .object RX5), (cs 4, .object RX4), (cs 5, .array .int), (cs 6, .char), (cs 7, .boolean)] t) (fun q => q ∈ L)) 0 0 (fun q => q ∈ L) := by
  refine Met.ofW (cc := cX7_number) (maxL := 5) (ret := (some .int)) (by decide) rfl ?_
  intro p e s m args below meth c s₁ B hml hv
  obtain ⟨rfl, hsz, hP, hK, hD, hN⟩ := hv
  have hx := B.exec
  have hb := B.bytes
  have hr := B.returns
  have hts : ∀ w ∈ T0, w.before _ s = true := fun w h => atoms_spec (ws := Cond.code yX7_number cX7_number 5 (some .int) :: T0) B.pre w (List.mem_cons_of_mem _ h)
  have hown : s.vm.findClass RX7 = some m.cls := findClass_of_methodNamed B.named
  have hlocks := B.notSynchronized
  have hS : va_S (fun q => q ∈ L) s.heap s.heap [] := va_S.rf
  have hfr : ∀ b, K b ∉ [9] → F b = F b := fun _ _ => rfl
  have hl := lv_entry ([.ref a0, .int x1, .int x2]) (n := 5) (Nat.le_of_ble_eq_true rfl)
  rw [lg_entry_eq]
  generalize (lg_sl ([.ref a0, .int x1, .int x2]) ++ List.replicate (5 - (lg_sl ([.ref a0, .int x1, .int x2])).length) Slot.unset).toArray = ls at hl ⊢
  have hl : lv_has ls 5 [(0, .ref a0), (1, .int x1), (2, .int x2)] := hl
  refine s_gen hP hS (fun H locs hP hS => ?_)
  obtain ⟨z0, q0, oY0, bz0, bq0⟩ := y_opY hI ha0
  have hz0 : ∀ k, k ∈ ([1, 3, 7, 8, 11, 15, 16, 19, 25, 26, 27, 31, 32] : List Nat) → z0 k = z0 k := fun _ _ => rfl
  obtain ⟨v1, ev1⟩ : ∃ y : Int32, y = z0 5 := ⟨_, rfl⟩
  have eF_5 := ev1
  have e0_v1 := ev1
  refine th_join (fun g H locs => ∃ (G : Nat → va_E) (ls : Array Slot) (w2 : Int32) (w3 : Int32), g = F0 m 129 ls [] ∧ lv_has ls 5 [(0, .ref a0), (1, .int x1), (2, .int x2), (3, .int w2), (4, .int w3)] ∧ va_P (dC, dI) vwCl (va_pl L G) H ∧ va_S (fun q => q ∈ L) s.heap H locs ∧ y_I K cs A G ∧ (∀ b, K b ∉ [9] → G b = F b) ∧ (∀ k, k ∈ ([1, 3, 7, 8, 11, 15, 16, 19, 25, 26, 27, 31, 32] : List Nat) → y_fi G a0 k = z0 k) ∧ (0 ≤ w2.toInt ∧ w2.toInt ≤ 1600) ∧ True ∧ ((y_fi G a0 5).toInt = v1.toInt ∧ v1.toInt = 0)) (fun K129 => ?_) ?_
  refine th_join (fun g H locs => ∃ (G : Nat → va_E) (ls : Array Slot), g = F0 m 30 ls [] ∧ lv_has ls 5 [(0, .ref a0)] ∧ va_P (dC, dI) vwCl (va_pl L G) H ∧ va_S (fun q => q ∈ L) s.heap H locs ∧ y_I K cs A G ∧ (∀ b, K b ∉ [9] → G b = F b) ∧ (∀ k, k ∈ ([1, 3, 7, 8, 11, 15, 16, 19, 25, 26, 27, 31, 32] : List Nat) → y_fi G a0 k = z0 k) ∧ ((y_fi G a0 5).toInt = v1.toInt ∧ v1.toInt = 0)) (fun K30 => ?_) ?_
  · refine lv_aload_n hx hb dX7_number_0 rfl (lv_at hl 0 rfl) ?_
    refine th_get (D := (dC, dI)) (ci := 7) (v := .int (z0 5)) (C := RX7) (T := TX7) (N := 34) hx hb hts inX7 hown hK hP (hLK _ ha0 (by decide)) oY0 rfl 5 (by decide) (hts _ T_274) (fun _ h9 => h9) rfl dX7_number_1 ?_
    refine ax_eqi (y := v1) ev1.symm ?_
    refine lv_if_eq (tgt := 9) hx hb dX7_number_4 (by decide) (fun c4 => ?_) (fun c4 => ?_)
    · have c4 := (ax_eq (n := 0) (by decide)).mp c4
      refine lv_aload_n hx hb dX7_number_9 rfl (lv_at hl 0 rfl) ?_
      refine va_calli (va_runV (As := []) (rest := []) ⟨hx, hb, hml, hown, hts⟩ (y_X7_look l dC dI H.size hLK A hA F a0 ha0 hI) (cwV 0 hts (ax_gV T_275 T_276 T_277 T_265 T_22) rfl rfl rfl (by decide +kernel) ⟨Nat.le_of_ble_eq_true rfl, Nat.le_of_ble_eq_true rfl⟩) ⟨fun a U g mk q => ⟨q.1, s_pc (U := U) rfl rfl q.2⟩, s_recv hK hP (hLK _ ha0 (by decide)) (ci := 7) rfl oY0, fun U hU hW => ⟨rfl, s_pw hU hW hP hK hD hN⟩⟩ rfl rfl hl.1 rfl (lv_room (Nat.le_of_ble_eq_true rfl)) dX7_number_10 ⟨Nat.zero_le _, Nat.zero_le _⟩) hS (fun q _ h => h) (fun q h => h) (fun r6 F7 t H1 locs ht hvm hw hB hz1 hk1 hS => ?_)
      obtain ⟨hP, hK1⟩ := hB
      rw [ht] at hP
      generalize H1 = H at hP hS ⊢
      clear hz1 hk1 hvm hK1
      obtain ⟨h8, h10, hI, hfr1, hzf, h9⟩ := hw
      obtain ⟨z11, q12, oY13, bz14, bq15⟩ := y_opY hI ha0
      have hzf : ∀ k, k ∈ ([1, 3, 4, 5, 6, 7, 8, 11, 15, 16, 19, 25, 26, 27, 31, 32] : List Nat) → z11 k = z0 k := fun k hk => by have q9 := hzf k hk; rw [y_fiZ oY13 (s_sub (by decide) hk), y_fiZ oY0 (s_sub (by decide) hk)] at q9; exact q9
      have hz0 : ∀ k, k ∈ ([1, 3, 7, 8, 11, 15, 16, 19, 25, 26, 27, 31, 32] : List Nat) → z11 k = z0 k := fun k hk => (hzf k (s_sub (by decide) hk)).trans (hz0 k hk)
      have ev1 : v1 = z11 5 := ev1.trans (hzf 5 (by decide)).symm
      have hfr : ∀ b, K b ∉ [9] → F7 b = F b := fun b hb9 => (hfr1 b (fun q => hb9 (s_sub (by decide) q))).trans (hfr b hb9)
      obtain ⟨v16, ev16⟩ : ∃ y : Int32, y = z11 2 := ⟨_, rfl⟩
      have qv16 : 0 ≤ v16.toInt ∧ v16.toInt ≤ 1600 := by rw [ev16]; exact y_bY2 bz14
      obtain ⟨v17, ev17⟩ : ∃ y : Int32, y = z11 3 := ⟨_, rfl⟩
      have qv17 : 0 ≤ v17.toInt ∧ v17.toInt ≤ 1600 := by rw [ev17]; exact y_bY3 bz14
      replace h9 : (r6.toInt = -1 ∨ v16.toInt < v17.toInt) := by have q9 := h9; rw [y_fiZ oY13 (k := 2) (by decide), ← ev16, y_fiZ oY13 (k := 3) (by decide), ← ev17] at q9; exact q9
      refine va_calli (va_runS (As := [.int r6]) (rest := []) ⟨hx, hb, hml, hown, hts⟩ (y_X7_isDigit l dC dI H.size F7 r6) (cwS 1 hts (ax_gS T_1279 T_1281 T_265 T_1280) rfl rfl rfl (by decide +kernel) ⟨Nat.le_of_ble_eq_true rfl, Nat.le_of_ble_eq_true rfl⟩) ⟨fun a U g mk q => ⟨q.1, s_pc (U := U) rfl rfl q.2⟩, fun U hU hW => ⟨rfl, s_pw hU hW hP hK hD hN⟩⟩ rfl rfl hl.1 rfl (lv_room (Nat.le_of_ble_eq_true rfl)) dX7_number_13 ⟨Nat.zero_le _, Nat.zero_le _⟩) hS (fun q _ h => h) (fun q h => h) (fun r19 F20 t H1 locs ht hvm hw hB hz1 hk1 hS => ?_)
      obtain ⟨hP, hK1⟩ := hB
      rw [ht] at hP
      generalize H1 = H at hP hS ⊢
      clear hz1 hk1 hvm hK1
      obtain ⟨h21, h23, hG9, h22⟩ := hw
      rw [hG9] at hP
      refine lv_if_eq (tgt := 30) hx hb dX7_number_16 (by decide) (fun c24 => ?_) (fun c24 => ?_)
      · have c24 := (ax_eq (n := 0) (by decide)).mp c24
        exact K30 _ _ _ ⟨F7, _, rfl, lv_sub hl [0] rfl, hP, hS, hI, hfr, (fun k hk => (y_fiZ oY13 (s_sub (by decide) hk)).trans (hz0 k hk)), (by first | (rw [y_fiZ oY13 (k := 5) (by decide), ← ev1]; omega) | rw [y_fiZ oY13 (k := 5) (by decide), ← ev1])⟩
      · have c24 := mt (ax_eq (n := 0) (by decide)).mpr c24
        have h25 := h23 (fun q => c24 (by rw [q]; decide))
        refine lv_aload_n hx hb dX7_number_19 rfl (lv_at hl 0 rfl) ?_
        refine th_get (D := (dC, dI)) (ci := 7) (v := .int (z11 2)) (C := RX7) (T := TX7) (N := 34) hx hb hts inX7 hown hK hP (hLK _ ha0 (by decide)) oY13 rfl 2 (by decide) (hts _ T_272) (fun _ h9 => h9) rfl dX7_number_20 ?_
        refine ax_eqi (y := v16) ev16.symm ?_
        refine lv_aload_n hx hb dX7_number_23 rfl (lv_at hl 0 rfl) ?_
        refine th_get (D := (dC, dI)) (ci := 7) (v := .int (z11 4)) (C := RX7) (T := TX7) (N := 34) hx hb hts inX7 hown hK hP (hLK _ ha0 (by decide)) oY13 rfl 4 (by decide) (hts _ T_296) (fun _ h9 => h9) rfl dX7_number_24 ?_
        refine lv_topi (fun v26 ev26 => ?_)
        refine lv_icmp_ne (tgt := 41) hx hb dX7_number_27 (by decide) (fun c27 => ?_) (fun c27 => ?_)
        · have c27 := mt Int32.toInt_inj.symm.mpr c27
          refine lv_aload_n hx hb dX7_number_41 rfl (lv_at hl 0 rfl) ?_
          refine th_get (D := (dC, dI)) (ci := 7) (v := .int (z11 2)) (C := RX7) (T := TX7) (N := 34) hx hb hts inX7 hown hK hP (hLK _ ha0 (by decide)) oY13 rfl 2 (by decide) (hts _ T_272) (fun _ h9 => h9) rfl dX7_number_42 ?_
          refine ax_eqi (y := v16) ev16.symm ?_
          refine lv_istore_n (lv' := [(3, .int v16), (0, .ref a0), (1, .int x1), (2, .int x2)]) hx hb dX7_number_45 rfl hl (by decide) rfl (fun ls hl => ?_)
          refine lv_iconst (v := 0) hx hb dX7_number_46 (by decide) ?_
          refine lv_istore (lv' := [(4, .int 0), (3, .int v16), (0, .ref a0), (1, .int x1), (2, .int x2)]) hx hb dX7_number_47 hl (by decide) rfl (fun ls hl => ?_)
          have h29 : (0 : Int32).toInt = 0 := by decide
          refine th_loop (fun n g H locs => ∃ (G : Nat → va_E) (ls : Array Slot) (w28 : Int32), g = F0 m 49 ls [] ∧ lv_has ls 5 [(0, .ref a0), (1, .int x1), (2, .int x2), (3, .int v16), (4, .int w28)] ∧ va_P (dC, dI) vwCl (va_pl L G) H ∧ va_S (fun q => q ∈ L) s.heap H locs ∧ y_I K cs A G ∧ (∀ b, K b ∉ [9] → G b = F b) ∧ (∀ k, k ∈ ([1, 3, 7, 8, 11, 15, 16, 19, 25, 26, 27, 31, 32] : List Nat) → y_fi G a0 k = z0 k) ∧ True ∧ (0 ≤ v16.toInt ∧ v16.toInt ≤ 1600) ∧ ((y_fi G a0 5).toInt = v1.toInt ∧ v1.toInt = 0) ∧ n = (1601 - (y_fi G a0 2).toInt).toNat) _ ⟨F7, _, 0, rfl, lv_sub hl [2, 3, 4, 1, 0] rfl, hP, hS, hI, hfr, (fun k hk => (y_fiZ oY13 (s_sub (by decide) hk)).trans (hz0 k hk)), trivial, ⟨by omega, by omega⟩, (by first | (rw [y_fiZ oY13 (k := 5) (by decide), ← ev1]; omega) | rw [y_fiZ oY13 (k := 5) (by decide), ← ev1]), rfl⟩ (fun n ih49 g H locs hq => ?_)
          obtain ⟨F33, ls, w28, rfl, hl, hP, hS, hI, hfr, hz0, h30, h31, h32, hn⟩ := hq
          obtain ⟨z34, q35, oY36, bz37, bq38⟩ := y_opY hI ha0
          have hz0 : ∀ k, k ∈ ([1, 3, 7, 8, 11, 15, 16, 19, 25, 26, 27, 31, 32] : List Nat) → z34 k = z0 k := fun k hk => (y_fiZ oY36 (s_sub (by decide) hk)).symm.trans (hz0 k hk)
          obtain ⟨v39, ev39⟩ : ∃ y : Int32, y = z34 5 := ⟨_, rfl⟩
          replace h32 : (v39.toInt = v1.toInt ∧ v1.toInt = 0) := by have q9 := h32; rw [y_fiZ oY36 (k := 5) (by decide), ← ev39] at q9; exact q9
          obtain ⟨v40, ev40⟩ : ∃ y : Int32, y = z34 2 := ⟨_, rfl⟩
          have qv40 : 0 ≤ v40.toInt ∧ v40.toInt ≤ 1600 := by rw [ev40]; exact y_bY2 bz37
          replace hn : n = (1601 - v40.toInt).toNat := by have q9 := hn; rw [y_fiZ oY36 (k := 2) (by decide), ← ev40] at q9; exact q9
          have hn_40 := hn
          have h41 : (z34 2).toInt = v40.toInt := by rw [ev40]
          refine lv_aload_n hx hb dX7_number_49 rfl (lv_at hl 0 rfl) ?_
          refine th_get (D := (dC, dI)) (ci := 7) (v := .int (z34 2)) (C := RX7) (T := TX7) (N := 34) hx hb hts inX7 hown hK hP (hLK _ ha0 (by decide)) oY36 rfl 2 (by decide) (hts _ T_272) (fun _ h9 => h9) rfl dX7_number_50 ?_
          refine ax_eqi (y := v40) ev40.symm ?_
          refine lv_aload_n hx hb dX7_number_53 rfl (lv_at hl 0 rfl) ?_
          refine th_get (D := (dC, dI)) (ci := 7) (v := .int (z34 3)) (C := RX7) (T := TX7) (N := 34) hx hb hts inX7 hown hK hP (hLK _ ha0 (by decide)) oY36 rfl 3 (by decide) (hts _ T_273) (fun _ h9 => h9) rfl dX7_number_54 ?_
          refine lv_topi (fun v42 ev42 => ?_)
          have qv42 : 0 ≤ v42.toInt ∧ v42.toInt ≤ 1600 := by rw [ev42]; exact y_bY3 bz37
          refine lv_icmp_ge (tgt := 129) hx hb dX7_number_57 (by decide) (fun c43 => ?_) (fun c43 => ?_)
          · have c43 := Int32.le_iff_toInt_le.mp c43
            exact K129 _ _ _ ⟨F33, _, v16, w28, rfl, lv_sub hl [0, 1, 2, 3, 4] rfl, hP, hS, hI, hfr, (fun k hk => (y_fiZ oY36 (s_sub (by decide) hk)).trans (hz0 k hk)), ⟨by omega, by omega⟩, trivial, (by first | (rw [y_fiZ oY36 (k := 5) (by decide), ← ev39]; omega) | rw [y_fiZ oY36 (k := 5) (by decide), ← ev39])⟩
          · have c43 := mt Int32.le_iff_toInt_le.mpr c43
            refine lv_aload_n hx hb dX7_number_60 rfl (lv_at hl 0 rfl) ?_
            refine th_get (D := (dC, dI)) (ci := 7) (v := .ref (A 0)) (C := RX7) (T := TX7) (N := 34) hx hb hts inX7 hown hK hP (hLK _ ha0 (by decide)) oY36 rfl 0 (by decide) (hts _ T_240) (fun _ h9 => h9) rfl dX7_number_61 ?_
            refine lv_aload_n hx hb dX7_number_64 rfl (lv_at hl 0 rfl) ?_
            refine th_get (D := (dC, dI)) (ci := 7) (v := .int (z34 2)) (C := RX7) (T := TX7) (N := 34) hx hb hts inX7 hown hK hP (hLK _ ha0 (by decide)) oY36 rfl 2 (by decide) (hts _ T_272) (fun _ h9 => h9) rfl dX7_number_65 ?_
            refine ax_eqi (y := v40) ev40.symm ?_
            obtain ⟨f44, o45, b46⟩ := y_op0 hI
            refine th_iald hx hb hK hP (hLK _ (y_k0 hA) (by decide)) 0 o45 rfl (th_in ⟨by omega, by omega⟩) dX7_number_68 ?_
            refine lv_topi (fun v47 ev47 => ?_)
            refine va_calli (va_runS (As := [.int v47]) (rest := []) ⟨hx, hb, hml, hown, hts⟩ (y_X7_isDigit l dC dI H.size F33 v47) (cwS 1 hts (ax_gS T_1279 T_1281 T_265 T_1280) rfl rfl rfl (by decide +kernel) ⟨Nat.le_of_ble_eq_true rfl, Nat.le_of_ble_eq_true rfl⟩) ⟨fun a U g mk q => ⟨q.1, s_pc (U := U) rfl rfl q.2⟩, fun U hU hW => ⟨rfl, s_pw hU hW hP hK hD hN⟩⟩ rfl rfl hl.1 rfl (lv_room (Nat.le_of_ble_eq_true rfl)) dX7_number_69 ⟨Nat.zero_le _, Nat.zero_le _⟩) hS (fun q _ h => h) (fun q h => h) (fun r49 F50 t H1 locs ht hvm hw hB hz1 hk1 hS => ?_)
            obtain ⟨hP, hK1⟩ := hB
            rw [ht] at hP
            generalize H1 = H at hP hS ⊢
            clear hz1 hk1 hvm hK1
            obtain ⟨h51, h53, hG9, h52⟩ := hw
            rw [hG9] at hP
            refine lv_if_eq (tgt := 129) hx hb dX7_number_72 (by decide) (fun c54 => ?_) (fun c54 => ?_)
            · have c54 := (ax_eq (n := 0) (by decide)).mp c54
              exact K129 _ _ _ ⟨F33, _, v16, w28, rfl, lv_sub hl [0, 1, 2, 3, 4] rfl, hP, hS, hI, hfr, (fun k hk => (y_fiZ oY36 (s_sub (by decide) hk)).trans (hz0 k hk)), ⟨by omega, by omega⟩, trivial, (by first | (rw [y_fiZ oY36 (k := 5) (by decide), ← ev39]; omega) | rw [y_fiZ oY36 (k := 5) (by decide), ← ev39])⟩
            · have c54 := mt (ax_eq (n := 0) (by decide)).mpr c54
              have h55 := h53 (fun q => c54 (by rw [q]; decide))
              refine lv_aload_n hx hb dX7_number_75 rfl (lv_at hl 0 rfl) ?_
              refine th_get (D := (dC, dI)) (ci := 7) (v := .int (z34 2)) (C := RX7) (T := TX7) (N := 34) hx hb hts inX7 hown hK hP (hLK _ ha0 (by decide)) oY36 rfl 2 (by decide) (hts _ T_272) (fun _ h9 => h9) rfl dX7_number_76 ?_
              refine ax_eqi (y := v40) ev40.symm ?_
              refine lv_iload_n hx hb dX7_number_79 rfl (lv_at hl 3 rfl) ?_
              refine lv_isub hx hb dX7_number_80 ?_
              refine lv_topi (fun v56 ev56 => ?_)
              have qv56 : v56.toInt = v40.toInt - v16.toInt := by rw [ev56]; exact th_sub rfl rfl ⟨by omega, by omega⟩
              refine lv_iconst (v := 3) hx hb dX7_number_81 (by decide) ?_
              refine lv_icmp_ne (tgt := 96) hx hb dX7_number_82 (by decide) (fun c57 => ?_) (fun c57 => ?_)
              · have c57 := mt (ax_eq (n := 3) (by decide)).mpr c57
                refine lv_bipush (v := 10) hx hb dX7_number_96 (by decide) ?_
                refine lv_iload hx hb dX7_number_98 (lv_at hl 4 rfl) ?_
                refine lv_imul hx hb dX7_number_100 ?_
                refine lv_topi (fun v58 ev58 => ?_)
                refine lv_aload_n hx hb dX7_number_101 rfl (lv_at hl 0 rfl) ?_
                refine th_get (D := (dC, dI)) (ci := 7) (v := .ref (A 0)) (C := RX7) (T := TX7) (N := 34) hx hb hts inX7 hown hK hP (hLK _ ha0 (by decide)) oY36 rfl 0 (by decide) (hts _ T_240) (fun _ h9 => h9) rfl dX7_number_102 ?_
                refine lv_aload_n hx hb dX7_number_105 rfl (lv_at hl 0 rfl) ?_
                refine th_get (D := (dC, dI)) (ci := 7) (v := .int (z34 2)) (C := RX7) (T := TX7) (N := 34) hx hb hts inX7 hown hK hP (hLK _ ha0 (by decide)) oY36 rfl 2 (by decide) (hts _ T_272) (fun _ h9 => h9) rfl dX7_number_106 ?_
                refine ax_eqi (y := v40) ev40.symm ?_
                refine th_iald hx hb hK hP (hLK _ (y_k0 hA) (by decide)) 0 o45 rfl (th_in ⟨by omega, by omega⟩) dX7_number_109 ?_
                refine lv_topi (fun v59 ev59 => ?_)
                refine lv_iadd hx hb dX7_number_110 ?_
                refine lv_topi (fun v60 ev60 => ?_)
                refine lv_bipush (v := 48) hx hb dX7_number_111 (by decide) ?_
                refine lv_isub hx hb dX7_number_113 ?_
                refine lv_topi (fun v61 ev61 => ?_)
                refine lv_istore (lv' := [(4, .int v61), (0, .ref a0), (1, .int x1), (2, .int x2), (3, .int v16)]) hx hb dX7_number_114 hl (by decide) rfl (fun ls hl => ?_)
                refine lv_aload_n hx hb dX7_number_116 rfl (lv_at hl 1 rfl) ?_
                refine lv_dup hx hb dX7_number_117 rfl ?_
                refine th_get (D := (dC, dI)) (ci := 7) (v := .int (z34 2)) (C := RX7) (T := TX7) (N := 34) hx hb hts inX7 hown hK hP (hLK _ ha0 (by decide)) oY36 rfl 2 (by decide) (hts _ T_272) (fun _ h9 => h9) rfl dX7_number_118 ?_
                refine ax_eqi (y := v40) ev40.symm ?_
                refine lv_iconst (v := 1) hx hb dX7_number_121 (by decide) ?_
                refine lv_iadd hx hb dX7_number_122 ?_
                refine lv_topi (fun v62 ev62 => ?_)
                have qv62 : v62.toInt = v40.toInt + 1 := by rw [ev62]; exact th_add rfl (by decide) ⟨by omega, by omega⟩
                refine th_put (D := (dC, dI)) (ci := 7) (v := .int v62) (ty := .int) (C := RX7) (T := TX7) (N := 34) hx hb hts inX7 tyX7 tyX7_ok nmX7 hown hK hP hD hS (hLK _ ha0 (by decide)) oY36 rfl 2 (by decide) (hts _ T_272) (fun _ h9 => h9) rfl (by decide +kernel) rfl rfl (Nat.le_of_ble_eq_true rfl) dX7_number_123 (fun H locs hP hS => ?_)
                rw [y_fs2] at hP
                obtain ⟨z63, hz64⟩ : ∃ g : Nat → Int32, g = upd z34 2 v62 := ⟨_, rfl⟩
                rw [← hz64] at hP
                have bz65 : y_bY z63 := by rw [hz64]; exact y_bp2 bz37 ⟨by omega, by omega⟩
                have hP : va_P (dC, dI) vwCl (va_pl L (va_up F33 a0 (.inr (7, y_fl A z63 q35)))) H := hP
                obtain ⟨F66, hF67⟩ : ∃ G : Nat → va_E, G = va_up F33 a0 (.inr (7, y_fl A z63 q35)) := ⟨_, rfl⟩
                rw [← hF67] at hP
                have hI : y_I K cs A F66 := by rw [hF67]; exact y_clY hA hI ha0 bz65 bq38
                have hfr : ∀ b, K b ∉ [9] → F66 b = F b := by rw [hF67]; exact s_fr hfr ha0 (by decide)
                have o68 : F66 (A 0) = .inl (cs 0, 1600, .inl f44) := by rw [hF67]; exact th_ne (th_kd (y_k0 hA) ha0 (by decide)) o45
                have oY69 : F66 a0 = .inr (7, y_fl A z63 q35) := by rw [hF67]; exact th_up
                have hz0 : ∀ k, k ∈ ([1, 3, 7, 8, 11, 15, 16, 19, 25, 26, 27, 31, 32] : List Nat) → z63 k = z0 k := fun k hk => by rw [hz64]; exact (y_un (fun q => absurd hk (by rw [q]; decide))).trans (hz0 k hk)
                have ev39 : v39 = z63 5 := by rw [hz64]; exact ev39.trans (y_un (by decide)).symm
                have ev42 : v42 = z63 3 := by rw [hz64]; exact ev42.trans (y_un (by decide)).symm
                obtain ⟨v70, ev70⟩ : ∃ y : Int32, y = z63 2 := ⟨_, rfl⟩
                have qv70 : v70.toInt = v62.toInt := by rw [ev70, hz64, y_ue]
                refine lv_goto (tgt := 49) hx hb dX7_number_126 (by decide) ?_
                have h71 : (y_fi F66 a0 2).toInt = v70.toInt := by rw [y_fiZ oY69 (k := 2) (by decide), ← ev70]
                exact ih49 _ _ _ _ (by omega) ⟨F66, _, v61, rfl, lv_sub hl [1, 2, 3, 4, 0] rfl, hP, hS, hI, hfr, (fun k hk => (y_fiZ oY69 (s_sub (by decide) hk)).trans (hz0 k hk)), trivial, ⟨by omega, by omega⟩, (by first | (rw [y_fiZ oY69 (k := 5) (by decide), ← ev39]; omega) | rw [y_fiZ oY69 (k := 5) (by decide), ← ev39]), rfl⟩
              · have c57 := (ax_eq (n := 3) (by decide)).mp c57
                refine lv_aload_n hx hb dX7_number_85 rfl (lv_at hl 0 rfl) ?_
                refine lv_iconst (v := 1) hx hb dX7_number_86 (by decide) ?_
                refine lv_aload_n hx hb dX7_number_87 rfl (lv_at hl 0 rfl) ?_
                refine th_get (D := (dC, dI)) (ci := 7) (v := .int (z34 2)) (C := RX7) (T := TX7) (N := 34) hx hb hts inX7 hown hK hP (hLK _ ha0 (by decide)) oY36 rfl 2 (by decide) (hts _ T_272) (fun _ h9 => h9) rfl dX7_number_88 ?_
                refine ax_eqi (y := v40) ev40.symm ?_
                refine va_callv (va_runV (As := [.int 1, .int v40]) (rest := []) ⟨hx, hb, hml, hown, hts⟩ (y_X7_fail l dC dI H.size hLK A hA F33 a0 1 v40 ha0 (by decide) hI) (cwV 2 hts (ax_gV T_290 T_291 T_292 T_265 T_27) rfl rfl rfl (by decide +kernel) ⟨Nat.le_of_ble_eq_true rfl, Nat.le_of_ble_eq_true rfl⟩) ⟨fun a U g mk q => ⟨q.1, s_pc (U := U) rfl rfl q.2⟩, s_recv hK hP (hLK _ ha0 (by decide)) (ci := 7) rfl oY36, fun U hU hW => ⟨rfl, s_pw hU hW hP hK hD hN⟩⟩ rfl rfl hl.1 rfl (lv_room (Nat.le_of_ble_eq_true rfl)) dX7_number_91 ⟨Nat.zero_le _, Nat.zero_le _⟩) hS (fun q _ h => h) (fun q h => h) (fun F73 t H1 locs ht hvm hw hB hz1 hk1 hS => ?_)
                obtain ⟨hP, hK1⟩ := hB
                rw [ht] at hP
                generalize H1 = H at hP hS ⊢
                clear hz1 hk1 hvm hK1
                obtain ⟨h74, h76, hI, hfr1, hzf, h75⟩ := hw
                have o77 : F73 (A 0) = .inl (cs 0, 1600, .inl f44) := (hfr1 _ (by rw [(y_k0 hA)]; decide)).trans o45
                obtain ⟨z78, q79, oY80, bz81, bq82⟩ := y_opY hI ha0
                have hzf : ∀ k, k ∈ ([1, 2, 3, 4, 7, 8, 11, 15, 16, 19, 25, 26, 27, 31, 32] : List Nat) → z78 k = z34 k := fun k hk => by have q9 := hzf k hk; rw [y_fiZ oY80 (s_sub (by decide) hk), y_fiZ oY36 (s_sub (by decide) hk)] at q9; exact q9
                have hz0 : ∀ k, k ∈ ([1, 3, 7, 8, 11, 15, 16, 19, 25, 26, 27, 31, 32] : List Nat) → z78 k = z0 k := fun k hk => (hzf k (s_sub (by decide) hk)).trans (hz0 k hk)
                have ev40 : v40 = z78 2 := ev40.trans (hzf 2 (by decide)).symm
                have ev42 : v42 = z78 3 := ev42.trans (hzf 3 (by decide)).symm
                have hfr : ∀ b, K b ∉ [9] → F73 b = F b := fun b hb9 => (hfr1 b (fun q => hb9 (s_sub (by decide) q))).trans (hfr b hb9)
                obtain ⟨v83, ev83⟩ : ∃ y : Int32, y = z78 5 := ⟨_, rfl⟩
                replace h75 : (¬ v83.toInt = 0) := by have q9 := h75; rw [y_fiZ oY80 (k := 5) (by decide), ← ev83] at q9; exact q9
                refine lv_iconst (v := 0) hx hb dX7_number_94 (by decide) ?_
                have h84 : (0 : Int32).toInt = 0 := by decide
                exact W.iret (v := 0) hx hb hr (fun t ht hW => ⟨⟨0, F73, rfl, ⟨trivial, trivial, hI, hfr, fun k hk => (y_fiZ oY80 (s_sub (by decide) hk)).trans ((hz0 k hk).trans (y_fiZ oY0 (s_sub (by decide) hk)).symm), (by first | (rw [y_fiZ oY0 (k := 5) (by decide), ← eF_5, y_fiZ oY80 (k := 5) (by decide), ← ev83]; omega) | rw [y_fiZ oY0 (k := 5) (by decide), ← eF_5, y_fiZ oY80 (k := 5) (by decide), ← ev83])⟩, by rw [ht]; exact hP, va_K.moved hW.alike hK⟩, hS.F ht⟩) hS.2.2 dX7_number_95
        · have c27 := Int32.toInt_inj.symm.mp c27
          exact K30 _ _ _ ⟨F7, _, rfl, lv_sub hl [0] rfl, hP, hS, hI, hfr, (fun k hk => (y_fiZ oY13 (s_sub (by decide) hk)).trans (hz0 k hk)), (by first | (rw [y_fiZ oY13 (k := 5) (by decide), ← ev1]; omega) | rw [y_fiZ oY13 (k := 5) (by decide), ← ev1])⟩
    · have c4 := mt (ax_eq (n := 0) (by decide)).mpr c4
      refine lv_iconst (v := 0) hx hb dX7_number_7 (by decide) ?_
      have h85 : (0 : Int32).toInt = 0 := by decide
      exact W.iret (v := 0) hx hb hr (fun t ht hW => ⟨⟨0, F, rfl, ⟨trivial, trivial, hI, hfr, fun k hk => (y_fiZ oY0 (s_sub (by decide) hk)).trans ((hz0 k hk).trans (y_fiZ oY0 (s_sub (by decide) hk)).symm), (by first | (rw [y_fiZ oY0 (k := 5) (by decide), ← eF_5]; omega) | rw [y_fiZ oY0 (k := 5) (by decide), ← eF_5])⟩, by rw [ht]; exact hP, va_K.moved hW.alike hK⟩, hS.F ht⟩) hS.2.2 dX7_number_8
  · intro g H locs hq
    obtain ⟨F87, ls, rfl, hl, hP, hS, hI, hfr, hz0, h86⟩ := hq
    obtain ⟨z88, q89, oY90, bz91, bq92⟩ := y_opY hI ha0
    have hz0 : ∀ k, k ∈ ([1, 3, 7, 8, 11, 15, 16, 19, 25, 26, 27, 31, 32] : List Nat) → z88 k = z0 k := fun k hk => (y_fiZ oY90 (s_sub (by decide) hk)).symm.trans (hz0 k hk)
    obtain ⟨v93, ev93⟩ : ∃ y : Int32, y = z88 5 := ⟨_, rfl⟩
    replace h86 : (v93.toInt = v1.toInt ∧ v1.toInt = 0) := by have q9 := h86; rw [y_fiZ oY90 (k := 5) (by decide), ← ev93] at q9; exact q9
    refine lv_aload_n hx hb dX7_number_30 rfl (lv_at hl 0 rfl) ?_
    refine lv_iconst (v := 1) hx hb dX7_number_31 (by decide) ?_
    refine lv_aload_n hx hb dX7_number_32 rfl (lv_at hl 0 rfl) ?_
    refine th_get (D := (dC, dI)) (ci := 7) (v := .int (z88 2)) (C := RX7) (T := TX7) (N := 34) hx hb hts inX7 hown hK hP (hLK _ ha0 (by decide)) oY90 rfl 2 (by decide) (hts _ T_272) (fun _ h9 => h9) rfl dX7_number_33 ?_
    refine lv_topi (fun v94 ev94 => ?_)
    have qv94 : 0 ≤ v94.toInt ∧ v94.toInt ≤ 1600 := by rw [ev94]; exact y_bY2 bz91
    refine va_callv (va_runV (As := [.int 1, .int v94]) (rest := []) ⟨hx, hb, hml, hown, hts⟩ (y_X7_fail l dC dI H.size hLK A hA F87 a0 1 v94 ha0 (by decide) hI) (cwV 2 hts (ax_gV T_290 T_291 T_292 T_265 T_27) rfl rfl rfl (by decide +kernel) ⟨Nat.le_of_ble_eq_true rfl, Nat.le_of_ble_eq_true rfl⟩) ⟨fun a U g mk q => ⟨q.1, s_pc (U := U) rfl rfl q.2⟩, s_recv hK hP (hLK _ ha0 (by decide)) (ci := 7) rfl oY90, fun U hU hW => ⟨rfl, s_pw hU hW hP hK hD hN⟩⟩ rfl rfl hl.1 rfl (lv_room (Nat.le_of_ble_eq_true rfl)) dX7_number_36 ⟨Nat.zero_le _, Nat.zero_le _⟩) hS (fun q _ h => h) (fun q h => h) (fun F96 t H1 locs ht hvm hw hB hz1 hk1 hS => ?_)
    obtain ⟨hP, hK1⟩ := hB
    rw [ht] at hP
    generalize H1 = H at hP hS ⊢
    clear hz1 hk1 hvm hK1
    obtain ⟨h97, h99, hI, hfr1, hzf, h98⟩ := hw
    obtain ⟨z100, q101, oY102, bz103, bq104⟩ := y_opY hI ha0
    have hzf : ∀ k, k ∈ ([1, 2, 3, 4, 7, 8, 11, 15, 16, 19, 25, 26, 27, 31, 32] : List Nat) → z100 k = z88 k := fun k hk => by have q9 := hzf k hk; rw [y_fiZ oY102 (s_sub (by decide) hk), y_fiZ oY90 (s_sub (by decide) hk)] at q9; exact q9
    have hz0 : ∀ k, k ∈ ([1, 3, 7, 8, 11, 15, 16, 19, 25, 26, 27, 31, 32] : List Nat) → z100 k = z0 k := fun k hk => (hzf k (s_sub (by decide) hk)).trans (hz0 k hk)
    have ev94 : v94 = z100 2 := ev94.trans (hzf 2 (by decide)).symm
    have hfr : ∀ b, K b ∉ [9] → F96 b = F b := fun b hb9 => (hfr1 b (fun q => hb9 (s_sub (by decide) q))).trans (hfr b hb9)
    obtain ⟨v105, ev105⟩ : ∃ y : Int32, y = z100 5 := ⟨_, rfl⟩
    replace h98 : (¬ v105.toInt = 0) := by have q9 := h98; rw [y_fiZ oY102 (k := 5) (by decide), ← ev105] at q9; exact q9
    refine lv_iconst (v := 0) hx hb dX7_number_39 (by decide) ?_
    have h106 : (0 : Int32).toInt = 0 := by decide
    exact W.iret (v := 0) hx hb hr (fun t ht hW => ⟨⟨0, F96, rfl, ⟨trivial, trivial, hI, hfr, fun k hk => (y_fiZ oY102 (s_sub (by decide) hk)).trans ((hz0 k hk).trans (y_fiZ oY0 (s_sub (by decide) hk)).symm), (by first | (rw [y_fiZ oY0 (k := 5) (by decide), ← eF_5, y_fiZ oY102 (k := 5) (by decide), ← ev105]; omega) | rw [y_fiZ oY0 (k := 5) (by decide), ← eF_5, y_fiZ oY102 (k := 5) (by decide), ← ev105])⟩, by rw [ht]; exact hP, va_K.moved hW.alike hK⟩, hS.F ht⟩) hS.2.2 dX7_number_40
  · intro g H locs hq
    obtain ⟨F110, ls, w2, w3, rfl, hl, hP, hS, hI, hfr, hz0, h107, h108, h109⟩ := hq
    obtain ⟨z111, q112, oY113, bz114, bq115⟩ := y_opY hI ha0
    have hz0 : ∀ k, k ∈ ([1, 3, 7, 8, 11, 15, 16, 19, 25, 26, 27, 31, 32] : List Nat) → z111 k = z0 k := fun k hk => (y_fiZ oY113 (s_sub (by decide) hk)).symm.trans (hz0 k hk)
    obtain ⟨v116, ev116⟩ : ∃ y : Int32, y = z111 5 := ⟨_, rfl⟩
    replace h109 : (v116.toInt = v1.toInt ∧ v1.toInt = 0) := by have q9 := h109; rw [y_fiZ oY113 (k := 5) (by decide), ← ev116] at q9; exact q9
    refine lv_aload_n hx hb dX7_number_129 rfl (lv_at hl 0 rfl) ?_
    refine lv_aload_n hx hb dX7_number_130 rfl (lv_at hl 0 rfl) ?_
    refine th_get (D := (dC, dI)) (ci := 7) (v := .int (z111 2)) (C := RX7) (T := TX7) (N := 34) hx hb hts inX7 hown hK hP (hLK _ ha0 (by decide)) oY113 rfl 2 (by decide) (hts _ T_272) (fun _ h9 => h9) rfl dX7_number_131 ?_
    refine lv_topi (fun v117 ev117 => ?_)
    have qv117 : 0 ≤ v117.toInt ∧ v117.toInt ≤ 1600 := by rw [ev117]; exact y_bY2 bz114
    refine th_put (D := (dC, dI)) (ci := 7) (v := .int v117) (ty := .int) (C := RX7) (T := TX7) (N := 34) hx hb hts inX7 tyX7 tyX7_ok nmX7 hown hK hP hD hS (hLK _ ha0 (by decide)) oY113 rfl 4 (by decide) (hts _ T_296) (fun _ h9 => h9) rfl (by decide +kernel) rfl rfl (Nat.le_of_ble_eq_true rfl) dX7_number_134 (fun H locs hP hS => ?_)
    rw [y_fs4] at hP
    obtain ⟨z118, hz119⟩ : ∃ g : Nat → Int32, g = upd z111 4 v117 := ⟨_, rfl⟩
    rw [← hz119] at hP
    have bz120 : y_bY z118 := by rw [hz119]; exact y_bp4 bz114
    have hP : va_P (dC, dI) vwCl (va_pl L (va_up F110 a0 (.inr (7, y_fl A z118 q112)))) H := hP
    obtain ⟨F121, hF122⟩ : ∃ G : Nat → va_E, G = va_up F110 a0 (.inr (7, y_fl A z118 q112)) := ⟨_, rfl⟩
    rw [← hF122] at hP
    have hI : y_I K cs A F121 := by rw [hF122]; exact y_clY hA hI ha0 bz120 bq115
    have hfr : ∀ b, K b ∉ [9] → F121 b = F b := by rw [hF122]; exact s_fr hfr ha0 (by decide)
    have oY123 : F121 a0 = .inr (7, y_fl A z118 q112) := by rw [hF122]; exact th_up
    have hz0 : ∀ k, k ∈ ([1, 3, 7, 8, 11, 15, 16, 19, 25, 26, 27, 31, 32] : List Nat) → z118 k = z0 k := fun k hk => by rw [hz119]; exact (y_un (fun q => absurd hk (by rw [q]; decide))).trans (hz0 k hk)
    have ev116 : v116 = z118 5 := by rw [hz119]; exact ev116.trans (y_un (by decide)).symm
    have ev117 : v117 = z118 2 := by rw [hz119]; exact ev117.trans (y_un (by decide)).symm
    obtain ⟨v124, ev124⟩ : ∃ y : Int32, y = z118 4 := ⟨_, rfl⟩
    have qv124 : v124.toInt = v117.toInt := by rw [ev124, hz119, y_ue]
    refine lv_iload hx hb dX7_number_137 (lv_at hl 4 rfl) ?_
    refine lv_i2l hx hb dX7_number_139 rfl ?_
    refine lv_topl (fun v125 ev125 => ?_)
    have qv125 : v125.toInt = w3.toInt := y_i2l ev125
    refine lv_iload_n hx hb dX7_number_140 rfl (lv_at hl 1 rfl) ?_
    refine lv_i2l hx hb dX7_number_141 rfl ?_
    refine lv_topl (fun v126 ev126 => ?_)
    have qv126 : v126.toInt = x1.toInt := y_i2l ev126
    refine lv_iload_n hx hb dX7_number_142 rfl (lv_at hl 2 rfl) ?_
    refine lv_i2l hx hb dX7_number_143 rfl ?_
    refine lv_topl (fun v127 ev127 => ?_)
    have qv127 : v127.toInt = x2.toInt := y_i2l ev127
    refine va_calli (va_runS (As := [.long v125, .long v126, .long v127]) (rest := []) ⟨hx, hb, hml, hown, hts⟩ (y_X7_isIn l dC dI H.size F121 v125 v126 v127) (cwS 3 hts (ax_gS T_267 T_268 T_265 T_21) rfl rfl rfl (by decide +kernel) ⟨Nat.le_of_ble_eq_true rfl, Nat.le_of_ble_eq_true rfl⟩) ⟨fun a U g mk q => ⟨q.1, s_pc (U := U) rfl rfl q.2⟩, fun U hU hW => ⟨rfl, s_pw hU hW hP hK hD hN⟩⟩ rfl rfl hl.1 rfl (lv_room (Nat.le_of_ble_eq_true rfl)) dX7_number_144 ⟨Nat.zero_le _, Nat.zero_le _⟩) hS (fun q _ h => h) (fun q h => h) (fun r129 F130 t H1 locs ht hvm hw hB hz1 hk1 hS => ?_)
    obtain ⟨hP, hK1⟩ := hB
    rw [ht] at hP
    generalize H1 = H at hP hS ⊢
    clear hz1 hk1 hvm hK1
    obtain ⟨h131, h133, hG9, h132⟩ := hw
    rw [hG9] at hP
    replace h132 : ((r129.toInt = 0 ∧ (v125.toInt < v126.toInt ∨ v127.toInt < v125.toInt)) ∨ (r129.toInt = 1 ∧ v126.toInt ≤ v125.toInt ∧ v125.toInt ≤ v127.toInt)) := by have q9 := h132; exact q9
    refine lv_if_ne (tgt := 156) hx hb dX7_number_147 (by decide) (fun c134 => ?_) (fun c134 => ?_)
    · have c134 := mt (ax_eq (n := 0) (by decide)).mpr c134
      refine lv_iload hx hb dX7_number_156 (lv_at hl 4 rfl) ?_
      exact W.iret (v := w3) hx hb hr (fun t ht hW => ⟨⟨w3, F121, rfl, ⟨trivial, trivial, hI, hfr, fun k hk => (y_fiZ oY123 (s_sub (by decide) hk)).trans ((hz0 k hk).trans (y_fiZ oY0 (s_sub (by decide) hk)).symm), (by first | (rw [y_fiZ oY0 (k := 5) (by decide), ← eF_5, y_fiZ oY123 (k := 5) (by decide), ← ev116]; omega) | rw [y_fiZ oY0 (k := 5) (by decide), ← eF_5, y_fiZ oY123 (k := 5) (by decide), ← ev116])⟩, by rw [ht]; exact hP, va_K.moved hW.alike hK⟩, hS.F ht⟩) hS.2.2 dX7_number_158
    · have c134 := (ax_eq (n := 0) (by decide)).mp c134
      refine lv_aload_n hx hb dX7_number_150 rfl (lv_at hl 0 rfl) ?_
      refine lv_iconst (v := 2) hx hb dX7_number_151 (by decide) ?_
      refine lv_iload_n hx hb dX7_number_152 rfl (lv_at hl 3 rfl) ?_
      refine va_callv (va_runV (As := [.int 2, .int w2]) (rest := []) ⟨hx, hb, hml, hown, hts⟩ (y_X7_fail l dC dI H.size hLK A hA F121 a0 2 w2 ha0 (by decide) hI) (cwV 2 hts (ax_gV T_290 T_291 T_292 T_265 T_27) rfl rfl rfl (by decide +kernel) ⟨Nat.le_of_ble_eq_true rfl, Nat.le_of_ble_eq_true rfl⟩) ⟨fun a U g mk q => ⟨q.1, s_pc (U := U) rfl rfl q.2⟩, s_recv hK hP (hLK _ ha0 (by decide)) (ci := 7) rfl oY123, fun U hU hW => ⟨rfl, s_pw hU hW hP hK hD hN⟩⟩ rfl rfl hl.1 rfl (lv_room (Nat.le_of_ble_eq_true rfl)) dX7_number_153 ⟨Nat.zero_le _, Nat.zero_le _⟩) hS (fun q _ h => h) (fun q h => h) (fun F136 t H1 locs ht hvm hw hB hz1 hk1 hS => ?_)
      obtain ⟨hP, hK1⟩ := hB
      rw [ht] at hP
      generalize H1 = H at hP hS ⊢
      clear hz1 hk1 hvm hK1
      obtain ⟨h137, h139, hI, hfr1, hzf, h138⟩ := hw
      obtain ⟨z140, q141, oY142, bz143, bq144⟩ := y_opY hI ha0
      have hzf : ∀ k, k ∈ ([1, 2, 3, 4, 7, 8, 11, 15, 16, 19, 25, 26, 27, 31, 32] : List Nat) → z140 k = z118 k := fun k hk => by have q9 := hzf k hk; rw [y_fiZ oY142 (s_sub (by decide) hk), y_fiZ oY123 (s_sub (by decide) hk)] at q9; exact q9
      have hz0 : ∀ k, k ∈ ([1, 3, 7, 8, 11, 15, 16, 19, 25, 26, 27, 31, 32] : List Nat) → z140 k = z0 k := fun k hk => (hzf k (s_sub (by decide) hk)).trans (hz0 k hk)
      have ev117 : v117 = z140 2 := ev117.trans (hzf 2 (by decide)).symm
      have ev124 : v124 = z140 4 := ev124.trans (hzf 4 (by decide)).symm
      have hfr : ∀ b, K b ∉ [9] → F136 b = F b := fun b hb9 => (hfr1 b (fun q => hb9 (s_sub (by decide) q))).trans (hfr b hb9)
      obtain ⟨v145, ev145⟩ : ∃ y : Int32, y = z140 5 := ⟨_, rfl⟩
      replace h138 : (¬ v145.toInt = 0) := by have q9 := h138; rw [y_fiZ oY142 (k := 5) (by decide), ← ev145] at q9; exact q9
      refine lv_iload hx hb dX7_number_156 (lv_at hl 4 rfl) ?_
      exact W.iret (v := w3) hx hb hr (fun t ht hW => ⟨⟨w3, F136, rfl, ⟨trivial, trivial, hI, hfr, fun k hk => (y_fiZ oY142 (s_sub (by decide) hk)).trans ((hz0 k hk).trans (y_fiZ oY0 (s_sub (by decide) hk)).symm), (by first | (rw [y_fiZ oY0 (k := 5) (by decide), ← eF_5, y_fiZ oY142 (k := 5) (by decide), ← ev145]; omega) | rw [y_fiZ oY0 (k := 5) (by decide), ← eF_5, y_fiZ oY142 (k := 5) (by decide), ← ev145])⟩, by rw [ht]; exact hP, va_K.moved hW.alike hK⟩, hS.F ht⟩) hS.2.2 dX7_number_158

set_option maxHeartbeats 4000000 in
set_option maxRecDepth 100000 in
theorem y_X7_isLike (l : Launch) (dC : Nat → ClassId) (dI : Nat → Nat → Nat) (sz : Nat) {L : List Nat} {K : Nat → Nat} {cs : Nat → ClassId} (hLK : ∀ a {k : Nat}, K a = k → k ≠ 0 → a ∈ L) (A : Nat → Nat) (hA : y_A K A) (F : Nat → va_E) (a0 : Nat) (x1 : Int32) (x2 : Int32) (ha0 : K a0 = 9) (hx1 : 0 ≤ x1.toInt ∧ x1.toInt ≤ 125) (hx2 : 0 ≤ x2.toInt ∧ x2.toInt ≤ 1600) (hI : y_I K cs A F) (hlk : (x1.toInt + x2.toInt ≤ 125 ∧ (y_fi F a0 2).toInt + x2.toInt ≤ 1600)) : Met l yX7_isLike (Cond.code yX7_isLike cX7_isLike 4 (some .boolean) :: T0) ({ frames := 0, cells := 0, slots := 0, locals := 0 }) (va_Pc [.ref a0, .int x1, .int x2] (s_W dC dI sz L F [(cs 0, .int), (cs 1, .byte), (cs 2, .long), (cs 3, .object RX5), (cs 4, .object RX4), (cs 5, .array .int), (cs 6, .char), (cs 7, .boolean)])) (va_Qi (fun (r : Int32) (G : Nat → va_E) => (0 ≤ r.toInt ∧ r.toInt ≤ 1) ∧ True ∧ y_I K cs A G ∧ (∀ b, K b ∉ ([] : List Nat) → G b = F b) ∧ (∀ k, k ∈ ([1, 2, 3, 4, 5, 6, 7, 8, 11, 15, 16, 19, 25, 26, 27, 31, 32] : List Nat) → y_fi G a0 k = y_fi F a0 k) ∧ True) (fun (G : Nat → va_E) (t : State) => va_P (dC, dI) vwCl (va_pl L G) t.heap ∧ va_K (dC, dI) vwCl [(cs 0, .int), (cs 1, .byte), (cs 2, .long), (cs 3, .object RX5), (cs 4, .object RX4), (cs 5, .array .int), (cs 6, .char), (cs 7, .boolean)] t) (fun q => q ∈ L)) 0 0 (fun q => q ∈ L) := by
  refine Met.ofW (cc := cX7_isLike) (maxL := 4) (ret := (some .boolean)) (by decide) rfl ?_
  intro p e s m args below meth c s₁ B hml hv
  obtain ⟨rfl, hsz, hP, hK, hD, hN⟩ := hv
  have hx := B.exec
  have hb := B.bytes
  have hr := B.returns
  have hts : ∀ w ∈ T0, w.before _ s = true := fun w h => atoms_spec (ws := Cond.code yX7_isLike cX7_isLike 4 (some .boolean) :: T0) B.pre w (List.mem_cons_of_mem _ h)
  have hown : s.vm.findClass RX7 = some m.cls := findClass_of_methodNamed B.named
  have hlocks := B.notSynchronized
  have hS : va_S (fun q => q ∈ L) s.heap s.heap [] := va_S.rf
  have hfr : ∀ b, K b ∉ ([] : List Nat) → F b = F b := fun _ _ => rfl
  have hl := lv_entry ([.ref a0, .int x1, .int x2]) (n := 4) (Nat.le_of_ble_eq_true rfl)
  rw [lg_entry_eq]
  generalize (lg_sl ([.ref a0, .int x1, .int x2]) ++ List.replicate (4 - (lg_sl ([.ref a0, .int x1, .int x2])).length) Slot.unset).toArray = ls at hl ⊢
  have hl : lv_has ls 4 [(0, .ref a0), (1, .int x1), (2, .int x2)] := hl
  refine s_gen hP hS (fun H locs hP hS => ?_)
  obtain ⟨z0, q0, oY0, bz0, bq0⟩ := y_opY hI ha0
  have hz0 : ∀ k, k ∈ ([1, 2, 3, 4, 5, 6, 7, 8, 11, 15, 16, 19, 25, 26, 27, 31, 32] : List Nat) → z0 k = z0 k := fun _ _ => rfl
  obtain ⟨v1, ev1⟩ : ∃ y : Int32, y = z0 2 := ⟨_, rfl⟩
  have qv1 : 0 ≤ v1.toInt ∧ v1.toInt ≤ 1600 := by rw [ev1]; exact y_bY2 bz0
  have eF_2 := ev1
  replace hlk : (x1.toInt + x2.toInt ≤ 125 ∧ v1.toInt + x2.toInt ≤ 1600) := by have q9 := hlk; rw [y_fiZ oY0 (k := 2) (by decide), ← ev1] at q9; exact q9
  have e0_v1 := ev1
  refine lv_iconst (v := 0) hx hb dX7_isLike_0 (by decide) ?_
  refine lv_istore_n (lv' := [(3, .int 0), (0, .ref a0), (1, .int x1), (2, .int x2)]) hx hb dX7_isLike_1 rfl hl (by decide) rfl (fun ls hl => ?_)
  have h3 : (0 : Int32).toInt = 0 := by decide
  refine th_loop (fun n g H locs => ∃ (G : Nat → va_E) (ls : Array Slot) (w2 : Int32), g = F0 m 2 ls [] ∧ lv_has ls 4 [(0, .ref a0), (1, .int x1), (2, .int x2), (3, .int w2)] ∧ va_P (dC, dI) vwCl (va_pl L G) H ∧ va_S (fun q => q ∈ L) s.heap H locs ∧ y_I K cs A G ∧ (∀ b, K b ∉ ([] : List Nat) → G b = F b) ∧ (∀ k, k ∈ ([1, 2, 3, 4, 5, 6, 7, 8, 11, 15, 16, 19, 25, 26, 27, 31, 32] : List Nat) → y_fi G a0 k = z0 k) ∧ (0 ≤ w2.toInt ∧ w2.toInt ≤ 1600) ∧ (0 ≤ x1.toInt ∧ x1.toInt ≤ 125) ∧ (0 ≤ x2.toInt ∧ x2.toInt ≤ 1600) ∧ n = (1601 - w2.toInt).toNat) _ ⟨F, _, 0, rfl, lv_sub hl [1, 2, 3, 0] rfl, hP, hS, hI, hfr, (fun k hk => (y_fiZ oY0 (s_sub (by decide) hk)).trans (hz0 k hk)), (by decide), ⟨by omega, by omega⟩, ⟨by omega, by omega⟩, rfl⟩ (fun n ih2 g H locs hq => ?_)
  obtain ⟨F7, ls, w2, rfl, hl, hP, hS, hI, hfr, hz0, h4, h5, h6, hn⟩ := hq
  have oY8 : F7 a0 = .inr (7, y_fl A z0 q0) := (hfr _ (by rw [ha0]; decide)).trans oY0
  have hz0 : ∀ k, k ∈ ([1, 2, 3, 4, 5, 6, 7, 8, 11, 15, 16, 19, 25, 26, 27, 31, 32] : List Nat) → z0 k = z0 k := fun _ _ => rfl
  have hn_8 := hn
  refine lv_iload_n hx hb dX7_isLike_2 rfl (lv_at hl 3 rfl) ?_
  refine lv_iload_n hx hb dX7_isLike_3 rfl (lv_at hl 2 rfl) ?_
  refine lv_icmp_ge (tgt := 37) hx hb dX7_isLike_4 (by decide) (fun c9 => ?_) (fun c9 => ?_)
  · have c9 := Int32.le_iff_toInt_le.mp c9
    refine lv_iconst (v := 1) hx hb dX7_isLike_37 (by decide) ?_
    have h10 : (1 : Int32).toInt = 1 := by decide
    exact W.zret (v := 1) (ty := .boolean) hx hb hr (by decide) (fun t ht hW => ⟨⟨1, F7, rfl, ⟨(by decide), trivial, hI, hfr, fun k hk => (y_fiZ oY8 (s_sub (by decide) hk)).trans ((hz0 k hk).trans (y_fiZ oY0 (s_sub (by decide) hk)).symm), trivial⟩, by rw [ht]; exact hP, va_K.moved hW.alike hK⟩, hS.F ht⟩) hS.2.2 dX7_isLike_38
  · have c9 := mt Int32.le_iff_toInt_le.mpr c9
    refine lv_aload_n hx hb dX7_isLike_7 rfl (lv_at hl 0 rfl) ?_
    refine th_get (D := (dC, dI)) (ci := 7) (v := .ref (A 10)) (C := RX7) (T := TX7) (N := 34) hx hb hts inX7 hown hK hP (hLK _ ha0 (by decide)) oY8 rfl 10 (by decide) (hts _ T_244) (fun _ h9 => h9) rfl dX7_isLike_8 ?_
    refine lv_iload_n hx hb dX7_isLike_11 rfl (lv_at hl 1 rfl) ?_
    refine lv_iload_n hx hb dX7_isLike_12 rfl (lv_at hl 3 rfl) ?_
    refine lv_iadd hx hb dX7_isLike_13 ?_
    refine lv_topi (fun v11 ev11 => ?_)
    have qv11 : v11.toInt = x1.toInt + w2.toInt := by rw [ev11]; exact th_add rfl rfl ⟨by omega, by omega⟩
    obtain ⟨f12, o13, b14⟩ := y_op10 hI
    refine th_cald hx hb hK hP (hLK _ (y_k10 hA) (by decide)) 6 o13 rfl (th_in ⟨by omega, by omega⟩) dX7_isLike_14 ?_
    refine lv_topi (fun v15 ev15 => ?_)
    refine lv_aload_n hx hb dX7_isLike_15 rfl (lv_at hl 0 rfl) ?_
    refine th_get (D := (dC, dI)) (ci := 7) (v := .ref (A 0)) (C := RX7) (T := TX7) (N := 34) hx hb hts inX7 hown hK hP (hLK _ ha0 (by decide)) oY8 rfl 0 (by decide) (hts _ T_240) (fun _ h9 => h9) rfl dX7_isLike_16 ?_
    refine lv_aload_n hx hb dX7_isLike_19 rfl (lv_at hl 0 rfl) ?_
    refine th_get (D := (dC, dI)) (ci := 7) (v := .int (z0 2)) (C := RX7) (T := TX7) (N := 34) hx hb hts inX7 hown hK hP (hLK _ ha0 (by decide)) oY8 rfl 2 (by decide) (hts _ T_272) (fun _ h9 => h9) rfl dX7_isLike_20 ?_
    refine ax_eqi (y := v1) ev1.symm ?_
    refine lv_iload_n hx hb dX7_isLike_23 rfl (lv_at hl 3 rfl) ?_
    refine lv_iadd hx hb dX7_isLike_24 ?_
    refine lv_topi (fun v16 ev16 => ?_)
    have qv16 : v16.toInt = v1.toInt + w2.toInt := by rw [ev16]; exact th_add rfl rfl ⟨by omega, by omega⟩
    obtain ⟨f17, o18, b19⟩ := y_op0 hI
    refine th_iald hx hb hK hP (hLK _ (y_k0 hA) (by decide)) 0 o18 rfl (th_in ⟨by omega, by omega⟩) dX7_isLike_25 ?_
    refine lv_topi (fun v20 ev20 => ?_)
    refine lv_icmp_eq (tgt := 31) hx hb dX7_isLike_26 (by decide) (fun c21 => ?_) (fun c21 => ?_)
    · have c21 := Int32.toInt_inj.symm.mp c21
      obtain ⟨v22, ev22⟩ : ∃ y : Int32, w2 + 1 = y := ⟨_, rfl⟩
      have qv22 : v22.toInt = w2.toInt + 1 := by rw [← ev22]; exact th_add rfl (by decide) ⟨by omega, by omega⟩
      refine lv_iinc (v := v22) (lv' := [(3, .int v22), (0, .ref a0), (1, .int x1), (2, .int x2)]) hx hb dX7_isLike_31 hl (k := 3) rfl ev22 (by decide) rfl (fun ls hl => ?_)
      refine lv_goto (tgt := 2) hx hb dX7_isLike_34 (by decide) ?_
      exact ih2 _ _ _ _ (by omega) ⟨F7, _, v22, rfl, lv_sub hl [1, 2, 3, 0] rfl, hP, hS, hI, hfr, (fun k hk => (y_fiZ oY8 (s_sub (by decide) hk)).trans (hz0 k hk)), ⟨by omega, by omega⟩, ⟨by omega, by omega⟩, ⟨by omega, by omega⟩, rfl⟩
    · have c21 := mt Int32.toInt_inj.symm.mpr c21
      refine lv_iconst (v := 0) hx hb dX7_isLike_29 (by decide) ?_
      have h23 : (0 : Int32).toInt = 0 := by decide
      exact W.zret (v := 0) (ty := .boolean) hx hb hr (by decide) (fun t ht hW => ⟨⟨0, F7, rfl, ⟨(by decide), trivial, hI, hfr, fun k hk => (y_fiZ oY8 (s_sub (by decide) hk)).trans ((hz0 k hk).trans (y_fiZ oY0 (s_sub (by decide) hk)).symm), trivial⟩, by rw [ht]; exact hP, va_K.moved hW.alike hK⟩, hS.F ht⟩) hS.2.2 dX7_isLike_30

set_option maxHeartbeats 4000000 in
set_option maxRecDepth 100000 in
theorem y_X7_ownHere (l : Launch) (dC : Nat → ClassId) (dI : Nat → Nat → Nat) (sz : Nat) {L : List Nat} {K : Nat → Nat} {cs : Nat → ClassId} (hLK : ∀ a {k : Nat}, K a = k → k ≠ 0 → a ∈ L) (A : Nat → Nat) (hA : y_A K A) (F : Nat → va_E) (a0 : Nat) (ha0 : K a0 = 9) (hI : y_I K cs A F) : Met l yX7_ownHere (Cond.code yX7_ownHere cX7_ownHere 5 (some .int) :: T0) ({ frames := 2, cells := 0, slots := 0, locals := 40 }) (va_Pc [.ref a0] (s_W dC dI sz L F [(cs 0, .int), (cs 1, .byte), (cs 2, .long), (cs 3, .object RX5), (cs 4, .object RX4), (cs 5, .array .int), (cs 6, .char), (cs 7, .boolean)])) (va_Qi (fun (r : Int32) (G : Nat → va_E) => True ∧ True ∧ y_I K cs A G ∧ (∀ b, K b ∉ [9] → G b = F b) ∧ (∀ k, k ∈ ([1, 3, 4, 5, 6, 7, 8, 11, 15, 16, 19, 25, 26, 27, 31, 32] : List Nat) → y_fi G a0 k = y_fi F a0 k) ∧ True) (fun (G : Nat → va_E) (t : State) => va_P (dC, dI) vwCl (va_pl L G) t.heap ∧ va_K (dC, dI) vwCl [(cs 0, .int), (cs 1, .byte), (cs 2, .long), (cs 3, .object RX5), (cs 4, .object RX4), (cs 5, .array .int), (cs 6, .char), (cs 7, .boolean)] t) (fun q => q ∈ L)) 0 0 (fun q => q ∈ L) := by
  refine Met.ofW (cc := cX7_ownHere) (maxL := 5) (ret := (some .int)) (by decide) rfl ?_
  intro p e s m args below meth c s₁ B hml hv
  obtain ⟨rfl, hsz, hP, hK, hD, hN⟩ := hv
  have hx := B.exec
  have hb := B.bytes
  have hr := B.returns
  have hts : ∀ w ∈ T0, w.before _ s = true := fun w h => atoms_spec (ws := Cond.code yX7_ownHere cX7_ownHere 5 (some .int) :: T0) B.pre w (List.mem_cons_of_mem _ h)
  have hown : s.vm.findClass RX7 = some m.cls := findClass_of_methodNamed B.named
  have hlocks := B.notSynchronized
  have hS : va_S (fun q => q ∈ L) s.heap s.heap [] := va_S.rf
  have hfr : ∀ b, K b ∉ [9] → F b = F b := fun _ _ => rfl
  have hl := lv_entry ([.ref a0]) (n := 5) (Nat.le_of_ble_eq_true rfl)
  rw [lg_entry_eq]
  generalize (lg_sl ([.ref a0]) ++ List.replicate (5 - (lg_sl ([.ref a0])).length) Slot.unset).toArray = ls at hl ⊢
  have hl : lv_has ls 5 [(0, .ref a0)] := hl
  refine s_gen hP hS (fun H locs hP hS => ?_)
  obtain ⟨z0, q0, oY0, bz0, bq0⟩ := y_opY hI ha0
  have hz0 : ∀ k, k ∈ ([1, 3, 4, 5, 6, 7, 8, 11, 15, 16, 19, 25, 26, 27, 31, 32] : List Nat) → z0 k = z0 k := fun _ _ => rfl
  refine th_join (fun g H locs => ∃ (G : Nat → va_E) (ls : Array Slot) (w1 : Int32), g = F0 m 47 ls [] ∧ lv_has ls 5 [(0, .ref a0), (1, .int w1)] ∧ va_P (dC, dI) vwCl (va_pl L G) H ∧ va_S (fun q => q ∈ L) s.heap H locs ∧ y_I K cs A G ∧ (∀ b, K b ∉ [9] → G b = F b) ∧ (∀ k, k ∈ ([1, 3, 4, 5, 6, 7, 8, 11, 15, 16, 19, 25, 26, 27, 31, 32] : List Nat) → y_fi G a0 k = z0 k) ∧ (0 ≤ w1.toInt ∧ w1.toInt ≤ 1600) ∧ ((y_fi G a0 2).toInt + w1.toInt ≤ 1600)) (fun K47 => ?_) ?_
  · refine lv_aload_n hx hb dX7_ownHere_0 rfl (lv_at hl 0 rfl) ?_
    refine va_calli (va_runV (As := []) (rest := []) ⟨hx, hb, hml, hown, hts⟩ (y_X7_isWordHere l dC dI H.size hLK A hA F a0 ha0 hI) (cwV 0 hts (ax_gV T_280 T_281 T_282 T_265 T_24) rfl rfl rfl (by decide +kernel) ⟨Nat.le_of_ble_eq_true rfl, Nat.le_of_ble_eq_true rfl⟩) ⟨fun a U g mk q => ⟨q.1, s_pc (U := U) rfl rfl q.2⟩, s_recv hK hP (hLK _ ha0 (by decide)) (ci := 7) rfl oY0, fun U hU hW => ⟨rfl, s_pw hU hW hP hK hD hN⟩⟩ rfl rfl hl.1 rfl (lv_room (Nat.le_of_ble_eq_true rfl)) dX7_ownHere_1 ⟨Nat.zero_le _, Nat.zero_le _⟩) hS (fun q _ h => h) (fun q h => h) (fun r3 F4 t H1 locs ht hvm hw hB hz1 hk1 hS => ?_)
    obtain ⟨hP, hK1⟩ := hB
    rw [ht] at hP
    generalize H1 = H at hP hS ⊢
    clear hz1 hk1 hvm hK1
    obtain ⟨h5, h7, hI, hfr1, hzf, h6⟩ := hw
    obtain ⟨z8, q9, oY10, bz11, bq12⟩ := y_opY hI ha0
    have hzf : ∀ k, k ∈ ([1, 3, 4, 5, 6, 7, 8, 11, 15, 16, 19, 25, 26, 27, 31, 32] : List Nat) → z8 k = z0 k := fun k hk => by have q9 := hzf k hk; rw [y_fiZ oY10 (s_sub (by decide) hk), y_fiZ oY0 (s_sub (by decide) hk)] at q9; exact q9
    have hz0 : ∀ k, k ∈ ([1, 3, 4, 5, 6, 7, 8, 11, 15, 16, 19, 25, 26, 27, 31, 32] : List Nat) → z8 k = z0 k := fun k hk => (hzf k (s_sub (by decide) hk)).trans (hz0 k hk)
    have hfr : ∀ b, K b ∉ [9] → F4 b = F b := fun b hb9 => (hfr1 b (fun q => hb9 (s_sub (by decide) q))).trans (hfr b hb9)
    obtain ⟨v13, ev13⟩ : ∃ y : Int32, y = z8 2 := ⟨_, rfl⟩
    have qv13 : 0 ≤ v13.toInt ∧ v13.toInt ≤ 1600 := by rw [ev13]; exact y_bY2 bz11
    obtain ⟨v14, ev14⟩ : ∃ y : Int32, y = z8 3 := ⟨_, rfl⟩
    have qv14 : 0 ≤ v14.toInt ∧ v14.toInt ≤ 1600 := by rw [ev14]; exact y_bY3 bz11
    replace h6 : (r3.toInt = 0 ∨ v13.toInt < v14.toInt) := by have q9 := h6; rw [y_fiZ oY10 (k := 2) (by decide), ← ev13, y_fiZ oY10 (k := 3) (by decide), ← ev14] at q9; exact q9
    refine lv_if_ne (tgt := 9) hx hb dX7_ownHere_4 (by decide) (fun c15 => ?_) (fun c15 => ?_)
    · have c15 := mt (ax_eq (n := 0) (by decide)).mpr c15
      refine lv_iconst (v := 0) hx hb dX7_ownHere_9 (by decide) ?_
      refine lv_istore_n (lv' := [(1, .int 0), (0, .ref a0)]) hx hb dX7_ownHere_10 rfl hl (by decide) rfl (fun ls hl => ?_)
      have h17 : (0 : Int32).toInt = 0 := by decide
      refine th_loop (fun n g H locs => ∃ (G : Nat → va_E) (ls : Array Slot) (w16 : Int32), g = F0 m 11 ls [] ∧ lv_has ls 5 [(0, .ref a0), (1, .int w16)] ∧ va_P (dC, dI) vwCl (va_pl L G) H ∧ va_S (fun q => q ∈ L) s.heap H locs ∧ y_I K cs A G ∧ (∀ b, K b ∉ [9] → G b = F b) ∧ (∀ k, k ∈ ([1, 3, 4, 5, 6, 7, 8, 11, 15, 16, 19, 25, 26, 27, 31, 32] : List Nat) → y_fi G a0 k = z0 k) ∧ (0 ≤ w16.toInt ∧ w16.toInt ≤ 1600) ∧ ((y_fi G a0 2).toInt + w16.toInt ≤ 1600) ∧ n = (1601 - w16.toInt).toNat) _ ⟨F4, _, 0, rfl, lv_sub hl [1, 0] rfl, hP, hS, hI, hfr, (fun k hk => (y_fiZ oY10 (s_sub (by decide) hk)).trans (hz0 k hk)), (by decide), (by first | (rw [y_fiZ oY10 (k := 2) (by decide), ← ev13]; omega) | rw [y_fiZ oY10 (k := 2) (by decide), ← ev13]), rfl⟩ (fun n ih11 g H locs hq => ?_)
      obtain ⟨F20, ls, w16, rfl, hl, hP, hS, hI, hfr, hz0, h18, h19, hn⟩ := hq
      obtain ⟨z21, q22, oY23, bz24, bq25⟩ := y_opY hI ha0
      have hz0 : ∀ k, k ∈ ([1, 3, 4, 5, 6, 7, 8, 11, 15, 16, 19, 25, 26, 27, 31, 32] : List Nat) → z21 k = z0 k := fun k hk => (y_fiZ oY23 (s_sub (by decide) hk)).symm.trans (hz0 k hk)
      obtain ⟨v26, ev26⟩ : ∃ y : Int32, y = z21 2 := ⟨_, rfl⟩
      have qv26 : 0 ≤ v26.toInt ∧ v26.toInt ≤ 1600 := by rw [ev26]; exact y_bY2 bz24
      replace h19 : (v26.toInt + w16.toInt ≤ 1600) := by have q9 := h19; rw [y_fiZ oY23 (k := 2) (by decide), ← ev26] at q9; exact q9
      have hn_26 := hn
      refine lv_aload_n hx hb dX7_ownHere_11 rfl (lv_at hl 0 rfl) ?_
      refine th_get (D := (dC, dI)) (ci := 7) (v := .int (z21 2)) (C := RX7) (T := TX7) (N := 34) hx hb hts inX7 hown hK hP (hLK _ ha0 (by decide)) oY23 rfl 2 (by decide) (hts _ T_272) (fun _ h9 => h9) rfl dX7_ownHere_12 ?_
      refine ax_eqi (y := v26) ev26.symm ?_
      refine lv_iload_n hx hb dX7_ownHere_15 rfl (lv_at hl 1 rfl) ?_
      refine lv_iadd hx hb dX7_ownHere_16 ?_
      refine lv_topi (fun v27 ev27 => ?_)
      have qv27 : v27.toInt = v26.toInt + w16.toInt := by rw [ev27]; exact th_add rfl rfl ⟨by omega, by omega⟩
      refine lv_aload_n hx hb dX7_ownHere_17 rfl (lv_at hl 0 rfl) ?_
      refine th_get (D := (dC, dI)) (ci := 7) (v := .int (z21 3)) (C := RX7) (T := TX7) (N := 34) hx hb hts inX7 hown hK hP (hLK _ ha0 (by decide)) oY23 rfl 3 (by decide) (hts _ T_273) (fun _ h9 => h9) rfl dX7_ownHere_18 ?_
      refine lv_topi (fun v28 ev28 => ?_)
      have qv28 : 0 ≤ v28.toInt ∧ v28.toInt ≤ 1600 := by rw [ev28]; exact y_bY3 bz24
      refine lv_icmp_ge (tgt := 47) hx hb dX7_ownHere_21 (by decide) (fun c29 => ?_) (fun c29 => ?_)
      · have c29 := Int32.le_iff_toInt_le.mp c29
        exact K47 _ _ _ ⟨F20, _, w16, rfl, lv_sub hl [0, 1] rfl, hP, hS, hI, hfr, (fun k hk => (y_fiZ oY23 (s_sub (by decide) hk)).trans (hz0 k hk)), ⟨by omega, by omega⟩, (by first | (rw [y_fiZ oY23 (k := 2) (by decide), ← ev26]; omega) | rw [y_fiZ oY23 (k := 2) (by decide), ← ev26])⟩
      · have c29 := mt Int32.le_iff_toInt_le.mpr c29
        refine lv_aload_n hx hb dX7_ownHere_24 rfl (lv_at hl 0 rfl) ?_
        refine th_get (D := (dC, dI)) (ci := 7) (v := .ref (A 0)) (C := RX7) (T := TX7) (N := 34) hx hb hts inX7 hown hK hP (hLK _ ha0 (by decide)) oY23 rfl 0 (by decide) (hts _ T_240) (fun _ h9 => h9) rfl dX7_ownHere_25 ?_
        refine lv_aload_n hx hb dX7_ownHere_28 rfl (lv_at hl 0 rfl) ?_
        refine th_get (D := (dC, dI)) (ci := 7) (v := .int (z21 2)) (C := RX7) (T := TX7) (N := 34) hx hb hts inX7 hown hK hP (hLK _ ha0 (by decide)) oY23 rfl 2 (by decide) (hts _ T_272) (fun _ h9 => h9) rfl dX7_ownHere_29 ?_
        refine ax_eqi (y := v26) ev26.symm ?_
        refine lv_iload_n hx hb dX7_ownHere_32 rfl (lv_at hl 1 rfl) ?_
        refine lv_iadd hx hb dX7_ownHere_33 ?_
        refine lv_topi (fun v30 ev30 => ?_)
        have qv30 : v30.toInt = v26.toInt + w16.toInt := by rw [ev30]; exact th_add rfl rfl ⟨by omega, by omega⟩
        obtain ⟨f31, o32, b33⟩ := y_op0 hI
        refine th_iald hx hb hK hP (hLK _ (y_k0 hA) (by decide)) 0 o32 rfl (th_in ⟨by omega, by omega⟩) dX7_ownHere_34 ?_
        refine lv_topi (fun v34 ev34 => ?_)
        refine va_calli (va_runS (As := [.int v34]) (rest := []) ⟨hx, hb, hml, hown, hts⟩ (y_X7_isLetter l dC dI H.size F20 v34) (cwS 1 hts (ax_gS T_278 T_279 T_265 T_23) rfl rfl rfl (by decide +kernel) ⟨Nat.le_of_ble_eq_true rfl, Nat.le_of_ble_eq_true rfl⟩) ⟨fun a U g mk q => ⟨q.1, s_pc (U := U) rfl rfl q.2⟩, fun U hU hW => ⟨rfl, s_pw hU hW hP hK hD hN⟩⟩ rfl rfl hl.1 rfl (lv_room (Nat.le_of_ble_eq_true rfl)) dX7_ownHere_35 ⟨Nat.zero_le _, Nat.zero_le _⟩) hS (fun q _ h => h) (fun q h => h) (fun r36 F37 t H1 locs ht hvm hw hB hz1 hk1 hS => ?_)
        obtain ⟨hP, hK1⟩ := hB
        rw [ht] at hP
        generalize H1 = H at hP hS ⊢
        clear hz1 hk1 hvm hK1
        obtain ⟨h38, h40, hG9, h39⟩ := hw
        rw [hG9] at hP
        refine lv_if_eq (tgt := 47) hx hb dX7_ownHere_38 (by decide) (fun c41 => ?_) (fun c41 => ?_)
        · have c41 := (ax_eq (n := 0) (by decide)).mp c41
          exact K47 _ _ _ ⟨F20, _, w16, rfl, lv_sub hl [0, 1] rfl, hP, hS, hI, hfr, (fun k hk => (y_fiZ oY23 (s_sub (by decide) hk)).trans (hz0 k hk)), ⟨by omega, by omega⟩, (by first | (rw [y_fiZ oY23 (k := 2) (by decide), ← ev26]; omega) | rw [y_fiZ oY23 (k := 2) (by decide), ← ev26])⟩
        · have c41 := mt (ax_eq (n := 0) (by decide)).mpr c41
          have h42 := h40 (fun q => c41 (by rw [q]; decide))
          obtain ⟨v43, ev43⟩ : ∃ y : Int32, w16 + 1 = y := ⟨_, rfl⟩
          have qv43 : v43.toInt = w16.toInt + 1 := by rw [← ev43]; exact th_add rfl (by decide) ⟨by omega, by omega⟩
          refine lv_iinc (v := v43) (lv' := [(1, .int v43), (0, .ref a0)]) hx hb dX7_ownHere_41 hl (k := 1) rfl ev43 (by decide) rfl (fun ls hl => ?_)
          have h44 : 1 ≤ v43.toInt ∧ v43.toInt ≤ 1600 := ⟨by omega, by omega⟩
          refine lv_goto (tgt := 11) hx hb dX7_ownHere_44 (by decide) ?_
          exact ih11 _ _ _ _ (by omega) ⟨F20, _, v43, rfl, lv_sub hl [1, 0] rfl, hP, hS, hI, hfr, (fun k hk => (y_fiZ oY23 (s_sub (by decide) hk)).trans (hz0 k hk)), ⟨by omega, by omega⟩, (by first | (rw [y_fiZ oY23 (k := 2) (by decide), ← ev26]; omega) | rw [y_fiZ oY23 (k := 2) (by decide), ← ev26]), rfl⟩
    · have c15 := (ax_eq (n := 0) (by decide)).mp c15
      refine lv_iconst (v := (-1)) hx hb dX7_ownHere_7 (by decide) ?_
      have h45 : ((-1) : Int32).toInt = (-1) := by decide
      exact W.iret (v := (-1)) hx hb hr (fun t ht hW => ⟨⟨(-1), F4, rfl, ⟨trivial, trivial, hI, hfr, fun k hk => (y_fiZ oY10 (s_sub (by decide) hk)).trans ((hz0 k hk).trans (y_fiZ oY0 (s_sub (by decide) hk)).symm), trivial⟩, by rw [ht]; exact hP, va_K.moved hW.alike hK⟩, hS.F ht⟩) hS.2.2 dX7_ownHere_8
  · intro g H locs hq
    obtain ⟨F48, ls, w1, rfl, hl, hP, hS, hI, hfr, hz0, h46, h47⟩ := hq
    obtain ⟨z49, q50, oY51, bz52, bq53⟩ := y_opY hI ha0
    have hz0 : ∀ k, k ∈ ([1, 3, 4, 5, 6, 7, 8, 11, 15, 16, 19, 25, 26, 27, 31, 32] : List Nat) → z49 k = z0 k := fun k hk => (y_fiZ oY51 (s_sub (by decide) hk)).symm.trans (hz0 k hk)
    obtain ⟨v54, ev54⟩ : ∃ y : Int32, y = z49 2 := ⟨_, rfl⟩
    have qv54 : 0 ≤ v54.toInt ∧ v54.toInt ≤ 1600 := by rw [ev54]; exact y_bY2 bz52
    replace h47 : (v54.toInt + w1.toInt ≤ 1600) := by have q9 := h47; rw [y_fiZ oY51 (k := 2) (by decide), ← ev54] at q9; exact q9
    refine lv_iconst (v := 0) hx hb dX7_ownHere_47 (by decide) ?_
    refine lv_istore_n (lv' := [(2, .int 0), (0, .ref a0), (1, .int w1)]) hx hb dX7_ownHere_48 rfl hl (by decide) rfl (fun ls hl => ?_)
    refine lv_iconst (v := 0) hx hb dX7_ownHere_49 (by decide) ?_
    refine lv_istore_n (lv' := [(3, .int 0), (2, .int 0), (0, .ref a0), (1, .int w1)]) hx hb dX7_ownHere_50 rfl hl (by decide) rfl (fun ls hl => ?_)
    refine lv_iconst (v := 0) hx hb dX7_ownHere_51 (by decide) ?_
    refine lv_istore (lv' := [(4, .int 0), (3, .int 0), (2, .int 0), (0, .ref a0), (1, .int w1)]) hx hb dX7_ownHere_52 hl (by decide) rfl (fun ls hl => ?_)
    have h58 : (0 : Int32).toInt = 0 := by decide
    have h59 : (0 : Int32).toInt = 0 := by decide
    have h60 : (0 : Int32).toInt = 0 := by decide
    refine th_loop (fun n g H locs => ∃ (G : Nat → va_E) (ls : Array Slot) (w55 : Int32) (w56 : Int32) (w57 : Int32), g = F0 m 54 ls [] ∧ lv_has ls 5 [(0, .ref a0), (1, .int w1), (2, .int w55), (3, .int w56), (4, .int w57)] ∧ va_P (dC, dI) vwCl (va_pl L G) H ∧ va_S (fun q => q ∈ L) s.heap H locs ∧ y_I K cs A G ∧ (∀ b, K b ∉ [9] → G b = F b) ∧ (∀ k, k ∈ ([1, 3, 4, 5, 6, 7, 8, 11, 15, 16, 19, 25, 26, 27, 31, 32] : List Nat) → y_fi G a0 k = z0 k) ∧ True ∧ (0 ≤ w56.toInt ∧ w56.toInt ≤ 125) ∧ (0 ≤ w57.toInt ∧ w57.toInt ≤ 125) ∧ (0 ≤ w1.toInt ∧ w1.toInt ≤ 1600) ∧ ((y_fi G a0 2).toInt + w1.toInt ≤ 1600) ∧ n = (126 - w57.toInt).toNat) _ ⟨F48, _, 0, 0, 0, rfl, lv_sub hl [3, 4, 2, 1, 0] rfl, hP, hS, hI, hfr, (fun k hk => (y_fiZ oY51 (s_sub (by decide) hk)).trans (hz0 k hk)), trivial, (by decide), (by decide), ⟨by omega, by omega⟩, (by first | (rw [y_fiZ oY51 (k := 2) (by decide), ← ev54]; omega) | rw [y_fiZ oY51 (k := 2) (by decide), ← ev54]), rfl⟩ (fun n ih54 g H locs hq => ?_)
    obtain ⟨F66, ls, w55, w56, w57, rfl, hl, hP, hS, hI, hfr, hz0, h61, h62, h63, h64, h65, hn⟩ := hq
    obtain ⟨z67, q68, oY69, bz70, bq71⟩ := y_opY hI ha0
    have hz0 : ∀ k, k ∈ ([1, 3, 4, 5, 6, 7, 8, 11, 15, 16, 19, 25, 26, 27, 31, 32] : List Nat) → z67 k = z0 k := fun k hk => (y_fiZ oY69 (s_sub (by decide) hk)).symm.trans (hz0 k hk)
    obtain ⟨v72, ev72⟩ : ∃ y : Int32, y = z67 2 := ⟨_, rfl⟩
    have qv72 : 0 ≤ v72.toInt ∧ v72.toInt ≤ 1600 := by rw [ev72]; exact y_bY2 bz70
    replace h65 : (v72.toInt + w1.toInt ≤ 1600) := by have q9 := h65; rw [y_fiZ oY69 (k := 2) (by decide), ← ev72] at q9; exact q9
    have hn_72 := hn
    refine th_join (fun g H locs => ∃ (G : Nat → va_E) (ls : Array Slot) (w73 : Int32) (w74 : Int32), g = F0 m 103 ls [] ∧ lv_has ls 5 [(0, .ref a0), (1, .int w1), (2, .int w73), (3, .int w74), (4, .int w57)] ∧ va_P (dC, dI) vwCl (va_pl L G) H ∧ va_S (fun q => q ∈ L) s.heap H locs ∧ y_I K cs A G ∧ (∀ b, K b ∉ [9] → G b = F b) ∧ (∀ k, k ∈ ([1, 3, 4, 5, 6, 7, 8, 11, 15, 16, 19, 25, 26, 27, 31, 32] : List Nat) → y_fi G a0 k = z0 k) ∧ True ∧ (0 ≤ w74.toInt ∧ w74.toInt ≤ 125) ∧ (0 ≤ w1.toInt ∧ w1.toInt ≤ 1600) ∧ (0 ≤ w57.toInt ∧ w57.toInt ≤ 124) ∧ ((y_fi G a0 2).toInt + w1.toInt ≤ 1600)) (fun K103 => ?_) ?_
    refine th_join (fun g H locs => ∃ (G : Nat → va_E) (ls : Array Slot), g = F0 m 95 ls [] ∧ lv_has ls 5 [(0, .ref a0), (1, .int w1), (2, .int w55), (4, .int w57)] ∧ va_P (dC, dI) vwCl (va_pl L G) H ∧ va_S (fun q => q ∈ L) s.heap H locs ∧ y_I K cs A G ∧ (∀ b, K b ∉ [9] → G b = F b) ∧ (∀ k, k ∈ ([1, 3, 4, 5, 6, 7, 8, 11, 15, 16, 19, 25, 26, 27, 31, 32] : List Nat) → y_fi G a0 k = z0 k) ∧ (0 ≤ w1.toInt ∧ w1.toInt ≤ 1600) ∧ (0 ≤ w57.toInt ∧ w57.toInt ≤ 124) ∧ ((y_fi G a0 2).toInt + w1.toInt ≤ 1600)) (fun K95 => ?_) ?_
    · refine lv_iload hx hb dX7_ownHere_54 (lv_at hl 4 rfl) ?_
      refine lv_aload_n hx hb dX7_ownHere_56 rfl (lv_at hl 0 rfl) ?_
      refine th_get (D := (dC, dI)) (ci := 7) (v := .ref (A 10)) (C := RX7) (T := TX7) (N := 34) hx hb hts inX7 hown hK hP (hLK _ ha0 (by decide)) oY69 rfl 10 (by decide) (hts _ T_244) (fun _ h9 => h9) rfl dX7_ownHere_57 ?_
      obtain ⟨f75, o76, b77⟩ := y_op10 hI
      refine th_alen hx hb hK hP (hLK _ (y_k10 hA) (by decide)) 6 o76 rfl (v := 125) rfl dX7_ownHere_60 ?_
      refine lv_icmp_ge (tgt := 109) hx hb dX7_ownHere_61 (by decide) (fun c78 => ?_) (fun c78 => ?_)
      · have c78 := (ax_ge (n := 125) (by decide)).mp c78
        refine lv_iconst (v := (-1)) hx hb dX7_ownHere_109 (by decide) ?_
        have h79 : ((-1) : Int32).toInt = (-1) := by decide
        exact W.iret (v := (-1)) hx hb hr (fun t ht hW => ⟨⟨(-1), F66, rfl, ⟨trivial, trivial, hI, hfr, fun k hk => (y_fiZ oY69 (s_sub (by decide) hk)).trans ((hz0 k hk).trans (y_fiZ oY0 (s_sub (by decide) hk)).symm), trivial⟩, by rw [ht]; exact hP, va_K.moved hW.alike hK⟩, hS.F ht⟩) hS.2.2 dX7_ownHere_110
      · have c78 := mt (ax_ge (n := 125) (by decide)).mpr c78
        refine lv_aload_n hx hb dX7_ownHere_64 rfl (lv_at hl 0 rfl) ?_
        refine th_get (D := (dC, dI)) (ci := 7) (v := .ref (A 10)) (C := RX7) (T := TX7) (N := 34) hx hb hts inX7 hown hK hP (hLK _ ha0 (by decide)) oY69 rfl 10 (by decide) (hts _ T_244) (fun _ h9 => h9) rfl dX7_ownHere_65 ?_
        refine lv_iload hx hb dX7_ownHere_68 (lv_at hl 4 rfl) ?_
        refine th_cald hx hb hK hP (hLK _ (y_k10 hA) (by decide)) 6 o76 rfl (th_in ⟨by omega, by omega⟩) dX7_ownHere_70 ?_
        refine lv_topi (fun v80 ev80 => ?_)
        refine lv_bipush (v := 32) hx hb dX7_ownHere_71 (by decide) ?_
        refine lv_icmp_ne (tgt := 103) hx hb dX7_ownHere_73 (by decide) (fun c81 => ?_) (fun c81 => ?_)
        · have c81 := mt (ax_eq (n := 32) (by decide)).mpr c81
          exact K103 _ _ _ ⟨F66, _, w55, w56, rfl, lv_sub hl [0, 1, 2, 3, 4] rfl, hP, hS, hI, hfr, (fun k hk => (y_fiZ oY69 (s_sub (by decide) hk)).trans (hz0 k hk)), trivial, ⟨by omega, by omega⟩, ⟨by omega, by omega⟩, ⟨by omega, by omega⟩, (by first | (rw [y_fiZ oY69 (k := 2) (by decide), ← ev72]; omega) | rw [y_fiZ oY69 (k := 2) (by decide), ← ev72])⟩
        · have c81 := (ax_eq (n := 32) (by decide)).mp c81
          refine lv_iload hx hb dX7_ownHere_76 (lv_at hl 4 rfl) ?_
          refine lv_iload_n hx hb dX7_ownHere_78 rfl (lv_at hl 3 rfl) ?_
          refine lv_isub hx hb dX7_ownHere_79 ?_
          refine lv_topi (fun v82 ev82 => ?_)
          have qv82 : v82.toInt = w57.toInt - w56.toInt := by rw [ev82]; exact th_sub rfl rfl ⟨by omega, by omega⟩
          refine lv_iload_n hx hb dX7_ownHere_80 rfl (lv_at hl 1 rfl) ?_
          refine lv_icmp_ne (tgt := 95) hx hb dX7_ownHere_81 (by decide) (fun c83 => ?_) (fun c83 => ?_)
          · have c83 := mt Int32.toInt_inj.symm.mpr c83
            exact K95 _ _ _ ⟨F66, _, rfl, lv_sub hl [0, 1, 2, 4] rfl, hP, hS, hI, hfr, (fun k hk => (y_fiZ oY69 (s_sub (by decide) hk)).trans (hz0 k hk)), ⟨by omega, by omega⟩, ⟨by omega, by omega⟩, (by first | (rw [y_fiZ oY69 (k := 2) (by decide), ← ev72]; omega) | rw [y_fiZ oY69 (k := 2) (by decide), ← ev72])⟩
          · have c83 := Int32.toInt_inj.symm.mp c83
            refine lv_aload_n hx hb dX7_ownHere_84 rfl (lv_at hl 0 rfl) ?_
            refine lv_iload_n hx hb dX7_ownHere_85 rfl (lv_at hl 3 rfl) ?_
            refine lv_iload_n hx hb dX7_ownHere_86 rfl (lv_at hl 1 rfl) ?_
            have rg84 : 0 ≤ w56.toInt ∧ w56.toInt ≤ 125 := ⟨by omega, by omega⟩
            have rg85 : 0 ≤ w1.toInt ∧ w1.toInt ≤ 1600 := ⟨by omega, by omega⟩
            refine va_calli (va_runV (As := [.int w56, .int w1]) (rest := []) ⟨hx, hb, hml, hown, hts⟩ (y_X7_isLike l dC dI H.size hLK A hA F66 a0 w56 w1 ha0 rg84 rg85 hI (by first | (rw [y_fiZ oY69 (k := 2) (by decide), ← ev72]; omega) | rw [y_fiZ oY69 (k := 2) (by decide), ← ev72])) (cwV 2 hts (ax_gV T_1282 T_1284 T_1285 T_265 T_1283) rfl rfl rfl (by decide +kernel) ⟨Nat.le_of_ble_eq_true rfl, Nat.le_of_ble_eq_true rfl⟩) ⟨fun a U g mk q => ⟨q.1, s_pc (U := U) rfl rfl q.2⟩, s_recv hK hP (hLK _ ha0 (by decide)) (ci := 7) rfl oY69, fun U hU hW => ⟨rfl, s_pw hU hW hP hK hD hN⟩⟩ rfl rfl hl.1 rfl (lv_room (Nat.le_of_ble_eq_true rfl)) dX7_ownHere_87 ⟨Nat.zero_le _, Nat.zero_le _⟩) hS (fun q _ h => h) (fun q h => h) (fun r87 F88 t H1 locs ht hvm hw hB hz1 hk1 hS => ?_)
            obtain ⟨hP, hK1⟩ := hB
            rw [ht] at hP
            generalize H1 = H at hP hS ⊢
            clear hz1 hk1 hvm hK1
            obtain ⟨h89, h91, hI, hfr1, hzf, h90⟩ := hw
            have o92 : F88 (A 10) = .inl (cs 6, 125, .inl f75) := (hfr1 _ (by rw [(y_k10 hA)]; decide)).trans o76
            have oY93 : F88 a0 = .inr (7, y_fl A z67 q68) := (hfr1 _ (by rw [ha0]; decide)).trans oY69
            have hfr : ∀ b, K b ∉ [9] → F88 b = F b := fun b hb9 => (hfr1 b (fun q => hb9 (s_sub (by decide) q))).trans (hfr b hb9)
            refine lv_if_eq (tgt := 95) hx hb dX7_ownHere_90 (by decide) (fun c94 => ?_) (fun c94 => ?_)
            · have c94 := (ax_eq (n := 0) (by decide)).mp c94
              exact K95 _ _ _ ⟨F88, _, rfl, lv_sub hl [0, 1, 2, 4] rfl, hP, hS, hI, hfr, (fun k hk => (y_fiZ oY93 (s_sub (by decide) hk)).trans (hz0 k hk)), ⟨by omega, by omega⟩, ⟨by omega, by omega⟩, (by first | (rw [y_fiZ oY93 (k := 2) (by decide), ← ev72]; omega) | rw [y_fiZ oY93 (k := 2) (by decide), ← ev72])⟩
            · have c94 := mt (ax_eq (n := 0) (by decide)).mpr c94
              refine lv_iload_n hx hb dX7_ownHere_93 rfl (lv_at hl 2 rfl) ?_
              exact W.iret (v := w55) hx hb hr (fun t ht hW => ⟨⟨w55, F88, rfl, ⟨trivial, trivial, hI, hfr, fun k hk => (y_fiZ oY93 (s_sub (by decide) hk)).trans ((hz0 k hk).trans (y_fiZ oY0 (s_sub (by decide) hk)).symm), trivial⟩, by rw [ht]; exact hP, va_K.moved hW.alike hK⟩, hS.F ht⟩) hS.2.2 dX7_ownHere_94
    · intro g H locs hq
      obtain ⟨F98, ls, rfl, hl, hP, hS, hI, hfr, hz0, h95, h96, h97⟩ := hq
      obtain ⟨z99, q100, oY101, bz102, bq103⟩ := y_opY hI ha0
      have hz0 : ∀ k, k ∈ ([1, 3, 4, 5, 6, 7, 8, 11, 15, 16, 19, 25, 26, 27, 31, 32] : List Nat) → z99 k = z0 k := fun k hk => (y_fiZ oY101 (s_sub (by decide) hk)).symm.trans (hz0 k hk)
      obtain ⟨v104, ev104⟩ : ∃ y : Int32, y = z99 2 := ⟨_, rfl⟩
      have qv104 : 0 ≤ v104.toInt ∧ v104.toInt ≤ 1600 := by rw [ev104]; exact y_bY2 bz102
      replace h97 : (v104.toInt + w1.toInt ≤ 1600) := by have q9 := h97; rw [y_fiZ oY101 (k := 2) (by decide), ← ev104] at q9; exact q9
      obtain ⟨v105, ev105⟩ : ∃ y : Int32, w55 + 1 = y := ⟨_, rfl⟩
      refine lv_iinc (v := v105) (lv' := [(2, .int v105), (0, .ref a0), (1, .int w1), (4, .int w57)]) hx hb dX7_ownHere_95 hl (k := 2) rfl ev105 (by decide) rfl (fun ls hl => ?_)
      refine lv_iload hx hb dX7_ownHere_98 (lv_at hl 3 rfl) ?_
      refine lv_iconst (v := 1) hx hb dX7_ownHere_100 (by decide) ?_
      refine lv_iadd hx hb dX7_ownHere_101 ?_
      refine lv_topi (fun v106 ev106 => ?_)
      have qv106 : v106.toInt = w57.toInt + 1 := by rw [ev106]; exact th_add rfl (by decide) ⟨by omega, by omega⟩
      refine lv_istore_n (lv' := [(3, .int v106), (2, .int v105), (0, .ref a0), (1, .int w1), (4, .int w57)]) hx hb dX7_ownHere_102 rfl hl (by decide) rfl (fun ls hl => ?_)
      exact K103 _ _ _ ⟨F98, _, v105, v106, rfl, lv_sub hl [2, 3, 1, 0, 4] rfl, hP, hS, hI, hfr, (fun k hk => (y_fiZ oY101 (s_sub (by decide) hk)).trans (hz0 k hk)), trivial, ⟨by omega, by omega⟩, ⟨by omega, by omega⟩, ⟨by omega, by omega⟩, (by first | (rw [y_fiZ oY101 (k := 2) (by decide), ← ev104]; omega) | rw [y_fiZ oY101 (k := 2) (by decide), ← ev104])⟩
    · intro g H locs hq
      obtain ⟨F112, ls, w73, w74, rfl, hl, hP, hS, hI, hfr, hz0, h107, h108, h109, h110, h111⟩ := hq
      obtain ⟨z113, q114, oY115, bz116, bq117⟩ := y_opY hI ha0
      have hz0 : ∀ k, k ∈ ([1, 3, 4, 5, 6, 7, 8, 11, 15, 16, 19, 25, 26, 27, 31, 32] : List Nat) → z113 k = z0 k := fun k hk => (y_fiZ oY115 (s_sub (by decide) hk)).symm.trans (hz0 k hk)
      obtain ⟨v118, ev118⟩ : ∃ y : Int32, y = z113 2 := ⟨_, rfl⟩
      have qv118 : 0 ≤ v118.toInt ∧ v118.toInt ≤ 1600 := by rw [ev118]; exact y_bY2 bz116
      replace h111 : (v118.toInt + w1.toInt ≤ 1600) := by have q9 := h111; rw [y_fiZ oY115 (k := 2) (by decide), ← ev118] at q9; exact q9
      obtain ⟨v119, ev119⟩ : ∃ y : Int32, w57 + 1 = y := ⟨_, rfl⟩
      have qv119 : v119.toInt = w57.toInt + 1 := by rw [← ev119]; exact th_add rfl (by decide) ⟨by omega, by omega⟩
      refine lv_iinc (v := v119) (lv' := [(4, .int v119), (0, .ref a0), (1, .int w1), (2, .int w73), (3, .int w74)]) hx hb dX7_ownHere_103 hl (k := 4) rfl ev119 (by decide) rfl (fun ls hl => ?_)
      refine lv_goto (tgt := 54) hx hb dX7_ownHere_106 (by decide) ?_
      exact ih54 _ _ _ _ (by omega) ⟨F112, _, w73, w74, v119, rfl, lv_sub hl [1, 2, 3, 4, 0] rfl, hP, hS, hI, hfr, (fun k hk => (y_fiZ oY115 (s_sub (by decide) hk)).trans (hz0 k hk)), trivial, ⟨by omega, by omega⟩, ⟨by omega, by omega⟩, ⟨by omega, by omega⟩, (by first | (rw [y_fiZ oY115 (k := 2) (by decide), ← ev118]; omega) | rw [y_fiZ oY115 (k := 2) (by decide), ← ev118]), rfl⟩
