set_option maxHeartbeats 4000000 in
set_option maxRecDepth 100000 in
theorem y_X7_number (l : Launch) (dC : Nat → ClassId) (dI : Nat → Nat → Nat) (sz : Nat) {L : List Nat} {K : Nat → Nat} {cs : Nat → ClassId} (hLK : ∀ a {k : Nat}, K a = k → k ≠ 0 → a ∈ L) (A : Nat → Nat) (hA : y_A K A) (F : Nat → va_E) (a0 : Nat) (x1 : Int32) (x2 : Int32) (ha0 : K a0 = 9) (hI : y_I K cs A F) : Met l yX7_number (Cond.code yX7_number cX7_number 5 (some .int) :: T0) ({ frames := 1, cells := 0, slots := 0, locals := 25 }) (va_Pc [.ref a0, .int x1, .int x2] (s_W dC dI sz L F [(cs 0, .int), (cs 1, .byte), (cs 2, .long), (cs 3, .object RX5), (cs 4, .object RX4), (cs 5, .array .int), (cs 6, .char), (cs 7, .boolean)])) (va_Qi (fun (r : Int32) (G : Nat → va_E) => True ∧ True ∧ y_I K cs A G ∧ (∀ b, K b ∉ [9] → G b = F b) ∧ (∀ k, k ∈ ([1, 3, 7, 8, 11, 15, 16, 19, 25, 26, 27, 31, 32] : List Nat) → y_fi G a0 k = y_fi F a0 k) ∧ (((y_fi F a0 5).toInt = 0 ∨ ¬ (y_fi G a0 5).toInt = 0) ∧ ((y_fi G a0 5).toInt = 0 → x1.toInt ≤ r.toInt ∧ r.toInt ≤ x2.toInt))) (fun (G : Nat → va_E) (t : State) => va_P (dC, dI) vwCl (va_pl L G) t.heap ∧ va_K (dC, dI) vwCl [(cs 0, .int), (cs 1, .byte), (cs 2, .long), (cs 3, .object RX5), (cs 4, .object RX4), (cs 5, .array .int), (cs 6, .char), (cs 7, .boolean)] t) (fun q => q ∈ L)) 0 0 (fun q => q ∈ L) := by
  refine Met.ofW (cc := cX7_number) (maxL := 5) (ret := (some .int)) (by decide) rfl ?_
  intro p e s m args below meth c s₁ B hml hv
  obtain ⟨rfl, hsz, hP, hK, hD, hN⟩ := hv
  have hx := B.exec
  have hb := B.bytes
  have hr := B.returns
  have hts : ∀ w ∈ T0, w.before _ s = true := fun w h => atoms_spec (ws := Cond.code yX7_number cX7_number 5 (some .int) :: T0) B.pre w (List.mem_cons_of_mem _ h)
  have hown : s.vm.findClass RX7 = some m.cls := findClass_of_methodNamed B.named
  have hlocks := B.notSynchronized
  have hS : va_S (fun q => q ∈ L) s.heap s.heap [] := va_S.rf
  have hfr : ∀ b, K b ∉ [9] → F b = F b := fun _ _ => rfl
  have hl := lv_entry ([.ref a0, .int x1, .int x2]) (n := 5) (Nat.le_of_ble_eq_true rfl)
  rw [lg_entry_eq]
  generalize (lg_sl ([.ref a0, .int x1, .int x2]) ++ List.replicate (5 - (lg_sl ([.ref a0, .int x1, .int x2])).length) Slot.unset).toArray = ls at hl ⊢
  have hl : lv_has ls 5 [(0, .ref a0), (1, .int x1), (2, .int x2)] := hl
  refine s_gen hP hS (fun H locs hP hS => ?_)
  obtain ⟨z0, q0, oY0, bz0⟩ := y_opY hI ha0
  have hz0 : ∀ k, k ∈ ([1, 3, 7, 8, 11, 15, 16, 19, 25, 26, 27, 31, 32] : List Nat) → z0 k = z0 k := fun _ _ => rfl
  obtain ⟨v1, ev1⟩ : ∃ y : Int32, y = z0 5 := ⟨_, rfl⟩
  have eF_5 := ev1
  have e0_v1 := ev1
  refine th_join (fun g H locs => ∃ (G : Nat → va_E) (ls : Array Slot) (w2 : Int32) (w3 : Int32), g = F0 m 129 ls [] ∧ lv_has ls 5 [(0, .ref a0), (1, .int x1), (2, .int x2), (3, .int w2), (4, .int w3)] ∧ va_P (dC, dI) vwCl (va_pl L G) H ∧ va_S (fun q => q ∈ L) s.heap H locs ∧ y_I K cs A G ∧ (∀ b, K b ∉ [9] → G b = F b) ∧ (∀ k, k ∈ ([1, 3, 7, 8, 11, 15, 16, 19, 25, 26, 27, 31, 32] : List Nat) → y_fi G a0 k = z0 k) ∧ (0 ≤ w2.toInt ∧ w2.toInt ≤ 1600) ∧ True ∧ ((y_fi G a0 5).toInt = v1.toInt ∧ v1.toInt = 0)) (fun K129 => ?_) ?_
  refine th_join (fun g H locs => ∃ (G : Nat → va_E) (ls : Array Slot), g = F0 m 30 ls [] ∧ lv_has ls 5 [(0, .ref a0)] ∧ va_P (dC, dI) vwCl (va_pl L G) H ∧ va_S (fun q => q ∈ L) s.heap H locs ∧ y_I K cs A G ∧ (∀ b, K b ∉ [9] → G b = F b) ∧ (∀ k, k ∈ ([1, 3, 7, 8, 11, 15, 16, 19, 25, 26, 27, 31, 32] : List Nat) → y_fi G a0 k = z0 k) ∧ ((y_fi G a0 5).toInt = v1.toInt ∧ v1.toInt = 0)) (fun K30 => ?_) ?_
  · refine lv_aload_n hx hb dX7_number_0 rfl (lv_at hl 0 rfl) ?_
    refine th_get (D := (dC, dI)) (ci := 7) (v := .int (z0 5)) (C := RX7) (T := TX7) (N := 34) hx hb hts inX7 hown hK hP (hLK _ ha0 (by decide)) oY0 rfl 5 (by decide) (hts _ T_274) (fun _ h9 => h9) rfl dX7_number_1 ?_
    refine ax_eqi (y := v1) ev1.symm ?_
    refine lv_if_eq (tgt := 9) hx hb dX7_number_4 (by decide) (fun c4 => ?_) (fun c4 => ?_)
    · have c4 := (ax_eq (n := 0) (by decide)).mp c4
      refine lv_aload_n hx hb dX7_number_9 rfl (lv_at hl 0 rfl) ?_
      refine va_calli (va_runV (As := []) (rest := []) ⟨hx, hb, hml, hown, hts⟩ (y_X7_look l dC dI H.size hLK A hA F a0 ha0 hI) (cwV 0 hts (ax_gV T_275 T_276 T_277 T_265 T_22) rfl rfl rfl (by decide +kernel) ⟨Nat.le_of_ble_eq_true rfl, Nat.le_of_ble_eq_true rfl⟩) ⟨fun a U g mk q => ⟨q.1, s_pc rfl rfl q.2⟩, s_recv hK hP (hLK _ ha0 (by decide)) (ci := 7) rfl oY0, fun U hU hW => ⟨rfl, s_pw hU hW hP hK hD hN⟩⟩ rfl rfl hl.1 rfl (lv_room (Nat.le_of_ble_eq_true rfl)) dX7_number_10 ⟨Nat.zero_le _, Nat.zero_le _⟩) hS (fun q _ h => h) (fun q h => h) (fun r6 F7 t H1 locs ht hvm hw hB hz1 hk1 hS => ?_)
      obtain ⟨hP, hK1⟩ := hB
      rw [ht] at hP
      generalize H1 = H at hP hS ⊢
      obtain ⟨h8, h10, hI, hfr1, hzf, h9⟩ := hw
      obtain ⟨z11, q12, oY13, bz14⟩ := y_opY hI ha0
      have hzf : ∀ k, k ∈ ([1, 3, 4, 5, 6, 7, 8, 11, 15, 16, 19, 25, 26, 27, 31, 32] : List Nat) → z11 k = z0 k := fun k hk => by have q9 := hzf k hk; rw [y_fiZ oY13 (s_sub (by decide) hk), y_fiZ oY0 (s_sub (by decide) hk)] at q9; exact q9
      have hz0 : ∀ k, k ∈ ([1, 3, 7, 8, 11, 15, 16, 19, 25, 26, 27, 31, 32] : List Nat) → z11 k = z0 k := fun k hk => (hzf k (s_sub (by decide) hk)).trans (hz0 k hk)
      have ev1 : v1 = z11 5 := ev1.trans (hzf 5 (by decide)).symm
      have hfr : ∀ b, K b ∉ [9] → F7 b = F b := fun b hb9 => (hfr1 b (fun q => hb9 (s_sub (by decide) q))).trans (hfr b hb9)
      obtain ⟨v15, ev15⟩ : ∃ y : Int32, y = z11 2 := ⟨_, rfl⟩
      have qv15 : 0 ≤ v15.toInt ∧ v15.toInt ≤ 1600 := by rw [ev15]; exact y_bY2 bz14
      obtain ⟨v16, ev16⟩ : ∃ y : Int32, y = z11 3 := ⟨_, rfl⟩
      have qv16 : 0 ≤ v16.toInt ∧ v16.toInt ≤ 1600 := by rw [ev16]; exact y_bY3 bz14
      have h9 : (r6.toInt = -1 ∨ v15.toInt < v16.toInt) := by have q9 := h9; rw [y_fiZ oY13 (k := 2) (by decide), ← ev15, y_fiZ oY13 (k := 3) (by decide), ← ev16] at q9; exact q9
      refine va_calli (va_runS (As := [.int r6]) (rest := []) ⟨hx, hb, hml, hown, hts⟩ (y_X7_isDigit l dC dI H.size F7 r6) (cwS 1 hts (ax_gS T_1279 T_1281 T_265 T_1280) rfl rfl rfl (by decide +kernel) ⟨Nat.le_of_ble_eq_true rfl, Nat.le_of_ble_eq_true rfl⟩) ⟨fun a U g mk q => ⟨q.1, s_pc rfl rfl q.2⟩, fun U hU hW => ⟨rfl, s_pw hU hW hP hK hD hN⟩⟩ rfl rfl hl.1 rfl (lv_room (Nat.le_of_ble_eq_true rfl)) dX7_number_13 ⟨Nat.zero_le _, Nat.zero_le _⟩) hS (fun q _ h => h) (fun q h => h) (fun r18 F19 t H1 locs ht hvm hw hB hz1 hk1 hS => ?_)
      obtain ⟨hP, hK1⟩ := hB
      rw [ht] at hP
      generalize H1 = H at hP hS ⊢
      obtain ⟨h20, h22, hG9, h21⟩ := hw
      rw [hG9] at hP
      refine lv_if_eq (tgt := 30) hx hb dX7_number_16 (by decide) (fun c23 => ?_) (fun c23 => ?_)
      · have c23 := (ax_eq (n := 0) (by decide)).mp c23
        exact K30 _ _ _ ⟨F7, _, rfl, lv_sub hl [0] rfl, hP, hS, hI, hfr, (fun k hk => (y_fiZ oY13 (s_sub (by decide) hk)).trans (hz0 k hk)), (by rw [y_fiZ oY13 (k := 5) (by decide), ← ev1]; omega)⟩
      · have c23 := mt (ax_eq (n := 0) (by decide)).mpr c23
        have h24 := h22 (fun q => c23 (by rw [q]; decide))
        refine lv_aload_n hx hb dX7_number_19 rfl (lv_at hl 0 rfl) ?_
        refine th_get (D := (dC, dI)) (ci := 7) (v := .int (z11 2)) (C := RX7) (T := TX7) (N := 34) hx hb hts inX7 hown hK hP (hLK _ ha0 (by decide)) oY13 rfl 2 (by decide) (hts _ T_272) (fun _ h9 => h9) rfl dX7_number_20 ?_
        refine ax_eqi (y := v15) ev15.symm ?_
        refine lv_aload_n hx hb dX7_number_23 rfl (lv_at hl 0 rfl) ?_
        refine th_get (D := (dC, dI)) (ci := 7) (v := .int (z11 4)) (C := RX7) (T := TX7) (N := 34) hx hb hts inX7 hown hK hP (hLK _ ha0 (by decide)) oY13 rfl 4 (by decide) (hts _ T_296) (fun _ h9 => h9) rfl dX7_number_24 ?_
        refine lv_topi (fun v25 ev25 => ?_)
        refine lv_icmp_ne (tgt := 41) hx hb dX7_number_27 (by decide) (fun c26 => ?_) (fun c26 => ?_)
        · have c26 := mt Int32.toInt_inj.symm.mpr c26
          refine lv_aload_n hx hb dX7_number_41 rfl (lv_at hl 0 rfl) ?_
          refine th_get (D := (dC, dI)) (ci := 7) (v := .int (z11 2)) (C := RX7) (T := TX7) (N := 34) hx hb hts inX7 hown hK hP (hLK _ ha0 (by decide)) oY13 rfl 2 (by decide) (hts _ T_272) (fun _ h9 => h9) rfl dX7_number_42 ?_
          refine ax_eqi (y := v15) ev15.symm ?_
          refine lv_istore_n (lv' := [(3, .int v15), (0, .ref a0), (1, .int x1), (2, .int x2)]) hx hb dX7_number_45 rfl hl (by decide) rfl (fun ls hl => ?_)
          refine lv_iconst (v := 0) hx hb dX7_number_46 (by decide) ?_
          refine lv_istore (lv' := [(4, .int 0), (3, .int v15), (0, .ref a0), (1, .int x1), (2, .int x2)]) hx hb dX7_number_47 hl (by decide) rfl (fun ls hl => ?_)
          have h28 : (0 : Int32).toInt = 0 := by decide
          refine th_loop (fun n g H locs => ∃ (G : Nat → va_E) (ls : Array Slot) (w27 : Int32), g = F0 m 49 ls [] ∧ lv_has ls 5 [(0, .ref a0), (1, .int x1), (2, .int x2), (3, .int v15), (4, .int w27)] ∧ va_P (dC, dI) vwCl (va_pl L G) H ∧ va_S (fun q => q ∈ L) s.heap H locs ∧ y_I K cs A G ∧ (∀ b, K b ∉ [9] → G b = F b) ∧ (∀ k, k ∈ ([1, 3, 7, 8, 11, 15, 16, 19, 25, 26, 27, 31, 32] : List Nat) → y_fi G a0 k = z0 k) ∧ True ∧ (0 ≤ v15.toInt ∧ v15.toInt ≤ 1600) ∧ ((y_fi G a0 5).toInt = v1.toInt ∧ v1.toInt = 0) ∧ n = (1601 - (y_fi G a0 2).toInt).toNat) _ ⟨F7, _, 0, rfl, lv_sub hl [2, 3, 4, 1, 0] rfl, hP, hS, hI, hfr, (fun k hk => (y_fiZ oY13 (s_sub (by decide) hk)).trans (hz0 k hk)), trivial, ⟨by omega, by omega⟩, (by rw [y_fiZ oY13 (k := 5) (by decide), ← ev1]; omega), rfl⟩ (fun n ih49 g H locs hq => ?_)
          obtain ⟨F32, ls, w27, rfl, hl, hP, hS, hI, hfr, hz0, h29, h30, h31, hn⟩ := hq
          obtain ⟨z33, q34, oY35, bz36⟩ := y_opY hI ha0
          have hz0 : ∀ k, k ∈ ([1, 3, 7, 8, 11, 15, 16, 19, 25, 26, 27, 31, 32] : List Nat) → z33 k = z0 k := fun k hk => (y_fiZ oY35 (s_sub (by decide) hk)).symm.trans (hz0 k hk)
          obtain ⟨v37, ev37⟩ : ∃ y : Int32, y = z33 5 := ⟨_, rfl⟩
          have h31 : (v37.toInt = v1.toInt ∧ v1.toInt = 0) := by have q9 := h31; rw [y_fiZ oY35 (k := 5) (by decide), ← ev37] at q9; exact q9
          obtain ⟨v38, ev38⟩ : ∃ y : Int32, y = z33 2 := ⟨_, rfl⟩
          have qv38 : 0 ≤ v38.toInt ∧ v38.toInt ≤ 1600 := by rw [ev38]; exact y_bY2 bz36
          have hn : n = (1601 - v38.toInt).toNat := by have q9 := hn; rw [y_fiZ oY35 (k := 2) (by decide), ← ev38] at q9; exact q9
          have hn_38 := hn
          have h39 : (z33 2).toInt = v38.toInt := by rw [ev38]
          refine lv_aload_n hx hb dX7_number_49 rfl (lv_at hl 0 rfl) ?_
          refine th_get (D := (dC, dI)) (ci := 7) (v := .int (z33 2)) (C := RX7) (T := TX7) (N := 34) hx hb hts inX7 hown hK hP (hLK _ ha0 (by decide)) oY35 rfl 2 (by decide) (hts _ T_272) (fun _ h9 => h9) rfl dX7_number_50 ?_
          refine ax_eqi (y := v38) ev38.symm ?_
          refine lv_aload_n hx hb dX7_number_53 rfl (lv_at hl 0 rfl) ?_
          refine th_get (D := (dC, dI)) (ci := 7) (v := .int (z33 3)) (C := RX7) (T := TX7) (N := 34) hx hb hts inX7 hown hK hP (hLK _ ha0 (by decide)) oY35 rfl 3 (by decide) (hts _ T_273) (fun _ h9 => h9) rfl dX7_number_54 ?_
          refine lv_topi (fun v40 ev40 => ?_)
          have qv40 : 0 ≤ v40.toInt ∧ v40.toInt ≤ 1600 := by rw [ev40]; exact y_bY3 bz36
          refine lv_icmp_ge (tgt := 129) hx hb dX7_number_57 (by decide) (fun c41 => ?_) (fun c41 => ?_)
          · have c41 := Int32.le_iff_toInt_le.mp c41
            exact K129 _ _ _ ⟨F32, _, v15, w27, rfl, lv_sub hl [0, 1, 2, 3, 4] rfl, hP, hS, hI, hfr, (fun k hk => (y_fiZ oY35 (s_sub (by decide) hk)).trans (hz0 k hk)), ⟨by omega, by omega⟩, trivial, (by rw [y_fiZ oY35 (k := 5) (by decide), ← ev37]; omega)⟩
          · have c41 := mt Int32.le_iff_toInt_le.mpr c41
            refine lv_aload_n hx hb dX7_number_60 rfl (lv_at hl 0 rfl) ?_
            refine th_get (D := (dC, dI)) (ci := 7) (v := .ref (A 0)) (C := RX7) (T := TX7) (N := 34) hx hb hts inX7 hown hK hP (hLK _ ha0 (by decide)) oY35 rfl 0 (by decide) (hts _ T_240) (fun _ h9 => h9) rfl dX7_number_61 ?_
            refine lv_aload_n hx hb dX7_number_64 rfl (lv_at hl 0 rfl) ?_
            refine th_get (D := (dC, dI)) (ci := 7) (v := .int (z33 2)) (C := RX7) (T := TX7) (N := 34) hx hb hts inX7 hown hK hP (hLK _ ha0 (by decide)) oY35 rfl 2 (by decide) (hts _ T_272) (fun _ h9 => h9) rfl dX7_number_65 ?_
            refine ax_eqi (y := v38) ev38.symm ?_
            obtain ⟨f42, o43, b44⟩ := y_op0 hI
            refine th_iald hx hb hK hP (hLK _ (y_k0 hA) (by decide)) 0 o43 rfl (th_in ⟨by omega, by omega⟩) dX7_number_68 ?_
            refine lv_topi (fun v45 ev45 => ?_)
            refine va_calli (va_runS (As := [.int v45]) (rest := []) ⟨hx, hb, hml, hown, hts⟩ (y_X7_isDigit l dC dI H.size F32 v45) (cwS 1 hts (ax_gS T_1279 T_1281 T_265 T_1280) rfl rfl rfl (by decide +kernel) ⟨Nat.le_of_ble_eq_true rfl, Nat.le_of_ble_eq_true rfl⟩) ⟨fun a U g mk q => ⟨q.1, s_pc rfl rfl q.2⟩, fun U hU hW => ⟨rfl, s_pw hU hW hP hK hD hN⟩⟩ rfl rfl hl.1 rfl (lv_room (Nat.le_of_ble_eq_true rfl)) dX7_number_69 ⟨Nat.zero_le _, Nat.zero_le _⟩) hS (fun q _ h => h) (fun q h => h) (fun r47 F48 t H1 locs ht hvm hw hB hz1 hk1 hS => ?_)
            obtain ⟨hP, hK1⟩ := hB
            rw [ht] at hP
            generalize H1 = H at hP hS ⊢
            obtain ⟨h49, h51, hG9, h50⟩ := hw
            rw [hG9] at hP
            refine lv_if_eq (tgt := 129) hx hb dX7_number_72 (by decide) (fun c52 => ?_) (fun c52 => ?_)
            · have c52 := (ax_eq (n := 0) (by decide)).mp c52
              exact K129 _ _ _ ⟨F32, _, v15, w27, rfl, lv_sub hl [0, 1, 2, 3, 4] rfl, hP, hS, hI, hfr, (fun k hk => (y_fiZ oY35 (s_sub (by decide) hk)).trans (hz0 k hk)), ⟨by omega, by omega⟩, trivial, (by rw [y_fiZ oY35 (k := 5) (by decide), ← ev37]; omega)⟩
            · have c52 := mt (ax_eq (n := 0) (by decide)).mpr c52
              have h53 := h51 (fun q => c52 (by rw [q]; decide))
              refine lv_aload_n hx hb dX7_number_75 rfl (lv_at hl 0 rfl) ?_
              refine th_get (D := (dC, dI)) (ci := 7) (v := .int (z33 2)) (C := RX7) (T := TX7) (N := 34) hx hb hts inX7 hown hK hP (hLK _ ha0 (by decide)) oY35 rfl 2 (by decide) (hts _ T_272) (fun _ h9 => h9) rfl dX7_number_76 ?_
              refine ax_eqi (y := v38) ev38.symm ?_
              refine lv_iload_n hx hb dX7_number_79 rfl (lv_at hl 3 rfl) ?_
              refine lv_isub hx hb dX7_number_80 ?_
              refine lv_topi (fun v54 ev54 => ?_)
              have qv54 : v54.toInt = v38.toInt - v15.toInt := by rw [ev54]; exact th_sub rfl rfl ⟨by omega, by omega⟩
              refine lv_iconst (v := 3) hx hb dX7_number_81 (by decide) ?_
              refine lv_icmp_ne (tgt := 96) hx hb dX7_number_82 (by decide) (fun c55 => ?_) (fun c55 => ?_)
              · have c55 := mt (ax_eq (n := 3) (by decide)).mpr c55
                refine lv_bipush (v := 10) hx hb dX7_number_96 (by decide) ?_
                refine lv_iload hx hb dX7_number_98 (lv_at hl 4 rfl) ?_
                refine lv_imul hx hb dX7_number_100 ?_
                refine lv_topi (fun v56 ev56 => ?_)
                refine lv_aload_n hx hb dX7_number_101 rfl (lv_at hl 0 rfl) ?_
                refine th_get (D := (dC, dI)) (ci := 7) (v := .ref (A 0)) (C := RX7) (T := TX7) (N := 34) hx hb hts inX7 hown hK hP (hLK _ ha0 (by decide)) oY35 rfl 0 (by decide) (hts _ T_240) (fun _ h9 => h9) rfl dX7_number_102 ?_
                refine lv_aload_n hx hb dX7_number_105 rfl (lv_at hl 0 rfl) ?_
                refine th_get (D := (dC, dI)) (ci := 7) (v := .int (z33 2)) (C := RX7) (T := TX7) (N := 34) hx hb hts inX7 hown hK hP (hLK _ ha0 (by decide)) oY35 rfl 2 (by decide) (hts _ T_272) (fun _ h9 => h9) rfl dX7_number_106 ?_
                refine ax_eqi (y := v38) ev38.symm ?_
                refine th_iald hx hb hK hP (hLK _ (y_k0 hA) (by decide)) 0 o43 rfl (th_in ⟨by omega, by omega⟩) dX7_number_109 ?_
                refine lv_topi (fun v57 ev57 => ?_)
                refine lv_iadd hx hb dX7_number_110 ?_
                refine lv_topi (fun v58 ev58 => ?_)
                refine lv_bipush (v := 48) hx hb dX7_number_111 (by decide) ?_
                refine lv_isub hx hb dX7_number_113 ?_
                refine lv_topi (fun v59 ev59 => ?_)
                refine lv_istore (lv' := [(4, .int v59), (0, .ref a0), (1, .int x1), (2, .int x2), (3, .int v15)]) hx hb dX7_number_114 hl (by decide) rfl (fun ls hl => ?_)
                refine lv_aload_n hx hb dX7_number_116 rfl (lv_at hl 1 rfl) ?_
                refine lv_dup hx hb dX7_number_117 rfl ?_
                refine th_get (D := (dC, dI)) (ci := 7) (v := .int (z33 2)) (C := RX7) (T := TX7) (N := 34) hx hb hts inX7 hown hK hP (hLK _ ha0 (by decide)) oY35 rfl 2 (by decide) (hts _ T_272) (fun _ h9 => h9) rfl dX7_number_118 ?_
                refine ax_eqi (y := v38) ev38.symm ?_
                refine lv_iconst (v := 1) hx hb dX7_number_121 (by decide) ?_
                refine lv_iadd hx hb dX7_number_122 ?_
                refine lv_topi (fun v60 ev60 => ?_)
                have qv60 : v60.toInt = v38.toInt + 1 := by rw [ev60]; exact th_add rfl (by decide) ⟨by omega, by omega⟩
                refine th_put (D := (dC, dI)) (ci := 7) (v := .int v60) (ty := .int) (C := RX7) (T := TX7) (N := 34) hx hb hts inX7 tyX7 tyX7_ok nmX7 hown hK hP hD hS (hLK _ ha0 (by decide)) oY35 rfl 2 (by decide) (hts _ T_272) (fun _ h9 => h9) rfl (by decide +kernel) rfl rfl (Nat.le_of_ble_eq_true rfl) dX7_number_123 (fun H locs hP hS => ?_)
                rw [y_fs2] at hP
                obtain ⟨z61, hz62⟩ : ∃ g : Nat → Int32, g = upd z33 2 v60 := ⟨_, rfl⟩
                rw [← hz62] at hP
                have bz63 : y_bY z61 := by rw [hz62]; exact y_bp2 bz36 ⟨by omega, by omega⟩
                have hP : va_P (dC, dI) vwCl (va_pl L (va_up F32 a0 (.inr (7, y_fl A z61 q34)))) H := hP
                obtain ⟨F64, hF65⟩ : ∃ G : Nat → va_E, G = va_up F32 a0 (.inr (7, y_fl A z61 q34)) := ⟨_, rfl⟩
                rw [← hF65] at hP
                have hI : y_I K cs A F64 := by rw [hF65]; exact y_clY hA hI ha0 bz63
                have hfr : ∀ b, K b ∉ [9] → F64 b = F b := by rw [hF65]; exact s_fr hfr ha0 (by decide)
                have o66 : F64 (A 0) = .inl (cs 0, 1600, .inl f42) := by rw [hF65]; exact th_ne (th_kd (y_k0 hA) ha0 (by decide)) o43
                have oY67 : F64 a0 = .inr (7, y_fl A z61 q34) := by rw [hF65]; exact th_up
                have hz0 : ∀ k, k ∈ ([1, 3, 7, 8, 11, 15, 16, 19, 25, 26, 27, 31, 32] : List Nat) → z61 k = z0 k := fun k hk => by rw [hz62]; exact (y_un (fun q => absurd hk (by rw [q]; decide))).trans (hz0 k hk)
                have ev37 : v37 = z61 5 := by rw [hz62]; exact ev37.trans (y_un (by decide)).symm
                have ev40 : v40 = z61 3 := by rw [hz62]; exact ev40.trans (y_un (by decide)).symm
                obtain ⟨v68, ev68⟩ : ∃ y : Int32, y = z61 2 := ⟨_, rfl⟩
                have qv68 : v68.toInt = v60.toInt := by rw [ev68, hz62, y_ue]
                refine lv_goto (tgt := 49) hx hb dX7_number_126 (by decide) ?_
                have h69 : (y_fi F64 a0 2).toInt = v68.toInt := by rw [y_fiZ oY67 (k := 2) (by decide), ← ev68]
                exact ih49 _ _ _ _ (by omega) ⟨F64, _, v59, rfl, lv_sub hl [1, 2, 3, 4, 0] rfl, hP, hS, hI, hfr, (fun k hk => (y_fiZ oY67 (s_sub (by decide) hk)).trans (hz0 k hk)), trivial, ⟨by omega, by omega⟩, (by rw [y_fiZ oY67 (k := 5) (by decide), ← ev37]; omega), rfl⟩
              · have c55 := (ax_eq (n := 3) (by decide)).mp c55
                refine lv_aload_n hx hb dX7_number_85 rfl (lv_at hl 0 rfl) ?_
                refine lv_iconst (v := 1) hx hb dX7_number_86 (by decide) ?_
                refine lv_aload_n hx hb dX7_number_87 rfl (lv_at hl 0 rfl) ?_
                refine th_get (D := (dC, dI)) (ci := 7) (v := .int (z33 2)) (C := RX7) (T := TX7) (N := 34) hx hb hts inX7 hown hK hP (hLK _ ha0 (by decide)) oY35 rfl 2 (by decide) (hts _ T_272) (fun _ h9 => h9) rfl dX7_number_88 ?_
                refine ax_eqi (y := v38) ev38.symm ?_
                refine va_callv (va_runV (As := [.int 1, .int v38]) (rest := []) ⟨hx, hb, hml, hown, hts⟩ (y_X7_fail l dC dI H.size hLK A hA F32 a0 1 v38 ha0 (by decide) hI) (cwV 2 hts (ax_gV T_290 T_291 T_292 T_265 T_27) rfl rfl rfl (by decide +kernel) ⟨Nat.le_of_ble_eq_true rfl, Nat.le_of_ble_eq_true rfl⟩) ⟨fun a U g mk q => ⟨q.1, s_pc rfl rfl q.2⟩, s_recv hK hP (hLK _ ha0 (by decide)) (ci := 7) rfl oY35, fun U hU hW => ⟨rfl, s_pw hU hW hP hK hD hN⟩⟩ rfl rfl hl.1 rfl (lv_room (Nat.le_of_ble_eq_true rfl)) dX7_number_91 ⟨Nat.zero_le _, Nat.zero_le _⟩) hS (fun q _ h => h) (fun q h => h) (fun F71 t H1 locs ht hvm hw hB hz1 hk1 hS => ?_)
                obtain ⟨hP, hK1⟩ := hB
                rw [ht] at hP
                generalize H1 = H at hP hS ⊢
                obtain ⟨h72, h74, hI, hfr1, hzf, h73⟩ := hw
                have o75 : F71 (A 0) = .inl (cs 0, 1600, .inl f42) := (hfr1 _ (by rw [(y_k0 hA)]; decide)).trans o43
                obtain ⟨z76, q77, oY78, bz79⟩ := y_opY hI ha0
                have hzf : ∀ k, k ∈ ([1, 2, 3, 4, 7, 8, 11, 15, 16, 19, 25, 26, 27, 31, 32] : List Nat) → z76 k = z33 k := fun k hk => by have q9 := hzf k hk; rw [y_fiZ oY78 (s_sub (by decide) hk), y_fiZ oY35 (s_sub (by decide) hk)] at q9; exact q9
                have hz0 : ∀ k, k ∈ ([1, 3, 7, 8, 11, 15, 16, 19, 25, 26, 27, 31, 32] : List Nat) → z76 k = z0 k := fun k hk => (hzf k (s_sub (by decide) hk)).trans (hz0 k hk)
                have ev38 : v38 = z76 2 := ev38.trans (hzf 2 (by decide)).symm
                have ev40 : v40 = z76 3 := ev40.trans (hzf 3 (by decide)).symm
                have hfr : ∀ b, K b ∉ [9] → F71 b = F b := fun b hb9 => (hfr1 b (fun q => hb9 (s_sub (by decide) q))).trans (hfr b hb9)
                obtain ⟨v80, ev80⟩ : ∃ y : Int32, y = z76 5 := ⟨_, rfl⟩
                have h73 : (¬ v80.toInt = 0) := by have q9 := h73; rw [y_fiZ oY78 (k := 5) (by decide), ← ev80] at q9; exact q9
                refine lv_iconst (v := 0) hx hb dX7_number_94 (by decide) ?_
                have h81 : (0 : Int32).toInt = 0 := by decide
                exact W.iret (v := 0) hx hb hr (fun t ht hW => ⟨⟨0, F71, rfl, ⟨trivial, trivial, hI, hfr, fun k hk => (y_fiZ oY78 (s_sub (by decide) hk)).trans ((hz0 k hk).trans (y_fiZ oY0 (s_sub (by decide) hk)).symm), (by rw [y_fiZ oY0 (k := 5) (by decide), ← eF_5, y_fiZ oY78 (k := 5) (by decide), ← ev80]; omega)⟩, by rw [ht]; exact hP, va_K.moved hW.alike hK⟩, hS.F ht⟩) hS.2.2 dX7_number_95
        · have c26 := Int32.toInt_inj.symm.mp c26
          exact K30 _ _ _ ⟨F7, _, rfl, lv_sub hl [0] rfl, hP, hS, hI, hfr, (fun k hk => (y_fiZ oY13 (s_sub (by decide) hk)).trans (hz0 k hk)), (by rw [y_fiZ oY13 (k := 5) (by decide), ← ev1]; omega)⟩
    · have c4 := mt (ax_eq (n := 0) (by decide)).mpr c4
      refine lv_iconst (v := 0) hx hb dX7_number_7 (by decide) ?_
      have h82 : (0 : Int32).toInt = 0 := by decide
      exact W.iret (v := 0) hx hb hr (fun t ht hW => ⟨⟨0, F, rfl, ⟨trivial, trivial, hI, hfr, fun k hk => (y_fiZ oY0 (s_sub (by decide) hk)).trans ((hz0 k hk).trans (y_fiZ oY0 (s_sub (by decide) hk)).symm), (by rw [y_fiZ oY0 (k := 5) (by decide), ← eF_5]; omega)⟩, by rw [ht]; exact hP, va_K.moved hW.alike hK⟩, hS.F ht⟩) hS.2.2 dX7_number_8
  · intro g H locs hq
    obtain ⟨F84, ls, rfl, hl, hP, hS, hI, hfr, hz0, h83⟩ := hq
    obtain ⟨z85, q86, oY87, bz88⟩ := y_opY hI ha0
    have hz0 : ∀ k, k ∈ ([1, 3, 7, 8, 11, 15, 16, 19, 25, 26, 27, 31, 32] : List Nat) → z85 k = z0 k := fun k hk => (y_fiZ oY87 (s_sub (by decide) hk)).symm.trans (hz0 k hk)
    obtain ⟨v89, ev89⟩ : ∃ y : Int32, y = z85 5 := ⟨_, rfl⟩
    have h83 : (v89.toInt = v1.toInt ∧ v1.toInt = 0) := by have q9 := h83; rw [y_fiZ oY87 (k := 5) (by decide), ← ev89] at q9; exact q9
    refine lv_aload_n hx hb dX7_number_30 rfl (lv_at hl 0 rfl) ?_
    refine lv_iconst (v := 1) hx hb dX7_number_31 (by decide) ?_
    refine lv_aload_n hx hb dX7_number_32 rfl (lv_at hl 0 rfl) ?_
    refine th_get (D := (dC, dI)) (ci := 7) (v := .int (z85 2)) (C := RX7) (T := TX7) (N := 34) hx hb hts inX7 hown hK hP (hLK _ ha0 (by decide)) oY87 rfl 2 (by decide) (hts _ T_272) (fun _ h9 => h9) rfl dX7_number_33 ?_
    refine lv_topi (fun v90 ev90 => ?_)
    have qv90 : 0 ≤ v90.toInt ∧ v90.toInt ≤ 1600 := by rw [ev90]; exact y_bY2 bz88
    refine va_callv (va_runV (As := [.int 1, .int v90]) (rest := []) ⟨hx, hb, hml, hown, hts⟩ (y_X7_fail l dC dI H.size hLK A hA F84 a0 1 v90 ha0 (by decide) hI) (cwV 2 hts (ax_gV T_290 T_291 T_292 T_265 T_27) rfl rfl rfl (by decide +kernel) ⟨Nat.le_of_ble_eq_true rfl, Nat.le_of_ble_eq_true rfl⟩) ⟨fun a U g mk q => ⟨q.1, s_pc rfl rfl q.2⟩, s_recv hK hP (hLK _ ha0 (by decide)) (ci := 7) rfl oY87, fun U hU hW => ⟨rfl, s_pw hU hW hP hK hD hN⟩⟩ rfl rfl hl.1 rfl (lv_room (Nat.le_of_ble_eq_true rfl)) dX7_number_36 ⟨Nat.zero_le _, Nat.zero_le _⟩) hS (fun q _ h => h) (fun q h => h) (fun F92 t H1 locs ht hvm hw hB hz1 hk1 hS => ?_)
    obtain ⟨hP, hK1⟩ := hB
    rw [ht] at hP
    generalize H1 = H at hP hS ⊢
    obtain ⟨h93, h95, hI, hfr1, hzf, h94⟩ := hw
    obtain ⟨z96, q97, oY98, bz99⟩ := y_opY hI ha0
    have hzf : ∀ k, k ∈ ([1, 2, 3, 4, 7, 8, 11, 15, 16, 19, 25, 26, 27, 31, 32] : List Nat) → z96 k = z85 k := fun k hk => by have q9 := hzf k hk; rw [y_fiZ oY98 (s_sub (by decide) hk), y_fiZ oY87 (s_sub (by decide) hk)] at q9; exact q9
    have hz0 : ∀ k, k ∈ ([1, 3, 7, 8, 11, 15, 16, 19, 25, 26, 27, 31, 32] : List Nat) → z96 k = z0 k := fun k hk => (hzf k (s_sub (by decide) hk)).trans (hz0 k hk)
    have ev90 : v90 = z96 2 := ev90.trans (hzf 2 (by decide)).symm
    have hfr : ∀ b, K b ∉ [9] → F92 b = F b := fun b hb9 => (hfr1 b (fun q => hb9 (s_sub (by decide) q))).trans (hfr b hb9)
    obtain ⟨v100, ev100⟩ : ∃ y : Int32, y = z96 5 := ⟨_, rfl⟩
    have h94 : (¬ v100.toInt = 0) := by have q9 := h94; rw [y_fiZ oY98 (k := 5) (by decide), ← ev100] at q9; exact q9
    refine lv_iconst (v := 0) hx hb dX7_number_39 (by decide) ?_
    have h101 : (0 : Int32).toInt = 0 := by decide
    exact W.iret (v := 0) hx hb hr (fun t ht hW => ⟨⟨0, F92, rfl, ⟨trivial, trivial, hI, hfr, fun k hk => (y_fiZ oY98 (s_sub (by decide) hk)).trans ((hz0 k hk).trans (y_fiZ oY0 (s_sub (by decide) hk)).symm), (by rw [y_fiZ oY0 (k := 5) (by decide), ← eF_5, y_fiZ oY98 (k := 5) (by decide), ← ev100]; omega)⟩, by rw [ht]; exact hP, va_K.moved hW.alike hK⟩, hS.F ht⟩) hS.2.2 dX7_number_40
  · intro g H locs hq
    obtain ⟨F105, ls, w2, w3, rfl, hl, hP, hS, hI, hfr, hz0, h102, h103, h104⟩ := hq
    obtain ⟨z106, q107, oY108, bz109⟩ := y_opY hI ha0
    have hz0 : ∀ k, k ∈ ([1, 3, 7, 8, 11, 15, 16, 19, 25, 26, 27, 31, 32] : List Nat) → z106 k = z0 k := fun k hk => (y_fiZ oY108 (s_sub (by decide) hk)).symm.trans (hz0 k hk)
    obtain ⟨v110, ev110⟩ : ∃ y : Int32, y = z106 5 := ⟨_, rfl⟩
    have h104 : (v110.toInt = v1.toInt ∧ v1.toInt = 0) := by have q9 := h104; rw [y_fiZ oY108 (k := 5) (by decide), ← ev110] at q9; exact q9
    refine lv_aload_n hx hb dX7_number_129 rfl (lv_at hl 0 rfl) ?_
    refine lv_aload_n hx hb dX7_number_130 rfl (lv_at hl 0 rfl) ?_
    refine th_get (D := (dC, dI)) (ci := 7) (v := .int (z106 2)) (C := RX7) (T := TX7) (N := 34) hx hb hts inX7 hown hK hP (hLK _ ha0 (by decide)) oY108 rfl 2 (by decide) (hts _ T_272) (fun _ h9 => h9) rfl dX7_number_131 ?_
    refine lv_topi (fun v111 ev111 => ?_)
    have qv111 : 0 ≤ v111.toInt ∧ v111.toInt ≤ 1600 := by rw [ev111]; exact y_bY2 bz109
    refine th_put (D := (dC, dI)) (ci := 7) (v := .int v111) (ty := .int) (C := RX7) (T := TX7) (N := 34) hx hb hts inX7 tyX7 tyX7_ok nmX7 hown hK hP hD hS (hLK _ ha0 (by decide)) oY108 rfl 4 (by decide) (hts _ T_296) (fun _ h9 => h9) rfl (by decide +kernel) rfl rfl (Nat.le_of_ble_eq_true rfl) dX7_number_134 (fun H locs hP hS => ?_)
    rw [y_fs4] at hP
    obtain ⟨z112, hz113⟩ : ∃ g : Nat → Int32, g = upd z106 4 v111 := ⟨_, rfl⟩
    rw [← hz113] at hP
    have bz114 : y_bY z112 := by rw [hz113]; exact y_bp4 bz109
    have hP : va_P (dC, dI) vwCl (va_pl L (va_up F105 a0 (.inr (7, y_fl A z112 q107)))) H := hP
    obtain ⟨F115, hF116⟩ : ∃ G : Nat → va_E, G = va_up F105 a0 (.inr (7, y_fl A z112 q107)) := ⟨_, rfl⟩
    rw [← hF116] at hP
    have hI : y_I K cs A F115 := by rw [hF116]; exact y_clY hA hI ha0 bz114
    have hfr : ∀ b, K b ∉ [9] → F115 b = F b := by rw [hF116]; exact s_fr hfr ha0 (by decide)
    have oY117 : F115 a0 = .inr (7, y_fl A z112 q107) := by rw [hF116]; exact th_up
    have hz0 : ∀ k, k ∈ ([1, 3, 7, 8, 11, 15, 16, 19, 25, 26, 27, 31, 32] : List Nat) → z112 k = z0 k := fun k hk => by rw [hz113]; exact (y_un (fun q => absurd hk (by rw [q]; decide))).trans (hz0 k hk)
    have ev110 : v110 = z112 5 := by rw [hz113]; exact ev110.trans (y_un (by decide)).symm
    have ev111 : v111 = z112 2 := by rw [hz113]; exact ev111.trans (y_un (by decide)).symm
    obtain ⟨v118, ev118⟩ : ∃ y : Int32, y = z112 4 := ⟨_, rfl⟩
    have qv118 : v118.toInt = v111.toInt := by rw [ev118, hz113, y_ue]
    refine lv_iload hx hb dX7_number_137 (lv_at hl 4 rfl) ?_
    refine lv_i2l hx hb dX7_number_139 rfl ?_
    refine lv_topl (fun v119 ev119 => ?_)
    have qv119 : v119.toInt = w3.toInt := y_i2l ev119
    refine lv_iload_n hx hb dX7_number_140 rfl (lv_at hl 1 rfl) ?_
    refine lv_i2l hx hb dX7_number_141 rfl ?_
    refine lv_topl (fun v120 ev120 => ?_)
    have qv120 : v120.toInt = x1.toInt := y_i2l ev120
    refine lv_iload_n hx hb dX7_number_142 rfl (lv_at hl 2 rfl) ?_
    refine lv_i2l hx hb dX7_number_143 rfl ?_
    refine lv_topl (fun v121 ev121 => ?_)
    have qv121 : v121.toInt = x2.toInt := y_i2l ev121
    refine va_calli (va_runS (As := [.long v119, .long v120, .long v121]) (rest := []) ⟨hx, hb, hml, hown, hts⟩ (y_X7_isIn l dC dI H.size F115 v119 v120 v121) (cwS 3 hts (ax_gS T_267 T_268 T_265 T_21) rfl rfl rfl (by decide +kernel) ⟨Nat.le_of_ble_eq_true rfl, Nat.le_of_ble_eq_true rfl⟩) ⟨fun a U g mk q => ⟨q.1, s_pc rfl rfl q.2⟩, fun U hU hW => ⟨rfl, s_pw hU hW hP hK hD hN⟩⟩ rfl rfl hl.1 rfl (lv_room (Nat.le_of_ble_eq_true rfl)) dX7_number_144 ⟨Nat.zero_le _, Nat.zero_le _⟩) hS (fun q _ h => h) (fun q h => h) (fun r123 F124 t H1 locs ht hvm hw hB hz1 hk1 hS => ?_)
    obtain ⟨hP, hK1⟩ := hB
    rw [ht] at hP
    generalize H1 = H at hP hS ⊢
    obtain ⟨h125, h127, hG9, h126⟩ := hw
    rw [hG9] at hP
    have h126 : ((r123.toInt = 0 ∧ (v119.toInt < v120.toInt ∨ v121.toInt < v119.toInt)) ∨ (r123.toInt = 1 ∧ v120.toInt ≤ v119.toInt ∧ v119.toInt ≤ v121.toInt)) := by have q9 := h126; exact q9
    refine lv_if_ne (tgt := 156) hx hb dX7_number_147 (by decide) (fun c128 => ?_) (fun c128 => ?_)
    · have c128 := mt (ax_eq (n := 0) (by decide)).mpr c128
      refine lv_iload hx hb dX7_number_156 (lv_at hl 4 rfl) ?_
      exact W.iret (v := w3) hx hb hr (fun t ht hW => ⟨⟨w3, F115, rfl, ⟨trivial, trivial, hI, hfr, fun k hk => (y_fiZ oY117 (s_sub (by decide) hk)).trans ((hz0 k hk).trans (y_fiZ oY0 (s_sub (by decide) hk)).symm), (by rw [y_fiZ oY0 (k := 5) (by decide), ← eF_5, y_fiZ oY117 (k := 5) (by decide), ← ev110]; omega)⟩, by rw [ht]; exact hP, va_K.moved hW.alike hK⟩, hS.F ht⟩) hS.2.2 dX7_number_158
    · have c128 := (ax_eq (n := 0) (by decide)).mp c128
      refine lv_aload_n hx hb dX7_number_150 rfl (lv_at hl 0 rfl) ?_
      refine lv_iconst (v := 2) hx hb dX7_number_151 (by decide) ?_
      refine lv_iload_n hx hb dX7_number_152 rfl (lv_at hl 3 rfl) ?_
      refine va_callv (va_runV (As := [.int 2, .int w2]) (rest := []) ⟨hx, hb, hml, hown, hts⟩ (y_X7_fail l dC dI H.size hLK A hA F115 a0 2 w2 ha0 (by decide) hI) (cwV 2 hts (ax_gV T_290 T_291 T_292 T_265 T_27) rfl rfl rfl (by decide +kernel) ⟨Nat.le_of_ble_eq_true rfl, Nat.le_of_ble_eq_true rfl⟩) ⟨fun a U g mk q => ⟨q.1, s_pc rfl rfl q.2⟩, s_recv hK hP (hLK _ ha0 (by decide)) (ci := 7) rfl oY117, fun U hU hW => ⟨rfl, s_pw hU hW hP hK hD hN⟩⟩ rfl rfl hl.1 rfl (lv_room (Nat.le_of_ble_eq_true rfl)) dX7_number_153 ⟨Nat.zero_le _, Nat.zero_le _⟩) hS (fun q _ h => h) (fun q h => h) (fun F130 t H1 locs ht hvm hw hB hz1 hk1 hS => ?_)
      obtain ⟨hP, hK1⟩ := hB
      rw [ht] at hP
      generalize H1 = H at hP hS ⊢
      obtain ⟨h131, h133, hI, hfr1, hzf, h132⟩ := hw
      obtain ⟨z134, q135, oY136, bz137⟩ := y_opY hI ha0
      have hzf : ∀ k, k ∈ ([1, 2, 3, 4, 7, 8, 11, 15, 16, 19, 25, 26, 27, 31, 32] : List Nat) → z134 k = z112 k := fun k hk => by have q9 := hzf k hk; rw [y_fiZ oY136 (s_sub (by decide) hk), y_fiZ oY117 (s_sub (by decide) hk)] at q9; exact q9
      have hz0 : ∀ k, k ∈ ([1, 3, 7, 8, 11, 15, 16, 19, 25, 26, 27, 31, 32] : List Nat) → z134 k = z0 k := fun k hk => (hzf k (s_sub (by decide) hk)).trans (hz0 k hk)
      have ev111 : v111 = z134 2 := ev111.trans (hzf 2 (by decide)).symm
      have ev118 : v118 = z134 4 := ev118.trans (hzf 4 (by decide)).symm
      have hfr : ∀ b, K b ∉ [9] → F130 b = F b := fun b hb9 => (hfr1 b (fun q => hb9 (s_sub (by decide) q))).trans (hfr b hb9)
      obtain ⟨v138, ev138⟩ : ∃ y : Int32, y = z134 5 := ⟨_, rfl⟩
      have h132 : (¬ v138.toInt = 0) := by have q9 := h132; rw [y_fiZ oY136 (k := 5) (by decide), ← ev138] at q9; exact q9
      refine lv_iload hx hb dX7_number_156 (lv_at hl 4 rfl) ?_
      exact W.iret (v := w3) hx hb hr (fun t ht hW => ⟨⟨w3, F130, rfl, ⟨trivial, trivial, hI, hfr, fun k hk => (y_fiZ oY136 (s_sub (by decide) hk)).trans ((hz0 k hk).trans (y_fiZ oY0 (s_sub (by decide) hk)).symm), (by rw [y_fiZ oY0 (k := 5) (by decide), ← eF_5, y_fiZ oY136 (k := 5) (by decide), ← ev138]; omega)⟩, by rw [ht]; exact hP, va_K.moved hW.alike hK⟩, hS.F ht⟩) hS.2.2 dX7_number_158

set_option maxHeartbeats 4000000 in
set_option maxRecDepth 100000 in
theorem y_X7_isLike (l : Launch) (dC : Nat → ClassId) (dI : Nat → Nat → Nat) (sz : Nat) {L : List Nat} {K : Nat → Nat} {cs : Nat → ClassId} (hLK : ∀ a {k : Nat}, K a = k → k ≠ 0 → a ∈ L) (A : Nat → Nat) (hA : y_A K A) (F : Nat → va_E) (a0 : Nat) (x1 : Int32) (x2 : Int32) (ha0 : K a0 = 9) (hx1 : 0 ≤ x1.toInt ∧ x1.toInt ≤ 125) (hx2 : 0 ≤ x2.toInt ∧ x2.toInt ≤ 1600) (hI : y_I K cs A F) (hlk : (x1.toInt + x2.toInt ≤ 125 ∧ (y_fi F a0 2).toInt + x2.toInt ≤ 1600)) : Met l yX7_isLike (Cond.code yX7_isLike cX7_isLike 4 (some .boolean) :: T0) ({ frames := 0, cells := 0, slots := 0, locals := 0 }) (va_Pc [.ref a0, .int x1, .int x2] (s_W dC dI sz L F [(cs 0, .int), (cs 1, .byte), (cs 2, .long), (cs 3, .object RX5), (cs 4, .object RX4), (cs 5, .array .int), (cs 6, .char), (cs 7, .boolean)])) (va_Qi (fun (r : Int32) (G : Nat → va_E) => (0 ≤ r.toInt ∧ r.toInt ≤ 1) ∧ True ∧ y_I K cs A G ∧ (∀ b, K b ∉ ([] : List Nat) → G b = F b) ∧ (∀ k, k ∈ ([1, 2, 3, 4, 5, 6, 7, 8, 11, 15, 16, 19, 25, 26, 27, 31, 32] : List Nat) → y_fi G a0 k = y_fi F a0 k) ∧ True) (fun (G : Nat → va_E) (t : State) => va_P (dC, dI) vwCl (va_pl L G) t.heap ∧ va_K (dC, dI) vwCl [(cs 0, .int), (cs 1, .byte), (cs 2, .long), (cs 3, .object RX5), (cs 4, .object RX4), (cs 5, .array .int), (cs 6, .char), (cs 7, .boolean)] t) (fun q => q ∈ L)) 0 0 (fun q => q ∈ L) := by
  refine Met.ofW (cc := cX7_isLike) (maxL := 4) (ret := (some .boolean)) (by decide) rfl ?_
  intro p e s m args below meth c s₁ B hml hv
  obtain ⟨rfl, hsz, hP, hK, hD, hN⟩ := hv
  have hx := B.exec
  have hb := B.bytes
  have hr := B.returns
  have hts : ∀ w ∈ T0, w.before _ s = true := fun w h => atoms_spec (ws := Cond.code yX7_isLike cX7_isLike 4 (some .boolean) :: T0) B.pre w (List.mem_cons_of_mem _ h)
  have hown : s.vm.findClass RX7 = some m.cls := findClass_of_methodNamed B.named
  have hlocks := B.notSynchronized
  have hS : va_S (fun q => q ∈ L) s.heap s.heap [] := va_S.rf
  have hfr : ∀ b, K b ∉ ([] : List Nat) → F b = F b := fun _ _ => rfl
  have hl := lv_entry ([.ref a0, .int x1, .int x2]) (n := 4) (Nat.le_of_ble_eq_true rfl)
  rw [lg_entry_eq]
  generalize (lg_sl ([.ref a0, .int x1, .int x2]) ++ List.replicate (4 - (lg_sl ([.ref a0, .int x1, .int x2])).length) Slot.unset).toArray = ls at hl ⊢
  have hl : lv_has ls 4 [(0, .ref a0), (1, .int x1), (2, .int x2)] := hl
  refine s_gen hP hS (fun H locs hP hS => ?_)
  obtain ⟨z0, q0, oY0, bz0⟩ := y_opY hI ha0
  have hz0 : ∀ k, k ∈ ([1, 2, 3, 4, 5, 6, 7, 8, 11, 15, 16, 19, 25, 26, 27, 31, 32] : List Nat) → z0 k = z0 k := fun _ _ => rfl
  obtain ⟨v1, ev1⟩ : ∃ y : Int32, y = z0 2 := ⟨_, rfl⟩
  have qv1 : 0 ≤ v1.toInt ∧ v1.toInt ≤ 1600 := by rw [ev1]; exact y_bY2 bz0
  have eF_2 := ev1
  have hlk : (x1.toInt + x2.toInt ≤ 125 ∧ v1.toInt + x2.toInt ≤ 1600) := by have q9 := hlk; rw [y_fiZ oY0 (k := 2) (by decide), ← ev1] at q9; exact q9
  have e0_v1 := ev1
  refine lv_iconst (v := 0) hx hb dX7_isLike_0 (by decide) ?_
  refine lv_istore_n (lv' := [(3, .int 0), (0, .ref a0), (1, .int x1), (2, .int x2)]) hx hb dX7_isLike_1 rfl hl (by decide) rfl (fun ls hl => ?_)
  have h3 : (0 : Int32).toInt = 0 := by decide
  refine th_loop (fun n g H locs => ∃ (G : Nat → va_E) (ls : Array Slot) (w2 : Int32), g = F0 m 2 ls [] ∧ lv_has ls 4 [(0, .ref a0), (1, .int x1), (2, .int x2), (3, .int w2)] ∧ va_P (dC, dI) vwCl (va_pl L G) H ∧ va_S (fun q => q ∈ L) s.heap H locs ∧ y_I K cs A G ∧ (∀ b, K b ∉ ([] : List Nat) → G b = F b) ∧ (∀ k, k ∈ ([1, 2, 3, 4, 5, 6, 7, 8, 11, 15, 16, 19, 25, 26, 27, 31, 32] : List Nat) → y_fi G a0 k = z0 k) ∧ (0 ≤ w2.toInt ∧ w2.toInt ≤ 1600) ∧ (0 ≤ x1.toInt ∧ x1.toInt ≤ 125) ∧ (0 ≤ x2.toInt ∧ x2.toInt ≤ 1600) ∧ n = (1601 - w2.toInt).toNat) _ ⟨F, _, 0, rfl, lv_sub hl [1, 2, 3, 0] rfl, hP, hS, hI, hfr, (fun k hk => (y_fiZ oY0 (s_sub (by decide) hk)).trans (hz0 k hk)), (by decide), ⟨by omega, by omega⟩, ⟨by omega, by omega⟩, rfl⟩ (fun n ih2 g H locs hq => ?_)
  obtain ⟨F7, ls, w2, rfl, hl, hP, hS, hI, hfr, hz0, h4, h5, h6, hn⟩ := hq
  have oY8 : F7 a0 = .inr (7, y_fl A z0 q0) := (hfr _ (by rw [ha0]; decide)).trans oY0
  have hz0 : ∀ k, k ∈ ([1, 2, 3, 4, 5, 6, 7, 8, 11, 15, 16, 19, 25, 26, 27, 31, 32] : List Nat) → z0 k = z0 k := fun _ _ => rfl
  have hn_8 := hn
  refine lv_iload_n hx hb dX7_isLike_2 rfl (lv_at hl 3 rfl) ?_
  refine lv_iload_n hx hb dX7_isLike_3 rfl (lv_at hl 2 rfl) ?_
  refine lv_icmp_ge (tgt := 37) hx hb dX7_isLike_4 (by decide) (fun c9 => ?_) (fun c9 => ?_)
  · have c9 := Int32.le_iff_toInt_le.mp c9
    refine lv_iconst (v := 1) hx hb dX7_isLike_37 (by decide) ?_
    have h10 : (1 : Int32).toInt = 1 := by decide
    exact W.zret (v := 1) (ty := .boolean) hx hb hr (by decide) (fun t ht hW => ⟨⟨1, F7, rfl, ⟨(by decide), trivial, hI, hfr, fun k hk => (y_fiZ oY8 (s_sub (by decide) hk)).trans ((hz0 k hk).trans (y_fiZ oY0 (s_sub (by decide) hk)).symm), trivial⟩, by rw [ht]; exact hP, va_K.moved hW.alike hK⟩, hS.F ht⟩) hS.2.2 dX7_isLike_38
  · have c9 := mt Int32.le_iff_toInt_le.mpr c9
    refine lv_aload_n hx hb dX7_isLike_7 rfl (lv_at hl 0 rfl) ?_
    refine th_get (D := (dC, dI)) (ci := 7) (v := .ref (A 10)) (C := RX7) (T := TX7) (N := 34) hx hb hts inX7 hown hK hP (hLK _ ha0 (by decide)) oY8 rfl 10 (by decide) (hts _ T_244) (fun _ h9 => h9) rfl dX7_isLike_8 ?_
    refine lv_iload_n hx hb dX7_isLike_11 rfl (lv_at hl 1 rfl) ?_
    refine lv_iload_n hx hb dX7_isLike_12 rfl (lv_at hl 3 rfl) ?_
    refine lv_iadd hx hb dX7_isLike_13 ?_
    refine lv_topi (fun v11 ev11 => ?_)
    have qv11 : v11.toInt = x1.toInt + w2.toInt := by rw [ev11]; exact th_add rfl rfl ⟨by omega, by omega⟩
    obtain ⟨f12, o13, b14⟩ := y_op10 hI
    refine th_cald hx hb hK hP (hLK _ (y_k10 hA) (by decide)) 6 o13 rfl (th_in ⟨by omega, by omega⟩) dX7_isLike_14 ?_
    refine lv_topi (fun v15 ev15 => ?_)
    refine lv_aload_n hx hb dX7_isLike_15 rfl (lv_at hl 0 rfl) ?_
    refine th_get (D := (dC, dI)) (ci := 7) (v := .ref (A 0)) (C := RX7) (T := TX7) (N := 34) hx hb hts inX7 hown hK hP (hLK _ ha0 (by decide)) oY8 rfl 0 (by decide) (hts _ T_240) (fun _ h9 => h9) rfl dX7_isLike_16 ?_
    refine lv_aload_n hx hb dX7_isLike_19 rfl (lv_at hl 0 rfl) ?_
    refine th_get (D := (dC, dI)) (ci := 7) (v := .int (z0 2)) (C := RX7) (T := TX7) (N := 34) hx hb hts inX7 hown hK hP (hLK _ ha0 (by decide)) oY8 rfl 2 (by decide) (hts _ T_272) (fun _ h9 => h9) rfl dX7_isLike_20 ?_
    refine ax_eqi (y := v1) ev1.symm ?_
    refine lv_iload_n hx hb dX7_isLike_23 rfl (lv_at hl 3 rfl) ?_
    refine lv_iadd hx hb dX7_isLike_24 ?_
    refine lv_topi (fun v16 ev16 => ?_)
    have qv16 : v16.toInt = v1.toInt + w2.toInt := by rw [ev16]; exact th_add rfl rfl ⟨by omega, by omega⟩
    obtain ⟨f17, o18, b19⟩ := y_op0 hI
    refine th_iald hx hb hK hP (hLK _ (y_k0 hA) (by decide)) 0 o18 rfl (th_in ⟨by omega, by omega⟩) dX7_isLike_25 ?_
    refine lv_topi (fun v20 ev20 => ?_)
    refine lv_icmp_eq (tgt := 31) hx hb dX7_isLike_26 (by decide) (fun c21 => ?_) (fun c21 => ?_)
    · have c21 := Int32.toInt_inj.symm.mp c21
      obtain ⟨v22, ev22⟩ : ∃ y : Int32, w2 + 1 = y := ⟨_, rfl⟩
      have qv22 : v22.toInt = w2.toInt + 1 := by rw [← ev22]; exact th_add rfl (by decide) ⟨by omega, by omega⟩
      refine lv_iinc (v := v22) (lv' := [(3, .int v22), (0, .ref a0), (1, .int x1), (2, .int x2)]) hx hb dX7_isLike_31 hl (k := 3) rfl ev22 (by decide) rfl (fun ls hl => ?_)
      refine lv_goto (tgt := 2) hx hb dX7_isLike_34 (by decide) ?_
      exact ih2 _ _ _ _ (by omega) ⟨F7, _, v22, rfl, lv_sub hl [1, 2, 3, 0] rfl, hP, hS, hI, hfr, (fun k hk => (y_fiZ oY8 (s_sub (by decide) hk)).trans (hz0 k hk)), ⟨by omega, by omega⟩, ⟨by omega, by omega⟩, ⟨by omega, by omega⟩, rfl⟩
    · have c21 := mt Int32.toInt_inj.symm.mpr c21
      refine lv_iconst (v := 0) hx hb dX7_isLike_29 (by decide) ?_
      have h23 : (0 : Int32).toInt = 0 := by decide
      exact W.zret (v := 0) (ty := .boolean) hx hb hr (by decide) (fun t ht hW => ⟨⟨0, F7, rfl, ⟨(by decide), trivial, hI, hfr, fun k hk => (y_fiZ oY8 (s_sub (by decide) hk)).trans ((hz0 k hk).trans (y_fiZ oY0 (s_sub (by decide) hk)).symm), trivial⟩, by rw [ht]; exact hP, va_K.moved hW.alike hK⟩, hS.F ht⟩) hS.2.2 dX7_isLike_30

set_option maxHeartbeats 4000000 in
set_option maxRecDepth 100000 in
theorem y_X7_ownHere (l : Launch) (dC : Nat → ClassId) (dI : Nat → Nat → Nat) (sz : Nat) {L : List Nat} {K : Nat → Nat} {cs : Nat → ClassId} (hLK : ∀ a {k : Nat}, K a = k → k ≠ 0 → a ∈ L) (A : Nat → Nat) (hA : y_A K A) (F : Nat → va_E) (a0 : Nat) (ha0 : K a0 = 9) (hI : y_I K cs A F) : Met l yX7_ownHere (Cond.code yX7_ownHere cX7_ownHere 5 (some .int) :: T0) ({ frames := 2, cells := 0, slots := 0, locals := 40 }) (va_Pc [.ref a0] (s_W dC dI sz L F [(cs 0, .int), (cs 1, .byte), (cs 2, .long), (cs 3, .object RX5), (cs 4, .object RX4), (cs 5, .array .int), (cs 6, .char), (cs 7, .boolean)])) (va_Qi (fun (r : Int32) (G : Nat → va_E) => True ∧ True ∧ y_I K cs A G ∧ (∀ b, K b ∉ [9] → G b = F b) ∧ (∀ k, k ∈ ([1, 3, 4, 5, 6, 7, 8, 11, 15, 16, 19, 25, 26, 27, 31, 32] : List Nat) → y_fi G a0 k = y_fi F a0 k) ∧ True) (fun (G : Nat → va_E) (t : State) => va_P (dC, dI) vwCl (va_pl L G) t.heap ∧ va_K (dC, dI) vwCl [(cs 0, .int), (cs 1, .byte), (cs 2, .long), (cs 3, .object RX5), (cs 4, .object RX4), (cs 5, .array .int), (cs 6, .char), (cs 7, .boolean)] t) (fun q => q ∈ L)) 0 0 (fun q => q ∈ L) := by
  refine Met.ofW (cc := cX7_ownHere) (maxL := 5) (ret := (some .int)) (by decide) rfl ?_
  intro p e s m args below meth c s₁ B hml hv
  obtain ⟨rfl, hsz, hP, hK, hD, hN⟩ := hv
  have hx := B.exec
  have hb := B.bytes
  have hr := B.returns
  have hts : ∀ w ∈ T0, w.before _ s = true := fun w h => atoms_spec (ws := Cond.code yX7_ownHere cX7_ownHere 5 (some .int) :: T0) B.pre w (List.mem_cons_of_mem _ h)
  have hown : s.vm.findClass RX7 = some m.cls := findClass_of_methodNamed B.named
  have hlocks := B.notSynchronized
  have hS : va_S (fun q => q ∈ L) s.heap s.heap [] := va_S.rf
  have hfr : ∀ b, K b ∉ [9] → F b = F b := fun _ _ => rfl
  have hl := lv_entry ([.ref a0]) (n := 5) (Nat.le_of_ble_eq_true rfl)
  rw [lg_entry_eq]
  generalize (lg_sl ([.ref a0]) ++ List.replicate (5 - (lg_sl ([.ref a0])).length) Slot.unset).toArray = ls at hl ⊢
  have hl : lv_has ls 5 [(0, .ref a0)] := hl
  refine s_gen hP hS (fun H locs hP hS => ?_)
  obtain ⟨z0, q0, oY0, bz0⟩ := y_opY hI ha0
  have hz0 : ∀ k, k ∈ ([1, 3, 4, 5, 6, 7, 8, 11, 15, 16, 19, 25, 26, 27, 31, 32] : List Nat) → z0 k = z0 k := fun _ _ => rfl
  refine th_join (fun g H locs => ∃ (G : Nat → va_E) (ls : Array Slot) (w1 : Int32), g = F0 m 47 ls [] ∧ lv_has ls 5 [(0, .ref a0), (1, .int w1)] ∧ va_P (dC, dI) vwCl (va_pl L G) H ∧ va_S (fun q => q ∈ L) s.heap H locs ∧ y_I K cs A G ∧ (∀ b, K b ∉ [9] → G b = F b) ∧ (∀ k, k ∈ ([1, 3, 4, 5, 6, 7, 8, 11, 15, 16, 19, 25, 26, 27, 31, 32] : List Nat) → y_fi G a0 k = z0 k) ∧ (0 ≤ w1.toInt ∧ w1.toInt ≤ 1600) ∧ ((y_fi G a0 2).toInt + w1.toInt ≤ 1600)) (fun K47 => ?_) ?_
  · refine lv_aload_n hx hb dX7_ownHere_0 rfl (lv_at hl 0 rfl) ?_
    refine va_calli (va_runV (As := []) (rest := []) ⟨hx, hb, hml, hown, hts⟩ (y_X7_isWordHere l dC dI H.size hLK A hA F a0 ha0 hI) (cwV 0 hts (ax_gV T_280 T_281 T_282 T_265 T_24) rfl rfl rfl (by decide +kernel) ⟨Nat.le_of_ble_eq_true rfl, Nat.le_of_ble_eq_true rfl⟩) ⟨fun a U g mk q => ⟨q.1, s_pc rfl rfl q.2⟩, s_recv hK hP (hLK _ ha0 (by decide)) (ci := 7) rfl oY0, fun U hU hW => ⟨rfl, s_pw hU hW hP hK hD hN⟩⟩ rfl rfl hl.1 rfl (lv_room (Nat.le_of_ble_eq_true rfl)) dX7_ownHere_1 ⟨Nat.zero_le _, Nat.zero_le _⟩) hS (fun q _ h => h) (fun q h => h) (fun r3 F4 t H1 locs ht hvm hw hB hz1 hk1 hS => ?_)
    obtain ⟨hP, hK1⟩ := hB
    rw [ht] at hP
    generalize H1 = H at hP hS ⊢
    obtain ⟨h5, h7, hI, hfr1, hzf, h6⟩ := hw
    obtain ⟨z8, q9, oY10, bz11⟩ := y_opY hI ha0
    have hzf : ∀ k, k ∈ ([1, 3, 4, 5, 6, 7, 8, 11, 15, 16, 19, 25, 26, 27, 31, 32] : List Nat) → z8 k = z0 k := fun k hk => by have q9 := hzf k hk; rw [y_fiZ oY10 (s_sub (by decide) hk), y_fiZ oY0 (s_sub (by decide) hk)] at q9; exact q9
    have hz0 : ∀ k, k ∈ ([1, 3, 4, 5, 6, 7, 8, 11, 15, 16, 19, 25, 26, 27, 31, 32] : List Nat) → z8 k = z0 k := fun k hk => (hzf k (s_sub (by decide) hk)).trans (hz0 k hk)
    have hfr : ∀ b, K b ∉ [9] → F4 b = F b := fun b hb9 => (hfr1 b (fun q => hb9 (s_sub (by decide) q))).trans (hfr b hb9)
    obtain ⟨v12, ev12⟩ : ∃ y : Int32, y = z8 2 := ⟨_, rfl⟩
    have qv12 : 0 ≤ v12.toInt ∧ v12.toInt ≤ 1600 := by rw [ev12]; exact y_bY2 bz11
    obtain ⟨v13, ev13⟩ : ∃ y : Int32, y = z8 3 := ⟨_, rfl⟩
    have qv13 : 0 ≤ v13.toInt ∧ v13.toInt ≤ 1600 := by rw [ev13]; exact y_bY3 bz11
    have h6 : (r3.toInt = 0 ∨ v12.toInt < v13.toInt) := by have q9 := h6; rw [y_fiZ oY10 (k := 2) (by decide), ← ev12, y_fiZ oY10 (k := 3) (by decide), ← ev13] at q9; exact q9
    refine lv_if_ne (tgt := 9) hx hb dX7_ownHere_4 (by decide) (fun c14 => ?_) (fun c14 => ?_)
    · have c14 := mt (ax_eq (n := 0) (by decide)).mpr c14
      refine lv_iconst (v := 0) hx hb dX7_ownHere_9 (by decide) ?_
      refine lv_istore_n (lv' := [(1, .int 0), (0, .ref a0)]) hx hb dX7_ownHere_10 rfl hl (by decide) rfl (fun ls hl => ?_)
      have h16 : (0 : Int32).toInt = 0 := by decide
      refine th_loop (fun n g H locs => ∃ (G : Nat → va_E) (ls : Array Slot) (w15 : Int32), g = F0 m 11 ls [] ∧ lv_has ls 5 [(0, .ref a0), (1, .int w15)] ∧ va_P (dC, dI) vwCl (va_pl L G) H ∧ va_S (fun q => q ∈ L) s.heap H locs ∧ y_I K cs A G ∧ (∀ b, K b ∉ [9] → G b = F b) ∧ (∀ k, k ∈ ([1, 3, 4, 5, 6, 7, 8, 11, 15, 16, 19, 25, 26, 27, 31, 32] : List Nat) → y_fi G a0 k = z0 k) ∧ (0 ≤ w15.toInt ∧ w15.toInt ≤ 1600) ∧ ((y_fi G a0 2).toInt + w15.toInt ≤ 1600) ∧ n = (1601 - w15.toInt).toNat) _ ⟨F4, _, 0, rfl, lv_sub hl [1, 0] rfl, hP, hS, hI, hfr, (fun k hk => (y_fiZ oY10 (s_sub (by decide) hk)).trans (hz0 k hk)), (by decide), (by rw [y_fiZ oY10 (k := 2) (by decide), ← ev12]; omega), rfl⟩ (fun n ih11 g H locs hq => ?_)
      obtain ⟨F19, ls, w15, rfl, hl, hP, hS, hI, hfr, hz0, h17, h18, hn⟩ := hq
      obtain ⟨z20, q21, oY22, bz23⟩ := y_opY hI ha0
      have hz0 : ∀ k, k ∈ ([1, 3, 4, 5, 6, 7, 8, 11, 15, 16, 19, 25, 26, 27, 31, 32] : List Nat) → z20 k = z0 k := fun k hk => (y_fiZ oY22 (s_sub (by decide) hk)).symm.trans (hz0 k hk)
      obtain ⟨v24, ev24⟩ : ∃ y : Int32, y = z20 2 := ⟨_, rfl⟩
      have qv24 : 0 ≤ v24.toInt ∧ v24.toInt ≤ 1600 := by rw [ev24]; exact y_bY2 bz23
      have h18 : (v24.toInt + w15.toInt ≤ 1600) := by have q9 := h18; rw [y_fiZ oY22 (k := 2) (by decide), ← ev24] at q9; exact q9
      have hn_24 := hn
      refine lv_aload_n hx hb dX7_ownHere_11 rfl (lv_at hl 0 rfl) ?_
      refine th_get (D := (dC, dI)) (ci := 7) (v := .int (z20 2)) (C := RX7) (T := TX7) (N := 34) hx hb hts inX7 hown hK hP (hLK _ ha0 (by decide)) oY22 rfl 2 (by decide) (hts _ T_272) (fun _ h9 => h9) rfl dX7_ownHere_12 ?_
      refine ax_eqi (y := v24) ev24.symm ?_
      refine lv_iload_n hx hb dX7_ownHere_15 rfl (lv_at hl 1 rfl) ?_
      refine lv_iadd hx hb dX7_ownHere_16 ?_
      refine lv_topi (fun v25 ev25 => ?_)
      have qv25 : v25.toInt = v24.toInt + w15.toInt := by rw [ev25]; exact th_add rfl rfl ⟨by omega, by omega⟩
      refine lv_aload_n hx hb dX7_ownHere_17 rfl (lv_at hl 0 rfl) ?_
      refine th_get (D := (dC, dI)) (ci := 7) (v := .int (z20 3)) (C := RX7) (T := TX7) (N := 34) hx hb hts inX7 hown hK hP (hLK _ ha0 (by decide)) oY22 rfl 3 (by decide) (hts _ T_273) (fun _ h9 => h9) rfl dX7_ownHere_18 ?_
      refine lv_topi (fun v26 ev26 => ?_)
      have qv26 : 0 ≤ v26.toInt ∧ v26.toInt ≤ 1600 := by rw [ev26]; exact y_bY3 bz23
      refine lv_icmp_ge (tgt := 47) hx hb dX7_ownHere_21 (by decide) (fun c27 => ?_) (fun c27 => ?_)
      · have c27 := Int32.le_iff_toInt_le.mp c27
        exact K47 _ _ _ ⟨F19, _, w15, rfl, lv_sub hl [0, 1] rfl, hP, hS, hI, hfr, (fun k hk => (y_fiZ oY22 (s_sub (by decide) hk)).trans (hz0 k hk)), ⟨by omega, by omega⟩, (by rw [y_fiZ oY22 (k := 2) (by decide), ← ev24]; omega)⟩
      · have c27 := mt Int32.le_iff_toInt_le.mpr c27
        refine lv_aload_n hx hb dX7_ownHere_24 rfl (lv_at hl 0 rfl) ?_
        refine th_get (D := (dC, dI)) (ci := 7) (v := .ref (A 0)) (C := RX7) (T := TX7) (N := 34) hx hb hts inX7 hown hK hP (hLK _ ha0 (by decide)) oY22 rfl 0 (by decide) (hts _ T_240) (fun _ h9 => h9) rfl dX7_ownHere_25 ?_
        refine lv_aload_n hx hb dX7_ownHere_28 rfl (lv_at hl 0 rfl) ?_
        refine th_get (D := (dC, dI)) (ci := 7) (v := .int (z20 2)) (C := RX7) (T := TX7) (N := 34) hx hb hts inX7 hown hK hP (hLK _ ha0 (by decide)) oY22 rfl 2 (by decide) (hts _ T_272) (fun _ h9 => h9) rfl dX7_ownHere_29 ?_
        refine ax_eqi (y := v24) ev24.symm ?_
        refine lv_iload_n hx hb dX7_ownHere_32 rfl (lv_at hl 1 rfl) ?_
        refine lv_iadd hx hb dX7_ownHere_33 ?_
        refine lv_topi (fun v28 ev28 => ?_)
        have qv28 : v28.toInt = v24.toInt + w15.toInt := by rw [ev28]; exact th_add rfl rfl ⟨by omega, by omega⟩
        obtain ⟨f29, o30, b31⟩ := y_op0 hI
        refine th_iald hx hb hK hP (hLK _ (y_k0 hA) (by decide)) 0 o30 rfl (th_in ⟨by omega, by omega⟩) dX7_ownHere_34 ?_
        refine lv_topi (fun v32 ev32 => ?_)
        refine va_calli (va_runS (As := [.int v32]) (rest := []) ⟨hx, hb, hml, hown, hts⟩ (y_X7_isLetter l dC dI H.size F19 v32) (cwS 1 hts (ax_gS T_278 T_279 T_265 T_23) rfl rfl rfl (by decide +kernel) ⟨Nat.le_of_ble_eq_true rfl, Nat.le_of_ble_eq_true rfl⟩) ⟨fun a U g mk q => ⟨q.1, s_pc rfl rfl q.2⟩, fun U hU hW => ⟨rfl, s_pw hU hW hP hK hD hN⟩⟩ rfl rfl hl.1 rfl (lv_room (Nat.le_of_ble_eq_true rfl)) dX7_ownHere_35 ⟨Nat.zero_le _, Nat.zero_le _⟩) hS (fun q _ h => h) (fun q h => h) (fun r34 F35 t H1 locs ht hvm hw hB hz1 hk1 hS => ?_)
        obtain ⟨hP, hK1⟩ := hB
        rw [ht] at hP
        generalize H1 = H at hP hS ⊢
        obtain ⟨h36, h38, hG9, h37⟩ := hw
        rw [hG9] at hP
        refine lv_if_eq (tgt := 47) hx hb dX7_ownHere_38 (by decide) (fun c39 => ?_) (fun c39 => ?_)
        · have c39 := (ax_eq (n := 0) (by decide)).mp c39
          exact K47 _ _ _ ⟨F19, _, w15, rfl, lv_sub hl [0, 1] rfl, hP, hS, hI, hfr, (fun k hk => (y_fiZ oY22 (s_sub (by decide) hk)).trans (hz0 k hk)), ⟨by omega, by omega⟩, (by rw [y_fiZ oY22 (k := 2) (by decide), ← ev24]; omega)⟩
        · have c39 := mt (ax_eq (n := 0) (by decide)).mpr c39
          have h40 := h38 (fun q => c39 (by rw [q]; decide))
          obtain ⟨v41, ev41⟩ : ∃ y : Int32, w15 + 1 = y := ⟨_, rfl⟩
          have qv41 : v41.toInt = w15.toInt + 1 := by rw [← ev41]; exact th_add rfl (by decide) ⟨by omega, by omega⟩
          refine lv_iinc (v := v41) (lv' := [(1, .int v41), (0, .ref a0)]) hx hb dX7_ownHere_41 hl (k := 1) rfl ev41 (by decide) rfl (fun ls hl => ?_)
          have h42 : 1 ≤ v41.toInt ∧ v41.toInt ≤ 1600 := ⟨by omega, by omega⟩
          refine lv_goto (tgt := 11) hx hb dX7_ownHere_44 (by decide) ?_
          exact ih11 _ _ _ _ (by omega) ⟨F19, _, v41, rfl, lv_sub hl [1, 0] rfl, hP, hS, hI, hfr, (fun k hk => (y_fiZ oY22 (s_sub (by decide) hk)).trans (hz0 k hk)), ⟨by omega, by omega⟩, (by rw [y_fiZ oY22 (k := 2) (by decide), ← ev24]; omega), rfl⟩
    · have c14 := (ax_eq (n := 0) (by decide)).mp c14
      refine lv_iconst (v := (-1)) hx hb dX7_ownHere_7 (by decide) ?_
      have h43 : ((-1) : Int32).toInt = (-1) := by decide
      exact W.iret (v := (-1)) hx hb hr (fun t ht hW => ⟨⟨(-1), F4, rfl, ⟨trivial, trivial, hI, hfr, fun k hk => (y_fiZ oY10 (s_sub (by decide) hk)).trans ((hz0 k hk).trans (y_fiZ oY0 (s_sub (by decide) hk)).symm), trivial⟩, by rw [ht]; exact hP, va_K.moved hW.alike hK⟩, hS.F ht⟩) hS.2.2 dX7_ownHere_8
  · intro g H locs hq
    obtain ⟨F46, ls, w1, rfl, hl, hP, hS, hI, hfr, hz0, h44, h45⟩ := hq
    obtain ⟨z47, q48, oY49, bz50⟩ := y_opY hI ha0
    have hz0 : ∀ k, k ∈ ([1, 3, 4, 5, 6, 7, 8, 11, 15, 16, 19, 25, 26, 27, 31, 32] : List Nat) → z47 k = z0 k := fun k hk => (y_fiZ oY49 (s_sub (by decide) hk)).symm.trans (hz0 k hk)
    obtain ⟨v51, ev51⟩ : ∃ y : Int32, y = z47 2 := ⟨_, rfl⟩
    have qv51 : 0 ≤ v51.toInt ∧ v51.toInt ≤ 1600 := by rw [ev51]; exact y_bY2 bz50
    have h45 : (v51.toInt + w1.toInt ≤ 1600) := by have q9 := h45; rw [y_fiZ oY49 (k := 2) (by decide), ← ev51] at q9; exact q9
    refine lv_iconst (v := 0) hx hb dX7_ownHere_47 (by decide) ?_
    refine lv_istore_n (lv' := [(2, .int 0), (0, .ref a0), (1, .int w1)]) hx hb dX7_ownHere_48 rfl hl (by decide) rfl (fun ls hl => ?_)
    refine lv_iconst (v := 0) hx hb dX7_ownHere_49 (by decide) ?_
    refine lv_istore_n (lv' := [(3, .int 0), (2, .int 0), (0, .ref a0), (1, .int w1)]) hx hb dX7_ownHere_50 rfl hl (by decide) rfl (fun ls hl => ?_)
    refine lv_iconst (v := 0) hx hb dX7_ownHere_51 (by decide) ?_
    refine lv_istore (lv' := [(4, .int 0), (3, .int 0), (2, .int 0), (0, .ref a0), (1, .int w1)]) hx hb dX7_ownHere_52 hl (by decide) rfl (fun ls hl => ?_)
    have h55 : (0 : Int32).toInt = 0 := by decide
    have h56 : (0 : Int32).toInt = 0 := by decide
    have h57 : (0 : Int32).toInt = 0 := by decide
    refine th_loop (fun n g H locs => ∃ (G : Nat → va_E) (ls : Array Slot) (w52 : Int32) (w53 : Int32) (w54 : Int32), g = F0 m 54 ls [] ∧ lv_has ls 5 [(0, .ref a0), (1, .int w1), (2, .int w52), (3, .int w53), (4, .int w54)] ∧ va_P (dC, dI) vwCl (va_pl L G) H ∧ va_S (fun q => q ∈ L) s.heap H locs ∧ y_I K cs A G ∧ (∀ b, K b ∉ [9] → G b = F b) ∧ (∀ k, k ∈ ([1, 3, 4, 5, 6, 7, 8, 11, 15, 16, 19, 25, 26, 27, 31, 32] : List Nat) → y_fi G a0 k = z0 k) ∧ True ∧ (0 ≤ w53.toInt ∧ w53.toInt ≤ 125) ∧ (0 ≤ w54.toInt ∧ w54.toInt ≤ 125) ∧ (0 ≤ w1.toInt ∧ w1.toInt ≤ 1600) ∧ ((y_fi G a0 2).toInt + w1.toInt ≤ 1600) ∧ n = (126 - w54.toInt).toNat) _ ⟨F46, _, 0, 0, 0, rfl, lv_sub hl [3, 4, 2, 1, 0] rfl, hP, hS, hI, hfr, (fun k hk => (y_fiZ oY49 (s_sub (by decide) hk)).trans (hz0 k hk)), trivial, (by decide), (by decide), ⟨by omega, by omega⟩, (by rw [y_fiZ oY49 (k := 2) (by decide), ← ev51]; omega), rfl⟩ (fun n ih54 g H locs hq => ?_)
    obtain ⟨F63, ls, w52, w53, w54, rfl, hl, hP, hS, hI, hfr, hz0, h58, h59, h60, h61, h62, hn⟩ := hq
    obtain ⟨z64, q65, oY66, bz67⟩ := y_opY hI ha0
    have hz0 : ∀ k, k ∈ ([1, 3, 4, 5, 6, 7, 8, 11, 15, 16, 19, 25, 26, 27, 31, 32] : List Nat) → z64 k = z0 k := fun k hk => (y_fiZ oY66 (s_sub (by decide) hk)).symm.trans (hz0 k hk)
    obtain ⟨v68, ev68⟩ : ∃ y : Int32, y = z64 2 := ⟨_, rfl⟩
    have qv68 : 0 ≤ v68.toInt ∧ v68.toInt ≤ 1600 := by rw [ev68]; exact y_bY2 bz67
    have h62 : (v68.toInt + w1.toInt ≤ 1600) := by have q9 := h62; rw [y_fiZ oY66 (k := 2) (by decide), ← ev68] at q9; exact q9
    have hn_68 := hn
    refine th_join (fun g H locs => ∃ (G : Nat → va_E) (ls : Array Slot) (w69 : Int32) (w70 : Int32), g = F0 m 103 ls [] ∧ lv_has ls 5 [(0, .ref a0), (1, .int w1), (2, .int w69), (3, .int w70), (4, .int w54)] ∧ va_P (dC, dI) vwCl (va_pl L G) H ∧ va_S (fun q => q ∈ L) s.heap H locs ∧ y_I K cs A G ∧ (∀ b, K b ∉ [9] → G b = F b) ∧ (∀ k, k ∈ ([1, 3, 4, 5, 6, 7, 8, 11, 15, 16, 19, 25, 26, 27, 31, 32] : List Nat) → y_fi G a0 k = z0 k) ∧ True ∧ (0 ≤ w70.toInt ∧ w70.toInt ≤ 125) ∧ (0 ≤ w1.toInt ∧ w1.toInt ≤ 1600) ∧ (0 ≤ w54.toInt ∧ w54.toInt ≤ 124) ∧ ((y_fi G a0 2).toInt + w1.toInt ≤ 1600)) (fun K103 => ?_) ?_
    refine th_join (fun g H locs => ∃ (G : Nat → va_E) (ls : Array Slot), g = F0 m 95 ls [] ∧ lv_has ls 5 [(0, .ref a0), (1, .int w1), (2, .int w52), (4, .int w54)] ∧ va_P (dC, dI) vwCl (va_pl L G) H ∧ va_S (fun q => q ∈ L) s.heap H locs ∧ y_I K cs A G ∧ (∀ b, K b ∉ [9] → G b = F b) ∧ (∀ k, k ∈ ([1, 3, 4, 5, 6, 7, 8, 11, 15, 16, 19, 25, 26, 27, 31, 32] : List Nat) → y_fi G a0 k = z0 k) ∧ (0 ≤ w1.toInt ∧ w1.toInt ≤ 1600) ∧ (0 ≤ w54.toInt ∧ w54.toInt ≤ 124) ∧ ((y_fi G a0 2).toInt + w1.toInt ≤ 1600)) (fun K95 => ?_) ?_
    · refine lv_iload hx hb dX7_ownHere_54 (lv_at hl 4 rfl) ?_
      refine lv_aload_n hx hb dX7_ownHere_56 rfl (lv_at hl 0 rfl) ?_
      refine th_get (D := (dC, dI)) (ci := 7) (v := .ref (A 10)) (C := RX7) (T := TX7) (N := 34) hx hb hts inX7 hown hK hP (hLK _ ha0 (by decide)) oY66 rfl 10 (by decide) (hts _ T_244) (fun _ h9 => h9) rfl dX7_ownHere_57 ?_
      obtain ⟨f71, o72, b73⟩ := y_op10 hI
      refine th_alen hx hb hK hP (hLK _ (y_k10 hA) (by decide)) 6 o72 rfl (v := 125) rfl dX7_ownHere_60 ?_
      refine lv_icmp_ge (tgt := 109) hx hb dX7_ownHere_61 (by decide) (fun c74 => ?_) (fun c74 => ?_)
      · have c74 := (ax_ge (n := 125) (by decide)).mp c74
        refine lv_iconst (v := (-1)) hx hb dX7_ownHere_109 (by decide) ?_
        have h75 : ((-1) : Int32).toInt = (-1) := by decide
        exact W.iret (v := (-1)) hx hb hr (fun t ht hW => ⟨⟨(-1), F63, rfl, ⟨trivial, trivial, hI, hfr, fun k hk => (y_fiZ oY66 (s_sub (by decide) hk)).trans ((hz0 k hk).trans (y_fiZ oY0 (s_sub (by decide) hk)).symm), trivial⟩, by rw [ht]; exact hP, va_K.moved hW.alike hK⟩, hS.F ht⟩) hS.2.2 dX7_ownHere_110
      · have c74 := mt (ax_ge (n := 125) (by decide)).mpr c74
        refine lv_aload_n hx hb dX7_ownHere_64 rfl (lv_at hl 0 rfl) ?_
        refine th_get (D := (dC, dI)) (ci := 7) (v := .ref (A 10)) (C := RX7) (T := TX7) (N := 34) hx hb hts inX7 hown hK hP (hLK _ ha0 (by decide)) oY66 rfl 10 (by decide) (hts _ T_244) (fun _ h9 => h9) rfl dX7_ownHere_65 ?_
        refine lv_iload hx hb dX7_ownHere_68 (lv_at hl 4 rfl) ?_
        refine th_cald hx hb hK hP (hLK _ (y_k10 hA) (by decide)) 6 o72 rfl (th_in ⟨by omega, by omega⟩) dX7_ownHere_70 ?_
        refine lv_topi (fun v76 ev76 => ?_)
        refine lv_bipush (v := 32) hx hb dX7_ownHere_71 (by decide) ?_
        refine lv_icmp_ne (tgt := 103) hx hb dX7_ownHere_73 (by decide) (fun c77 => ?_) (fun c77 => ?_)
        · have c77 := mt (ax_eq (n := 32) (by decide)).mpr c77
          exact K103 _ _ _ ⟨F63, _, w52, w53, rfl, lv_sub hl [0, 1, 2, 3, 4] rfl, hP, hS, hI, hfr, (fun k hk => (y_fiZ oY66 (s_sub (by decide) hk)).trans (hz0 k hk)), trivial, ⟨by omega, by omega⟩, ⟨by omega, by omega⟩, ⟨by omega, by omega⟩, (by rw [y_fiZ oY66 (k := 2) (by decide), ← ev68]; omega)⟩
        · have c77 := (ax_eq (n := 32) (by decide)).mp c77
          refine lv_iload hx hb dX7_ownHere_76 (lv_at hl 4 rfl) ?_
          refine lv_iload_n hx hb dX7_ownHere_78 rfl (lv_at hl 3 rfl) ?_
          refine lv_isub hx hb dX7_ownHere_79 ?_
          refine lv_topi (fun v78 ev78 => ?_)
          have qv78 : v78.toInt = w54.toInt - w53.toInt := by rw [ev78]; exact th_sub rfl rfl ⟨by omega, by omega⟩
          refine lv_iload_n hx hb dX7_ownHere_80 rfl (lv_at hl 1 rfl) ?_
          refine lv_icmp_ne (tgt := 95) hx hb dX7_ownHere_81 (by decide) (fun c79 => ?_) (fun c79 => ?_)
          · have c79 := mt Int32.toInt_inj.symm.mpr c79
            exact K95 _ _ _ ⟨F63, _, rfl, lv_sub hl [0, 1, 2, 4] rfl, hP, hS, hI, hfr, (fun k hk => (y_fiZ oY66 (s_sub (by decide) hk)).trans (hz0 k hk)), ⟨by omega, by omega⟩, ⟨by omega, by omega⟩, (by rw [y_fiZ oY66 (k := 2) (by decide), ← ev68]; omega)⟩
          · have c79 := Int32.toInt_inj.symm.mp c79
            refine lv_aload_n hx hb dX7_ownHere_84 rfl (lv_at hl 0 rfl) ?_
            refine lv_iload_n hx hb dX7_ownHere_85 rfl (lv_at hl 3 rfl) ?_
            refine lv_iload_n hx hb dX7_ownHere_86 rfl (lv_at hl 1 rfl) ?_
            refine va_calli (va_runV (As := [.int w53, .int w1]) (rest := []) ⟨hx, hb, hml, hown, hts⟩ (y_X7_isLike l dC dI H.size hLK A hA F63 a0 w53 w1 ha0 (⟨by omega, by omega⟩) (⟨by omega, by omega⟩) hI (by rw [y_fiZ oY66 (k := 2) (by decide), ← ev68]; omega)) (cwV 2 hts (ax_gV T_1282 T_1284 T_1285 T_265 T_1283) rfl rfl rfl (by decide +kernel) ⟨Nat.le_of_ble_eq_true rfl, Nat.le_of_ble_eq_true rfl⟩) ⟨fun a U g mk q => ⟨q.1, s_pc rfl rfl q.2⟩, s_recv hK hP (hLK _ ha0 (by decide)) (ci := 7) rfl oY66, fun U hU hW => ⟨rfl, s_pw hU hW hP hK hD hN⟩⟩ rfl rfl hl.1 rfl (lv_room (Nat.le_of_ble_eq_true rfl)) dX7_ownHere_87 ⟨Nat.zero_le _, Nat.zero_le _⟩) hS (fun q _ h => h) (fun q h => h) (fun r81 F82 t H1 locs ht hvm hw hB hz1 hk1 hS => ?_)
            obtain ⟨hP, hK1⟩ := hB
            rw [ht] at hP
            generalize H1 = H at hP hS ⊢
            obtain ⟨h83, h85, hI, hfr1, hzf, h84⟩ := hw
            have o86 : F82 (A 10) = .inl (cs 6, 125, .inl f71) := (hfr1 _ (by rw [(y_k10 hA)]; decide)).trans o72
            have oY87 : F82 a0 = .inr (7, y_fl A z64 q65) := (hfr1 _ (by rw [ha0]; decide)).trans oY66
            have hfr : ∀ b, K b ∉ [9] → F82 b = F b := fun b hb9 => (hfr1 b (fun q => hb9 (s_sub (by decide) q))).trans (hfr b hb9)
            refine lv_if_eq (tgt := 95) hx hb dX7_ownHere_90 (by decide) (fun c88 => ?_) (fun c88 => ?_)
            · have c88 := (ax_eq (n := 0) (by decide)).mp c88
              exact K95 _ _ _ ⟨F82, _, rfl, lv_sub hl [0, 1, 2, 4] rfl, hP, hS, hI, hfr, (fun k hk => (y_fiZ oY87 (s_sub (by decide) hk)).trans (hz0 k hk)), ⟨by omega, by omega⟩, ⟨by omega, by omega⟩, (by rw [y_fiZ oY87 (k := 2) (by decide), ← ev68]; omega)⟩
            · have c88 := mt (ax_eq (n := 0) (by decide)).mpr c88
              refine lv_iload_n hx hb dX7_ownHere_93 rfl (lv_at hl 2 rfl) ?_
              exact W.iret (v := w52) hx hb hr (fun t ht hW => ⟨⟨w52, F82, rfl, ⟨trivial, trivial, hI, hfr, fun k hk => (y_fiZ oY87 (s_sub (by decide) hk)).trans ((hz0 k hk).trans (y_fiZ oY0 (s_sub (by decide) hk)).symm), trivial⟩, by rw [ht]; exact hP, va_K.moved hW.alike hK⟩, hS.F ht⟩) hS.2.2 dX7_ownHere_94
    · intro g H locs hq
      obtain ⟨F92, ls, rfl, hl, hP, hS, hI, hfr, hz0, h89, h90, h91⟩ := hq
      obtain ⟨z93, q94, oY95, bz96⟩ := y_opY hI ha0
      have hz0 : ∀ k, k ∈ ([1, 3, 4, 5, 6, 7, 8, 11, 15, 16, 19, 25, 26, 27, 31, 32] : List Nat) → z93 k = z0 k := fun k hk => (y_fiZ oY95 (s_sub (by decide) hk)).symm.trans (hz0 k hk)
      obtain ⟨v97, ev97⟩ : ∃ y : Int32, y = z93 2 := ⟨_, rfl⟩
      have qv97 : 0 ≤ v97.toInt ∧ v97.toInt ≤ 1600 := by rw [ev97]; exact y_bY2 bz96
      have h91 : (v97.toInt + w1.toInt ≤ 1600) := by have q9 := h91; rw [y_fiZ oY95 (k := 2) (by decide), ← ev97] at q9; exact q9
      obtain ⟨v98, ev98⟩ : ∃ y : Int32, w52 + 1 = y := ⟨_, rfl⟩
      refine lv_iinc (v := v98) (lv' := [(2, .int v98), (0, .ref a0), (1, .int w1), (4, .int w54)]) hx hb dX7_ownHere_95 hl (k := 2) rfl ev98 (by decide) rfl (fun ls hl => ?_)
      refine lv_iload hx hb dX7_ownHere_98 (lv_at hl 3 rfl) ?_
      refine lv_iconst (v := 1) hx hb dX7_ownHere_100 (by decide) ?_
      refine lv_iadd hx hb dX7_ownHere_101 ?_
      refine lv_topi (fun v99 ev99 => ?_)
      have qv99 : v99.toInt = w54.toInt + 1 := by rw [ev99]; exact th_add rfl (by decide) ⟨by omega, by omega⟩
      refine lv_istore_n (lv' := [(3, .int v99), (2, .int v98), (0, .ref a0), (1, .int w1), (4, .int w54)]) hx hb dX7_ownHere_102 rfl hl (by decide) rfl (fun ls hl => ?_)
      exact K103 _ _ _ ⟨F92, _, v98, v99, rfl, lv_sub hl [2, 3, 1, 0, 4] rfl, hP, hS, hI, hfr, (fun k hk => (y_fiZ oY95 (s_sub (by decide) hk)).trans (hz0 k hk)), trivial, ⟨by omega, by omega⟩, ⟨by omega, by omega⟩, ⟨by omega, by omega⟩, (by rw [y_fiZ oY95 (k := 2) (by decide), ← ev97]; omega)⟩
    · intro g H locs hq
      obtain ⟨F105, ls, w69, w70, rfl, hl, hP, hS, hI, hfr, hz0, h100, h101, h102, h103, h104⟩ := hq
      obtain ⟨z106, q107, oY108, bz109⟩ := y_opY hI ha0
      have hz0 : ∀ k, k ∈ ([1, 3, 4, 5, 6, 7, 8, 11, 15, 16, 19, 25, 26, 27, 31, 32] : List Nat) → z106 k = z0 k := fun k hk => (y_fiZ oY108 (s_sub (by decide) hk)).symm.trans (hz0 k hk)
      obtain ⟨v110, ev110⟩ : ∃ y : Int32, y = z106 2 := ⟨_, rfl⟩
      have qv110 : 0 ≤ v110.toInt ∧ v110.toInt ≤ 1600 := by rw [ev110]; exact y_bY2 bz109
      have h104 : (v110.toInt + w1.toInt ≤ 1600) := by have q9 := h104; rw [y_fiZ oY108 (k := 2) (by decide), ← ev110] at q9; exact q9
      obtain ⟨v111, ev111⟩ : ∃ y : Int32, w54 + 1 = y := ⟨_, rfl⟩
      have qv111 : v111.toInt = w54.toInt + 1 := by rw [← ev111]; exact th_add rfl (by decide) ⟨by omega, by omega⟩
      refine lv_iinc (v := v111) (lv' := [(4, .int v111), (0, .ref a0), (1, .int w1), (2, .int w69), (3, .int w70)]) hx hb dX7_ownHere_103 hl (k := 4) rfl ev111 (by decide) rfl (fun ls hl => ?_)
      refine lv_goto (tgt := 54) hx hb dX7_ownHere_106 (by decide) ?_
      exact ih54 _ _ _ _ (by omega) ⟨F105, _, w69, w70, v111, rfl, lv_sub hl [1, 2, 3, 4, 0] rfl, hP, hS, hI, hfr, (fun k hk => (y_fiZ oY108 (s_sub (by decide) hk)).trans (hz0 k hk)), trivial, ⟨by omega, by omega⟩, ⟨by omega, by omega⟩, ⟨by omega, by omega⟩, (by rw [y_fiZ oY108 (k := 2) (by decide), ← ev110]; omega), rfl⟩
