set_option maxHeartbeats 24000000 in
set_option maxRecDepth 100000 in
theorem y_X7_lineTold (l : Launch) (dC : Nat → ClassId) (dI : Nat → Nat → Nat) (sz : Nat) {L : List Nat} {K : Nat → Nat} {cs : Nat → ClassId} (hLK : ∀ a {k : Nat}, K a = k → k ≠ 0 → a ∈ L) (A : Nat → Nat) (hA : y_A K A) (F : Nat → va_E) (a0 : Nat) (x1 : Int32) (ha0 : K a0 = 9) (hI : y_I K cs A F) (hg9 : ((y_c (y_at F (A 12)) 387).toInt ≤ 39 ∧ (y_fi F a0 5).toInt = 0)) : Met l yX7_lineTold (Cond.code yX7_lineTold cX7_lineTold 4 none :: T0) ({ frames := 6, cells := 0, slots := 0, locals := 128 }) (va_Pc [.ref a0, .int x1] (s_W dC dI sz L F [(cs 0, .int), (cs 1, .byte), (cs 2, .long), (cs 3, .object RX5), (cs 4, .object RX4), (cs 5, .array .int), (cs 6, .char), (cs 7, .boolean)])) (va_Qv (fun (G : Nat → va_E) => True ∧ True ∧ y_I K cs A G ∧ (∀ b, K b ∉ [9, 62, 64] → G b = F b) ∧ (∀ k, k ∈ ([1, 3, 7, 8, 15, 16, 19, 25, 26, 27, 31, 32] : List Nat) → y_fi G a0 k = y_fi F a0 k) ∧ (((y_fi F a0 5).toInt = 0 ∨ ¬ (y_fi G a0 5).toInt = 0) ∧ (∀ j : Int, 0 ≤ j → j < 8 * (y_c (y_at F (A 12)) 387).toInt → y_c (y_at G (A 12)) j = y_c (y_at F (A 12)) j) ∧ (∀ j : Int, 8 * (y_c (y_at F (A 12)) 387).toInt + 8 ≤ j → j ≠ 387 → y_c (y_at G (A 12)) j = y_c (y_at F (A 12)) j) ∧ ((y_fi G a0 5).toInt = 0 → (y_c (y_at G (A 12)) 387).toInt = (y_c (y_at F (A 12)) 387).toInt + 1 ∧ y_rg (y_at G (A 12)) (y_c (y_at F (A 12)) 387).toInt))) (fun (G : Nat → va_E) (t : State) => va_P (dC, dI) vwCl (va_pl L G) t.heap ∧ va_K (dC, dI) vwCl [(cs 0, .int), (cs 1, .byte), (cs 2, .long), (cs 3, .object RX5), (cs 4, .object RX4), (cs 5, .array .int), (cs 6, .char), (cs 7, .boolean)] t) (fun q => q ∈ L)) 0 0 (fun q => q ∈ L) := by
  refine Met.ofW (cc := cX7_lineTold) (maxL := 4) (ret := none) (by decide) rfl ?_
  intro p e s m args below meth c s₁ B hml hv
  obtain ⟨rfl, hsz, hP, hK, hD, hN⟩ := hv
  have hx := B.exec
  have hb := B.bytes
  have hr := B.returns
  have hts : ∀ w ∈ T0, w.before _ s = true := fun w h => atoms_spec (ws := Cond.code yX7_lineTold cX7_lineTold 4 none :: T0) B.pre w (List.mem_cons_of_mem _ h)
  have hown : s.vm.findClass RX7 = some m.cls := findClass_of_methodNamed B.named
  have hlocks := B.notSynchronized
  have hS : va_S (fun q => q ∈ L) s.heap s.heap [] := va_S.rf
  have hfr : ∀ b, K b ∉ [9, 62, 64] → F b = F b := fun _ _ => rfl
  have hl := lv_entry ([.ref a0, .int x1]) (n := 4) (Nat.le_of_ble_eq_true rfl)
  rw [lg_entry_eq]
  generalize (lg_sl ([.ref a0, .int x1]) ++ List.replicate (4 - (lg_sl ([.ref a0, .int x1])).length) Slot.unset).toArray = ls at hl ⊢
  have hl : lv_has ls 4 [(0, .ref a0), (1, .int x1)] := hl
  refine s_gen hP hS (fun H locs hP hS => ?_)
  obtain ⟨z0, q0, oY0, bz0, bq0⟩ := y_opY hI ha0
  have hz0 : ∀ k, k ∈ ([1, 3, 7, 8, 15, 16, 19, 25, 26, 27, 31, 32] : List Nat) → z0 k = z0 k := fun _ _ => rfl
  obtain ⟨f1, o2, b3⟩ := y_op12 hI
  obtain ⟨v4, ev4⟩ : ∃ y : Int32, y = z0 5 := ⟨_, rfl⟩
  have eF_5 := ev4
  have hg9 : ((y_c f1 387).toInt ≤ 39 ∧ v4.toInt = 0) := by have q9 := hg9; rw [y_atE o2, y_fiZ oY0 (k := 5) (by decide), ← ev4] at q9; exact q9
  obtain ⟨nn, hnn⟩ : ∃ n : Int, n = (y_c f1 387).toInt := ⟨_, rfl⟩
  have hnb : 0 ≤ (y_c f1 387).toInt ∧ (y_c f1 387).toInt ≤ 40 := b3
  rw [← hnn] at hnb
  rw [← hnn] at hg9
  have e0_v4 := ev4
  refine th_join (fun g H locs => ∃ (G : Nat → va_E) (ls : Array Slot), g = F0 m 147 ls [] ∧ lv_has ls 4 [(0, .ref a0)] ∧ va_P (dC, dI) vwCl (va_pl L G) H ∧ va_S (fun q => q ∈ L) s.heap H locs ∧ y_I K cs A G ∧ (∀ b, K b ∉ [9, 62, 64] → G b = F b) ∧ (∀ k, k ∈ ([1, 3, 7, 8, 15, 16, 19, 25, 26, 27, 31, 32] : List Nat) → y_fi G a0 k = z0 k) ∧ (y_c (y_at G (A 12)) 387).toInt = nn ∧ (∀ j : Int, 0 ≤ j → (j < 8 * nn ∨ 8 * nn + 8 ≤ j) → y_c (y_at G (A 12)) j = y_c f1 j) ∧ ((y_fi G a0 5).toInt = 0 → (0 ≤ (y_c (y_at G (A 12)) (8 * nn)).toInt ∧ (y_c (y_at G (A 12)) (8 * nn)).toInt ≤ 15) ∧ (((y_c (y_at G (A 12)) (8 * nn)).toInt = 5 ∨ (y_c (y_at G (A 12)) (8 * nn)).toInt = 6 ∨ 12 ≤ (y_c (y_at G (A 12)) (8 * nn)).toInt) ∨ -4 ≤ (y_c (y_at G (A 12)) (8 * nn + 2)).toInt) ∧ (((y_c (y_at G (A 12)) (8 * nn)).toInt = 5 ∨ (y_c (y_at G (A 12)) (8 * nn)).toInt = 6 ∨ 12 ≤ (y_c (y_at G (A 12)) (8 * nn)).toInt ∨ (y_c (y_at G (A 12)) (8 * nn)).toInt = 0 ∨ (y_c (y_at G (A 12)) (8 * nn)).toInt = 7 ∨ (y_c (y_at G (A 12)) (8 * nn)).toInt = 9 ∨ (y_c (y_at G (A 12)) (8 * nn)).toInt = 11) ∨ -4 ≤ (y_c (y_at G (A 12)) (8 * nn + 3)).toInt) ∧ ((y_c (y_at G (A 12)) (8 * nn)).toInt ≠ 12 ∨ (y_c (y_at G (A 12)) (8 * nn + 5)).toInt = -1000000 ∨ (-4 ≤ (y_c (y_at G (A 12)) (8 * nn + 2)).toInt ∧ -4 ≤ (y_c (y_at G (A 12)) (8 * nn + 3)).toInt))) ∧ v4.toInt = 0) (fun K147 => ?_) ?_
  refine th_join (fun g H locs => ∃ (G : Nat → va_E) (ls : Array Slot) (w5 : Int32), g = F0 m 110 ls [] ∧ lv_has ls 4 [(0, .ref a0), (2, .int w5)] ∧ va_P (dC, dI) vwCl (va_pl L G) H ∧ va_S (fun q => q ∈ L) s.heap H locs ∧ y_I K cs A G ∧ (∀ b, K b ∉ [9, 62, 64] → G b = F b) ∧ (∀ k, k ∈ ([1, 3, 7, 8, 15, 16, 19, 25, 26, 27, 31, 32] : List Nat) → y_fi G a0 k = z0 k) ∧ True ∧ (y_c (y_at G (A 12)) 387).toInt = nn ∧ (∀ j : Int, 0 ≤ j → (j < 8 * nn ∨ 8 * nn + 8 ≤ j) → y_c (y_at G (A 12)) j = y_c f1 j) ∧ ((v4.toInt = 0 ∧ 0 ≤ w5.toInt ∧ w5.toInt ≤ 15) ∧ (y_c (y_at G (A 12)) (8 * nn + 5)).toInt = -1000000 ∧ ((y_fi G a0 5).toInt = 0 → (y_c (y_at G (A 12)) (8 * nn)).toInt = w5.toInt))) (fun K110 => ?_) ?_
  refine th_join (fun g H locs => ∃ (G : Nat → va_E) (ls : Array Slot) (w6 : Int32), g = F0 m 76 ls [] ∧ lv_has ls 4 [(0, .ref a0), (2, .int w6)] ∧ va_P (dC, dI) vwCl (va_pl L G) H ∧ va_S (fun q => q ∈ L) s.heap H locs ∧ y_I K cs A G ∧ (∀ b, K b ∉ [9, 62, 64] → G b = F b) ∧ (∀ k, k ∈ ([1, 3, 7, 8, 15, 16, 19, 25, 26, 27, 31, 32] : List Nat) → y_fi G a0 k = z0 k) ∧ True ∧ (y_c (y_at G (A 12)) 387).toInt = nn ∧ (∀ j : Int, 0 ≤ j → (j < 8 * nn ∨ 8 * nn + 8 ≤ j) → y_c (y_at G (A 12)) j = y_c f1 j) ∧ (v4.toInt = 0 ∧ (y_c (y_at G (A 12)) (8 * nn + 5)).toInt = -1000000 ∧ ((y_fi G a0 5).toInt = 0 → 0 ≤ w6.toInt ∧ w6.toInt ≤ 15))) (fun K76 => ?_) ?_
  · refine lv_iconst (v := 1) hx hb dX7_lineTold_0 (by decide) ?_
    refine lv_istore_n (lv' := [(2, .int 1), (0, .ref a0), (1, .int x1)]) hx hb dX7_lineTold_1 rfl hl (by decide) rfl (fun ls hl => ?_)
    have h8 : (1 : Int32).toInt = 1 := by decide
    refine th_loop (fun n g H locs => ∃ (G : Nat → va_E) (ls : Array Slot) (w7 : Int32), g = F0 m 2 ls [] ∧ lv_has ls 4 [(0, .ref a0), (1, .int x1), (2, .int w7)] ∧ va_P (dC, dI) vwCl (va_pl L G) H ∧ va_S (fun q => q ∈ L) s.heap H locs ∧ y_I K cs A G ∧ (∀ b, K b ∉ [9, 62, 64] → G b = F b) ∧ (∀ k, k ∈ ([1, 3, 7, 8, 15, 16, 19, 25, 26, 27, 31, 32] : List Nat) → y_fi G a0 k = z0 k) ∧ (1 ≤ w7.toInt ∧ w7.toInt ≤ 7) ∧ (y_c (y_at G (A 12)) 387).toInt = nn ∧ (∀ j : Int, 0 ≤ j → (j < 8 * nn ∨ 8 * nn + 8 ≤ j) → y_c (y_at G (A 12)) j = y_c f1 j) ∧ ((v4.toInt = 0 ∧ (y_fi G a0 5).toInt = 0) ∧ (6 ≤ w7.toInt → (y_c (y_at G (A 12)) (8 * nn + 5)).toInt = -1000000)) ∧ n = (8 - w7.toInt).toNat) _ ⟨F, _, 1, rfl, lv_sub hl [1, 2, 0] rfl, hP, hS, hI, hfr, (fun k hk => (y_fiZ oY0 (s_sub (by decide) hk)).trans (hz0 k hk)), (by decide), (by rw [y_atE o2]; exact hnn.symm), (by rw [y_atE o2]; exact (fun j _ _ => rfl)), (by first | (rw [y_fiZ oY0 (k := 5) (by decide), ← ev4, y_atE o2]; omega) | rw [y_fiZ oY0 (k := 5) (by decide), ← ev4, y_atE o2]), rfl⟩ (fun n ih2 g H locs hq => ?_)
    obtain ⟨F13, ls, w7, rfl, hl, hP, hS, hI, hfr, hz0, h9, h10, h11, h12, hn⟩ := hq
    obtain ⟨z14, q15, oY16, bz17, bq18⟩ := y_opY hI ha0
    have hz0 : ∀ k, k ∈ ([1, 3, 7, 8, 15, 16, 19, 25, 26, 27, 31, 32] : List Nat) → z14 k = z0 k := fun k hk => (y_fiZ oY16 (s_sub (by decide) hk)).symm.trans (hz0 k hk)
    obtain ⟨f19, o20, b21⟩ := y_op12 hI
    have h10 : (y_c f19 387).toInt = nn := by have q9 := h10; rw [y_atE o20] at q9; exact q9
    have h11 : (∀ j : Int, 0 ≤ j → (j < 8 * nn ∨ 8 * nn + 8 ≤ j) → y_c f19 j = y_c f1 j) := by have q9 := h11; rw [y_atE o20] at q9; exact q9
    obtain ⟨v22, ev22⟩ : ∃ y : Int32, y = z14 5 := ⟨_, rfl⟩
    have h12 : ((v4.toInt = 0 ∧ v22.toInt = 0) ∧ (6 ≤ w7.toInt → (y_c f19 (8 * nn + 5)).toInt = -1000000)) := by have q9 := h12; rw [y_fiZ oY16 (k := 5) (by decide), ← ev22, y_atE o20] at q9; exact q9
    have hn_22 := hn
    refine lv_iload_n hx hb dX7_lineTold_2 rfl (lv_at hl 2 rfl) ?_
    refine lv_bipush (v := 7) hx hb dX7_lineTold_3 (by decide) ?_
    refine lv_icmp_ge (tgt := 21) hx hb dX7_lineTold_5 (by decide) (fun c23 => ?_) (fun c23 => ?_)
    · have c23 := (ax_ge (n := 7) (by decide)).mp c23
      refine lv_aload_n hx hb dX7_lineTold_21 rfl (lv_at hl 0 rfl) ?_
      refine lv_bipush (v := 7) hx hb dX7_lineTold_22 (by decide) ?_
      refine lv_iload_n hx hb dX7_lineTold_24 rfl (lv_at hl 1 rfl) ?_
      have ep24_5 := ev22
      refine va_callv (va_runV (As := [.int 7, .int x1]) (rest := []) ⟨hx, hb, hml, hown, hts⟩ (y_X7_lays l dC dI H.size hLK A hA F13 a0 7 x1 ha0 (by decide) hI) (cwV 2 hts (ax_gV T_1115 T_1117 T_1118 T_265 T_1116) rfl rfl rfl (by decide +kernel) ⟨Nat.le_of_ble_eq_true rfl, Nat.le_of_ble_eq_true rfl⟩) ⟨fun a U g mk q => ⟨q.1, s_pc rfl rfl q.2⟩, s_recv hK hP (hLK _ ha0 (by decide)) (ci := 7) rfl oY16, fun U hU hW => ⟨rfl, s_pw hU hW hP hK hD hN⟩⟩ rfl rfl hl.1 rfl (lv_room (Nat.le_of_ble_eq_true rfl)) dX7_lineTold_25 ⟨Nat.zero_le _, Nat.zero_le _⟩) hS (fun q _ h => h) (fun q h => h) (fun F25 t H1 locs ht hvm hw hB hz1 hk1 hS => ?_)
      obtain ⟨hP, hK1⟩ := hB
      rw [ht] at hP
      generalize H1 = H at hP hS ⊢
      obtain ⟨h26, h28, hI, hfr1, hzf, h27⟩ := hw
      have oY29 : F25 a0 = .inr (7, y_fl A z14 q15) := (hfr1 _ (by rw [ha0]; decide)).trans oY16
      have hfr : ∀ b, K b ∉ [9, 62, 64] → F25 b = F b := fun b hb9 => (hfr1 b (fun q => hb9 (s_sub (by decide) q))).trans (hfr b hb9)
      obtain ⟨f30, o31, b32⟩ := y_op12 hI
      have h27 : ((∀ j : Int, 0 ≤ j → j ≠ 8 * (y_c f19 387).toInt + 7 → y_c f30 j = y_c f19 j) ∧ (v22.toInt = 0 → y_c f30 (8 * (y_c f19 387).toInt + 7) = x1)) := by have q9 := h27; rw [y_atE o20, y_atE o31, y_fiZ oY16 (k := 5) (by decide), ← ep24_5] at q9; exact q9
      rw [h10] at h27
      have hn33 : (y_c f30 387).toInt = nn := by rw [h27.1 387 (by omega) (by omega)]; exact h10
      have hfr34 : ∀ j : Int, 0 ≤ j → (j < 8 * nn ∨ 8 * nn + 8 ≤ j) → y_c f30 j = y_c f1 j := fun j h0 h1 => (h27.1 j h0 (by omega)).trans (h11 j h0 h1)
      have h35 : (y_c f30 (8 * nn + 5)).toInt = (y_c f19 (8 * nn + 5)).toInt := (congrArg Int32.toInt (h27.1 _ (by omega) (by omega)))
      refine lv_aload_n hx hb dX7_lineTold_28 rfl (lv_at hl 0 rfl) ?_
      refine va_calli (va_runV (As := []) (rest := []) ⟨hx, hb, hml, hown, hts⟩ (y_X7_ownHere l dC dI H.size hLK A hA F25 a0 ha0 hI) (cwV 0 hts (ax_gV T_283 T_284 T_285 T_265 T_25) rfl rfl rfl (by decide +kernel) ⟨Nat.le_of_ble_eq_true rfl, Nat.le_of_ble_eq_true rfl⟩) ⟨fun a U g mk q => ⟨q.1, s_pc rfl rfl q.2⟩, s_recv hK hP (hLK _ ha0 (by decide)) (ci := 7) rfl oY29, fun U hU hW => ⟨rfl, s_pw hU hW hP hK hD hN⟩⟩ rfl rfl hl.1 rfl (lv_room (Nat.le_of_ble_eq_true rfl)) dX7_lineTold_29 ⟨Nat.zero_le _, Nat.zero_le _⟩) hS (fun q _ h => h) (fun q h => h) (fun r37 F38 t H1 locs ht hvm hw hB hz1 hk1 hS => ?_)
      obtain ⟨hP, hK1⟩ := hB
      rw [ht] at hP
      generalize H1 = H at hP hS ⊢
      obtain ⟨h39, h41, hI, hfr1, hzf, h40⟩ := hw
      have o42 : F38 (A 12) = .inl (cs 0, 400, .inl f30) := (hfr1 _ (by rw [(y_k12 hA)]; decide)).trans o31
      obtain ⟨z43, q44, oY45, bz46, bq47⟩ := y_opY hI ha0
      have hzf : ∀ k, k ∈ ([1, 3, 4, 5, 6, 7, 8, 11, 15, 16, 19, 25, 26, 27, 31, 32] : List Nat) → z43 k = z14 k := fun k hk => by have q9 := hzf k hk; rw [y_fiZ oY45 (s_sub (by decide) hk), y_fiZ oY29 (s_sub (by decide) hk)] at q9; exact q9
      have hz0 : ∀ k, k ∈ ([1, 3, 7, 8, 15, 16, 19, 25, 26, 27, 31, 32] : List Nat) → z43 k = z0 k := fun k hk => (hzf k (s_sub (by decide) hk)).trans (hz0 k hk)
      have ev22 : v22 = z43 5 := ev22.trans (hzf 5 (by decide)).symm
      have hfr : ∀ b, K b ∉ [9, 62, 64] → F38 b = F b := fun b hb9 => (hfr1 b (fun q => hb9 (s_sub (by decide) q))).trans (hfr b hb9)
      refine lv_istore_n (lv' := [(2, .int r37), (0, .ref a0), (1, .int x1)]) hx hb dX7_lineTold_32 rfl hl (by decide) rfl (fun ls hl => ?_)
      refine lv_aload_n hx hb dX7_lineTold_33 rfl (lv_at hl 1 rfl) ?_
      refine th_get (D := (dC, dI)) (ci := 7) (v := .int (z43 5)) (C := RX7) (T := TX7) (N := 34) hx hb hts inX7 hown hK hP (hLK _ ha0 (by decide)) oY45 rfl 5 (by decide) (hts _ T_274) (fun _ h9 => h9) rfl dX7_lineTold_34 ?_
      refine ax_eqi (y := v22) ev22.symm ?_
      refine lv_if_ne (tgt := 76) hx hb dX7_lineTold_37 (by decide) (fun c48 => ?_) (fun c48 => ?_)
      · have c48 := mt (ax_eq (n := 0) (by decide)).mpr c48
        exact K76 _ _ _ ⟨F38, _, r37, rfl, lv_sub hl [1, 0] rfl, hP, hS, hI, hfr, (fun k hk => (y_fiZ oY45 (s_sub (by decide) hk)).trans (hz0 k hk)), trivial, (by rw [y_atE o42]; exact hn33), (by rw [y_atE o42]; exact hfr34), (by first | (rw [y_atE o42, y_fiZ oY45 (k := 5) (by decide), ← ev22]; omega) | rw [y_atE o42, y_fiZ oY45 (k := 5) (by decide), ← ev22])⟩
      · have c48 := (ax_eq (n := 0) (by decide)).mp c48
        refine lv_iload_n hx hb dX7_lineTold_40 rfl (lv_at hl 0 rfl) ?_
        refine lv_i2l hx hb dX7_lineTold_41 rfl ?_
        refine lv_topl (fun v49 ev49 => ?_)
        have qv49 : v49.toInt = r37.toInt := y_i2l ev49
        refine lv_lconst (v := 0) hx hb dX7_lineTold_42 (by decide) ?_
        refine lv_ldc2 hx hb hown (hts _ T_1256) dX7_lineTold_43 ?_
        refine va_calli (va_runS (As := [.long v49, .long 0, .long 15]) (rest := []) ⟨hx, hb, hml, hown, hts⟩ (y_X7_isIn l dC dI H.size F38 v49 0 15) (cwS 3 hts (ax_gS T_267 T_268 T_265 T_21) rfl rfl rfl (by decide +kernel) ⟨Nat.le_of_ble_eq_true rfl, Nat.le_of_ble_eq_true rfl⟩) ⟨fun a U g mk q => ⟨q.1, s_pc rfl rfl q.2⟩, fun U hU hW => ⟨rfl, s_pw hU hW hP hK hD hN⟩⟩ rfl rfl hl.1 rfl (lv_room (Nat.le_of_ble_eq_true rfl)) dX7_lineTold_46 ⟨Nat.zero_le _, Nat.zero_le _⟩) hS (fun q _ h => h) (fun q h => h) (fun r51 F52 t H1 locs ht hvm hw hB hz1 hk1 hS => ?_)
        obtain ⟨hP, hK1⟩ := hB
        rw [ht] at hP
        generalize H1 = H at hP hS ⊢
        obtain ⟨h53, h55, hG9, h54⟩ := hw
        rw [hG9] at hP
        have h54 : ((r51.toInt = 0 ∧ (v49.toInt < 0 ∨ 15 < v49.toInt)) ∨ (r51.toInt = 1 ∧ 0 ≤ v49.toInt ∧ v49.toInt ≤ 15)) := by have q9 := h54; exact q9
        refine lv_if_ne (tgt := 76) hx hb dX7_lineTold_49 (by decide) (fun c56 => ?_) (fun c56 => ?_)
        · have c56 := mt (ax_eq (n := 0) (by decide)).mpr c56
          exact K76 _ _ _ ⟨F38, _, r37, rfl, lv_sub hl [1, 0] rfl, hP, hS, hI, hfr, (fun k hk => (y_fiZ oY45 (s_sub (by decide) hk)).trans (hz0 k hk)), trivial, (by rw [y_atE o42]; exact hn33), (by rw [y_atE o42]; exact hfr34), (by first | (rw [y_atE o42, y_fiZ oY45 (k := 5) (by decide), ← ev22]; omega) | rw [y_atE o42, y_fiZ oY45 (k := 5) (by decide), ← ev22])⟩
        · have c56 := (ax_eq (n := 0) (by decide)).mp c56
          refine lv_aload_n hx hb dX7_lineTold_52 rfl (lv_at hl 1 rfl) ?_
          refine lv_iconst (v := 1) hx hb dX7_lineTold_53 (by decide) ?_
          refine lv_aload_n hx hb dX7_lineTold_54 rfl (lv_at hl 1 rfl) ?_
          refine va_calli (va_runV (As := []) (rest := [.int 1, .ref a0]) ⟨hx, hb, hml, hown, hts⟩ (y_X7_look l dC dI H.size hLK A hA F38 a0 ha0 hI) (cwV 0 hts (ax_gV T_275 T_276 T_277 T_265 T_22) rfl rfl rfl (by decide +kernel) ⟨Nat.le_of_ble_eq_true rfl, Nat.le_of_ble_eq_true rfl⟩) ⟨fun a U g mk q => ⟨q.1, s_pc rfl rfl q.2⟩, s_recv hK hP (hLK _ ha0 (by decide)) (ci := 7) rfl oY45, fun U hU hW => ⟨rfl, s_pw hU hW hP hK hD hN⟩⟩ rfl rfl hl.1 rfl (lv_room (Nat.le_of_ble_eq_true rfl)) dX7_lineTold_55 ⟨Nat.zero_le _, Nat.zero_le _⟩) hS (fun q _ h => h) (fun q h => h) (fun r58 F59 t H1 locs ht hvm hw hB hz1 hk1 hS => ?_)
          obtain ⟨hP, hK1⟩ := hB
          rw [ht] at hP
          generalize H1 = H at hP hS ⊢
          obtain ⟨h60, h62, hI, hfr1, hzf, h61⟩ := hw
          have o63 : F59 (A 12) = .inl (cs 0, 400, .inl f30) := (hfr1 _ (by rw [(y_k12 hA)]; decide)).trans o42
          obtain ⟨z64, q65, oY66, bz67, bq68⟩ := y_opY hI ha0
          have hzf : ∀ k, k ∈ ([1, 3, 4, 5, 6, 7, 8, 11, 15, 16, 19, 25, 26, 27, 31, 32] : List Nat) → z64 k = z43 k := fun k hk => by have q9 := hzf k hk; rw [y_fiZ oY66 (s_sub (by decide) hk), y_fiZ oY45 (s_sub (by decide) hk)] at q9; exact q9
          have hz0 : ∀ k, k ∈ ([1, 3, 7, 8, 15, 16, 19, 25, 26, 27, 31, 32] : List Nat) → z64 k = z0 k := fun k hk => (hzf k (s_sub (by decide) hk)).trans (hz0 k hk)
          have ev22 : v22 = z64 5 := ev22.trans (hzf 5 (by decide)).symm
          have hfr : ∀ b, K b ∉ [9, 62, 64] → F59 b = F b := fun b hb9 => (hfr1 b (fun q => hb9 (s_sub (by decide) q))).trans (hfr b hb9)
          obtain ⟨v69, ev69⟩ : ∃ y : Int32, y = z64 2 := ⟨_, rfl⟩
          have qv69 : 0 ≤ v69.toInt ∧ v69.toInt ≤ 1600 := by rw [ev69]; exact y_bY2 bz67
          obtain ⟨v70, ev70⟩ : ∃ y : Int32, y = z64 3 := ⟨_, rfl⟩
          have qv70 : 0 ≤ v70.toInt ∧ v70.toInt ≤ 1600 := by rw [ev70]; exact y_bY3 bz67
          have h61 : (r58.toInt = -1 ∨ v69.toInt < v70.toInt) := by have q9 := h61; rw [y_fiZ oY66 (k := 2) (by decide), ← ev69, y_fiZ oY66 (k := 3) (by decide), ← ev70] at q9; exact q9
          refine lv_iconst (v := (-1)) hx hb dX7_lineTold_58 (by decide) ?_
          refine lv_icmp_ne (tgt := 69) hx hb dX7_lineTold_59 (by decide) (fun c71 => ?_) (fun c71 => ?_)
          · have c71 := mt (ax_eq (n := (-1)) (by decide)).mpr c71
            refine lv_aload_n hx hb dX7_lineTold_69 rfl (lv_at hl 1 rfl) ?_
            refine th_get (D := (dC, dI)) (ci := 7) (v := .int (z64 2)) (C := RX7) (T := TX7) (N := 34) hx hb hts inX7 hown hK hP (hLK _ ha0 (by decide)) oY66 rfl 2 (by decide) (hts _ T_272) (fun _ h9 => h9) rfl dX7_lineTold_70 ?_
            refine ax_eqi (y := v69) ev69.symm ?_
            refine va_callv (va_runV (As := [.int 1, .int v69]) (rest := []) ⟨hx, hb, hml, hown, hts⟩ (y_X7_fail l dC dI H.size hLK A hA F59 a0 1 v69 ha0 (by decide) hI) (cwV 2 hts (ax_gV T_290 T_291 T_292 T_265 T_27) rfl rfl rfl (by decide +kernel) ⟨Nat.le_of_ble_eq_true rfl, Nat.le_of_ble_eq_true rfl⟩) ⟨fun a U g mk q => ⟨q.1, s_pc rfl rfl q.2⟩, s_recv hK hP (hLK _ ha0 (by decide)) (ci := 7) rfl oY66, fun U hU hW => ⟨rfl, s_pw hU hW hP hK hD hN⟩⟩ rfl rfl hl.1 rfl (lv_room (Nat.le_of_ble_eq_true rfl)) dX7_lineTold_73 ⟨Nat.zero_le _, Nat.zero_le _⟩) hS (fun q _ h => h) (fun q h => h) (fun F73 t H1 locs ht hvm hw hB hz1 hk1 hS => ?_)
            obtain ⟨hP, hK1⟩ := hB
            rw [ht] at hP
            generalize H1 = H at hP hS ⊢
            obtain ⟨h74, h76, hI, hfr1, hzf, h75⟩ := hw
            have o77 : F73 (A 12) = .inl (cs 0, 400, .inl f30) := (hfr1 _ (by rw [(y_k12 hA)]; decide)).trans o63
            obtain ⟨z78, q79, oY80, bz81, bq82⟩ := y_opY hI ha0
            have hzf : ∀ k, k ∈ ([1, 2, 3, 4, 7, 8, 11, 15, 16, 19, 25, 26, 27, 31, 32] : List Nat) → z78 k = z64 k := fun k hk => by have q9 := hzf k hk; rw [y_fiZ oY80 (s_sub (by decide) hk), y_fiZ oY66 (s_sub (by decide) hk)] at q9; exact q9
            have hz0 : ∀ k, k ∈ ([1, 3, 7, 8, 15, 16, 19, 25, 26, 27, 31, 32] : List Nat) → z78 k = z0 k := fun k hk => (hzf k (s_sub (by decide) hk)).trans (hz0 k hk)
            have ev69 : v69 = z78 2 := ev69.trans (hzf 2 (by decide)).symm
            have ev70 : v70 = z78 3 := ev70.trans (hzf 3 (by decide)).symm
            have hfr : ∀ b, K b ∉ [9, 62, 64] → F73 b = F b := fun b hb9 => (hfr1 b (fun q => hb9 (s_sub (by decide) q))).trans (hfr b hb9)
            obtain ⟨v83, ev83⟩ : ∃ y : Int32, y = z78 5 := ⟨_, rfl⟩
            have h75 : (¬ v83.toInt = 0) := by have q9 := h75; rw [y_fiZ oY80 (k := 5) (by decide), ← ev83] at q9; exact q9
            exact K76 _ _ _ ⟨F73, _, r37, rfl, lv_sub hl [1, 0] rfl, hP, hS, hI, hfr, (fun k hk => (y_fiZ oY80 (s_sub (by decide) hk)).trans (hz0 k hk)), trivial, (by rw [y_atE o77]; exact hn33), (by rw [y_atE o77]; exact hfr34), (by first | (rw [y_atE o77, y_fiZ oY80 (k := 5) (by decide), ← ev83]; omega) | rw [y_atE o77, y_fiZ oY80 (k := 5) (by decide), ← ev83])⟩
          · have c71 := (ax_eq (n := (-1)) (by decide)).mp c71
            refine lv_aload_n hx hb dX7_lineTold_62 rfl (lv_at hl 1 rfl) ?_
            refine th_get (D := (dC, dI)) (ci := 7) (v := .int (z64 3)) (C := RX7) (T := TX7) (N := 34) hx hb hts inX7 hown hK hP (hLK _ ha0 (by decide)) oY66 rfl 3 (by decide) (hts _ T_273) (fun _ h9 => h9) rfl dX7_lineTold_63 ?_
            refine ax_eqi (y := v70) ev70.symm ?_
            refine lv_goto (tgt := 73) hx hb dX7_lineTold_66 (by decide) ?_
            refine va_callv (va_runV (As := [.int 1, .int v70]) (rest := []) ⟨hx, hb, hml, hown, hts⟩ (y_X7_fail l dC dI H.size hLK A hA F59 a0 1 v70 ha0 (by decide) hI) (cwV 2 hts (ax_gV T_290 T_291 T_292 T_265 T_27) rfl rfl rfl (by decide +kernel) ⟨Nat.le_of_ble_eq_true rfl, Nat.le_of_ble_eq_true rfl⟩) ⟨fun a U g mk q => ⟨q.1, s_pc rfl rfl q.2⟩, s_recv hK hP (hLK _ ha0 (by decide)) (ci := 7) rfl oY66, fun U hU hW => ⟨rfl, s_pw hU hW hP hK hD hN⟩⟩ rfl rfl hl.1 rfl (lv_room (Nat.le_of_ble_eq_true rfl)) dX7_lineTold_73 ⟨Nat.zero_le _, Nat.zero_le _⟩) hS (fun q _ h => h) (fun q h => h) (fun F85 t H1 locs ht hvm hw hB hz1 hk1 hS => ?_)
            obtain ⟨hP, hK1⟩ := hB
            rw [ht] at hP
            generalize H1 = H at hP hS ⊢
            obtain ⟨h86, h88, hI, hfr1, hzf, h87⟩ := hw
            have o89 : F85 (A 12) = .inl (cs 0, 400, .inl f30) := (hfr1 _ (by rw [(y_k12 hA)]; decide)).trans o63
            obtain ⟨z90, q91, oY92, bz93, bq94⟩ := y_opY hI ha0
            have hzf : ∀ k, k ∈ ([1, 2, 3, 4, 7, 8, 11, 15, 16, 19, 25, 26, 27, 31, 32] : List Nat) → z90 k = z64 k := fun k hk => by have q9 := hzf k hk; rw [y_fiZ oY92 (s_sub (by decide) hk), y_fiZ oY66 (s_sub (by decide) hk)] at q9; exact q9
            have hz0 : ∀ k, k ∈ ([1, 3, 7, 8, 15, 16, 19, 25, 26, 27, 31, 32] : List Nat) → z90 k = z0 k := fun k hk => (hzf k (s_sub (by decide) hk)).trans (hz0 k hk)
            have ev69 : v69 = z90 2 := ev69.trans (hzf 2 (by decide)).symm
            have ev70 : v70 = z90 3 := ev70.trans (hzf 3 (by decide)).symm
            have hfr : ∀ b, K b ∉ [9, 62, 64] → F85 b = F b := fun b hb9 => (hfr1 b (fun q => hb9 (s_sub (by decide) q))).trans (hfr b hb9)
            obtain ⟨v95, ev95⟩ : ∃ y : Int32, y = z90 5 := ⟨_, rfl⟩
            have h87 : (¬ v95.toInt = 0) := by have q9 := h87; rw [y_fiZ oY92 (k := 5) (by decide), ← ev95] at q9; exact q9
            exact K76 _ _ _ ⟨F85, _, r37, rfl, lv_sub hl [1, 0] rfl, hP, hS, hI, hfr, (fun k hk => (y_fiZ oY92 (s_sub (by decide) hk)).trans (hz0 k hk)), trivial, (by rw [y_atE o89]; exact hn33), (by rw [y_atE o89]; exact hfr34), (by first | (rw [y_atE o89, y_fiZ oY92 (k := 5) (by decide), ← ev95]; omega) | rw [y_atE o89, y_fiZ oY92 (k := 5) (by decide), ← ev95])⟩
    · have c23 := mt (ax_ge (n := 7) (by decide)).mpr c23
      refine lv_aload_n hx hb dX7_lineTold_8 rfl (lv_at hl 0 rfl) ?_
      refine lv_iload_n hx hb dX7_lineTold_9 rfl (lv_at hl 2 rfl) ?_
      refine lv_ldc (v := (-1000000)) hx hb hown (hts _ T_316) dX7_lineTold_10 ?_
      have ep96_5 := ev22
      refine va_callv (va_runV (As := [.int w7, .int (-1000000)]) (rest := []) ⟨hx, hb, hml, hown, hts⟩ (y_X7_lays l dC dI H.size hLK A hA F13 a0 w7 (-1000000) ha0 (⟨by omega, by omega⟩) hI) (cwV 2 hts (ax_gV T_1115 T_1117 T_1118 T_265 T_1116) rfl rfl rfl (by decide +kernel) ⟨Nat.le_of_ble_eq_true rfl, Nat.le_of_ble_eq_true rfl⟩) ⟨fun a U g mk q => ⟨q.1, s_pc rfl rfl q.2⟩, s_recv hK hP (hLK _ ha0 (by decide)) (ci := 7) rfl oY16, fun U hU hW => ⟨rfl, s_pw hU hW hP hK hD hN⟩⟩ rfl rfl hl.1 rfl (lv_room (Nat.le_of_ble_eq_true rfl)) dX7_lineTold_12 ⟨Nat.zero_le _, Nat.zero_le _⟩) hS (fun q _ h => h) (fun q h => h) (fun F97 t H1 locs ht hvm hw hB hz1 hk1 hS => ?_)
      obtain ⟨hP, hK1⟩ := hB
      rw [ht] at hP
      generalize H1 = H at hP hS ⊢
      obtain ⟨h98, h100, hI, hfr1, hzf, h99⟩ := hw
      have oY101 : F97 a0 = .inr (7, y_fl A z14 q15) := (hfr1 _ (by rw [ha0]; decide)).trans oY16
      have hfr : ∀ b, K b ∉ [9, 62, 64] → F97 b = F b := fun b hb9 => (hfr1 b (fun q => hb9 (s_sub (by decide) q))).trans (hfr b hb9)
      obtain ⟨f102, o103, b104⟩ := y_op12 hI
      have h99 : ((∀ j : Int, 0 ≤ j → j ≠ 8 * (y_c f19 387).toInt + w7.toInt → y_c f102 j = y_c f19 j) ∧ (v22.toInt = 0 → y_c f102 (8 * (y_c f19 387).toInt + w7.toInt) = (-1000000))) := by have q9 := h99; rw [y_atE o20, y_atE o103, y_fiZ oY16 (k := 5) (by decide), ← ep96_5] at q9; exact q9
      rw [h10] at h99
      have hn105 : (y_c f102 387).toInt = nn := by rw [h99.1 387 (by omega) (by omega)]; exact h10
      have hfr106 : ∀ j : Int, 0 ≤ j → (j < 8 * nn ∨ 8 * nn + 8 ≤ j) → y_c f102 j = y_c f1 j := fun j h0 h1 => (h99.1 j h0 (by omega)).trans (h11 j h0 h1)
      have h107 : w7.toInt = 5 → v22.toInt = 0 → (y_c f102 (8 * nn + 5)).toInt = (-1000000) := fun h8 => (fun h9 => (congrArg (fun i => (y_c f102 i).toInt) (show 8 * nn + 5 = 8 * nn + w7.toInt by omega)).trans ((congrArg Int32.toInt (h99.2 h9)).trans (by decide)))
      have h108 : w7.toInt ≠ 5 → (y_c f102 (8 * nn + 5)).toInt = (y_c f19 (8 * nn + 5)).toInt := fun h8 => (congrArg Int32.toInt (h99.1 _ (by omega) (by omega)))
      obtain ⟨v109, ev109⟩ : ∃ y : Int32, w7 + 1 = y := ⟨_, rfl⟩
      have qv109 : v109.toInt = w7.toInt + 1 := by rw [← ev109]; exact th_add rfl (by decide) ⟨by omega, by omega⟩
      refine lv_iinc (v := v109) (lv' := [(2, .int v109), (0, .ref a0), (1, .int x1)]) hx hb dX7_lineTold_15 hl (k := 2) rfl ev109 (by decide) rfl (fun ls hl => ?_)
      refine lv_goto (tgt := 2) hx hb dX7_lineTold_18 (by decide) ?_
      exact ih2 _ _ _ _ (by omega) ⟨F97, _, v109, rfl, lv_sub hl [1, 2, 0] rfl, hP, hS, hI, hfr, (fun k hk => (y_fiZ oY101 (s_sub (by decide) hk)).trans (hz0 k hk)), ⟨by omega, by omega⟩, (by rw [y_atE o103]; exact hn105), (by rw [y_atE o103]; exact hfr106), (by first | (rw [y_fiZ oY101 (k := 5) (by decide), ← ev22, y_atE o103]; omega) | rw [y_fiZ oY101 (k := 5) (by decide), ← ev22, y_atE o103]), rfl⟩
  · intro g H locs hq
    obtain ⟨F114, ls, w6, rfl, hl, hP, hS, hI, hfr, hz0, h110, h111, h112, h113⟩ := hq
    obtain ⟨z115, q116, oY117, bz118, bq119⟩ := y_opY hI ha0
    have hz0 : ∀ k, k ∈ ([1, 3, 7, 8, 15, 16, 19, 25, 26, 27, 31, 32] : List Nat) → z115 k = z0 k := fun k hk => (y_fiZ oY117 (s_sub (by decide) hk)).symm.trans (hz0 k hk)
    obtain ⟨f120, o121, b122⟩ := y_op12 hI
    have h111 : (y_c f120 387).toInt = nn := by have q9 := h111; rw [y_atE o121] at q9; exact q9
    have h112 : (∀ j : Int, 0 ≤ j → (j < 8 * nn ∨ 8 * nn + 8 ≤ j) → y_c f120 j = y_c f1 j) := by have q9 := h112; rw [y_atE o121] at q9; exact q9
    obtain ⟨v123, ev123⟩ : ∃ y : Int32, y = z115 5 := ⟨_, rfl⟩
    have h113 : (v4.toInt = 0 ∧ (y_c f120 (8 * nn + 5)).toInt = -1000000 ∧ (v123.toInt = 0 → 0 ≤ w6.toInt ∧ w6.toInt ≤ 15)) := by have q9 := h113; rw [y_atE o121, y_fiZ oY117 (k := 5) (by decide), ← ev123] at q9; exact q9
    refine lv_aload_n hx hb dX7_lineTold_76 rfl (lv_at hl 0 rfl) ?_
    refine th_get (D := (dC, dI)) (ci := 7) (v := .int (z115 5)) (C := RX7) (T := TX7) (N := 34) hx hb hts inX7 hown hK hP (hLK _ ha0 (by decide)) oY117 rfl 5 (by decide) (hts _ T_274) (fun _ h9 => h9) rfl dX7_lineTold_77 ?_
    refine ax_eqi (y := v123) ev123.symm ?_
    refine lv_if_eq (tgt := 84) hx hb dX7_lineTold_80 (by decide) (fun c124 => ?_) (fun c124 => ?_)
    · have c124 := (ax_eq (n := 0) (by decide)).mp c124
      refine lv_aload_n hx hb dX7_lineTold_84 rfl (lv_at hl 0 rfl) ?_
      refine va_callv (va_runV (As := []) (rest := []) ⟨hx, hb, hml, hown, hts⟩ (y_X7_passes l dC dI H.size hLK A hA F114 a0 ha0 hI) (cwV 0 hts (ax_gV T_1257 T_1259 T_1260 T_265 T_1258) rfl rfl rfl (by decide +kernel) ⟨Nat.le_of_ble_eq_true rfl, Nat.le_of_ble_eq_true rfl⟩) ⟨fun a U g mk q => ⟨q.1, s_pc rfl rfl q.2⟩, s_recv hK hP (hLK _ ha0 (by decide)) (ci := 7) rfl oY117, fun U hU hW => ⟨rfl, s_pw hU hW hP hK hD hN⟩⟩ rfl rfl hl.1 rfl (lv_room (Nat.le_of_ble_eq_true rfl)) dX7_lineTold_85 ⟨Nat.zero_le _, Nat.zero_le _⟩) hS (fun q _ h => h) (fun q h => h) (fun F126 t H1 locs ht hvm hw hB hz1 hk1 hS => ?_)
      obtain ⟨hP, hK1⟩ := hB
      rw [ht] at hP
      generalize H1 = H at hP hS ⊢
      obtain ⟨h127, h129, hI, hfr1, hzf, h128⟩ := hw
      have o130 : F126 (A 12) = .inl (cs 0, 400, .inl f120) := (hfr1 _ (by rw [(y_k12 hA)]; decide)).trans o121
      obtain ⟨z131, q132, oY133, bz134, bq135⟩ := y_opY hI ha0
      have hzf : ∀ k, k ∈ ([1, 3, 5, 6, 7, 8, 11, 15, 16, 19, 25, 26, 27, 31, 32] : List Nat) → z131 k = z115 k := fun k hk => by have q9 := hzf k hk; rw [y_fiZ oY133 (s_sub (by decide) hk), y_fiZ oY117 (s_sub (by decide) hk)] at q9; exact q9
      have hz0 : ∀ k, k ∈ ([1, 3, 7, 8, 15, 16, 19, 25, 26, 27, 31, 32] : List Nat) → z131 k = z0 k := fun k hk => (hzf k (s_sub (by decide) hk)).trans (hz0 k hk)
      have ev123 : v123 = z131 5 := ev123.trans (hzf 5 (by decide)).symm
      have hfr : ∀ b, K b ∉ [9, 62, 64] → F126 b = F b := fun b hb9 => (hfr1 b (fun q => hb9 (s_sub (by decide) q))).trans (hfr b hb9)
      refine lv_aload_n hx hb dX7_lineTold_88 rfl (lv_at hl 0 rfl) ?_
      refine lv_iconst (v := 0) hx hb dX7_lineTold_89 (by decide) ?_
      refine lv_iload_n hx hb dX7_lineTold_90 rfl (lv_at hl 1 rfl) ?_
      have ep136_5 := ev123
      refine va_callv (va_runV (As := [.int 0, .int w6]) (rest := []) ⟨hx, hb, hml, hown, hts⟩ (y_X7_lays l dC dI H.size hLK A hA F126 a0 0 w6 ha0 (by decide) hI) (cwV 2 hts (ax_gV T_1115 T_1117 T_1118 T_265 T_1116) rfl rfl rfl (by decide +kernel) ⟨Nat.le_of_ble_eq_true rfl, Nat.le_of_ble_eq_true rfl⟩) ⟨fun a U g mk q => ⟨q.1, s_pc rfl rfl q.2⟩, s_recv hK hP (hLK _ ha0 (by decide)) (ci := 7) rfl oY133, fun U hU hW => ⟨rfl, s_pw hU hW hP hK hD hN⟩⟩ rfl rfl hl.1 rfl (lv_room (Nat.le_of_ble_eq_true rfl)) dX7_lineTold_91 ⟨Nat.zero_le _, Nat.zero_le _⟩) hS (fun q _ h => h) (fun q h => h) (fun F137 t H1 locs ht hvm hw hB hz1 hk1 hS => ?_)
      obtain ⟨hP, hK1⟩ := hB
      rw [ht] at hP
      generalize H1 = H at hP hS ⊢
      obtain ⟨h138, h140, hI, hfr1, hzf, h139⟩ := hw
      have oY141 : F137 a0 = .inr (7, y_fl A z131 q132) := (hfr1 _ (by rw [ha0]; decide)).trans oY133
      have hfr : ∀ b, K b ∉ [9, 62, 64] → F137 b = F b := fun b hb9 => (hfr1 b (fun q => hb9 (s_sub (by decide) q))).trans (hfr b hb9)
      obtain ⟨f142, o143, b144⟩ := y_op12 hI
      have h139 : ((∀ j : Int, 0 ≤ j → j ≠ 8 * (y_c f120 387).toInt + 0 → y_c f142 j = y_c f120 j) ∧ (v123.toInt = 0 → y_c f142 (8 * (y_c f120 387).toInt + 0) = w6)) := by have q9 := h139; rw [y_atE o130, y_atE o143, y_fiZ oY133 (k := 5) (by decide), ← ep136_5] at q9; exact q9
      rw [h111] at h139
      have hn145 : (y_c f142 387).toInt = nn := by rw [h139.1 387 (by omega) (by omega)]; exact h111
      have hfr146 : ∀ j : Int, 0 ≤ j → (j < 8 * nn ∨ 8 * nn + 8 ≤ j) → y_c f142 j = y_c f1 j := fun j h0 h1 => (h139.1 j h0 (by omega)).trans (h112 j h0 h1)
      have h147 : v123.toInt = 0 → (y_c f142 (8 * nn)).toInt = w6.toInt := (fun h9 => (congrArg (fun i => (y_c f142 i).toInt) (show 8 * nn = 8 * nn + 0 by omega)).trans ((congrArg Int32.toInt (h139.2 h9)).trans rfl))
      have h148 : (y_c f142 (8 * nn + 5)).toInt = (y_c f120 (8 * nn + 5)).toInt := (congrArg Int32.toInt (h139.1 _ (by omega) (by omega)))
      refine lv_iload_n hx hb dX7_lineTold_94 rfl (lv_at hl 1 rfl) ?_
      have h149 : 0 ≤ w6.toInt ∧ w6.toInt ≤ 15 := ⟨by omega, by omega⟩
      refine va_calli (va_runS (As := [.int w6]) (rest := []) ⟨hx, hb, hml, hown, hts⟩ (y_X7_hasRegister l dC dI H.size F137 w6 (⟨by omega, by omega⟩)) (cwS 1 hts (ax_gS T_1261 T_1263 T_265 T_1262) rfl rfl rfl (by decide +kernel) ⟨Nat.le_of_ble_eq_true rfl, Nat.le_of_ble_eq_true rfl⟩) ⟨fun a U g mk q => ⟨q.1, s_pc rfl rfl q.2⟩, fun U hU hW => ⟨rfl, s_pw hU hW hP hK hD hN⟩⟩ rfl rfl hl.1 rfl (lv_room (Nat.le_of_ble_eq_true rfl)) dX7_lineTold_95 ⟨Nat.zero_le _, Nat.zero_le _⟩) hS (fun q _ h => h) (fun q h => h) (fun r151 F152 t H1 locs ht hvm hw hB hz1 hk1 hS => ?_)
      obtain ⟨hP, hK1⟩ := hB
      rw [ht] at hP
      generalize H1 = H at hP hS ⊢
      obtain ⟨h153, h155, hG9, h154⟩ := hw
      rw [hG9] at hP
      refine lv_if_eq (tgt := 110) hx hb dX7_lineTold_98 (by decide) (fun c156 => ?_) (fun c156 => ?_)
      · have c156 := (ax_eq (n := 0) (by decide)).mp c156
        exact K110 _ _ _ ⟨F137, _, w6, rfl, lv_sub hl [0, 1] rfl, hP, hS, hI, hfr, (fun k hk => (y_fiZ oY141 (s_sub (by decide) hk)).trans (hz0 k hk)), trivial, (by rw [y_atE o143]; exact hn145), (by rw [y_atE o143]; exact hfr146), (by first | (rw [y_atE o143, y_fiZ oY141 (k := 5) (by decide), ← ev123]; omega) | rw [y_atE o143, y_fiZ oY141 (k := 5) (by decide), ← ev123])⟩
      · have c156 := mt (ax_eq (n := 0) (by decide)).mpr c156
        have h157 := h155 (fun q => c156 (by rw [q]; decide))
        refine lv_aload_n hx hb dX7_lineTold_101 rfl (lv_at hl 0 rfl) ?_
        refine lv_iconst (v := 1) hx hb dX7_lineTold_102 (by decide) ?_
        refine lv_aload_n hx hb dX7_lineTold_103 rfl (lv_at hl 0 rfl) ?_
        have ep158_5 := ev123
        refine va_calli (va_runV (As := []) (rest := [.int 1, .ref a0]) ⟨hx, hb, hml, hown, hts⟩ (y_X7_registerTold l dC dI H.size hLK A hA F137 a0 ha0 hI) (cwV 0 hts (ax_gV T_1264 T_1266 T_1267 T_265 T_1265) rfl rfl rfl (by decide +kernel) ⟨Nat.le_of_ble_eq_true rfl, Nat.le_of_ble_eq_true rfl⟩) ⟨fun a U g mk q => ⟨q.1, s_pc rfl rfl q.2⟩, s_recv hK hP (hLK _ ha0 (by decide)) (ci := 7) rfl oY141, fun U hU hW => ⟨rfl, s_pw hU hW hP hK hD hN⟩⟩ rfl rfl hl.1 rfl (lv_room (Nat.le_of_ble_eq_true rfl)) dX7_lineTold_104 ⟨Nat.zero_le _, Nat.zero_le _⟩) hS (fun q _ h => h) (fun q h => h) (fun r159 F160 t H1 locs ht hvm hw hB hz1 hk1 hS => ?_)
        obtain ⟨hP, hK1⟩ := hB
        rw [ht] at hP
        generalize H1 = H at hP hS ⊢
        obtain ⟨h161, h163, hI, hfr1, hzf, h162⟩ := hw
        have o164 : F160 (A 12) = .inl (cs 0, 400, .inl f142) := (hfr1 _ (by rw [(y_k12 hA)]; decide)).trans o143
        obtain ⟨z165, q166, oY167, bz168, bq169⟩ := y_opY hI ha0
        have hzf : ∀ k, k ∈ ([1, 3, 7, 8, 11, 15, 16, 19, 25, 26, 27, 31, 32] : List Nat) → z165 k = z131 k := fun k hk => by have q9 := hzf k hk; rw [y_fiZ oY167 (s_sub (by decide) hk), y_fiZ oY141 (s_sub (by decide) hk)] at q9; exact q9
        have hz0 : ∀ k, k ∈ ([1, 3, 7, 8, 15, 16, 19, 25, 26, 27, 31, 32] : List Nat) → z165 k = z0 k := fun k hk => (hzf k (s_sub (by decide) hk)).trans (hz0 k hk)
        have hfr : ∀ b, K b ∉ [9, 62, 64] → F160 b = F b := fun b hb9 => (hfr1 b (fun q => hb9 (s_sub (by decide) q))).trans (hfr b hb9)
        obtain ⟨v170, ev170⟩ : ∃ y : Int32, y = z165 5 := ⟨_, rfl⟩
        have h162 : ((v123.toInt = 0 ∨ ¬ v170.toInt = 0) ∧ (v170.toInt = 0 → 0 ≤ r159.toInt ∧ r159.toInt ≤ 3)) := by have q9 := h162; rw [y_fiZ oY141 (k := 5) (by decide), ← ep158_5, y_fiZ oY167 (k := 5) (by decide), ← ev170] at q9; exact q9
        have ep171_5 := ev170
        refine va_callv (va_runV (As := [.int 1, .int r159]) (rest := []) ⟨hx, hb, hml, hown, hts⟩ (y_X7_lays l dC dI H.size hLK A hA F160 a0 1 r159 ha0 (by decide) hI) (cwV 2 hts (ax_gV T_1115 T_1117 T_1118 T_265 T_1116) rfl rfl rfl (by decide +kernel) ⟨Nat.le_of_ble_eq_true rfl, Nat.le_of_ble_eq_true rfl⟩) ⟨fun a U g mk q => ⟨q.1, s_pc rfl rfl q.2⟩, s_recv hK hP (hLK _ ha0 (by decide)) (ci := 7) rfl oY167, fun U hU hW => ⟨rfl, s_pw hU hW hP hK hD hN⟩⟩ rfl rfl hl.1 rfl (lv_room (Nat.le_of_ble_eq_true rfl)) dX7_lineTold_107 ⟨Nat.zero_le _, Nat.zero_le _⟩) hS (fun q _ h => h) (fun q h => h) (fun F172 t H1 locs ht hvm hw hB hz1 hk1 hS => ?_)
        obtain ⟨hP, hK1⟩ := hB
        rw [ht] at hP
        generalize H1 = H at hP hS ⊢
        obtain ⟨h173, h175, hI, hfr1, hzf, h174⟩ := hw
        have oY176 : F172 a0 = .inr (7, y_fl A z165 q166) := (hfr1 _ (by rw [ha0]; decide)).trans oY167
        have hfr : ∀ b, K b ∉ [9, 62, 64] → F172 b = F b := fun b hb9 => (hfr1 b (fun q => hb9 (s_sub (by decide) q))).trans (hfr b hb9)
        obtain ⟨f177, o178, b179⟩ := y_op12 hI
        have h174 : ((∀ j : Int, 0 ≤ j → j ≠ 8 * (y_c f142 387).toInt + 1 → y_c f177 j = y_c f142 j) ∧ (v170.toInt = 0 → y_c f177 (8 * (y_c f142 387).toInt + 1) = r159)) := by have q9 := h174; rw [y_atE o164, y_atE o178, y_fiZ oY167 (k := 5) (by decide), ← ep171_5] at q9; exact q9
        rw [hn145] at h174
        have hn180 : (y_c f177 387).toInt = nn := by rw [h174.1 387 (by omega) (by omega)]; exact hn145
        have hfr181 : ∀ j : Int, 0 ≤ j → (j < 8 * nn ∨ 8 * nn + 8 ≤ j) → y_c f177 j = y_c f1 j := fun j h0 h1 => (h174.1 j h0 (by omega)).trans (hfr146 j h0 h1)
        have h182 : (y_c f177 (8 * nn)).toInt = (y_c f142 (8 * nn)).toInt := (congrArg Int32.toInt (h174.1 _ (by omega) (by omega)))
        have h183 : (y_c f177 (8 * nn + 5)).toInt = (y_c f142 (8 * nn + 5)).toInt := (congrArg Int32.toInt (h174.1 _ (by omega) (by omega)))
        exact K110 _ _ _ ⟨F172, _, w6, rfl, lv_sub hl [0, 1] rfl, hP, hS, hI, hfr, (fun k hk => (y_fiZ oY176 (s_sub (by decide) hk)).trans (hz0 k hk)), trivial, (by rw [y_atE o178]; exact hn180), (by rw [y_atE o178]; exact hfr181), (by first | (rw [y_atE o178, y_fiZ oY176 (k := 5) (by decide), ← ev170]; omega) | rw [y_atE o178, y_fiZ oY176 (k := 5) (by decide), ← ev170])⟩
    · have c124 := mt (ax_eq (n := 0) (by decide)).mpr c124
      exact W.vret hx hb hr (fun t ht hW => ⟨⟨F114, rfl, ⟨trivial, trivial, hI, hfr, fun k hk => (y_fiZ oY117 (s_sub (by decide) hk)).trans ((hz0 k hk).trans (y_fiZ oY0 (s_sub (by decide) hk)).symm), (by rw [y_fiZ oY0 (k := 5) (by decide), ← eF_5, y_fiZ oY117 (k := 5) (by decide), ← ev123, y_atE o2, y_atE o121]; rw [← hnn]; exact ⟨by omega, (fun j h0 h1 => h112 j h0 (by omega)), (fun j h0 h1 => h112 j (by omega) (by omega)), fun q => absurd q (by omega)⟩)⟩, by rw [ht]; exact hP, va_K.moved hW.alike hK⟩, hS.F ht⟩) hS.2.2 dX7_lineTold_83
  · intro g H locs hq
    obtain ⟨F188, ls, w5, rfl, hl, hP, hS, hI, hfr, hz0, h184, h185, h186, h187⟩ := hq
    obtain ⟨z189, q190, oY191, bz192, bq193⟩ := y_opY hI ha0
    have hz0 : ∀ k, k ∈ ([1, 3, 7, 8, 15, 16, 19, 25, 26, 27, 31, 32] : List Nat) → z189 k = z0 k := fun k hk => (y_fiZ oY191 (s_sub (by decide) hk)).symm.trans (hz0 k hk)
    obtain ⟨f194, o195, b196⟩ := y_op12 hI
    have h185 : (y_c f194 387).toInt = nn := by have q9 := h185; rw [y_atE o195] at q9; exact q9
    have h186 : (∀ j : Int, 0 ≤ j → (j < 8 * nn ∨ 8 * nn + 8 ≤ j) → y_c f194 j = y_c f1 j) := by have q9 := h186; rw [y_atE o195] at q9; exact q9
    obtain ⟨v197, ev197⟩ : ∃ y : Int32, y = z189 5 := ⟨_, rfl⟩
    have h187 : ((v4.toInt = 0 ∧ 0 ≤ w5.toInt ∧ w5.toInt ≤ 15) ∧ (y_c f194 (8 * nn + 5)).toInt = -1000000 ∧ (v197.toInt = 0 → (y_c f194 (8 * nn)).toInt = w5.toInt)) := by have q9 := h187; rw [y_atE o195, y_fiZ oY191 (k := 5) (by decide), ← ev197] at q9; exact q9
    refine lv_iconst (v := 0) hx hb dX7_lineTold_110 (by decide) ?_
    refine lv_istore_n (lv' := [(3, .int 0), (0, .ref a0), (2, .int w5)]) hx hb dX7_lineTold_111 rfl hl (by decide) rfl (fun ls hl => ?_)
    have h199 : (0 : Int32).toInt = 0 := by decide
    refine th_loop (fun n g H locs => ∃ (G : Nat → va_E) (ls : Array Slot) (w198 : Int32), g = F0 m 112 ls [] ∧ lv_has ls 4 [(0, .ref a0), (2, .int w5), (3, .int w198)] ∧ va_P (dC, dI) vwCl (va_pl L G) H ∧ va_S (fun q => q ∈ L) s.heap H locs ∧ y_I K cs A G ∧ (∀ b, K b ∉ [9, 62, 64] → G b = F b) ∧ (∀ k, k ∈ ([1, 3, 7, 8, 15, 16, 19, 25, 26, 27, 31, 32] : List Nat) → y_fi G a0 k = z0 k) ∧ (0 ≤ w198.toInt ∧ w198.toInt ≤ 2) ∧ (y_c (y_at G (A 12)) 387).toInt = nn ∧ (∀ j : Int, 0 ≤ j → (j < 8 * nn ∨ 8 * nn + 8 ≤ j) → y_c (y_at G (A 12)) j = y_c f1 j) ∧ (v4.toInt = 0 ∧ 0 ≤ w5.toInt ∧ w5.toInt ≤ 15) ∧ ((y_c (y_at G (A 12)) (8 * nn + 5)).toInt = -1000000 ∧ ((y_fi G a0 5).toInt = 0 → (y_c (y_at G (A 12)) (8 * nn)).toInt = w5.toInt ∧ (w198.toInt = 0 ∨ -4 ≤ (y_c (y_at G (A 12)) (8 * nn + 2)).toInt) ∧ (w198.toInt ≤ 1 ∨ -4 ≤ (y_c (y_at G (A 12)) (8 * nn + 3)).toInt))) ∧ n = (3 - w198.toInt).toNat) _ ⟨F188, _, 0, rfl, lv_sub hl [1, 2, 0] rfl, hP, hS, hI, hfr, (fun k hk => (y_fiZ oY191 (s_sub (by decide) hk)).trans (hz0 k hk)), (by decide), (by rw [y_atE o195]; exact h185), (by rw [y_atE o195]; exact h186), (by omega), (by rw [y_atE o195, y_fiZ oY191 (k := 5) (by decide), ← ev197]; exact ⟨by omega, fun hb => ⟨by omega, Or.inl (by omega), Or.inl (by omega)⟩⟩), rfl⟩ (fun n ih112 g H locs hq => ?_)
    obtain ⟨F205, ls, w198, rfl, hl, hP, hS, hI, hfr, hz0, h200, h201, h202, h203, h204, hn⟩ := hq
    obtain ⟨z206, q207, oY208, bz209, bq210⟩ := y_opY hI ha0
    have hz0 : ∀ k, k ∈ ([1, 3, 7, 8, 15, 16, 19, 25, 26, 27, 31, 32] : List Nat) → z206 k = z0 k := fun k hk => (y_fiZ oY208 (s_sub (by decide) hk)).symm.trans (hz0 k hk)
    obtain ⟨f211, o212, b213⟩ := y_op12 hI
    have h201 : (y_c f211 387).toInt = nn := by have q9 := h201; rw [y_atE o212] at q9; exact q9
    have h202 : (∀ j : Int, 0 ≤ j → (j < 8 * nn ∨ 8 * nn + 8 ≤ j) → y_c f211 j = y_c f1 j) := by have q9 := h202; rw [y_atE o212] at q9; exact q9
    obtain ⟨v214, ev214⟩ : ∃ y : Int32, y = z206 5 := ⟨_, rfl⟩
    have h204 : ((y_c f211 (8 * nn + 5)).toInt = -1000000 ∧ (v214.toInt = 0 → (y_c f211 (8 * nn)).toInt = w5.toInt ∧ (w198.toInt = 0 ∨ -4 ≤ (y_c f211 (8 * nn + 2)).toInt) ∧ (w198.toInt ≤ 1 ∨ -4 ≤ (y_c f211 (8 * nn + 3)).toInt))) := by have q9 := h204; rw [y_atE o212, y_fiZ oY208 (k := 5) (by decide), ← ev214] at q9; exact q9
    have h204a := h204.1
    have h204 := y_hd h204
    have hn_214 := hn
    refine lv_iload_n hx hb dX7_lineTold_112 rfl (lv_at hl 2 rfl) ?_
    refine lv_iload_n hx hb dX7_lineTold_113 rfl (lv_at hl 1 rfl) ?_
    have h215 : 0 ≤ w5.toInt ∧ w5.toInt ≤ 15 := ⟨by omega, by omega⟩
    refine va_calli (va_runS (As := [.int w5]) (rest := [.int w198]) ⟨hx, hb, hml, hown, hts⟩ (y_X7_partsOf l dC dI H.size F205 w5 (⟨by omega, by omega⟩)) (cwS 1 hts (ax_gS T_1197 T_1199 T_265 T_1198) rfl rfl rfl (by decide +kernel) ⟨Nat.le_of_ble_eq_true rfl, Nat.le_of_ble_eq_true rfl⟩) ⟨fun a U g mk q => ⟨q.1, s_pc rfl rfl q.2⟩, fun U hU hW => ⟨rfl, s_pw hU hW hP hK hD hN⟩⟩ rfl rfl hl.1 rfl (lv_room (Nat.le_of_ble_eq_true rfl)) dX7_lineTold_114 ⟨Nat.zero_le _, Nat.zero_le _⟩) hS (fun q _ h => h) (fun q h => h) (fun r217 F218 t H1 locs ht hvm hw hB hz1 hk1 hS => ?_)
    obtain ⟨hP, hK1⟩ := hB
    rw [ht] at hP
    generalize H1 = H at hP hS ⊢
    obtain ⟨h219, h221, hG9, h220⟩ := hw
    rw [hG9] at hP
    have h220 : ((r217.toInt = 0 ∧ (w5.toInt = 5 ∨ w5.toInt = 6 ∨ 12 ≤ w5.toInt)) ∨ (r217.toInt = 1 ∧ (w5.toInt = 0 ∨ w5.toInt = 7 ∨ w5.toInt = 9 ∨ w5.toInt = 11)) ∨ (r217.toInt = 2 ∧ ((1 ≤ w5.toInt ∧ w5.toInt ≤ 4) ∨ w5.toInt = 8 ∨ w5.toInt = 10))) := by have q9 := h220; exact q9
    have h220 := y_hd h220
    refine lv_icmp_ge (tgt := 137) hx hb dX7_lineTold_117 (by decide) (fun c222 => ?_) (fun c222 => ?_)
    · have c222 := Int32.le_iff_toInt_le.mp c222
      refine lv_iload_n hx hb dX7_lineTold_137 rfl (lv_at hl 1 rfl) ?_
      refine lv_bipush (v := 12) hx hb dX7_lineTold_138 (by decide) ?_
      refine lv_icmp_ne (tgt := 147) hx hb dX7_lineTold_140 (by decide) (fun c223 => ?_) (fun c223 => ?_)
      · have c223 := mt (ax_eq (n := 12) (by decide)).mpr c223
        exact K147 _ _ _ ⟨F205, _, rfl, lv_sub hl [0] rfl, hP, hS, hI, hfr, (fun k hk => (y_fiZ oY208 (s_sub (by decide) hk)).trans (hz0 k hk)), (by rw [y_atE o212]; exact h201), (by rw [y_atE o212]; exact h202), (by rw [y_fiZ oY208 (k := 5) (by decide), ← ev214, y_atE o212]; exact y_l147 ⟨by omega, by omega⟩ h220 (by omega) h204.1 h204.2), (by omega)⟩
      · have c223 := (ax_eq (n := 12) (by decide)).mp c223
        refine lv_aload_n hx hb dX7_lineTold_143 rfl (lv_at hl 0 rfl) ?_
        have ep224_5 := ev214
        refine va_callv (va_runV (As := []) (rest := []) ⟨hx, hb, hml, hown, hts⟩ (y_X7_goTold l dC dI H.size hLK A hA F205 a0 ha0 hI (by rw [y_atE o212]; rw [h201]; exact ⟨by omega, by omega⟩)) (cwV 0 hts (ax_gV T_1268 T_1270 T_1271 T_265 T_1269) rfl rfl rfl (by decide +kernel) ⟨Nat.le_of_ble_eq_true rfl, Nat.le_of_ble_eq_true rfl⟩) ⟨fun a U g mk q => ⟨q.1, s_pc rfl rfl q.2⟩, s_recv hK hP (hLK _ ha0 (by decide)) (ci := 7) rfl oY208, fun U hU hW => ⟨rfl, s_pw hU hW hP hK hD hN⟩⟩ rfl rfl hl.1 rfl (lv_room (Nat.le_of_ble_eq_true rfl)) dX7_lineTold_144 ⟨Nat.zero_le _, Nat.zero_le _⟩) hS (fun q _ h => h) (fun q h => h) (fun F225 t H1 locs ht hvm hw hB hz1 hk1 hS => ?_)
        obtain ⟨hP, hK1⟩ := hB
        rw [ht] at hP
        generalize H1 = H at hP hS ⊢
        obtain ⟨h226, h228, hI, hfr1, hzf, h227⟩ := hw
        obtain ⟨z229, q230, oY231, bz232, bq233⟩ := y_opY hI ha0
        have hzf : ∀ k, k ∈ ([1, 3, 7, 8, 15, 16, 19, 25, 26, 27, 31, 32] : List Nat) → z229 k = z206 k := fun k hk => by have q9 := hzf k hk; rw [y_fiZ oY231 (s_sub (by decide) hk), y_fiZ oY208 (s_sub (by decide) hk)] at q9; exact q9
        have hz0 : ∀ k, k ∈ ([1, 3, 7, 8, 15, 16, 19, 25, 26, 27, 31, 32] : List Nat) → z229 k = z0 k := fun k hk => (hzf k (s_sub (by decide) hk)).trans (hz0 k hk)
        have hfr : ∀ b, K b ∉ [9, 62, 64] → F225 b = F b := fun b hb9 => (hfr1 b (fun q => hb9 (s_sub (by decide) q))).trans (hfr b hb9)
        obtain ⟨v234, ev234⟩ : ∃ y : Int32, y = z229 5 := ⟨_, rfl⟩
        obtain ⟨f235, o236, b237⟩ := y_op12 hI
        have h227 : ((v214.toInt = 0 ∨ ¬ v234.toInt = 0) ∧ (∀ j : Int, 0 ≤ j → (j < 8 * (y_c f211 387).toInt ∨ 8 * (y_c f211 387).toInt + 8 ≤ j) → y_c f235 j = y_c f211 j) ∧ (y_c f235 (8 * (y_c f211 387).toInt)).toInt = (y_c f211 (8 * (y_c f211 387).toInt)).toInt ∧ (v234.toInt = 0 → (y_c f235 (8 * (y_c f211 387).toInt + 5)).toInt = -1000000 ∨ (-4 ≤ (y_c f235 (8 * (y_c f211 387).toInt + 2)).toInt ∧ -4 ≤ (y_c f235 (8 * (y_c f211 387).toInt + 3)).toInt))) := by have q9 := h227; rw [y_fiZ oY208 (k := 5) (by decide), ← ep224_5, y_fiZ oY231 (k := 5) (by decide), ← ev234, y_atE o212, y_atE o236] at q9; exact q9
        rw [h201] at h227
        obtain ⟨hg1, hg2, hg3, hg4⟩ := h227
        have hn238 : (y_c f235 387).toInt = nn := by rw [hg2 387 (by omega) (by omega)]; exact h201
        have hfr239 : ∀ j : Int, 0 ≤ j → (j < 8 * nn ∨ 8 * nn + 8 ≤ j) → y_c f235 j = y_c f1 j := fun j h0 h1 => (hg2 j h0 h1).trans (h202 j h0 h1)
        exact K147 _ _ _ ⟨F225, _, rfl, lv_sub hl [0] rfl, hP, hS, hI, hfr, (fun k hk => (y_fiZ oY231 (s_sub (by decide) hk)).trans (hz0 k hk)), (by rw [y_atE o236]; exact hn238), (by rw [y_atE o236]; exact hfr239), (by rw [y_fiZ oY231 (k := 5) (by decide), ← ev234, y_atE o236]; exact y_l147g (by omega) hg1 h204.2 hg3 hg4), (by omega)⟩
    · have c222 := mt Int32.le_iff_toInt_le.mpr c222
      refine lv_aload_n hx hb dX7_lineTold_120 rfl (lv_at hl 0 rfl) ?_
      refine lv_iconst (v := 2) hx hb dX7_lineTold_121 (by decide) ?_
      refine lv_iload_n hx hb dX7_lineTold_122 rfl (lv_at hl 2 rfl) ?_
      refine lv_iadd hx hb dX7_lineTold_123 ?_
      refine lv_topi (fun v240 ev240 => ?_)
      have qv240 : v240.toInt = 2 + w198.toInt := by rw [ev240]; exact th_add (by decide) rfl ⟨by omega, by omega⟩
      refine lv_aload_n hx hb dX7_lineTold_124 rfl (lv_at hl 0 rfl) ?_
      have ep241_5 := ev214
      refine va_calli (va_runV (As := []) (rest := [.int v240, .ref a0]) ⟨hx, hb, hml, hown, hts⟩ (y_X7_partTold l dC dI H.size hLK A hA F205 a0 ha0 hI) (cwV 0 hts (ax_gV T_1119 T_1121 T_1122 T_265 T_1120) rfl rfl rfl (by decide +kernel) ⟨Nat.le_of_ble_eq_true rfl, Nat.le_of_ble_eq_true rfl⟩) ⟨fun a U g mk q => ⟨q.1, s_pc rfl rfl q.2⟩, s_recv hK hP (hLK _ ha0 (by decide)) (ci := 7) rfl oY208, fun U hU hW => ⟨rfl, s_pw hU hW hP hK hD hN⟩⟩ rfl rfl hl.1 rfl (lv_room (Nat.le_of_ble_eq_true rfl)) dX7_lineTold_125 ⟨Nat.zero_le _, Nat.zero_le _⟩) hS (fun q _ h => h) (fun q h => h) (fun r242 F243 t H1 locs ht hvm hw hB hz1 hk1 hS => ?_)
      obtain ⟨hP, hK1⟩ := hB
      rw [ht] at hP
      generalize H1 = H at hP hS ⊢
      obtain ⟨h244, h246, hI, hfr1, hzf, h245⟩ := hw
      have o247 : F243 (A 12) = .inl (cs 0, 400, .inl f211) := (hfr1 _ (by rw [(y_k12 hA)]; decide)).trans o212
      obtain ⟨z248, q249, oY250, bz251, bq252⟩ := y_opY hI ha0
      have hzf : ∀ k, k ∈ ([1, 3, 7, 8, 11, 15, 16, 19, 25, 26, 27, 31, 32] : List Nat) → z248 k = z206 k := fun k hk => by have q9 := hzf k hk; rw [y_fiZ oY250 (s_sub (by decide) hk), y_fiZ oY208 (s_sub (by decide) hk)] at q9; exact q9
      have hz0 : ∀ k, k ∈ ([1, 3, 7, 8, 15, 16, 19, 25, 26, 27, 31, 32] : List Nat) → z248 k = z0 k := fun k hk => (hzf k (s_sub (by decide) hk)).trans (hz0 k hk)
      have hfr : ∀ b, K b ∉ [9, 62, 64] → F243 b = F b := fun b hb9 => (hfr1 b (fun q => hb9 (s_sub (by decide) q))).trans (hfr b hb9)
      obtain ⟨v253, ev253⟩ : ∃ y : Int32, y = z248 5 := ⟨_, rfl⟩
      have h245 : ((v214.toInt = 0 ∨ ¬ v253.toInt = 0) ∧ (v253.toInt = 0 → -4 ≤ r242.toInt ∧ r242.toInt ≤ 999)) := by have q9 := h245; rw [y_fiZ oY208 (k := 5) (by decide), ← ep241_5, y_fiZ oY250 (k := 5) (by decide), ← ev253] at q9; exact q9
      have ep254_5 := ev253
      refine va_callv (va_runV (As := [.int v240, .int r242]) (rest := []) ⟨hx, hb, hml, hown, hts⟩ (y_X7_lays l dC dI H.size hLK A hA F243 a0 v240 r242 ha0 (⟨by omega, by omega⟩) hI) (cwV 2 hts (ax_gV T_1115 T_1117 T_1118 T_265 T_1116) rfl rfl rfl (by decide +kernel) ⟨Nat.le_of_ble_eq_true rfl, Nat.le_of_ble_eq_true rfl⟩) ⟨fun a U g mk q => ⟨q.1, s_pc rfl rfl q.2⟩, s_recv hK hP (hLK _ ha0 (by decide)) (ci := 7) rfl oY250, fun U hU hW => ⟨rfl, s_pw hU hW hP hK hD hN⟩⟩ rfl rfl hl.1 rfl (lv_room (Nat.le_of_ble_eq_true rfl)) dX7_lineTold_128 ⟨Nat.zero_le _, Nat.zero_le _⟩) hS (fun q _ h => h) (fun q h => h) (fun F255 t H1 locs ht hvm hw hB hz1 hk1 hS => ?_)
      obtain ⟨hP, hK1⟩ := hB
      rw [ht] at hP
      generalize H1 = H at hP hS ⊢
      obtain ⟨h256, h258, hI, hfr1, hzf, h257⟩ := hw
      have oY259 : F255 a0 = .inr (7, y_fl A z248 q249) := (hfr1 _ (by rw [ha0]; decide)).trans oY250
      have hfr : ∀ b, K b ∉ [9, 62, 64] → F255 b = F b := fun b hb9 => (hfr1 b (fun q => hb9 (s_sub (by decide) q))).trans (hfr b hb9)
      obtain ⟨f260, o261, b262⟩ := y_op12 hI
      have h257 : ((∀ j : Int, 0 ≤ j → j ≠ 8 * (y_c f211 387).toInt + v240.toInt → y_c f260 j = y_c f211 j) ∧ (v253.toInt = 0 → y_c f260 (8 * (y_c f211 387).toInt + v240.toInt) = r242)) := by have q9 := h257; rw [y_atE o247, y_atE o261, y_fiZ oY250 (k := 5) (by decide), ← ep254_5] at q9; exact q9
      rw [h201] at h257
      have hn263 : (y_c f260 387).toInt = nn := by rw [h257.1 387 (by omega) (by omega)]; exact h201
      have hfr264 : ∀ j : Int, 0 ≤ j → (j < 8 * nn ∨ 8 * nn + 8 ≤ j) → y_c f260 j = y_c f1 j := fun j h0 h1 => (h257.1 j h0 (by omega)).trans (h202 j h0 h1)
      have h265 : (y_c f260 (8 * nn)).toInt = (y_c f211 (8 * nn)).toInt := (congrArg Int32.toInt (h257.1 _ (by omega) (by omega)))
      have h266 : y_hid (v240.toInt = 2 → v253.toInt = 0 → (y_c f260 (8 * nn + 2)).toInt = r242.toInt) := y_hd (fun h8 => (fun h9 => (congrArg (fun i => (y_c f260 i).toInt) (show 8 * nn + 2 = 8 * nn + v240.toInt by omega)).trans ((congrArg Int32.toInt (h257.2 h9)).trans rfl)))
      have h267 : y_hid (v240.toInt ≠ 2 → (y_c f260 (8 * nn + 2)).toInt = (y_c f211 (8 * nn + 2)).toInt) := y_hd (fun h8 => (congrArg Int32.toInt (h257.1 _ (by omega) (by omega))))
      have h268 : y_hid (v240.toInt = 3 → v253.toInt = 0 → (y_c f260 (8 * nn + 3)).toInt = r242.toInt) := y_hd (fun h8 => (fun h9 => (congrArg (fun i => (y_c f260 i).toInt) (show 8 * nn + 3 = 8 * nn + v240.toInt by omega)).trans ((congrArg Int32.toInt (h257.2 h9)).trans rfl)))
      have h269 : y_hid (v240.toInt ≠ 3 → (y_c f260 (8 * nn + 3)).toInt = (y_c f211 (8 * nn + 3)).toInt) := y_hd (fun h8 => (congrArg Int32.toInt (h257.1 _ (by omega) (by omega))))
      have h270 : (y_c f260 (8 * nn + 5)).toInt = (y_c f211 (8 * nn + 5)).toInt := (congrArg Int32.toInt (h257.1 _ (by omega) (by omega)))
      obtain ⟨v271, ev271⟩ : ∃ y : Int32, w198 + 1 = y := ⟨_, rfl⟩
      have qv271 : v271.toInt = w198.toInt + 1 := by rw [← ev271]; exact th_add rfl (by decide) ⟨by omega, by omega⟩
      refine lv_iinc (v := v271) (lv' := [(3, .int v271), (0, .ref a0), (2, .int w5)]) hx hb dX7_lineTold_131 hl (k := 2) rfl ev271 (by decide) rfl (fun ls hl => ?_)
      refine lv_goto (tgt := 112) hx hb dX7_lineTold_134 (by decide) ?_
      exact ih112 _ _ _ _ (by omega) ⟨F255, _, v271, rfl, lv_sub hl [1, 2, 0] rfl, hP, hS, hI, hfr, (fun k hk => (y_fiZ oY259 (s_sub (by decide) hk)).trans (hz0 k hk)), ⟨by omega, by omega⟩, (by rw [y_atE o261]; exact hn263), (by rw [y_atE o261]; exact hfr264), (by omega), (by rw [y_atE o261, y_fiZ oY259 (k := 5) (by decide), ← ev253]; exact (by rw [show v271.toInt = w198.toInt + 1 by omega]; exact y_l112 h245.1 h204.2 h245.2 h265 h270 h266 h267 h268 h269 (by omega) ⟨by omega, by omega⟩ h204.1)), rfl⟩
  · intro g H locs hq
    obtain ⟨F276, ls, rfl, hl, hP, hS, hI, hfr, hz0, h272, h273, h274, h275⟩ := hq
    obtain ⟨z277, q278, oY279, bz280, bq281⟩ := y_opY hI ha0
    have hz0 : ∀ k, k ∈ ([1, 3, 7, 8, 15, 16, 19, 25, 26, 27, 31, 32] : List Nat) → z277 k = z0 k := fun k hk => (y_fiZ oY279 (s_sub (by decide) hk)).symm.trans (hz0 k hk)
    obtain ⟨f282, o283, b284⟩ := y_op12 hI
    have h272 : (y_c f282 387).toInt = nn := by have q9 := h272; rw [y_atE o283] at q9; exact q9
    have h273 : (∀ j : Int, 0 ≤ j → (j < 8 * nn ∨ 8 * nn + 8 ≤ j) → y_c f282 j = y_c f1 j) := by have q9 := h273; rw [y_atE o283] at q9; exact q9
    obtain ⟨v285, ev285⟩ : ∃ y : Int32, y = z277 5 := ⟨_, rfl⟩
    have h274 : (v285.toInt = 0 → (0 ≤ (y_c f282 (8 * nn)).toInt ∧ (y_c f282 (8 * nn)).toInt ≤ 15) ∧ (((y_c f282 (8 * nn)).toInt = 5 ∨ (y_c f282 (8 * nn)).toInt = 6 ∨ 12 ≤ (y_c f282 (8 * nn)).toInt) ∨ -4 ≤ (y_c f282 (8 * nn + 2)).toInt) ∧ (((y_c f282 (8 * nn)).toInt = 5 ∨ (y_c f282 (8 * nn)).toInt = 6 ∨ 12 ≤ (y_c f282 (8 * nn)).toInt ∨ (y_c f282 (8 * nn)).toInt = 0 ∨ (y_c f282 (8 * nn)).toInt = 7 ∨ (y_c f282 (8 * nn)).toInt = 9 ∨ (y_c f282 (8 * nn)).toInt = 11) ∨ -4 ≤ (y_c f282 (8 * nn + 3)).toInt) ∧ ((y_c f282 (8 * nn)).toInt ≠ 12 ∨ (y_c f282 (8 * nn + 5)).toInt = -1000000 ∨ (-4 ≤ (y_c f282 (8 * nn + 2)).toInt ∧ -4 ≤ (y_c f282 (8 * nn + 3)).toInt))) := by have q9 := h274; rw [y_fiZ oY279 (k := 5) (by decide), ← ev285, y_atE o283] at q9; exact q9
    refine lv_aload_n hx hb dX7_lineTold_147 rfl (lv_at hl 0 rfl) ?_
    refine th_get (D := (dC, dI)) (ci := 7) (v := .ref (A 12)) (C := RX7) (T := TX7) (N := 34) hx hb hts inX7 hown hK hP (hLK _ ha0 (by decide)) oY279 rfl 12 (by decide) (hts _ T_245) (fun _ h9 => h9) rfl dX7_lineTold_148 ?_
    refine lv_sipush (v := 387) hx hb dX7_lineTold_151 (by decide) ?_
    refine lv_dup2_11 hx hb dX7_lineTold_154 rfl rfl ?_
    refine th_iald hx hb hK hP (hLK _ (y_k12 hA) (by decide)) 0 o283 rfl (ax_in (by decide)) dX7_lineTold_155 ?_
    refine lv_topi (fun v286 ev286 => ?_)
    have qv286 : 0 ≤ v286.toInt ∧ v286.toInt ≤ 40 := by rw [ev286]; exact b284
    have h287 : 0 ≤ v286.toInt ∧ v286.toInt ≤ 39 := ⟨by omega, by have q9 : v286 = (y_c f282 387) := ev286; rw [q9]; have q8 := h272; omega⟩
    have h288 : v286.toInt = nn := by rw [show v286 = y_c f282 387 from ev286]; exact h272
    refine lv_iconst (v := 1) hx hb dX7_lineTold_156 (by decide) ?_
    refine lv_iadd hx hb dX7_lineTold_157 ?_
    refine lv_topi (fun v289 ev289 => ?_)
    have qv289 : v289.toInt = v286.toInt + 1 := by rw [ev289]; exact th_add rfl (by decide) ⟨by omega, by omega⟩
    refine th_iast hx hb hK hP hD hS (hLK _ (y_k12 hA) (by decide)) 0 o283 rfl (ax_in (by decide)) dX7_lineTold_158 (fun H locs hP hS => ?_)
    obtain ⟨f290, u291⟩ : ∃ g : Nat → Int32, g = upd f282 (387 : Int32).toNatClampNeg v289 := ⟨_, rfl⟩
    rw [← u291] at hP
    have b292 : y_bd 12 f290 := by rw [u291]; exact th_updJ (P := fun y => 0 ≤ y.toInt ∧ y.toInt ≤ 40) b284 (fun q => ⟨by omega, by omega⟩)
    have hP : va_P (dC, dI) vwCl (va_pl L (va_up F276 (A 12) (.inl (cs 0, 400, .inl f290)))) H := hP
    obtain ⟨F293, hF294⟩ : ∃ G : Nat → va_E, G = va_up F276 (A 12) (.inl (cs 0, 400, .inl f290)) := ⟨_, rfl⟩
    rw [← hF294] at hP
    have hI : y_I K cs A F293 := by rw [hF294]; exact y_clA (i := 12) hA hI (by decide) b292
    have hfr : ∀ b, K b ∉ [9, 62, 64] → F293 b = F b := by rw [hF294]; exact s_fr hfr (y_k12 hA) (by decide)
    have oY295 : F293 a0 = .inr (7, y_fl A z277 q278) := by rw [hF294]; exact th_ne (th_kd ha0 (y_k12 hA) (by decide)) oY279
    have o296 : F293 (A 12) = .inl (cs 0, 400, .inl f290) := by rw [hF294]; exact th_up
    have u297 : ∀ j : Int, 0 ≤ j → y_c f290 j = if j = 387 then v289 else y_c f282 j := by rw [u291]; exact y_cu (by decide) (by decide)
    exact W.vret hx hb hr (fun t ht hW => ⟨⟨F293, rfl, ⟨trivial, trivial, hI, hfr, fun k hk => (y_fiZ oY295 (s_sub (by decide) hk)).trans ((hz0 k hk).trans (y_fiZ oY0 (s_sub (by decide) hk)).symm), (by rw [y_fiZ oY0 (k := 5) (by decide), ← eF_5, y_fiZ oY295 (k := 5) (by decide), ← ev285, y_atE o2, y_atE o296]; rw [← hnn]; exact ⟨by omega, (fun j h0 h1 => by rw [u297 j h0, if_neg (by omega)]; exact h273 j h0 (by omega)), (fun j h0 h1 => by rw [u297 j (by omega), if_neg h1]; exact h273 j (by omega) (by omega)), fun q => ⟨by rw [u297 387 (by omega), if_pos rfl]; omega, y_rgC ⟨by rw [u297 _ (by omega), if_neg (by omega)], by rw [u297 _ (by omega), if_neg (by omega)], by rw [u297 _ (by omega), if_neg (by omega)], by rw [u297 _ (by omega), if_neg (by omega)]⟩ (by unfold y_rg; exact ⟨by omega, by omega, by omega, by omega⟩)⟩⟩)⟩, by rw [ht]; exact hP, va_K.moved hW.alike hK⟩, hS.F ht⟩) hS.2.2 dX7_lineTold_159

set_option maxHeartbeats 4000000 in
set_option maxRecDepth 100000 in
theorem y_X7_isNamed (l : Launch) (dC : Nat → ClassId) (dI : Nat → Nat → Nat) (sz : Nat) {L : List Nat} {K : Nat → Nat} {cs : Nat → ClassId} (hLK : ∀ a {k : Nat}, K a = k → k ≠ 0 → a ∈ L) (A : Nat → Nat) (hA : y_A K A) (F : Nat → va_E) (a0 : Nat) (x1 : Int32) (ha0 : K a0 = 9) (hI : y_I K cs A F) : Met l yX7_isNamed (Cond.code yX7_isNamed cX7_isNamed 3 (some .boolean) :: T0) ({ frames := 1, cells := 0, slots := 0, locals := 21 }) (va_Pc [.ref a0, .int x1] (s_W dC dI sz L F [(cs 0, .int), (cs 1, .byte), (cs 2, .long), (cs 3, .object RX5), (cs 4, .object RX4), (cs 5, .array .int), (cs 6, .char), (cs 7, .boolean)])) (va_Qi (fun (r : Int32) (G : Nat → va_E) => (0 ≤ r.toInt ∧ r.toInt ≤ 1) ∧ True ∧ y_I K cs A G ∧ (∀ b, K b ∉ ([] : List Nat) → G b = F b) ∧ (∀ k, k ∈ ([1, 2, 3, 4, 5, 6, 7, 8, 11, 15, 16, 19, 25, 26, 27, 31, 32] : List Nat) → y_fi G a0 k = y_fi F a0 k) ∧ True) (fun (G : Nat → va_E) (t : State) => va_P (dC, dI) vwCl (va_pl L G) t.heap ∧ va_K (dC, dI) vwCl [(cs 0, .int), (cs 1, .byte), (cs 2, .long), (cs 3, .object RX5), (cs 4, .object RX4), (cs 5, .array .int), (cs 6, .char), (cs 7, .boolean)] t) (fun q => q ∈ L)) 0 0 (fun q => q ∈ L) := by
  refine Met.ofW (cc := cX7_isNamed) (maxL := 3) (ret := (some .boolean)) (by decide) rfl ?_
  intro p e s m args below meth c s₁ B hml hv
  obtain ⟨rfl, hsz, hP, hK, hD, hN⟩ := hv
  have hx := B.exec
  have hb := B.bytes
  have hr := B.returns
  have hts : ∀ w ∈ T0, w.before _ s = true := fun w h => atoms_spec (ws := Cond.code yX7_isNamed cX7_isNamed 3 (some .boolean) :: T0) B.pre w (List.mem_cons_of_mem _ h)
  have hown : s.vm.findClass RX7 = some m.cls := findClass_of_methodNamed B.named
  have hlocks := B.notSynchronized
  have hS : va_S (fun q => q ∈ L) s.heap s.heap [] := va_S.rf
  have hfr : ∀ b, K b ∉ ([] : List Nat) → F b = F b := fun _ _ => rfl
  have hl := lv_entry ([.ref a0, .int x1]) (n := 3) (Nat.le_of_ble_eq_true rfl)
  rw [lg_entry_eq]
  generalize (lg_sl ([.ref a0, .int x1]) ++ List.replicate (3 - (lg_sl ([.ref a0, .int x1])).length) Slot.unset).toArray = ls at hl ⊢
  have hl : lv_has ls 3 [(0, .ref a0), (1, .int x1)] := hl
  refine s_gen hP hS (fun H locs hP hS => ?_)
  obtain ⟨z0, q0, oY0, bz0, bq0⟩ := y_opY hI ha0
  have hz0 : ∀ k, k ∈ ([1, 2, 3, 4, 5, 6, 7, 8, 11, 15, 16, 19, 25, 26, 27, 31, 32] : List Nat) → z0 k = z0 k := fun _ _ => rfl
  refine lv_iconst (v := 0) hx hb dX7_isNamed_0 (by decide) ?_
  refine lv_istore_n (lv' := [(2, .int 0), (0, .ref a0), (1, .int x1)]) hx hb dX7_isNamed_1 rfl hl (by decide) rfl (fun ls hl => ?_)
  have h2 : (0 : Int32).toInt = 0 := by decide
  refine th_loop (fun n g H locs => ∃ (G : Nat → va_E) (ls : Array Slot) (w1 : Int32), g = F0 m 2 ls [] ∧ lv_has ls 3 [(0, .ref a0), (1, .int x1), (2, .int w1)] ∧ va_P (dC, dI) vwCl (va_pl L G) H ∧ va_S (fun q => q ∈ L) s.heap H locs ∧ y_I K cs A G ∧ (∀ b, K b ∉ ([] : List Nat) → G b = F b) ∧ (∀ k, k ∈ ([1, 2, 3, 4, 5, 6, 7, 8, 11, 15, 16, 19, 25, 26, 27, 31, 32] : List Nat) → y_fi G a0 k = z0 k) ∧ (0 ≤ w1.toInt ∧ w1.toInt ≤ 40) ∧ n = (41 - w1.toInt).toNat) _ ⟨F, _, 0, rfl, lv_sub hl [1, 2, 0] rfl, hP, hS, hI, hfr, (fun k hk => (y_fiZ oY0 (s_sub (by decide) hk)).trans (hz0 k hk)), (by decide), rfl⟩ (fun n ih2 g H locs hq => ?_)
  obtain ⟨F4, ls, w1, rfl, hl, hP, hS, hI, hfr, hz0, h3, hn⟩ := hq
  have oY5 : F4 a0 = .inr (7, y_fl A z0 q0) := (hfr _ (by rw [ha0]; decide)).trans oY0
  have hz0 : ∀ k, k ∈ ([1, 2, 3, 4, 5, 6, 7, 8, 11, 15, 16, 19, 25, 26, 27, 31, 32] : List Nat) → z0 k = z0 k := fun _ _ => rfl
  have hn_5 := hn
  refine lv_iload_n hx hb dX7_isNamed_2 rfl (lv_at hl 2 rfl) ?_
  refine lv_aload_n hx hb dX7_isNamed_3 rfl (lv_at hl 0 rfl) ?_
  obtain ⟨f6, o7, b8⟩ := y_op12 hI
  refine va_calli (va_runV (As := []) (rest := [.int w1]) ⟨hx, hb, hml, hown, hts⟩ (y_X7_drafted l dC dI H.size hLK A hA F4 a0 ha0 hI) (cwV 0 hts (ax_gV T_293 T_294 T_295 T_265 T_28) rfl rfl rfl (by decide +kernel) ⟨Nat.le_of_ble_eq_true rfl, Nat.le_of_ble_eq_true rfl⟩) ⟨fun a U g mk q => ⟨q.1, s_pc rfl rfl q.2⟩, s_recv hK hP (hLK _ ha0 (by decide)) (ci := 7) rfl oY5, fun U hU hW => ⟨rfl, s_pw hU hW hP hK hD hN⟩⟩ rfl rfl hl.1 rfl (lv_room (Nat.le_of_ble_eq_true rfl)) dX7_isNamed_4 ⟨Nat.zero_le _, Nat.zero_le _⟩) hS (fun q _ h => h) (fun q h => h) (fun r10 F11 t H1 locs ht hvm hw hB hz1 hk1 hS => ?_)
  obtain ⟨hP, hK1⟩ := hB
  rw [ht] at hP
  generalize H1 = H at hP hS ⊢
  obtain ⟨h12, h14, hI, hfr1, hzf, h13⟩ := hw
  have o15 : F11 (A 12) = .inl (cs 0, 400, .inl f6) := (hfr1 _ (by rw [(y_k12 hA)]; decide)).trans o7
  have oY16 : F11 a0 = .inr (7, y_fl A z0 q0) := (hfr1 _ (by rw [ha0]; decide)).trans oY5
  have hfr : ∀ b, K b ∉ ([] : List Nat) → F11 b = F b := fun b hb9 => (hfr1 b (fun q => hb9 (s_sub (by decide) q))).trans (hfr b hb9)
  have h13 : (r10 = y_c f6 387) := by have q9 := h13; rw [y_atE o7] at q9; exact q9
  have h17 := congrArg Int32.toInt h13
  refine lv_icmp_ge (tgt := 33) hx hb dX7_isNamed_7 (by decide) (fun c18 => ?_) (fun c18 => ?_)
  · have c18 := Int32.le_iff_toInt_le.mp c18
    refine lv_iconst (v := 0) hx hb dX7_isNamed_33 (by decide) ?_
    have h19 : (0 : Int32).toInt = 0 := by decide
    exact W.zret (v := 0) (ty := .boolean) hx hb hr (by decide) (fun t ht hW => ⟨⟨0, F11, rfl, ⟨(by decide), trivial, hI, hfr, fun k hk => (y_fiZ oY16 (s_sub (by decide) hk)).trans ((hz0 k hk).trans (y_fiZ oY0 (s_sub (by decide) hk)).symm), trivial⟩, by rw [ht]; exact hP, va_K.moved hW.alike hK⟩, hS.F ht⟩) hS.2.2 dX7_isNamed_34
  · have c18 := mt Int32.le_iff_toInt_le.mpr c18
    refine lv_aload_n hx hb dX7_isNamed_10 rfl (lv_at hl 0 rfl) ?_
    refine th_get (D := (dC, dI)) (ci := 7) (v := .ref (A 12)) (C := RX7) (T := TX7) (N := 34) hx hb hts inX7 hown hK hP (hLK _ ha0 (by decide)) oY16 rfl 12 (by decide) (hts _ T_245) (fun _ h9 => h9) rfl dX7_isNamed_11 ?_
    refine lv_iload_n hx hb dX7_isNamed_14 rfl (lv_at hl 2 rfl) ?_
    refine lv_bipush (v := 7) hx hb dX7_isNamed_15 (by decide) ?_
    refine va_calli (va_runS (As := [.int w1, .int 7]) (rest := [.ref (A 12)]) ⟨hx, hb, hml, hown, hts⟩ (y_X7_lineAt l dC dI H.size F11 w1 7 (⟨by omega, by omega⟩) (by decide)) (cwS 2 hts (ax_gS T_1216 T_1218 T_265 T_1217) rfl rfl rfl (by decide +kernel) ⟨Nat.le_of_ble_eq_true rfl, Nat.le_of_ble_eq_true rfl⟩) ⟨fun a U g mk q => ⟨q.1, s_pc rfl rfl q.2⟩, fun U hU hW => ⟨rfl, s_pw hU hW hP hK hD hN⟩⟩ rfl rfl hl.1 rfl (lv_room (Nat.le_of_ble_eq_true rfl)) dX7_isNamed_17 ⟨Nat.zero_le _, Nat.zero_le _⟩) hS (fun q _ h => h) (fun q h => h) (fun r21 F22 t H1 locs ht hvm hw hB hz1 hk1 hS => ?_)
    obtain ⟨hP, hK1⟩ := hB
    rw [ht] at hP
    generalize H1 = H at hP hS ⊢
    obtain ⟨h23, h25, hG9, h24⟩ := hw
    rw [hG9] at hP
    have h24 : (r21.toInt = 8 * w1.toInt + 7) := by have q9 := h24; exact q9
    refine th_iald hx hb hK hP (hLK _ (y_k12 hA) (by decide)) 0 o15 rfl (th_in ⟨by omega, by omega⟩) dX7_isNamed_20 ?_
    refine lv_topi (fun v26 ev26 => ?_)
    refine lv_iload_n hx hb dX7_isNamed_21 rfl (lv_at hl 1 rfl) ?_
    refine lv_icmp_ne (tgt := 27) hx hb dX7_isNamed_22 (by decide) (fun c27 => ?_) (fun c27 => ?_)
    · have c27 := mt Int32.toInt_inj.symm.mpr c27
      obtain ⟨v28, ev28⟩ : ∃ y : Int32, w1 + 1 = y := ⟨_, rfl⟩
      have qv28 : v28.toInt = w1.toInt + 1 := by rw [← ev28]; exact th_add rfl (by decide) ⟨by omega, by omega⟩
      refine lv_iinc (v := v28) (lv' := [(2, .int v28), (0, .ref a0), (1, .int x1)]) hx hb dX7_isNamed_27 hl (k := 2) rfl ev28 (by decide) rfl (fun ls hl => ?_)
      refine lv_goto (tgt := 2) hx hb dX7_isNamed_30 (by decide) ?_
      exact ih2 _ _ _ _ (by omega) ⟨F11, _, v28, rfl, lv_sub hl [1, 2, 0] rfl, hP, hS, hI, hfr, (fun k hk => (y_fiZ oY16 (s_sub (by decide) hk)).trans (hz0 k hk)), ⟨by omega, by omega⟩, rfl⟩
    · have c27 := Int32.toInt_inj.symm.mp c27
      refine lv_iconst (v := 1) hx hb dX7_isNamed_25 (by decide) ?_
      have h29 : (1 : Int32).toInt = 1 := by decide
      exact W.zret (v := 1) (ty := .boolean) hx hb hr (by decide) (fun t ht hW => ⟨⟨1, F11, rfl, ⟨(by decide), trivial, hI, hfr, fun k hk => (y_fiZ oY16 (s_sub (by decide) hk)).trans ((hz0 k hk).trans (y_fiZ oY0 (s_sub (by decide) hk)).symm), trivial⟩, by rw [ht]; exact hP, va_K.moved hW.alike hK⟩, hS.F ht⟩) hS.2.2 dX7_isNamed_26
