set_option maxHeartbeats 24000000 in
set_option maxRecDepth 100000 in
theorem y_X7_lineTold (l : Launch) (dC : Nat → ClassId) (dI : Nat → Nat → Nat) (sz : Nat) {L : List Nat} {K : Nat → Nat} {cs : Nat → ClassId} (hLK : ∀ a {k : Nat}, K a = k → k ≠ 0 → a ∈ L) (A : Nat → Nat) (hA : y_A K A) (F : Nat → va_E) (a0 : Nat) (x1 : Int32) (ha0 : K a0 = 9) (hI : y_I K cs A F) (hg9 : ((y_c (y_at F (A 12)) 387).toInt ≤ 39 ∧ (y_fi F a0 5).toInt = 0)) : Met l yX7_lineTold (Cond.code yX7_lineTold cX7_lineTold 4 none :: T0) ({ frames := 6, cells := 0, slots := 0, locals := 128 }) (va_Pc [.ref a0, .int x1] (s_W dC dI sz L F [(cs 0, .int), (cs 1, .byte), (cs 2, .long), (cs 3, .object RX5), (cs 4, .object RX4), (cs 5, .array .int), (cs 6, .char), (cs 7, .boolean)])) (va_Qv (fun (G : Nat → va_E) => True ∧ True ∧ y_I K cs A G ∧ (∀ b, K b ∉ [9, 62, 64] → G b = F b) ∧ (∀ k, k ∈ ([1, 3, 7, 8, 15, 16, 19, 25, 26, 27, 31, 32] : List Nat) → y_fi G a0 k = y_fi F a0 k) ∧ (((y_fi F a0 5).toInt = 0 ∨ ¬ (y_fi G a0 5).toInt = 0) ∧ (∀ j : Int, 0 ≤ j → j < 8 * (y_c (y_at F (A 12)) 387).toInt → y_c (y_at G (A 12)) j = y_c (y_at F (A 12)) j) ∧ (∀ j : Int, 8 * (y_c (y_at F (A 12)) 387).toInt + 8 ≤ j → j ≠ 387 → y_c (y_at G (A 12)) j = y_c (y_at F (A 12)) j) ∧ ((y_fi G a0 5).toInt = 0 → (y_c (y_at G (A 12)) 387).toInt = (y_c (y_at F (A 12)) 387).toInt + 1 ∧ y_rg (y_at G (A 12)) (y_c (y_at F (A 12)) 387).toInt))) (fun (G : Nat → va_E) (t : State) => va_P (dC, dI) vwCl (va_pl L G) t.heap ∧ va_K (dC, dI) vwCl [(cs 0, .int), (cs 1, .byte), (cs 2, .long), (cs 3, .object RX5), (cs 4, .object RX4), (cs 5, .array .int), (cs 6, .char), (cs 7, .boolean)] t) (fun q => q ∈ L)) 0 0 (fun q => q ∈ L) := by
  refine Met.ofW (cc := cX7_lineTold) (maxL := 4) (ret := none) (by decide) rfl ?_
  intro p e s m args below meth c s₁ B hml hv
  obtain ⟨rfl, hsz, hP, hK, hD, hN⟩ := hv
  have hx := B.exec
  have hb := B.bytes
  have hr := B.returns
  have hts : ∀ w ∈ T0, w.before _ s = true := fun w h => atoms_spec (ws := Cond.code yX7_lineTold cX7_lineTold 4 none :: T0) B.pre w (List.mem_cons_of_mem _ h)
  have hown : s.vm.findClass RX7 = some m.cls := findClass_of_methodNamed B.named
  have hlocks := B.notSynchronized
  have hS : va_S (fun q => q ∈ L) s.heap s.heap [] := va_S.rf
  have hfr : ∀ b, K b ∉ [9, 62, 64] → F b = F b := fun _ _ => rfl
  have hl := lv_entry ([.ref a0, .int x1]) (n := 4) (Nat.le_of_ble_eq_true rfl)
  rw [lg_entry_eq]
  generalize (lg_sl ([.ref a0, .int x1]) ++ List.replicate (4 - (lg_sl ([.ref a0, .int x1])).length) Slot.unset).toArray = ls at hl ⊢
  have hl : lv_has ls 4 [(0, .ref a0), (1, .int x1)] := hl
  refine s_gen hP hS (fun H locs hP hS => ?_)
  obtain ⟨z0, q0, oY0, bz0, bq0⟩ := y_opY hI ha0
  have hz0 : ∀ k, k ∈ ([1, 3, 7, 8, 15, 16, 19, 25, 26, 27, 31, 32] : List Nat) → z0 k = z0 k := fun _ _ => rfl
  obtain ⟨f1, o2, b3⟩ := y_op12 hI
  obtain ⟨v4, ev4⟩ : ∃ y : Int32, y = z0 5 := ⟨_, rfl⟩
  have eF_5 := ev4
  replace hg9 : ((y_c f1 387).toInt ≤ 39 ∧ v4.toInt = 0) := by have q9 := hg9; rw [y_atE o2, y_fiZ oY0 (k := 5) (by decide), ← ev4] at q9; exact q9
  obtain ⟨nn, hnn⟩ : ∃ n : Int, n = (y_c f1 387).toInt := ⟨_, rfl⟩
  have hnb : 0 ≤ (y_c f1 387).toInt ∧ (y_c f1 387).toInt ≤ 40 := b3
  rw [← hnn] at hnb
  rw [← hnn] at hg9
  have e0_v4 := ev4
  refine th_join (fun g H locs => ∃ (G : Nat → va_E) (ls : Array Slot), g = F0 m 147 ls [] ∧ lv_has ls 4 [(0, .ref a0)] ∧ va_P (dC, dI) vwCl (va_pl L G) H ∧ va_S (fun q => q ∈ L) s.heap H locs ∧ y_I K cs A G ∧ (∀ b, K b ∉ [9, 62, 64] → G b = F b) ∧ (∀ k, k ∈ ([1, 3, 7, 8, 15, 16, 19, 25, 26, 27, 31, 32] : List Nat) → y_fi G a0 k = z0 k) ∧ (y_c (y_at G (A 12)) 387).toInt = nn ∧ (∀ j : Int, 0 ≤ j → (j < 8 * nn ∨ 8 * nn + 8 ≤ j) → y_c (y_at G (A 12)) j = y_c f1 j) ∧ ((y_fi G a0 5).toInt = 0 → (0 ≤ (y_c (y_at G (A 12)) (8 * nn)).toInt ∧ (y_c (y_at G (A 12)) (8 * nn)).toInt ≤ 15) ∧ (((y_c (y_at G (A 12)) (8 * nn)).toInt = 5 ∨ (y_c (y_at G (A 12)) (8 * nn)).toInt = 6 ∨ 12 ≤ (y_c (y_at G (A 12)) (8 * nn)).toInt) ∨ -4 ≤ (y_c (y_at G (A 12)) (8 * nn + 2)).toInt) ∧ (((y_c (y_at G (A 12)) (8 * nn)).toInt = 5 ∨ (y_c (y_at G (A 12)) (8 * nn)).toInt = 6 ∨ 12 ≤ (y_c (y_at G (A 12)) (8 * nn)).toInt ∨ (y_c (y_at G (A 12)) (8 * nn)).toInt = 0 ∨ (y_c (y_at G (A 12)) (8 * nn)).toInt = 7 ∨ (y_c (y_at G (A 12)) (8 * nn)).toInt = 9 ∨ (y_c (y_at G (A 12)) (8 * nn)).toInt = 11) ∨ -4 ≤ (y_c (y_at G (A 12)) (8 * nn + 3)).toInt) ∧ ((y_c (y_at G (A 12)) (8 * nn)).toInt ≠ 12 ∨ (y_c (y_at G (A 12)) (8 * nn + 5)).toInt = -1000000 ∨ (-4 ≤ (y_c (y_at G (A 12)) (8 * nn + 2)).toInt ∧ -4 ≤ (y_c (y_at G (A 12)) (8 * nn + 3)).toInt))) ∧ v4.toInt = 0) (fun K147 => ?_) ?_
  refine th_join (fun g H locs => ∃ (G : Nat → va_E) (ls : Array Slot) (w5 : Int32), g = F0 m 110 ls [] ∧ lv_has ls 4 [(0, .ref a0), (2, .int w5)] ∧ va_P (dC, dI) vwCl (va_pl L G) H ∧ va_S (fun q => q ∈ L) s.heap H locs ∧ y_I K cs A G ∧ (∀ b, K b ∉ [9, 62, 64] → G b = F b) ∧ (∀ k, k ∈ ([1, 3, 7, 8, 15, 16, 19, 25, 26, 27, 31, 32] : List Nat) → y_fi G a0 k = z0 k) ∧ True ∧ (y_c (y_at G (A 12)) 387).toInt = nn ∧ (∀ j : Int, 0 ≤ j → (j < 8 * nn ∨ 8 * nn + 8 ≤ j) → y_c (y_at G (A 12)) j = y_c f1 j) ∧ ((v4.toInt = 0 ∧ 0 ≤ w5.toInt ∧ w5.toInt ≤ 15) ∧ (y_c (y_at G (A 12)) (8 * nn + 5)).toInt = -1000000 ∧ ((y_fi G a0 5).toInt = 0 → (y_c (y_at G (A 12)) (8 * nn)).toInt = w5.toInt))) (fun K110 => ?_) ?_
  refine th_join (fun g H locs => ∃ (G : Nat → va_E) (ls : Array Slot) (w6 : Int32), g = F0 m 76 ls [] ∧ lv_has ls 4 [(0, .ref a0), (2, .int w6)] ∧ va_P (dC, dI) vwCl (va_pl L G) H ∧ va_S (fun q => q ∈ L) s.heap H locs ∧ y_I K cs A G ∧ (∀ b, K b ∉ [9, 62, 64] → G b = F b) ∧ (∀ k, k ∈ ([1, 3, 7, 8, 15, 16, 19, 25, 26, 27, 31, 32] : List Nat) → y_fi G a0 k = z0 k) ∧ True ∧ (y_c (y_at G (A 12)) 387).toInt = nn ∧ (∀ j : Int, 0 ≤ j → (j < 8 * nn ∨ 8 * nn + 8 ≤ j) → y_c (y_at G (A 12)) j = y_c f1 j) ∧ (v4.toInt = 0 ∧ (y_c (y_at G (A 12)) (8 * nn + 5)).toInt = -1000000 ∧ ((y_fi G a0 5).toInt = 0 → 0 ≤ w6.toInt ∧ w6.toInt ≤ 15))) (fun K76 => ?_) ?_
  · refine lv_iconst (v := 1) hx hb dX7_lineTold_0 (by decide) ?_
    refine lv_istore_n (lv' := [(2, .int 1), (0, .ref a0), (1, .int x1)]) hx hb dX7_lineTold_1 rfl hl (by decide) rfl (fun ls hl => ?_)
    have h8 : (1 : Int32).toInt = 1 := by decide
    refine th_loop (fun n g H locs => ∃ (G : Nat → va_E) (ls : Array Slot) (w7 : Int32), g = F0 m 2 ls [] ∧ lv_has ls 4 [(0, .ref a0), (1, .int x1), (2, .int w7)] ∧ va_P (dC, dI) vwCl (va_pl L G) H ∧ va_S (fun q => q ∈ L) s.heap H locs ∧ y_I K cs A G ∧ (∀ b, K b ∉ [9, 62, 64] → G b = F b) ∧ (∀ k, k ∈ ([1, 3, 7, 8, 15, 16, 19, 25, 26, 27, 31, 32] : List Nat) → y_fi G a0 k = z0 k) ∧ (1 ≤ w7.toInt ∧ w7.toInt ≤ 7) ∧ (y_c (y_at G (A 12)) 387).toInt = nn ∧ (∀ j : Int, 0 ≤ j → (j < 8 * nn ∨ 8 * nn + 8 ≤ j) → y_c (y_at G (A 12)) j = y_c f1 j) ∧ ((v4.toInt = 0 ∧ (y_fi G a0 5).toInt = 0) ∧ (6 ≤ w7.toInt → (y_c (y_at G (A 12)) (8 * nn + 5)).toInt = -1000000)) ∧ n = (8 - w7.toInt).toNat) _ ⟨F, _, 1, rfl, lv_sub hl [1, 2, 0] rfl, hP, hS, hI, hfr, (fun k hk => (y_fiZ oY0 (s_sub (by decide) hk)).trans (hz0 k hk)), (by decide), (by rw [y_atE o2]; exact hnn.symm), (by rw [y_atE o2]; exact (fun j _ _ => rfl)), (by first | (rw [y_fiZ oY0 (k := 5) (by decide), ← ev4, y_atE o2]; omega) | rw [y_fiZ oY0 (k := 5) (by decide), ← ev4, y_atE o2]), rfl⟩ (fun n ih2 g H locs hq => ?_)
    obtain ⟨F13, ls, w7, rfl, hl, hP, hS, hI, hfr, hz0, h9, h10, h11, h12, hn⟩ := hq
    obtain ⟨z14, q15, oY16, bz17, bq18⟩ := y_opY hI ha0
    have hz0 : ∀ k, k ∈ ([1, 3, 7, 8, 15, 16, 19, 25, 26, 27, 31, 32] : List Nat) → z14 k = z0 k := fun k hk => (y_fiZ oY16 (s_sub (by decide) hk)).symm.trans (hz0 k hk)
    obtain ⟨f19, o20, b21⟩ := y_op12 hI
    replace h10 : (y_c f19 387).toInt = nn := by have q9 := h10; rw [y_atE o20] at q9; exact q9
    replace h11 : (∀ j : Int, 0 ≤ j → (j < 8 * nn ∨ 8 * nn + 8 ≤ j) → y_c f19 j = y_c f1 j) := by have q9 := h11; rw [y_atE o20] at q9; exact q9
    obtain ⟨v22, ev22⟩ : ∃ y : Int32, y = z14 5 := ⟨_, rfl⟩
    replace h12 : ((v4.toInt = 0 ∧ v22.toInt = 0) ∧ (6 ≤ w7.toInt → (y_c f19 (8 * nn + 5)).toInt = -1000000)) := by have q9 := h12; rw [y_fiZ oY16 (k := 5) (by decide), ← ev22, y_atE o20] at q9; exact q9
    have hn_22 := hn
    refine lv_iload_n hx hb dX7_lineTold_2 rfl (lv_at hl 2 rfl) ?_
    refine lv_bipush (v := 7) hx hb dX7_lineTold_3 (by decide) ?_
    refine lv_icmp_ge (tgt := 21) hx hb dX7_lineTold_5 (by decide) (fun c23 => ?_) (fun c23 => ?_)
    · have c23 := (ax_ge (n := 7) (by decide)).mp c23
      refine lv_aload_n hx hb dX7_lineTold_21 rfl (lv_at hl 0 rfl) ?_
      refine lv_bipush (v := 7) hx hb dX7_lineTold_22 (by decide) ?_
      refine lv_iload_n hx hb dX7_lineTold_24 rfl (lv_at hl 1 rfl) ?_
      have ep24_5 := ev22
      refine va_callv (va_runV (As := [.int 7, .int x1]) (rest := []) ⟨hx, hb, hml, hown, hts⟩ (y_X7_lays l dC dI H.size hLK A hA F13 a0 7 x1 ha0 (by decide) hI) (cwV 2 hts (ax_gV T_1115 T_1117 T_1118 T_265 T_1116) rfl rfl rfl (by decide +kernel) ⟨Nat.le_of_ble_eq_true rfl, Nat.le_of_ble_eq_true rfl⟩) ⟨fun a U g mk q => ⟨q.1, s_pc (U := U) rfl rfl q.2⟩, s_recv hK hP (hLK _ ha0 (by decide)) (ci := 7) rfl oY16, fun U hU hW => ⟨rfl, s_pw hU hW hP hK hD hN⟩⟩ rfl rfl hl.1 rfl (lv_room (Nat.le_of_ble_eq_true rfl)) dX7_lineTold_25 ⟨Nat.zero_le _, Nat.zero_le _⟩) hS (fun q _ h => h) (fun q h => h) (fun F25 t H1 locs ht hvm hw hB hz1 hk1 hS => ?_)
      obtain ⟨hP, hK1⟩ := hB
      rw [ht] at hP
      generalize H1 = H at hP hS ⊢
      clear hz1 hk1 hvm hK1
      obtain ⟨h26, h28, hI, hfr1, hzf, h27⟩ := hw
      have oY29 : F25 a0 = .inr (7, y_fl A z14 q15) := (hfr1 _ (by rw [ha0]; decide)).trans oY16
      have hfr : ∀ b, K b ∉ [9, 62, 64] → F25 b = F b := fun b hb9 => (hfr1 b (fun q => hb9 (s_sub (by decide) q))).trans (hfr b hb9)
      obtain ⟨f30, o31, b32⟩ := y_op12 hI
      replace h27 : ((∀ j : Int, 0 ≤ j → j ≠ 8 * (y_c f19 387).toInt + 7 → y_c f30 j = y_c f19 j) ∧ (v22.toInt = 0 → y_c f30 (8 * (y_c f19 387).toInt + 7) = x1)) := by have q9 := h27; rw [y_atE o20, y_atE o31, y_fiZ oY16 (k := 5) (by decide), ← ep24_5] at q9; exact q9
      rw [h10] at h27
      have hn33 : (y_c f30 387).toInt = nn := by rw [h27.1 387 (by omega) (by omega)]; exact h10
      have hfr34 : ∀ j : Int, 0 ≤ j → (j < 8 * nn ∨ 8 * nn + 8 ≤ j) → y_c f30 j = y_c f1 j := fun j h0 h1 => (h27.1 j h0 (by omega)).trans (h11 j h0 h1)
      have h35 : (y_c f30 (8 * nn + 5)).toInt = (y_c f19 (8 * nn + 5)).toInt := (congrArg Int32.toInt (h27.1 _ (by omega) (by omega)))
      refine lv_aload_n hx hb dX7_lineTold_28 rfl (lv_at hl 0 rfl) ?_
      refine va_calli (va_runV (As := []) (rest := []) ⟨hx, hb, hml, hown, hts⟩ (y_X7_ownHere l dC dI H.size hLK A hA F25 a0 ha0 hI) (cwV 0 hts (ax_gV T_283 T_284 T_285 T_265 T_25) rfl rfl rfl (by decide +kernel) ⟨Nat.le_of_ble_eq_true rfl, Nat.le_of_ble_eq_true rfl⟩) ⟨fun a U g mk q => ⟨q.1, s_pc (U := U) rfl rfl q.2⟩, s_recv hK hP (hLK _ ha0 (by decide)) (ci := 7) rfl oY29, fun U hU hW => ⟨rfl, s_pw hU hW hP hK hD hN⟩⟩ rfl rfl hl.1 rfl (lv_room (Nat.le_of_ble_eq_true rfl)) dX7_lineTold_29 ⟨Nat.zero_le _, Nat.zero_le _⟩) hS (fun q _ h => h) (fun q h => h) (fun r37 F38 t H1 locs ht hvm hw hB hz1 hk1 hS => ?_)
      obtain ⟨hP, hK1⟩ := hB
      rw [ht] at hP
      generalize H1 = H at hP hS ⊢
      clear hz1 hk1 hvm hK1
      obtain ⟨h39, h41, hI, hfr1, hzf, h40⟩ := hw
      have o42 : F38 (A 12) = .inl (cs 0, 400, .inl f30) := (hfr1 _ (by rw [(y_k12 hA)]; decide)).trans o31
      obtain ⟨z43, q44, oY45, bz46, bq47⟩ := y_opY hI ha0
      have hzf : ∀ k, k ∈ ([1, 3, 4, 5, 6, 7, 8, 11, 15, 16, 19, 25, 26, 27, 31, 32] : List Nat) → z43 k = z14 k := fun k hk => by have q9 := hzf k hk; rw [y_fiZ oY45 (s_sub (by decide) hk), y_fiZ oY29 (s_sub (by decide) hk)] at q9; exact q9
      have hz0 : ∀ k, k ∈ ([1, 3, 7, 8, 15, 16, 19, 25, 26, 27, 31, 32] : List Nat) → z43 k = z0 k := fun k hk => (hzf k (s_sub (by decide) hk)).trans (hz0 k hk)
      have ev22 : v22 = z43 5 := ev22.trans (hzf 5 (by decide)).symm
      have hfr : ∀ b, K b ∉ [9, 62, 64] → F38 b = F b := fun b hb9 => (hfr1 b (fun q => hb9 (s_sub (by decide) q))).trans (hfr b hb9)
      refine lv_istore_n (lv' := [(2, .int r37), (0, .ref a0), (1, .int x1)]) hx hb dX7_lineTold_32 rfl hl (by decide) rfl (fun ls hl => ?_)
      refine lv_aload_n hx hb dX7_lineTold_33 rfl (lv_at hl 1 rfl) ?_
      refine th_get (D := (dC, dI)) (ci := 7) (v := .int (z43 5)) (C := RX7) (T := TX7) (N := 34) hx hb hts inX7 hown hK hP (hLK _ ha0 (by decide)) oY45 rfl 5 (by decide) (hts _ T_274) (fun _ h9 => h9) rfl dX7_lineTold_34 ?_
      refine ax_eqi (y := v22) ev22.symm ?_
      refine lv_if_ne (tgt := 76) hx hb dX7_lineTold_37 (by decide) (fun c48 => ?_) (fun c48 => ?_)
      · have c48 := mt (ax_eq (n := 0) (by decide)).mpr c48
        exact K76 _ _ _ ⟨F38, _, r37, rfl, lv_sub hl [1, 0] rfl, hP, hS, hI, hfr, (fun k hk => (y_fiZ oY45 (s_sub (by decide) hk)).trans (hz0 k hk)), trivial, (by rw [y_atE o42]; exact hn33), (by rw [y_atE o42]; exact hfr34), (by first | (rw [y_atE o42, y_fiZ oY45 (k := 5) (by decide), ← ev22]; omega) | rw [y_atE o42, y_fiZ oY45 (k := 5) (by decide), ← ev22])⟩
      · have c48 := (ax_eq (n := 0) (by decide)).mp c48
        refine lv_iload_n hx hb dX7_lineTold_40 rfl (lv_at hl 0 rfl) ?_
        refine lv_i2l hx hb dX7_lineTold_41 rfl ?_
        refine lv_topl (fun v49 ev49 => ?_)
        have qv49 : v49.toInt = r37.toInt := y_i2l ev49
        refine lv_lconst (v := 0) hx hb dX7_lineTold_42 (by decide) ?_
        refine lv_ldc2 hx hb hown (hts _ T_1256) dX7_lineTold_43 ?_
        refine va_calli (va_runS (As := [.long v49, .long 0, .long 15]) (rest := []) ⟨hx, hb, hml, hown, hts⟩ (y_X7_isIn l dC dI H.size F38 v49 0 15) (cwS 3 hts (ax_gS T_267 T_268 T_265 T_21) rfl rfl rfl (by decide +kernel) ⟨Nat.le_of_ble_eq_true rfl, Nat.le_of_ble_eq_true rfl⟩) ⟨fun a U g mk q => ⟨q.1, s_pc (U := U) rfl rfl q.2⟩, fun U hU hW => ⟨rfl, s_pw hU hW hP hK hD hN⟩⟩ rfl rfl hl.1 rfl (lv_room (Nat.le_of_ble_eq_true rfl)) dX7_lineTold_46 ⟨Nat.zero_le _, Nat.zero_le _⟩) hS (fun q _ h => h) (fun q h => h) (fun r51 F52 t H1 locs ht hvm hw hB hz1 hk1 hS => ?_)
        obtain ⟨hP, hK1⟩ := hB
        rw [ht] at hP
        generalize H1 = H at hP hS ⊢
        clear hz1 hk1 hvm hK1
        obtain ⟨h53, h55, hG9, h54⟩ := hw
        rw [hG9] at hP
        replace h54 : ((r51.toInt = 0 ∧ (v49.toInt < 0 ∨ 15 < v49.toInt)) ∨ (r51.toInt = 1 ∧ 0 ≤ v49.toInt ∧ v49.toInt ≤ 15)) := by have q9 := h54; exact q9
        refine lv_if_ne (tgt := 76) hx hb dX7_lineTold_49 (by decide) (fun c56 => ?_) (fun c56 => ?_)
        · have c56 := mt (ax_eq (n := 0) (by decide)).mpr c56
          exact K76 _ _ _ ⟨F38, _, r37, rfl, lv_sub hl [1, 0] rfl, hP, hS, hI, hfr, (fun k hk => (y_fiZ oY45 (s_sub (by decide) hk)).trans (hz0 k hk)), trivial, (by rw [y_atE o42]; exact hn33), (by rw [y_atE o42]; exact hfr34), (by first | (rw [y_atE o42, y_fiZ oY45 (k := 5) (by decide), ← ev22]; omega) | rw [y_atE o42, y_fiZ oY45 (k := 5) (by decide), ← ev22])⟩
        · have c56 := (ax_eq (n := 0) (by decide)).mp c56
          refine lv_aload_n hx hb dX7_lineTold_52 rfl (lv_at hl 1 rfl) ?_
          refine lv_iconst (v := 1) hx hb dX7_lineTold_53 (by decide) ?_
          refine lv_aload_n hx hb dX7_lineTold_54 rfl (lv_at hl 1 rfl) ?_
          refine va_calli (va_runV (As := []) (rest := [.int 1, .ref a0]) ⟨hx, hb, hml, hown, hts⟩ (y_X7_look l dC dI H.size hLK A hA F38 a0 ha0 hI) (cwV 0 hts (ax_gV T_275 T_276 T_277 T_265 T_22) rfl rfl rfl (by decide +kernel) ⟨Nat.le_of_ble_eq_true rfl, Nat.le_of_ble_eq_true rfl⟩) ⟨fun a U g mk q => ⟨q.1, s_pc (U := U) rfl rfl q.2⟩, s_recv hK hP (hLK _ ha0 (by decide)) (ci := 7) rfl oY45, fun U hU hW => ⟨rfl, s_pw hU hW hP hK hD hN⟩⟩ rfl rfl hl.1 rfl (lv_room (Nat.le_of_ble_eq_true rfl)) dX7_lineTold_55 ⟨Nat.zero_le _, Nat.zero_le _⟩) hS (fun q _ h => h) (fun q h => h) (fun r58 F59 t H1 locs ht hvm hw hB hz1 hk1 hS => ?_)
          obtain ⟨hP, hK1⟩ := hB
          rw [ht] at hP
          generalize H1 = H at hP hS ⊢
          clear hz1 hk1 hvm hK1
          obtain ⟨h60, h62, hI, hfr1, hzf, h61⟩ := hw
          have o63 : F59 (A 12) = .inl (cs 0, 400, .inl f30) := (hfr1 _ (by rw [(y_k12 hA)]; decide)).trans o42
          obtain ⟨z64, q65, oY66, bz67, bq68⟩ := y_opY hI ha0
          have hzf : ∀ k, k ∈ ([1, 3, 4, 5, 6, 7, 8, 11, 15, 16, 19, 25, 26, 27, 31, 32] : List Nat) → z64 k = z43 k := fun k hk => by have q9 := hzf k hk; rw [y_fiZ oY66 (s_sub (by decide) hk), y_fiZ oY45 (s_sub (by decide) hk)] at q9; exact q9
          have hz0 : ∀ k, k ∈ ([1, 3, 7, 8, 15, 16, 19, 25, 26, 27, 31, 32] : List Nat) → z64 k = z0 k := fun k hk => (hzf k (s_sub (by decide) hk)).trans (hz0 k hk)
          have ev22 : v22 = z64 5 := ev22.trans (hzf 5 (by decide)).symm
          have hfr : ∀ b, K b ∉ [9, 62, 64] → F59 b = F b := fun b hb9 => (hfr1 b (fun q => hb9 (s_sub (by decide) q))).trans (hfr b hb9)
          obtain ⟨v69, ev69⟩ : ∃ y : Int32, y = z64 2 := ⟨_, rfl⟩
          have qv69 : 0 ≤ v69.toInt ∧ v69.toInt ≤ 1600 := by rw [ev69]; exact y_bY2 bz67
          obtain ⟨v70, ev70⟩ : ∃ y : Int32, y = z64 3 := ⟨_, rfl⟩
          have qv70 : 0 ≤ v70.toInt ∧ v70.toInt ≤ 1600 := by rw [ev70]; exact y_bY3 bz67
          replace h61 : (r58.toInt = -1 ∨ v69.toInt < v70.toInt) := by have q9 := h61; rw [y_fiZ oY66 (k := 2) (by decide), ← ev69, y_fiZ oY66 (k := 3) (by decide), ← ev70] at q9; exact q9
          refine lv_iconst (v := (-1)) hx hb dX7_lineTold_58 (by decide) ?_
          refine lv_icmp_ne (tgt := 69) hx hb dX7_lineTold_59 (by decide) (fun c71 => ?_) (fun c71 => ?_)
          · have c71 := mt (ax_eq (n := (-1)) (by decide)).mpr c71
            refine lv_aload_n hx hb dX7_lineTold_69 rfl (lv_at hl 1 rfl) ?_
            refine th_get (D := (dC, dI)) (ci := 7) (v := .int (z64 2)) (C := RX7) (T := TX7) (N := 34) hx hb hts inX7 hown hK hP (hLK _ ha0 (by decide)) oY66 rfl 2 (by decide) (hts _ T_272) (fun _ h9 => h9) rfl dX7_lineTold_70 ?_
            refine ax_eqi (y := v69) ev69.symm ?_
            refine va_callv (va_runV (As := [.int 1, .int v69]) (rest := []) ⟨hx, hb, hml, hown, hts⟩ (y_X7_fail l dC dI H.size hLK A hA F59 a0 1 v69 ha0 (by decide) hI) (cwV 2 hts (ax_gV T_290 T_291 T_292 T_265 T_27) rfl rfl rfl (by decide +kernel) ⟨Nat.le_of_ble_eq_true rfl, Nat.le_of_ble_eq_true rfl⟩) ⟨fun a U g mk q => ⟨q.1, s_pc (U := U) rfl rfl q.2⟩, s_recv hK hP (hLK _ ha0 (by decide)) (ci := 7) rfl oY66, fun U hU hW => ⟨rfl, s_pw hU hW hP hK hD hN⟩⟩ rfl rfl hl.1 rfl (lv_room (Nat.le_of_ble_eq_true rfl)) dX7_lineTold_73 ⟨Nat.zero_le _, Nat.zero_le _⟩) hS (fun q _ h => h) (fun q h => h) (fun F73 t H1 locs ht hvm hw hB hz1 hk1 hS => ?_)
            obtain ⟨hP, hK1⟩ := hB
            rw [ht] at hP
            generalize H1 = H at hP hS ⊢
            clear hz1 hk1 hvm hK1
            obtain ⟨h74, h76, hI, hfr1, hzf, h75⟩ := hw
            have o77 : F73 (A 12) = .inl (cs 0, 400, .inl f30) := (hfr1 _ (by rw [(y_k12 hA)]; decide)).trans o63
            obtain ⟨z78, q79, oY80, bz81, bq82⟩ := y_opY hI ha0
            have hzf : ∀ k, k ∈ ([1, 2, 3, 4, 7, 8, 11, 15, 16, 19, 25, 26, 27, 31, 32] : List Nat) → z78 k = z64 k := fun k hk => by have q9 := hzf k hk; rw [y_fiZ oY80 (s_sub (by decide) hk), y_fiZ oY66 (s_sub (by decide) hk)] at q9; exact q9
            have hz0 : ∀ k, k ∈ ([1, 3, 7, 8, 15, 16, 19, 25, 26, 27, 31, 32] : List Nat) → z78 k = z0 k := fun k hk => (hzf k (s_sub (by decide) hk)).trans (hz0 k hk)
            have ev69 : v69 = z78 2 := ev69.trans (hzf 2 (by decide)).symm
            have ev70 : v70 = z78 3 := ev70.trans (hzf 3 (by decide)).symm
            have hfr : ∀ b, K b ∉ [9, 62, 64] → F73 b = F b := fun b hb9 => (hfr1 b (fun q => hb9 (s_sub (by decide) q))).trans (hfr b hb9)
            obtain ⟨v83, ev83⟩ : ∃ y : Int32, y = z78 5 := ⟨_, rfl⟩
            replace h75 : (¬ v83.toInt = 0) := by have q9 := h75; rw [y_fiZ oY80 (k := 5) (by decide), ← ev83] at q9; exact q9
            exact K76 _ _ _ ⟨F73, _, r37, rfl, lv_sub hl [1, 0] rfl, hP, hS, hI, hfr, (fun k hk => (y_fiZ oY80 (s_sub (by decide) hk)).trans (hz0 k hk)), trivial, (by rw [y_atE o77]; exact hn33), (by rw [y_atE o77]; exact hfr34), (by first | (rw [y_atE o77, y_fiZ oY80 (k := 5) (by decide), ← ev83]; omega) | rw [y_atE o77, y_fiZ oY80 (k := 5) (by decide), ← ev83])⟩
          · have c71 := (ax_eq (n := (-1)) (by decide)).mp c71
            refine lv_aload_n hx hb dX7_lineTold_62 rfl (lv_at hl 1 rfl) ?_
            refine th_get (D := (dC, dI)) (ci := 7) (v := .int (z64 3)) (C := RX7) (T := TX7) (N := 34) hx hb hts inX7 hown hK hP (hLK _ ha0 (by decide)) oY66 rfl 3 (by decide) (hts _ T_273) (fun _ h9 => h9) rfl dX7_lineTold_63 ?_
            refine ax_eqi (y := v70) ev70.symm ?_
            refine lv_goto (tgt := 73) hx hb dX7_lineTold_66 (by decide) ?_
            refine va_callv (va_runV (As := [.int 1, .int v70]) (rest := []) ⟨hx, hb, hml, hown, hts⟩ (y_X7_fail l dC dI H.size hLK A hA F59 a0 1 v70 ha0 (by decide) hI) (cwV 2 hts (ax_gV T_290 T_291 T_292 T_265 T_27) rfl rfl rfl (by decide +kernel) ⟨Nat.le_of_ble_eq_true rfl, Nat.le_of_ble_eq_true rfl⟩) ⟨fun a U g mk q => ⟨q.1, s_pc (U := U) rfl rfl q.2⟩, s_recv hK hP (hLK _ ha0 (by decide)) (ci := 7) rfl oY66, fun U hU hW => ⟨rfl, s_pw hU hW hP hK hD hN⟩⟩ rfl rfl hl.1 rfl (lv_room (Nat.le_of_ble_eq_true rfl)) dX7_lineTold_73 ⟨Nat.zero_le _, Nat.zero_le _⟩) hS (fun q _ h => h) (fun q h => h) (fun F85 t H1 locs ht hvm hw hB hz1 hk1 hS => ?_)
            obtain ⟨hP, hK1⟩ := hB
            rw [ht] at hP
            generalize H1 = H at hP hS ⊢
            clear hz1 hk1 hvm hK1
            obtain ⟨h86, h88, hI, hfr1, hzf, h87⟩ := hw
            have o89 : F85 (A 12) = .inl (cs 0, 400, .inl f30) := (hfr1 _ (by rw [(y_k12 hA)]; decide)).trans o63
            obtain ⟨z90, q91, oY92, bz93, bq94⟩ := y_opY hI ha0
            have hzf : ∀ k, k ∈ ([1, 2, 3, 4, 7, 8, 11, 15, 16, 19, 25, 26, 27, 31, 32] : List Nat) → z90 k = z64 k := fun k hk => by have q9 := hzf k hk; rw [y_fiZ oY92 (s_sub (by decide) hk), y_fiZ oY66 (s_sub (by decide) hk)] at q9; exact q9
            have hz0 : ∀ k, k ∈ ([1, 3, 7, 8, 15, 16, 19, 25, 26, 27, 31, 32] : List Nat) → z90 k = z0 k := fun k hk => (hzf k (s_sub (by decide) hk)).trans (hz0 k hk)
            have ev69 : v69 = z90 2 := ev69.trans (hzf 2 (by decide)).symm
            have ev70 : v70 = z90 3 := ev70.trans (hzf 3 (by decide)).symm
            have hfr : ∀ b, K b ∉ [9, 62, 64] → F85 b = F b := fun b hb9 => (hfr1 b (fun q => hb9 (s_sub (by decide) q))).trans (hfr b hb9)
            obtain ⟨v95, ev95⟩ : ∃ y : Int32, y = z90 5 := ⟨_, rfl⟩
            replace h87 : (¬ v95.toInt = 0) := by have q9 := h87; rw [y_fiZ oY92 (k := 5) (by decide), ← ev95] at q9; exact q9
            exact K76 _ _ _ ⟨F85, _, r37, rfl, lv_sub hl [1, 0] rfl, hP, hS, hI, hfr, (fun k hk => (y_fiZ oY92 (s_sub (by decide) hk)).trans (hz0 k hk)), trivial, (by rw [y_atE o89]; exact hn33), (by rw [y_atE o89]; exact hfr34), (by first | (rw [y_atE o89, y_fiZ oY92 (k := 5) (by decide), ← ev95]; omega) | rw [y_atE o89, y_fiZ oY92 (k := 5) (by decide), ← ev95])⟩
    · have c23 := mt (ax_ge (n := 7) (by decide)).mpr c23
      refine lv_aload_n hx hb dX7_lineTold_8 rfl (lv_at hl 0 rfl) ?_
      refine lv_iload_n hx hb dX7_lineTold_9 rfl (lv_at hl 2 rfl) ?_
      refine lv_ldc (v := (-1000000)) hx hb hown (hts _ T_316) dX7_lineTold_10 ?_
      have rg96 : 0 ≤ w7.toInt ∧ w7.toInt ≤ 7 := ⟨by omega, by omega⟩
      have ep97_5 := ev22
      refine va_callv (va_runV (As := [.int w7, .int (-1000000)]) (rest := []) ⟨hx, hb, hml, hown, hts⟩ (y_X7_lays l dC dI H.size hLK A hA F13 a0 w7 (-1000000) ha0 rg96 hI) (cwV 2 hts (ax_gV T_1115 T_1117 T_1118 T_265 T_1116) rfl rfl rfl (by decide +kernel) ⟨Nat.le_of_ble_eq_true rfl, Nat.le_of_ble_eq_true rfl⟩) ⟨fun a U g mk q => ⟨q.1, s_pc (U := U) rfl rfl q.2⟩, s_recv hK hP (hLK _ ha0 (by decide)) (ci := 7) rfl oY16, fun U hU hW => ⟨rfl, s_pw hU hW hP hK hD hN⟩⟩ rfl rfl hl.1 rfl (lv_room (Nat.le_of_ble_eq_true rfl)) dX7_lineTold_12 ⟨Nat.zero_le _, Nat.zero_le _⟩) hS (fun q _ h => h) (fun q h => h) (fun F98 t H1 locs ht hvm hw hB hz1 hk1 hS => ?_)
      obtain ⟨hP, hK1⟩ := hB
      rw [ht] at hP
      generalize H1 = H at hP hS ⊢
      clear hz1 hk1 hvm hK1
      obtain ⟨h99, h101, hI, hfr1, hzf, h100⟩ := hw
      have oY102 : F98 a0 = .inr (7, y_fl A z14 q15) := (hfr1 _ (by rw [ha0]; decide)).trans oY16
      have hfr : ∀ b, K b ∉ [9, 62, 64] → F98 b = F b := fun b hb9 => (hfr1 b (fun q => hb9 (s_sub (by decide) q))).trans (hfr b hb9)
      obtain ⟨f103, o104, b105⟩ := y_op12 hI
      replace h100 : ((∀ j : Int, 0 ≤ j → j ≠ 8 * (y_c f19 387).toInt + w7.toInt → y_c f103 j = y_c f19 j) ∧ (v22.toInt = 0 → y_c f103 (8 * (y_c f19 387).toInt + w7.toInt) = (-1000000))) := by have q9 := h100; rw [y_atE o20, y_atE o104, y_fiZ oY16 (k := 5) (by decide), ← ep97_5] at q9; exact q9
      rw [h10] at h100
      have hn106 : (y_c f103 387).toInt = nn := by rw [h100.1 387 (by omega) (by omega)]; exact h10
      have hfr107 : ∀ j : Int, 0 ≤ j → (j < 8 * nn ∨ 8 * nn + 8 ≤ j) → y_c f103 j = y_c f1 j := fun j h0 h1 => (h100.1 j h0 (by omega)).trans (h11 j h0 h1)
      have h108 : w7.toInt = 5 → v22.toInt = 0 → (y_c f103 (8 * nn + 5)).toInt = (-1000000) := fun h8 => (fun h9 => (congrArg (fun i => (y_c f103 i).toInt) (show 8 * nn + 5 = 8 * nn + w7.toInt by omega)).trans ((congrArg Int32.toInt (h100.2 h9)).trans (by decide)))
      have h109 : w7.toInt ≠ 5 → (y_c f103 (8 * nn + 5)).toInt = (y_c f19 (8 * nn + 5)).toInt := fun h8 => (congrArg Int32.toInt (h100.1 _ (by omega) (by omega)))
      obtain ⟨v110, ev110⟩ : ∃ y : Int32, w7 + 1 = y := ⟨_, rfl⟩
      have qv110 : v110.toInt = w7.toInt + 1 := by rw [← ev110]; exact th_add rfl (by decide) ⟨by omega, by omega⟩
      refine lv_iinc (v := v110) (lv' := [(2, .int v110), (0, .ref a0), (1, .int x1)]) hx hb dX7_lineTold_15 hl (k := 2) rfl ev110 (by decide) rfl (fun ls hl => ?_)
      refine lv_goto (tgt := 2) hx hb dX7_lineTold_18 (by decide) ?_
      exact ih2 _ _ _ _ (by omega) ⟨F98, _, v110, rfl, lv_sub hl [1, 2, 0] rfl, hP, hS, hI, hfr, (fun k hk => (y_fiZ oY102 (s_sub (by decide) hk)).trans (hz0 k hk)), ⟨by omega, by omega⟩, (by rw [y_atE o104]; exact hn106), (by rw [y_atE o104]; exact hfr107), (by first | (rw [y_fiZ oY102 (k := 5) (by decide), ← ev22, y_atE o104]; omega) | rw [y_fiZ oY102 (k := 5) (by decide), ← ev22, y_atE o104]), rfl⟩
  · intro g H locs hq
    obtain ⟨F115, ls, w6, rfl, hl, hP, hS, hI, hfr, hz0, h111, h112, h113, h114⟩ := hq
    obtain ⟨z116, q117, oY118, bz119, bq120⟩ := y_opY hI ha0
    have hz0 : ∀ k, k ∈ ([1, 3, 7, 8, 15, 16, 19, 25, 26, 27, 31, 32] : List Nat) → z116 k = z0 k := fun k hk => (y_fiZ oY118 (s_sub (by decide) hk)).symm.trans (hz0 k hk)
    obtain ⟨f121, o122, b123⟩ := y_op12 hI
    replace h112 : (y_c f121 387).toInt = nn := by have q9 := h112; rw [y_atE o122] at q9; exact q9
    replace h113 : (∀ j : Int, 0 ≤ j → (j < 8 * nn ∨ 8 * nn + 8 ≤ j) → y_c f121 j = y_c f1 j) := by have q9 := h113; rw [y_atE o122] at q9; exact q9
    obtain ⟨v124, ev124⟩ : ∃ y : Int32, y = z116 5 := ⟨_, rfl⟩
    replace h114 : (v4.toInt = 0 ∧ (y_c f121 (8 * nn + 5)).toInt = -1000000 ∧ (v124.toInt = 0 → 0 ≤ w6.toInt ∧ w6.toInt ≤ 15)) := by have q9 := h114; rw [y_atE o122, y_fiZ oY118 (k := 5) (by decide), ← ev124] at q9; exact q9
    refine lv_aload_n hx hb dX7_lineTold_76 rfl (lv_at hl 0 rfl) ?_
    refine th_get (D := (dC, dI)) (ci := 7) (v := .int (z116 5)) (C := RX7) (T := TX7) (N := 34) hx hb hts inX7 hown hK hP (hLK _ ha0 (by decide)) oY118 rfl 5 (by decide) (hts _ T_274) (fun _ h9 => h9) rfl dX7_lineTold_77 ?_
    refine ax_eqi (y := v124) ev124.symm ?_
    refine lv_if_eq (tgt := 84) hx hb dX7_lineTold_80 (by decide) (fun c125 => ?_) (fun c125 => ?_)
    · have c125 := (ax_eq (n := 0) (by decide)).mp c125
      refine lv_aload_n hx hb dX7_lineTold_84 rfl (lv_at hl 0 rfl) ?_
      refine va_callv (va_runV (As := []) (rest := []) ⟨hx, hb, hml, hown, hts⟩ (y_X7_passes l dC dI H.size hLK A hA F115 a0 ha0 hI) (cwV 0 hts (ax_gV T_1257 T_1259 T_1260 T_265 T_1258) rfl rfl rfl (by decide +kernel) ⟨Nat.le_of_ble_eq_true rfl, Nat.le_of_ble_eq_true rfl⟩) ⟨fun a U g mk q => ⟨q.1, s_pc (U := U) rfl rfl q.2⟩, s_recv hK hP (hLK _ ha0 (by decide)) (ci := 7) rfl oY118, fun U hU hW => ⟨rfl, s_pw hU hW hP hK hD hN⟩⟩ rfl rfl hl.1 rfl (lv_room (Nat.le_of_ble_eq_true rfl)) dX7_lineTold_85 ⟨Nat.zero_le _, Nat.zero_le _⟩) hS (fun q _ h => h) (fun q h => h) (fun F127 t H1 locs ht hvm hw hB hz1 hk1 hS => ?_)
      obtain ⟨hP, hK1⟩ := hB
      rw [ht] at hP
      generalize H1 = H at hP hS ⊢
      clear hz1 hk1 hvm hK1
      obtain ⟨h128, h130, hI, hfr1, hzf, h129⟩ := hw
      have o131 : F127 (A 12) = .inl (cs 0, 400, .inl f121) := (hfr1 _ (by rw [(y_k12 hA)]; decide)).trans o122
      obtain ⟨z132, q133, oY134, bz135, bq136⟩ := y_opY hI ha0
      have hzf : ∀ k, k ∈ ([1, 3, 5, 6, 7, 8, 11, 15, 16, 19, 25, 26, 27, 31, 32] : List Nat) → z132 k = z116 k := fun k hk => by have q9 := hzf k hk; rw [y_fiZ oY134 (s_sub (by decide) hk), y_fiZ oY118 (s_sub (by decide) hk)] at q9; exact q9
      have hz0 : ∀ k, k ∈ ([1, 3, 7, 8, 15, 16, 19, 25, 26, 27, 31, 32] : List Nat) → z132 k = z0 k := fun k hk => (hzf k (s_sub (by decide) hk)).trans (hz0 k hk)
      have ev124 : v124 = z132 5 := ev124.trans (hzf 5 (by decide)).symm
      have hfr : ∀ b, K b ∉ [9, 62, 64] → F127 b = F b := fun b hb9 => (hfr1 b (fun q => hb9 (s_sub (by decide) q))).trans (hfr b hb9)
      refine lv_aload_n hx hb dX7_lineTold_88 rfl (lv_at hl 0 rfl) ?_
      refine lv_iconst (v := 0) hx hb dX7_lineTold_89 (by decide) ?_
      refine lv_iload_n hx hb dX7_lineTold_90 rfl (lv_at hl 1 rfl) ?_
      have ep137_5 := ev124
      refine va_callv (va_runV (As := [.int 0, .int w6]) (rest := []) ⟨hx, hb, hml, hown, hts⟩ (y_X7_lays l dC dI H.size hLK A hA F127 a0 0 w6 ha0 (by decide) hI) (cwV 2 hts (ax_gV T_1115 T_1117 T_1118 T_265 T_1116) rfl rfl rfl (by decide +kernel) ⟨Nat.le_of_ble_eq_true rfl, Nat.le_of_ble_eq_true rfl⟩) ⟨fun a U g mk q => ⟨q.1, s_pc (U := U) rfl rfl q.2⟩, s_recv hK hP (hLK _ ha0 (by decide)) (ci := 7) rfl oY134, fun U hU hW => ⟨rfl, s_pw hU hW hP hK hD hN⟩⟩ rfl rfl hl.1 rfl (lv_room (Nat.le_of_ble_eq_true rfl)) dX7_lineTold_91 ⟨Nat.zero_le _, Nat.zero_le _⟩) hS (fun q _ h => h) (fun q h => h) (fun F138 t H1 locs ht hvm hw hB hz1 hk1 hS => ?_)
      obtain ⟨hP, hK1⟩ := hB
      rw [ht] at hP
      generalize H1 = H at hP hS ⊢
      clear hz1 hk1 hvm hK1
      obtain ⟨h139, h141, hI, hfr1, hzf, h140⟩ := hw
      have oY142 : F138 a0 = .inr (7, y_fl A z132 q133) := (hfr1 _ (by rw [ha0]; decide)).trans oY134
      have hfr : ∀ b, K b ∉ [9, 62, 64] → F138 b = F b := fun b hb9 => (hfr1 b (fun q => hb9 (s_sub (by decide) q))).trans (hfr b hb9)
      obtain ⟨f143, o144, b145⟩ := y_op12 hI
      replace h140 : ((∀ j : Int, 0 ≤ j → j ≠ 8 * (y_c f121 387).toInt + 0 → y_c f143 j = y_c f121 j) ∧ (v124.toInt = 0 → y_c f143 (8 * (y_c f121 387).toInt + 0) = w6)) := by have q9 := h140; rw [y_atE o131, y_atE o144, y_fiZ oY134 (k := 5) (by decide), ← ep137_5] at q9; exact q9
      rw [h112] at h140
      have hn146 : (y_c f143 387).toInt = nn := by rw [h140.1 387 (by omega) (by omega)]; exact h112
      have hfr147 : ∀ j : Int, 0 ≤ j → (j < 8 * nn ∨ 8 * nn + 8 ≤ j) → y_c f143 j = y_c f1 j := fun j h0 h1 => (h140.1 j h0 (by omega)).trans (h113 j h0 h1)
      have h148 : v124.toInt = 0 → (y_c f143 (8 * nn)).toInt = w6.toInt := (fun h9 => (congrArg (fun i => (y_c f143 i).toInt) (show 8 * nn = 8 * nn + 0 by omega)).trans ((congrArg Int32.toInt (h140.2 h9)).trans rfl))
      have h149 : (y_c f143 (8 * nn + 5)).toInt = (y_c f121 (8 * nn + 5)).toInt := (congrArg Int32.toInt (h140.1 _ (by omega) (by omega)))
      refine lv_iload_n hx hb dX7_lineTold_94 rfl (lv_at hl 1 rfl) ?_
      have h150 : 0 ≤ w6.toInt ∧ w6.toInt ≤ 15 := ⟨by omega, by omega⟩
      have rg151 : 0 ≤ w6.toInt ∧ w6.toInt ≤ 15 := ⟨by omega, by omega⟩
      refine va_calli (va_runS (As := [.int w6]) (rest := []) ⟨hx, hb, hml, hown, hts⟩ (y_X7_hasRegister l dC dI H.size F138 w6 rg151) (cwS 1 hts (ax_gS T_1261 T_1263 T_265 T_1262) rfl rfl rfl (by decide +kernel) ⟨Nat.le_of_ble_eq_true rfl, Nat.le_of_ble_eq_true rfl⟩) ⟨fun a U g mk q => ⟨q.1, s_pc (U := U) rfl rfl q.2⟩, fun U hU hW => ⟨rfl, s_pw hU hW hP hK hD hN⟩⟩ rfl rfl hl.1 rfl (lv_room (Nat.le_of_ble_eq_true rfl)) dX7_lineTold_95 ⟨Nat.zero_le _, Nat.zero_le _⟩) hS (fun q _ h => h) (fun q h => h) (fun r153 F154 t H1 locs ht hvm hw hB hz1 hk1 hS => ?_)
      obtain ⟨hP, hK1⟩ := hB
      rw [ht] at hP
      generalize H1 = H at hP hS ⊢
      clear hz1 hk1 hvm hK1
      obtain ⟨h155, h157, hG9, h156⟩ := hw
      rw [hG9] at hP
      refine lv_if_eq (tgt := 110) hx hb dX7_lineTold_98 (by decide) (fun c158 => ?_) (fun c158 => ?_)
      · have c158 := (ax_eq (n := 0) (by decide)).mp c158
        exact K110 _ _ _ ⟨F138, _, w6, rfl, lv_sub hl [0, 1] rfl, hP, hS, hI, hfr, (fun k hk => (y_fiZ oY142 (s_sub (by decide) hk)).trans (hz0 k hk)), trivial, (by rw [y_atE o144]; exact hn146), (by rw [y_atE o144]; exact hfr147), (by first | (rw [y_atE o144, y_fiZ oY142 (k := 5) (by decide), ← ev124]; omega) | rw [y_atE o144, y_fiZ oY142 (k := 5) (by decide), ← ev124])⟩
      · have c158 := mt (ax_eq (n := 0) (by decide)).mpr c158
        have h159 := h157 (fun q => c158 (by rw [q]; decide))
        refine lv_aload_n hx hb dX7_lineTold_101 rfl (lv_at hl 0 rfl) ?_
        refine lv_iconst (v := 1) hx hb dX7_lineTold_102 (by decide) ?_
        refine lv_aload_n hx hb dX7_lineTold_103 rfl (lv_at hl 0 rfl) ?_
        have ep160_5 := ev124
        refine va_calli (va_runV (As := []) (rest := [.int 1, .ref a0]) ⟨hx, hb, hml, hown, hts⟩ (y_X7_registerTold l dC dI H.size hLK A hA F138 a0 ha0 hI) (cwV 0 hts (ax_gV T_1264 T_1266 T_1267 T_265 T_1265) rfl rfl rfl (by decide +kernel) ⟨Nat.le_of_ble_eq_true rfl, Nat.le_of_ble_eq_true rfl⟩) ⟨fun a U g mk q => ⟨q.1, s_pc (U := U) rfl rfl q.2⟩, s_recv hK hP (hLK _ ha0 (by decide)) (ci := 7) rfl oY142, fun U hU hW => ⟨rfl, s_pw hU hW hP hK hD hN⟩⟩ rfl rfl hl.1 rfl (lv_room (Nat.le_of_ble_eq_true rfl)) dX7_lineTold_104 ⟨Nat.zero_le _, Nat.zero_le _⟩) hS (fun q _ h => h) (fun q h => h) (fun r161 F162 t H1 locs ht hvm hw hB hz1 hk1 hS => ?_)
        obtain ⟨hP, hK1⟩ := hB
        rw [ht] at hP
        generalize H1 = H at hP hS ⊢
        clear hz1 hk1 hvm hK1
        obtain ⟨h163, h165, hI, hfr1, hzf, h164⟩ := hw
        have o166 : F162 (A 12) = .inl (cs 0, 400, .inl f143) := (hfr1 _ (by rw [(y_k12 hA)]; decide)).trans o144
        obtain ⟨z167, q168, oY169, bz170, bq171⟩ := y_opY hI ha0
        have hzf : ∀ k, k ∈ ([1, 3, 7, 8, 11, 15, 16, 19, 25, 26, 27, 31, 32] : List Nat) → z167 k = z132 k := fun k hk => by have q9 := hzf k hk; rw [y_fiZ oY169 (s_sub (by decide) hk), y_fiZ oY142 (s_sub (by decide) hk)] at q9; exact q9
        have hz0 : ∀ k, k ∈ ([1, 3, 7, 8, 15, 16, 19, 25, 26, 27, 31, 32] : List Nat) → z167 k = z0 k := fun k hk => (hzf k (s_sub (by decide) hk)).trans (hz0 k hk)
        have hfr : ∀ b, K b ∉ [9, 62, 64] → F162 b = F b := fun b hb9 => (hfr1 b (fun q => hb9 (s_sub (by decide) q))).trans (hfr b hb9)
        obtain ⟨v172, ev172⟩ : ∃ y : Int32, y = z167 5 := ⟨_, rfl⟩
        replace h164 : ((v124.toInt = 0 ∨ ¬ v172.toInt = 0) ∧ (v172.toInt = 0 → 0 ≤ r161.toInt ∧ r161.toInt ≤ 3)) := by have q9 := h164; rw [y_fiZ oY142 (k := 5) (by decide), ← ep160_5, y_fiZ oY169 (k := 5) (by decide), ← ev172] at q9; exact q9
        have ep173_5 := ev172
        refine va_callv (va_runV (As := [.int 1, .int r161]) (rest := []) ⟨hx, hb, hml, hown, hts⟩ (y_X7_lays l dC dI H.size hLK A hA F162 a0 1 r161 ha0 (by decide) hI) (cwV 2 hts (ax_gV T_1115 T_1117 T_1118 T_265 T_1116) rfl rfl rfl (by decide +kernel) ⟨Nat.le_of_ble_eq_true rfl, Nat.le_of_ble_eq_true rfl⟩) ⟨fun a U g mk q => ⟨q.1, s_pc (U := U) rfl rfl q.2⟩, s_recv hK hP (hLK _ ha0 (by decide)) (ci := 7) rfl oY169, fun U hU hW => ⟨rfl, s_pw hU hW hP hK hD hN⟩⟩ rfl rfl hl.1 rfl (lv_room (Nat.le_of_ble_eq_true rfl)) dX7_lineTold_107 ⟨Nat.zero_le _, Nat.zero_le _⟩) hS (fun q _ h => h) (fun q h => h) (fun F174 t H1 locs ht hvm hw hB hz1 hk1 hS => ?_)
        obtain ⟨hP, hK1⟩ := hB
        rw [ht] at hP
        generalize H1 = H at hP hS ⊢
        clear hz1 hk1 hvm hK1
        obtain ⟨h175, h177, hI, hfr1, hzf, h176⟩ := hw
        have oY178 : F174 a0 = .inr (7, y_fl A z167 q168) := (hfr1 _ (by rw [ha0]; decide)).trans oY169
        have hfr : ∀ b, K b ∉ [9, 62, 64] → F174 b = F b := fun b hb9 => (hfr1 b (fun q => hb9 (s_sub (by decide) q))).trans (hfr b hb9)
        obtain ⟨f179, o180, b181⟩ := y_op12 hI
        replace h176 : ((∀ j : Int, 0 ≤ j → j ≠ 8 * (y_c f143 387).toInt + 1 → y_c f179 j = y_c f143 j) ∧ (v172.toInt = 0 → y_c f179 (8 * (y_c f143 387).toInt + 1) = r161)) := by have q9 := h176; rw [y_atE o166, y_atE o180, y_fiZ oY169 (k := 5) (by decide), ← ep173_5] at q9; exact q9
        rw [hn146] at h176
        have hn182 : (y_c f179 387).toInt = nn := by rw [h176.1 387 (by omega) (by omega)]; exact hn146
        have hfr183 : ∀ j : Int, 0 ≤ j → (j < 8 * nn ∨ 8 * nn + 8 ≤ j) → y_c f179 j = y_c f1 j := fun j h0 h1 => (h176.1 j h0 (by omega)).trans (hfr147 j h0 h1)
        have h184 : (y_c f179 (8 * nn)).toInt = (y_c f143 (8 * nn)).toInt := (congrArg Int32.toInt (h176.1 _ (by omega) (by omega)))
        have h185 : (y_c f179 (8 * nn + 5)).toInt = (y_c f143 (8 * nn + 5)).toInt := (congrArg Int32.toInt (h176.1 _ (by omega) (by omega)))
        exact K110 _ _ _ ⟨F174, _, w6, rfl, lv_sub hl [0, 1] rfl, hP, hS, hI, hfr, (fun k hk => (y_fiZ oY178 (s_sub (by decide) hk)).trans (hz0 k hk)), trivial, (by rw [y_atE o180]; exact hn182), (by rw [y_atE o180]; exact hfr183), (by first | (rw [y_atE o180, y_fiZ oY178 (k := 5) (by decide), ← ev172]; omega) | rw [y_atE o180, y_fiZ oY178 (k := 5) (by decide), ← ev172])⟩
    · have c125 := mt (ax_eq (n := 0) (by decide)).mpr c125
      exact W.vret hx hb hr (fun t ht hW => ⟨⟨F115, rfl, ⟨trivial, trivial, hI, hfr, fun k hk => (y_fiZ oY118 (s_sub (by decide) hk)).trans ((hz0 k hk).trans (y_fiZ oY0 (s_sub (by decide) hk)).symm), (by rw [y_fiZ oY0 (k := 5) (by decide), ← eF_5, y_fiZ oY118 (k := 5) (by decide), ← ev124, y_atE o2, y_atE o122]; rw [← hnn]; exact ⟨by omega, (fun j h0 h1 => h113 j h0 (by omega)), (fun j h0 h1 => h113 j (by omega) (by omega)), fun q => absurd q (by omega)⟩)⟩, by rw [ht]; exact hP, va_K.moved hW.alike hK⟩, hS.F ht⟩) hS.2.2 dX7_lineTold_83
  · intro g H locs hq
    obtain ⟨F190, ls, w5, rfl, hl, hP, hS, hI, hfr, hz0, h186, h187, h188, h189⟩ := hq
    obtain ⟨z191, q192, oY193, bz194, bq195⟩ := y_opY hI ha0
    have hz0 : ∀ k, k ∈ ([1, 3, 7, 8, 15, 16, 19, 25, 26, 27, 31, 32] : List Nat) → z191 k = z0 k := fun k hk => (y_fiZ oY193 (s_sub (by decide) hk)).symm.trans (hz0 k hk)
    obtain ⟨f196, o197, b198⟩ := y_op12 hI
    replace h187 : (y_c f196 387).toInt = nn := by have q9 := h187; rw [y_atE o197] at q9; exact q9
    replace h188 : (∀ j : Int, 0 ≤ j → (j < 8 * nn ∨ 8 * nn + 8 ≤ j) → y_c f196 j = y_c f1 j) := by have q9 := h188; rw [y_atE o197] at q9; exact q9
    obtain ⟨v199, ev199⟩ : ∃ y : Int32, y = z191 5 := ⟨_, rfl⟩
    replace h189 : ((v4.toInt = 0 ∧ 0 ≤ w5.toInt ∧ w5.toInt ≤ 15) ∧ (y_c f196 (8 * nn + 5)).toInt = -1000000 ∧ (v199.toInt = 0 → (y_c f196 (8 * nn)).toInt = w5.toInt)) := by have q9 := h189; rw [y_atE o197, y_fiZ oY193 (k := 5) (by decide), ← ev199] at q9; exact q9
    refine lv_iconst (v := 0) hx hb dX7_lineTold_110 (by decide) ?_
    refine lv_istore_n (lv' := [(3, .int 0), (0, .ref a0), (2, .int w5)]) hx hb dX7_lineTold_111 rfl hl (by decide) rfl (fun ls hl => ?_)
    have h201 : (0 : Int32).toInt = 0 := by decide
    refine th_loop (fun n g H locs => ∃ (G : Nat → va_E) (ls : Array Slot) (w200 : Int32), g = F0 m 112 ls [] ∧ lv_has ls 4 [(0, .ref a0), (2, .int w5), (3, .int w200)] ∧ va_P (dC, dI) vwCl (va_pl L G) H ∧ va_S (fun q => q ∈ L) s.heap H locs ∧ y_I K cs A G ∧ (∀ b, K b ∉ [9, 62, 64] → G b = F b) ∧ (∀ k, k ∈ ([1, 3, 7, 8, 15, 16, 19, 25, 26, 27, 31, 32] : List Nat) → y_fi G a0 k = z0 k) ∧ (0 ≤ w200.toInt ∧ w200.toInt ≤ 2) ∧ (y_c (y_at G (A 12)) 387).toInt = nn ∧ (∀ j : Int, 0 ≤ j → (j < 8 * nn ∨ 8 * nn + 8 ≤ j) → y_c (y_at G (A 12)) j = y_c f1 j) ∧ (v4.toInt = 0 ∧ 0 ≤ w5.toInt ∧ w5.toInt ≤ 15) ∧ ((y_c (y_at G (A 12)) (8 * nn + 5)).toInt = -1000000 ∧ ((y_fi G a0 5).toInt = 0 → (y_c (y_at G (A 12)) (8 * nn)).toInt = w5.toInt ∧ (w200.toInt = 0 ∨ -4 ≤ (y_c (y_at G (A 12)) (8 * nn + 2)).toInt) ∧ (w200.toInt ≤ 1 ∨ -4 ≤ (y_c (y_at G (A 12)) (8 * nn + 3)).toInt))) ∧ n = (3 - w200.toInt).toNat) _ ⟨F190, _, 0, rfl, lv_sub hl [1, 2, 0] rfl, hP, hS, hI, hfr, (fun k hk => (y_fiZ oY193 (s_sub (by decide) hk)).trans (hz0 k hk)), (by decide), (by rw [y_atE o197]; exact h187), (by rw [y_atE o197]; exact h188), (by omega), (by rw [y_atE o197, y_fiZ oY193 (k := 5) (by decide), ← ev199]; exact ⟨by omega, fun hb => ⟨by omega, Or.inl (by omega), Or.inl (by omega)⟩⟩), rfl⟩ (fun n ih112 g H locs hq => ?_)
    obtain ⟨F207, ls, w200, rfl, hl, hP, hS, hI, hfr, hz0, h202, h203, h204, h205, h206, hn⟩ := hq
    obtain ⟨z208, q209, oY210, bz211, bq212⟩ := y_opY hI ha0
    have hz0 : ∀ k, k ∈ ([1, 3, 7, 8, 15, 16, 19, 25, 26, 27, 31, 32] : List Nat) → z208 k = z0 k := fun k hk => (y_fiZ oY210 (s_sub (by decide) hk)).symm.trans (hz0 k hk)
    obtain ⟨f213, o214, b215⟩ := y_op12 hI
    replace h203 : (y_c f213 387).toInt = nn := by have q9 := h203; rw [y_atE o214] at q9; exact q9
    replace h204 : (∀ j : Int, 0 ≤ j → (j < 8 * nn ∨ 8 * nn + 8 ≤ j) → y_c f213 j = y_c f1 j) := by have q9 := h204; rw [y_atE o214] at q9; exact q9
    obtain ⟨v216, ev216⟩ : ∃ y : Int32, y = z208 5 := ⟨_, rfl⟩
    replace h206 : ((y_c f213 (8 * nn + 5)).toInt = -1000000 ∧ (v216.toInt = 0 → (y_c f213 (8 * nn)).toInt = w5.toInt ∧ (w200.toInt = 0 ∨ -4 ≤ (y_c f213 (8 * nn + 2)).toInt) ∧ (w200.toInt ≤ 1 ∨ -4 ≤ (y_c f213 (8 * nn + 3)).toInt))) := by have q9 := h206; rw [y_atE o214, y_fiZ oY210 (k := 5) (by decide), ← ev216] at q9; exact q9
    have h206a := h206.1
    replace h206 := y_hd h206
    have hn_216 := hn
    refine lv_iload_n hx hb dX7_lineTold_112 rfl (lv_at hl 2 rfl) ?_
    refine lv_iload_n hx hb dX7_lineTold_113 rfl (lv_at hl 1 rfl) ?_
    have h217 : 0 ≤ w5.toInt ∧ w5.toInt ≤ 15 := ⟨by omega, by omega⟩
    have rg218 : 0 ≤ w5.toInt ∧ w5.toInt ≤ 15 := ⟨by omega, by omega⟩
    refine va_calli (va_runS (As := [.int w5]) (rest := [.int w200]) ⟨hx, hb, hml, hown, hts⟩ (y_X7_partsOf l dC dI H.size F207 w5 rg218) (cwS 1 hts (ax_gS T_1197 T_1199 T_265 T_1198) rfl rfl rfl (by decide +kernel) ⟨Nat.le_of_ble_eq_true rfl, Nat.le_of_ble_eq_true rfl⟩) ⟨fun a U g mk q => ⟨q.1, s_pc (U := U) rfl rfl q.2⟩, fun U hU hW => ⟨rfl, s_pw hU hW hP hK hD hN⟩⟩ rfl rfl hl.1 rfl (lv_room (Nat.le_of_ble_eq_true rfl)) dX7_lineTold_114 ⟨Nat.zero_le _, Nat.zero_le _⟩) hS (fun q _ h => h) (fun q h => h) (fun r220 F221 t H1 locs ht hvm hw hB hz1 hk1 hS => ?_)
    obtain ⟨hP, hK1⟩ := hB
    rw [ht] at hP
    generalize H1 = H at hP hS ⊢
    clear hz1 hk1 hvm hK1
    obtain ⟨h222, h224, hG9, h223⟩ := hw
    rw [hG9] at hP
    replace h223 : ((r220.toInt = 0 ∧ (w5.toInt = 5 ∨ w5.toInt = 6 ∨ 12 ≤ w5.toInt)) ∨ (r220.toInt = 1 ∧ (w5.toInt = 0 ∨ w5.toInt = 7 ∨ w5.toInt = 9 ∨ w5.toInt = 11)) ∨ (r220.toInt = 2 ∧ ((1 ≤ w5.toInt ∧ w5.toInt ≤ 4) ∨ w5.toInt = 8 ∨ w5.toInt = 10))) := by have q9 := h223; exact q9
    replace h223 := y_hd h223
    refine lv_icmp_ge (tgt := 137) hx hb dX7_lineTold_117 (by decide) (fun c225 => ?_) (fun c225 => ?_)
    · have c225 := Int32.le_iff_toInt_le.mp c225
      refine lv_iload_n hx hb dX7_lineTold_137 rfl (lv_at hl 1 rfl) ?_
      refine lv_bipush (v := 12) hx hb dX7_lineTold_138 (by decide) ?_
      refine lv_icmp_ne (tgt := 147) hx hb dX7_lineTold_140 (by decide) (fun c226 => ?_) (fun c226 => ?_)
      · have c226 := mt (ax_eq (n := 12) (by decide)).mpr c226
        exact K147 _ _ _ ⟨F207, _, rfl, lv_sub hl [0] rfl, hP, hS, hI, hfr, (fun k hk => (y_fiZ oY210 (s_sub (by decide) hk)).trans (hz0 k hk)), (by rw [y_atE o214]; exact h203), (by rw [y_atE o214]; exact h204), (by rw [y_fiZ oY210 (k := 5) (by decide), ← ev216, y_atE o214]; exact y_l147 ⟨by omega, by omega⟩ h223 (by omega) h206.1 h206.2), (by omega)⟩
      · have c226 := (ax_eq (n := 12) (by decide)).mp c226
        refine lv_aload_n hx hb dX7_lineTold_143 rfl (lv_at hl 0 rfl) ?_
        have ep227_5 := ev216
        refine va_callv (va_runV (As := []) (rest := []) ⟨hx, hb, hml, hown, hts⟩ (y_X7_goTold l dC dI H.size hLK A hA F207 a0 ha0 hI (by rw [y_atE o214]; rw [h203]; exact ⟨by omega, by omega⟩)) (cwV 0 hts (ax_gV T_1268 T_1270 T_1271 T_265 T_1269) rfl rfl rfl (by decide +kernel) ⟨Nat.le_of_ble_eq_true rfl, Nat.le_of_ble_eq_true rfl⟩) ⟨fun a U g mk q => ⟨q.1, s_pc (U := U) rfl rfl q.2⟩, s_recv hK hP (hLK _ ha0 (by decide)) (ci := 7) rfl oY210, fun U hU hW => ⟨rfl, s_pw hU hW hP hK hD hN⟩⟩ rfl rfl hl.1 rfl (lv_room (Nat.le_of_ble_eq_true rfl)) dX7_lineTold_144 ⟨Nat.zero_le _, Nat.zero_le _⟩) hS (fun q _ h => h) (fun q h => h) (fun F228 t H1 locs ht hvm hw hB hz1 hk1 hS => ?_)
        obtain ⟨hP, hK1⟩ := hB
        rw [ht] at hP
        generalize H1 = H at hP hS ⊢
        clear hz1 hk1 hvm hK1
        obtain ⟨h229, h231, hI, hfr1, hzf, h230⟩ := hw
        obtain ⟨z232, q233, oY234, bz235, bq236⟩ := y_opY hI ha0
        have hzf : ∀ k, k ∈ ([1, 3, 7, 8, 15, 16, 19, 25, 26, 27, 31, 32] : List Nat) → z232 k = z208 k := fun k hk => by have q9 := hzf k hk; rw [y_fiZ oY234 (s_sub (by decide) hk), y_fiZ oY210 (s_sub (by decide) hk)] at q9; exact q9
        have hz0 : ∀ k, k ∈ ([1, 3, 7, 8, 15, 16, 19, 25, 26, 27, 31, 32] : List Nat) → z232 k = z0 k := fun k hk => (hzf k (s_sub (by decide) hk)).trans (hz0 k hk)
        have hfr : ∀ b, K b ∉ [9, 62, 64] → F228 b = F b := fun b hb9 => (hfr1 b (fun q => hb9 (s_sub (by decide) q))).trans (hfr b hb9)
        obtain ⟨v237, ev237⟩ : ∃ y : Int32, y = z232 5 := ⟨_, rfl⟩
        obtain ⟨f238, o239, b240⟩ := y_op12 hI
        replace h230 : ((v216.toInt = 0 ∨ ¬ v237.toInt = 0) ∧ (∀ j : Int, 0 ≤ j → (j < 8 * (y_c f213 387).toInt ∨ 8 * (y_c f213 387).toInt + 8 ≤ j) → y_c f238 j = y_c f213 j) ∧ (y_c f238 (8 * (y_c f213 387).toInt)).toInt = (y_c f213 (8 * (y_c f213 387).toInt)).toInt ∧ (v237.toInt = 0 → (y_c f238 (8 * (y_c f213 387).toInt + 5)).toInt = -1000000 ∨ (-4 ≤ (y_c f238 (8 * (y_c f213 387).toInt + 2)).toInt ∧ -4 ≤ (y_c f238 (8 * (y_c f213 387).toInt + 3)).toInt))) := by have q9 := h230; rw [y_fiZ oY210 (k := 5) (by decide), ← ep227_5, y_fiZ oY234 (k := 5) (by decide), ← ev237, y_atE o214, y_atE o239] at q9; exact q9
        rw [h203] at h230
        obtain ⟨hg1, hg2, hg3, hg4⟩ := h230
        have hn241 : (y_c f238 387).toInt = nn := by rw [hg2 387 (by omega) (by omega)]; exact h203
        have hfr242 : ∀ j : Int, 0 ≤ j → (j < 8 * nn ∨ 8 * nn + 8 ≤ j) → y_c f238 j = y_c f1 j := fun j h0 h1 => (hg2 j h0 h1).trans (h204 j h0 h1)
        exact K147 _ _ _ ⟨F228, _, rfl, lv_sub hl [0] rfl, hP, hS, hI, hfr, (fun k hk => (y_fiZ oY234 (s_sub (by decide) hk)).trans (hz0 k hk)), (by rw [y_atE o239]; exact hn241), (by rw [y_atE o239]; exact hfr242), (by rw [y_fiZ oY234 (k := 5) (by decide), ← ev237, y_atE o239]; exact y_l147g (by omega) hg1 h206.2 hg3 hg4), (by omega)⟩
    · have c225 := mt Int32.le_iff_toInt_le.mpr c225
      refine lv_aload_n hx hb dX7_lineTold_120 rfl (lv_at hl 0 rfl) ?_
      refine lv_iconst (v := 2) hx hb dX7_lineTold_121 (by decide) ?_
      refine lv_iload_n hx hb dX7_lineTold_122 rfl (lv_at hl 2 rfl) ?_
      refine lv_iadd hx hb dX7_lineTold_123 ?_
      refine lv_topi (fun v243 ev243 => ?_)
      have qv243 : v243.toInt = 2 + w200.toInt := by rw [ev243]; exact th_add (by decide) rfl ⟨by omega, by omega⟩
      refine lv_aload_n hx hb dX7_lineTold_124 rfl (lv_at hl 0 rfl) ?_
      have ep244_5 := ev216
      refine va_calli (va_runV (As := []) (rest := [.int v243, .ref a0]) ⟨hx, hb, hml, hown, hts⟩ (y_X7_partTold l dC dI H.size hLK A hA F207 a0 ha0 hI) (cwV 0 hts (ax_gV T_1119 T_1121 T_1122 T_265 T_1120) rfl rfl rfl (by decide +kernel) ⟨Nat.le_of_ble_eq_true rfl, Nat.le_of_ble_eq_true rfl⟩) ⟨fun a U g mk q => ⟨q.1, s_pc (U := U) rfl rfl q.2⟩, s_recv hK hP (hLK _ ha0 (by decide)) (ci := 7) rfl oY210, fun U hU hW => ⟨rfl, s_pw hU hW hP hK hD hN⟩⟩ rfl rfl hl.1 rfl (lv_room (Nat.le_of_ble_eq_true rfl)) dX7_lineTold_125 ⟨Nat.zero_le _, Nat.zero_le _⟩) hS (fun q _ h => h) (fun q h => h) (fun r245 F246 t H1 locs ht hvm hw hB hz1 hk1 hS => ?_)
      obtain ⟨hP, hK1⟩ := hB
      rw [ht] at hP
      generalize H1 = H at hP hS ⊢
      clear hz1 hk1 hvm hK1
      obtain ⟨h247, h249, hI, hfr1, hzf, h248⟩ := hw
      have o250 : F246 (A 12) = .inl (cs 0, 400, .inl f213) := (hfr1 _ (by rw [(y_k12 hA)]; decide)).trans o214
      obtain ⟨z251, q252, oY253, bz254, bq255⟩ := y_opY hI ha0
      have hzf : ∀ k, k ∈ ([1, 3, 7, 8, 11, 15, 16, 19, 25, 26, 27, 31, 32] : List Nat) → z251 k = z208 k := fun k hk => by have q9 := hzf k hk; rw [y_fiZ oY253 (s_sub (by decide) hk), y_fiZ oY210 (s_sub (by decide) hk)] at q9; exact q9
      have hz0 : ∀ k, k ∈ ([1, 3, 7, 8, 15, 16, 19, 25, 26, 27, 31, 32] : List Nat) → z251 k = z0 k := fun k hk => (hzf k (s_sub (by decide) hk)).trans (hz0 k hk)
      have hfr : ∀ b, K b ∉ [9, 62, 64] → F246 b = F b := fun b hb9 => (hfr1 b (fun q => hb9 (s_sub (by decide) q))).trans (hfr b hb9)
      obtain ⟨v256, ev256⟩ : ∃ y : Int32, y = z251 5 := ⟨_, rfl⟩
      replace h248 : ((v216.toInt = 0 ∨ ¬ v256.toInt = 0) ∧ (v256.toInt = 0 → -4 ≤ r245.toInt ∧ r245.toInt ≤ 999)) := by have q9 := h248; rw [y_fiZ oY210 (k := 5) (by decide), ← ep244_5, y_fiZ oY253 (k := 5) (by decide), ← ev256] at q9; exact q9
      have rg257 : 0 ≤ v243.toInt ∧ v243.toInt ≤ 7 := ⟨by omega, by omega⟩
      have ep258_5 := ev256
      refine va_callv (va_runV (As := [.int v243, .int r245]) (rest := []) ⟨hx, hb, hml, hown, hts⟩ (y_X7_lays l dC dI H.size hLK A hA F246 a0 v243 r245 ha0 rg257 hI) (cwV 2 hts (ax_gV T_1115 T_1117 T_1118 T_265 T_1116) rfl rfl rfl (by decide +kernel) ⟨Nat.le_of_ble_eq_true rfl, Nat.le_of_ble_eq_true rfl⟩) ⟨fun a U g mk q => ⟨q.1, s_pc (U := U) rfl rfl q.2⟩, s_recv hK hP (hLK _ ha0 (by decide)) (ci := 7) rfl oY253, fun U hU hW => ⟨rfl, s_pw hU hW hP hK hD hN⟩⟩ rfl rfl hl.1 rfl (lv_room (Nat.le_of_ble_eq_true rfl)) dX7_lineTold_128 ⟨Nat.zero_le _, Nat.zero_le _⟩) hS (fun q _ h => h) (fun q h => h) (fun F259 t H1 locs ht hvm hw hB hz1 hk1 hS => ?_)
      obtain ⟨hP, hK1⟩ := hB
      rw [ht] at hP
      generalize H1 = H at hP hS ⊢
      clear hz1 hk1 hvm hK1
      obtain ⟨h260, h262, hI, hfr1, hzf, h261⟩ := hw
      have oY263 : F259 a0 = .inr (7, y_fl A z251 q252) := (hfr1 _ (by rw [ha0]; decide)).trans oY253
      have hfr : ∀ b, K b ∉ [9, 62, 64] → F259 b = F b := fun b hb9 => (hfr1 b (fun q => hb9 (s_sub (by decide) q))).trans (hfr b hb9)
      obtain ⟨f264, o265, b266⟩ := y_op12 hI
      replace h261 : ((∀ j : Int, 0 ≤ j → j ≠ 8 * (y_c f213 387).toInt + v243.toInt → y_c f264 j = y_c f213 j) ∧ (v256.toInt = 0 → y_c f264 (8 * (y_c f213 387).toInt + v243.toInt) = r245)) := by have q9 := h261; rw [y_atE o250, y_atE o265, y_fiZ oY253 (k := 5) (by decide), ← ep258_5] at q9; exact q9
      rw [h203] at h261
      have hn267 : (y_c f264 387).toInt = nn := by rw [h261.1 387 (by omega) (by omega)]; exact h203
      have hfr268 : ∀ j : Int, 0 ≤ j → (j < 8 * nn ∨ 8 * nn + 8 ≤ j) → y_c f264 j = y_c f1 j := fun j h0 h1 => (h261.1 j h0 (by omega)).trans (h204 j h0 h1)
      have h269 : (y_c f264 (8 * nn)).toInt = (y_c f213 (8 * nn)).toInt := (congrArg Int32.toInt (h261.1 _ (by omega) (by omega)))
      have h270 : y_hid (v243.toInt = 2 → v256.toInt = 0 → (y_c f264 (8 * nn + 2)).toInt = r245.toInt) := y_hd (fun h8 => (fun h9 => (congrArg (fun i => (y_c f264 i).toInt) (show 8 * nn + 2 = 8 * nn + v243.toInt by omega)).trans ((congrArg Int32.toInt (h261.2 h9)).trans rfl)))
      have h271 : y_hid (v243.toInt ≠ 2 → (y_c f264 (8 * nn + 2)).toInt = (y_c f213 (8 * nn + 2)).toInt) := y_hd (fun h8 => (congrArg Int32.toInt (h261.1 _ (by omega) (by omega))))
      have h272 : y_hid (v243.toInt = 3 → v256.toInt = 0 → (y_c f264 (8 * nn + 3)).toInt = r245.toInt) := y_hd (fun h8 => (fun h9 => (congrArg (fun i => (y_c f264 i).toInt) (show 8 * nn + 3 = 8 * nn + v243.toInt by omega)).trans ((congrArg Int32.toInt (h261.2 h9)).trans rfl)))
      have h273 : y_hid (v243.toInt ≠ 3 → (y_c f264 (8 * nn + 3)).toInt = (y_c f213 (8 * nn + 3)).toInt) := y_hd (fun h8 => (congrArg Int32.toInt (h261.1 _ (by omega) (by omega))))
      have h274 : (y_c f264 (8 * nn + 5)).toInt = (y_c f213 (8 * nn + 5)).toInt := (congrArg Int32.toInt (h261.1 _ (by omega) (by omega)))
      obtain ⟨v275, ev275⟩ : ∃ y : Int32, w200 + 1 = y := ⟨_, rfl⟩
      have qv275 : v275.toInt = w200.toInt + 1 := by rw [← ev275]; exact th_add rfl (by decide) ⟨by omega, by omega⟩
      refine lv_iinc (v := v275) (lv' := [(3, .int v275), (0, .ref a0), (2, .int w5)]) hx hb dX7_lineTold_131 hl (k := 2) rfl ev275 (by decide) rfl (fun ls hl => ?_)
      refine lv_goto (tgt := 112) hx hb dX7_lineTold_134 (by decide) ?_
      exact ih112 _ _ _ _ (by omega) ⟨F259, _, v275, rfl, lv_sub hl [1, 2, 0] rfl, hP, hS, hI, hfr, (fun k hk => (y_fiZ oY263 (s_sub (by decide) hk)).trans (hz0 k hk)), ⟨by omega, by omega⟩, (by rw [y_atE o265]; exact hn267), (by rw [y_atE o265]; exact hfr268), (by omega), (by rw [y_atE o265, y_fiZ oY263 (k := 5) (by decide), ← ev256]; exact (by rw [show v275.toInt = w200.toInt + 1 by omega]; exact y_l112 h248.1 h206.2 h248.2 h269 h274 h270 h271 h272 h273 (by omega) ⟨by omega, by omega⟩ h206.1)), rfl⟩
  · intro g H locs hq
    obtain ⟨F280, ls, rfl, hl, hP, hS, hI, hfr, hz0, h276, h277, h278, h279⟩ := hq
    obtain ⟨z281, q282, oY283, bz284, bq285⟩ := y_opY hI ha0
    have hz0 : ∀ k, k ∈ ([1, 3, 7, 8, 15, 16, 19, 25, 26, 27, 31, 32] : List Nat) → z281 k = z0 k := fun k hk => (y_fiZ oY283 (s_sub (by decide) hk)).symm.trans (hz0 k hk)
    obtain ⟨f286, o287, b288⟩ := y_op12 hI
    replace h276 : (y_c f286 387).toInt = nn := by have q9 := h276; rw [y_atE o287] at q9; exact q9
    replace h277 : (∀ j : Int, 0 ≤ j → (j < 8 * nn ∨ 8 * nn + 8 ≤ j) → y_c f286 j = y_c f1 j) := by have q9 := h277; rw [y_atE o287] at q9; exact q9
    obtain ⟨v289, ev289⟩ : ∃ y : Int32, y = z281 5 := ⟨_, rfl⟩
    replace h278 : (v289.toInt = 0 → (0 ≤ (y_c f286 (8 * nn)).toInt ∧ (y_c f286 (8 * nn)).toInt ≤ 15) ∧ (((y_c f286 (8 * nn)).toInt = 5 ∨ (y_c f286 (8 * nn)).toInt = 6 ∨ 12 ≤ (y_c f286 (8 * nn)).toInt) ∨ -4 ≤ (y_c f286 (8 * nn + 2)).toInt) ∧ (((y_c f286 (8 * nn)).toInt = 5 ∨ (y_c f286 (8 * nn)).toInt = 6 ∨ 12 ≤ (y_c f286 (8 * nn)).toInt ∨ (y_c f286 (8 * nn)).toInt = 0 ∨ (y_c f286 (8 * nn)).toInt = 7 ∨ (y_c f286 (8 * nn)).toInt = 9 ∨ (y_c f286 (8 * nn)).toInt = 11) ∨ -4 ≤ (y_c f286 (8 * nn + 3)).toInt) ∧ ((y_c f286 (8 * nn)).toInt ≠ 12 ∨ (y_c f286 (8 * nn + 5)).toInt = -1000000 ∨ (-4 ≤ (y_c f286 (8 * nn + 2)).toInt ∧ -4 ≤ (y_c f286 (8 * nn + 3)).toInt))) := by have q9 := h278; rw [y_fiZ oY283 (k := 5) (by decide), ← ev289, y_atE o287] at q9; exact q9
    refine lv_aload_n hx hb dX7_lineTold_147 rfl (lv_at hl 0 rfl) ?_
    refine th_get (D := (dC, dI)) (ci := 7) (v := .ref (A 12)) (C := RX7) (T := TX7) (N := 34) hx hb hts inX7 hown hK hP (hLK _ ha0 (by decide)) oY283 rfl 12 (by decide) (hts _ T_245) (fun _ h9 => h9) rfl dX7_lineTold_148 ?_
    refine lv_sipush (v := 387) hx hb dX7_lineTold_151 (by decide) ?_
    refine lv_dup2_11 hx hb dX7_lineTold_154 rfl rfl ?_
    refine th_iald hx hb hK hP (hLK _ (y_k12 hA) (by decide)) 0 o287 rfl (ax_in (by decide)) dX7_lineTold_155 ?_
    refine lv_topi (fun v290 ev290 => ?_)
    have qv290 : 0 ≤ v290.toInt ∧ v290.toInt ≤ 40 := by rw [ev290]; exact b288
    have h291 : 0 ≤ v290.toInt ∧ v290.toInt ≤ 39 := ⟨by omega, by have q9 : v290 = (y_c f286 387) := ev290; rw [q9]; have q8 := h276; omega⟩
    have h292 : v290.toInt = nn := by rw [show v290 = y_c f286 387 from ev290]; exact h276
    refine lv_iconst (v := 1) hx hb dX7_lineTold_156 (by decide) ?_
    refine lv_iadd hx hb dX7_lineTold_157 ?_
    refine lv_topi (fun v293 ev293 => ?_)
    have qv293 : v293.toInt = v290.toInt + 1 := by rw [ev293]; exact th_add rfl (by decide) ⟨by omega, by omega⟩
    refine th_iast hx hb hK hP hD hS (hLK _ (y_k12 hA) (by decide)) 0 o287 rfl (ax_in (by decide)) dX7_lineTold_158 (fun H locs hP hS => ?_)
    obtain ⟨f294, u295⟩ : ∃ g : Nat → Int32, g = upd f286 (387 : Int32).toNatClampNeg v293 := ⟨_, rfl⟩
    rw [← u295] at hP
    have b296 : y_bd 12 f294 := by rw [u295]; exact th_updJ (P := fun y => 0 ≤ y.toInt ∧ y.toInt ≤ 40) b288 (fun q => ⟨by omega, by omega⟩)
    have hP : va_P (dC, dI) vwCl (va_pl L (va_up F280 (A 12) (.inl (cs 0, 400, .inl f294)))) H := hP
    obtain ⟨F297, hF298⟩ : ∃ G : Nat → va_E, G = va_up F280 (A 12) (.inl (cs 0, 400, .inl f294)) := ⟨_, rfl⟩
    rw [← hF298] at hP
    have hI : y_I K cs A F297 := by rw [hF298]; exact y_clA (i := 12) hA hI (by decide) b296
    have hfr : ∀ b, K b ∉ [9, 62, 64] → F297 b = F b := by rw [hF298]; exact s_fr hfr (y_k12 hA) (by decide)
    have oY299 : F297 a0 = .inr (7, y_fl A z281 q282) := by rw [hF298]; exact th_ne (th_kd ha0 (y_k12 hA) (by decide)) oY283
    have o300 : F297 (A 12) = .inl (cs 0, 400, .inl f294) := by rw [hF298]; exact th_up
    have u301 : ∀ j : Int, 0 ≤ j → y_c f294 j = if j = 387 then v293 else y_c f286 j := by rw [u295]; exact y_cu (by decide) (by decide)
    exact W.vret hx hb hr (fun t ht hW => ⟨⟨F297, rfl, ⟨trivial, trivial, hI, hfr, fun k hk => (y_fiZ oY299 (s_sub (by decide) hk)).trans ((hz0 k hk).trans (y_fiZ oY0 (s_sub (by decide) hk)).symm), (by rw [y_fiZ oY0 (k := 5) (by decide), ← eF_5, y_fiZ oY299 (k := 5) (by decide), ← ev289, y_atE o2, y_atE o300]; rw [← hnn]; exact ⟨by omega, (fun j h0 h1 => by rw [u301 j h0, if_neg (by omega)]; exact h277 j h0 (by omega)), (fun j h0 h1 => by rw [u301 j (by omega), if_neg h1]; exact h277 j (by omega) (by omega)), fun q => ⟨by rw [u301 387 (by omega), if_pos rfl]; omega, y_rgC (d := f286) ⟨by rw [u301 _ (by omega), if_neg (by omega)], by rw [u301 _ (by omega), if_neg (by omega)], by rw [u301 _ (by omega), if_neg (by omega)], by rw [u301 _ (by omega), if_neg (by omega)]⟩ (by have q8 := h278 q; unfold y_rg; exact ⟨by omega, by omega, by omega, by omega⟩)⟩⟩)⟩, by rw [ht]; exact hP, va_K.moved hW.alike hK⟩, hS.F ht⟩) hS.2.2 dX7_lineTold_159

set_option maxHeartbeats 4000000 in
set_option maxRecDepth 100000 in
theorem y_X7_isNamed (l : Launch) (dC : Nat → ClassId) (dI : Nat → Nat → Nat) (sz : Nat) {L : List Nat} {K : Nat → Nat} {cs : Nat → ClassId} (hLK : ∀ a {k : Nat}, K a = k → k ≠ 0 → a ∈ L) (A : Nat → Nat) (hA : y_A K A) (F : Nat → va_E) (a0 : Nat) (x1 : Int32) (ha0 : K a0 = 9) (hI : y_I K cs A F) : Met l yX7_isNamed (Cond.code yX7_isNamed cX7_isNamed 3 (some .boolean) :: T0) ({ frames := 1, cells := 0, slots := 0, locals := 21 }) (va_Pc [.ref a0, .int x1] (s_W dC dI sz L F [(cs 0, .int), (cs 1, .byte), (cs 2, .long), (cs 3, .object RX5), (cs 4, .object RX4), (cs 5, .array .int), (cs 6, .char), (cs 7, .boolean)])) (va_Qi (fun (r : Int32) (G : Nat → va_E) => (0 ≤ r.toInt ∧ r.toInt ≤ 1) ∧ True ∧ y_I K cs A G ∧ (∀ b, K b ∉ ([] : List Nat) → G b = F b) ∧ (∀ k, k ∈ ([1, 2, 3, 4, 5, 6, 7, 8, 11, 15, 16, 19, 25, 26, 27, 31, 32] : List Nat) → y_fi G a0 k = y_fi F a0 k) ∧ True) (fun (G : Nat → va_E) (t : State) => va_P (dC, dI) vwCl (va_pl L G) t.heap ∧ va_K (dC, dI) vwCl [(cs 0, .int), (cs 1, .byte), (cs 2, .long), (cs 3, .object RX5), (cs 4, .object RX4), (cs 5, .array .int), (cs 6, .char), (cs 7, .boolean)] t) (fun q => q ∈ L)) 0 0 (fun q => q ∈ L) := by
  refine Met.ofW (cc := cX7_isNamed) (maxL := 3) (ret := (some .boolean)) (by decide) rfl ?_
  intro p e s m args below meth c s₁ B hml hv
  obtain ⟨rfl, hsz, hP, hK, hD, hN⟩ := hv
  have hx := B.exec
  have hb := B.bytes
  have hr := B.returns
  have hts : ∀ w ∈ T0, w.before _ s = true := fun w h => atoms_spec (ws := Cond.code yX7_isNamed cX7_isNamed 3 (some .boolean) :: T0) B.pre w (List.mem_cons_of_mem _ h)
  have hown : s.vm.findClass RX7 = some m.cls := findClass_of_methodNamed B.named
  have hlocks := B.notSynchronized
  have hS : va_S (fun q => q ∈ L) s.heap s.heap [] := va_S.rf
  have hfr : ∀ b, K b ∉ ([] : List Nat) → F b = F b := fun _ _ => rfl
  have hl := lv_entry ([.ref a0, .int x1]) (n := 3) (Nat.le_of_ble_eq_true rfl)
  rw [lg_entry_eq]
  generalize (lg_sl ([.ref a0, .int x1]) ++ List.replicate (3 - (lg_sl ([.ref a0, .int x1])).length) Slot.unset).toArray = ls at hl ⊢
  have hl : lv_has ls 3 [(0, .ref a0), (1, .int x1)] := hl
  refine s_gen hP hS (fun H locs hP hS => ?_)
  obtain ⟨z0, q0, oY0, bz0, bq0⟩ := y_opY hI ha0
  have hz0 : ∀ k, k ∈ ([1, 2, 3, 4, 5, 6, 7, 8, 11, 15, 16, 19, 25, 26, 27, 31, 32] : List Nat) → z0 k = z0 k := fun _ _ => rfl
  refine lv_iconst (v := 0) hx hb dX7_isNamed_0 (by decide) ?_
  refine lv_istore_n (lv' := [(2, .int 0), (0, .ref a0), (1, .int x1)]) hx hb dX7_isNamed_1 rfl hl (by decide) rfl (fun ls hl => ?_)
  have h2 : (0 : Int32).toInt = 0 := by decide
  refine th_loop (fun n g H locs => ∃ (G : Nat → va_E) (ls : Array Slot) (w1 : Int32), g = F0 m 2 ls [] ∧ lv_has ls 3 [(0, .ref a0), (1, .int x1), (2, .int w1)] ∧ va_P (dC, dI) vwCl (va_pl L G) H ∧ va_S (fun q => q ∈ L) s.heap H locs ∧ y_I K cs A G ∧ (∀ b, K b ∉ ([] : List Nat) → G b = F b) ∧ (∀ k, k ∈ ([1, 2, 3, 4, 5, 6, 7, 8, 11, 15, 16, 19, 25, 26, 27, 31, 32] : List Nat) → y_fi G a0 k = z0 k) ∧ (0 ≤ w1.toInt ∧ w1.toInt ≤ 40) ∧ n = (41 - w1.toInt).toNat) _ ⟨F, _, 0, rfl, lv_sub hl [1, 2, 0] rfl, hP, hS, hI, hfr, (fun k hk => (y_fiZ oY0 (s_sub (by decide) hk)).trans (hz0 k hk)), (by decide), rfl⟩ (fun n ih2 g H locs hq => ?_)
  obtain ⟨F4, ls, w1, rfl, hl, hP, hS, hI, hfr, hz0, h3, hn⟩ := hq
  have oY5 : F4 a0 = .inr (7, y_fl A z0 q0) := (hfr _ (by rw [ha0]; decide)).trans oY0
  have hz0 : ∀ k, k ∈ ([1, 2, 3, 4, 5, 6, 7, 8, 11, 15, 16, 19, 25, 26, 27, 31, 32] : List Nat) → z0 k = z0 k := fun _ _ => rfl
  have hn_5 := hn
  refine lv_iload_n hx hb dX7_isNamed_2 rfl (lv_at hl 2 rfl) ?_
  refine lv_aload_n hx hb dX7_isNamed_3 rfl (lv_at hl 0 rfl) ?_
  obtain ⟨f6, o7, b8⟩ := y_op12 hI
  refine va_calli (va_runV (As := []) (rest := [.int w1]) ⟨hx, hb, hml, hown, hts⟩ (y_X7_drafted l dC dI H.size hLK A hA F4 a0 ha0 hI) (cwV 0 hts (ax_gV T_293 T_294 T_295 T_265 T_28) rfl rfl rfl (by decide +kernel) ⟨Nat.le_of_ble_eq_true rfl, Nat.le_of_ble_eq_true rfl⟩) ⟨fun a U g mk q => ⟨q.1, s_pc (U := U) rfl rfl q.2⟩, s_recv hK hP (hLK _ ha0 (by decide)) (ci := 7) rfl oY5, fun U hU hW => ⟨rfl, s_pw hU hW hP hK hD hN⟩⟩ rfl rfl hl.1 rfl (lv_room (Nat.le_of_ble_eq_true rfl)) dX7_isNamed_4 ⟨Nat.zero_le _, Nat.zero_le _⟩) hS (fun q _ h => h) (fun q h => h) (fun r10 F11 t H1 locs ht hvm hw hB hz1 hk1 hS => ?_)
  obtain ⟨hP, hK1⟩ := hB
  rw [ht] at hP
  generalize H1 = H at hP hS ⊢
  clear hz1 hk1 hvm hK1
  obtain ⟨h12, h14, hI, hfr1, hzf, h13⟩ := hw
  have o15 : F11 (A 12) = .inl (cs 0, 400, .inl f6) := (hfr1 _ (by rw [(y_k12 hA)]; decide)).trans o7
  have oY16 : F11 a0 = .inr (7, y_fl A z0 q0) := (hfr1 _ (by rw [ha0]; decide)).trans oY5
  have hfr : ∀ b, K b ∉ ([] : List Nat) → F11 b = F b := fun b hb9 => (hfr1 b (fun q => hb9 (s_sub (by decide) q))).trans (hfr b hb9)
  replace h13 : (r10 = y_c f6 387) := by have q9 := h13; rw [y_atE o7] at q9; exact q9
  have h17 := congrArg Int32.toInt h13
  refine lv_icmp_ge (tgt := 33) hx hb dX7_isNamed_7 (by decide) (fun c18 => ?_) (fun c18 => ?_)
  · have c18 := Int32.le_iff_toInt_le.mp c18
    refine lv_iconst (v := 0) hx hb dX7_isNamed_33 (by decide) ?_
    have h19 : (0 : Int32).toInt = 0 := by decide
    exact W.zret (v := 0) (ty := .boolean) hx hb hr (by decide) (fun t ht hW => ⟨⟨0, F11, rfl, ⟨(by decide), trivial, hI, hfr, fun k hk => (y_fiZ oY16 (s_sub (by decide) hk)).trans ((hz0 k hk).trans (y_fiZ oY0 (s_sub (by decide) hk)).symm), trivial⟩, by rw [ht]; exact hP, va_K.moved hW.alike hK⟩, hS.F ht⟩) hS.2.2 dX7_isNamed_34
  · have c18 := mt Int32.le_iff_toInt_le.mpr c18
    refine lv_aload_n hx hb dX7_isNamed_10 rfl (lv_at hl 0 rfl) ?_
    refine th_get (D := (dC, dI)) (ci := 7) (v := .ref (A 12)) (C := RX7) (T := TX7) (N := 34) hx hb hts inX7 hown hK hP (hLK _ ha0 (by decide)) oY16 rfl 12 (by decide) (hts _ T_245) (fun _ h9 => h9) rfl dX7_isNamed_11 ?_
    refine lv_iload_n hx hb dX7_isNamed_14 rfl (lv_at hl 2 rfl) ?_
    refine lv_bipush (v := 7) hx hb dX7_isNamed_15 (by decide) ?_
    have rg20 : 0 ≤ w1.toInt ∧ w1.toInt ≤ 40 := ⟨by omega, by omega⟩
    refine va_calli (va_runS (As := [.int w1, .int 7]) (rest := [.ref (A 12)]) ⟨hx, hb, hml, hown, hts⟩ (y_X7_lineAt l dC dI H.size F11 w1 7 rg20 (by decide)) (cwS 2 hts (ax_gS T_1216 T_1218 T_265 T_1217) rfl rfl rfl (by decide +kernel) ⟨Nat.le_of_ble_eq_true rfl, Nat.le_of_ble_eq_true rfl⟩) ⟨fun a U g mk q => ⟨q.1, s_pc (U := U) rfl rfl q.2⟩, fun U hU hW => ⟨rfl, s_pw hU hW hP hK hD hN⟩⟩ rfl rfl hl.1 rfl (lv_room (Nat.le_of_ble_eq_true rfl)) dX7_isNamed_17 ⟨Nat.zero_le _, Nat.zero_le _⟩) hS (fun q _ h => h) (fun q h => h) (fun r22 F23 t H1 locs ht hvm hw hB hz1 hk1 hS => ?_)
    obtain ⟨hP, hK1⟩ := hB
    rw [ht] at hP
    generalize H1 = H at hP hS ⊢
    clear hz1 hk1 hvm hK1
    obtain ⟨h24, h26, hG9, h25⟩ := hw
    rw [hG9] at hP
    replace h25 : (r22.toInt = 8 * w1.toInt + 7) := by have q9 := h25; exact q9
    refine th_iald hx hb hK hP (hLK _ (y_k12 hA) (by decide)) 0 o15 rfl (th_in ⟨by omega, by omega⟩) dX7_isNamed_20 ?_
    refine lv_topi (fun v27 ev27 => ?_)
    refine lv_iload_n hx hb dX7_isNamed_21 rfl (lv_at hl 1 rfl) ?_
    refine lv_icmp_ne (tgt := 27) hx hb dX7_isNamed_22 (by decide) (fun c28 => ?_) (fun c28 => ?_)
    · have c28 := mt Int32.toInt_inj.symm.mpr c28
      obtain ⟨v29, ev29⟩ : ∃ y : Int32, w1 + 1 = y := ⟨_, rfl⟩
      have qv29 : v29.toInt = w1.toInt + 1 := by rw [← ev29]; exact th_add rfl (by decide) ⟨by omega, by omega⟩
      refine lv_iinc (v := v29) (lv' := [(2, .int v29), (0, .ref a0), (1, .int x1)]) hx hb dX7_isNamed_27 hl (k := 2) rfl ev29 (by decide) rfl (fun ls hl => ?_)
      refine lv_goto (tgt := 2) hx hb dX7_isNamed_30 (by decide) ?_
      exact ih2 _ _ _ _ (by omega) ⟨F11, _, v29, rfl, lv_sub hl [1, 2, 0] rfl, hP, hS, hI, hfr, (fun k hk => (y_fiZ oY16 (s_sub (by decide) hk)).trans (hz0 k hk)), ⟨by omega, by omega⟩, rfl⟩
    · have c28 := Int32.toInt_inj.symm.mp c28
      refine lv_iconst (v := 1) hx hb dX7_isNamed_25 (by decide) ?_
      have h30 : (1 : Int32).toInt = 1 := by decide
      exact W.zret (v := 1) (ty := .boolean) hx hb hr (by decide) (fun t ht hW => ⟨⟨1, F11, rfl, ⟨(by decide), trivial, hI, hfr, fun k hk => (y_fiZ oY16 (s_sub (by decide) hk)).trans ((hz0 k hk).trans (y_fiZ oY0 (s_sub (by decide) hk)).symm), trivial⟩, by rw [ht]; exact hP, va_K.moved hW.alike hK⟩, hS.F ht⟩) hS.2.2 dX7_isNamed_26
