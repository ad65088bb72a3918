set_option maxHeartbeats 4000000 in
set_option maxRecDepth 100000 in
theorem y_X7_lineTold (l : Launch) (dC : Nat → ClassId) (dI : Nat → Nat → Nat) (sz : Nat) {L : List Nat} {K : Nat → Nat} {cs : Nat → ClassId} (hLK : ∀ a {k : Nat}, K a = k → k ≠ 0 → a ∈ L) (A : Nat → Nat) (hA : y_A K A) (F : Nat → va_E) (a0 : Nat) (x1 : Int32) (ha0 : K a0 = 9) (hI : y_I K cs A F) (hg9 : ((y_c (y_at F (A 12)) 387).toInt ≤ 39 ∧ (y_fi F a0 5).toInt = 0)) : Met l yX7_lineTold (Cond.code yX7_lineTold cX7_lineTold 4 none :: T0) ({ frames := 6, cells := 0, slots := 0, locals := 128 }) (va_Pc [.ref a0, .int x1] (s_W dC dI sz L F [(cs 0, .int), (cs 1, .byte), (cs 2, .long), (cs 3, .object RX5), (cs 4, .object RX4), (cs 5, .array .int), (cs 6, .char), (cs 7, .boolean)])) (va_Qv (fun (G : Nat → va_E) => True ∧ True ∧ y_I K cs A G ∧ (∀ b, K b ∉ [9, 62, 64] → G b = F b) ∧ (∀ k, k ∈ ([1, 3, 7, 8, 15, 16, 19, 25, 26, 27, 31, 32] : List Nat) → y_fi G a0 k = y_fi F a0 k) ∧ (((y_fi F a0 5).toInt = 0 ∨ ¬ (y_fi G a0 5).toInt = 0) ∧ (∀ j : Int, 0 ≤ j → j < 8 * (y_c (y_at F (A 12)) 387).toInt → y_c (y_at G (A 12)) j = y_c (y_at F (A 12)) j) ∧ (∀ j : Int, 8 * (y_c (y_at F (A 12)) 387).toInt + 8 ≤ j → j ≠ 387 → y_c (y_at G (A 12)) j = y_c (y_at F (A 12)) j) ∧ ((y_fi G a0 5).toInt = 0 → (y_c (y_at G (A 12)) 387).toInt = (y_c (y_at F (A 12)) 387).toInt + 1 ∧ y_rg (y_at G (A 12)) (y_c (y_at F (A 12)) 387).toInt))) (fun (G : Nat → va_E) (t : State) => va_P (dC, dI) vwCl (va_pl L G) t.heap ∧ va_K (dC, dI) vwCl [(cs 0, .int), (cs 1, .byte), (cs 2, .long), (cs 3, .object RX5), (cs 4, .object RX4), (cs 5, .array .int), (cs 6, .char), (cs 7, .boolean)] t) (fun q => q ∈ L)) 0 0 (fun q => q ∈ L) := by
  refine Met.ofW (cc := cX7_lineTold) (maxL := 4) (ret := none) (by decide) rfl ?_
  intro p e s m args below meth c s₁ B hml hv
  obtain ⟨rfl, hsz, hP, hK, hD, hN⟩ := hv
  have hx := B.exec
  have hb := B.bytes
  have hr := B.returns
  have hts : ∀ w ∈ T0, w.before _ s = true := fun w h => atoms_spec (ws := Cond.code yX7_lineTold cX7_lineTold 4 none :: T0) B.pre w (List.mem_cons_of_mem _ h)
  have hown : s.vm.findClass RX7 = some m.cls := findClass_of_methodNamed B.named
  have hlocks := B.notSynchronized
  have hS : va_S (fun q => q ∈ L) s.heap s.heap [] := va_S.rf
  have hfr : ∀ b, K b ∉ [9, 62, 64] → F b = F b := fun _ _ => rfl
  have hl := lv_entry ([.ref a0, .int x1]) (n := 4) (Nat.le_of_ble_eq_true rfl)
  rw [lg_entry_eq]
  generalize (lg_sl ([.ref a0, .int x1]) ++ List.replicate (4 - (lg_sl ([.ref a0, .int x1])).length) Slot.unset).toArray = ls at hl ⊢
  have hl : lv_has ls 4 [(0, .ref a0), (1, .int x1)] := hl
  refine s_gen hP hS (fun H locs hP hS => ?_)
  obtain ⟨z0, q0, oY0, bz0, bq0⟩ := y_opY hI ha0
  have hz0 : ∀ k, k ∈ ([1, 3, 7, 8, 15, 16, 19, 25, 26, 27, 31, 32] : List Nat) → z0 k = z0 k := fun _ _ => rfl
  obtain ⟨f1, o2, b3⟩ := y_op12 hI
  obtain ⟨v4, ev4⟩ : ∃ y : Int32, y = z0 5 := ⟨_, rfl⟩
  have eF_5 := ev4
  have hg9 : ((y_c f1 387).toInt ≤ 39 ∧ v4.toInt = 0) := by have q9 := hg9; rw [y_atE o2, y_fiZ oY0 (k := 5) (by decide), ← ev4] at q9; exact q9
  obtain ⟨nn, hnn⟩ : ∃ n : Int, n = (y_c f1 387).toInt := ⟨_, rfl⟩
  have hnb : 0 ≤ (y_c f1 387).toInt ∧ (y_c f1 387).toInt ≤ 40 := b3
  rw [← hnn] at hnb
  rw [← hnn] at hg9
  have e0_v4 := ev4
  refine th_join (fun g H locs => ∃ (G : Nat → va_E) (ls : Array Slot), g = F0 m 147 ls [] ∧ lv_has ls 4 [(0, .ref a0)] ∧ va_P (dC, dI) vwCl (va_pl L G) H ∧ va_S (fun q => q ∈ L) s.heap H locs ∧ y_I K cs A G ∧ (∀ b, K b ∉ [9, 62, 64] → G b = F b) ∧ (∀ k, k ∈ ([1, 3, 7, 8, 15, 16, 19, 25, 26, 27, 31, 32] : List Nat) → y_fi G a0 k = z0 k) ∧ (y_c (y_at G (A 12)) 387).toInt = nn ∧ (∀ j : Int, 0 ≤ j → (j < 8 * nn ∨ 8 * nn + 8 ≤ j) → y_c (y_at G (A 12)) j = y_c f1 j) ∧ ((y_fi G a0 5).toInt = 0 → (0 ≤ (y_c (y_at G (A 12)) (8 * nn)).toInt ∧ (y_c (y_at G (A 12)) (8 * nn)).toInt ≤ 15) ∧ (((y_c (y_at G (A 12)) (8 * nn)).toInt = 5 ∨ (y_c (y_at G (A 12)) (8 * nn)).toInt = 6 ∨ 12 ≤ (y_c (y_at G (A 12)) (8 * nn)).toInt) ∨ -4 ≤ (y_c (y_at G (A 12)) (8 * nn + 2)).toInt) ∧ (((y_c (y_at G (A 12)) (8 * nn)).toInt = 5 ∨ (y_c (y_at G (A 12)) (8 * nn)).toInt = 6 ∨ 12 ≤ (y_c (y_at G (A 12)) (8 * nn)).toInt ∨ (y_c (y_at G (A 12)) (8 * nn)).toInt = 0 ∨ (y_c (y_at G (A 12)) (8 * nn)).toInt = 7 ∨ (y_c (y_at G (A 12)) (8 * nn)).toInt = 9 ∨ (y_c (y_at G (A 12)) (8 * nn)).toInt = 11) ∨ -4 ≤ (y_c (y_at G (A 12)) (8 * nn + 3)).toInt) ∧ ((y_c (y_at G (A 12)) (8 * nn)).toInt ≠ 12 ∨ (y_c (y_at G (A 12)) (8 * nn + 5)).toInt = -1000000 ∨ (-4 ≤ (y_c (y_at G (A 12)) (8 * nn + 2)).toInt ∧ -4 ≤ (y_c (y_at G (A 12)) (8 * nn + 3)).toInt))) ∧ v4.toInt = 0) (fun K147 => ?_) ?_
  refine th_join (fun g H locs => ∃ (G : Nat → va_E) (ls : Array Slot) (w5 : Int32), g = F0 m 110 ls [] ∧ lv_has ls 4 [(0, .ref a0), (2, .int w5)] ∧ va_P (dC, dI) vwCl (va_pl L G) H ∧ va_S (fun q => q ∈ L) s.heap H locs ∧ y_I K cs A G ∧ (∀ b, K b ∉ [9, 62, 64] → G b = F b) ∧ (∀ k, k ∈ ([1, 3, 7, 8, 15, 16, 19, 25, 26, 27, 31, 32] : List Nat) → y_fi G a0 k = z0 k) ∧ True ∧ (y_c (y_at G (A 12)) 387).toInt = nn ∧ (∀ j : Int, 0 ≤ j → (j < 8 * nn ∨ 8 * nn + 8 ≤ j) → y_c (y_at G (A 12)) j = y_c f1 j) ∧ ((v4.toInt = 0 ∧ 0 ≤ w5.toInt ∧ w5.toInt ≤ 15) ∧ (y_c (y_at G (A 12)) (8 * nn + 5)).toInt = -1000000 ∧ ((y_fi G a0 5).toInt = 0 → (y_c (y_at G (A 12)) (8 * nn)).toInt = w5.toInt))) (fun K110 => ?_) ?_
  refine th_join (fun g H locs => ∃ (G : Nat → va_E) (ls : Array Slot) (w6 : Int32), g = F0 m 76 ls [] ∧ lv_has ls 4 [(0, .ref a0), (2, .int w6)] ∧ va_P (dC, dI) vwCl (va_pl L G) H ∧ va_S (fun q => q ∈ L) s.heap H locs ∧ y_I K cs A G ∧ (∀ b, K b ∉ [9, 62, 64] → G b = F b) ∧ (∀ k, k ∈ ([1, 3, 7, 8, 15, 16, 19, 25, 26, 27, 31, 32] : List Nat) → y_fi G a0 k = z0 k) ∧ True ∧ (y_c (y_at G (A 12)) 387).toInt = nn ∧ (∀ j : Int, 0 ≤ j → (j < 8 * nn ∨ 8 * nn + 8 ≤ j) → y_c (y_at G (A 12)) j = y_c f1 j) ∧ (v4.toInt = 0 ∧ (y_c (y_at G (A 12)) (8 * nn + 5)).toInt = -1000000 ∧ ((y_fi G a0 5).toInt = 0 → 0 ≤ w6.toInt ∧ w6.toInt ≤ 15))) (fun K76 => ?_) ?_
  · refine lv_iconst (v := 1) hx hb dX7_lineTold_0 (by decide) ?_
    refine lv_istore_n (lv' := [(2, .int 1), (0, .ref a0), (1, .int x1)]) hx hb dX7_lineTold_1 rfl hl (by decide) rfl (fun ls hl => ?_)
    have h8 : (1 : Int32).toInt = 1 := by decide
    refine th_loop (fun n g H locs => ∃ (G : Nat → va_E) (ls : Array Slot) (w7 : Int32), g = F0 m 2 ls [] ∧ lv_has ls 4 [(0, .ref a0), (1, .int x1), (2, .int w7)] ∧ va_P (dC, dI) vwCl (va_pl L G) H ∧ va_S (fun q => q ∈ L) s.heap H locs ∧ y_I K cs A G ∧ (∀ b, K b ∉ [9, 62, 64] → G b = F b) ∧ (∀ k, k ∈ ([1, 3, 7, 8, 15, 16, 19, 25, 26, 27, 31, 32] : List Nat) → y_fi G a0 k = z0 k) ∧ (1 ≤ w7.toInt ∧ w7.toInt ≤ 7) ∧ (y_c (y_at G (A 12)) 387).toInt = nn ∧ (∀ j : Int, 0 ≤ j → (j < 8 * nn ∨ 8 * nn + 8 ≤ j) → y_c (y_at G (A 12)) j = y_c f1 j) ∧ ((v4.toInt = 0 ∧ (y_fi G a0 5).toInt = 0) ∧ (6 ≤ w7.toInt → (y_c (y_at G (A 12)) (8 * nn + 5)).toInt = -1000000)) ∧ n = (8 - w7.toInt).toNat) _ ⟨F, _, 1, rfl, lv_sub hl [1, 2, 0] rfl, hP, hS, hI, hfr, (fun k hk => (y_fiZ oY0 (s_sub (by decide) hk)).trans (hz0 k hk)), (by decide), (by rw [y_atE o2]; exact hnn.symm), (by rw [y_atE o2]; exact (fun j _ _ => rfl)), (by first | (rw [y_fiZ oY0 (k := 5) (by decide), ← ev4, y_atE o2]; omega) | rw [y_fiZ oY0 (k := 5) (by decide), ← ev4, y_atE o2]), rfl⟩ (fun n ih2 g H locs hq => ?_)
    obtain ⟨F13, ls, w7, rfl, hl, hP, hS, hI, hfr, hz0, h9, h10, h11, h12, hn⟩ := hq
    obtain ⟨z14, q15, oY16, bz17, bq18⟩ := y_opY hI ha0
    have hz0 : ∀ k, k ∈ ([1, 3, 7, 8, 15, 16, 19, 25, 26, 27, 31, 32] : List Nat) → z14 k = z0 k := fun k hk => (y_fiZ oY16 (s_sub (by decide) hk)).symm.trans (hz0 k hk)
    obtain ⟨f19, o20, b21⟩ := y_op12 hI
    have h10 : (y_c f19 387).toInt = nn := by have q9 := h10; rw [y_atE o20] at q9; exact q9
    have h11 : (∀ j : Int, 0 ≤ j → (j < 8 * nn ∨ 8 * nn + 8 ≤ j) → y_c f19 j = y_c f1 j) := by have q9 := h11; rw [y_atE o20] at q9; exact q9
    obtain ⟨v22, ev22⟩ : ∃ y : Int32, y = z14 5 := ⟨_, rfl⟩
    have h12 : ((v4.toInt = 0 ∧ v22.toInt = 0) ∧ (6 ≤ w7.toInt → (y_c f19 (8 * nn + 5)).toInt = -1000000)) := by have q9 := h12; rw [y_fiZ oY16 (k := 5) (by decide), ← ev22, y_atE o20] at q9; exact q9
    have hn_22 := hn
    refine lv_iload_n hx hb dX7_lineTold_2 rfl (lv_at hl 2 rfl) ?_
    refine lv_bipush (v := 7) hx hb dX7_lineTold_3 (by decide) ?_
    refine lv_icmp_ge (tgt := 21) hx hb dX7_lineTold_5 (by decide) (fun c23 => ?_) (fun c23 => ?_)
    · have c23 := (ax_ge (n := 7) (by decide)).mp c23
      refine lv_aload_n hx hb dX7_lineTold_21 rfl (lv_at hl 0 rfl) ?_
      refine lv_bipush (v := 7) hx hb dX7_lineTold_22 (by decide) ?_
      refine lv_iload_n hx hb dX7_lineTold_24 rfl (lv_at hl 1 rfl) ?_
      have ep24_5 := ev22
      refine va_callv (va_runV (As := [.int 7, .int x1]) (rest := []) ⟨hx, hb, hml, hown, hts⟩ (y_X7_lays l dC dI H.size hLK A hA F13 a0 7 x1 ha0 (by decide) hI) (cwV 2 hts (ax_gV T_1115 T_1117 T_1118 T_265 T_1116) rfl rfl rfl (by decide +kernel) ⟨Nat.le_of_ble_eq_true rfl, Nat.le_of_ble_eq_true rfl⟩) ⟨fun a U g mk q => ⟨q.1, s_pc rfl rfl q.2⟩, s_recv hK hP (hLK _ ha0 (by decide)) (ci := 7) rfl oY16, fun U hU hW => ⟨rfl, s_pw hU hW hP hK hD hN⟩⟩ rfl rfl hl.1 rfl (lv_room (Nat.le_of_ble_eq_true rfl)) dX7_lineTold_25 ⟨Nat.zero_le _, Nat.zero_le _⟩) hS (fun q _ h => h) (fun q h => h) (fun F25 t H1 locs ht hvm hw hB hz1 hk1 hS => ?_)
      obtain ⟨hP, hK1⟩ := hB
      rw [ht] at hP
      generalize H1 = H at hP hS ⊢
      obtain ⟨h26, h28, hI, hfr1, hzf, h27⟩ := hw
      have oY29 : F25 a0 = .inr (7, y_fl A z14 q15) := (hfr1 _ (by rw [ha0]; decide)).trans oY16
      have hfr : ∀ b, K b ∉ [9, 62, 64] → F25 b = F b := fun b hb9 => (hfr1 b (fun q => hb9 (s_sub (by decide) q))).trans (hfr b hb9)
      obtain ⟨f30, o31, b32⟩ := y_op12 hI
      have h27 : ((∀ j : Int, 0 ≤ j → j ≠ 8 * (y_c f19 387).toInt + 7 → y_c f30 j = y_c f19 j) ∧ (v22.toInt = 0 → y_c f30 (8 * (y_c f19 387).toInt + 7) = x1)) := by have q9 := h27; rw [y_atE o20, y_atE o31, y_fiZ oY16 (k := 5) (by decide), ← ep24_5] at q9; exact q9
      rw [h10] at h27
      have hn33 : (y_c f30 387).toInt = nn := by rw [h27.1 387 (by omega) (by omega)]; exact h10
      have hfr34 : ∀ j : Int, 0 ≤ j → (j < 8 * nn ∨ 8 * nn + 8 ≤ j) → y_c f30 j = y_c f1 j := fun j h0 h1 => (h27.1 j h0 (by omega)).trans (h11 j h0 h1)
      have h35 : (y_c f30 (8 * nn + 5)).toInt = (y_c f19 (8 * nn + 5)).toInt := (congrArg Int32.toInt (h27.1 _ (by omega) (by omega)))
      refine lv_aload_n hx hb dX7_lineTold_28 rfl (lv_at hl 0 rfl) ?_
      refine va_calli (va_runV (As := []) (rest := []) ⟨hx, hb, hml, hown, hts⟩ (y_X7_ownHere l dC dI H.size hLK A hA F25 a0 ha0 hI) (cwV 0 hts (ax_gV T_283 T_284 T_285 T_265 T_25) rfl rfl rfl (by decide +kernel) ⟨Nat.le_of_ble_eq_true rfl, Nat.le_of_ble_eq_true rfl⟩) ⟨fun a U g mk q => ⟨q.1, s_pc rfl rfl q.2⟩, s_recv hK hP (hLK _ ha0 (by decide)) (ci := 7) rfl oY29, fun U hU hW => ⟨rfl, s_pw hU hW hP hK hD hN⟩⟩ rfl rfl hl.1 rfl (lv_room (Nat.le_of_ble_eq_true rfl)) dX7_lineTold_29 ⟨Nat.zero_le _, Nat.zero_le _⟩) hS (fun q _ h => h) (fun q h => h) (fun r37 F38 t H1 locs ht hvm hw hB hz1 hk1 hS => ?_)
      obtain ⟨hP, hK1⟩ := hB
      rw [ht] at hP
      generalize H1 = H at hP hS ⊢
      obtain ⟨h39, h41, hI, hfr1, hzf, h40⟩ := hw
      have o42 : F38 (A 12) = .inl (cs 0, 400, .inl f30) := (hfr1 _ (by rw [(y_k12 hA)]; decide)).trans o31
      obtain ⟨z43, q44, oY45, bz46, bq47⟩ := y_opY hI ha0
      have hzf : ∀ k, k ∈ ([1, 3, 4, 5, 6, 7, 8, 11, 15, 16, 19, 25, 26, 27, 31, 32] : List Nat) → z43 k = z14 k := fun k hk => by have q9 := hzf k hk; rw [y_fiZ oY45 (s_sub (by decide) hk), y_fiZ oY29 (s_sub (by decide) hk)] at q9; exact q9
      have hz0 : ∀ k, k ∈ ([1, 3, 7, 8, 15, 16, 19, 25, 26, 27, 31, 32] : List Nat) → z43 k = z0 k := fun k hk => (hzf k (s_sub (by decide) hk)).trans (hz0 k hk)
      have ev22 : v22 = z43 5 := ev22.trans (hzf 5 (by decide)).symm
      have hfr : ∀ b, K b ∉ [9, 62, 64] → F38 b = F b := fun b hb9 => (hfr1 b (fun q => hb9 (s_sub (by decide) q))).trans (hfr b hb9)
      refine lv_istore_n (lv' := [(2, .int r37), (0, .ref a0), (1, .int x1)]) hx hb dX7_lineTold_32 rfl hl (by decide) rfl (fun ls hl => ?_)
      refine lv_aload_n hx hb dX7_lineTold_33 rfl (lv_at hl 1 rfl) ?_
      refine th_get (D := (dC, dI)) (ci := 7) (v := .int (z43 5)) (C := RX7) (T := TX7) (N := 34) hx hb hts inX7 hown hK hP (hLK _ ha0 (by decide)) oY45 rfl 5 (by decide) (hts _ T_274) (fun _ h9 => h9) rfl dX7_lineTold_34 ?_
      refine ax_eqi (y := v22) ev22.symm ?_
      refine lv_if_ne (tgt := 76) hx hb dX7_lineTold_37 (by decide) (fun c48 => ?_) (fun c48 => ?_)
      · have c48 := mt (ax_eq (n := 0) (by decide)).mpr c48
        exact K76 _ _ _ ⟨F38, _, r37, rfl, lv_sub hl [1, 0] rfl, hP, hS, hI, hfr, (fun k hk => (y_fiZ oY45 (s_sub (by decide) hk)).trans (hz0 k hk)), trivial, (by rw [y_atE o42]; exact hn33), (by rw [y_atE o42]; exact hfr34), (by first | (rw [y_atE o42, y_fiZ oY45 (k := 5) (by decide), ← ev22]; omega) | rw [y_atE o42, y_fiZ oY45 (k := 5) (by decide), ← ev22])⟩
      · have c48 := (ax_eq (n := 0) (by decide)).mp c48
        refine lv_iload_n hx hb dX7_lineTold_40 rfl (lv_at hl 0 rfl) ?_
        refine lv_i2l hx hb dX7_lineTold_41 rfl ?_
        refine lv_topl (fun v49 ev49 => ?_)
        have qv49 : v49.toInt = r37.toInt := y_i2l ev49
        refine lv_lconst (v := 0) hx hb dX7_lineTold_42 (by decide) ?_
        refine lv_ldc2 hx hb hown (hts _ T_1256) dX7_lineTold_43 ?_
        refine va_calli (va_runS (As := [.long v49, .long 0, .long 15]) (rest := []) ⟨hx, hb, hml, hown, hts⟩ (y_X7_isIn l dC dI H.size F38 v49 0 15) (cwS 3 hts (ax_gS T_267 T_268 T_265 T_21) rfl rfl rfl (by decide +kernel) ⟨Nat.le_of_ble_eq_true rfl, Nat.le_of_ble_eq_true rfl⟩) ⟨fun a U g mk q => ⟨q.1, s_pc rfl rfl q.2⟩, fun U hU hW => ⟨rfl, s_pw hU hW hP hK hD hN⟩⟩ rfl rfl hl.1 rfl (lv_room (Nat.le_of_ble_eq_true rfl)) dX7_lineTold_46 ⟨Nat.zero_le _, Nat.zero_le _⟩) hS (fun q _ h => h) (fun q h => h) (fun r51 F52 t H1 locs ht hvm hw hB hz1 hk1 hS => ?_)
        obtain ⟨hP, hK1⟩ := hB
        rw [ht] at hP
        generalize H1 = H at hP hS ⊢
        obtain ⟨h53, h55, hG9, h54⟩ := hw
        rw [hG9] at hP
        have h54 : ((r51.toInt = 0 ∧ (v49.toInt < 0 ∨ 15 < v49.toInt)) ∨ (r51.toInt = 1 ∧ 0 ≤ v49.toInt ∧ v49.toInt ≤ 15)) := by have q9 := h54; exact q9
        refine lv_if_ne (tgt := 76) hx hb dX7_lineTold_49 (by decide) (fun c56 => ?_) (fun c56 => ?_)
        · have c56 := mt (ax_eq (n := 0) (by decide)).mpr c56
          exact K76 _ _ _ ⟨F38, _, r37, rfl, lv_sub hl [1, 0] rfl, hP, hS, hI, hfr, (fun k hk => (y_fiZ oY45 (s_sub (by decide) hk)).trans (hz0 k hk)), trivial, (by rw [y_atE o42]; exact hn33), (by rw [y_atE o42]; exact hfr34), (by first | (rw [y_atE o42, y_fiZ oY45 (k := 5) (by decide), ← ev22]; omega) | rw [y_atE o42, y_fiZ oY45 (k := 5) (by decide), ← ev22])⟩
        · have c56 := (ax_eq (n := 0) (by decide)).mp c56
          refine lv_aload_n hx hb dX7_lineTold_52 rfl (lv_at hl 1 rfl) ?_
          refine lv_iconst (v := 1) hx hb dX7_lineTold_53 (by decide) ?_
          refine lv_aload_n hx hb dX7_lineTold_54 rfl (lv_at hl 1 rfl) ?_
          refine va_calli (va_runV (As := []) (rest := [.int 1, .ref a0]) ⟨hx, hb, hml, hown, hts⟩ (y_X7_look l dC dI H.size hLK A hA F38 a0 ha0 hI) (cwV 0 hts (ax_gV T_275 T_276 T_277 T_265 T_22) rfl rfl rfl (by decide +kernel) ⟨Nat.le_of_ble_eq_true rfl, Nat.le_of_ble_eq_true rfl⟩) ⟨fun a U g mk q => ⟨q.1, s_pc rfl rfl q.2⟩, s_recv hK hP (hLK _ ha0 (by decide)) (ci := 7) rfl oY45, fun U hU hW => ⟨rfl, s_pw hU hW hP hK hD hN⟩⟩ rfl rfl hl.1 rfl (lv_room (Nat.le_of_ble_eq_true rfl)) dX7_lineTold_55 ⟨Nat.zero_le _, Nat.zero_le _⟩) hS (fun q _ h => h) (fun q h => h) (fun r58 F59 t H1 locs ht hvm hw hB hz1 hk1 hS => ?_)
          obtain ⟨hP, hK1⟩ := hB
          rw [ht] at hP
          generalize H1 = H at hP hS ⊢
          obtain ⟨h60, h62, hI, hfr1, hzf, h61⟩ := hw
          have o63 : F59 (A 12) = .inl (cs 0, 400, .inl f30) := (hfr1 _ (by rw [(y_k12 hA)]; decide)).trans o42
          obtain ⟨z64, q65, oY66, bz67, bq68⟩ := y_opY hI ha0
          have hzf : ∀ k, k ∈ ([1, 3, 4, 5, 6, 7, 8, 11, 15, 16, 19, 25, 26, 27, 31, 32] : List Nat) → z64 k = z43 k := fun k hk => by have q9 := hzf k hk; rw [y_fiZ oY66 (s_sub (by decide) hk), y_fiZ oY45 (s_sub (by decide) hk)] at q9; exact q9
          have hz0 : ∀ k, k ∈ ([1, 3, 7, 8, 15, 16, 19, 25, 26, 27, 31, 32] : List Nat) → z64 k = z0 k := fun k hk => (hzf k (s_sub (by decide) hk)).trans (hz0 k hk)
          have ev22 : v22 = z64 5 := ev22.trans (hzf 5 (by decide)).symm
          have hfr : ∀ b, K b ∉ [9, 62, 64] → F59 b = F b := fun b hb9 => (hfr1 b (fun q => hb9 (s_sub (by decide) q))).trans (hfr b hb9)
          obtain ⟨v69, ev69⟩ : ∃ y : Int32, y = z64 2 := ⟨_, rfl⟩
          have qv69 : 0 ≤ v69.toInt ∧ v69.toInt ≤ 1600 := by rw [ev69]; exact y_bY2 bz67
          obtain ⟨v70, ev70⟩ : ∃ y : Int32, y = z64 3 := ⟨_, rfl⟩
          have qv70 : 0 ≤ v70.toInt ∧ v70.toInt ≤ 1600 := by rw [ev70]; exact y_bY3 bz67
          have h61 : (r58.toInt = -1 ∨ v69.toInt < v70.toInt) := by have q9 := h61; rw [y_fiZ oY66 (k := 2) (by decide), ← ev69, y_fiZ oY66 (k := 3) (by decide), ← ev70] at q9; exact q9
          refine lv_iconst (v := (-1)) hx hb dX7_lineTold_58 (by decide) ?_
          refine lv_icmp_ne (tgt := 69) hx hb dX7_lineTold_59 (by decide) (fun c71 => ?_) (fun c71 => ?_)
          · have c71 := mt (ax_eq (n := (-1)) (by decide)).mpr c71
            refine lv_aload_n hx hb dX7_lineTold_69 rfl (lv_at hl 1 rfl) ?_
            refine th_get (D := (dC, dI)) (ci := 7) (v := .int (z64 2)) (C := RX7) (T := TX7) (N := 34) hx hb hts inX7 hown hK hP (hLK _ ha0 (by decide)) oY66 rfl 2 (by decide) (hts _ T_272) (fun _ h9 => h9) rfl dX7_lineTold_70 ?_
            refine ax_eqi (y := v69) ev69.symm ?_
            refine va_callv (va_runV (As := [.int 1, .int v69]) (rest := []) ⟨hx, hb, hml, hown, hts⟩ (y_X7_fail l dC dI H.size hLK A hA F59 a0 1 v69 ha0 (by decide) hI) (cwV 2 hts (ax_gV T_290 T_291 T_292 T_265 T_27) rfl rfl rfl (by decide +kernel) ⟨Nat.le_of_ble_eq_true rfl, Nat.le_of_ble_eq_true rfl⟩) ⟨fun a U g mk q => ⟨q.1, s_pc rfl rfl q.2⟩, s_recv hK hP (hLK _ ha0 (by decide)) (ci := 7) rfl oY66, fun U hU hW => ⟨rfl, s_pw hU hW hP hK hD hN⟩⟩ rfl rfl hl.1 rfl (lv_room (Nat.le_of_ble_eq_true rfl)) dX7_lineTold_73 ⟨Nat.zero_le _, Nat.zero_le _⟩) hS (fun q _ h => h) (fun q h => h) (fun F73 t H1 locs ht hvm hw hB hz1 hk1 hS => ?_)
            obtain ⟨hP, hK1⟩ := hB
            rw [ht] at hP
            generalize H1 = H at hP hS ⊢
            obtain ⟨h74, h76, hI, hfr1, hzf, h75⟩ := hw
            have o77 : F73 (A 12) = .inl (cs 0, 400, .inl f30) := (hfr1 _ (by rw [(y_k12 hA)]; decide)).trans o63
            obtain ⟨z78, q79, oY80, bz81, bq82⟩ := y_opY hI ha0
            have hzf : ∀ k, k ∈ ([1, 2, 3, 4, 7, 8, 11, 15, 16, 19, 25, 26, 27, 31, 32] : List Nat) → z78 k = z64 k := fun k hk => by have q9 := hzf k hk; rw [y_fiZ oY80 (s_sub (by decide) hk), y_fiZ oY66 (s_sub (by decide) hk)] at q9; exact q9
            have hz0 : ∀ k, k ∈ ([1, 3, 7, 8, 15, 16, 19, 25, 26, 27, 31, 32] : List Nat) → z78 k = z0 k := fun k hk => (hzf k (s_sub (by decide) hk)).trans (hz0 k hk)
            have ev69 : v69 = z78 2 := ev69.trans (hzf 2 (by decide)).symm
            have ev70 : v70 = z78 3 := ev70.trans (hzf 3 (by decide)).symm
            have hfr : ∀ b, K b ∉ [9, 62, 64] → F73 b = F b := fun b hb9 => (hfr1 b (fun q => hb9 (s_sub (by decide) q))).trans (hfr b hb9)
            obtain ⟨v83, ev83⟩ : ∃ y : Int32, y = z78 5 := ⟨_, rfl⟩
            have h75 : (¬ v83.toInt = 0) := by have q9 := h75; rw [y_fiZ oY80 (k := 5) (by decide), ← ev83] at q9; exact q9
            exact K76 _ _ _ ⟨F73, _, r37, rfl, lv_sub hl [1, 0] rfl, hP, hS, hI, hfr, (fun k hk => (y_fiZ oY80 (s_sub (by decide) hk)).trans (hz0 k hk)), trivial, (by rw [y_atE o77]; exact hn33), (by rw [y_atE o77]; exact hfr34), (by first | (rw [y_atE o77, y_fiZ oY80 (k := 5) (by decide), ← ev83]; omega) | rw [y_atE o77, y_fiZ oY80 (k := 5) (by decide), ← ev83])⟩
          · have c71 := (ax_eq (n := (-1)) (by decide)).mp c71
            refine lv_aload_n hx hb dX7_lineTold_62 rfl (lv_at hl 1 rfl) ?_
            refine th_get (D := (dC, dI)) (ci := 7) (v := .int (z64 3)) (C := RX7) (T := TX7) (N := 34) hx hb hts inX7 hown hK hP (hLK _ ha0 (by decide)) oY66 rfl 3 (by decide) (hts _ T_273) (fun _ h9 => h9) rfl dX7_lineTold_63 ?_
            refine ax_eqi (y := v70) ev70.symm ?_
            refine lv_goto (tgt := 73) hx hb dX7_lineTold_66 (by decide) ?_
            refine va_callv (va_runV (As := [.int 1, .int v70]) (rest := []) ⟨hx, hb, hml, hown, hts⟩ (y_X7_fail l dC dI H.size hLK A hA F59 a0 1 v70 ha0 (by decide) hI) (cwV 2 hts (ax_gV T_290 T_291 T_292 T_265 T_27) rfl rfl rfl (by decide +kernel) ⟨Nat.le_of_ble_eq_true rfl, Nat.le_of_ble_eq_true rfl⟩) ⟨fun a U g mk q => ⟨q.1, s_pc rfl rfl q.2⟩, s_recv hK hP (hLK _ ha0 (by decide)) (ci := 7) rfl oY66, fun U hU hW => ⟨rfl, s_pw hU hW hP hK hD hN⟩⟩ rfl rfl hl.1 rfl (lv_room (Nat.le_of_ble_eq_true rfl)) dX7_lineTold_73 ⟨Nat.zero_le _, Nat.zero_le _⟩) hS (fun q _ h => h) (fun q h => h) (fun F85 t H1 locs ht hvm hw hB hz1 hk1 hS => ?_)
            obtain ⟨hP, hK1⟩ := hB
            rw [ht] at hP
            generalize H1 = H at hP hS ⊢
            obtain ⟨h86, h88, hI, hfr1, hzf, h87⟩ := hw
            have o89 : F85 (A 12) = .inl (cs 0, 400, .inl f30) := (hfr1 _ (by rw [(y_k12 hA)]; decide)).trans o63
            obtain ⟨z90, q91, oY92, bz93, bq94⟩ := y_opY hI ha0
            have hzf : ∀ k, k ∈ ([1, 2, 3, 4, 7, 8, 11, 15, 16, 19, 25, 26, 27, 31, 32] : List Nat) → z90 k = z64 k := fun k hk => by have q9 := hzf k hk; rw [y_fiZ oY92 (s_sub (by decide) hk), y_fiZ oY66 (s_sub (by decide) hk)] at q9; exact q9
            have hz0 : ∀ k, k ∈ ([1, 3, 7, 8, 15, 16, 19, 25, 26, 27, 31, 32] : List Nat) → z90 k = z0 k := fun k hk => (hzf k (s_sub (by decide) hk)).trans (hz0 k hk)
            have ev69 : v69 = z90 2 := ev69.trans (hzf 2 (by decide)).symm
            have ev70 : v70 = z90 3 := ev70.trans (hzf 3 (by decide)).symm
            have hfr : ∀ b, K b ∉ [9, 62, 64] → F85 b = F b := fun b hb9 => (hfr1 b (fun q => hb9 (s_sub (by decide) q))).trans (hfr b hb9)
            obtain ⟨v95, ev95⟩ : ∃ y : Int32, y = z90 5 := ⟨_, rfl⟩
            have h87 : (¬ v95.toInt = 0) := by have q9 := h87; rw [y_fiZ oY92 (k := 5) (by decide), ← ev95] at q9; exact q9
            exact K76 _ _ _ ⟨F85, _, r37, rfl, lv_sub hl [1, 0] rfl, hP, hS, hI, hfr, (fun k hk => (y_fiZ oY92 (s_sub (by decide) hk)).trans (hz0 k hk)), trivial, (by rw [y_atE o89]; exact hn33), (by rw [y_atE o89]; exact hfr34), (by first | (rw [y_atE o89, y_fiZ oY92 (k := 5) (by decide), ← ev95]; omega) | rw [y_atE o89, y_fiZ oY92 (k := 5) (by decide), ← ev95])⟩
    · have c23 := mt (ax_ge (n := 7) (by decide)).mpr c23
      refine lv_aload_n hx hb dX7_lineTold_8 rfl (lv_at hl 0 rfl) ?_
      refine lv_iload_n hx hb dX7_lineTold_9 rfl (lv_at hl 2 rfl) ?_
      refine lv_ldc (v := (-1000000)) hx hb hown (hts _ T_316) dX7_lineTold_10 ?_
      have ep96_5 := ev22
      refine va_callv (va_runV (As := [.int w7, .int (-1000000)]) (rest := []) ⟨hx, hb, hml, hown, hts⟩ (y_X7_lays l dC dI H.size hLK A hA F13 a0 w7 (-1000000) ha0 (⟨by omega, by omega⟩) hI) (cwV 2 hts (ax_gV T_1115 T_1117 T_1118 T_265 T_1116) rfl rfl rfl (by decide +kernel) ⟨Nat.le_of_ble_eq_true rfl, Nat.le_of_ble_eq_true rfl⟩) ⟨fun a U g mk q => ⟨q.1, s_pc rfl rfl q.2⟩, s_recv hK hP (hLK _ ha0 (by decide)) (ci := 7) rfl oY16, fun U hU hW => ⟨rfl, s_pw hU hW hP hK hD hN⟩⟩ rfl rfl hl.1 rfl (lv_room (Nat.le_of_ble_eq_true rfl)) dX7_lineTold_12 ⟨Nat.zero_le _, Nat.zero_le _⟩) hS (fun q _ h => h) (fun q h => h) (fun F97 t H1 locs ht hvm hw hB hz1 hk1 hS => ?_)
      obtain ⟨hP, hK1⟩ := hB
      rw [ht] at hP
      generalize H1 = H at hP hS ⊢
      obtain ⟨h98, h100, hI, hfr1, hzf, h99⟩ := hw
      have oY101 : F97 a0 = .inr (7, y_fl A z14 q15) := (hfr1 _ (by rw [ha0]; decide)).trans oY16
      have hfr : ∀ b, K b ∉ [9, 62, 64] → F97 b = F b := fun b hb9 => (hfr1 b (fun q => hb9 (s_sub (by decide) q))).trans (hfr b hb9)
      obtain ⟨f102, o103, b104⟩ := y_op12 hI
      have h99 : ((∀ j : Int, 0 ≤ j → j ≠ 8 * (y_c f19 387).toInt + w7.toInt → y_c f102 j = y_c f19 j) ∧ (v22.toInt = 0 → y_c f102 (8 * (y_c f19 387).toInt + w7.toInt) = (-1000000))) := by have q9 := h99; rw [y_atE o20, y_atE o103, y_fiZ oY16 (k := 5) (by decide), ← ep96_5] at q9; exact q9
      rw [h10] at h99
      have hn105 : (y_c f102 387).toInt = nn := by rw [h99.1 387 (by omega) (by omega)]; exact h10
      have hfr106 : ∀ j : Int, 0 ≤ j → (j < 8 * nn ∨ 8 * nn + 8 ≤ j) → y_c f102 j = y_c f1 j := fun j h0 h1 => (h99.1 j h0 (by omega)).trans (h11 j h0 h1)
      have h107 : w7.toInt = 5 → v22.toInt = 0 → (y_c f102 (8 * nn + 5)).toInt = (-1000000) := fun h8 => (fun h9 => (congrArg (fun i => (y_c f102 i).toInt) (show 8 * nn + 5 = 8 * nn + w7.toInt by omega)).trans ((congrArg Int32.toInt (h99.2 h9)).trans (by decide)))
      have h108 : w7.toInt ≠ 5 → (y_c f102 (8 * nn + 5)).toInt = (y_c f19 (8 * nn + 5)).toInt := fun h8 => (congrArg Int32.toInt (h99.1 _ (by omega) (by omega)))
      obtain ⟨v109, ev109⟩ : ∃ y : Int32, w7 + 1 = y := ⟨_, rfl⟩
      have qv109 : v109.toInt = w7.toInt + 1 := by rw [← ev109]; exact th_add rfl (by decide) ⟨by omega, by omega⟩
      refine lv_iinc (v := v109) (lv' := [(2, .int v109), (0, .ref a0), (1, .int x1)]) hx hb dX7_lineTold_15 hl (k := 2) rfl ev109 (by decide) rfl (fun ls hl => ?_)
      refine lv_goto (tgt := 2) hx hb dX7_lineTold_18 (by decide) ?_
      exact ih2 _ _ _ _ (by omega) ⟨F97, _, v109, rfl, lv_sub hl [1, 2, 0] rfl, hP, hS, hI, hfr, (fun k hk => (y_fiZ oY101 (s_sub (by decide) hk)).trans (hz0 k hk)), ⟨by omega, by omega⟩, (by rw [y_atE o103]; exact hn105), (by rw [y_atE o103]; exact hfr106), (by first | (rw [y_fiZ oY101 (k := 5) (by decide), ← ev22, y_atE o103]; omega) | rw [y_fiZ oY101 (k := 5) (by decide), ← ev22, y_atE o103]), rfl⟩
  · intro g H locs hq
    obtain ⟨F114, ls, w6, rfl, hl, hP, hS, hI, hfr, hz0, h110, h111, h112, h113⟩ := hq
    obtain ⟨z115, q116, oY117, bz118, bq119⟩ := y_opY hI ha0
    have hz0 : ∀ k, k ∈ ([1, 3, 7, 8, 15, 16, 19, 25, 26, 27, 31, 32] : List Nat) → z115 k = z0 k := fun k hk => (y_fiZ oY117 (s_sub (by decide) hk)).symm.trans (hz0 k hk)
    obtain ⟨f120, o121, b122⟩ := y_op12 hI
    have h111 : (y_c f120 387).toInt = nn := by have q9 := h111; rw [y_atE o121] at q9; exact q9
    have h112 : (∀ j : Int, 0 ≤ j → (j < 8 * nn ∨ 8 * nn + 8 ≤ j) → y_c f120 j = y_c f1 j) := by have q9 := h112; rw [y_atE o121] at q9; exact q9
    obtain ⟨v123, ev123⟩ : ∃ y : Int32, y = z115 5 := ⟨_, rfl⟩
    have h113 : (v4.toInt = 0 ∧ (y_c f120 (8 * nn + 5)).toInt = -1000000 ∧ (v123.toInt = 0 → 0 ≤ w6.toInt ∧ w6.toInt ≤ 15)) := by have q9 := h113; rw [y_atE o121, y_fiZ oY117 (k := 5) (by decide), ← ev123] at q9; exact q9
    refine lv_aload_n hx hb dX7_lineTold_76 rfl (lv_at hl 0 rfl) ?_
    refine th_get (D := (dC, dI)) (ci := 7) (v := .int (z115 5)) (C := RX7) (T := TX7) (N := 34) hx hb hts inX7 hown hK hP (hLK _ ha0 (by decide)) oY117 rfl 5 (by decide) (hts _ T_274) (fun _ h9 => h9) rfl dX7_lineTold_77 ?_
    refine ax_eqi (y := v123) ev123.symm ?_
    refine lv_if_eq (tgt := 84) hx hb dX7_lineTold_80 (by decide) (fun c124 => ?_) (fun c124 => ?_)
    · have c124 := (ax_eq (n := 0) (by decide)).mp c124
      refine lv_aload_n hx hb dX7_lineTold_84 rfl (lv_at hl 0 rfl) ?_
      refine va_callv (va_runV (As := []) (rest := []) ⟨hx, hb, hml, hown, hts⟩ (y_X7_passes l dC dI H.size hLK A hA F114 a0 ha0 hI) (cwV 0 hts (ax_gV T_1257 T_1259 T_1260 T_265 T_1258) rfl rfl rfl (by decide +kernel) ⟨Nat.le_of_ble_eq_true rfl, Nat.le_of_ble_eq_true rfl⟩) ⟨fun a U g mk q => ⟨q.1, s_pc rfl rfl q.2⟩, s_recv hK hP (hLK _ ha0 (by decide)) (ci := 7) rfl oY117, fun U hU hW => ⟨rfl, s_pw hU hW hP hK hD hN⟩⟩ rfl rfl hl.1 rfl (lv_room (Nat.le_of_ble_eq_true rfl)) dX7_lineTold_85 ⟨Nat.zero_le _, Nat.zero_le _⟩) hS (fun q _ h => h) (fun q h => h) (fun F126 t H1 locs ht hvm hw hB hz1 hk1 hS => ?_)
      obtain ⟨hP, hK1⟩ := hB
      rw [ht] at hP
      generalize H1 = H at hP hS ⊢
      obtain ⟨h127, h129, hI, hfr1, hzf, h128⟩ := hw
      have o130 : F126 (A 12) = .inl (cs 0, 400, .inl f120) := (hfr1 _ (by rw [(y_k12 hA)]; decide)).trans o121
      obtain ⟨z131, q132, oY133, bz134, bq135⟩ := y_opY hI ha0
      have hzf : ∀ k, k ∈ ([1, 3, 5, 6, 7, 8, 11, 15, 16, 19, 25, 26, 27, 31, 32] : List Nat) → z131 k = z115 k := fun k hk => by have q9 := hzf k hk; rw [y_fiZ oY133 (s_sub (by decide) hk), y_fiZ oY117 (s_sub (by decide) hk)] at q9; exact q9
      have hz0 : ∀ k, k ∈ ([1, 3, 7, 8, 15, 16, 19, 25, 26, 27, 31, 32] : List Nat) → z131 k = z0 k := fun k hk => (hzf k (s_sub (by decide) hk)).trans (hz0 k hk)
      have ev123 : v123 = z131 5 := ev123.trans (hzf 5 (by decide)).symm
      have hfr : ∀ b, K b ∉ [9, 62, 64] → F126 b = F b := fun b hb9 => (hfr1 b (fun q => hb9 (s_sub (by decide) q))).trans (hfr b hb9)
      refine lv_aload_n hx hb dX7_lineTold_88 rfl (lv_at hl 0 rfl) ?_
      refine lv_iconst (v := 0) hx hb dX7_lineTold_89 (by decide) ?_
      refine lv_iload_n hx hb dX7_lineTold_90 rfl (lv_at hl 1 rfl) ?_
      have ep136_5 := ev123
      refine va_callv (va_runV (As := [.int 0, .int w6]) (rest := []) ⟨hx, hb, hml, hown, hts⟩ (y_X7_lays l dC dI H.size hLK A hA F126 a0 0 w6 ha0 (by decide) hI) (cwV 2 hts (ax_gV T_1115 T_1117 T_1118 T_265 T_1116) rfl rfl rfl (by decide +kernel) ⟨Nat.le_of_ble_eq_true rfl, Nat.le_of_ble_eq_true rfl⟩) ⟨fun a U g mk q => ⟨q.1, s_pc rfl rfl q.2⟩, s_recv hK hP (hLK _ ha0 (by decide)) (ci := 7) rfl oY133, fun U hU hW => ⟨rfl, s_pw hU hW hP hK hD hN⟩⟩ rfl rfl hl.1 rfl (lv_room (Nat.le_of_ble_eq_true rfl)) dX7_lineTold_91 ⟨Nat.zero_le _, Nat.zero_le _⟩) hS (fun q _ h => h) (fun q h => h) (fun F137 t H1 locs ht hvm hw hB hz1 hk1 hS => ?_)
      obtain ⟨hP, hK1⟩ := hB
      rw [ht] at hP
      generalize H1 = H at hP hS ⊢
      obtain ⟨h138, h140, hI, hfr1, hzf, h139⟩ := hw
      have oY141 : F137 a0 = .inr (7, y_fl A z131 q132) := (hfr1 _ (by rw [ha0]; decide)).trans oY133
      have hfr : ∀ b, K b ∉ [9, 62, 64] → F137 b = F b := fun b hb9 => (hfr1 b (fun q => hb9 (s_sub (by decide) q))).trans (hfr b hb9)
      obtain ⟨f142, o143, b144⟩ := y_op12 hI
      have h139 : ((∀ j : Int, 0 ≤ j → j ≠ 8 * (y_c f120 387).toInt + 0 → y_c f142 j = y_c f120 j) ∧ (v123.toInt = 0 → y_c f142 (8 * (y_c f120 387).toInt + 0) = w6)) := by have q9 := h139; rw [y_atE o130, y_atE o143, y_fiZ oY133 (k := 5) (by decide), ← ep136_5] at q9; exact q9
      rw [h111] at h139
      have hn145 : (y_c f142 387).toInt = nn := by rw [h139.1 387 (by omega) (by omega)]; exact h111
      have hfr146 : ∀ j : Int, 0 ≤ j → (j < 8 * nn ∨ 8 * nn + 8 ≤ j) → y_c f142 j = y_c f1 j := fun j h0 h1 => (h139.1 j h0 (by omega)).trans (h112 j h0 h1)
      have h147 : v123.toInt = 0 → (y_c f142 (8 * nn)).toInt = w6.toInt := (fun h9 => (congrArg (fun i => (y_c f142 i).toInt) (show 8 * nn = 8 * nn + 0 by omega)).trans ((congrArg Int32.toInt (h139.2 h9)).trans rfl))
      have h148 : (y_c f142 (8 * nn + 5)).toInt = (y_c f120 (8 * nn + 5)).toInt := (congrArg Int32.toInt (h139.1 _ (by omega) (by omega)))
      refine lv_iload_n hx hb dX7_lineTold_94 rfl (lv_at hl 1 rfl) ?_
      have h149 : 0 ≤ w6.toInt ∧ w6.toInt ≤ 15 := ⟨by omega, by omega⟩
      refine va_calli (va_runS (As := [.int w6]) (rest := []) ⟨hx, hb, hml, hown, hts⟩ (y_X7_hasRegister l dC dI H.size F137 w6 (⟨by omega, by omega⟩)) (cwS 1 hts (ax_gS T_1261 T_1263 T_265 T_1262) rfl rfl rfl (by decide +kernel) ⟨Nat.le_of_ble_eq_true rfl, Nat.le_of_ble_eq_true rfl⟩) ⟨fun a U g mk q => ⟨q.1, s_pc rfl rfl q.2⟩, fun U hU hW => ⟨rfl, s_pw hU hW hP hK hD hN⟩⟩ rfl rfl hl.1 rfl (lv_room (Nat.le_of_ble_eq_true rfl)) dX7_lineTold_95 ⟨Nat.zero_le _, Nat.zero_le _⟩) hS (fun q _ h => h) (fun q h => h) (fun r151 F152 t H1 locs ht hvm hw hB hz1 hk1 hS => ?_)
      obtain ⟨hP, hK1⟩ := hB
      rw [ht] at hP
      generalize H1 = H at hP hS ⊢
      obtain ⟨h153, h155, hG9, h154⟩ := hw
      rw [hG9] at hP
      refine lv_if_eq (tgt := 110) hx hb dX7_lineTold_98 (by decide) (fun c156 => ?_) (fun c156 => ?_)
      · have c156 := (ax_eq (n := 0) (by decide)).mp c156
        exact K110 _ _ _ ⟨F137, _, w6, rfl, lv_sub hl [0, 1] rfl, hP, hS, hI, hfr, (fun k hk => (y_fiZ oY141 (s_sub (by decide) hk)).trans (hz0 k hk)), trivial, (by rw [y_atE o143]; exact hn145), (by rw [y_atE o143]; exact hfr146), (by first | (rw [y_atE o143, y_fiZ oY141 (k := 5) (by decide), ← ev123]; omega) | rw [y_atE o143, y_fiZ oY141 (k := 5) (by decide), ← ev123])⟩
      · have c156 := mt (ax_eq (n := 0) (by decide)).mpr c156
        have h157 := h155 (fun q => c156 (by rw [q]; decide))
        refine lv_aload_n hx hb dX7_lineTold_101 rfl (lv_at hl 0 rfl) ?_
        refine lv_iconst (v := 1) hx hb dX7_lineTold_102 (by decide) ?_
        refine lv_aload_n hx hb dX7_lineTold_103 rfl (lv_at hl 0 rfl) ?_
        have ep158_5 := ev123
        refine va_calli (va_runV (As := []) (rest := [.int 1, .ref a0]) ⟨hx, hb, hml, hown, hts⟩ (y_X7_registerTold l dC dI H.size hLK A hA F137 a0 ha0 hI) (cwV 0 hts (ax_gV T_1264 T_1266 T_1267 T_265 T_1265) rfl rfl rfl (by decide +kernel) ⟨Nat.le_of_ble_eq_true rfl, Nat.le_of_ble_eq_true rfl⟩) ⟨fun a U g mk q => ⟨q.1, s_pc rfl rfl q.2⟩, s_recv hK hP (hLK _ ha0 (by decide)) (ci := 7) rfl oY141, fun U hU hW => ⟨rfl, s_pw hU hW hP hK hD hN⟩⟩ rfl rfl hl.1 rfl (lv_room (Nat.le_of_ble_eq_true rfl)) dX7_lineTold_104 ⟨Nat.zero_le _, Nat.zero_le _⟩) hS (fun q _ h => h) (fun q h => h) (fun r159 F160 t H1 locs ht hvm hw hB hz1 hk1 hS => ?_)
        obtain ⟨hP, hK1⟩ := hB
        rw [ht] at hP
        generalize H1 = H at hP hS ⊢
        obtain ⟨h161, h163, hI, hfr1, hzf, h162⟩ := hw
        have o164 : F160 (A 12) = .inl (cs 0, 400, .inl f142) := (hfr1 _ (by rw [(y_k12 hA)]; decide)).trans o143
        obtain ⟨z165, q166, oY167, bz168, bq169⟩ := y_opY hI ha0
        have hzf : ∀ k, k ∈ ([1, 3, 7, 8, 11, 15, 16, 19, 25, 26, 27, 31, 32] : List Nat) → z165 k = z131 k := fun k hk => by have q9 := hzf k hk; rw [y_fiZ oY167 (s_sub (by decide) hk), y_fiZ oY141 (s_sub (by decide) hk)] at q9; exact q9
        have hz0 : ∀ k, k ∈ ([1, 3, 7, 8, 15, 16, 19, 25, 26, 27, 31, 32] : List Nat) → z165 k = z0 k := fun k hk => (hzf k (s_sub (by decide) hk)).trans (hz0 k hk)
        have hfr : ∀ b, K b ∉ [9, 62, 64] → F160 b = F b := fun b hb9 => (hfr1 b (fun q => hb9 (s_sub (by decide) q))).trans (hfr b hb9)
        obtain ⟨v170, ev170⟩ : ∃ y : Int32, y = z165 5 := ⟨_, rfl⟩
        have h162 : ((v123.toInt = 0 ∨ ¬ v170.toInt = 0) ∧ (v170.toInt = 0 → 0 ≤ r159.toInt ∧ r159.toInt ≤ 3)) := by have q9 := h162; rw [y_fiZ oY141 (k := 5) (by decide), ← ep158_5, y_fiZ oY167 (k := 5) (by decide), ← ev170] at q9; exact q9
        have ep171_5 := ev170
        refine va_callv (va_runV (As := [.int 1, .int r159]) (rest := []) ⟨hx, hb, hml, hown, hts⟩ (y_X7_lays l dC dI H.size hLK A hA F160 a0 1 r159 ha0 (by decide) hI) (cwV 2 hts (ax_gV T_1115 T_1117 T_1118 T_265 T_1116) rfl rfl rfl (by decide +kernel) ⟨Nat.le_of_ble_eq_true rfl, Nat.le_of_ble_eq_true rfl⟩) ⟨fun a U g mk q => ⟨q.1, s_pc rfl rfl q.2⟩, s_recv hK hP (hLK _ ha0 (by decide)) (ci := 7) rfl oY167, fun U hU hW => ⟨rfl, s_pw hU hW hP hK hD hN⟩⟩ rfl rfl hl.1 rfl (lv_room (Nat.le_of_ble_eq_true rfl)) dX7_lineTold_107 ⟨Nat.zero_le _, Nat.zero_le _⟩) hS (fun q _ h => h) (fun q h => h) (fun F172 t H1 locs ht hvm hw hB hz1 hk1 hS => ?_)
        obtain ⟨hP, hK1⟩ := hB
        rw [ht] at hP
        generalize H1 = H at hP hS ⊢
        obtain ⟨h173, h175, hI, hfr1, hzf, h174⟩ := hw
        have oY176 : F172 a0 = .inr (7, y_fl A z165 q166) := (hfr1 _ (by rw [ha0]; decide)).trans oY167
        have hfr : ∀ b, K b ∉ [9, 62, 64] → F172 b = F b := fun b hb9 => (hfr1 b (fun q => hb9 (s_sub (by decide) q))).trans (hfr b hb9)
        obtain ⟨f177, o178, b179⟩ := y_op12 hI
        have h174 : ((∀ j : Int, 0 ≤ j → j ≠ 8 * (y_c f142 387).toInt + 1 → y_c f177 j = y_c f142 j) ∧ (v170.toInt = 0 → y_c f177 (8 * (y_c f142 387).toInt + 1) = r159)) := by have q9 := h174; rw [y_atE o164, y_atE o178, y_fiZ oY167 (k := 5) (by decide), ← ep171_5] at q9; exact q9
        rw [hn145] at h174
        have hn180 : (y_c f177 387).toInt = nn := by rw [h174.1 387 (by omega) (by omega)]; exact hn145
        have hfr181 : ∀ j : Int, 0 ≤ j → (j < 8 * nn ∨ 8 * nn + 8 ≤ j) → y_c f177 j = y_c f1 j := fun j h0 h1 => (h174.1 j h0 (by omega)).trans (hfr146 j h0 h1)
        have h182 : (y_c f177 (8 * nn)).toInt = (y_c f142 (8 * nn)).toInt := (congrArg Int32.toInt (h174.1 _ (by omega) (by omega)))
        have h183 : (y_c f177 (8 * nn + 5)).toInt = (y_c f142 (8 * nn + 5)).toInt := (congrArg Int32.toInt (h174.1 _ (by omega) (by omega)))
        exact K110 _ _ _ ⟨F172, _, w6, rfl, lv_sub hl [0, 1] rfl, hP, hS, hI, hfr, (fun k hk => (y_fiZ oY176 (s_sub (by decide) hk)).trans (hz0 k hk)), trivial, (by rw [y_atE o178]; exact hn180), (by rw [y_atE o178]; exact hfr181), (by first | (rw [y_atE o178, y_fiZ oY176 (k := 5) (by decide), ← ev170]; omega) | rw [y_atE o178, y_fiZ oY176 (k := 5) (by decide), ← ev170])⟩
    · have c124 := mt (ax_eq (n := 0) (by decide)).mpr c124
      exact W.vret hx hb hr (fun t ht hW => ⟨⟨F114, rfl, ⟨trivial, trivial, hI, hfr, fun k hk => (y_fiZ oY117 (s_sub (by decide) hk)).trans ((hz0 k hk).trans (y_fiZ oY0 (s_sub (by decide) hk)).symm), (by rw [y_fiZ oY0 (k := 5) (by decide), ← eF_5, y_fiZ oY117 (k := 5) (by decide), ← ev123, y_atE o2, y_atE o121]; rw [← hnn]; exact ⟨by omega, (fun j h0 h1 => h112 j h0 (by omega)), (fun j h0 h1 => h112 j (by omega) (by omega)), fun q => absurd q (by omega)⟩)⟩, by rw [ht]; exact hP, va_K.moved hW.alike hK⟩, hS.F ht⟩) hS.2.2 dX7_lineTold_83
  · intro g H locs hq
    obtain ⟨F188, ls, w5, rfl, hl, hP, hS, hI, hfr, hz0, h184, h185, h186, h187⟩ := hq
    obtain ⟨z189, q190, oY191, bz192, bq193⟩ := y_opY hI ha0
    have hz0 : ∀ k, k ∈ ([1, 3, 7, 8, 15, 16, 19, 25, 26, 27, 31, 32] : List Nat) → z189 k = z0 k := fun k hk => (y_fiZ oY191 (s_sub (by decide) hk)).symm.trans (hz0 k hk)
    obtain ⟨f194, o195, b196⟩ := y_op12 hI
    have h185 : (y_c f194 387).toInt = nn := by have q9 := h185; rw [y_atE o195] at q9; exact q9
    have h186 : (∀ j : Int, 0 ≤ j → (j < 8 * nn ∨ 8 * nn + 8 ≤ j) → y_c f194 j = y_c f1 j) := by have q9 := h186; rw [y_atE o195] at q9; exact q9
    obtain ⟨v197, ev197⟩ : ∃ y : Int32, y = z189 5 := ⟨_, rfl⟩
    have h187 : ((v4.toInt = 0 ∧ 0 ≤ w5.toInt ∧ w5.toInt ≤ 15) ∧ (y_c f194 (8 * nn + 5)).toInt = -1000000 ∧ (v197.toInt = 0 → (y_c f194 (8 * nn)).toInt = w5.toInt)) := by have q9 := h187; rw [y_atE o195, y_fiZ oY191 (k := 5) (by decide), ← ev197] at q9; exact q9
    refine lv_iconst (v := 0) hx hb dX7_lineTold_110 (by decide) ?_
    refine lv_istore_n (lv' := [(3, .int 0), (0, .ref a0), (2, .int w5)]) hx hb dX7_lineTold_111 rfl hl (by decide) rfl (fun ls hl => ?_)
    have h199 : (0 : Int32).toInt = 0 := by decide
    refine th_loop (fun n g H locs => ∃ (G : Nat → va_E) (ls : Array Slot) (w198 : Int32), g = F0 m 112 ls [] ∧ lv_has ls 4 [(0, .ref a0), (2, .int w5), (3, .int w198)] ∧ va_P (dC, dI) vwCl (va_pl L G) H ∧ va_S (fun q => q ∈ L) s.heap H locs ∧ y_I K cs A G ∧ (∀ b, K b ∉ [9, 62, 64] → G b = F b) ∧ (∀ k, k ∈ ([1, 3, 7, 8, 15, 16, 19, 25, 26, 27, 31, 32] : List Nat) → y_fi G a0 k = z0 k) ∧ (0 ≤ w198.toInt ∧ w198.toInt ≤ 2) ∧ (y_c (y_at G (A 12)) 387).toInt = nn ∧ (∀ j : Int, 0 ≤ j → (j < 8 * nn ∨ 8 * nn + 8 ≤ j) → y_c (y_at G (A 12)) j = y_c f1 j) ∧ (v4.toInt = 0 ∧ 0 ≤ w5.toInt ∧ w5.toInt ≤ 15) ∧ ((y_c (y_at G (A 12)) (8 * nn + 5)).toInt = -1000000 ∧ ((y_fi G a0 5).toInt = 0 → (y_c (y_at G (A 12)) (8 * nn)).toInt = w5.toInt ∧ (w198.toInt = 0 ∨ -4 ≤ (y_c (y_at G (A 12)) (8 * nn + 2)).toInt) ∧ (w198.toInt ≤ 1 ∨ -4 ≤ (y_c (y_at G (A 12)) (8 * nn + 3)).toInt))) ∧ n = (3 - w198.toInt).toNat) _ ⟨F188, _, 0, rfl, lv_sub hl [1, 2, 0] rfl, hP, hS, hI, hfr, (fun k hk => (y_fiZ oY191 (s_sub (by decide) hk)).trans (hz0 k hk)), (by decide), (by rw [y_atE o195]; exact h185), (by rw [y_atE o195]; exact h186), (by omega), (by rw [y_atE o195, y_fiZ oY191 (k := 5) (by decide), ← ev197]; exact ⟨by omega, fun hb => ⟨by omega, Or.inl (by omega), Or.inl (by omega)⟩⟩), rfl⟩ (fun n ih112 g H locs hq => ?_)
    obtain ⟨F205, ls, w198, rfl, hl, hP, hS, hI, hfr, hz0, h200, h201, h202, h203, h204, hn⟩ := hq
    obtain ⟨z206, q207, oY208, bz209, bq210⟩ := y_opY hI ha0
    have hz0 : ∀ k, k ∈ ([1, 3, 7, 8, 15, 16, 19, 25, 26, 27, 31, 32] : List Nat) → z206 k = z0 k := fun k hk => (y_fiZ oY208 (s_sub (by decide) hk)).symm.trans (hz0 k hk)
    obtain ⟨f211, o212, b213⟩ := y_op12 hI
    have h201 : (y_c f211 387).toInt = nn := by have q9 := h201; rw [y_atE o212] at q9; exact q9
    have h202 : (∀ j : Int, 0 ≤ j → (j < 8 * nn ∨ 8 * nn + 8 ≤ j) → y_c f211 j = y_c f1 j) := by have q9 := h202; rw [y_atE o212] at q9; exact q9
    obtain ⟨v214, ev214⟩ : ∃ y : Int32, y = z206 5 := ⟨_, rfl⟩
    have h204 : ((y_c f211 (8 * nn + 5)).toInt = -1000000 ∧ (v214.toInt = 0 → (y_c f211 (8 * nn)).toInt = w5.toInt ∧ (w198.toInt = 0 ∨ -4 ≤ (y_c f211 (8 * nn + 2)).toInt) ∧ (w198.toInt ≤ 1 ∨ -4 ≤ (y_c f211 (8 * nn + 3)).toInt))) := by have q9 := h204; rw [y_atE o212, y_fiZ oY208 (k := 5) (by decide), ← ev214] at q9; exact q9
    have hn_214 := hn
    refine lv_iload_n hx hb dX7_lineTold_112 rfl (lv_at hl 2 rfl) ?_
    refine lv_iload_n hx hb dX7_lineTold_113 rfl (lv_at hl 1 rfl) ?_
    have h215 : 0 ≤ w5.toInt ∧ w5.toInt ≤ 15 := ⟨by omega, by omega⟩
    refine va_calli (va_runS (As := [.int w5]) (rest := [.int w198]) ⟨hx, hb, hml, hown, hts⟩ (y_X7_partsOf l dC dI H.size F205 w5 (⟨by omega, by omega⟩)) (cwS 1 hts (ax_gS T_1197 T_1199 T_265 T_1198) rfl rfl rfl (by decide +kernel) ⟨Nat.le_of_ble_eq_true rfl, Nat.le_of_ble_eq_true rfl⟩) ⟨fun a U g mk q => ⟨q.1, s_pc rfl rfl q.2⟩, fun U hU hW => ⟨rfl, s_pw hU hW hP hK hD hN⟩⟩ rfl rfl hl.1 rfl (lv_room (Nat.le_of_ble_eq_true rfl)) dX7_lineTold_114 ⟨Nat.zero_le _, Nat.zero_le _⟩) hS (fun q _ h => h) (fun q h => h) (fun r217 F218 t H1 locs ht hvm hw hB hz1 hk1 hS => ?_)
    obtain ⟨hP, hK1⟩ := hB
    rw [ht] at hP
    generalize H1 = H at hP hS ⊢
    obtain ⟨h219, h221, hG9, h220⟩ := hw
    rw [hG9] at hP
    have h220 : ((r217.toInt = 0 ∧ (w5.toInt = 5 ∨ w5.toInt = 6 ∨ 12 ≤ w5.toInt)) ∨ (r217.toInt = 1 ∧ (w5.toInt = 0 ∨ w5.toInt = 7 ∨ w5.toInt = 9 ∨ w5.toInt = 11)) ∨ (r217.toInt = 2 ∧ ((1 ≤ w5.toInt ∧ w5.toInt ≤ 4) ∨ w5.toInt = 8 ∨ w5.toInt = 10))) := by have q9 := h220; exact q9
    refine lv_icmp_ge (tgt := 137) hx hb dX7_lineTold_117 (by decide) (fun c222 => ?_) (fun c222 => ?_)
    · have c222 := Int32.le_iff_toInt_le.mp c222
      refine lv_iload_n hx hb dX7_lineTold_137 rfl (lv_at hl 1 rfl) ?_
      refine lv_bipush (v := 12) hx hb dX7_lineTold_138 (by decide) ?_
      refine lv_icmp_ne (tgt := 147) hx hb dX7_lineTold_140 (by decide) (fun c223 => ?_) (fun c223 => ?_)
      · have c223 := mt (ax_eq (n := 12) (by decide)).mpr c223
        exact K147 _ _ _ ⟨F205, _, rfl, lv_sub hl [0] rfl, hP, hS, hI, hfr, (fun k hk => (y_fiZ oY208 (s_sub (by decide) hk)).trans (hz0 k hk)), (by rw [y_atE o212]; exact h201), (by rw [y_atE o212]; exact h202), (by rw [y_fiZ oY208 (k := 5) (by decide), ← ev214, y_atE o212]; exact y_l147 ⟨by omega, by omega⟩ h220 (by omega) h204.1 h204.2), (by omega)⟩
      · have c223 := (ax_eq (n := 12) (by decide)).mp c223
        refine lv_aload_n hx hb dX7_lineTold_143 rfl (lv_at hl 0 rfl) ?_
        have ep224_5 := ev214
        refine va_callv (va_runV (As := []) (rest := []) ⟨hx, hb, hml, hown, hts⟩ (y_X7_goTold l dC dI H.size hLK A hA F205 a0 ha0 hI (by rw [y_atE o212]; rw [h201]; exact ⟨by omega, by omega⟩)) (cwV 0 hts (ax_gV T_1268 T_1270 T_1271 T_265 T_1269) rfl rfl rfl (by decide +kernel) ⟨Nat.le_of_ble_eq_true rfl, Nat.le_of_ble_eq_true rfl⟩) ⟨fun a U g mk q => ⟨q.1, s_pc rfl rfl q.2⟩, s_recv hK hP (hLK _ ha0 (by decide)) (ci := 7) rfl oY208, fun U hU hW => ⟨rfl, s_pw hU hW hP hK hD hN⟩⟩ rfl rfl hl.1 rfl (lv_room (Nat.le_of_ble_eq_true rfl)) dX7_lineTold_144 ⟨Nat.zero_le _, Nat.zero_le _⟩) hS (fun q _ h => h) (fun q h => h) (fun F225 t H1 locs ht hvm hw hB hz1 hk1 hS => ?_)
        obtain ⟨hP, hK1⟩ := hB
        rw [ht] at hP
        generalize H1 = H at hP hS ⊢
        obtain ⟨h226, h228, hI, hfr1, hzf, h227⟩ := hw
        obtain ⟨z229, q230, oY231, bz232, bq233⟩ := y_opY hI ha0
        have hzf : ∀ k, k ∈ ([1, 3, 7, 8, 15, 16, 19, 25, 26, 27, 31, 32] : List Nat) → z229 k = z206 k := fun k hk => by have q9 := hzf k hk; rw [y_fiZ oY231 (s_sub (by decide) hk), y_fiZ oY208 (s_sub (by decide) hk)] at q9; exact q9
        have hz0 : ∀ k, k ∈ ([1, 3, 7, 8, 15, 16, 19, 25, 26, 27, 31, 32] : List Nat) → z229 k = z0 k := fun k hk => (hzf k (s_sub (by decide) hk)).trans (hz0 k hk)
        have hfr : ∀ b, K b ∉ [9, 62, 64] → F225 b = F b := fun b hb9 => (hfr1 b (fun q => hb9 (s_sub (by decide) q))).trans (hfr b hb9)
        obtain ⟨v234, ev234⟩ : ∃ y : Int32, y = z229 5 := ⟨_, rfl⟩
        obtain ⟨f235, o236, b237⟩ := y_op12 hI
        have h227 : ((v214.toInt = 0 ∨ ¬ v234.toInt = 0) ∧ (∀ j : Int, 0 ≤ j → (j < 8 * (y_c f211 387).toInt ∨ 8 * (y_c f211 387).toInt + 8 ≤ j) → y_c f235 j = y_c f211 j) ∧ (y_c f235 (8 * (y_c f211 387).toInt)).toInt = (y_c f211 (8 * (y_c f211 387).toInt)).toInt ∧ (v234.toInt = 0 → (y_c f235 (8 * (y_c f211 387).toInt + 5)).toInt = -1000000 ∨ (-4 ≤ (y_c f235 (8 * (y_c f211 387).toInt + 2)).toInt ∧ -4 ≤ (y_c f235 (8 * (y_c f211 387).toInt + 3)).toInt))) := by have q9 := h227; rw [y_fiZ oY208 (k := 5) (by decide), ← ep224_5, y_fiZ oY231 (k := 5) (by decide), ← ev234, y_atE o212, y_atE o236] at q9; exact q9
        rw [h201] at h227
        obtain ⟨hg1, hg2, hg3, hg4⟩ := h227
        have hn238 : (y_c f235 387).toInt = nn := by rw [hg2 387 (by omega) (by omega)]; exact h201
        have hfr239 : ∀ j : Int, 0 ≤ j → (j < 8 * nn ∨ 8 * nn + 8 ≤ j) → y_c f235 j = y_c f1 j := fun j h0 h1 => (hg2 j h0 h1).trans (h202 j h0 h1)
        exact K147 _ _ _ ⟨F225, _, rfl, lv_sub hl [0] rfl, hP, hS, hI, hfr, (fun k hk => (y_fiZ oY231 (s_sub (by decide) hk)).trans (hz0 k hk)), (by rw [y_atE o236]; exact hn238), (by rw [y_atE o236]; exact hfr239), (by rw [y_fiZ oY231 (k := 5) (by decide), ← ev234, y_atE o236]; exact y_l147g (by omega) hg1 h204.2 hg3 hg4), (by omega)⟩
    · have c222 := mt Int32.le_iff_toInt_le.mpr c222
      refine lv_aload_n hx hb dX7_lineTold_120 rfl (lv_at hl 0 rfl) ?_
      refine lv_iconst (v := 2) hx hb dX7_lineTold_121 (by decide) ?_
      refine lv_iload_n hx hb dX7_lineTold_122 rfl (lv_at hl 2 rfl) ?_
      refine lv_iadd hx hb dX7_lineTold_123 ?_
      refine lv_topi (fun v240 ev240 => ?_)
      have qv240 : v240.toInt = 2 + w198.toInt := by rw [ev240]; exact th_add (by decide) rfl ⟨by omega, by omega⟩
      refine lv_aload_n hx hb dX7_lineTold_124 rfl (lv_at hl 0 rfl) ?_
      have ep241_5 := ev214
      refine va_calli (va_runV (As := []) (rest := [.int v240, .ref a0]) ⟨hx, hb, hml, hown, hts⟩ (y_X7_partTold l dC dI H.size hLK A hA F205 a0 ha0 hI) (cwV 0 hts (ax_gV T_1119 T_1121 T_1122 T_265 T_1120) rfl rfl rfl (by decide +kernel) ⟨Nat.le_of_ble_eq_true rfl, Nat.le_of_ble_eq_true rfl⟩) ⟨fun a U g mk q => ⟨q.1, s_pc rfl rfl q.2⟩, s_recv hK hP (hLK _ ha0 (by decide)) (ci := 7) rfl oY208, fun U hU hW => ⟨rfl, s_pw hU hW hP hK hD hN⟩⟩ rfl rfl hl.1 rfl (lv_room (Nat.le_of_ble_eq_true rfl)) dX7_lineTold_125 ⟨Nat.zero_le _, Nat.zero_le _⟩) hS (fun q _ h => h) (fun q h => h) (fun r242 F243 t H1 locs ht hvm hw hB hz1 hk1 hS => ?_)
      obtain ⟨hP, hK1⟩ := hB
      rw [ht] at hP
      generalize H1 = H at hP hS ⊢
      obtain ⟨h244, h246, hI, hfr1, hzf, h245⟩ := hw
      have o247 : F243 (A 12) = .inl (cs 0, 400, .inl f211) := (hfr1 _ (by rw [(y_k12 hA)]; decide)).trans o212
      obtain ⟨z248, q249, oY250, bz251, bq252⟩ := y_opY hI ha0
      have hzf : ∀ k, k ∈ ([1, 3, 7, 8, 11, 15, 16, 19, 25, 26, 27, 31, 32] : List Nat) → z248 k = z206 k := fun k hk => by have q9 := hzf k hk; rw [y_fiZ oY250 (s_sub (by decide) hk), y_fiZ oY208 (s_sub (by decide) hk)] at q9; exact q9
      have hz0 : ∀ k, k ∈ ([1, 3, 7, 8, 15, 16, 19, 25, 26, 27, 31, 32] : List Nat) → z248 k = z0 k := fun k hk => (hzf k (s_sub (by decide) hk)).trans (hz0 k hk)
      have hfr : ∀ b, K b ∉ [9, 62, 64] → F243 b = F b := fun b hb9 => (hfr1 b (fun q => hb9 (s_sub (by decide) q))).trans (hfr b hb9)
      obtain ⟨v253, ev253⟩ : ∃ y : Int32, y = z248 5 := ⟨_, rfl⟩
      have h245 : ((v214.toInt = 0 ∨ ¬ v253.toInt = 0) ∧ (v253.toInt = 0 → -4 ≤ r242.toInt ∧ r242.toInt ≤ 999)) := by have q9 := h245; rw [y_fiZ oY208 (k := 5) (by decide), ← ep241_5, y_fiZ oY250 (k := 5) (by decide), ← ev253] at q9; exact q9
      have ep254_5 := ev253
      refine va_callv (va_runV (As := [.int v240, .int r242]) (rest := []) ⟨hx, hb, hml, hown, hts⟩ (y_X7_lays l dC dI H.size hLK A hA F243 a0 v240 r242 ha0 (⟨by omega, by omega⟩) hI) (cwV 2 hts (ax_gV T_1115 T_1117 T_1118 T_265 T_1116) rfl rfl rfl (by decide +kernel) ⟨Nat.le_of_ble_eq_true rfl, Nat.le_of_ble_eq_true rfl⟩) ⟨fun a U g mk q => ⟨q.1, s_pc rfl rfl q.2⟩, s_recv hK hP (hLK _ ha0 (by decide)) (ci := 7) rfl oY250, fun U hU hW => ⟨rfl, s_pw hU hW hP hK hD hN⟩⟩ rfl rfl hl.1 rfl (lv_room (Nat.le_of_ble_eq_true rfl)) dX7_lineTold_128 ⟨Nat.zero_le _, Nat.zero_le _⟩) hS (fun q _ h => h) (fun q h => h) (fun F255 t H1 locs ht hvm hw hB hz1 hk1 hS => ?_)
      obtain ⟨hP, hK1⟩ := hB
      rw [ht] at hP
      generalize H1 = H at hP hS ⊢
      obtain ⟨h256, h258, hI, hfr1, hzf, h257⟩ := hw
      have oY259 : F255 a0 = .inr (7, y_fl A z248 q249) := (hfr1 _ (by rw [ha0]; decide)).trans oY250
      have hfr : ∀ b, K b ∉ [9, 62, 64] → F255 b = F b := fun b hb9 => (hfr1 b (fun q => hb9 (s_sub (by decide) q))).trans (hfr b hb9)
      obtain ⟨f260, o261, b262⟩ := y_op12 hI
      have h257 : ((∀ j : Int, 0 ≤ j → j ≠ 8 * (y_c f211 387).toInt + v240.toInt → y_c f260 j = y_c f211 j) ∧ (v253.toInt = 0 → y_c f260 (8 * (y_c f211 387).toInt + v240.toInt) = r242)) := by have q9 := h257; rw [y_atE o247, y_atE o261, y_fiZ oY250 (k := 5) (by decide), ← ep254_5] at q9; exact q9
      rw [h201] at h257
      have hn263 : (y_c f260 387).toInt = nn := by rw [h257.1 387 (by omega) (by omega)]; exact h201
      have hfr264 : ∀ j : Int, 0 ≤ j → (j < 8 * nn ∨ 8 * nn + 8 ≤ j) → y_c f260 j = y_c f1 j := fun j h0 h1 => (h257.1 j h0 (by omega)).trans (h202 j h0 h1)
      have h265 : (y_c f260 (8 * nn)).toInt = (y_c f211 (8 * nn)).toInt := (congrArg Int32.toInt (h257.1 _ (by omega) (by omega)))
      have h266 : v240.toInt = 2 → v253.toInt = 0 → (y_c f260 (8 * nn + 2)).toInt = r242.toInt := fun h8 => (fun h9 => (congrArg (fun i => (y_c f260 i).toInt) (show 8 * nn + 2 = 8 * nn + v240.toInt by omega)).trans ((congrArg Int32.toInt (h257.2 h9)).trans rfl))
      have h267 : v240.toInt ≠ 2 → (y_c f260 (8 * nn + 2)).toInt = (y_c f211 (8 * nn + 2)).toInt := fun h8 => (congrArg Int32.toInt (h257.1 _ (by omega) (by omega)))
      have h268 : v240.toInt = 3 → v253.toInt = 0 → (y_c f260 (8 * nn + 3)).toInt = r242.toInt := fun h8 => (fun h9 => (congrArg (fun i => (y_c f260 i).toInt) (show 8 * nn + 3 = 8 * nn + v240.toInt by omega)).trans ((congrArg Int32.toInt (h257.2 h9)).trans rfl))
      have h269 : v240.toInt ≠ 3 → (y_c f260 (8 * nn + 3)).toInt = (y_c f211 (8 * nn + 3)).toInt := fun h8 => (congrArg Int32.toInt (h257.1 _ (by omega) (by omega)))
      have h270 : (y_c f260 (8 * nn + 5)).toInt = (y_c f211 (8 * nn + 5)).toInt := (congrArg Int32.toInt (h257.1 _ (by omega) (by omega)))
      obtain ⟨v271, ev271⟩ : ∃ y : Int32, w198 + 1 = y := ⟨_, rfl⟩
      have qv271 : v271.toInt = w198.toInt + 1 := by rw [← ev271]; exact th_add rfl (by decide) ⟨by omega, by omega⟩
      refine lv_iinc (v := v271) (lv' := [(3, .int v271), (0, .ref a0), (2, .int w5)]) hx hb dX7_lineTold_131 hl (k := 2) rfl ev271 (by decide) rfl (fun ls hl => ?_)
      refine lv_goto (tgt := 112) hx hb dX7_lineTold_134 (by decide) ?_
      exact ih112 _ _ _ _ (by omega) ⟨F255, _, v271, rfl, lv_sub hl [1, 2, 0] rfl, hP, hS, hI, hfr, (fun k hk => (y_fiZ oY259 (s_sub (by decide) hk)).trans (hz0 k hk)), ⟨by omega, by omega⟩, (by rw [y_atE o261]; exact hn263), (by rw [y_atE o261]; exact hfr264), (by omega), (by rw [y_atE o261, y_fiZ oY259 (k := 5) (by decide), ← ev253]; exact (by rw [show v271.toInt = w198.toInt + 1 by omega]; exact y_l112 h245.1 h204.2 h245.2 h265 h270 h266 h267 h268 h269 (by omega) ⟨by omega, by omega⟩ h204.1)), rfl⟩
  · intro g H locs hq
    obtain ⟨F276, ls, rfl, hl, hP, hS, hI, hfr, hz0, h272, h273, h274, h275⟩ := hq
    obtain ⟨z277, q278, oY279, bz280, bq281⟩ := y_opY hI ha0
    have hz0 : ∀ k, k ∈ ([1, 3, 7, 8, 15, 16, 19, 25, 26, 27, 31, 32] : List Nat) → z277 k = z0 k := fun k hk => (y_fiZ oY279 (s_sub (by decide) hk)).symm.trans (hz0 k hk)
    obtain ⟨f282, o283, b284⟩ := y_op12 hI
    have h272 : (y_c f282 387).toInt = nn := by have q9 := h272; rw [y_atE o283] at q9; exact q9
    have h273 : (∀ j : Int, 0 ≤ j → (j < 8 * nn ∨ 8 * nn + 8 ≤ j) → y_c f282 j = y_c f1 j) := by have q9 := h273; rw [y_atE o283] at q9; exact q9
    obtain ⟨v285, ev285⟩ : ∃ y : Int32, y = z277 5 := ⟨_, rfl⟩
    have h274 : (v285.toInt = 0 → (0 ≤ (y_c f282 (8 * nn)).toInt ∧ (y_c f282 (8 * nn)).toInt ≤ 15) ∧ (((y_c f282 (8 * nn)).toInt = 5 ∨ (y_c f282 (8 * nn)).toInt = 6 ∨ 12 ≤ (y_c f282 (8 * nn)).toInt) ∨ -4 ≤ (y_c f282 (8 * nn + 2)).toInt) ∧ (((y_c f282 (8 * nn)).toInt = 5 ∨ (y_c f282 (8 * nn)).toInt = 6 ∨ 12 ≤ (y_c f282 (8 * nn)).toInt ∨ (y_c f282 (8 * nn)).toInt = 0 ∨ (y_c f282 (8 * nn)).toInt = 7 ∨ (y_c f282 (8 * nn)).toInt = 9 ∨ (y_c f282 (8 * nn)).toInt = 11) ∨ -4 ≤ (y_c f282 (8 * nn + 3)).toInt) ∧ ((y_c f282 (8 * nn)).toInt ≠ 12 ∨ (y_c f282 (8 * nn + 5)).toInt = -1000000 ∨ (-4 ≤ (y_c f282 (8 * nn + 2)).toInt ∧ -4 ≤ (y_c f282 (8 * nn + 3)).toInt))) := by have q9 := h274; rw [y_fiZ oY279 (k := 5) (by decide), ← ev285, y_atE o283] at q9; exact q9
    refine lv_aload_n hx hb dX7_lineTold_147 rfl (lv_at hl 0 rfl) ?_
    refine th_get (D := (dC, dI)) (ci := 7) (v := .ref (A 12)) (C := RX7) (T := TX7) (N := 34) hx hb hts inX7 hown hK hP (hLK _ ha0 (by decide)) oY279 rfl 12 (by decide) (hts _ T_245) (fun _ h9 => h9) rfl dX7_lineTold_148 ?_
    refine lv_sipush (v := 387) hx hb dX7_lineTold_151 (by decide) ?_
    refine lv_dup2_11 hx hb dX7_lineTold_154 rfl rfl ?_
    refine th_iald hx hb hK hP (hLK _ (y_k12 hA) (by decide)) 0 o283 rfl (ax_in (by decide)) dX7_lineTold_155 ?_
    refine lv_topi (fun v286 ev286 => ?_)
    have qv286 : 0 ≤ v286.toInt ∧ v286.toInt ≤ 40 := by rw [ev286]; exact b284
    have h287 : 0 ≤ v286.toInt ∧ v286.toInt ≤ 39 := ⟨by omega, by have q9 : v286 = (y_c f282 387) := ev286; rw [q9]; have q8 := h272; omega⟩
    have h288 : v286.toInt = nn := by rw [show v286 = y_c f282 387 from ev286]; exact h272
    refine lv_iconst (v := 1) hx hb dX7_lineTold_156 (by decide) ?_
    refine lv_iadd hx hb dX7_lineTold_157 ?_
    refine lv_topi (fun v289 ev289 => ?_)
    have qv289 : v289.toInt = v286.toInt + 1 := by rw [ev289]; exact th_add rfl (by decide) ⟨by omega, by omega⟩
    refine th_iast hx hb hK hP hD hS (hLK _ (y_k12 hA) (by decide)) 0 o283 rfl (ax_in (by decide)) dX7_lineTold_158 (fun H locs hP hS => ?_)
    obtain ⟨f290, u291⟩ : ∃ g : Nat → Int32, g = upd f282 (387 : Int32).toNatClampNeg v289 := ⟨_, rfl⟩
    rw [← u291] at hP
    have b292 : y_bd 12 f290 := by rw [u291]; exact th_updJ (P := fun y => 0 ≤ y.toInt ∧ y.toInt ≤ 40) b284 (fun q => ⟨by omega, by omega⟩)
    have hP : va_P (dC, dI) vwCl (va_pl L (va_up F276 (A 12) (.inl (cs 0, 400, .inl f290)))) H := hP
    obtain ⟨F293, hF294⟩ : ∃ G : Nat → va_E, G = va_up F276 (A 12) (.inl (cs 0, 400, .inl f290)) := ⟨_, rfl⟩
    rw [← hF294] at hP
    have hI : y_I K cs A F293 := by rw [hF294]; exact y_clA (i := 12) hA hI (by decide) b292
    have hfr : ∀ b, K b ∉ [9, 62, 64] → F293 b = F b := by rw [hF294]; exact s_fr hfr (y_k12 hA) (by decide)
    have oY295 : F293 a0 = .inr (7, y_fl A z277 q278) := by rw [hF294]; exact th_ne (th_kd ha0 (y_k12 hA) (by decide)) oY279
    have o296 : F293 (A 12) = .inl (cs 0, 400, .inl f290) := by rw [hF294]; exact th_up
    have u297 : ∀ j : Int, 0 ≤ j → y_c f290 j = if j = 387 then v289 else y_c f282 j := by rw [u291]; exact y_cu (by decide) (by decide)
    exact W.vret hx hb hr (fun t ht hW => ⟨⟨F293, rfl, ⟨trivial, trivial, hI, hfr, fun k hk => (y_fiZ oY295 (s_sub (by decide) hk)).trans ((hz0 k hk).trans (y_fiZ oY0 (s_sub (by decide) hk)).symm), (by rw [y_fiZ oY0 (k := 5) (by decide), ← eF_5, y_fiZ oY295 (k := 5) (by decide), ← ev285, y_atE o2, y_atE o296]; rw [← hnn]; exact ⟨by omega, (fun j h0 h1 => by rw [u297 j h0, if_neg (by omega)]; exact h273 j h0 (by omega)), (fun j h0 h1 => by rw [u297 j (by omega), if_neg h1]; exact h273 j (by omega) (by omega)), fun q => ⟨by rw [u297 387 (by omega), if_pos rfl]; omega, y_rgC ⟨by rw [u297 _ (by omega), if_neg (by omega)], by rw [u297 _ (by omega), if_neg (by omega)], by rw [u297 _ (by omega), if_neg (by omega)], by rw [u297 _ (by omega), if_neg (by omega)]⟩ (by unfold y_rg; exact ⟨by omega, by omega, by omega, by omega⟩)⟩⟩)⟩, by rw [ht]; exact hP, va_K.moved hW.alike hK⟩, hS.F ht⟩) hS.2.2 dX7_lineTold_159

set_option maxHeartbeats 4000000 in
set_option maxRecDepth 100000 in
theorem y_X7_statementTold (l : Launch) (dC : Nat → ClassId) (dI : Nat → Nat → Nat) (sz : Nat) {L : List Nat} {K : Nat → Nat} {cs : Nat → ClassId} (hLK : ∀ a {k : Nat}, K a = k → k ≠ 0 → a ∈ L) (A : Nat → Nat) (hA : y_A K A) (F : Nat → va_E) (a0 : Nat) (ha0 : K a0 = 9) (hI : y_I K cs A F) (hst : (0 ≤ (y_fi F a0 16).toInt ∧ (y_fi F a0 16).toInt ≤ 80)) : Met l yX7_statementTold (Cond.code yX7_statementTold cX7_statementTold 5 none :: T0) ({ frames := 8, cells := 0, slots := 0, locals := 174 }) (va_Pc [.ref a0] (s_W dC dI sz L F [(cs 0, .int), (cs 1, .byte), (cs 2, .long), (cs 3, .object RX5), (cs 4, .object RX4), (cs 5, .array .int), (cs 6, .char), (cs 7, .boolean)])) (va_Qv (fun (G : Nat → va_E) => True ∧ True ∧ y_I K cs A G ∧ (∀ b, K b ∉ [9, 62, 64] → G b = F b) ∧ (∀ k, k ∈ ([1, 3, 7, 8, 15, 19, 25, 26, 27, 31, 32] : List Nat) → y_fi G a0 k = y_fi F a0 k) ∧ (((y_fi F a0 5).toInt = 0 ∨ ¬ (y_fi G a0 5).toInt = 0) ∧ (((y_fi F a0 5).toInt = 0 → y_DS (y_at F (A 12))) → (y_fi G a0 5).toInt = 0 → y_DS (y_at G (A 12))) ∧ (y_fi G a0 16).toInt = (y_fi F a0 16).toInt + 1 ∧ ((y_fi F a0 16).toInt = 80 → ¬ (y_fi G a0 5).toInt = 0))) (fun (G : Nat → va_E) (t : State) => va_P (dC, dI) vwCl (va_pl L G) t.heap ∧ va_K (dC, dI) vwCl [(cs 0, .int), (cs 1, .byte), (cs 2, .long), (cs 3, .object RX5), (cs 4, .object RX4), (cs 5, .array .int), (cs 6, .char), (cs 7, .boolean)] t) (fun q => q ∈ L)) 0 0 (fun q => q ∈ L) := by
  refine Met.ofW (cc := cX7_statementTold) (maxL := 5) (ret := none) (by decide) rfl ?_
  intro p e s m args below meth c s₁ B hml hv
  obtain ⟨rfl, hsz, hP, hK, hD, hN⟩ := hv
  have hx := B.exec
  have hb := B.bytes
  have hr := B.returns
  have hts : ∀ w ∈ T0, w.before _ s = true := fun w h => atoms_spec (ws := Cond.code yX7_statementTold cX7_statementTold 5 none :: T0) B.pre w (List.mem_cons_of_mem _ h)
  have hown : s.vm.findClass RX7 = some m.cls := findClass_of_methodNamed B.named
  have hlocks := B.notSynchronized
  have hS : va_S (fun q => q ∈ L) s.heap s.heap [] := va_S.rf
  have hfr : ∀ b, K b ∉ [9, 62, 64] → F b = F b := fun _ _ => rfl
  have hl := lv_entry ([.ref a0]) (n := 5) (Nat.le_of_ble_eq_true rfl)
  rw [lg_entry_eq]
  generalize (lg_sl ([.ref a0]) ++ List.replicate (5 - (lg_sl ([.ref a0])).length) Slot.unset).toArray = ls at hl ⊢
  have hl : lv_has ls 5 [(0, .ref a0)] := hl
  refine s_gen hP hS (fun H locs hP hS => ?_)
  obtain ⟨z0, q0, oY0, bz0, bq0⟩ := y_opY hI ha0
  have hz0 : ∀ k, k ∈ ([1, 3, 7, 8, 15, 19, 25, 26, 27, 31, 32] : List Nat) → z0 k = z0 k := fun _ _ => rfl
  obtain ⟨f1, o2, b3⟩ := y_op12 hI
  obtain ⟨v4, ev4⟩ : ∃ y : Int32, y = z0 5 := ⟨_, rfl⟩
  have eF_5 := ev4
  obtain ⟨v5, ev5⟩ : ∃ y : Int32, y = z0 16 := ⟨_, rfl⟩
  have eF_16 := ev5
  have hst : (0 ≤ v5.toInt ∧ v5.toInt ≤ 80) := by have q9 := hst; rw [y_fiZ oY0 (k := 16) (by decide), ← ev5] at q9; exact q9
  have hnb : 0 ≤ (y_c f1 387).toInt ∧ (y_c f1 387).toInt ≤ 40 := b3
  have e0_v4 := ev4
  have e0_v5 := ev5
  refine th_join (fun g H locs => ∃ (G : Nat → va_E) (ls : Array Slot), g = F0 m 214 ls [] ∧ lv_has ls 5 [(0, .ref a0)] ∧ va_P (dC, dI) vwCl (va_pl L G) H ∧ va_S (fun q => q ∈ L) s.heap H locs ∧ y_I K cs A G ∧ (∀ b, K b ∉ [9, 62, 64] → G b = F b) ∧ (∀ k, k ∈ ([1, 3, 7, 8, 15, 19, 25, 26, 27, 31, 32] : List Nat) → y_fi G a0 k = z0 k) ∧ ((v4.toInt = 0 → y_DS f1) → (y_fi G a0 5).toInt = 0 → y_DS (y_at G (A 12))) ∧ ((v4.toInt = 0 ∨ ¬ (y_fi G a0 5).toInt = 0) ∧ (v5.toInt = 80 → ¬ (y_fi G a0 5).toInt = 0) ∧ (y_fi G a0 16).toInt = v5.toInt)) (fun K214 => ?_) ?_
  refine th_join (fun g H locs => ∃ (G : Nat → va_E) (ls : Array Slot) (w6 : Int32), g = F0 m 208 ls [] ∧ lv_has ls 5 [(0, .ref a0), (1, .int w6)] ∧ va_P (dC, dI) vwCl (va_pl L G) H ∧ va_S (fun q => q ∈ L) s.heap H locs ∧ y_I K cs A G ∧ (∀ b, K b ∉ [9, 62, 64] → G b = F b) ∧ (∀ k, k ∈ ([1, 3, 7, 8, 15, 19, 25, 26, 27, 31, 32] : List Nat) → y_fi G a0 k = z0 k) ∧ (0 ≤ w6.toInt ∧ w6.toInt ≤ 1600) ∧ (y_at G (A 12)) = f1 ∧ ((v4.toInt = 0 ∨ ¬ (y_fi G a0 5).toInt = 0) ∧ (v5.toInt = 80 → ¬ (y_fi G a0 5).toInt = 0) ∧ (y_fi G a0 16).toInt = v5.toInt)) (fun K208 => ?_) ?_
  refine th_join (fun g H locs => ∃ (G : Nat → va_E) (ls : Array Slot) (w7 : Int32) (w8 : Int32), g = F0 m 190 ls [] ∧ lv_has ls 5 [(0, .ref a0), (1, .int w7), (2, .int w8)] ∧ va_P (dC, dI) vwCl (va_pl L G) H ∧ va_S (fun q => q ∈ L) s.heap H locs ∧ y_I K cs A G ∧ (∀ b, K b ∉ [9, 62, 64] → G b = F b) ∧ (∀ k, k ∈ ([1, 3, 7, 8, 15, 19, 25, 26, 27, 31, 32] : List Nat) → y_fi G a0 k = z0 k) ∧ (0 ≤ w7.toInt ∧ w7.toInt ≤ 1600) ∧ True ∧ (y_at G (A 12)) = f1 ∧ ((v4.toInt = 0 ∨ ¬ (y_fi G a0 5).toInt = 0) ∧ (v5.toInt = 80 → ¬ (y_fi G a0 5).toInt = 0) ∧ (y_fi G a0 16).toInt = v5.toInt)) (fun K190 => ?_) ?_
  refine th_join (fun g H locs => ∃ (G : Nat → va_E) (ls : Array Slot) (w9 : Int32), g = F0 m 20 ls [] ∧ lv_has ls 5 [(0, .ref a0), (1, .int w9)] ∧ va_P (dC, dI) vwCl (va_pl L G) H ∧ va_S (fun q => q ∈ L) s.heap H locs ∧ y_I K cs A G ∧ (∀ b, K b ∉ [9, 62, 64] → G b = F b) ∧ (∀ k, k ∈ ([1, 3, 7, 8, 15, 19, 25, 26, 27, 31, 32] : List Nat) → y_fi G a0 k = z0 k) ∧ (0 ≤ w9.toInt ∧ w9.toInt ≤ 1600) ∧ (y_at G (A 12)) = f1 ∧ ((v4.toInt = 0 ∨ ¬ (y_fi G a0 5).toInt = 0) ∧ (v5.toInt = 80 → ¬ (y_fi G a0 5).toInt = 0) ∧ (y_fi G a0 16).toInt = v5.toInt)) (fun K20 => ?_) ?_
  · refine lv_aload_n hx hb dX7_statementTold_0 rfl (lv_at hl 0 rfl) ?_
    refine th_get (D := (dC, dI)) (ci := 7) (v := .int (z0 2)) (C := RX7) (T := TX7) (N := 34) hx hb hts inX7 hown hK hP (hLK _ ha0 (by decide)) oY0 rfl 2 (by decide) (hts _ T_272) (fun _ h9 => h9) rfl dX7_statementTold_1 ?_
    refine lv_topi (fun v10 ev10 => ?_)
    have qv10 : 0 ≤ v10.toInt ∧ v10.toInt ≤ 1600 := by rw [ev10]; exact y_bY2 bz0
    refine lv_istore_n (lv' := [(1, .int v10), (0, .ref a0)]) hx hb dX7_statementTold_4 rfl hl (by decide) rfl (fun ls hl => ?_)
    refine lv_aload_n hx hb dX7_statementTold_5 rfl (lv_at hl 1 rfl) ?_
    refine th_get (D := (dC, dI)) (ci := 7) (v := .int (z0 16)) (C := RX7) (T := TX7) (N := 34) hx hb hts inX7 hown hK hP (hLK _ ha0 (by decide)) oY0 rfl 16 (by decide) (hts _ T_306) (fun _ h9 => h9) rfl dX7_statementTold_6 ?_
    refine ax_eqi (y := v5) ev5.symm ?_
    refine lv_bipush (v := 80) hx hb dX7_statementTold_9 (by decide) ?_
    refine lv_icmp_ne (tgt := 20) hx hb dX7_statementTold_11 (by decide) (fun c11 => ?_) (fun c11 => ?_)
    · have c11 := mt (ax_eq (n := 80) (by decide)).mpr c11
      exact K20 _ _ _ ⟨F, _, v10, rfl, lv_sub hl [1, 0] rfl, hP, hS, hI, hfr, (fun k hk => (y_fiZ oY0 (s_sub (by decide) hk)).trans (hz0 k hk)), ⟨by omega, by omega⟩, (by first | (rw [y_atE o2]; exact rfl) | rw [y_atE o2]), (by first | (rw [y_fiZ oY0 (k := 5) (by decide), ← ev4, y_fiZ oY0 (k := 16) (by decide), ← ev5]; omega) | rw [y_fiZ oY0 (k := 5) (by decide), ← ev4, y_fiZ oY0 (k := 16) (by decide), ← ev5])⟩
    · have c11 := (ax_eq (n := 80) (by decide)).mp c11
      refine lv_aload_n hx hb dX7_statementTold_14 rfl (lv_at hl 1 rfl) ?_
      refine lv_iconst (v := 5) hx hb dX7_statementTold_15 (by decide) ?_
      refine lv_iload_n hx hb dX7_statementTold_16 rfl (lv_at hl 0 rfl) ?_
      refine va_callv (va_runV (As := [.int 5, .int v10]) (rest := []) ⟨hx, hb, hml, hown, hts⟩ (y_X7_fail l dC dI H.size hLK A hA F a0 5 v10 ha0 (by decide) hI) (cwV 2 hts (ax_gV T_290 T_291 T_292 T_265 T_27) rfl rfl rfl (by decide +kernel) ⟨Nat.le_of_ble_eq_true rfl, Nat.le_of_ble_eq_true rfl⟩) ⟨fun a U g mk q => ⟨q.1, s_pc rfl rfl q.2⟩, s_recv hK hP (hLK _ ha0 (by decide)) (ci := 7) rfl oY0, fun U hU hW => ⟨rfl, s_pw hU hW hP hK hD hN⟩⟩ rfl rfl hl.1 rfl (lv_room (Nat.le_of_ble_eq_true rfl)) dX7_statementTold_17 ⟨Nat.zero_le _, Nat.zero_le _⟩) hS (fun q _ h => h) (fun q h => h) (fun F13 t H1 locs ht hvm hw hB hz1 hk1 hS => ?_)
      obtain ⟨hP, hK1⟩ := hB
      rw [ht] at hP
      generalize H1 = H at hP hS ⊢
      obtain ⟨h14, h16, hI, hfr1, hzf, h15⟩ := hw
      have o17 : F13 (A 12) = .inl (cs 0, 400, .inl f1) := (hfr1 _ (by rw [(y_k12 hA)]; decide)).trans o2
      obtain ⟨z18, q19, oY20, bz21, bq22⟩ := y_opY hI ha0
      have hzf : ∀ k, k ∈ ([1, 2, 3, 4, 7, 8, 11, 15, 16, 19, 25, 26, 27, 31, 32] : List Nat) → z18 k = z0 k := fun k hk => by have q9 := hzf k hk; rw [y_fiZ oY20 (s_sub (by decide) hk), y_fiZ oY0 (s_sub (by decide) hk)] at q9; exact q9
      have hz0 : ∀ k, k ∈ ([1, 3, 7, 8, 15, 19, 25, 26, 27, 31, 32] : List Nat) → z18 k = z0 k := fun k hk => (hzf k (s_sub (by decide) hk)).trans (hz0 k hk)
      have ev5 : v5 = z18 16 := ev5.trans (hzf 16 (by decide)).symm
      have ev10 : v10 = z18 2 := ev10.trans (hzf 2 (by decide)).symm
      have hfr : ∀ b, K b ∉ [9, 62, 64] → F13 b = F b := fun b hb9 => (hfr1 b (fun q => hb9 (s_sub (by decide) q))).trans (hfr b hb9)
      obtain ⟨v23, ev23⟩ : ∃ y : Int32, y = z18 5 := ⟨_, rfl⟩
      have h15 : (¬ v23.toInt = 0) := by have q9 := h15; rw [y_fiZ oY20 (k := 5) (by decide), ← ev23] at q9; exact q9
      exact K20 _ _ _ ⟨F13, _, v10, rfl, lv_sub hl [1, 0] rfl, hP, hS, hI, hfr, (fun k hk => (y_fiZ oY20 (s_sub (by decide) hk)).trans (hz0 k hk)), ⟨by omega, by omega⟩, (by first | (rw [y_atE o17]; exact rfl) | rw [y_atE o17]), (by first | (rw [y_fiZ oY20 (k := 5) (by decide), ← ev23, y_fiZ oY20 (k := 16) (by decide), ← ev5]; omega) | rw [y_fiZ oY20 (k := 5) (by decide), ← ev23, y_fiZ oY20 (k := 16) (by decide), ← ev5])⟩
  · intro g H locs hq
    obtain ⟨F27, ls, w9, rfl, hl, hP, hS, hI, hfr, hz0, h24, h25, h26⟩ := hq
    obtain ⟨z28, q29, oY30, bz31, bq32⟩ := y_opY hI ha0
    have hz0 : ∀ k, k ∈ ([1, 3, 7, 8, 15, 19, 25, 26, 27, 31, 32] : List Nat) → z28 k = z0 k := fun k hk => (y_fiZ oY30 (s_sub (by decide) hk)).symm.trans (hz0 k hk)
    obtain ⟨f33, o34, b35⟩ := y_op12 hI
    have h25 : f33 = f1 := by have q9 := h25; rw [y_atE o34] at q9; exact q9
    obtain ⟨v36, ev36⟩ : ∃ y : Int32, y = z28 5 := ⟨_, rfl⟩
    obtain ⟨v37, ev37⟩ : ∃ y : Int32, y = z28 16 := ⟨_, rfl⟩
    have h26 : ((v4.toInt = 0 ∨ ¬ v36.toInt = 0) ∧ (v5.toInt = 80 → ¬ v36.toInt = 0) ∧ v37.toInt = v5.toInt) := by have q9 := h26; rw [y_fiZ oY30 (k := 5) (by decide), ← ev36, y_fiZ oY30 (k := 16) (by decide), ← ev37] at q9; exact q9
    refine lv_aload_n hx hb dX7_statementTold_20 rfl (lv_at hl 0 rfl) ?_
    refine va_calli (va_runV (As := []) (rest := []) ⟨hx, hb, hml, hown, hts⟩ (y_X7_ownHere l dC dI H.size hLK A hA F27 a0 ha0 hI) (cwV 0 hts (ax_gV T_283 T_284 T_285 T_265 T_25) rfl rfl rfl (by decide +kernel) ⟨Nat.le_of_ble_eq_true rfl, Nat.le_of_ble_eq_true rfl⟩) ⟨fun a U g mk q => ⟨q.1, s_pc rfl rfl q.2⟩, s_recv hK hP (hLK _ ha0 (by decide)) (ci := 7) rfl oY30, fun U hU hW => ⟨rfl, s_pw hU hW hP hK hD hN⟩⟩ rfl rfl hl.1 rfl (lv_room (Nat.le_of_ble_eq_true rfl)) dX7_statementTold_21 ⟨Nat.zero_le _, Nat.zero_le _⟩) hS (fun q _ h => h) (fun q h => h) (fun r39 F40 t H1 locs ht hvm hw hB hz1 hk1 hS => ?_)
    obtain ⟨hP, hK1⟩ := hB
    rw [ht] at hP
    generalize H1 = H at hP hS ⊢
    obtain ⟨h41, h43, hI, hfr1, hzf, h42⟩ := hw
    have o44 : F40 (A 12) = .inl (cs 0, 400, .inl f33) := (hfr1 _ (by rw [(y_k12 hA)]; decide)).trans o34
    obtain ⟨z45, q46, oY47, bz48, bq49⟩ := y_opY hI ha0
    have hzf : ∀ k, k ∈ ([1, 3, 4, 5, 6, 7, 8, 11, 15, 16, 19, 25, 26, 27, 31, 32] : List Nat) → z45 k = z28 k := fun k hk => by have q9 := hzf k hk; rw [y_fiZ oY47 (s_sub (by decide) hk), y_fiZ oY30 (s_sub (by decide) hk)] at q9; exact q9
    have hz0 : ∀ k, k ∈ ([1, 3, 7, 8, 15, 19, 25, 26, 27, 31, 32] : List Nat) → z45 k = z0 k := fun k hk => (hzf k (s_sub (by decide) hk)).trans (hz0 k hk)
    have ev36 : v36 = z45 5 := ev36.trans (hzf 5 (by decide)).symm
    have ev37 : v37 = z45 16 := ev37.trans (hzf 16 (by decide)).symm
    have hfr : ∀ b, K b ∉ [9, 62, 64] → F40 b = F b := fun b hb9 => (hfr1 b (fun q => hb9 (s_sub (by decide) q))).trans (hfr b hb9)
    refine lv_istore_n (lv' := [(2, .int r39), (0, .ref a0), (1, .int w9)]) hx hb dX7_statementTold_24 rfl hl (by decide) rfl (fun ls hl => ?_)
    refine lv_aload_n hx hb dX7_statementTold_25 rfl (lv_at hl 1 rfl) ?_
    refine lv_bipush (v := 21) hx hb dX7_statementTold_26 (by decide) ?_
    refine va_calli (va_runV (As := [.int 21]) (rest := []) ⟨hx, hb, hml, hown, hts⟩ (y_X7_takes l dC dI H.size hLK A hA F40 a0 21 ha0 hI) (cwV 1 hts (ax_gV T_287 T_288 T_289 T_265 T_26) rfl rfl rfl (by decide +kernel) ⟨Nat.le_of_ble_eq_true rfl, Nat.le_of_ble_eq_true rfl⟩) ⟨fun a U g mk q => ⟨q.1, s_pc rfl rfl q.2⟩, s_recv hK hP (hLK _ ha0 (by decide)) (ci := 7) rfl oY47, fun U hU hW => ⟨rfl, s_pw hU hW hP hK hD hN⟩⟩ rfl rfl hl.1 rfl (lv_room (Nat.le_of_ble_eq_true rfl)) dX7_statementTold_28 ⟨Nat.zero_le _, Nat.zero_le _⟩) hS (fun q _ h => h) (fun q h => h) (fun r51 F52 t H1 locs ht hvm hw hB hz1 hk1 hS => ?_)
    obtain ⟨hP, hK1⟩ := hB
    rw [ht] at hP
    generalize H1 = H at hP hS ⊢
    obtain ⟨h53, h55, hI, hfr1, hzf, h54⟩ := hw
    have o56 : F52 (A 12) = .inl (cs 0, 400, .inl f33) := (hfr1 _ (by rw [(y_k12 hA)]; decide)).trans o44
    obtain ⟨z57, q58, oY59, bz60, bq61⟩ := y_opY hI ha0
    have hzf : ∀ k, k ∈ ([1, 3, 5, 6, 7, 8, 11, 15, 16, 19, 25, 26, 27, 31, 32] : List Nat) → z57 k = z45 k := fun k hk => by have q9 := hzf k hk; rw [y_fiZ oY59 (s_sub (by decide) hk), y_fiZ oY47 (s_sub (by decide) hk)] at q9; exact q9
    have hz0 : ∀ k, k ∈ ([1, 3, 7, 8, 15, 19, 25, 26, 27, 31, 32] : List Nat) → z57 k = z0 k := fun k hk => (hzf k (s_sub (by decide) hk)).trans (hz0 k hk)
    have ev36 : v36 = z57 5 := ev36.trans (hzf 5 (by decide)).symm
    have ev37 : v37 = z57 16 := ev37.trans (hzf 16 (by decide)).symm
    have hfr : ∀ b, K b ∉ [9, 62, 64] → F52 b = F b := fun b hb9 => (hfr1 b (fun q => hb9 (s_sub (by decide) q))).trans (hfr b hb9)
    refine lv_if_eq (tgt := 74) hx hb dX7_statementTold_31 (by decide) (fun c62 => ?_) (fun c62 => ?_)
    · have c62 := (ax_eq (n := 0) (by decide)).mp c62
      refine lv_aload_n hx hb dX7_statementTold_74 rfl (lv_at hl 1 rfl) ?_
      refine lv_bipush (v := 22) hx hb dX7_statementTold_75 (by decide) ?_
      refine va_calli (va_runV (As := [.int 22]) (rest := []) ⟨hx, hb, hml, hown, hts⟩ (y_X7_takes l dC dI H.size hLK A hA F52 a0 22 ha0 hI) (cwV 1 hts (ax_gV T_287 T_288 T_289 T_265 T_26) rfl rfl rfl (by decide +kernel) ⟨Nat.le_of_ble_eq_true rfl, Nat.le_of_ble_eq_true rfl⟩) ⟨fun a U g mk q => ⟨q.1, s_pc rfl rfl q.2⟩, s_recv hK hP (hLK _ ha0 (by decide)) (ci := 7) rfl oY59, fun U hU hW => ⟨rfl, s_pw hU hW hP hK hD hN⟩⟩ rfl rfl hl.1 rfl (lv_room (Nat.le_of_ble_eq_true rfl)) dX7_statementTold_77 ⟨Nat.zero_le _, Nat.zero_le _⟩) hS (fun q _ h => h) (fun q h => h) (fun r64 F65 t H1 locs ht hvm hw hB hz1 hk1 hS => ?_)
      obtain ⟨hP, hK1⟩ := hB
      rw [ht] at hP
      generalize H1 = H at hP hS ⊢
      obtain ⟨h66, h68, hI, hfr1, hzf, h67⟩ := hw
      have o69 : F65 (A 12) = .inl (cs 0, 400, .inl f33) := (hfr1 _ (by rw [(y_k12 hA)]; decide)).trans o56
      obtain ⟨z70, q71, oY72, bz73, bq74⟩ := y_opY hI ha0
      have hzf : ∀ k, k ∈ ([1, 3, 5, 6, 7, 8, 11, 15, 16, 19, 25, 26, 27, 31, 32] : List Nat) → z70 k = z57 k := fun k hk => by have q9 := hzf k hk; rw [y_fiZ oY72 (s_sub (by decide) hk), y_fiZ oY59 (s_sub (by decide) hk)] at q9; exact q9
      have hz0 : ∀ k, k ∈ ([1, 3, 7, 8, 15, 19, 25, 26, 27, 31, 32] : List Nat) → z70 k = z0 k := fun k hk => (hzf k (s_sub (by decide) hk)).trans (hz0 k hk)
      have ev36 : v36 = z70 5 := ev36.trans (hzf 5 (by decide)).symm
      have ev37 : v37 = z70 16 := ev37.trans (hzf 16 (by decide)).symm
      have hfr : ∀ b, K b ∉ [9, 62, 64] → F65 b = F b := fun b hb9 => (hfr1 b (fun q => hb9 (s_sub (by decide) q))).trans (hfr b hb9)
      refine lv_if_eq (tgt := 120) hx hb dX7_statementTold_80 (by decide) (fun c75 => ?_) (fun c75 => ?_)
      · have c75 := (ax_eq (n := 0) (by decide)).mp c75
        refine lv_aload_n hx hb dX7_statementTold_120 rfl (lv_at hl 1 rfl) ?_
        refine lv_bipush (v := 25) hx hb dX7_statementTold_121 (by decide) ?_
        refine va_calli (va_runV (As := [.int 25]) (rest := []) ⟨hx, hb, hml, hown, hts⟩ (y_X7_takes l dC dI H.size hLK A hA F65 a0 25 ha0 hI) (cwV 1 hts (ax_gV T_287 T_288 T_289 T_265 T_26) rfl rfl rfl (by decide +kernel) ⟨Nat.le_of_ble_eq_true rfl, Nat.le_of_ble_eq_true rfl⟩) ⟨fun a U g mk q => ⟨q.1, s_pc rfl rfl q.2⟩, s_recv hK hP (hLK _ ha0 (by decide)) (ci := 7) rfl oY72, fun U hU hW => ⟨rfl, s_pw hU hW hP hK hD hN⟩⟩ rfl rfl hl.1 rfl (lv_room (Nat.le_of_ble_eq_true rfl)) dX7_statementTold_123 ⟨Nat.zero_le _, Nat.zero_le _⟩) hS (fun q _ h => h) (fun q h => h) (fun r77 F78 t H1 locs ht hvm hw hB hz1 hk1 hS => ?_)
        obtain ⟨hP, hK1⟩ := hB
        rw [ht] at hP
        generalize H1 = H at hP hS ⊢
        obtain ⟨h79, h81, hI, hfr1, hzf, h80⟩ := hw
        have o82 : F78 (A 12) = .inl (cs 0, 400, .inl f33) := (hfr1 _ (by rw [(y_k12 hA)]; decide)).trans o69
        obtain ⟨z83, q84, oY85, bz86, bq87⟩ := y_opY hI ha0
        have hzf : ∀ k, k ∈ ([1, 3, 5, 6, 7, 8, 11, 15, 16, 19, 25, 26, 27, 31, 32] : List Nat) → z83 k = z70 k := fun k hk => by have q9 := hzf k hk; rw [y_fiZ oY85 (s_sub (by decide) hk), y_fiZ oY72 (s_sub (by decide) hk)] at q9; exact q9
        have hz0 : ∀ k, k ∈ ([1, 3, 7, 8, 15, 19, 25, 26, 27, 31, 32] : List Nat) → z83 k = z0 k := fun k hk => (hzf k (s_sub (by decide) hk)).trans (hz0 k hk)
        have ev36 : v36 = z83 5 := ev36.trans (hzf 5 (by decide)).symm
        have ev37 : v37 = z83 16 := ev37.trans (hzf 16 (by decide)).symm
        have hfr : ∀ b, K b ∉ [9, 62, 64] → F78 b = F b := fun b hb9 => (hfr1 b (fun q => hb9 (s_sub (by decide) q))).trans (hfr b hb9)
        refine lv_if_eq (tgt := 166) hx hb dX7_statementTold_126 (by decide) (fun c88 => ?_) (fun c88 => ?_)
        · have c88 := (ax_eq (n := 0) (by decide)).mp c88
          refine lv_iload_n hx hb dX7_statementTold_166 rfl (lv_at hl 0 rfl) ?_
          refine lv_i2l hx hb dX7_statementTold_167 rfl ?_
          refine lv_topl (fun v89 ev89 => ?_)
          have qv89 : v89.toInt = r39.toInt := y_i2l ev89
          refine lv_lconst (v := 0) hx hb dX7_statementTold_168 (by decide) ?_
          refine lv_ldc2 hx hb hown (hts _ T_1256) dX7_statementTold_169 ?_
          refine va_calli (va_runS (As := [.long v89, .long 0, .long 15]) (rest := []) ⟨hx, hb, hml, hown, hts⟩ (y_X7_isIn l dC dI H.size F78 v89 0 15) (cwS 3 hts (ax_gS T_267 T_268 T_265 T_21) rfl rfl rfl (by decide +kernel) ⟨Nat.le_of_ble_eq_true rfl, Nat.le_of_ble_eq_true rfl⟩) ⟨fun a U g mk q => ⟨q.1, s_pc rfl rfl q.2⟩, fun U hU hW => ⟨rfl, s_pw hU hW hP hK hD hN⟩⟩ rfl rfl hl.1 rfl (lv_room (Nat.le_of_ble_eq_true rfl)) dX7_statementTold_172 ⟨Nat.zero_le _, Nat.zero_le _⟩) hS (fun q _ h => h) (fun q h => h) (fun r91 F92 t H1 locs ht hvm hw hB hz1 hk1 hS => ?_)
          obtain ⟨hP, hK1⟩ := hB
          rw [ht] at hP
          generalize H1 = H at hP hS ⊢
          obtain ⟨h93, h95, hG9, h94⟩ := hw
          rw [hG9] at hP
          have h94 : ((r91.toInt = 0 ∧ (v89.toInt < 0 ∨ 15 < v89.toInt)) ∨ (r91.toInt = 1 ∧ 0 ≤ v89.toInt ∧ v89.toInt ≤ 15)) := by have q9 := h94; exact q9
          refine lv_if_ne (tgt := 190) hx hb dX7_statementTold_175 (by decide) (fun c96 => ?_) (fun c96 => ?_)
          · have c96 := mt (ax_eq (n := 0) (by decide)).mpr c96
            exact K190 _ _ _ ⟨F78, _, w9, r39, rfl, lv_sub hl [1, 2, 0] rfl, hP, hS, hI, hfr, (fun k hk => (y_fiZ oY85 (s_sub (by decide) hk)).trans (hz0 k hk)), ⟨by omega, by omega⟩, trivial, (by rw [y_atE o82]; exact h25), (by first | (rw [y_fiZ oY85 (k := 5) (by decide), ← ev36, y_fiZ oY85 (k := 16) (by decide), ← ev37]; omega) | rw [y_fiZ oY85 (k := 5) (by decide), ← ev36, y_fiZ oY85 (k := 16) (by decide), ← ev37])⟩
          · have c96 := (ax_eq (n := 0) (by decide)).mp c96
            refine lv_aload_n hx hb dX7_statementTold_178 rfl (lv_at hl 1 rfl) ?_
            refine va_calli (va_runV (As := []) (rest := []) ⟨hx, hb, hml, hown, hts⟩ (y_X7_isWordHere l dC dI H.size hLK A hA F78 a0 ha0 hI) (cwV 0 hts (ax_gV T_280 T_281 T_282 T_265 T_24) rfl rfl rfl (by decide +kernel) ⟨Nat.le_of_ble_eq_true rfl, Nat.le_of_ble_eq_true rfl⟩) ⟨fun a U g mk q => ⟨q.1, s_pc rfl rfl q.2⟩, s_recv hK hP (hLK _ ha0 (by decide)) (ci := 7) rfl oY85, fun U hU hW => ⟨rfl, s_pw hU hW hP hK hD hN⟩⟩ rfl rfl hl.1 rfl (lv_room (Nat.le_of_ble_eq_true rfl)) dX7_statementTold_179 ⟨Nat.zero_le _, Nat.zero_le _⟩) hS (fun q _ h => h) (fun q h => h) (fun r98 F99 t H1 locs ht hvm hw hB hz1 hk1 hS => ?_)
            obtain ⟨hP, hK1⟩ := hB
            rw [ht] at hP
            generalize H1 = H at hP hS ⊢
            obtain ⟨h100, h102, hI, hfr1, hzf, h101⟩ := hw
            have o103 : F99 (A 12) = .inl (cs 0, 400, .inl f33) := (hfr1 _ (by rw [(y_k12 hA)]; decide)).trans o82
            obtain ⟨z104, q105, oY106, bz107, bq108⟩ := y_opY hI ha0
            have hzf : ∀ k, k ∈ ([1, 3, 4, 5, 6, 7, 8, 11, 15, 16, 19, 25, 26, 27, 31, 32] : List Nat) → z104 k = z83 k := fun k hk => by have q9 := hzf k hk; rw [y_fiZ oY106 (s_sub (by decide) hk), y_fiZ oY85 (s_sub (by decide) hk)] at q9; exact q9
            have hz0 : ∀ k, k ∈ ([1, 3, 7, 8, 15, 19, 25, 26, 27, 31, 32] : List Nat) → z104 k = z0 k := fun k hk => (hzf k (s_sub (by decide) hk)).trans (hz0 k hk)
            have ev36 : v36 = z104 5 := ev36.trans (hzf 5 (by decide)).symm
            have ev37 : v37 = z104 16 := ev37.trans (hzf 16 (by decide)).symm
            have hfr : ∀ b, K b ∉ [9, 62, 64] → F99 b = F b := fun b hb9 => (hfr1 b (fun q => hb9 (s_sub (by decide) q))).trans (hfr b hb9)
            obtain ⟨v109, ev109⟩ : ∃ y : Int32, y = z104 2 := ⟨_, rfl⟩
            have qv109 : 0 ≤ v109.toInt ∧ v109.toInt ≤ 1600 := by rw [ev109]; exact y_bY2 bz107
            obtain ⟨v110, ev110⟩ : ∃ y : Int32, y = z104 3 := ⟨_, rfl⟩
            have qv110 : 0 ≤ v110.toInt ∧ v110.toInt ≤ 1600 := by rw [ev110]; exact y_bY3 bz107
            have h101 : (r98.toInt = 0 ∨ v109.toInt < v110.toInt) := by have q9 := h101; rw [y_fiZ oY106 (k := 2) (by decide), ← ev109, y_fiZ oY106 (k := 3) (by decide), ← ev110] at q9; exact q9
            refine lv_if_eq (tgt := 208) hx hb dX7_statementTold_182 (by decide) (fun c111 => ?_) (fun c111 => ?_)
            · have c111 := (ax_eq (n := 0) (by decide)).mp c111
              exact K208 _ _ _ ⟨F99, _, w9, rfl, lv_sub hl [1, 2] rfl, hP, hS, hI, hfr, (fun k hk => (y_fiZ oY106 (s_sub (by decide) hk)).trans (hz0 k hk)), ⟨by omega, by omega⟩, (by rw [y_atE o103]; exact h25), (by first | (rw [y_fiZ oY106 (k := 5) (by decide), ← ev36, y_fiZ oY106 (k := 16) (by decide), ← ev37]; omega) | rw [y_fiZ oY106 (k := 5) (by decide), ← ev36, y_fiZ oY106 (k := 16) (by decide), ← ev37])⟩
            · have c111 := mt (ax_eq (n := 0) (by decide)).mpr c111
              refine lv_iload_n hx hb dX7_statementTold_185 rfl (lv_at hl 0 rfl) ?_
              refine lv_iconst (v := (-1)) hx hb dX7_statementTold_186 (by decide) ?_
              refine lv_icmp_ne (tgt := 208) hx hb dX7_statementTold_187 (by decide) (fun c112 => ?_) (fun c112 => ?_)
              · have c112 := mt (ax_eq (n := (-1)) (by decide)).mpr c112
                exact K208 _ _ _ ⟨F99, _, w9, rfl, lv_sub hl [1, 2] rfl, hP, hS, hI, hfr, (fun k hk => (y_fiZ oY106 (s_sub (by decide) hk)).trans (hz0 k hk)), ⟨by omega, by omega⟩, (by rw [y_atE o103]; exact h25), (by first | (rw [y_fiZ oY106 (k := 5) (by decide), ← ev36, y_fiZ oY106 (k := 16) (by decide), ← ev37]; omega) | rw [y_fiZ oY106 (k := 5) (by decide), ← ev36, y_fiZ oY106 (k := 16) (by decide), ← ev37])⟩
              · have c112 := (ax_eq (n := (-1)) (by decide)).mp c112
                exact K190 _ _ _ ⟨F99, _, w9, r39, rfl, lv_sub hl [1, 2, 0] rfl, hP, hS, hI, hfr, (fun k hk => (y_fiZ oY106 (s_sub (by decide) hk)).trans (hz0 k hk)), ⟨by omega, by omega⟩, trivial, (by rw [y_atE o103]; exact h25), (by first | (rw [y_fiZ oY106 (k := 5) (by decide), ← ev36, y_fiZ oY106 (k := 16) (by decide), ← ev37]; omega) | rw [y_fiZ oY106 (k := 5) (by decide), ← ev36, y_fiZ oY106 (k := 16) (by decide), ← ev37])⟩
        · have c88 := mt (ax_eq (n := 0) (by decide)).mpr c88
          refine lv_aload_n hx hb dX7_statementTold_129 rfl (lv_at hl 1 rfl) ?_
          refine th_get (D := (dC, dI)) (ci := 7) (v := .ref (A 12)) (C := RX7) (T := TX7) (N := 34) hx hb hts inX7 hown hK hP (hLK _ ha0 (by decide)) oY85 rfl 12 (by decide) (hts _ T_245) (fun _ h9 => h9) rfl dX7_statementTold_130 ?_
          refine lv_sipush (v := 386) hx hb dX7_statementTold_133 (by decide) ?_
          refine lv_aload_n hx hb dX7_statementTold_136 rfl (lv_at hl 1 rfl) ?_
          refine lv_bipush (v := 27) hx hb dX7_statementTold_137 (by decide) ?_
          refine va_calli (va_runV (As := [.int 27]) (rest := [.int 386, .ref (A 12)]) ⟨hx, hb, hml, hown, hts⟩ (y_X7_takes l dC dI H.size hLK A hA F78 a0 27 ha0 hI) (cwV 1 hts (ax_gV T_287 T_288 T_289 T_265 T_26) rfl rfl rfl (by decide +kernel) ⟨Nat.le_of_ble_eq_true rfl, Nat.le_of_ble_eq_true rfl⟩) ⟨fun a U g mk q => ⟨q.1, s_pc rfl rfl q.2⟩, s_recv hK hP (hLK _ ha0 (by decide)) (ci := 7) rfl oY85, fun U hU hW => ⟨rfl, s_pw hU hW hP hK hD hN⟩⟩ rfl rfl hl.1 rfl (lv_room (Nat.le_of_ble_eq_true rfl)) dX7_statementTold_139 ⟨Nat.zero_le _, Nat.zero_le _⟩) hS (fun q _ h => h) (fun q h => h) (fun r114 F115 t H1 locs ht hvm hw hB hz1 hk1 hS => ?_)
          obtain ⟨hP, hK1⟩ := hB
          rw [ht] at hP
          generalize H1 = H at hP hS ⊢
          obtain ⟨h116, h118, hI, hfr1, hzf, h117⟩ := hw
          have o119 : F115 (A 12) = .inl (cs 0, 400, .inl f33) := (hfr1 _ (by rw [(y_k12 hA)]; decide)).trans o82
          obtain ⟨z120, q121, oY122, bz123, bq124⟩ := y_opY hI ha0
          have hzf : ∀ k, k ∈ ([1, 3, 5, 6, 7, 8, 11, 15, 16, 19, 25, 26, 27, 31, 32] : List Nat) → z120 k = z83 k := fun k hk => by have q9 := hzf k hk; rw [y_fiZ oY122 (s_sub (by decide) hk), y_fiZ oY85 (s_sub (by decide) hk)] at q9; exact q9
          have hz0 : ∀ k, k ∈ ([1, 3, 7, 8, 15, 19, 25, 26, 27, 31, 32] : List Nat) → z120 k = z0 k := fun k hk => (hzf k (s_sub (by decide) hk)).trans (hz0 k hk)
          have ev36 : v36 = z120 5 := ev36.trans (hzf 5 (by decide)).symm
          have ev37 : v37 = z120 16 := ev37.trans (hzf 16 (by decide)).symm
          have hfr : ∀ b, K b ∉ [9, 62, 64] → F115 b = F b := fun b hb9 => (hfr1 b (fun q => hb9 (s_sub (by decide) q))).trans (hfr b hb9)
          refine va_calli (va_runS (As := [.int r114]) (rest := [.int 386, .ref (A 12)]) ⟨hx, hb, hml, hown, hts⟩ (y_X7_flag l dC dI H.size F115 r114 (⟨by omega, by omega⟩)) (cwS 1 hts (ax_gS T_1001 T_1003 T_265 T_1002) rfl rfl rfl (by decide +kernel) ⟨Nat.le_of_ble_eq_true rfl, Nat.le_of_ble_eq_true rfl⟩) ⟨fun a U g mk q => ⟨q.1, s_pc rfl rfl q.2⟩, fun U hU hW => ⟨rfl, s_pw hU hW hP hK hD hN⟩⟩ rfl rfl hl.1 rfl (lv_room (Nat.le_of_ble_eq_true rfl)) dX7_statementTold_142 ⟨Nat.zero_le _, Nat.zero_le _⟩) hS (fun q _ h => h) (fun q h => h) (fun r126 F127 t H1 locs ht hvm hw hB hz1 hk1 hS => ?_)
          obtain ⟨hP, hK1⟩ := hB
          rw [ht] at hP
          generalize H1 = H at hP hS ⊢
          obtain ⟨h128, h130, hG9, h129⟩ := hw
          rw [hG9] at hP
          refine th_iast hx hb hK hP hD hS (hLK _ (y_k12 hA) (by decide)) 0 o119 rfl (ax_in (by decide)) dX7_statementTold_145 (fun H locs hP hS => ?_)
          obtain ⟨f131, u132⟩ : ∃ g : Nat → Int32, g = upd f33 (386 : Int32).toNatClampNeg r126 := ⟨_, rfl⟩
          rw [← u132] at hP
          have b133 : y_bd 12 f131 := by rw [u132]; exact th_updJ (P := fun y => 0 ≤ y.toInt ∧ y.toInt ≤ 40) b35 (fun q => absurd q (by decide))
          have hP : va_P (dC, dI) vwCl (va_pl L (va_up F115 (A 12) (.inl (cs 0, 400, .inl f131)))) H := hP
          obtain ⟨F134, hF135⟩ : ∃ G : Nat → va_E, G = va_up F115 (A 12) (.inl (cs 0, 400, .inl f131)) := ⟨_, rfl⟩
          rw [← hF135] at hP
          have hI : y_I K cs A F134 := by rw [hF135]; exact y_clA (i := 12) hA hI (by decide) b133
          have hfr : ∀ b, K b ∉ [9, 62, 64] → F134 b = F b := by rw [hF135]; exact s_fr hfr (y_k12 hA) (by decide)
          have oY136 : F134 a0 = .inr (7, y_fl A z120 q121) := by rw [hF135]; exact th_ne (th_kd ha0 (y_k12 hA) (by decide)) oY122
          have o137 : F134 (A 12) = .inl (cs 0, 400, .inl f131) := by rw [hF135]; exact th_up
          have u138 : ∀ j : Int, 0 ≤ j → y_c f131 j = if j = 386 then r126 else y_c f33 j := by rw [u132]; exact y_cu (by decide) (by decide)
          refine lv_aload_n hx hb dX7_statementTold_146 rfl (lv_at hl 1 rfl) ?_
          refine th_get (D := (dC, dI)) (ci := 7) (v := .ref (A 12)) (C := RX7) (T := TX7) (N := 34) hx hb hts inX7 hown hK hP (hLK _ ha0 (by decide)) oY136 rfl 12 (by decide) (hts _ T_245) (fun _ h9 => h9) rfl dX7_statementTold_147 ?_
          refine lv_sipush (v := 386) hx hb dX7_statementTold_150 (by decide) ?_
          refine th_iald hx hb hK hP (hLK _ (y_k12 hA) (by decide)) 0 o137 rfl (ax_in (by decide)) dX7_statementTold_153 ?_
          refine lv_topi (fun v139 ev139 => ?_)
          refine lv_if_ne (tgt := 214) hx hb dX7_statementTold_154 (by decide) (fun c140 => ?_) (fun c140 => ?_)
          · have c140 := mt (ax_eq (n := 0) (by decide)).mpr c140
            exact K214 _ _ _ ⟨F134, _, rfl, lv_sub hl [1] rfl, hP, hS, hI, hfr, (fun k hk => (y_fiZ oY136 (s_sub (by decide) hk)).trans (hz0 k hk)), (by rw [y_fiZ oY136 (k := 5) (by decide), ← ev36, y_atE o137]; exact (fun hd hg => y_DSp u138 (by omega) ⟨by omega, by omega⟩ (by rw [h25]; omega) (by rw [h25]; exact hd (by omega)))), (by first | (rw [y_fiZ oY136 (k := 5) (by decide), ← ev36, y_fiZ oY136 (k := 16) (by decide), ← ev37]; omega) | rw [y_fiZ oY136 (k := 5) (by decide), ← ev36, y_fiZ oY136 (k := 16) (by decide), ← ev37])⟩
          · have c140 := (ax_eq (n := 0) (by decide)).mp c140
            refine lv_aload_n hx hb dX7_statementTold_157 rfl (lv_at hl 1 rfl) ?_
            refine lv_bipush (v := 26) hx hb dX7_statementTold_158 (by decide) ?_
            have ep141_5 := ev36
            refine va_callv (va_runV (As := [.int 26]) (rest := []) ⟨hx, hb, hml, hown, hts⟩ (y_X7_asks l dC dI H.size hLK A hA F134 a0 26 ha0 hI) (cwV 1 hts (ax_gV T_297 T_298 T_299 T_265 T_29) rfl rfl rfl (by decide +kernel) ⟨Nat.le_of_ble_eq_true rfl, Nat.le_of_ble_eq_true rfl⟩) ⟨fun a U g mk q => ⟨q.1, s_pc rfl rfl q.2⟩, s_recv hK hP (hLK _ ha0 (by decide)) (ci := 7) rfl oY136, fun U hU hW => ⟨rfl, s_pw hU hW hP hK hD hN⟩⟩ rfl rfl hl.1 rfl (lv_room (Nat.le_of_ble_eq_true rfl)) dX7_statementTold_160 ⟨Nat.zero_le _, Nat.zero_le _⟩) hS (fun q _ h => h) (fun q h => h) (fun F142 t H1 locs ht hvm hw hB hz1 hk1 hS => ?_)
            obtain ⟨hP, hK1⟩ := hB
            rw [ht] at hP
            generalize H1 = H at hP hS ⊢
            obtain ⟨h143, h145, hI, hfr1, hzf, h144⟩ := hw
            have o146 : F142 (A 12) = .inl (cs 0, 400, .inl f131) := (hfr1 _ (by rw [(y_k12 hA)]; decide)).trans o137
            obtain ⟨z147, q148, oY149, bz150, bq151⟩ := y_opY hI ha0
            have hzf : ∀ k, k ∈ ([1, 3, 7, 8, 11, 15, 16, 19, 25, 26, 27, 31, 32] : List Nat) → z147 k = z120 k := fun k hk => by have q9 := hzf k hk; rw [y_fiZ oY149 (s_sub (by decide) hk), y_fiZ oY136 (s_sub (by decide) hk)] at q9; exact q9
            have hz0 : ∀ k, k ∈ ([1, 3, 7, 8, 15, 19, 25, 26, 27, 31, 32] : List Nat) → z147 k = z0 k := fun k hk => (hzf k (s_sub (by decide) hk)).trans (hz0 k hk)
            have ev37 : v37 = z147 16 := ev37.trans (hzf 16 (by decide)).symm
            have hfr : ∀ b, K b ∉ [9, 62, 64] → F142 b = F b := fun b hb9 => (hfr1 b (fun q => hb9 (s_sub (by decide) q))).trans (hfr b hb9)
            obtain ⟨v152, ev152⟩ : ∃ y : Int32, y = z147 5 := ⟨_, rfl⟩
            have h144 : (v36.toInt = 0 ∨ ¬ v152.toInt = 0) := by have q9 := h144; rw [y_fiZ oY136 (k := 5) (by decide), ← ep141_5, y_fiZ oY149 (k := 5) (by decide), ← ev152] at q9; exact q9
            refine lv_goto (tgt := 214) hx hb dX7_statementTold_163 (by decide) ?_
            exact K214 _ _ _ ⟨F142, _, rfl, lv_sub hl [1] rfl, hP, hS, hI, hfr, (fun k hk => (y_fiZ oY149 (s_sub (by decide) hk)).trans (hz0 k hk)), (by rw [y_fiZ oY149 (k := 5) (by decide), ← ev152, y_atE o146]; exact (fun hd hg => y_DSp u138 (by omega) ⟨by omega, by omega⟩ (by rw [h25]; omega) (by rw [h25]; exact hd (by omega)))), (by first | (rw [y_fiZ oY149 (k := 5) (by decide), ← ev152, y_fiZ oY149 (k := 16) (by decide), ← ev37]; omega) | rw [y_fiZ oY149 (k := 5) (by decide), ← ev152, y_fiZ oY149 (k := 16) (by decide), ← ev37])⟩
      · have c75 := mt (ax_eq (n := 0) (by decide)).mpr c75
        refine lv_aload_n hx hb dX7_statementTold_83 rfl (lv_at hl 1 rfl) ?_
        refine th_get (D := (dC, dI)) (ci := 7) (v := .ref (A 12)) (C := RX7) (T := TX7) (N := 34) hx hb hts inX7 hown hK hP (hLK _ ha0 (by decide)) oY72 rfl 12 (by decide) (hts _ T_245) (fun _ h9 => h9) rfl dX7_statementTold_84 ?_
        refine lv_sipush (v := 385) hx hb dX7_statementTold_87 (by decide) ?_
        refine lv_aload_n hx hb dX7_statementTold_90 rfl (lv_at hl 1 rfl) ?_
        refine lv_bipush (v := 24) hx hb dX7_statementTold_91 (by decide) ?_
        refine va_calli (va_runV (As := [.int 24]) (rest := [.int 385, .ref (A 12)]) ⟨hx, hb, hml, hown, hts⟩ (y_X7_takes l dC dI H.size hLK A hA F65 a0 24 ha0 hI) (cwV 1 hts (ax_gV T_287 T_288 T_289 T_265 T_26) rfl rfl rfl (by decide +kernel) ⟨Nat.le_of_ble_eq_true rfl, Nat.le_of_ble_eq_true rfl⟩) ⟨fun a U g mk q => ⟨q.1, s_pc rfl rfl q.2⟩, s_recv hK hP (hLK _ ha0 (by decide)) (ci := 7) rfl oY72, fun U hU hW => ⟨rfl, s_pw hU hW hP hK hD hN⟩⟩ rfl rfl hl.1 rfl (lv_room (Nat.le_of_ble_eq_true rfl)) dX7_statementTold_93 ⟨Nat.zero_le _, Nat.zero_le _⟩) hS (fun q _ h => h) (fun q h => h) (fun r154 F155 t H1 locs ht hvm hw hB hz1 hk1 hS => ?_)
        obtain ⟨hP, hK1⟩ := hB
        rw [ht] at hP
        generalize H1 = H at hP hS ⊢
        obtain ⟨h156, h158, hI, hfr1, hzf, h157⟩ := hw
        have o159 : F155 (A 12) = .inl (cs 0, 400, .inl f33) := (hfr1 _ (by rw [(y_k12 hA)]; decide)).trans o69
        obtain ⟨z160, q161, oY162, bz163, bq164⟩ := y_opY hI ha0
        have hzf : ∀ k, k ∈ ([1, 3, 5, 6, 7, 8, 11, 15, 16, 19, 25, 26, 27, 31, 32] : List Nat) → z160 k = z70 k := fun k hk => by have q9 := hzf k hk; rw [y_fiZ oY162 (s_sub (by decide) hk), y_fiZ oY72 (s_sub (by decide) hk)] at q9; exact q9
        have hz0 : ∀ k, k ∈ ([1, 3, 7, 8, 15, 19, 25, 26, 27, 31, 32] : List Nat) → z160 k = z0 k := fun k hk => (hzf k (s_sub (by decide) hk)).trans (hz0 k hk)
        have ev36 : v36 = z160 5 := ev36.trans (hzf 5 (by decide)).symm
        have ev37 : v37 = z160 16 := ev37.trans (hzf 16 (by decide)).symm
        have hfr : ∀ b, K b ∉ [9, 62, 64] → F155 b = F b := fun b hb9 => (hfr1 b (fun q => hb9 (s_sub (by decide) q))).trans (hfr b hb9)
        refine va_calli (va_runS (As := [.int r154]) (rest := [.int 385, .ref (A 12)]) ⟨hx, hb, hml, hown, hts⟩ (y_X7_flag l dC dI H.size F155 r154 (⟨by omega, by omega⟩)) (cwS 1 hts (ax_gS T_1001 T_1003 T_265 T_1002) rfl rfl rfl (by decide +kernel) ⟨Nat.le_of_ble_eq_true rfl, Nat.le_of_ble_eq_true rfl⟩) ⟨fun a U g mk q => ⟨q.1, s_pc rfl rfl q.2⟩, fun U hU hW => ⟨rfl, s_pw hU hW hP hK hD hN⟩⟩ rfl rfl hl.1 rfl (lv_room (Nat.le_of_ble_eq_true rfl)) dX7_statementTold_96 ⟨Nat.zero_le _, Nat.zero_le _⟩) hS (fun q _ h => h) (fun q h => h) (fun r166 F167 t H1 locs ht hvm hw hB hz1 hk1 hS => ?_)
        obtain ⟨hP, hK1⟩ := hB
        rw [ht] at hP
        generalize H1 = H at hP hS ⊢
        obtain ⟨h168, h170, hG9, h169⟩ := hw
        rw [hG9] at hP
        refine th_iast hx hb hK hP hD hS (hLK _ (y_k12 hA) (by decide)) 0 o159 rfl (ax_in (by decide)) dX7_statementTold_99 (fun H locs hP hS => ?_)
        obtain ⟨f171, u172⟩ : ∃ g : Nat → Int32, g = upd f33 (385 : Int32).toNatClampNeg r166 := ⟨_, rfl⟩
        rw [← u172] at hP
        have b173 : y_bd 12 f171 := by rw [u172]; exact th_updJ (P := fun y => 0 ≤ y.toInt ∧ y.toInt ≤ 40) b35 (fun q => absurd q (by decide))
        have hP : va_P (dC, dI) vwCl (va_pl L (va_up F155 (A 12) (.inl (cs 0, 400, .inl f171)))) H := hP
        obtain ⟨F174, hF175⟩ : ∃ G : Nat → va_E, G = va_up F155 (A 12) (.inl (cs 0, 400, .inl f171)) := ⟨_, rfl⟩
        rw [← hF175] at hP
        have hI : y_I K cs A F174 := by rw [hF175]; exact y_clA (i := 12) hA hI (by decide) b173
        have hfr : ∀ b, K b ∉ [9, 62, 64] → F174 b = F b := by rw [hF175]; exact s_fr hfr (y_k12 hA) (by decide)
        have oY176 : F174 a0 = .inr (7, y_fl A z160 q161) := by rw [hF175]; exact th_ne (th_kd ha0 (y_k12 hA) (by decide)) oY162
        have o177 : F174 (A 12) = .inl (cs 0, 400, .inl f171) := by rw [hF175]; exact th_up
        have u178 : ∀ j : Int, 0 ≤ j → y_c f171 j = if j = 385 then r166 else y_c f33 j := by rw [u172]; exact y_cu (by decide) (by decide)
        refine lv_aload_n hx hb dX7_statementTold_100 rfl (lv_at hl 1 rfl) ?_
        refine th_get (D := (dC, dI)) (ci := 7) (v := .ref (A 12)) (C := RX7) (T := TX7) (N := 34) hx hb hts inX7 hown hK hP (hLK _ ha0 (by decide)) oY176 rfl 12 (by decide) (hts _ T_245) (fun _ h9 => h9) rfl dX7_statementTold_101 ?_
        refine lv_sipush (v := 385) hx hb dX7_statementTold_104 (by decide) ?_
        refine th_iald hx hb hK hP (hLK _ (y_k12 hA) (by decide)) 0 o177 rfl (ax_in (by decide)) dX7_statementTold_107 ?_
        refine lv_topi (fun v179 ev179 => ?_)
        refine lv_if_ne (tgt := 214) hx hb dX7_statementTold_108 (by decide) (fun c180 => ?_) (fun c180 => ?_)
        · have c180 := mt (ax_eq (n := 0) (by decide)).mpr c180
          exact K214 _ _ _ ⟨F174, _, rfl, lv_sub hl [1] rfl, hP, hS, hI, hfr, (fun k hk => (y_fiZ oY176 (s_sub (by decide) hk)).trans (hz0 k hk)), (by rw [y_fiZ oY176 (k := 5) (by decide), ← ev36, y_atE o177]; exact (fun hd hg => y_DSp u178 (by omega) ⟨by omega, by omega⟩ (by rw [h25]; omega) (by rw [h25]; exact hd (by omega)))), (by first | (rw [y_fiZ oY176 (k := 5) (by decide), ← ev36, y_fiZ oY176 (k := 16) (by decide), ← ev37]; omega) | rw [y_fiZ oY176 (k := 5) (by decide), ← ev36, y_fiZ oY176 (k := 16) (by decide), ← ev37])⟩
        · have c180 := (ax_eq (n := 0) (by decide)).mp c180
          refine lv_aload_n hx hb dX7_statementTold_111 rfl (lv_at hl 1 rfl) ?_
          refine lv_bipush (v := 23) hx hb dX7_statementTold_112 (by decide) ?_
          have ep181_5 := ev36
          refine va_callv (va_runV (As := [.int 23]) (rest := []) ⟨hx, hb, hml, hown, hts⟩ (y_X7_asks l dC dI H.size hLK A hA F174 a0 23 ha0 hI) (cwV 1 hts (ax_gV T_297 T_298 T_299 T_265 T_29) rfl rfl rfl (by decide +kernel) ⟨Nat.le_of_ble_eq_true rfl, Nat.le_of_ble_eq_true rfl⟩) ⟨fun a U g mk q => ⟨q.1, s_pc rfl rfl q.2⟩, s_recv hK hP (hLK _ ha0 (by decide)) (ci := 7) rfl oY176, fun U hU hW => ⟨rfl, s_pw hU hW hP hK hD hN⟩⟩ rfl rfl hl.1 rfl (lv_room (Nat.le_of_ble_eq_true rfl)) dX7_statementTold_114 ⟨Nat.zero_le _, Nat.zero_le _⟩) hS (fun q _ h => h) (fun q h => h) (fun F182 t H1 locs ht hvm hw hB hz1 hk1 hS => ?_)
          obtain ⟨hP, hK1⟩ := hB
          rw [ht] at hP
          generalize H1 = H at hP hS ⊢
          obtain ⟨h183, h185, hI, hfr1, hzf, h184⟩ := hw
          have o186 : F182 (A 12) = .inl (cs 0, 400, .inl f171) := (hfr1 _ (by rw [(y_k12 hA)]; decide)).trans o177
          obtain ⟨z187, q188, oY189, bz190, bq191⟩ := y_opY hI ha0
          have hzf : ∀ k, k ∈ ([1, 3, 7, 8, 11, 15, 16, 19, 25, 26, 27, 31, 32] : List Nat) → z187 k = z160 k := fun k hk => by have q9 := hzf k hk; rw [y_fiZ oY189 (s_sub (by decide) hk), y_fiZ oY176 (s_sub (by decide) hk)] at q9; exact q9
          have hz0 : ∀ k, k ∈ ([1, 3, 7, 8, 15, 19, 25, 26, 27, 31, 32] : List Nat) → z187 k = z0 k := fun k hk => (hzf k (s_sub (by decide) hk)).trans (hz0 k hk)
          have ev37 : v37 = z187 16 := ev37.trans (hzf 16 (by decide)).symm
          have hfr : ∀ b, K b ∉ [9, 62, 64] → F182 b = F b := fun b hb9 => (hfr1 b (fun q => hb9 (s_sub (by decide) q))).trans (hfr b hb9)
          obtain ⟨v192, ev192⟩ : ∃ y : Int32, y = z187 5 := ⟨_, rfl⟩
          have h184 : (v36.toInt = 0 ∨ ¬ v192.toInt = 0) := by have q9 := h184; rw [y_fiZ oY176 (k := 5) (by decide), ← ep181_5, y_fiZ oY189 (k := 5) (by decide), ← ev192] at q9; exact q9
          refine lv_goto (tgt := 214) hx hb dX7_statementTold_117 (by decide) ?_
          exact K214 _ _ _ ⟨F182, _, rfl, lv_sub hl [1] rfl, hP, hS, hI, hfr, (fun k hk => (y_fiZ oY189 (s_sub (by decide) hk)).trans (hz0 k hk)), (by rw [y_fiZ oY189 (k := 5) (by decide), ← ev192, y_atE o186]; exact (fun hd hg => y_DSp u178 (by omega) ⟨by omega, by omega⟩ (by rw [h25]; omega) (by rw [h25]; exact hd (by omega)))), (by first | (rw [y_fiZ oY189 (k := 5) (by decide), ← ev192, y_fiZ oY189 (k := 16) (by decide), ← ev37]; omega) | rw [y_fiZ oY189 (k := 5) (by decide), ← ev192, y_fiZ oY189 (k := 16) (by decide), ← ev37])⟩
    · have c62 := mt (ax_eq (n := 0) (by decide)).mpr c62
      refine lv_aload_n hx hb dX7_statementTold_34 rfl (lv_at hl 1 rfl) ?_
      refine lv_iconst (v := 0) hx hb dX7_statementTold_35 (by decide) ?_
      refine lv_bipush (v := 63) hx hb dX7_statementTold_36 (by decide) ?_
      have ep193_5 := ev36
      refine va_calli (va_runV (As := [.int 0, .int 63]) (rest := []) ⟨hx, hb, hml, hown, hts⟩ (y_X7_number l dC dI H.size hLK A hA F52 a0 0 63 ha0 hI) (cwV 2 hts (ax_gV T_300 T_301 T_302 T_265 T_30) rfl rfl rfl (by decide +kernel) ⟨Nat.le_of_ble_eq_true rfl, Nat.le_of_ble_eq_true rfl⟩) ⟨fun a U g mk q => ⟨q.1, s_pc rfl rfl q.2⟩, s_recv hK hP (hLK _ ha0 (by decide)) (ci := 7) rfl oY59, fun U hU hW => ⟨rfl, s_pw hU hW hP hK hD hN⟩⟩ rfl rfl hl.1 rfl (lv_room (Nat.le_of_ble_eq_true rfl)) dX7_statementTold_38 ⟨Nat.zero_le _, Nat.zero_le _⟩) hS (fun q _ h => h) (fun q h => h) (fun r194 F195 t H1 locs ht hvm hw hB hz1 hk1 hS => ?_)
      obtain ⟨hP, hK1⟩ := hB
      rw [ht] at hP
      generalize H1 = H at hP hS ⊢
      obtain ⟨h196, h198, hI, hfr1, hzf, h197⟩ := hw
      have o199 : F195 (A 12) = .inl (cs 0, 400, .inl f33) := (hfr1 _ (by rw [(y_k12 hA)]; decide)).trans o56
      obtain ⟨z200, q201, oY202, bz203, bq204⟩ := y_opY hI ha0
      have hzf : ∀ k, k ∈ ([1, 3, 7, 8, 11, 15, 16, 19, 25, 26, 27, 31, 32] : List Nat) → z200 k = z57 k := fun k hk => by have q9 := hzf k hk; rw [y_fiZ oY202 (s_sub (by decide) hk), y_fiZ oY59 (s_sub (by decide) hk)] at q9; exact q9
      have hz0 : ∀ k, k ∈ ([1, 3, 7, 8, 15, 19, 25, 26, 27, 31, 32] : List Nat) → z200 k = z0 k := fun k hk => (hzf k (s_sub (by decide) hk)).trans (hz0 k hk)
      have ev37 : v37 = z200 16 := ev37.trans (hzf 16 (by decide)).symm
      have hfr : ∀ b, K b ∉ [9, 62, 64] → F195 b = F b := fun b hb9 => (hfr1 b (fun q => hb9 (s_sub (by decide) q))).trans (hfr b hb9)
      obtain ⟨v205, ev205⟩ : ∃ y : Int32, y = z200 5 := ⟨_, rfl⟩
      have h197 : ((v36.toInt = 0 ∨ ¬ v205.toInt = 0) ∧ (v205.toInt = 0 → 0 ≤ r194.toInt ∧ r194.toInt ≤ 63)) := by have q9 := h197; rw [y_fiZ oY59 (k := 5) (by decide), ← ep193_5, y_fiZ oY202 (k := 5) (by decide), ← ev205] at q9; exact q9
      refine lv_istore_n (lv' := [(3, .int r194), (2, .int r39), (0, .ref a0), (1, .int w9)]) hx hb dX7_statementTold_41 rfl hl (by decide) rfl (fun ls hl => ?_)
      refine lv_aload_n hx hb dX7_statementTold_42 rfl (lv_at hl 2 rfl) ?_
      refine lv_iconst (v := 0) hx hb dX7_statementTold_43 (by decide) ?_
      refine lv_sipush (v := 999) hx hb dX7_statementTold_44 (by decide) ?_
      have ep206_5 := ev205
      refine va_calli (va_runV (As := [.int 0, .int 999]) (rest := []) ⟨hx, hb, hml, hown, hts⟩ (y_X7_number l dC dI H.size hLK A hA F195 a0 0 999 ha0 hI) (cwV 2 hts (ax_gV T_300 T_301 T_302 T_265 T_30) rfl rfl rfl (by decide +kernel) ⟨Nat.le_of_ble_eq_true rfl, Nat.le_of_ble_eq_true rfl⟩) ⟨fun a U g mk q => ⟨q.1, s_pc rfl rfl q.2⟩, s_recv hK hP (hLK _ ha0 (by decide)) (ci := 7) rfl oY202, fun U hU hW => ⟨rfl, s_pw hU hW hP hK hD hN⟩⟩ rfl rfl hl.1 rfl (lv_room (Nat.le_of_ble_eq_true rfl)) dX7_statementTold_47 ⟨Nat.zero_le _, Nat.zero_le _⟩) hS (fun q _ h => h) (fun q h => h) (fun r207 F208 t H1 locs ht hvm hw hB hz1 hk1 hS => ?_)
      obtain ⟨hP, hK1⟩ := hB
      rw [ht] at hP
      generalize H1 = H at hP hS ⊢
      obtain ⟨h209, h211, hI, hfr1, hzf, h210⟩ := hw
      have o212 : F208 (A 12) = .inl (cs 0, 400, .inl f33) := (hfr1 _ (by rw [(y_k12 hA)]; decide)).trans o199
      obtain ⟨z213, q214, oY215, bz216, bq217⟩ := y_opY hI ha0
      have hzf : ∀ k, k ∈ ([1, 3, 7, 8, 11, 15, 16, 19, 25, 26, 27, 31, 32] : List Nat) → z213 k = z200 k := fun k hk => by have q9 := hzf k hk; rw [y_fiZ oY215 (s_sub (by decide) hk), y_fiZ oY202 (s_sub (by decide) hk)] at q9; exact q9
      have hz0 : ∀ k, k ∈ ([1, 3, 7, 8, 15, 19, 25, 26, 27, 31, 32] : List Nat) → z213 k = z0 k := fun k hk => (hzf k (s_sub (by decide) hk)).trans (hz0 k hk)
      have ev37 : v37 = z213 16 := ev37.trans (hzf 16 (by decide)).symm
      have hfr : ∀ b, K b ∉ [9, 62, 64] → F208 b = F b := fun b hb9 => (hfr1 b (fun q => hb9 (s_sub (by decide) q))).trans (hfr b hb9)
      obtain ⟨v218, ev218⟩ : ∃ y : Int32, y = z213 5 := ⟨_, rfl⟩
      have h210 : ((v205.toInt = 0 ∨ ¬ v218.toInt = 0) ∧ (v218.toInt = 0 → 0 ≤ r207.toInt ∧ r207.toInt ≤ 999)) := by have q9 := h210; rw [y_fiZ oY202 (k := 5) (by decide), ← ep206_5, y_fiZ oY215 (k := 5) (by decide), ← ev218] at q9; exact q9
      refine lv_istore (lv' := [(4, .int r207), (3, .int r194), (2, .int r39), (0, .ref a0), (1, .int w9)]) hx hb dX7_statementTold_50 hl (by decide) rfl (fun ls hl => ?_)
      refine lv_aload_n hx hb dX7_statementTold_52 rfl (lv_at hl 3 rfl) ?_
      refine th_get (D := (dC, dI)) (ci := 7) (v := .int (z213 5)) (C := RX7) (T := TX7) (N := 34) hx hb hts inX7 hown hK hP (hLK _ ha0 (by decide)) oY215 rfl 5 (by decide) (hts _ T_274) (fun _ h9 => h9) rfl dX7_statementTold_53 ?_
      refine ax_eqi (y := v218) ev218.symm ?_
      refine lv_if_ne (tgt := 71) hx hb dX7_statementTold_56 (by decide) (fun c219 => ?_) (fun c219 => ?_)
      · have c219 := mt (ax_eq (n := 0) (by decide)).mpr c219
        refine lv_goto (tgt := 214) hx hb dX7_statementTold_71 (by decide) ?_
        exact K214 _ _ _ ⟨F208, _, rfl, lv_sub hl [3] rfl, hP, hS, hI, hfr, (fun k hk => (y_fiZ oY215 (s_sub (by decide) hk)).trans (hz0 k hk)), (by rw [y_fiZ oY215 (k := 5) (by decide), ← ev218, y_atE o212]; exact (fun hd hg => (by rw [h25]; exact hd (by omega)))), (by first | (rw [y_fiZ oY215 (k := 5) (by decide), ← ev218, y_fiZ oY215 (k := 16) (by decide), ← ev37]; omega) | rw [y_fiZ oY215 (k := 5) (by decide), ← ev218, y_fiZ oY215 (k := 16) (by decide), ← ev37])⟩
      · have c219 := (ax_eq (n := 0) (by decide)).mp c219
        refine lv_aload_n hx hb dX7_statementTold_59 rfl (lv_at hl 3 rfl) ?_
        refine th_get (D := (dC, dI)) (ci := 7) (v := .ref (A 12)) (C := RX7) (T := TX7) (N := 34) hx hb hts inX7 hown hK hP (hLK _ ha0 (by decide)) oY215 rfl 12 (by decide) (hts _ T_245) (fun _ h9 => h9) rfl dX7_statementTold_60 ?_
        refine lv_sipush (v := 320) hx hb dX7_statementTold_63 (by decide) ?_
        refine lv_iload_n hx hb dX7_statementTold_66 rfl (lv_at hl 1 rfl) ?_
        have h220 : 0 ≤ r194.toInt ∧ r194.toInt ≤ 63 := ⟨by omega, by omega⟩
        refine lv_iadd hx hb dX7_statementTold_67 ?_
        refine lv_topi (fun v221 ev221 => ?_)
        have qv221 : v221.toInt = 320 + r194.toInt := by rw [ev221]; exact th_add (by decide) rfl ⟨by omega, by omega⟩
        refine lv_iload hx hb dX7_statementTold_68 (lv_at hl 0 rfl) ?_
        refine th_iast hx hb hK hP hD hS (hLK _ (y_k12 hA) (by decide)) 0 o212 rfl (th_in ⟨by omega, by omega⟩) dX7_statementTold_70 (fun H locs hP hS => ?_)
        obtain ⟨f222, u223⟩ : ∃ g : Nat → Int32, g = upd f33 (v221 : Int32).toNatClampNeg r207 := ⟨_, rfl⟩
        rw [← u223] at hP
        have b224 : y_bd 12 f222 := by rw [u223]; exact th_updJ (P := fun y => 0 ≤ y.toInt ∧ y.toInt ≤ 40) b35 (fun q => by have q2 := th_tn (by omega) q; omega)
        have hP : va_P (dC, dI) vwCl (va_pl L (va_up F208 (A 12) (.inl (cs 0, 400, .inl f222)))) H := hP
        obtain ⟨F225, hF226⟩ : ∃ G : Nat → va_E, G = va_up F208 (A 12) (.inl (cs 0, 400, .inl f222)) := ⟨_, rfl⟩
        rw [← hF226] at hP
        have hI : y_I K cs A F225 := by rw [hF226]; exact y_clA (i := 12) hA hI (by decide) b224
        have hfr : ∀ b, K b ∉ [9, 62, 64] → F225 b = F b := by rw [hF226]; exact s_fr hfr (y_k12 hA) (by decide)
        have oY227 : F225 a0 = .inr (7, y_fl A z213 q214) := by rw [hF226]; exact th_ne (th_kd ha0 (y_k12 hA) (by decide)) oY215
        have o228 : F225 (A 12) = .inl (cs 0, 400, .inl f222) := by rw [hF226]; exact th_up
        have u229 : ∀ j : Int, 0 ≤ j → y_c f222 j = if j = v221.toInt then r207 else y_c f33 j := by rw [u223]; exact y_cu rfl (by omega)
        refine lv_goto (tgt := 214) hx hb dX7_statementTold_71 (by decide) ?_
        exact K214 _ _ _ ⟨F225, _, rfl, lv_sub hl [3] rfl, hP, hS, hI, hfr, (fun k hk => (y_fiZ oY227 (s_sub (by decide) hk)).trans (hz0 k hk)), (by rw [y_fiZ oY227 (k := 5) (by decide), ← ev218, y_atE o228]; exact (fun hd hg => y_DSC (d := f33) (fun j h0 h1 => by rw [u229 j h0, if_neg (by omega)]) (by rw [h25]; omega) (by rw [h25]; exact hd (by omega)))), (by first | (rw [y_fiZ oY227 (k := 5) (by decide), ← ev218, y_fiZ oY227 (k := 16) (by decide), ← ev37]; omega) | rw [y_fiZ oY227 (k := 5) (by decide), ← ev218, y_fiZ oY227 (k := 16) (by decide), ← ev37])⟩
  · intro g H locs hq
    obtain ⟨F234, ls, w7, w8, rfl, hl, hP, hS, hI, hfr, hz0, h230, h231, h232, h233⟩ := hq
    obtain ⟨z235, q236, oY237, bz238, bq239⟩ := y_opY hI ha0
    have hz0 : ∀ k, k ∈ ([1, 3, 7, 8, 15, 19, 25, 26, 27, 31, 32] : List Nat) → z235 k = z0 k := fun k hk => (y_fiZ oY237 (s_sub (by decide) hk)).symm.trans (hz0 k hk)
    obtain ⟨f240, o241, b242⟩ := y_op12 hI
    have h232 : f240 = f1 := by have q9 := h232; rw [y_atE o241] at q9; exact q9
    obtain ⟨v243, ev243⟩ : ∃ y : Int32, y = z235 5 := ⟨_, rfl⟩
    obtain ⟨v244, ev244⟩ : ∃ y : Int32, y = z235 16 := ⟨_, rfl⟩
    have h233 : ((v4.toInt = 0 ∨ ¬ v243.toInt = 0) ∧ (v5.toInt = 80 → ¬ v243.toInt = 0) ∧ v244.toInt = v5.toInt) := by have q9 := h233; rw [y_fiZ oY237 (k := 5) (by decide), ← ev243, y_fiZ oY237 (k := 16) (by decide), ← ev244] at q9; exact q9
    refine lv_aload_n hx hb dX7_statementTold_190 rfl (lv_at hl 0 rfl) ?_
    refine lv_iload_n hx hb dX7_statementTold_191 rfl (lv_at hl 1 rfl) ?_
    refine lv_iload_n hx hb dX7_statementTold_192 rfl (lv_at hl 2 rfl) ?_
    refine lv_iconst (v := (-1)) hx hb dX7_statementTold_193 (by decide) ?_
    refine lv_icmp_ne (tgt := 201) hx hb dX7_statementTold_194 (by decide) (fun c245 => ?_) (fun c245 => ?_)
    · have c245 := mt (ax_eq (n := (-1)) (by decide)).mpr c245
      refine lv_iconst (v := 0) hx hb dX7_statementTold_201 (by decide) ?_
      have ep246_5 := ev243
      refine va_callv (va_runV (As := [.int w7, .int 0]) (rest := []) ⟨hx, hb, hml, hown, hts⟩ (y_X7_lineBegins l dC dI H.size hLK A hA F234 a0 w7 0 ha0 (by decide) hI) (cwV 2 hts (ax_gV T_1311 T_1313 T_1314 T_265 T_1312) rfl rfl rfl (by decide +kernel) ⟨Nat.le_of_ble_eq_true rfl, Nat.le_of_ble_eq_true rfl⟩) ⟨fun a U g mk q => ⟨q.1, s_pc rfl rfl q.2⟩, s_recv hK hP (hLK _ ha0 (by decide)) (ci := 7) rfl oY237, fun U hU hW => ⟨rfl, s_pw hU hW hP hK hD hN⟩⟩ rfl rfl hl.1 rfl (lv_room (Nat.le_of_ble_eq_true rfl)) dX7_statementTold_202 ⟨Nat.zero_le _, Nat.zero_le _⟩) hS (fun q _ h => h) (fun q h => h) (fun F247 t H1 locs ht hvm hw hB hz1 hk1 hS => ?_)
      obtain ⟨hP, hK1⟩ := hB
      rw [ht] at hP
      generalize H1 = H at hP hS ⊢
      obtain ⟨h248, h250, hI, hfr1, hzf, h249⟩ := hw
      obtain ⟨z251, q252, oY253, bz254, bq255⟩ := y_opY hI ha0
      have hzf : ∀ k, k ∈ ([1, 3, 7, 8, 15, 16, 19, 25, 26, 27, 31, 32] : List Nat) → z251 k = z235 k := fun k hk => by have q9 := hzf k hk; rw [y_fiZ oY253 (s_sub (by decide) hk), y_fiZ oY237 (s_sub (by decide) hk)] at q9; exact q9
      have hz0 : ∀ k, k ∈ ([1, 3, 7, 8, 15, 19, 25, 26, 27, 31, 32] : List Nat) → z251 k = z0 k := fun k hk => (hzf k (s_sub (by decide) hk)).trans (hz0 k hk)
      have ev244 : v244 = z251 16 := ev244.trans (hzf 16 (by decide)).symm
      have hfr : ∀ b, K b ∉ [9, 62, 64] → F247 b = F b := fun b hb9 => (hfr1 b (fun q => hb9 (s_sub (by decide) q))).trans (hfr b hb9)
      obtain ⟨v256, ev256⟩ : ∃ y : Int32, y = z251 5 := ⟨_, rfl⟩
      obtain ⟨f257, o258, b259⟩ := y_op12 hI
      have h249 : ((v243.toInt = 0 ∨ ¬ v256.toInt = 0) ∧ ((v243.toInt = 0 → y_DS f240) → v256.toInt = 0 → y_DS f257)) := by have q9 := h249; rw [y_fiZ oY237 (k := 5) (by decide), ← ep246_5, y_fiZ oY253 (k := 5) (by decide), ← ev256, y_atE o241, y_atE o258] at q9; exact q9
      refine lv_goto (tgt := 214) hx hb dX7_statementTold_205 (by decide) ?_
      exact K214 _ _ _ ⟨F247, _, rfl, lv_sub hl [0] rfl, hP, hS, hI, hfr, (fun k hk => (y_fiZ oY253 (s_sub (by decide) hk)).trans (hz0 k hk)), (by rw [y_fiZ oY253 (k := 5) (by decide), ← ev256, y_atE o258]; exact (fun hd hg => h249.2 (fun hb => (by rw [h232]; exact hd (by omega))) hg)), (by first | (rw [y_fiZ oY253 (k := 5) (by decide), ← ev256, y_fiZ oY253 (k := 16) (by decide), ← ev244]; omega) | rw [y_fiZ oY253 (k := 5) (by decide), ← ev256, y_fiZ oY253 (k := 16) (by decide), ← ev244])⟩
    · have c245 := (ax_eq (n := (-1)) (by decide)).mp c245
      refine lv_iconst (v := 1) hx hb dX7_statementTold_197 (by decide) ?_
      refine lv_goto (tgt := 202) hx hb dX7_statementTold_198 (by decide) ?_
      have ep260_5 := ev243
      refine va_callv (va_runV (As := [.int w7, .int 1]) (rest := []) ⟨hx, hb, hml, hown, hts⟩ (y_X7_lineBegins l dC dI H.size hLK A hA F234 a0 w7 1 ha0 (by decide) hI) (cwV 2 hts (ax_gV T_1311 T_1313 T_1314 T_265 T_1312) rfl rfl rfl (by decide +kernel) ⟨Nat.le_of_ble_eq_true rfl, Nat.le_of_ble_eq_true rfl⟩) ⟨fun a U g mk q => ⟨q.1, s_pc rfl rfl q.2⟩, s_recv hK hP (hLK _ ha0 (by decide)) (ci := 7) rfl oY237, fun U hU hW => ⟨rfl, s_pw hU hW hP hK hD hN⟩⟩ rfl rfl hl.1 rfl (lv_room (Nat.le_of_ble_eq_true rfl)) dX7_statementTold_202 ⟨Nat.zero_le _, Nat.zero_le _⟩) hS (fun q _ h => h) (fun q h => h) (fun F261 t H1 locs ht hvm hw hB hz1 hk1 hS => ?_)
      obtain ⟨hP, hK1⟩ := hB
      rw [ht] at hP
      generalize H1 = H at hP hS ⊢
      obtain ⟨h262, h264, hI, hfr1, hzf, h263⟩ := hw
      obtain ⟨z265, q266, oY267, bz268, bq269⟩ := y_opY hI ha0
      have hzf : ∀ k, k ∈ ([1, 3, 7, 8, 15, 16, 19, 25, 26, 27, 31, 32] : List Nat) → z265 k = z235 k := fun k hk => by have q9 := hzf k hk; rw [y_fiZ oY267 (s_sub (by decide) hk), y_fiZ oY237 (s_sub (by decide) hk)] at q9; exact q9
      have hz0 : ∀ k, k ∈ ([1, 3, 7, 8, 15, 19, 25, 26, 27, 31, 32] : List Nat) → z265 k = z0 k := fun k hk => (hzf k (s_sub (by decide) hk)).trans (hz0 k hk)
      have ev244 : v244 = z265 16 := ev244.trans (hzf 16 (by decide)).symm
      have hfr : ∀ b, K b ∉ [9, 62, 64] → F261 b = F b := fun b hb9 => (hfr1 b (fun q => hb9 (s_sub (by decide) q))).trans (hfr b hb9)
      obtain ⟨v270, ev270⟩ : ∃ y : Int32, y = z265 5 := ⟨_, rfl⟩
      obtain ⟨f271, o272, b273⟩ := y_op12 hI
      have h263 : ((v243.toInt = 0 ∨ ¬ v270.toInt = 0) ∧ ((v243.toInt = 0 → y_DS f240) → v270.toInt = 0 → y_DS f271)) := by have q9 := h263; rw [y_fiZ oY237 (k := 5) (by decide), ← ep260_5, y_fiZ oY267 (k := 5) (by decide), ← ev270, y_atE o241, y_atE o272] at q9; exact q9
      refine lv_goto (tgt := 214) hx hb dX7_statementTold_205 (by decide) ?_
      exact K214 _ _ _ ⟨F261, _, rfl, lv_sub hl [0] rfl, hP, hS, hI, hfr, (fun k hk => (y_fiZ oY267 (s_sub (by decide) hk)).trans (hz0 k hk)), (by rw [y_fiZ oY267 (k := 5) (by decide), ← ev270, y_atE o272]; exact (fun hd hg => h263.2 (fun hb => (by rw [h232]; exact hd (by omega))) hg)), (by first | (rw [y_fiZ oY267 (k := 5) (by decide), ← ev270, y_fiZ oY267 (k := 16) (by decide), ← ev244]; omega) | rw [y_fiZ oY267 (k := 5) (by decide), ← ev270, y_fiZ oY267 (k := 16) (by decide), ← ev244])⟩
  · intro g H locs hq
    obtain ⟨F277, ls, w6, rfl, hl, hP, hS, hI, hfr, hz0, h274, h275, h276⟩ := hq
    obtain ⟨z278, q279, oY280, bz281, bq282⟩ := y_opY hI ha0
    have hz0 : ∀ k, k ∈ ([1, 3, 7, 8, 15, 19, 25, 26, 27, 31, 32] : List Nat) → z278 k = z0 k := fun k hk => (y_fiZ oY280 (s_sub (by decide) hk)).symm.trans (hz0 k hk)
    obtain ⟨f283, o284, b285⟩ := y_op12 hI
    have h275 : f283 = f1 := by have q9 := h275; rw [y_atE o284] at q9; exact q9
    obtain ⟨v286, ev286⟩ : ∃ y : Int32, y = z278 5 := ⟨_, rfl⟩
    obtain ⟨v287, ev287⟩ : ∃ y : Int32, y = z278 16 := ⟨_, rfl⟩
    have h276 : ((v4.toInt = 0 ∨ ¬ v286.toInt = 0) ∧ (v5.toInt = 80 → ¬ v286.toInt = 0) ∧ v287.toInt = v5.toInt) := by have q9 := h276; rw [y_fiZ oY280 (k := 5) (by decide), ← ev286, y_fiZ oY280 (k := 16) (by decide), ← ev287] at q9; exact q9
    refine lv_aload_n hx hb dX7_statementTold_208 rfl (lv_at hl 0 rfl) ?_
    refine lv_iconst (v := 1) hx hb dX7_statementTold_209 (by decide) ?_
    refine lv_iload_n hx hb dX7_statementTold_210 rfl (lv_at hl 1 rfl) ?_
    refine va_callv (va_runV (As := [.int 1, .int w6]) (rest := []) ⟨hx, hb, hml, hown, hts⟩ (y_X7_fail l dC dI H.size hLK A hA F277 a0 1 w6 ha0 (by decide) hI) (cwV 2 hts (ax_gV T_290 T_291 T_292 T_265 T_27) rfl rfl rfl (by decide +kernel) ⟨Nat.le_of_ble_eq_true rfl, Nat.le_of_ble_eq_true rfl⟩) ⟨fun a U g mk q => ⟨q.1, s_pc rfl rfl q.2⟩, s_recv hK hP (hLK _ ha0 (by decide)) (ci := 7) rfl oY280, fun U hU hW => ⟨rfl, s_pw hU hW hP hK hD hN⟩⟩ rfl rfl hl.1 rfl (lv_room (Nat.le_of_ble_eq_true rfl)) dX7_statementTold_211 ⟨Nat.zero_le _, Nat.zero_le _⟩) hS (fun q _ h => h) (fun q h => h) (fun F289 t H1 locs ht hvm hw hB hz1 hk1 hS => ?_)
    obtain ⟨hP, hK1⟩ := hB
    rw [ht] at hP
    generalize H1 = H at hP hS ⊢
    obtain ⟨h290, h292, hI, hfr1, hzf, h291⟩ := hw
    have o293 : F289 (A 12) = .inl (cs 0, 400, .inl f283) := (hfr1 _ (by rw [(y_k12 hA)]; decide)).trans o284
    obtain ⟨z294, q295, oY296, bz297, bq298⟩ := y_opY hI ha0
    have hzf : ∀ k, k ∈ ([1, 2, 3, 4, 7, 8, 11, 15, 16, 19, 25, 26, 27, 31, 32] : List Nat) → z294 k = z278 k := fun k hk => by have q9 := hzf k hk; rw [y_fiZ oY296 (s_sub (by decide) hk), y_fiZ oY280 (s_sub (by decide) hk)] at q9; exact q9
    have hz0 : ∀ k, k ∈ ([1, 3, 7, 8, 15, 19, 25, 26, 27, 31, 32] : List Nat) → z294 k = z0 k := fun k hk => (hzf k (s_sub (by decide) hk)).trans (hz0 k hk)
    have ev287 : v287 = z294 16 := ev287.trans (hzf 16 (by decide)).symm
    have hfr : ∀ b, K b ∉ [9, 62, 64] → F289 b = F b := fun b hb9 => (hfr1 b (fun q => hb9 (s_sub (by decide) q))).trans (hfr b hb9)
    obtain ⟨v299, ev299⟩ : ∃ y : Int32, y = z294 5 := ⟨_, rfl⟩
    have h291 : (¬ v299.toInt = 0) := by have q9 := h291; rw [y_fiZ oY296 (k := 5) (by decide), ← ev299] at q9; exact q9
    exact K214 _ _ _ ⟨F289, _, rfl, lv_sub hl [0] rfl, hP, hS, hI, hfr, (fun k hk => (y_fiZ oY296 (s_sub (by decide) hk)).trans (hz0 k hk)), (by rw [y_fiZ oY296 (k := 5) (by decide), ← ev299, y_atE o293]; exact (fun hd hg => (by rw [h275]; exact hd (by omega)))), (by first | (rw [y_fiZ oY296 (k := 5) (by decide), ← ev299, y_fiZ oY296 (k := 16) (by decide), ← ev287]; omega) | rw [y_fiZ oY296 (k := 5) (by decide), ← ev299, y_fiZ oY296 (k := 16) (by decide), ← ev287])⟩
  · intro g H locs hq
    obtain ⟨F302, ls, rfl, hl, hP, hS, hI, hfr, hz0, h300, h301⟩ := hq
    obtain ⟨z303, q304, oY305, bz306, bq307⟩ := y_opY hI ha0
    have hz0 : ∀ k, k ∈ ([1, 3, 7, 8, 15, 19, 25, 26, 27, 31, 32] : List Nat) → z303 k = z0 k := fun k hk => (y_fiZ oY305 (s_sub (by decide) hk)).symm.trans (hz0 k hk)
    obtain ⟨v308, ev308⟩ : ∃ y : Int32, y = z303 5 := ⟨_, rfl⟩
    obtain ⟨f309, o310, b311⟩ := y_op12 hI
    have h300 : ((v4.toInt = 0 → y_DS f1) → v308.toInt = 0 → y_DS f309) := by have q9 := h300; rw [y_fiZ oY305 (k := 5) (by decide), ← ev308, y_atE o310] at q9; exact q9
    obtain ⟨v312, ev312⟩ : ∃ y : Int32, y = z303 16 := ⟨_, rfl⟩
    have h301 : ((v4.toInt = 0 ∨ ¬ v308.toInt = 0) ∧ (v5.toInt = 80 → ¬ v308.toInt = 0) ∧ v312.toInt = v5.toInt) := by have q9 := h301; rw [y_fiZ oY305 (k := 5) (by decide), ← ev308, y_fiZ oY305 (k := 16) (by decide), ← ev312] at q9; exact q9
    refine lv_aload_n hx hb dX7_statementTold_214 rfl (lv_at hl 0 rfl) ?_
    refine lv_bipush (v := 59) hx hb dX7_statementTold_215 (by decide) ?_
    have ep313_5 := ev308
    refine va_callv (va_runV (As := [.int 59]) (rest := []) ⟨hx, hb, hml, hown, hts⟩ (y_X7_asksSign l dC dI H.size hLK A hA F302 a0 59 ha0 (by decide) hI) (cwV 1 hts (ax_gV T_303 T_304 T_305 T_265 T_31) rfl rfl rfl (by decide +kernel) ⟨Nat.le_of_ble_eq_true rfl, Nat.le_of_ble_eq_true rfl⟩) ⟨fun a U g mk q => ⟨q.1, s_pc rfl rfl q.2⟩, s_recv hK hP (hLK _ ha0 (by decide)) (ci := 7) rfl oY305, fun U hU hW => ⟨rfl, s_pw hU hW hP hK hD hN⟩⟩ rfl rfl hl.1 rfl (lv_room (Nat.le_of_ble_eq_true rfl)) dX7_statementTold_217 ⟨Nat.zero_le _, Nat.zero_le _⟩) hS (fun q _ h => h) (fun q h => h) (fun F314 t H1 locs ht hvm hw hB hz1 hk1 hS => ?_)
    obtain ⟨hP, hK1⟩ := hB
    rw [ht] at hP
    generalize H1 = H at hP hS ⊢
    obtain ⟨h315, h317, hI, hfr1, hzf, h316⟩ := hw
    have o318 : F314 (A 12) = .inl (cs 0, 400, .inl f309) := (hfr1 _ (by rw [(y_k12 hA)]; decide)).trans o310
    obtain ⟨z319, q320, oY321, bz322, bq323⟩ := y_opY hI ha0
    have hzf : ∀ k, k ∈ ([1, 3, 4, 7, 8, 11, 15, 16, 19, 25, 26, 27, 31, 32] : List Nat) → z319 k = z303 k := fun k hk => by have q9 := hzf k hk; rw [y_fiZ oY321 (s_sub (by decide) hk), y_fiZ oY305 (s_sub (by decide) hk)] at q9; exact q9
    have hz0 : ∀ k, k ∈ ([1, 3, 7, 8, 15, 19, 25, 26, 27, 31, 32] : List Nat) → z319 k = z0 k := fun k hk => (hzf k (s_sub (by decide) hk)).trans (hz0 k hk)
    have ev312 : v312 = z319 16 := ev312.trans (hzf 16 (by decide)).symm
    have hfr : ∀ b, K b ∉ [9, 62, 64] → F314 b = F b := fun b hb9 => (hfr1 b (fun q => hb9 (s_sub (by decide) q))).trans (hfr b hb9)
    obtain ⟨v324, ev324⟩ : ∃ y : Int32, y = z319 5 := ⟨_, rfl⟩
    have h316 : (v308.toInt = 0 ∨ ¬ v324.toInt = 0) := by have q9 := h316; rw [y_fiZ oY305 (k := 5) (by decide), ← ep313_5, y_fiZ oY321 (k := 5) (by decide), ← ev324] at q9; exact q9
    refine lv_aload_n hx hb dX7_statementTold_220 rfl (lv_at hl 0 rfl) ?_
    refine lv_dup hx hb dX7_statementTold_221 rfl ?_
    refine th_get (D := (dC, dI)) (ci := 7) (v := .int (z319 16)) (C := RX7) (T := TX7) (N := 34) hx hb hts inX7 hown hK hP (hLK _ ha0 (by decide)) oY321 rfl 16 (by decide) (hts _ T_306) (fun _ h9 => h9) rfl dX7_statementTold_222 ?_
    refine ax_eqi (y := v312) ev312.symm ?_
    have h325 : 0 ≤ v312.toInt ∧ v312.toInt ≤ 80 := ⟨by omega, by omega⟩
    refine lv_iconst (v := 1) hx hb dX7_statementTold_225 (by decide) ?_
    refine lv_iadd hx hb dX7_statementTold_226 ?_
    refine lv_topi (fun v326 ev326 => ?_)
    have qv326 : v326.toInt = v312.toInt + 1 := by rw [ev326]; exact th_add rfl (by decide) ⟨by omega, by omega⟩
    refine th_put (D := (dC, dI)) (ci := 7) (v := .int v326) (ty := .int) (C := RX7) (T := TX7) (N := 34) hx hb hts inX7 tyX7 tyX7_ok nmX7 hown hK hP hD hS (hLK _ ha0 (by decide)) oY321 rfl 16 (by decide) (hts _ T_306) (fun _ h9 => h9) rfl (by decide +kernel) rfl rfl (Nat.le_of_ble_eq_true rfl) dX7_statementTold_227 (fun H locs hP hS => ?_)
    rw [y_fs16] at hP
    obtain ⟨z327, hz328⟩ : ∃ g : Nat → Int32, g = upd z319 16 v326 := ⟨_, rfl⟩
    rw [← hz328] at hP
    have bz329 : y_bY z327 := by rw [hz328]; exact y_bp16 bz322
    have hP : va_P (dC, dI) vwCl (va_pl L (va_up F314 a0 (.inr (7, y_fl A z327 q320)))) H := hP
    obtain ⟨F330, hF331⟩ : ∃ G : Nat → va_E, G = va_up F314 a0 (.inr (7, y_fl A z327 q320)) := ⟨_, rfl⟩
    rw [← hF331] at hP
    have hI : y_I K cs A F330 := by rw [hF331]; exact y_clY hA hI ha0 bz329 bq323
    have hfr : ∀ b, K b ∉ [9, 62, 64] → F330 b = F b := by rw [hF331]; exact s_fr hfr ha0 (by decide)
    have o332 : F330 (A 12) = .inl (cs 0, 400, .inl f309) := by rw [hF331]; exact th_ne (th_kd (y_k12 hA) ha0 (by decide)) o318
    have oY333 : F330 a0 = .inr (7, y_fl A z327 q320) := by rw [hF331]; exact th_up
    have hz0 : ∀ k, k ∈ ([1, 3, 7, 8, 15, 19, 25, 26, 27, 31, 32] : List Nat) → z327 k = z0 k := fun k hk => by rw [hz328]; exact (y_un (fun q => absurd hk (by rw [q]; decide))).trans (hz0 k hk)
    have ev324 : v324 = z327 5 := by rw [hz328]; exact ev324.trans (y_un (by decide)).symm
    obtain ⟨v334, ev334⟩ : ∃ y : Int32, y = z327 16 := ⟨_, rfl⟩
    have qv334 : v334.toInt = v326.toInt := by rw [ev334, hz328, y_ue]
    exact W.vret hx hb hr (fun t ht hW => ⟨⟨F330, rfl, ⟨trivial, trivial, hI, hfr, fun k hk => (y_fiZ oY333 (s_sub (by decide) hk)).trans ((hz0 k hk).trans (y_fiZ oY0 (s_sub (by decide) hk)).symm), (by rw [y_fiZ oY0 (k := 5) (by decide), ← eF_5, y_fiZ oY333 (k := 5) (by decide), ← ev324, y_atE o2, y_atE o332, y_fiZ oY333 (k := 16) (by decide), ← ev334, y_fiZ oY0 (k := 16) (by decide), ← eF_16]; exact ⟨by omega, fun hd hg => h300 hd (by omega), by omega, by omega⟩)⟩, by rw [ht]; exact hP, va_K.moved hW.alike hK⟩, hS.F ht⟩) hS.2.2 dX7_statementTold_230

set_option maxHeartbeats 4000000 in
set_option maxRecDepth 100000 in
theorem y_X7_joins (l : Launch) (dC : Nat → ClassId) (dI : Nat → Nat → Nat) (sz : Nat) {L : List Nat} {K : Nat → Nat} {cs : Nat → ClassId} (hLK : ∀ a {k : Nat}, K a = k → k ≠ 0 → a ∈ L) (A : Nat → Nat) (hA : y_A K A) (F : Nat → va_E) (a0 : Nat) (ha0 : K a0 = 9) (hI : y_I K cs A F) : Met l yX7_joins (Cond.code yX7_joins cX7_joins 4 none :: T0) ({ frames := 1, cells := 0, slots := 0, locals := 22 }) (va_Pc [.ref a0] (s_W dC dI sz L F [(cs 0, .int), (cs 1, .byte), (cs 2, .long), (cs 3, .object RX5), (cs 4, .object RX4), (cs 5, .array .int), (cs 6, .char), (cs 7, .boolean)])) (va_Qv (fun (G : Nat → va_E) => True ∧ True ∧ y_I K cs A G ∧ (∀ b, K b ∉ [9, 62] → G b = F b) ∧ (∀ k, k ∈ ([1, 2, 3, 4, 7, 8, 11, 15, 16, 19, 25, 26, 27, 31, 32] : List Nat) → y_fi G a0 k = y_fi F a0 k) ∧ (((y_fi F a0 5).toInt = 0 ∨ ¬ (y_fi G a0 5).toInt = 0) ∧ (((y_fi F a0 5).toInt = 0 → y_DS (y_at F (A 12))) → (y_fi G a0 5).toInt = 0 → y_DS (y_at G (A 12))) ∧ (y_c (y_at G (A 12)) 387).toInt = (y_c (y_at F (A 12)) 387).toInt ∧ ((y_fi G a0 5).toInt = 0 → y_JG (y_at G (A 12)) (y_c (y_at F (A 12)) 387).toInt (y_c (y_at F (A 12)) 387).toInt))) (fun (G : Nat → va_E) (t : State) => va_P (dC, dI) vwCl (va_pl L G) t.heap ∧ va_K (dC, dI) vwCl [(cs 0, .int), (cs 1, .byte), (cs 2, .long), (cs 3, .object RX5), (cs 4, .object RX4), (cs 5, .array .int), (cs 6, .char), (cs 7, .boolean)] t) (fun q => q ∈ L)) 0 0 (fun q => q ∈ L) := by
  refine Met.ofW (cc := cX7_joins) (maxL := 4) (ret := none) (by decide) rfl ?_
  intro p e s m args below meth c s₁ B hml hv
  obtain ⟨rfl, hsz, hP, hK, hD, hN⟩ := hv
  have hx := B.exec
  have hb := B.bytes
  have hr := B.returns
  have hts : ∀ w ∈ T0, w.before _ s = true := fun w h => atoms_spec (ws := Cond.code yX7_joins cX7_joins 4 none :: T0) B.pre w (List.mem_cons_of_mem _ h)
  have hown : s.vm.findClass RX7 = some m.cls := findClass_of_methodNamed B.named
  have hlocks := B.notSynchronized
  have hS : va_S (fun q => q ∈ L) s.heap s.heap [] := va_S.rf
  have hfr : ∀ b, K b ∉ [9, 62] → F b = F b := fun _ _ => rfl
  have hl := lv_entry ([.ref a0]) (n := 4) (Nat.le_of_ble_eq_true rfl)
  rw [lg_entry_eq]
  generalize (lg_sl ([.ref a0]) ++ List.replicate (4 - (lg_sl ([.ref a0])).length) Slot.unset).toArray = ls at hl ⊢
  have hl : lv_has ls 4 [(0, .ref a0)] := hl
  refine s_gen hP hS (fun H locs hP hS => ?_)
  obtain ⟨z0, q0, oY0, bz0, bq0⟩ := y_opY hI ha0
  have hz0 : ∀ k, k ∈ ([1, 2, 3, 4, 7, 8, 11, 15, 16, 19, 25, 26, 27, 31, 32] : List Nat) → z0 k = z0 k := fun _ _ => rfl
  obtain ⟨f1, o2, b3⟩ := y_op12 hI
  obtain ⟨v4, ev4⟩ : ∃ y : Int32, y = z0 5 := ⟨_, rfl⟩
  have eF_5 := ev4
  have hnb : 0 ≤ (y_c f1 387).toInt ∧ (y_c f1 387).toInt ≤ 40 := b3
  obtain ⟨nn, hnn⟩ : ∃ n : Int, n = (y_c f1 387).toInt := ⟨_, rfl⟩
  rw [← hnn] at hnb
  have e0_v4 := ev4
  refine lv_iconst (v := 0) hx hb dX7_joins_0 (by decide) ?_
  refine lv_istore_n (lv' := [(1, .int 0), (0, .ref a0)]) hx hb dX7_joins_1 rfl hl (by decide) rfl (fun ls hl => ?_)
  have h6 : (0 : Int32).toInt = 0 := by decide
  refine th_loop (fun n g H locs => ∃ (G : Nat → va_E) (ls : Array Slot) (w5 : Int32), g = F0 m 2 ls [] ∧ lv_has ls 4 [(0, .ref a0), (1, .int w5)] ∧ va_P (dC, dI) vwCl (va_pl L G) H ∧ va_S (fun q => q ∈ L) s.heap H locs ∧ y_I K cs A G ∧ (∀ b, K b ∉ [9, 62] → G b = F b) ∧ (∀ k, k ∈ ([1, 2, 3, 4, 7, 8, 11, 15, 16, 19, 25, 26, 27, 31, 32] : List Nat) → y_fi G a0 k = z0 k) ∧ (0 ≤ w5.toInt ∧ w5.toInt ≤ 40) ∧ (y_c (y_at G (A 12)) 387).toInt = nn ∧ ((v4.toInt = 0 → y_DS f1) → (y_fi G a0 5).toInt = 0 → y_DS (y_at G (A 12))) ∧ ((y_fi G a0 5).toInt = 0 → y_JG (y_at G (A 12)) nn w5.toInt) ∧ (v4.toInt = 0 ∨ ¬ (y_fi G a0 5).toInt = 0) ∧ n = (41 - w5.toInt).toNat) _ ⟨F, _, 0, rfl, lv_sub hl [1, 0] rfl, hP, hS, hI, hfr, (fun k hk => (y_fiZ oY0 (s_sub (by decide) hk)).trans (hz0 k hk)), (by decide), (by rw [y_atE o2]; exact hnn.symm), (by rw [y_fiZ oY0 (k := 5) (by decide), ← ev4, y_atE o2]; exact (fun hd hg => hd (by omega))), (by rw [y_fiZ oY0 (k := 5) (by decide), ← ev4, y_atE o2]; exact (fun _ i h0 h1 => absurd h1 (by omega))), (by first | (rw [y_fiZ oY0 (k := 5) (by decide), ← ev4]; omega) | rw [y_fiZ oY0 (k := 5) (by decide), ← ev4]), rfl⟩ (fun n ih2 g H locs hq => ?_)
  obtain ⟨F12, ls, w5, rfl, hl, hP, hS, hI, hfr, hz0, h7, h8, h9, h10, h11, hn⟩ := hq
  obtain ⟨z13, q14, oY15, bz16, bq17⟩ := y_opY hI ha0
  have hz0 : ∀ k, k ∈ ([1, 2, 3, 4, 7, 8, 11, 15, 16, 19, 25, 26, 27, 31, 32] : List Nat) → z13 k = z0 k := fun k hk => (y_fiZ oY15 (s_sub (by decide) hk)).symm.trans (hz0 k hk)
  obtain ⟨f18, o19, b20⟩ := y_op12 hI
  have h8 : (y_c f18 387).toInt = nn := by have q9 := h8; rw [y_atE o19] at q9; exact q9
  obtain ⟨v21, ev21⟩ : ∃ y : Int32, y = z13 5 := ⟨_, rfl⟩
  have h9 : ((v4.toInt = 0 → y_DS f1) → v21.toInt = 0 → y_DS f18) := by have q9 := h9; rw [y_fiZ oY15 (k := 5) (by decide), ← ev21, y_atE o19] at q9; exact q9
  have h10 : (v21.toInt = 0 → y_JG f18 nn w5.toInt) := by have q9 := h10; rw [y_fiZ oY15 (k := 5) (by decide), ← ev21, y_atE o19] at q9; exact q9
  have h11 : (v4.toInt = 0 ∨ ¬ v21.toInt = 0) := by have q9 := h11; rw [y_fiZ oY15 (k := 5) (by decide), ← ev21] at q9; exact q9
  have hn_21 := hn
  refine th_join (fun g H locs => ∃ (G : Nat → va_E) (ls : Array Slot), g = F0 m 106 ls [] ∧ lv_has ls 4 [(0, .ref a0), (1, .int w5)] ∧ va_P (dC, dI) vwCl (va_pl L G) H ∧ va_S (fun q => q ∈ L) s.heap H locs ∧ y_I K cs A G ∧ (∀ b, K b ∉ [9, 62] → G b = F b) ∧ (∀ k, k ∈ ([1, 2, 3, 4, 7, 8, 11, 15, 16, 19, 25, 26, 27, 31, 32] : List Nat) → y_fi G a0 k = z0 k) ∧ (0 ≤ w5.toInt ∧ w5.toInt ≤ 39) ∧ (y_c (y_at G (A 12)) 387).toInt = nn ∧ ((v4.toInt = 0 → y_DS f1) → (y_fi G a0 5).toInt = 0 → y_DS (y_at G (A 12))) ∧ ((y_fi G a0 5).toInt = 0 → y_JG (y_at G (A 12)) nn (w5.toInt + 1)) ∧ (v4.toInt = 0 ∨ ¬ (y_fi G a0 5).toInt = 0)) (fun K106 => ?_) ?_
  refine th_join (fun g H locs => ∃ (G : Nat → va_E) (ls : Array Slot) (w22 : Int32), g = F0 m 95 ls [] ∧ lv_has ls 4 [(0, .ref a0), (1, .int w5), (2, .int w22)] ∧ va_P (dC, dI) vwCl (va_pl L G) H ∧ va_S (fun q => q ∈ L) s.heap H locs ∧ y_I K cs A G ∧ (∀ b, K b ∉ [9, 62] → G b = F b) ∧ (∀ k, k ∈ ([1, 2, 3, 4, 7, 8, 11, 15, 16, 19, 25, 26, 27, 31, 32] : List Nat) → y_fi G a0 k = z0 k) ∧ (-1 ≤ w22.toInt ∧ w22.toInt ≤ 39) ∧ (0 ≤ w5.toInt ∧ w5.toInt ≤ 39) ∧ (y_at G (A 12)) = f18 ∧ ((v4.toInt = 0 ∨ ¬ (y_fi G a0 5).toInt = 0) ∧ v21.toInt = 0) ∧ (w22.toInt < nn ∧ ((y_fi G a0 5).toInt = 0 → 0 ≤ w22.toInt))) (fun K95 => ?_) ?_
  · refine lv_iload_n hx hb dX7_joins_2 rfl (lv_at hl 1 rfl) ?_
    refine lv_aload_n hx hb dX7_joins_3 rfl (lv_at hl 0 rfl) ?_
    refine va_calli (va_runV (As := []) (rest := [.int w5]) ⟨hx, hb, hml, hown, hts⟩ (y_X7_drafted l dC dI H.size hLK A hA F12 a0 ha0 hI) (cwV 0 hts (ax_gV T_293 T_294 T_295 T_265 T_28) rfl rfl rfl (by decide +kernel) ⟨Nat.le_of_ble_eq_true rfl, Nat.le_of_ble_eq_true rfl⟩) ⟨fun a U g mk q => ⟨q.1, s_pc rfl rfl q.2⟩, s_recv hK hP (hLK _ ha0 (by decide)) (ci := 7) rfl oY15, fun U hU hW => ⟨rfl, s_pw hU hW hP hK hD hN⟩⟩ rfl rfl hl.1 rfl (lv_room (Nat.le_of_ble_eq_true rfl)) dX7_joins_4 ⟨Nat.zero_le _, Nat.zero_le _⟩) hS (fun q _ h => h) (fun q h => h) (fun r24 F25 t H1 locs ht hvm hw hB hz1 hk1 hS => ?_)
    obtain ⟨hP, hK1⟩ := hB
    rw [ht] at hP
    generalize H1 = H at hP hS ⊢
    obtain ⟨h26, h28, hI, hfr1, hzf, h27⟩ := hw
    have o29 : F25 (A 12) = .inl (cs 0, 400, .inl f18) := (hfr1 _ (by rw [(y_k12 hA)]; decide)).trans o19
    have oY30 : F25 a0 = .inr (7, y_fl A z13 q14) := (hfr1 _ (by rw [ha0]; decide)).trans oY15
    have hfr : ∀ b, K b ∉ [9, 62] → F25 b = F b := fun b hb9 => (hfr1 b (fun q => hb9 (s_sub (by decide) q))).trans (hfr b hb9)
    have h27 : (r24 = y_c f18 387) := by have q9 := h27; rw [y_atE o19] at q9; exact q9
    have h31 := congrArg Int32.toInt h27
    refine lv_icmp_ge (tgt := 112) hx hb dX7_joins_7 (by decide) (fun c32 => ?_) (fun c32 => ?_)
    · have c32 := Int32.le_iff_toInt_le.mp c32
      exact W.vret hx hb hr (fun t ht hW => ⟨⟨F25, rfl, ⟨trivial, trivial, hI, hfr, fun k hk => (y_fiZ oY30 (s_sub (by decide) hk)).trans ((hz0 k hk).trans (y_fiZ oY0 (s_sub (by decide) hk)).symm), (by rw [y_fiZ oY0 (k := 5) (by decide), ← eF_5, y_fiZ oY30 (k := 5) (by decide), ← ev21, y_atE o2, y_atE o29]; rw [← hnn]; exact ⟨by omega, (fun hd hg => h9 hd (by omega)), h8, fun hg => y_JGle (by omega) (h10 hg)⟩)⟩, by rw [ht]; exact hP, va_K.moved hW.alike hK⟩, hS.F ht⟩) hS.2.2 dX7_joins_112
    · have c32 := mt Int32.le_iff_toInt_le.mpr c32
      refine lv_aload_n hx hb dX7_joins_10 rfl (lv_at hl 0 rfl) ?_
      refine th_get (D := (dC, dI)) (ci := 7) (v := .int (z13 5)) (C := RX7) (T := TX7) (N := 34) hx hb hts inX7 hown hK hP (hLK _ ha0 (by decide)) oY30 rfl 5 (by decide) (hts _ T_274) (fun _ h9 => h9) rfl dX7_joins_11 ?_
      refine ax_eqi (y := v21) ev21.symm ?_
      refine lv_if_ne (tgt := 112) hx hb dX7_joins_14 (by decide) (fun c33 => ?_) (fun c33 => ?_)
      · have c33 := mt (ax_eq (n := 0) (by decide)).mpr c33
        exact W.vret hx hb hr (fun t ht hW => ⟨⟨F25, rfl, ⟨trivial, trivial, hI, hfr, fun k hk => (y_fiZ oY30 (s_sub (by decide) hk)).trans ((hz0 k hk).trans (y_fiZ oY0 (s_sub (by decide) hk)).symm), (by rw [y_fiZ oY0 (k := 5) (by decide), ← eF_5, y_fiZ oY30 (k := 5) (by decide), ← ev21, y_atE o2, y_atE o29]; rw [← hnn]; exact ⟨by omega, (fun hd hg => h9 hd (by omega)), h8, fun hg => y_JGle (by omega) (h10 hg)⟩)⟩, by rw [ht]; exact hP, va_K.moved hW.alike hK⟩, hS.F ht⟩) hS.2.2 dX7_joins_112
      · have c33 := (ax_eq (n := 0) (by decide)).mp c33
        refine lv_aload_n hx hb dX7_joins_17 rfl (lv_at hl 0 rfl) ?_
        refine th_get (D := (dC, dI)) (ci := 7) (v := .ref (A 12)) (C := RX7) (T := TX7) (N := 34) hx hb hts inX7 hown hK hP (hLK _ ha0 (by decide)) oY30 rfl 12 (by decide) (hts _ T_245) (fun _ h9 => h9) rfl dX7_joins_18 ?_
        refine lv_iload_n hx hb dX7_joins_21 rfl (lv_at hl 1 rfl) ?_
        refine lv_iconst (v := 0) hx hb dX7_joins_22 (by decide) ?_
        refine va_calli (va_runS (As := [.int w5, .int 0]) (rest := [.ref (A 12)]) ⟨hx, hb, hml, hown, hts⟩ (y_X7_lineAt l dC dI H.size F25 w5 0 (⟨by omega, by omega⟩) (by decide)) (cwS 2 hts (ax_gS T_1216 T_1218 T_265 T_1217) rfl rfl rfl (by decide +kernel) ⟨Nat.le_of_ble_eq_true rfl, Nat.le_of_ble_eq_true rfl⟩) ⟨fun a U g mk q => ⟨q.1, s_pc rfl rfl q.2⟩, fun U hU hW => ⟨rfl, s_pw hU hW hP hK hD hN⟩⟩ rfl rfl hl.1 rfl (lv_room (Nat.le_of_ble_eq_true rfl)) dX7_joins_23 ⟨Nat.zero_le _, Nat.zero_le _⟩) hS (fun q _ h => h) (fun q h => h) (fun r35 F36 t H1 locs ht hvm hw hB hz1 hk1 hS => ?_)
        obtain ⟨hP, hK1⟩ := hB
        rw [ht] at hP
        generalize H1 = H at hP hS ⊢
        obtain ⟨h37, h39, hG9, h38⟩ := hw
        rw [hG9] at hP
        have h38 : (r35.toInt = 8 * w5.toInt + 0) := by have q9 := h38; exact q9
        refine th_iald hx hb hK hP (hLK _ (y_k12 hA) (by decide)) 0 o29 rfl (th_in ⟨by omega, by omega⟩) dX7_joins_26 ?_
        refine lv_topi (fun v40 ev40 => ?_)
        have h41 : v40.toInt = (y_c f18 (8 * w5.toInt)).toInt := congrArg Int32.toInt (ev40.trans (y_ci (by omega)))
        refine lv_bipush (v := 12) hx hb dX7_joins_27 (by decide) ?_
        refine lv_icmp_eq (tgt := 35) hx hb dX7_joins_29 (by decide) (fun c42 => ?_) (fun c42 => ?_)
        · have c42 := (ax_eq (n := 12) (by decide)).mp c42
          refine lv_iconst (v := (-1)) hx hb dX7_joins_35 (by decide) ?_
          refine lv_istore_n (lv' := [(2, .int (-1)), (0, .ref a0), (1, .int w5)]) hx hb dX7_joins_36 rfl hl (by decide) rfl (fun ls hl => ?_)
          refine lv_iconst (v := 0) hx hb dX7_joins_37 (by decide) ?_
          refine lv_istore_n (lv' := [(3, .int 0), (2, .int (-1)), (0, .ref a0), (1, .int w5)]) hx hb dX7_joins_38 rfl hl (by decide) rfl (fun ls hl => ?_)
          have h45 : ((-1) : Int32).toInt = (-1) := by decide
          have h46 : (0 : Int32).toInt = 0 := by decide
          refine th_loop (fun n g H locs => ∃ (G : Nat → va_E) (ls : Array Slot) (w43 : Int32) (w44 : Int32), g = F0 m 39 ls [] ∧ lv_has ls 4 [(0, .ref a0), (1, .int w5), (2, .int w43), (3, .int w44)] ∧ va_P (dC, dI) vwCl (va_pl L G) H ∧ va_S (fun q => q ∈ L) s.heap H locs ∧ y_I K cs A G ∧ (∀ b, K b ∉ [9, 62] → G b = F b) ∧ (∀ k, k ∈ ([1, 2, 3, 4, 7, 8, 11, 15, 16, 19, 25, 26, 27, 31, 32] : List Nat) → y_fi G a0 k = z0 k) ∧ (-1 ≤ w43.toInt ∧ w43.toInt ≤ 39) ∧ (0 ≤ w44.toInt ∧ w44.toInt ≤ 40) ∧ (0 ≤ w5.toInt ∧ w5.toInt ≤ 39) ∧ (y_at G (A 12)) = f18 ∧ ((v4.toInt = 0 ∨ ¬ (y_fi G a0 5).toInt = 0) ∧ v21.toInt = 0) ∧ ((y_fi G a0 5).toInt = 0 ∧ w43.toInt < nn) ∧ n = (41 - w44.toInt).toNat) _ ⟨F25, _, (-1), 0, rfl, lv_sub hl [2, 3, 1, 0] rfl, hP, hS, hI, hfr, (fun k hk => (y_fiZ oY30 (s_sub (by decide) hk)).trans (hz0 k hk)), (by decide), (by decide), ⟨by omega, by omega⟩, (by first | (rw [y_atE o29]; exact rfl) | rw [y_atE o29]), (by first | (rw [y_fiZ oY30 (k := 5) (by decide), ← ev21]; omega) | rw [y_fiZ oY30 (k := 5) (by decide), ← ev21]), (by first | (rw [y_fiZ oY30 (k := 5) (by decide), ← ev21]; omega) | rw [y_fiZ oY30 (k := 5) (by decide), ← ev21]), rfl⟩ (fun n ih39 g H locs hq => ?_)
          obtain ⟨F53, ls, w43, w44, rfl, hl, hP, hS, hI, hfr, hz0, h47, h48, h49, h50, h51, h52, hn⟩ := hq
          obtain ⟨z54, q55, oY56, bz57, bq58⟩ := y_opY hI ha0
          have hz0 : ∀ k, k ∈ ([1, 2, 3, 4, 7, 8, 11, 15, 16, 19, 25, 26, 27, 31, 32] : List Nat) → z54 k = z0 k := fun k hk => (y_fiZ oY56 (s_sub (by decide) hk)).symm.trans (hz0 k hk)
          obtain ⟨f59, o60, b61⟩ := y_op12 hI
          have h50 : f59 = f18 := by have q9 := h50; rw [y_atE o60] at q9; exact q9
          obtain ⟨v62, ev62⟩ : ∃ y : Int32, y = z54 5 := ⟨_, rfl⟩
          have h51 : ((v4.toInt = 0 ∨ ¬ v62.toInt = 0) ∧ v21.toInt = 0) := by have q9 := h51; rw [y_fiZ oY56 (k := 5) (by decide), ← ev62] at q9; exact q9
          have h52 : (v62.toInt = 0 ∧ w43.toInt < nn) := by have q9 := h52; rw [y_fiZ oY56 (k := 5) (by decide), ← ev62] at q9; exact q9
          have h63 : (y_c f59 387).toInt = nn := by rw [h50]; exact h8
          have hn_63 := hn
          refine th_join (fun g H locs => ∃ (G : Nat → va_E) (ls : Array Slot) (w64 : Int32), g = F0 m 73 ls [] ∧ lv_has ls 4 [(0, .ref a0), (1, .int w5), (2, .int w64), (3, .int w44)] ∧ va_P (dC, dI) vwCl (va_pl L G) H ∧ va_S (fun q => q ∈ L) s.heap H locs ∧ y_I K cs A G ∧ (∀ b, K b ∉ [9, 62] → G b = F b) ∧ (∀ k, k ∈ ([1, 2, 3, 4, 7, 8, 11, 15, 16, 19, 25, 26, 27, 31, 32] : List Nat) → y_fi G a0 k = z0 k) ∧ (-1 ≤ w64.toInt ∧ w64.toInt ≤ 39) ∧ (0 ≤ w5.toInt ∧ w5.toInt ≤ 39) ∧ (0 ≤ w44.toInt ∧ w44.toInt ≤ 39) ∧ (y_at G (A 12)) = f18 ∧ ((v4.toInt = 0 ∨ ¬ (y_fi G a0 5).toInt = 0) ∧ v21.toInt = 0) ∧ ((y_fi G a0 5).toInt = 0 ∧ w64.toInt < nn)) (fun K73 => ?_) ?_
          · refine lv_iload_n hx hb dX7_joins_39 rfl (lv_at hl 3 rfl) ?_
            refine lv_aload_n hx hb dX7_joins_40 rfl (lv_at hl 0 rfl) ?_
            refine va_calli (va_runV (As := []) (rest := [.int w44]) ⟨hx, hb, hml, hown, hts⟩ (y_X7_drafted l dC dI H.size hLK A hA F53 a0 ha0 hI) (cwV 0 hts (ax_gV T_293 T_294 T_295 T_265 T_28) rfl rfl rfl (by decide +kernel) ⟨Nat.le_of_ble_eq_true rfl, Nat.le_of_ble_eq_true rfl⟩) ⟨fun a U g mk q => ⟨q.1, s_pc rfl rfl q.2⟩, s_recv hK hP (hLK _ ha0 (by decide)) (ci := 7) rfl oY56, fun U hU hW => ⟨rfl, s_pw hU hW hP hK hD hN⟩⟩ rfl rfl hl.1 rfl (lv_room (Nat.le_of_ble_eq_true rfl)) dX7_joins_41 ⟨Nat.zero_le _, Nat.zero_le _⟩) hS (fun q _ h => h) (fun q h => h) (fun r66 F67 t H1 locs ht hvm hw hB hz1 hk1 hS => ?_)
            obtain ⟨hP, hK1⟩ := hB
            rw [ht] at hP
            generalize H1 = H at hP hS ⊢
            obtain ⟨h68, h70, hI, hfr1, hzf, h69⟩ := hw
            have o71 : F67 (A 12) = .inl (cs 0, 400, .inl f59) := (hfr1 _ (by rw [(y_k12 hA)]; decide)).trans o60
            have oY72 : F67 a0 = .inr (7, y_fl A z54 q55) := (hfr1 _ (by rw [ha0]; decide)).trans oY56
            have hfr : ∀ b, K b ∉ [9, 62] → F67 b = F b := fun b hb9 => (hfr1 b (fun q => hb9 (s_sub (by decide) q))).trans (hfr b hb9)
            have h69 : (r66 = y_c f59 387) := by have q9 := h69; rw [y_atE o60] at q9; exact q9
            have h73 := congrArg Int32.toInt h69
            refine lv_icmp_ge (tgt := 79) hx hb dX7_joins_44 (by decide) (fun c74 => ?_) (fun c74 => ?_)
            · have c74 := Int32.le_iff_toInt_le.mp c74
              refine lv_iload_n hx hb dX7_joins_79 rfl (lv_at hl 2 rfl) ?_
              refine lv_iconst (v := (-1)) hx hb dX7_joins_80 (by decide) ?_
              refine lv_icmp_ne (tgt := 95) hx hb dX7_joins_81 (by decide) (fun c75 => ?_) (fun c75 => ?_)
              · have c75 := mt (ax_eq (n := (-1)) (by decide)).mpr c75
                exact K95 _ _ _ ⟨F67, _, w43, rfl, lv_sub hl [0, 1, 2] rfl, hP, hS, hI, hfr, (fun k hk => (y_fiZ oY72 (s_sub (by decide) hk)).trans (hz0 k hk)), ⟨by omega, by omega⟩, ⟨by omega, by omega⟩, (by rw [y_atE o71]; exact h50), (by first | (rw [y_fiZ oY72 (k := 5) (by decide), ← ev62]; omega) | rw [y_fiZ oY72 (k := 5) (by decide), ← ev62]), (by first | (rw [y_fiZ oY72 (k := 5) (by decide), ← ev62]; omega) | rw [y_fiZ oY72 (k := 5) (by decide), ← ev62])⟩
              · have c75 := (ax_eq (n := (-1)) (by decide)).mp c75
                refine lv_aload_n hx hb dX7_joins_84 rfl (lv_at hl 0 rfl) ?_
                refine lv_iconst (v := 3) hx hb dX7_joins_85 (by decide) ?_
                refine lv_aload_n hx hb dX7_joins_86 rfl (lv_at hl 0 rfl) ?_
                refine th_get (D := (dC, dI)) (ci := 7) (v := .ref (A 14)) (C := RX7) (T := TX7) (N := 34) hx hb hts inX7 hown hK hP (hLK _ ha0 (by decide)) oY72 rfl 14 (by decide) (hts _ T_247) (fun _ h9 => h9) rfl dX7_joins_87 ?_
                refine lv_iload_n hx hb dX7_joins_90 rfl (lv_at hl 1 rfl) ?_
                obtain ⟨f76, o77, b78⟩ := y_op14 hI
                refine th_iald hx hb hK hP (hLK _ (y_k14 hA) (by decide)) 0 o77 rfl (th_in ⟨by omega, by omega⟩) dX7_joins_91 ?_
                refine lv_topi (fun v79 ev79 => ?_)
                refine va_callv (va_runV (As := [.int 3, .int v79]) (rest := []) ⟨hx, hb, hml, hown, hts⟩ (y_X7_fail l dC dI H.size hLK A hA F67 a0 3 v79 ha0 (by decide) hI) (cwV 2 hts (ax_gV T_290 T_291 T_292 T_265 T_27) rfl rfl rfl (by decide +kernel) ⟨Nat.le_of_ble_eq_true rfl, Nat.le_of_ble_eq_true rfl⟩) ⟨fun a U g mk q => ⟨q.1, s_pc rfl rfl q.2⟩, s_recv hK hP (hLK _ ha0 (by decide)) (ci := 7) rfl oY72, fun U hU hW => ⟨rfl, s_pw hU hW hP hK hD hN⟩⟩ rfl rfl hl.1 rfl (lv_room (Nat.le_of_ble_eq_true rfl)) dX7_joins_92 ⟨Nat.zero_le _, Nat.zero_le _⟩) hS (fun q _ h => h) (fun q h => h) (fun F81 t H1 locs ht hvm hw hB hz1 hk1 hS => ?_)
                obtain ⟨hP, hK1⟩ := hB
                rw [ht] at hP
                generalize H1 = H at hP hS ⊢
                obtain ⟨h82, h84, hI, hfr1, hzf, h83⟩ := hw
                have o85 : F81 (A 12) = .inl (cs 0, 400, .inl f59) := (hfr1 _ (by rw [(y_k12 hA)]; decide)).trans o71
                have o86 : F81 (A 14) = .inl (cs 0, 40, .inl f76) := (hfr1 _ (by rw [(y_k14 hA)]; decide)).trans o77
                obtain ⟨z87, q88, oY89, bz90, bq91⟩ := y_opY hI ha0
                have hzf : ∀ k, k ∈ ([1, 2, 3, 4, 7, 8, 11, 15, 16, 19, 25, 26, 27, 31, 32] : List Nat) → z87 k = z54 k := fun k hk => by have q9 := hzf k hk; rw [y_fiZ oY89 (s_sub (by decide) hk), y_fiZ oY72 (s_sub (by decide) hk)] at q9; exact q9
                have hz0 : ∀ k, k ∈ ([1, 2, 3, 4, 7, 8, 11, 15, 16, 19, 25, 26, 27, 31, 32] : List Nat) → z87 k = z0 k := fun k hk => (hzf k (s_sub (by decide) hk)).trans (hz0 k hk)
                have hfr : ∀ b, K b ∉ [9, 62] → F81 b = F b := fun b hb9 => (hfr1 b (fun q => hb9 (s_sub (by decide) q))).trans (hfr b hb9)
                obtain ⟨v92, ev92⟩ : ∃ y : Int32, y = z87 5 := ⟨_, rfl⟩
                have h83 : (¬ v92.toInt = 0) := by have q9 := h83; rw [y_fiZ oY89 (k := 5) (by decide), ← ev92] at q9; exact q9
                exact K95 _ _ _ ⟨F81, _, w43, rfl, lv_sub hl [0, 1, 2] rfl, hP, hS, hI, hfr, (fun k hk => (y_fiZ oY89 (s_sub (by decide) hk)).trans (hz0 k hk)), ⟨by omega, by omega⟩, ⟨by omega, by omega⟩, (by rw [y_atE o85]; exact h50), (by first | (rw [y_fiZ oY89 (k := 5) (by decide), ← ev92]; omega) | rw [y_fiZ oY89 (k := 5) (by decide), ← ev92]), (by first | (rw [y_fiZ oY89 (k := 5) (by decide), ← ev92]; omega) | rw [y_fiZ oY89 (k := 5) (by decide), ← ev92])⟩
            · have c74 := mt Int32.le_iff_toInt_le.mpr c74
              refine lv_aload_n hx hb dX7_joins_47 rfl (lv_at hl 0 rfl) ?_
              refine th_get (D := (dC, dI)) (ci := 7) (v := .ref (A 12)) (C := RX7) (T := TX7) (N := 34) hx hb hts inX7 hown hK hP (hLK _ ha0 (by decide)) oY72 rfl 12 (by decide) (hts _ T_245) (fun _ h9 => h9) rfl dX7_joins_48 ?_
              refine lv_iload_n hx hb dX7_joins_51 rfl (lv_at hl 3 rfl) ?_
              refine lv_bipush (v := 7) hx hb dX7_joins_52 (by decide) ?_
              refine va_calli (va_runS (As := [.int w44, .int 7]) (rest := [.ref (A 12)]) ⟨hx, hb, hml, hown, hts⟩ (y_X7_lineAt l dC dI H.size F67 w44 7 (⟨by omega, by omega⟩) (by decide)) (cwS 2 hts (ax_gS T_1216 T_1218 T_265 T_1217) rfl rfl rfl (by decide +kernel) ⟨Nat.le_of_ble_eq_true rfl, Nat.le_of_ble_eq_true rfl⟩) ⟨fun a U g mk q => ⟨q.1, s_pc rfl rfl q.2⟩, fun U hU hW => ⟨rfl, s_pw hU hW hP hK hD hN⟩⟩ rfl rfl hl.1 rfl (lv_room (Nat.le_of_ble_eq_true rfl)) dX7_joins_54 ⟨Nat.zero_le _, Nat.zero_le _⟩) hS (fun q _ h => h) (fun q h => h) (fun r94 F95 t H1 locs ht hvm hw hB hz1 hk1 hS => ?_)
              obtain ⟨hP, hK1⟩ := hB
              rw [ht] at hP
              generalize H1 = H at hP hS ⊢
              obtain ⟨h96, h98, hG9, h97⟩ := hw
              rw [hG9] at hP
              have h97 : (r94.toInt = 8 * w44.toInt + 7) := by have q9 := h97; exact q9
              refine th_iald hx hb hK hP (hLK _ (y_k12 hA) (by decide)) 0 o71 rfl (th_in ⟨by omega, by omega⟩) dX7_joins_57 ?_
              refine lv_topi (fun v99 ev99 => ?_)
              refine lv_aload_n hx hb dX7_joins_58 rfl (lv_at hl 0 rfl) ?_
              refine th_get (D := (dC, dI)) (ci := 7) (v := .ref (A 12)) (C := RX7) (T := TX7) (N := 34) hx hb hts inX7 hown hK hP (hLK _ ha0 (by decide)) oY72 rfl 12 (by decide) (hts _ T_245) (fun _ h9 => h9) rfl dX7_joins_59 ?_
              refine lv_iload_n hx hb dX7_joins_62 rfl (lv_at hl 1 rfl) ?_
              refine lv_iconst (v := 4) hx hb dX7_joins_63 (by decide) ?_
              refine va_calli (va_runS (As := [.int w5, .int 4]) (rest := [.ref (A 12), .int v99]) ⟨hx, hb, hml, hown, hts⟩ (y_X7_lineAt l dC dI H.size F67 w5 4 (⟨by omega, by omega⟩) (by decide)) (cwS 2 hts (ax_gS T_1216 T_1218 T_265 T_1217) rfl rfl rfl (by decide +kernel) ⟨Nat.le_of_ble_eq_true rfl, Nat.le_of_ble_eq_true rfl⟩) ⟨fun a U g mk q => ⟨q.1, s_pc rfl rfl q.2⟩, fun U hU hW => ⟨rfl, s_pw hU hW hP hK hD hN⟩⟩ rfl rfl hl.1 rfl (lv_room (Nat.le_of_ble_eq_true rfl)) dX7_joins_64 ⟨Nat.zero_le _, Nat.zero_le _⟩) hS (fun q _ h => h) (fun q h => h) (fun r101 F102 t H1 locs ht hvm hw hB hz1 hk1 hS => ?_)
              obtain ⟨hP, hK1⟩ := hB
              rw [ht] at hP
              generalize H1 = H at hP hS ⊢
              obtain ⟨h103, h105, hG9, h104⟩ := hw
              rw [hG9] at hP
              have h104 : (r101.toInt = 8 * w5.toInt + 4) := by have q9 := h104; exact q9
              refine th_iald hx hb hK hP (hLK _ (y_k12 hA) (by decide)) 0 o71 rfl (th_in ⟨by omega, by omega⟩) dX7_joins_67 ?_
              refine lv_topi (fun v106 ev106 => ?_)
              refine lv_icmp_ne (tgt := 73) hx hb dX7_joins_68 (by decide) (fun c107 => ?_) (fun c107 => ?_)
              · have c107 := mt Int32.toInt_inj.symm.mpr c107
                exact K73 _ _ _ ⟨F67, _, w43, rfl, lv_sub hl [0, 1, 2, 3] rfl, hP, hS, hI, hfr, (fun k hk => (y_fiZ oY72 (s_sub (by decide) hk)).trans (hz0 k hk)), ⟨by omega, by omega⟩, ⟨by omega, by omega⟩, ⟨by omega, by omega⟩, (by rw [y_atE o71]; exact h50), (by first | (rw [y_fiZ oY72 (k := 5) (by decide), ← ev62]; omega) | rw [y_fiZ oY72 (k := 5) (by decide), ← ev62]), (by first | (rw [y_fiZ oY72 (k := 5) (by decide), ← ev62]; omega) | rw [y_fiZ oY72 (k := 5) (by decide), ← ev62])⟩
              · have c107 := Int32.toInt_inj.symm.mp c107
                refine lv_iload_n hx hb dX7_joins_71 rfl (lv_at hl 3 rfl) ?_
                refine lv_istore_n (lv' := [(2, .int w44), (0, .ref a0), (1, .int w5), (3, .int w44)]) hx hb dX7_joins_72 rfl hl (by decide) rfl (fun ls hl => ?_)
                exact K73 _ _ _ ⟨F67, _, w44, rfl, lv_sub hl [1, 2, 0, 3] rfl, hP, hS, hI, hfr, (fun k hk => (y_fiZ oY72 (s_sub (by decide) hk)).trans (hz0 k hk)), ⟨by omega, by omega⟩, ⟨by omega, by omega⟩, ⟨by omega, by omega⟩, (by rw [y_atE o71]; exact h50), (by first | (rw [y_fiZ oY72 (k := 5) (by decide), ← ev62]; omega) | rw [y_fiZ oY72 (k := 5) (by decide), ← ev62]), (by first | (rw [y_fiZ oY72 (k := 5) (by decide), ← ev62]; omega) | rw [y_fiZ oY72 (k := 5) (by decide), ← ev62])⟩
          · intro g H locs hq
            obtain ⟨F114, ls, w64, rfl, hl, hP, hS, hI, hfr, hz0, h108, h109, h110, h111, h112, h113⟩ := hq
            obtain ⟨z115, q116, oY117, bz118, bq119⟩ := y_opY hI ha0
            have hz0 : ∀ k, k ∈ ([1, 2, 3, 4, 7, 8, 11, 15, 16, 19, 25, 26, 27, 31, 32] : List Nat) → z115 k = z0 k := fun k hk => (y_fiZ oY117 (s_sub (by decide) hk)).symm.trans (hz0 k hk)
            obtain ⟨f120, o121, b122⟩ := y_op12 hI
            have h111 : f120 = f18 := by have q9 := h111; rw [y_atE o121] at q9; exact q9
            obtain ⟨v123, ev123⟩ : ∃ y : Int32, y = z115 5 := ⟨_, rfl⟩
            have h112 : ((v4.toInt = 0 ∨ ¬ v123.toInt = 0) ∧ v21.toInt = 0) := by have q9 := h112; rw [y_fiZ oY117 (k := 5) (by decide), ← ev123] at q9; exact q9
            have h113 : (v123.toInt = 0 ∧ w64.toInt < nn) := by have q9 := h113; rw [y_fiZ oY117 (k := 5) (by decide), ← ev123] at q9; exact q9
            have h124 : (y_c f120 387).toInt = nn := by rw [h111]; exact h8
            obtain ⟨v125, ev125⟩ : ∃ y : Int32, w44 + 1 = y := ⟨_, rfl⟩
            have qv125 : v125.toInt = w44.toInt + 1 := by rw [← ev125]; exact th_add rfl (by decide) ⟨by omega, by omega⟩
            refine lv_iinc (v := v125) (lv' := [(3, .int v125), (0, .ref a0), (1, .int w5), (2, .int w64)]) hx hb dX7_joins_73 hl (k := 3) rfl ev125 (by decide) rfl (fun ls hl => ?_)
            refine lv_goto (tgt := 39) hx hb dX7_joins_76 (by decide) ?_
            exact ih39 _ _ _ _ (by omega) ⟨F114, _, w64, v125, rfl, lv_sub hl [1, 2, 3, 0] rfl, hP, hS, hI, hfr, (fun k hk => (y_fiZ oY117 (s_sub (by decide) hk)).trans (hz0 k hk)), ⟨by omega, by omega⟩, ⟨by omega, by omega⟩, ⟨by omega, by omega⟩, (by rw [y_atE o121]; exact h111), (by first | (rw [y_fiZ oY117 (k := 5) (by decide), ← ev123]; omega) | rw [y_fiZ oY117 (k := 5) (by decide), ← ev123]), (by first | (rw [y_fiZ oY117 (k := 5) (by decide), ← ev123]; omega) | rw [y_fiZ oY117 (k := 5) (by decide), ← ev123]), rfl⟩
        · have c42 := mt (ax_eq (n := 12) (by decide)).mpr c42
          refine lv_goto (tgt := 106) hx hb dX7_joins_32 (by decide) ?_
          exact K106 _ _ _ ⟨F25, _, rfl, lv_sub hl [0, 1] rfl, hP, hS, hI, hfr, (fun k hk => (y_fiZ oY30 (s_sub (by decide) hk)).trans (hz0 k hk)), ⟨by omega, by omega⟩, (by rw [y_atE o29]; exact h8), (by rw [y_fiZ oY30 (k := 5) (by decide), ← ev21, y_atE o29]; exact (fun hd hg => h9 hd (by omega))), (by rw [y_fiZ oY30 (k := 5) (by decide), ← ev21, y_atE o29]; exact (fun hg => y_JGs (by omega) (fun j h0 h1 => rfl) (fun q => absurd q (by omega)) (h10 (by omega)))), (by first | (rw [y_fiZ oY30 (k := 5) (by decide), ← ev21]; omega) | rw [y_fiZ oY30 (k := 5) (by decide), ← ev21])⟩
  · intro g H locs hq
    obtain ⟨F131, ls, w22, rfl, hl, hP, hS, hI, hfr, hz0, h126, h127, h128, h129, h130⟩ := hq
    obtain ⟨z132, q133, oY134, bz135, bq136⟩ := y_opY hI ha0
    have hz0 : ∀ k, k ∈ ([1, 2, 3, 4, 7, 8, 11, 15, 16, 19, 25, 26, 27, 31, 32] : List Nat) → z132 k = z0 k := fun k hk => (y_fiZ oY134 (s_sub (by decide) hk)).symm.trans (hz0 k hk)
    obtain ⟨f137, o138, b139⟩ := y_op12 hI
    have h128 : f137 = f18 := by have q9 := h128; rw [y_atE o138] at q9; exact q9
    obtain ⟨v140, ev140⟩ : ∃ y : Int32, y = z132 5 := ⟨_, rfl⟩
    have h129 : ((v4.toInt = 0 ∨ ¬ v140.toInt = 0) ∧ v21.toInt = 0) := by have q9 := h129; rw [y_fiZ oY134 (k := 5) (by decide), ← ev140] at q9; exact q9
    have h130 : (w22.toInt < nn ∧ (v140.toInt = 0 → 0 ≤ w22.toInt)) := by have q9 := h130; rw [y_fiZ oY134 (k := 5) (by decide), ← ev140] at q9; exact q9
    have h141 : (y_c f137 387).toInt = nn := by rw [h128]; exact h8
    refine lv_aload_n hx hb dX7_joins_95 rfl (lv_at hl 0 rfl) ?_
    refine th_get (D := (dC, dI)) (ci := 7) (v := .ref (A 12)) (C := RX7) (T := TX7) (N := 34) hx hb hts inX7 hown hK hP (hLK _ ha0 (by decide)) oY134 rfl 12 (by decide) (hts _ T_245) (fun _ h9 => h9) rfl dX7_joins_96 ?_
    refine lv_iload_n hx hb dX7_joins_99 rfl (lv_at hl 1 rfl) ?_
    refine lv_iconst (v := 4) hx hb dX7_joins_100 (by decide) ?_
    refine va_calli (va_runS (As := [.int w5, .int 4]) (rest := [.ref (A 12)]) ⟨hx, hb, hml, hown, hts⟩ (y_X7_lineAt l dC dI H.size F131 w5 4 (⟨by omega, by omega⟩) (by decide)) (cwS 2 hts (ax_gS T_1216 T_1218 T_265 T_1217) rfl rfl rfl (by decide +kernel) ⟨Nat.le_of_ble_eq_true rfl, Nat.le_of_ble_eq_true rfl⟩) ⟨fun a U g mk q => ⟨q.1, s_pc rfl rfl q.2⟩, fun U hU hW => ⟨rfl, s_pw hU hW hP hK hD hN⟩⟩ rfl rfl hl.1 rfl (lv_room (Nat.le_of_ble_eq_true rfl)) dX7_joins_101 ⟨Nat.zero_le _, Nat.zero_le _⟩) hS (fun q _ h => h) (fun q h => h) (fun r143 F144 t H1 locs ht hvm hw hB hz1 hk1 hS => ?_)
    obtain ⟨hP, hK1⟩ := hB
    rw [ht] at hP
    generalize H1 = H at hP hS ⊢
    obtain ⟨h145, h147, hG9, h146⟩ := hw
    rw [hG9] at hP
    have h146 : (r143.toInt = 8 * w5.toInt + 4) := by have q9 := h146; exact q9
    refine lv_iload_n hx hb dX7_joins_104 rfl (lv_at hl 2 rfl) ?_
    refine th_iast hx hb hK hP hD hS (hLK _ (y_k12 hA) (by decide)) 0 o138 rfl (th_in ⟨by omega, by omega⟩) dX7_joins_105 (fun H locs hP hS => ?_)
    obtain ⟨f148, u149⟩ : ∃ g : Nat → Int32, g = upd f137 (r143 : Int32).toNatClampNeg w22 := ⟨_, rfl⟩
    rw [← u149] at hP
    have b150 : y_bd 12 f148 := by rw [u149]; exact th_updJ (P := fun y => 0 ≤ y.toInt ∧ y.toInt ≤ 40) b139 (fun q => by have q2 := th_tn (by omega) q; omega)
    have hP : va_P (dC, dI) vwCl (va_pl L (va_up F131 (A 12) (.inl (cs 0, 400, .inl f148)))) H := hP
    obtain ⟨F151, hF152⟩ : ∃ G : Nat → va_E, G = va_up F131 (A 12) (.inl (cs 0, 400, .inl f148)) := ⟨_, rfl⟩
    rw [← hF152] at hP
    have hI : y_I K cs A F151 := by rw [hF152]; exact y_clA (i := 12) hA hI (by decide) b150
    have hfr : ∀ b, K b ∉ [9, 62] → F151 b = F b := by rw [hF152]; exact s_fr hfr (y_k12 hA) (by decide)
    have oY153 : F151 a0 = .inr (7, y_fl A z132 q133) := by rw [hF152]; exact th_ne (th_kd ha0 (y_k12 hA) (by decide)) oY134
    have o154 : F151 (A 12) = .inl (cs 0, 400, .inl f148) := by rw [hF152]; exact th_up
    have u155 : ∀ j : Int, 0 ≤ j → y_c f148 j = if j = r143.toInt then w22 else y_c f137 j := by rw [u149]; exact y_cu rfl (by omega)
    have hn157 : (y_c f148 387).toInt = nn := by rw [u155 387 (by omega), if_neg (by omega), h128]; exact h8
    exact K106 _ _ _ ⟨F151, _, rfl, lv_sub hl [0, 1] rfl, hP, hS, hI, hfr, (fun k hk => (y_fiZ oY153 (s_sub (by decide) hk)).trans (hz0 k hk)), ⟨by omega, by omega⟩, (by rw [y_atE o154]; exact hn157), (by rw [y_fiZ oY153 (k := 5) (by decide), ← ev140, y_atE o154]; exact (fun hd hg => y_DSj (k := w5.toInt) ⟨by omega, by omega⟩ (fun j h0 h1 => by rw [u155 j h0, if_neg (by omega)]; exact congrArg (fun f => y_c f j) h128) ((fun hd hg => h9 hd (by omega)) hd (by omega)))), (by rw [y_fiZ oY153 (k := 5) (by decide), ← ev140, y_atE o154]; exact (fun hg => y_JGs (by omega) (fun j h0 h1 => by rw [u155 j h0, if_neg (by omega)]; exact congrArg (fun f => y_c f j) h128) (fun _ => by rw [u155 _ (by omega), if_pos (by omega)]; exact ⟨by omega, by omega⟩) (h10 (by omega)))), (by first | (rw [y_fiZ oY153 (k := 5) (by decide), ← ev140]; omega) | rw [y_fiZ oY153 (k := 5) (by decide), ← ev140])⟩
  · intro g H locs hq
    obtain ⟨F163, ls, rfl, hl, hP, hS, hI, hfr, hz0, h158, h159, h160, h161, h162⟩ := hq
    obtain ⟨z164, q165, oY166, bz167, bq168⟩ := y_opY hI ha0
    have hz0 : ∀ k, k ∈ ([1, 2, 3, 4, 7, 8, 11, 15, 16, 19, 25, 26, 27, 31, 32] : List Nat) → z164 k = z0 k := fun k hk => (y_fiZ oY166 (s_sub (by decide) hk)).symm.trans (hz0 k hk)
    obtain ⟨f169, o170, b171⟩ := y_op12 hI
    have h159 : (y_c f169 387).toInt = nn := by have q9 := h159; rw [y_atE o170] at q9; exact q9
    obtain ⟨v172, ev172⟩ : ∃ y : Int32, y = z164 5 := ⟨_, rfl⟩
    have h160 : ((v4.toInt = 0 → y_DS f1) → v172.toInt = 0 → y_DS f169) := by have q9 := h160; rw [y_fiZ oY166 (k := 5) (by decide), ← ev172, y_atE o170] at q9; exact q9
    have h161 : (v172.toInt = 0 → y_JG f169 nn (w5.toInt + 1)) := by have q9 := h161; rw [y_fiZ oY166 (k := 5) (by decide), ← ev172, y_atE o170] at q9; exact q9
    have h162 : (v4.toInt = 0 ∨ ¬ v172.toInt = 0) := by have q9 := h162; rw [y_fiZ oY166 (k := 5) (by decide), ← ev172] at q9; exact q9
    obtain ⟨v173, ev173⟩ : ∃ y : Int32, w5 + 1 = y := ⟨_, rfl⟩
    have qv173 : v173.toInt = w5.toInt + 1 := by rw [← ev173]; exact th_add rfl (by decide) ⟨by omega, by omega⟩
    refine lv_iinc (v := v173) (lv' := [(1, .int v173), (0, .ref a0)]) hx hb dX7_joins_106 hl (k := 1) rfl ev173 (by decide) rfl (fun ls hl => ?_)
    refine lv_goto (tgt := 2) hx hb dX7_joins_109 (by decide) ?_
    exact ih2 _ _ _ _ (by omega) ⟨F163, _, v173, rfl, lv_sub hl [1, 0] rfl, hP, hS, hI, hfr, (fun k hk => (y_fiZ oY166 (s_sub (by decide) hk)).trans (hz0 k hk)), ⟨by omega, by omega⟩, (by rw [y_atE o170]; exact h159), (by rw [y_fiZ oY166 (k := 5) (by decide), ← ev172, y_atE o170]; exact (fun hd hg => h160 hd (by omega))), (by rw [y_fiZ oY166 (k := 5) (by decide), ← ev172, y_atE o170]; exact (fun hg => y_JGc (by omega) (h161 (by omega)))), (by first | (rw [y_fiZ oY166 (k := 5) (by decide), ← ev172]; omega) | rw [y_fiZ oY166 (k := 5) (by decide), ← ev172]), rfl⟩

set_option maxHeartbeats 4000000 in
set_option maxRecDepth 100000 in
theorem y_X7_lines (l : Launch) (dC : Nat → ClassId) (dI : Nat → Nat → Nat) (sz : Nat) {L : List Nat} {K : Nat → Nat} {cs : Nat → ClassId} (hLK : ∀ a {k : Nat}, K a = k → k ≠ 0 → a ∈ L) (A : Nat → Nat) (hA : y_A K A) (F : Nat → va_E) (a0 : Nat) (ha0 : K a0 = 9) (hI : y_I K cs A F) : Met l yX7_lines (Cond.code yX7_lines cX7_lines 1 (some .int) :: T0) ({ frames := 0, cells := 0, slots := 0, locals := 0 }) (va_Pc [.ref a0] (s_W dC dI sz L F [(cs 0, .int), (cs 1, .byte), (cs 2, .long), (cs 3, .object RX5), (cs 4, .object RX4), (cs 5, .array .int), (cs 6, .char), (cs 7, .boolean)])) (va_Qi (fun (r : Int32) (G : Nat → va_E) => True ∧ True ∧ y_I K cs A G ∧ (∀ b, K b ∉ ([] : List Nat) → G b = F b) ∧ (∀ k, k ∈ ([1, 2, 3, 4, 5, 6, 7, 8, 11, 15, 16, 19, 25, 26, 27, 31, 32] : List Nat) → y_fi G a0 k = y_fi F a0 k) ∧ (r = y_c (y_at F (A 13)) 387)) (fun (G : Nat → va_E) (t : State) => va_P (dC, dI) vwCl (va_pl L G) t.heap ∧ va_K (dC, dI) vwCl [(cs 0, .int), (cs 1, .byte), (cs 2, .long), (cs 3, .object RX5), (cs 4, .object RX4), (cs 5, .array .int), (cs 6, .char), (cs 7, .boolean)] t) (fun q => q ∈ L)) 0 0 (fun q => q ∈ L) := by
  refine Met.ofW (cc := cX7_lines) (maxL := 1) (ret := (some .int)) (by decide) rfl ?_
  intro p e s m args below meth c s₁ B hml hv
  obtain ⟨rfl, hsz, hP, hK, hD, hN⟩ := hv
  have hx := B.exec
  have hb := B.bytes
  have hr := B.returns
  have hts : ∀ w ∈ T0, w.before _ s = true := fun w h => atoms_spec (ws := Cond.code yX7_lines cX7_lines 1 (some .int) :: T0) B.pre w (List.mem_cons_of_mem _ h)
  have hown : s.vm.findClass RX7 = some m.cls := findClass_of_methodNamed B.named
  have hlocks := B.notSynchronized
  have hS : va_S (fun q => q ∈ L) s.heap s.heap [] := va_S.rf
  have hfr : ∀ b, K b ∉ ([] : List Nat) → F b = F b := fun _ _ => rfl
  have hl := lv_entry ([.ref a0]) (n := 1) (Nat.le_of_ble_eq_true rfl)
  rw [lg_entry_eq]
  generalize (lg_sl ([.ref a0]) ++ List.replicate (1 - (lg_sl ([.ref a0])).length) Slot.unset).toArray = ls at hl ⊢
  have hl : lv_has ls 1 [(0, .ref a0)] := hl
  refine s_gen hP hS (fun H locs hP hS => ?_)
  obtain ⟨z0, q0, oY0, bz0, bq0⟩ := y_opY hI ha0
  have hz0 : ∀ k, k ∈ ([1, 2, 3, 4, 5, 6, 7, 8, 11, 15, 16, 19, 25, 26, 27, 31, 32] : List Nat) → z0 k = z0 k := fun _ _ => rfl
  obtain ⟨f1, o2, b3⟩ := y_op13 hI
  refine lv_aload_n hx hb dX7_lines_0 rfl (lv_at hl 0 rfl) ?_
  refine th_get (D := (dC, dI)) (ci := 7) (v := .ref (A 13)) (C := RX7) (T := TX7) (N := 34) hx hb hts inX7 hown hK hP (hLK _ ha0 (by decide)) oY0 rfl 13 (by decide) (hts _ T_246) (fun _ h9 => h9) rfl dX7_lines_1 ?_
  refine lv_sipush (v := 387) hx hb dX7_lines_4 (by decide) ?_
  refine th_iald hx hb hK hP (hLK _ (y_k13 hA) (by decide)) 0 o2 rfl (ax_in (by decide)) dX7_lines_7 ?_
  refine lv_topi (fun v4 ev4 => ?_)
  exact W.iret (v := v4) hx hb hr (fun t ht hW => ⟨⟨v4, F, rfl, ⟨trivial, trivial, hI, hfr, fun k hk => (y_fiZ oY0 (s_sub (by decide) hk)).trans ((hz0 k hk).trans (y_fiZ oY0 (s_sub (by decide) hk)).symm), (by rw [y_atE o2]; exact ev4)⟩, by rw [ht]; exact hP, va_K.moved hW.alike hK⟩, hS.F ht⟩) hS.2.2 dX7_lines_8

set_option maxHeartbeats 4000000 in
set_option maxRecDepth 100000 in
theorem y_X7_warps (l : Launch) (dC : Nat → ClassId) (dI : Nat → Nat → Nat) (sz : Nat) {L : List Nat} {K : Nat → Nat} {cs : Nat → ClassId} (hLK : ∀ a {k : Nat}, K a = k → k ≠ 0 → a ∈ L) (A : Nat → Nat) (hA : y_A K A) (F : Nat → va_E) (a0 : Nat) (ha0 : K a0 = 9) (hI : y_I K cs A F) : Met l yX7_warps (Cond.code yX7_warps cX7_warps 1 (some .int) :: T0) ({ frames := 0, cells := 0, slots := 0, locals := 0 }) (va_Pc [.ref a0] (s_W dC dI sz L F [(cs 0, .int), (cs 1, .byte), (cs 2, .long), (cs 3, .object RX5), (cs 4, .object RX4), (cs 5, .array .int), (cs 6, .char), (cs 7, .boolean)])) (va_Qi (fun (r : Int32) (G : Nat → va_E) => True ∧ True ∧ y_I K cs A G ∧ (∀ b, K b ∉ ([] : List Nat) → G b = F b) ∧ (∀ k, k ∈ ([1, 2, 3, 4, 5, 6, 7, 8, 11, 15, 16, 19, 25, 26, 27, 31, 32] : List Nat) → y_fi G a0 k = y_fi F a0 k) ∧ (r = y_c (y_at F (A 13)) 384)) (fun (G : Nat → va_E) (t : State) => va_P (dC, dI) vwCl (va_pl L G) t.heap ∧ va_K (dC, dI) vwCl [(cs 0, .int), (cs 1, .byte), (cs 2, .long), (cs 3, .object RX5), (cs 4, .object RX4), (cs 5, .array .int), (cs 6, .char), (cs 7, .boolean)] t) (fun q => q ∈ L)) 0 0 (fun q => q ∈ L) := by
  refine Met.ofW (cc := cX7_warps) (maxL := 1) (ret := (some .int)) (by decide) rfl ?_
  intro p e s m args below meth c s₁ B hml hv
  obtain ⟨rfl, hsz, hP, hK, hD, hN⟩ := hv
  have hx := B.exec
  have hb := B.bytes
  have hr := B.returns
  have hts : ∀ w ∈ T0, w.before _ s = true := fun w h => atoms_spec (ws := Cond.code yX7_warps cX7_warps 1 (some .int) :: T0) B.pre w (List.mem_cons_of_mem _ h)
  have hown : s.vm.findClass RX7 = some m.cls := findClass_of_methodNamed B.named
  have hlocks := B.notSynchronized
  have hS : va_S (fun q => q ∈ L) s.heap s.heap [] := va_S.rf
  have hfr : ∀ b, K b ∉ ([] : List Nat) → F b = F b := fun _ _ => rfl
  have hl := lv_entry ([.ref a0]) (n := 1) (Nat.le_of_ble_eq_true rfl)
  rw [lg_entry_eq]
  generalize (lg_sl ([.ref a0]) ++ List.replicate (1 - (lg_sl ([.ref a0])).length) Slot.unset).toArray = ls at hl ⊢
  have hl : lv_has ls 1 [(0, .ref a0)] := hl
  refine s_gen hP hS (fun H locs hP hS => ?_)
  obtain ⟨z0, q0, oY0, bz0, bq0⟩ := y_opY hI ha0
  have hz0 : ∀ k, k ∈ ([1, 2, 3, 4, 5, 6, 7, 8, 11, 15, 16, 19, 25, 26, 27, 31, 32] : List Nat) → z0 k = z0 k := fun _ _ => rfl
  obtain ⟨f1, o2, b3⟩ := y_op13 hI
  refine lv_aload_n hx hb dX7_warps_0 rfl (lv_at hl 0 rfl) ?_
  refine th_get (D := (dC, dI)) (ci := 7) (v := .ref (A 13)) (C := RX7) (T := TX7) (N := 34) hx hb hts inX7 hown hK hP (hLK _ ha0 (by decide)) oY0 rfl 13 (by decide) (hts _ T_246) (fun _ h9 => h9) rfl dX7_warps_1 ?_
  refine lv_sipush (v := 384) hx hb dX7_warps_4 (by decide) ?_
  refine th_iald hx hb hK hP (hLK _ (y_k13 hA) (by decide)) 0 o2 rfl (ax_in (by decide)) dX7_warps_7 ?_
  refine lv_topi (fun v4 ev4 => ?_)
  exact W.iret (v := v4) hx hb hr (fun t ht hW => ⟨⟨v4, F, rfl, ⟨trivial, trivial, hI, hfr, fun k hk => (y_fiZ oY0 (s_sub (by decide) hk)).trans ((hz0 k hk).trans (y_fiZ oY0 (s_sub (by decide) hk)).symm), (by rw [y_atE o2]; exact ev4)⟩, by rw [ht]; exact hP, va_K.moved hW.alike hK⟩, hS.F ht⟩) hS.2.2 dX7_warps_8

set_option maxHeartbeats 4000000 in
set_option maxRecDepth 100000 in
theorem y_X7_of (l : Launch) (dC : Nat → ClassId) (dI : Nat → Nat → Nat) (sz : Nat) {L : List Nat} {K : Nat → Nat} {cs : Nat → ClassId} (hLK : ∀ a {k : Nat}, K a = k → k ≠ 0 → a ∈ L) (A : Nat → Nat) (hA : y_A K A) (F : Nat → va_E) (a0 : Nat) (x1 : Int32) (x2 : Int32) (ha0 : K a0 = 9) (hx1 : 0 ≤ x1.toInt ∧ x1.toInt ≤ 40) (hx2 : 0 ≤ x2.toInt ∧ x2.toInt ≤ 7) (hI : y_I K cs A F) : Met l yX7_of (Cond.code yX7_of cX7_of 3 (some .int) :: T0) ({ frames := 1, cells := 0, slots := 0, locals := 21 }) (va_Pc [.ref a0, .int x1, .int x2] (s_W dC dI sz L F [(cs 0, .int), (cs 1, .byte), (cs 2, .long), (cs 3, .object RX5), (cs 4, .object RX4), (cs 5, .array .int), (cs 6, .char), (cs 7, .boolean)])) (va_Qi (fun (r : Int32) (G : Nat → va_E) => True ∧ True ∧ y_I K cs A G ∧ (∀ b, K b ∉ ([] : List Nat) → G b = F b) ∧ (∀ k, k ∈ ([1, 2, 3, 4, 5, 6, 7, 8, 11, 15, 16, 19, 25, 26, 27, 31, 32] : List Nat) → y_fi G a0 k = y_fi F a0 k) ∧ (r = y_c (y_at F (A 13)) (8 * x1.toInt + x2.toInt))) (fun (G : Nat → va_E) (t : State) => va_P (dC, dI) vwCl (va_pl L G) t.heap ∧ va_K (dC, dI) vwCl [(cs 0, .int), (cs 1, .byte), (cs 2, .long), (cs 3, .object RX5), (cs 4, .object RX4), (cs 5, .array .int), (cs 6, .char), (cs 7, .boolean)] t) (fun q => q ∈ L)) 0 0 (fun q => q ∈ L) := by
  refine Met.ofW (cc := cX7_of) (maxL := 3) (ret := (some .int)) (by decide) rfl ?_
  intro p e s m args below meth c s₁ B hml hv
  obtain ⟨rfl, hsz, hP, hK, hD, hN⟩ := hv
  have hx := B.exec
  have hb := B.bytes
  have hr := B.returns
  have hts : ∀ w ∈ T0, w.before _ s = true := fun w h => atoms_spec (ws := Cond.code yX7_of cX7_of 3 (some .int) :: T0) B.pre w (List.mem_cons_of_mem _ h)
  have hown : s.vm.findClass RX7 = some m.cls := findClass_of_methodNamed B.named
  have hlocks := B.notSynchronized
  have hS : va_S (fun q => q ∈ L) s.heap s.heap [] := va_S.rf
  have hfr : ∀ b, K b ∉ ([] : List Nat) → F b = F b := fun _ _ => rfl
  have hl := lv_entry ([.ref a0, .int x1, .int x2]) (n := 3) (Nat.le_of_ble_eq_true rfl)
  rw [lg_entry_eq]
  generalize (lg_sl ([.ref a0, .int x1, .int x2]) ++ List.replicate (3 - (lg_sl ([.ref a0, .int x1, .int x2])).length) Slot.unset).toArray = ls at hl ⊢
  have hl : lv_has ls 3 [(0, .ref a0), (1, .int x1), (2, .int x2)] := hl
  refine s_gen hP hS (fun H locs hP hS => ?_)
  obtain ⟨z0, q0, oY0, bz0, bq0⟩ := y_opY hI ha0
  have hz0 : ∀ k, k ∈ ([1, 2, 3, 4, 5, 6, 7, 8, 11, 15, 16, 19, 25, 26, 27, 31, 32] : List Nat) → z0 k = z0 k := fun _ _ => rfl
  obtain ⟨f1, o2, b3⟩ := y_op13 hI
  refine lv_aload_n hx hb dX7_of_0 rfl (lv_at hl 0 rfl) ?_
  refine th_get (D := (dC, dI)) (ci := 7) (v := .ref (A 13)) (C := RX7) (T := TX7) (N := 34) hx hb hts inX7 hown hK hP (hLK _ ha0 (by decide)) oY0 rfl 13 (by decide) (hts _ T_246) (fun _ h9 => h9) rfl dX7_of_1 ?_
  refine lv_iload_n hx hb dX7_of_4 rfl (lv_at hl 1 rfl) ?_
  refine lv_iload_n hx hb dX7_of_5 rfl (lv_at hl 2 rfl) ?_
  refine va_calli (va_runS (As := [.int x1, .int x2]) (rest := [.ref (A 13)]) ⟨hx, hb, hml, hown, hts⟩ (y_X7_lineAt l dC dI H.size F x1 x2 (⟨by omega, by omega⟩) (⟨by omega, by omega⟩)) (cwS 2 hts (ax_gS T_1216 T_1218 T_265 T_1217) rfl rfl rfl (by decide +kernel) ⟨Nat.le_of_ble_eq_true rfl, Nat.le_of_ble_eq_true rfl⟩) ⟨fun a U g mk q => ⟨q.1, s_pc rfl rfl q.2⟩, fun U hU hW => ⟨rfl, s_pw hU hW hP hK hD hN⟩⟩ rfl rfl hl.1 rfl (lv_room (Nat.le_of_ble_eq_true rfl)) dX7_of_6 ⟨Nat.zero_le _, Nat.zero_le _⟩) hS (fun q _ h => h) (fun q h => h) (fun r5 F6 t H1 locs ht hvm hw hB hz1 hk1 hS => ?_)
  obtain ⟨hP, hK1⟩ := hB
  rw [ht] at hP
  generalize H1 = H at hP hS ⊢
  obtain ⟨h7, h9, hG9, h8⟩ := hw
  rw [hG9] at hP
  have h8 : (r5.toInt = 8 * x1.toInt + x2.toInt) := by have q9 := h8; exact q9
  refine th_iald hx hb hK hP (hLK _ (y_k13 hA) (by decide)) 0 o2 rfl (th_in ⟨by omega, by omega⟩) dX7_of_9 ?_
  refine lv_topi (fun v10 ev10 => ?_)
  exact W.iret (v := v10) hx hb hr (fun t ht hW => ⟨⟨v10, F, rfl, ⟨trivial, trivial, hI, hfr, fun k hk => (y_fiZ oY0 (s_sub (by decide) hk)).trans ((hz0 k hk).trans (y_fiZ oY0 (s_sub (by decide) hk)).symm), (by rw [y_atE o2]; exact (ev10.trans (y_ci h8)))⟩, by rw [ht]; exact hP, va_K.moved hW.alike hK⟩, hS.F ht⟩) hS.2.2 dX7_of_10

set_option maxHeartbeats 4000000 in
set_option maxRecDepth 100000 in
theorem y_X7_isFork (l : Launch) (dC : Nat → ClassId) (dI : Nat → Nat → Nat) (sz : Nat) {L : List Nat} {K : Nat → Nat} {cs : Nat → ClassId} (hLK : ∀ a {k : Nat}, K a = k → k ≠ 0 → a ∈ L) (A : Nat → Nat) (hA : y_A K A) (F : Nat → va_E) (a0 : Nat) (x1 : Int32) (ha0 : K a0 = 9) (hx1 : 0 ≤ x1.toInt ∧ x1.toInt ≤ 40) (hI : y_I K cs A F) : Met l yX7_isFork (Cond.code yX7_isFork cX7_isFork 2 (some .boolean) :: T0) ({ frames := 2, cells := 0, slots := 0, locals := 43 }) (va_Pc [.ref a0, .int x1] (s_W dC dI sz L F [(cs 0, .int), (cs 1, .byte), (cs 2, .long), (cs 3, .object RX5), (cs 4, .object RX4), (cs 5, .array .int), (cs 6, .char), (cs 7, .boolean)])) (va_Qi (fun (r : Int32) (G : Nat → va_E) => (0 ≤ r.toInt ∧ r.toInt ≤ 1) ∧ True ∧ y_I K cs A G ∧ (∀ b, K b ∉ ([] : List Nat) → G b = F b) ∧ (∀ k, k ∈ ([1, 2, 3, 4, 5, 6, 7, 8, 11, 15, 16, 19, 25, 26, 27, 31, 32] : List Nat) → y_fi G a0 k = y_fi F a0 k) ∧ ((r.toInt = 1 ∧ (y_c (y_at F (A 13)) (8 * x1.toInt)).toInt = 12 ∧ ¬ (y_c (y_at F (A 13)) (8 * x1.toInt + 5)).toInt = -1000000) ∨ (r.toInt = 0 ∧ (¬ (y_c (y_at F (A 13)) (8 * x1.toInt)).toInt = 12 ∨ (y_c (y_at F (A 13)) (8 * x1.toInt + 5)).toInt = -1000000)))) (fun (G : Nat → va_E) (t : State) => va_P (dC, dI) vwCl (va_pl L G) t.heap ∧ va_K (dC, dI) vwCl [(cs 0, .int), (cs 1, .byte), (cs 2, .long), (cs 3, .object RX5), (cs 4, .object RX4), (cs 5, .array .int), (cs 6, .char), (cs 7, .boolean)] t) (fun q => q ∈ L)) 0 0 (fun q => q ∈ L) := by
  refine Met.ofW (cc := cX7_isFork) (maxL := 2) (ret := (some .boolean)) (by decide) rfl ?_
  intro p e s m args below meth c s₁ B hml hv
  obtain ⟨rfl, hsz, hP, hK, hD, hN⟩ := hv
  have hx := B.exec
  have hb := B.bytes
  have hr := B.returns
  have hts : ∀ w ∈ T0, w.before _ s = true := fun w h => atoms_spec (ws := Cond.code yX7_isFork cX7_isFork 2 (some .boolean) :: T0) B.pre w (List.mem_cons_of_mem _ h)
  have hown : s.vm.findClass RX7 = some m.cls := findClass_of_methodNamed B.named
  have hlocks := B.notSynchronized
  have hS : va_S (fun q => q ∈ L) s.heap s.heap [] := va_S.rf
  have hfr : ∀ b, K b ∉ ([] : List Nat) → F b = F b := fun _ _ => rfl
  have hl := lv_entry ([.ref a0, .int x1]) (n := 2) (Nat.le_of_ble_eq_true rfl)
  rw [lg_entry_eq]
  generalize (lg_sl ([.ref a0, .int x1]) ++ List.replicate (2 - (lg_sl ([.ref a0, .int x1])).length) Slot.unset).toArray = ls at hl ⊢
  have hl : lv_has ls 2 [(0, .ref a0), (1, .int x1)] := hl
  refine s_gen hP hS (fun H locs hP hS => ?_)
  obtain ⟨z0, q0, oY0, bz0, bq0⟩ := y_opY hI ha0
  have hz0 : ∀ k, k ∈ ([1, 2, 3, 4, 5, 6, 7, 8, 11, 15, 16, 19, 25, 26, 27, 31, 32] : List Nat) → z0 k = z0 k := fun _ _ => rfl
  obtain ⟨f1, o2, b3⟩ := y_op13 hI
  refine lv_aload_n hx hb dX7_isFork_0 rfl (lv_at hl 0 rfl) ?_
  refine lv_iload_n hx hb dX7_isFork_1 rfl (lv_at hl 1 rfl) ?_
  refine lv_iconst (v := 0) hx hb dX7_isFork_2 (by decide) ?_
  refine va_calli (va_runV (As := [.int x1, .int 0]) (rest := []) ⟨hx, hb, hml, hown, hts⟩ (y_X7_of l dC dI H.size hLK A hA F a0 x1 0 ha0 (⟨by omega, by omega⟩) (by decide) hI) (cwV 2 hts (ax_gV T_1131 T_1133 T_1134 T_265 T_1132) rfl rfl rfl (by decide +kernel) ⟨Nat.le_of_ble_eq_true rfl, Nat.le_of_ble_eq_true rfl⟩) ⟨fun a U g mk q => ⟨q.1, s_pc rfl rfl q.2⟩, s_recv hK hP (hLK _ ha0 (by decide)) (ci := 7) rfl oY0, fun U hU hW => ⟨rfl, s_pw hU hW hP hK hD hN⟩⟩ rfl rfl hl.1 rfl (lv_room (Nat.le_of_ble_eq_true rfl)) dX7_isFork_3 ⟨Nat.zero_le _, Nat.zero_le _⟩) hS (fun q _ h => h) (fun q h => h) (fun r5 F6 t H1 locs ht hvm hw hB hz1 hk1 hS => ?_)
  obtain ⟨hP, hK1⟩ := hB
  rw [ht] at hP
  generalize H1 = H at hP hS ⊢
  obtain ⟨h7, h9, hI, hfr1, hzf, h8⟩ := hw
  have o10 : F6 (A 13) = .inl (cs 0, 400, .inl f1) := (hfr1 _ (by rw [(y_k13 hA)]; decide)).trans o2
  have oY11 : F6 a0 = .inr (7, y_fl A z0 q0) := (hfr1 _ (by rw [ha0]; decide)).trans oY0
  have hfr : ∀ b, K b ∉ ([] : List Nat) → F6 b = F b := fun b hb9 => (hfr1 b (fun q => hb9 (s_sub (by decide) q))).trans (hfr b hb9)
  have h8 : (r5 = y_c f1 (8 * x1.toInt + 0)) := by have q9 := h8; rw [y_atE o2] at q9; exact q9
  have h8 : r5 = y_c f1 (8 * x1.toInt) := h8.trans (congrArg (y_c f1) (by omega))
  have h12 := congrArg Int32.toInt h8
  refine lv_bipush (v := 12) hx hb dX7_isFork_6 (by decide) ?_
  refine lv_icmp_ne (tgt := 26) hx hb dX7_isFork_8 (by decide) (fun c13 => ?_) (fun c13 => ?_)
  · have c13 := mt (ax_eq (n := 12) (by decide)).mpr c13
    refine lv_iconst (v := 0) hx hb dX7_isFork_26 (by decide) ?_
    have h14 : (0 : Int32).toInt = 0 := by decide
    exact W.zret (v := 0) (ty := .boolean) hx hb hr (by decide) (fun t ht hW => ⟨⟨0, F6, rfl, ⟨(by decide), trivial, hI, hfr, fun k hk => (y_fiZ oY11 (s_sub (by decide) hk)).trans ((hz0 k hk).trans (y_fiZ oY0 (s_sub (by decide) hk)).symm), (by first | (rw [y_atE o2]; omega) | rw [y_atE o2])⟩, by rw [ht]; exact hP, va_K.moved hW.alike hK⟩, hS.F ht⟩) hS.2.2 dX7_isFork_27
  · have c13 := (ax_eq (n := 12) (by decide)).mp c13
    refine lv_aload_n hx hb dX7_isFork_11 rfl (lv_at hl 0 rfl) ?_
    refine lv_iload_n hx hb dX7_isFork_12 rfl (lv_at hl 1 rfl) ?_
    refine lv_iconst (v := 5) hx hb dX7_isFork_13 (by decide) ?_
    refine va_calli (va_runV (As := [.int x1, .int 5]) (rest := []) ⟨hx, hb, hml, hown, hts⟩ (y_X7_of l dC dI H.size hLK A hA F6 a0 x1 5 ha0 (⟨by omega, by omega⟩) (by decide) hI) (cwV 2 hts (ax_gV T_1131 T_1133 T_1134 T_265 T_1132) rfl rfl rfl (by decide +kernel) ⟨Nat.le_of_ble_eq_true rfl, Nat.le_of_ble_eq_true rfl⟩) ⟨fun a U g mk q => ⟨q.1, s_pc rfl rfl q.2⟩, s_recv hK hP (hLK _ ha0 (by decide)) (ci := 7) rfl oY11, fun U hU hW => ⟨rfl, s_pw hU hW hP hK hD hN⟩⟩ rfl rfl hl.1 rfl (lv_room (Nat.le_of_ble_eq_true rfl)) dX7_isFork_14 ⟨Nat.zero_le _, Nat.zero_le _⟩) hS (fun q _ h => h) (fun q h => h) (fun r16 F17 t H1 locs ht hvm hw hB hz1 hk1 hS => ?_)
    obtain ⟨hP, hK1⟩ := hB
    rw [ht] at hP
    generalize H1 = H at hP hS ⊢
    obtain ⟨h18, h20, hI, hfr1, hzf, h19⟩ := hw
    have o21 : F17 (A 13) = .inl (cs 0, 400, .inl f1) := (hfr1 _ (by rw [(y_k13 hA)]; decide)).trans o10
    have oY22 : F17 a0 = .inr (7, y_fl A z0 q0) := (hfr1 _ (by rw [ha0]; decide)).trans oY11
    have hfr : ∀ b, K b ∉ ([] : List Nat) → F17 b = F b := fun b hb9 => (hfr1 b (fun q => hb9 (s_sub (by decide) q))).trans (hfr b hb9)
    have h19 : (r16 = y_c f1 (8 * x1.toInt + 5)) := by have q9 := h19; rw [y_atE o10] at q9; exact q9
    have h19 : r16 = y_c f1 (8 * x1.toInt + 5) := h19.trans (congrArg (y_c f1) (by omega))
    have h23 := congrArg Int32.toInt h19
    refine lv_ldc (v := (-1000000)) hx hb hown (hts _ T_316) dX7_isFork_17 ?_
    refine lv_icmp_eq (tgt := 26) hx hb dX7_isFork_19 (by decide) (fun c24 => ?_) (fun c24 => ?_)
    · have c24 := (ax_eq (n := (-1000000)) (by decide)).mp c24
      refine lv_iconst (v := 0) hx hb dX7_isFork_26 (by decide) ?_
      have h25 : (0 : Int32).toInt = 0 := by decide
      exact W.zret (v := 0) (ty := .boolean) hx hb hr (by decide) (fun t ht hW => ⟨⟨0, F17, rfl, ⟨(by decide), trivial, hI, hfr, fun k hk => (y_fiZ oY22 (s_sub (by decide) hk)).trans ((hz0 k hk).trans (y_fiZ oY0 (s_sub (by decide) hk)).symm), (by first | (rw [y_atE o2]; omega) | rw [y_atE o2])⟩, by rw [ht]; exact hP, va_K.moved hW.alike hK⟩, hS.F ht⟩) hS.2.2 dX7_isFork_27
    · have c24 := mt (ax_eq (n := (-1000000)) (by decide)).mpr c24
      refine lv_iconst (v := 1) hx hb dX7_isFork_22 (by decide) ?_
      refine lv_goto (tgt := 27) hx hb dX7_isFork_23 (by decide) ?_
      have h26 : (1 : Int32).toInt = 1 := by decide
      exact W.zret (v := 1) (ty := .boolean) hx hb hr (by decide) (fun t ht hW => ⟨⟨1, F17, rfl, ⟨(by decide), trivial, hI, hfr, fun k hk => (y_fiZ oY22 (s_sub (by decide) hk)).trans ((hz0 k hk).trans (y_fiZ oY0 (s_sub (by decide) hk)).symm), (by first | (rw [y_atE o2]; omega) | rw [y_atE o2])⟩, by rw [ht]; exact hP, va_K.moved hW.alike hK⟩, hS.F ht⟩) hS.2.2 dX7_isFork_27

set_option maxHeartbeats 4000000 in
set_option maxRecDepth 100000 in
theorem y_X7_comesTo (l : Launch) (dC : Nat → ClassId) (dI : Nat → Nat → Nat) (sz : Nat) {L : List Nat} {K : Nat → Nat} {cs : Nat → ClassId} (hLK : ∀ a {k : Nat}, K a = k → k ≠ 0 → a ∈ L) (A : Nat → Nat) (hA : y_A K A) (F : Nat → va_E) (a0 : Nat) (x1 : Int32) (x2 : Int32) (ha0 : K a0 = 9) (hx1 : 0 ≤ x1.toInt ∧ x1.toInt ≤ 40) (hx2 : -1 ≤ x2.toInt ∧ x2.toInt ≤ 40) (hI : y_I K cs A F) (hCM : y_CM (y_at F (A 17)) (y_at F (A 18)) (y_fi F a0 19).toInt (y_c (y_at F (A 13)) 387).toInt) (hxl : x1.toInt ≤ (y_c (y_at F (A 13)) 387).toInt) : Met l yX7_comesTo (Cond.code yX7_comesTo cX7_comesTo 3 none :: T0) ({ frames := 0, cells := 0, slots := 0, locals := 0 }) (va_Pc [.ref a0, .int x1, .int x2] (s_W dC dI sz L F [(cs 0, .int), (cs 1, .byte), (cs 2, .long), (cs 3, .object RX5), (cs 4, .object RX4), (cs 5, .array .int), (cs 6, .char), (cs 7, .boolean)])) (va_Qv (fun (G : Nat → va_E) => True ∧ True ∧ y_I K cs A G ∧ (∀ b, K b ∉ [9, 67, 68] → G b = F b) ∧ (∀ k, k ∈ ([1, 2, 3, 4, 5, 6, 7, 8, 11, 15, 16, 25, 26, 27, 31, 32] : List Nat) → y_fi G a0 k = y_fi F a0 k) ∧ (y_CM (y_at G (A 17)) (y_at G (A 18)) (y_fi G a0 19).toInt (y_c (y_at F (A 13)) 387).toInt)) (fun (G : Nat → va_E) (t : State) => va_P (dC, dI) vwCl (va_pl L G) t.heap ∧ va_K (dC, dI) vwCl [(cs 0, .int), (cs 1, .byte), (cs 2, .long), (cs 3, .object RX5), (cs 4, .object RX4), (cs 5, .array .int), (cs 6, .char), (cs 7, .boolean)] t) (fun q => q ∈ L)) 0 0 (fun q => q ∈ L) := by
  refine Met.ofW (cc := cX7_comesTo) (maxL := 3) (ret := none) (by decide) rfl ?_
  intro p e s m args below meth c s₁ B hml hv
  obtain ⟨rfl, hsz, hP, hK, hD, hN⟩ := hv
  have hx := B.exec
  have hb := B.bytes
  have hr := B.returns
  have hts : ∀ w ∈ T0, w.before _ s = true := fun w h => atoms_spec (ws := Cond.code yX7_comesTo cX7_comesTo 3 none :: T0) B.pre w (List.mem_cons_of_mem _ h)
  have hown : s.vm.findClass RX7 = some m.cls := findClass_of_methodNamed B.named
  have hlocks := B.notSynchronized
  have hS : va_S (fun q => q ∈ L) s.heap s.heap [] := va_S.rf
  have hfr : ∀ b, K b ∉ [9, 67, 68] → F b = F b := fun _ _ => rfl
  have hl := lv_entry ([.ref a0, .int x1, .int x2]) (n := 3) (Nat.le_of_ble_eq_true rfl)
  rw [lg_entry_eq]
  generalize (lg_sl ([.ref a0, .int x1, .int x2]) ++ List.replicate (3 - (lg_sl ([.ref a0, .int x1, .int x2])).length) Slot.unset).toArray = ls at hl ⊢
  have hl : lv_has ls 3 [(0, .ref a0), (1, .int x1), (2, .int x2)] := hl
  refine s_gen hP hS (fun H locs hP hS => ?_)
  obtain ⟨z0, q0, oY0, bz0, bq0⟩ := y_opY hI ha0
  have hz0 : ∀ k, k ∈ ([1, 2, 3, 4, 5, 6, 7, 8, 11, 15, 16, 25, 26, 27, 31, 32] : List Nat) → z0 k = z0 k := fun _ _ => rfl
  obtain ⟨f1, o2, b3⟩ := y_op13 hI
  obtain ⟨f4, o5, b6⟩ := y_op17 hI
  obtain ⟨f7, o8, b9⟩ := y_op18 hI
  obtain ⟨v10, ev10⟩ : ∃ y : Int32, y = z0 19 := ⟨_, rfl⟩
  have qv10 : 0 ≤ v10.toInt ∧ v10.toInt ≤ 41 := by rw [ev10]; exact y_bY19 bz0
  have eF_19 := ev10
  have hCM : y_CM f4 f7 v10.toInt (y_c f1 387).toInt := by have q9 := hCM; rw [y_atE o5, y_atE o8, y_fiZ oY0 (k := 19) (by decide), ← ev10, y_atE o2] at q9; exact q9
  have hxl : x1.toInt ≤ (y_c f1 387).toInt := by have q9 := hxl; rw [y_atE o2] at q9; exact q9
  have e0_v10 := ev10
  refine lv_iload_n hx hb dX7_comesTo_0 rfl (lv_at hl 1 rfl) ?_
  refine lv_iload_n hx hb dX7_comesTo_1 rfl (lv_at hl 2 rfl) ?_
  refine lv_icmp_eq (tgt := 14) hx hb dX7_comesTo_2 (by decide) (fun c11 => ?_) (fun c11 => ?_)
  · have c11 := Int32.toInt_inj.symm.mp c11
    exact W.vret hx hb hr (fun t ht hW => ⟨⟨F, rfl, ⟨trivial, trivial, hI, hfr, fun k hk => (y_fiZ oY0 (s_sub (by decide) hk)).trans ((hz0 k hk).trans (y_fiZ oY0 (s_sub (by decide) hk)).symm), (by rw [y_atE o5, y_atE o8, y_fiZ oY0 (k := 19) (by decide), ← ev10, y_atE o2]; exact hCM)⟩, by rw [ht]; exact hP, va_K.moved hW.alike hK⟩, hS.F ht⟩) hS.2.2 dX7_comesTo_14
  · have c11 := mt Int32.toInt_inj.symm.mpr c11
    refine lv_aload_n hx hb dX7_comesTo_5 rfl (lv_at hl 0 rfl) ?_
    refine th_get (D := (dC, dI)) (ci := 7) (v := .ref (A 17)) (C := RX7) (T := TX7) (N := 34) hx hb hts inX7 hown hK hP (hLK _ ha0 (by decide)) oY0 rfl 17 (by decide) (hts _ T_249) (fun _ h9 => h9) rfl dX7_comesTo_6 ?_
    refine lv_iload_n hx hb dX7_comesTo_9 rfl (lv_at hl 1 rfl) ?_
    refine th_zald hx hb hK hP (hLK _ (y_k17 hA) (by decide)) 7 o5 rfl (th_in ⟨by omega, by omega⟩) dX7_comesTo_10 ?_
    refine lv_topi (fun v12 ev12 => ?_)
    have qv12 : 0 ≤ v12.toInt ∧ v12.toInt ≤ 1 := by rw [ev12]; exact b6 _ (th_cl ⟨by omega, by omega⟩)
    refine lv_if_eq (tgt := 15) hx hb dX7_comesTo_11 (by decide) (fun c13 => ?_) (fun c13 => ?_)
    · have c13 := (ax_eq (n := 0) (by decide)).mp c13
      have hc0 : f4 x1.toNatClampNeg = 0 := by rw [← ev12]; exact Int32.toInt_inj.mp (by rw [c13]; decide)
      refine lv_aload_n hx hb dX7_comesTo_15 rfl (lv_at hl 0 rfl) ?_
      refine th_get (D := (dC, dI)) (ci := 7) (v := .ref (A 17)) (C := RX7) (T := TX7) (N := 34) hx hb hts inX7 hown hK hP (hLK _ ha0 (by decide)) oY0 rfl 17 (by decide) (hts _ T_249) (fun _ h9 => h9) rfl dX7_comesTo_16 ?_
      refine lv_iload_n hx hb dX7_comesTo_19 rfl (lv_at hl 1 rfl) ?_
      refine lv_iconst (v := 1) hx hb dX7_comesTo_20 (by decide) ?_
      refine th_zast hx hb hK hP hD hS (hLK _ (y_k17 hA) (by decide)) 7 o5 rfl (th_in ⟨by omega, by omega⟩) dX7_comesTo_21 (fun H locs hP hS => ?_)
      obtain ⟨f14, u15⟩ : ∃ g : Nat → Int32, g = upd f4 (x1 : Int32).toNatClampNeg (vp_nar .boolean 1) := ⟨_, rfl⟩
      rw [← u15] at hP
      have b16 : y_bd 17 f14 := by rw [u15]; exact th_updB b6 (by decide)
      have hP : va_P (dC, dI) vwCl (va_pl L (va_up F (A 17) (.inl (cs 7, 41, .inl f14)))) H := hP
      obtain ⟨F17, hF18⟩ : ∃ G : Nat → va_E, G = va_up F (A 17) (.inl (cs 7, 41, .inl f14)) := ⟨_, rfl⟩
      rw [← hF18] at hP
      have hI : y_I K cs A F17 := by rw [hF18]; exact y_clA (i := 17) hA hI (by decide) b16
      have hfr : ∀ b, K b ∉ [9, 67, 68] → F17 b = F b := by rw [hF18]; exact s_fr hfr (y_k17 hA) (by decide)
      have o19 : F17 (A 13) = .inl (cs 0, 400, .inl f1) := by rw [hF18]; exact th_ne (th_kd (y_k13 hA) (y_k17 hA) (by decide)) o2
      have o20 : F17 (A 18) = .inl (cs 0, 41, .inl f7) := by rw [hF18]; exact th_ne (th_kd (y_k18 hA) (y_k17 hA) (by decide)) o8
      have oY21 : F17 a0 = .inr (7, y_fl A z0 q0) := by rw [hF18]; exact th_ne (th_kd ha0 (y_k17 hA) (by decide)) oY0
      have o22 : F17 (A 17) = .inl (cs 7, 41, .inl f14) := by rw [hF18]; exact th_up
      have u23 : ∀ j : Int, 0 ≤ j → y_c f14 j = if j = x1.toInt then (vp_nar .boolean 1) else y_c f4 j := by rw [u15]; exact y_cu rfl (by omega)
      refine lv_aload_n hx hb dX7_comesTo_22 rfl (lv_at hl 0 rfl) ?_
      refine th_get (D := (dC, dI)) (ci := 7) (v := .ref (A 18)) (C := RX7) (T := TX7) (N := 34) hx hb hts inX7 hown hK hP (hLK _ ha0 (by decide)) oY21 rfl 18 (by decide) (hts _ T_250) (fun _ h9 => h9) rfl dX7_comesTo_23 ?_
      refine lv_aload_n hx hb dX7_comesTo_26 rfl (lv_at hl 0 rfl) ?_
      refine th_get (D := (dC, dI)) (ci := 7) (v := .int (z0 19)) (C := RX7) (T := TX7) (N := 34) hx hb hts inX7 hown hK hP (hLK _ ha0 (by decide)) oY21 rfl 19 (by decide) (hts _ T_1093) (fun _ h9 => h9) rfl dX7_comesTo_27 ?_
      refine ax_eqi (y := v10) ev10.symm ?_
      have h24 : 0 ≤ v10.toInt ∧ v10.toInt ≤ 40 := y_CM40 (i := x1) hCM ⟨by omega, by omega⟩ hc0
      refine lv_iload_n hx hb dX7_comesTo_30 rfl (lv_at hl 1 rfl) ?_
      refine th_iast hx hb hK hP hD hS (hLK _ (y_k18 hA) (by decide)) 0 o20 rfl (th_in ⟨by omega, by omega⟩) dX7_comesTo_31 (fun H locs hP hS => ?_)
      obtain ⟨f25, u26⟩ : ∃ g : Nat → Int32, g = upd f7 (v10 : Int32).toNatClampNeg x1 := ⟨_, rfl⟩
      rw [← u26] at hP
      have b27 : y_bd 18 f25 := by rw [u26]; exact th_updB b9 ⟨by omega, by omega⟩
      have hP : va_P (dC, dI) vwCl (va_pl L (va_up F17 (A 18) (.inl (cs 0, 41, .inl f25)))) H := hP
      obtain ⟨F28, hF29⟩ : ∃ G : Nat → va_E, G = va_up F17 (A 18) (.inl (cs 0, 41, .inl f25)) := ⟨_, rfl⟩
      rw [← hF29] at hP
      have hI : y_I K cs A F28 := by rw [hF29]; exact y_clA (i := 18) hA hI (by decide) b27
      have hfr : ∀ b, K b ∉ [9, 67, 68] → F28 b = F b := by rw [hF29]; exact s_fr hfr (y_k18 hA) (by decide)
      have o30 : F28 (A 13) = .inl (cs 0, 400, .inl f1) := by rw [hF29]; exact th_ne (th_kd (y_k13 hA) (y_k18 hA) (by decide)) o19
      have o31 : F28 (A 17) = .inl (cs 7, 41, .inl f14) := by rw [hF29]; exact th_ne (th_kd (y_k17 hA) (y_k18 hA) (by decide)) o22
      have oY32 : F28 a0 = .inr (7, y_fl A z0 q0) := by rw [hF29]; exact th_ne (th_kd ha0 (y_k18 hA) (by decide)) oY21
      have o33 : F28 (A 18) = .inl (cs 0, 41, .inl f25) := by rw [hF29]; exact th_up
      have u34 : ∀ j : Int, 0 ≤ j → y_c f25 j = if j = v10.toInt then x1 else y_c f7 j := by rw [u26]; exact y_cu rfl (by omega)
      refine lv_aload_n hx hb dX7_comesTo_32 rfl (lv_at hl 0 rfl) ?_
      refine lv_dup hx hb dX7_comesTo_33 rfl ?_
      refine th_get (D := (dC, dI)) (ci := 7) (v := .int (z0 19)) (C := RX7) (T := TX7) (N := 34) hx hb hts inX7 hown hK hP (hLK _ ha0 (by decide)) oY32 rfl 19 (by decide) (hts _ T_1093) (fun _ h9 => h9) rfl dX7_comesTo_34 ?_
      refine ax_eqi (y := v10) ev10.symm ?_
      refine lv_iconst (v := 1) hx hb dX7_comesTo_37 (by decide) ?_
      refine lv_iadd hx hb dX7_comesTo_38 ?_
      refine lv_topi (fun v35 ev35 => ?_)
      have qv35 : v35.toInt = v10.toInt + 1 := by rw [ev35]; exact th_add rfl (by decide) ⟨by omega, by omega⟩
      refine th_put (D := (dC, dI)) (ci := 7) (v := .int v35) (ty := .int) (C := RX7) (T := TX7) (N := 34) hx hb hts inX7 tyX7 tyX7_ok nmX7 hown hK hP hD hS (hLK _ ha0 (by decide)) oY32 rfl 19 (by decide) (hts _ T_1093) (fun _ h9 => h9) rfl (by decide +kernel) rfl rfl (Nat.le_of_ble_eq_true rfl) dX7_comesTo_39 (fun H locs hP hS => ?_)
      rw [y_fs19] at hP
      obtain ⟨z36, hz37⟩ : ∃ g : Nat → Int32, g = upd z0 19 v35 := ⟨_, rfl⟩
      rw [← hz37] at hP
      have bz38 : y_bY z36 := by rw [hz37]; exact y_bp19 bz0 ⟨by omega, by omega⟩
      have hP : va_P (dC, dI) vwCl (va_pl L (va_up F28 a0 (.inr (7, y_fl A z36 q0)))) H := hP
      obtain ⟨F39, hF40⟩ : ∃ G : Nat → va_E, G = va_up F28 a0 (.inr (7, y_fl A z36 q0)) := ⟨_, rfl⟩
      rw [← hF40] at hP
      have hI : y_I K cs A F39 := by rw [hF40]; exact y_clY hA hI ha0 bz38 bq0
      have hfr : ∀ b, K b ∉ [9, 67, 68] → F39 b = F b := by rw [hF40]; exact s_fr hfr ha0 (by decide)
      have o41 : F39 (A 13) = .inl (cs 0, 400, .inl f1) := by rw [hF40]; exact th_ne (th_kd (y_k13 hA) ha0 (by decide)) o30
      have o42 : F39 (A 17) = .inl (cs 7, 41, .inl f14) := by rw [hF40]; exact th_ne (th_kd (y_k17 hA) ha0 (by decide)) o31
      have o43 : F39 (A 18) = .inl (cs 0, 41, .inl f25) := by rw [hF40]; exact th_ne (th_kd (y_k18 hA) ha0 (by decide)) o33
      have oY44 : F39 a0 = .inr (7, y_fl A z36 q0) := by rw [hF40]; exact th_up
      have hz0 : ∀ k, k ∈ ([1, 2, 3, 4, 5, 6, 7, 8, 11, 15, 16, 25, 26, 27, 31, 32] : List Nat) → z36 k = z0 k := fun k hk => by rw [hz37]; exact (y_un (fun q => absurd hk (by rw [q]; decide))).trans (hz0 k hk)
      obtain ⟨v45, ev45⟩ : ∃ y : Int32, y = z36 19 := ⟨_, rfl⟩
      have qv45 : v45.toInt = v35.toInt := by rw [ev45, hz37, y_ue]
      exact W.vret hx hb hr (fun t ht hW => ⟨⟨F39, rfl, ⟨trivial, trivial, hI, hfr, fun k hk => (y_fiZ oY44 (s_sub (by decide) hk)).trans ((hz0 k hk).trans (y_fiZ oY0 (s_sub (by decide) hk)).symm), (by rw [y_atE o42, y_atE o43, y_fiZ oY44 (k := 19) (by decide), ← ev45, y_atE o2]; rw [show v45.toInt = v10.toInt + 1 by omega, u15]; exact y_CMs (i := x1) hCM ⟨by omega, by omega⟩ hc0 (by decide) u34 ⟨by omega, by omega⟩)⟩, by rw [ht]; exact hP, va_K.moved hW.alike hK⟩, hS.F ht⟩) hS.2.2 dX7_comesTo_42
    · have c13 := mt (ax_eq (n := 0) (by decide)).mpr c13
      exact W.vret hx hb hr (fun t ht hW => ⟨⟨F, rfl, ⟨trivial, trivial, hI, hfr, fun k hk => (y_fiZ oY0 (s_sub (by decide) hk)).trans ((hz0 k hk).trans (y_fiZ oY0 (s_sub (by decide) hk)).symm), (by rw [y_atE o5, y_atE o8, y_fiZ oY0 (k := 19) (by decide), ← ev10, y_atE o2]; exact hCM)⟩, by rw [ht]; exact hP, va_K.moved hW.alike hK⟩, hS.F ht⟩) hS.2.2 dX7_comesTo_14

set_option maxHeartbeats 4000000 in
set_option maxRecDepth 100000 in
theorem y_X7_goesFrom (l : Launch) (dC : Nat → ClassId) (dI : Nat → Nat → Nat) (sz : Nat) {L : List Nat} {K : Nat → Nat} {cs : Nat → ClassId} (hLK : ∀ a {k : Nat}, K a = k → k ≠ 0 → a ∈ L) (A : Nat → Nat) (hA : y_A K A) (F : Nat → va_E) (a0 : Nat) (x1 : Int32) (x2 : Int32) (ha0 : K a0 = 9) (hx1 : 0 ≤ x1.toInt ∧ x1.toInt ≤ 40) (hx2 : -1 ≤ x2.toInt ∧ x2.toInt ≤ 40) (hI : y_I K cs A F) (hP0 : y_P0 (y_at F (A 13))) (hCM : y_CM (y_at F (A 17)) (y_at F (A 18)) (y_fi F a0 19).toInt (y_c (y_at F (A 13)) 387).toInt) (hxl : x1.toInt ≤ (y_c (y_at F (A 13)) 387).toInt) : Met l yX7_goesFrom (Cond.code yX7_goesFrom cX7_goesFrom 4 none :: T0) ({ frames := 3, cells := 0, slots := 0, locals := 64 }) (va_Pc [.ref a0, .int x1, .int x2] (s_W dC dI sz L F [(cs 0, .int), (cs 1, .byte), (cs 2, .long), (cs 3, .object RX5), (cs 4, .object RX4), (cs 5, .array .int), (cs 6, .char), (cs 7, .boolean)])) (va_Qv (fun (G : Nat → va_E) => True ∧ True ∧ y_I K cs A G ∧ (∀ b, K b ∉ [9, 67, 68] → G b = F b) ∧ (∀ k, k ∈ ([1, 2, 3, 4, 5, 6, 7, 8, 11, 15, 16, 25, 26, 27, 31, 32] : List Nat) → y_fi G a0 k = y_fi F a0 k) ∧ (y_CM (y_at G (A 17)) (y_at G (A 18)) (y_fi G a0 19).toInt (y_c (y_at F (A 13)) 387).toInt)) (fun (G : Nat → va_E) (t : State) => va_P (dC, dI) vwCl (va_pl L G) t.heap ∧ va_K (dC, dI) vwCl [(cs 0, .int), (cs 1, .byte), (cs 2, .long), (cs 3, .object RX5), (cs 4, .object RX4), (cs 5, .array .int), (cs 6, .char), (cs 7, .boolean)] t) (fun q => q ∈ L)) 0 0 (fun q => q ∈ L) := by
  refine Met.ofW (cc := cX7_goesFrom) (maxL := 4) (ret := none) (by decide) rfl ?_
  intro p e s m args below meth c s₁ B hml hv
  obtain ⟨rfl, hsz, hP, hK, hD, hN⟩ := hv
  have hx := B.exec
  have hb := B.bytes
  have hr := B.returns
  have hts : ∀ w ∈ T0, w.before _ s = true := fun w h => atoms_spec (ws := Cond.code yX7_goesFrom cX7_goesFrom 4 none :: T0) B.pre w (List.mem_cons_of_mem _ h)
  have hown : s.vm.findClass RX7 = some m.cls := findClass_of_methodNamed B.named
  have hlocks := B.notSynchronized
  have hS : va_S (fun q => q ∈ L) s.heap s.heap [] := va_S.rf
  have hfr : ∀ b, K b ∉ [9, 67, 68] → F b = F b := fun _ _ => rfl
  have hl := lv_entry ([.ref a0, .int x1, .int x2]) (n := 4) (Nat.le_of_ble_eq_true rfl)
  rw [lg_entry_eq]
  generalize (lg_sl ([.ref a0, .int x1, .int x2]) ++ List.replicate (4 - (lg_sl ([.ref a0, .int x1, .int x2])).length) Slot.unset).toArray = ls at hl ⊢
  have hl : lv_has ls 4 [(0, .ref a0), (1, .int x1), (2, .int x2)] := hl
  refine s_gen hP hS (fun H locs hP hS => ?_)
  obtain ⟨z0, q0, oY0, bz0, bq0⟩ := y_opY hI ha0
  have hz0 : ∀ k, k ∈ ([1, 2, 3, 4, 5, 6, 7, 8, 11, 15, 16, 25, 26, 27, 31, 32] : List Nat) → z0 k = z0 k := fun _ _ => rfl
  obtain ⟨f1, o2, b3⟩ := y_op13 hI
  obtain ⟨f4, o5, b6⟩ := y_op17 hI
  obtain ⟨f7, o8, b9⟩ := y_op18 hI
  obtain ⟨v10, ev10⟩ : ∃ y : Int32, y = z0 19 := ⟨_, rfl⟩
  have qv10 : 0 ≤ v10.toInt ∧ v10.toInt ≤ 41 := by rw [ev10]; exact y_bY19 bz0
  have eF_19 := ev10
  have hP0 : y_P0 f1 := by have q9 := hP0; rw [y_atE o2] at q9; exact q9
  have hCM : y_CM f4 f7 v10.toInt (y_c f1 387).toInt := by have q9 := hCM; rw [y_atE o5, y_atE o8, y_fiZ oY0 (k := 19) (by decide), ← ev10, y_atE o2] at q9; exact q9
  have hxl : x1.toInt ≤ (y_c f1 387).toInt := by have q9 := hxl; rw [y_atE o2] at q9; exact q9
  have hL := y_P0L hP0
  have hW := y_P0W hP0
  have e0_v10 := ev10
  refine th_join (fun g H locs => ∃ (G : Nat → va_E) (ls : Array Slot), g = F0 m 68 ls [] ∧ lv_has ls 4 [(0, .ref a0), (1, .int x1), (2, .int x2)] ∧ va_P (dC, dI) vwCl (va_pl L G) H ∧ va_S (fun q => q ∈ L) s.heap H locs ∧ y_I K cs A G ∧ (∀ b, K b ∉ [9, 67, 68] → G b = F b) ∧ (∀ k, k ∈ ([1, 2, 3, 4, 5, 6, 7, 8, 11, 15, 16, 25, 26, 27, 31, 32] : List Nat) → y_fi G a0 k = z0 k) ∧ (0 ≤ x1.toInt ∧ x1.toInt ≤ 40) ∧ (-1 ≤ x2.toInt ∧ x2.toInt ≤ 40) ∧ y_CM (y_at G (A 17)) (y_at G (A 18)) (y_fi G a0 19).toInt (y_c f1 387).toInt ∧ (x1.toInt < (y_c f1 387).toInt)) (fun K68 => ?_) ?_
  refine th_join (fun g H locs => ∃ (G : Nat → va_E) (ls : Array Slot) (w11 : Int32), g = F0 m 48 ls [] ∧ lv_has ls 4 [(0, .ref a0), (1, .int x1), (2, .int x2), (3, .int w11)] ∧ va_P (dC, dI) vwCl (va_pl L G) H ∧ va_S (fun q => q ∈ L) s.heap H locs ∧ y_I K cs A G ∧ (∀ b, K b ∉ [9, 67, 68] → G b = F b) ∧ (∀ k, k ∈ ([1, 2, 3, 4, 5, 6, 7, 8, 11, 15, 16, 25, 26, 27, 31, 32] : List Nat) → y_fi G a0 k = z0 k) ∧ True ∧ (0 ≤ x1.toInt ∧ x1.toInt ≤ 40) ∧ (-1 ≤ x2.toInt ∧ x2.toInt ≤ 40) ∧ y_CM (y_at G (A 17)) (y_at G (A 18)) (y_fi G a0 19).toInt (y_c f1 387).toInt ∧ (x1.toInt < (y_c f1 387).toInt ∧ w11.toInt = (y_c f1 (8 * x1.toInt)).toInt)) (fun K48 => ?_) ?_
  refine th_join (fun g H locs => ∃ (G : Nat → va_E) (ls : Array Slot) (w12 : Int32), g = F0 m 31 ls [] ∧ lv_has ls 4 [(0, .ref a0), (1, .int x1), (2, .int x2), (3, .int w12)] ∧ va_P (dC, dI) vwCl (va_pl L G) H ∧ va_S (fun q => q ∈ L) s.heap H locs ∧ y_I K cs A G ∧ (∀ b, K b ∉ [9, 67, 68] → G b = F b) ∧ (∀ k, k ∈ ([1, 2, 3, 4, 5, 6, 7, 8, 11, 15, 16, 25, 26, 27, 31, 32] : List Nat) → y_fi G a0 k = z0 k) ∧ True ∧ (0 ≤ x1.toInt ∧ x1.toInt ≤ 40) ∧ (-1 ≤ x2.toInt ∧ x2.toInt ≤ 40) ∧ y_CM (y_at G (A 17)) (y_at G (A 18)) (y_fi G a0 19).toInt (y_c f1 387).toInt ∧ (x1.toInt < (y_c f1 387).toInt ∧ w12.toInt = (y_c f1 (8 * x1.toInt)).toInt)) (fun K31 => ?_) ?_
  · refine lv_iload_n hx hb dX7_goesFrom_0 rfl (lv_at hl 1 rfl) ?_
    refine lv_aload_n hx hb dX7_goesFrom_1 rfl (lv_at hl 0 rfl) ?_
    refine va_calli (va_runV (As := []) (rest := [.int x1]) ⟨hx, hb, hml, hown, hts⟩ (y_X7_lines l dC dI H.size hLK A hA F a0 ha0 hI) (cwV 0 hts (ax_gV T_1030 T_1032 T_1033 T_265 T_1031) rfl rfl rfl (by decide +kernel) ⟨Nat.le_of_ble_eq_true rfl, Nat.le_of_ble_eq_true rfl⟩) ⟨fun a U g mk q => ⟨q.1, s_pc rfl rfl q.2⟩, s_recv hK hP (hLK _ ha0 (by decide)) (ci := 7) rfl oY0, fun U hU hW => ⟨rfl, s_pw hU hW hP hK hD hN⟩⟩ rfl rfl hl.1 rfl (lv_room (Nat.le_of_ble_eq_true rfl)) dX7_goesFrom_2 ⟨Nat.zero_le _, Nat.zero_le _⟩) hS (fun q _ h => h) (fun q h => h) (fun r14 F15 t H1 locs ht hvm hw hB hz1 hk1 hS => ?_)
    obtain ⟨hP, hK1⟩ := hB
    rw [ht] at hP
    generalize H1 = H at hP hS ⊢
    obtain ⟨h16, h18, hI, hfr1, hzf, h17⟩ := hw
    have o19 : F15 (A 13) = .inl (cs 0, 400, .inl f1) := (hfr1 _ (by rw [(y_k13 hA)]; decide)).trans o2
    have o20 : F15 (A 17) = .inl (cs 7, 41, .inl f4) := (hfr1 _ (by rw [(y_k17 hA)]; decide)).trans o5
    have o21 : F15 (A 18) = .inl (cs 0, 41, .inl f7) := (hfr1 _ (by rw [(y_k18 hA)]; decide)).trans o8
    have oY22 : F15 a0 = .inr (7, y_fl A z0 q0) := (hfr1 _ (by rw [ha0]; decide)).trans oY0
    have hfr : ∀ b, K b ∉ [9, 67, 68] → F15 b = F b := fun b hb9 => (hfr1 b (fun q => hb9 (s_sub (by decide) q))).trans (hfr b hb9)
    have h17 : (r14 = y_c f1 387) := by have q9 := h17; rw [y_atE o2] at q9; exact q9
    have h23 := congrArg Int32.toInt h17
    have h24 : 1 ≤ r14.toInt ∧ r14.toInt ≤ 40 := ⟨by omega, by omega⟩
    refine lv_icmp_ne (tgt := 9) hx hb dX7_goesFrom_5 (by decide) (fun c25 => ?_) (fun c25 => ?_)
    · have c25 := mt Int32.toInt_inj.symm.mpr c25
      refine lv_aload_n hx hb dX7_goesFrom_9 rfl (lv_at hl 0 rfl) ?_
      refine lv_iload_n hx hb dX7_goesFrom_10 rfl (lv_at hl 1 rfl) ?_
      refine lv_iconst (v := 0) hx hb dX7_goesFrom_11 (by decide) ?_
      refine va_calli (va_runV (As := [.int x1, .int 0]) (rest := []) ⟨hx, hb, hml, hown, hts⟩ (y_X7_of l dC dI H.size hLK A hA F15 a0 x1 0 ha0 (⟨by omega, by omega⟩) (by decide) hI) (cwV 2 hts (ax_gV T_1131 T_1133 T_1134 T_265 T_1132) rfl rfl rfl (by decide +kernel) ⟨Nat.le_of_ble_eq_true rfl, Nat.le_of_ble_eq_true rfl⟩) ⟨fun a U g mk q => ⟨q.1, s_pc rfl rfl q.2⟩, s_recv hK hP (hLK _ ha0 (by decide)) (ci := 7) rfl oY22, fun U hU hW => ⟨rfl, s_pw hU hW hP hK hD hN⟩⟩ rfl rfl hl.1 rfl (lv_room (Nat.le_of_ble_eq_true rfl)) dX7_goesFrom_12 ⟨Nat.zero_le _, Nat.zero_le _⟩) hS (fun q _ h => h) (fun q h => h) (fun r27 F28 t H1 locs ht hvm hw hB hz1 hk1 hS => ?_)
      obtain ⟨hP, hK1⟩ := hB
      rw [ht] at hP
      generalize H1 = H at hP hS ⊢
      obtain ⟨h29, h31, hI, hfr1, hzf, h30⟩ := hw
      have o32 : F28 (A 13) = .inl (cs 0, 400, .inl f1) := (hfr1 _ (by rw [(y_k13 hA)]; decide)).trans o19
      have o33 : F28 (A 17) = .inl (cs 7, 41, .inl f4) := (hfr1 _ (by rw [(y_k17 hA)]; decide)).trans o20
      have o34 : F28 (A 18) = .inl (cs 0, 41, .inl f7) := (hfr1 _ (by rw [(y_k18 hA)]; decide)).trans o21
      have oY35 : F28 a0 = .inr (7, y_fl A z0 q0) := (hfr1 _ (by rw [ha0]; decide)).trans oY22
      have hfr : ∀ b, K b ∉ [9, 67, 68] → F28 b = F b := fun b hb9 => (hfr1 b (fun q => hb9 (s_sub (by decide) q))).trans (hfr b hb9)
      have h30 : (r27 = y_c f1 (8 * x1.toInt + 0)) := by have q9 := h30; rw [y_atE o19] at q9; exact q9
      have h30 : r27 = y_c f1 (8 * x1.toInt) := h30.trans (congrArg (y_c f1) (by omega))
      have h36 := congrArg Int32.toInt h30
      refine lv_istore_n (lv' := [(3, .int r27), (0, .ref a0), (1, .int x1), (2, .int x2)]) hx hb dX7_goesFrom_15 rfl hl (by decide) rfl (fun ls hl => ?_)
      refine lv_iload_n hx hb dX7_goesFrom_16 rfl (lv_at hl 0 rfl) ?_
      refine lv_bipush (v := 15) hx hb dX7_goesFrom_17 (by decide) ?_
      refine lv_icmp_ne (tgt := 31) hx hb dX7_goesFrom_19 (by decide) (fun c37 => ?_) (fun c37 => ?_)
      · have c37 := mt (ax_eq (n := 15) (by decide)).mpr c37
        exact K31 _ _ _ ⟨F28, _, r27, rfl, lv_sub hl [1, 2, 3, 0] rfl, hP, hS, hI, hfr, (fun k hk => (y_fiZ oY35 (s_sub (by decide) hk)).trans (hz0 k hk)), trivial, ⟨by omega, by omega⟩, ⟨by omega, by omega⟩, (by rw [y_atE o33, y_atE o34, y_fiZ oY35 (k := 19) (by decide), ← ev10]; exact hCM), (by omega)⟩
      · have c37 := (ax_eq (n := 15) (by decide)).mp c37
        refine lv_aload_n hx hb dX7_goesFrom_22 rfl (lv_at hl 1 rfl) ?_
        refine lv_aload_n hx hb dX7_goesFrom_23 rfl (lv_at hl 1 rfl) ?_
        refine va_calli (va_runV (As := []) (rest := [.ref a0]) ⟨hx, hb, hml, hown, hts⟩ (y_X7_lines l dC dI H.size hLK A hA F28 a0 ha0 hI) (cwV 0 hts (ax_gV T_1030 T_1032 T_1033 T_265 T_1031) rfl rfl rfl (by decide +kernel) ⟨Nat.le_of_ble_eq_true rfl, Nat.le_of_ble_eq_true rfl⟩) ⟨fun a U g mk q => ⟨q.1, s_pc rfl rfl q.2⟩, s_recv hK hP (hLK _ ha0 (by decide)) (ci := 7) rfl oY35, fun U hU hW => ⟨rfl, s_pw hU hW hP hK hD hN⟩⟩ rfl rfl hl.1 rfl (lv_room (Nat.le_of_ble_eq_true rfl)) dX7_goesFrom_24 ⟨Nat.zero_le _, Nat.zero_le _⟩) hS (fun q _ h => h) (fun q h => h) (fun r39 F40 t H1 locs ht hvm hw hB hz1 hk1 hS => ?_)
        obtain ⟨hP, hK1⟩ := hB
        rw [ht] at hP
        generalize H1 = H at hP hS ⊢
        obtain ⟨h41, h43, hI, hfr1, hzf, h42⟩ := hw
        have o44 : F40 (A 13) = .inl (cs 0, 400, .inl f1) := (hfr1 _ (by rw [(y_k13 hA)]; decide)).trans o32
        have o45 : F40 (A 17) = .inl (cs 7, 41, .inl f4) := (hfr1 _ (by rw [(y_k17 hA)]; decide)).trans o33
        have o46 : F40 (A 18) = .inl (cs 0, 41, .inl f7) := (hfr1 _ (by rw [(y_k18 hA)]; decide)).trans o34
        have oY47 : F40 a0 = .inr (7, y_fl A z0 q0) := (hfr1 _ (by rw [ha0]; decide)).trans oY35
        have hfr : ∀ b, K b ∉ [9, 67, 68] → F40 b = F b := fun b hb9 => (hfr1 b (fun q => hb9 (s_sub (by decide) q))).trans (hfr b hb9)
        have h42 : (r39 = y_c f1 387) := by have q9 := h42; rw [y_atE o32] at q9; exact q9
        have h48 := congrArg Int32.toInt h42
        have h49 : 1 ≤ r39.toInt ∧ r39.toInt ≤ 40 := ⟨by omega, by omega⟩
        refine lv_iload_n hx hb dX7_goesFrom_27 rfl (lv_at hl 3 rfl) ?_
        refine va_callv (va_runV (As := [.int r39, .int x2]) (rest := []) ⟨hx, hb, hml, hown, hts⟩ (y_X7_comesTo l dC dI H.size hLK A hA F40 a0 r39 x2 ha0 (⟨by omega, by omega⟩) (⟨by omega, by omega⟩) hI (by rw [y_atE o45, y_atE o46, y_fiZ oY47 (k := 19) (by decide), ← ev10, y_atE o44]; exact hCM) (by first | (rw [y_atE o44]; omega) | rw [y_atE o44])) (cwV 2 hts (ax_gV T_1175 T_1177 T_1178 T_265 T_1176) rfl rfl rfl (by decide +kernel) ⟨Nat.le_of_ble_eq_true rfl, Nat.le_of_ble_eq_true rfl⟩) ⟨fun a U g mk q => ⟨q.1, s_pc rfl rfl q.2⟩, s_recv hK hP (hLK _ ha0 (by decide)) (ci := 7) rfl oY47, fun U hU hW => ⟨rfl, s_pw hU hW hP hK hD hN⟩⟩ rfl rfl hl.1 rfl (lv_room (Nat.le_of_ble_eq_true rfl)) dX7_goesFrom_28 ⟨Nat.zero_le _, Nat.zero_le _⟩) hS (fun q _ h => h) (fun q h => h) (fun F51 t H1 locs ht hvm hw hB hz1 hk1 hS => ?_)
        obtain ⟨hP, hK1⟩ := hB
        rw [ht] at hP
        generalize H1 = H at hP hS ⊢
        obtain ⟨h52, h54, hI, hfr1, hzf, h53⟩ := hw
        have o55 : F51 (A 13) = .inl (cs 0, 400, .inl f1) := (hfr1 _ (by rw [(y_k13 hA)]; decide)).trans o44
        obtain ⟨z56, q57, oY58, bz59, bq60⟩ := y_opY hI ha0
        have hzf : ∀ k, k ∈ ([1, 2, 3, 4, 5, 6, 7, 8, 11, 15, 16, 25, 26, 27, 31, 32] : List Nat) → z56 k = z0 k := fun k hk => by have q9 := hzf k hk; rw [y_fiZ oY58 (s_sub (by decide) hk), y_fiZ oY47 (s_sub (by decide) hk)] at q9; exact q9
        have hz0 : ∀ k, k ∈ ([1, 2, 3, 4, 5, 6, 7, 8, 11, 15, 16, 25, 26, 27, 31, 32] : List Nat) → z56 k = z0 k := fun k hk => (hzf k (s_sub (by decide) hk)).trans (hz0 k hk)
        have hfr : ∀ b, K b ∉ [9, 67, 68] → F51 b = F b := fun b hb9 => (hfr1 b (fun q => hb9 (s_sub (by decide) q))).trans (hfr b hb9)
        obtain ⟨f61, o62, b63⟩ := y_op17 hI
        obtain ⟨f64, o65, b66⟩ := y_op18 hI
        obtain ⟨v67, ev67⟩ : ∃ y : Int32, y = z56 19 := ⟨_, rfl⟩
        have qv67 : 0 ≤ v67.toInt ∧ v67.toInt ≤ 41 := by rw [ev67]; exact y_bY19 bz59
        have h53 : (y_CM f61 f64 v67.toInt (y_c f1 387).toInt) := by have q9 := h53; rw [y_atE o62, y_atE o65, y_fiZ oY58 (k := 19) (by decide), ← ev67, y_atE o44] at q9; exact q9
        exact K31 _ _ _ ⟨F51, _, r27, rfl, lv_sub hl [1, 2, 3, 0] rfl, hP, hS, hI, hfr, (fun k hk => (y_fiZ oY58 (s_sub (by decide) hk)).trans (hz0 k hk)), trivial, ⟨by omega, by omega⟩, ⟨by omega, by omega⟩, (by rw [y_atE o62, y_atE o65, y_fiZ oY58 (k := 19) (by decide), ← ev67]; exact h53), (by omega)⟩
    · have c25 := Int32.toInt_inj.symm.mp c25
      exact W.vret hx hb hr (fun t ht hW => ⟨⟨F15, rfl, ⟨trivial, trivial, hI, hfr, fun k hk => (y_fiZ oY22 (s_sub (by decide) hk)).trans ((hz0 k hk).trans (y_fiZ oY0 (s_sub (by decide) hk)).symm), (by rw [y_atE o20, y_atE o21, y_fiZ oY22 (k := 19) (by decide), ← ev10, y_atE o2]; exact hCM)⟩, by rw [ht]; exact hP, va_K.moved hW.alike hK⟩, hS.F ht⟩) hS.2.2 dX7_goesFrom_8
  · intro g H locs hq
    obtain ⟨F73, ls, w12, rfl, hl, hP, hS, hI, hfr, hz0, h68, h69, h70, h71, h72⟩ := hq
    have o74 : F73 (A 13) = .inl (cs 0, 400, .inl f1) := (hfr _ (by rw [(y_k13 hA)]; decide)).trans o2
    obtain ⟨z75, q76, oY77, bz78, bq79⟩ := y_opY hI ha0
    have hz0 : ∀ k, k ∈ ([1, 2, 3, 4, 5, 6, 7, 8, 11, 15, 16, 25, 26, 27, 31, 32] : List Nat) → z75 k = z0 k := fun k hk => (y_fiZ oY77 (s_sub (by decide) hk)).symm.trans (hz0 k hk)
    obtain ⟨f80, o81, b82⟩ := y_op17 hI
    obtain ⟨f83, o84, b85⟩ := y_op18 hI
    obtain ⟨v86, ev86⟩ : ∃ y : Int32, y = z75 19 := ⟨_, rfl⟩
    have qv86 : 0 ≤ v86.toInt ∧ v86.toInt ≤ 41 := by rw [ev86]; exact y_bY19 bz78
    have h71 : y_CM f80 f83 v86.toInt (y_c f1 387).toInt := by have q9 := h71; rw [y_atE o81, y_atE o84, y_fiZ oY77 (k := 19) (by decide), ← ev86] at q9; exact q9
    refine lv_iload_n hx hb dX7_goesFrom_31 rfl (lv_at hl 3 rfl) ?_
    refine lv_bipush (v := 12) hx hb dX7_goesFrom_32 (by decide) ?_
    refine lv_icmp_ne (tgt := 48) hx hb dX7_goesFrom_34 (by decide) (fun c87 => ?_) (fun c87 => ?_)
    · have c87 := mt (ax_eq (n := 12) (by decide)).mpr c87
      exact K48 _ _ _ ⟨F73, _, w12, rfl, lv_sub hl [0, 1, 2, 3] rfl, hP, hS, hI, hfr, (fun k hk => (y_fiZ oY77 (s_sub (by decide) hk)).trans (hz0 k hk)), trivial, ⟨by omega, by omega⟩, ⟨by omega, by omega⟩, (by rw [y_atE o81, y_atE o84, y_fiZ oY77 (k := 19) (by decide), ← ev86]; exact h71), (by omega)⟩
    · have c87 := (ax_eq (n := 12) (by decide)).mp c87
      refine lv_aload_n hx hb dX7_goesFrom_37 rfl (lv_at hl 0 rfl) ?_
      refine lv_aload_n hx hb dX7_goesFrom_38 rfl (lv_at hl 0 rfl) ?_
      refine lv_iload_n hx hb dX7_goesFrom_39 rfl (lv_at hl 1 rfl) ?_
      refine lv_iconst (v := 4) hx hb dX7_goesFrom_40 (by decide) ?_
      refine va_calli (va_runV (As := [.int x1, .int 4]) (rest := [.ref a0]) ⟨hx, hb, hml, hown, hts⟩ (y_X7_of l dC dI H.size hLK A hA F73 a0 x1 4 ha0 (⟨by omega, by omega⟩) (by decide) hI) (cwV 2 hts (ax_gV T_1131 T_1133 T_1134 T_265 T_1132) rfl rfl rfl (by decide +kernel) ⟨Nat.le_of_ble_eq_true rfl, Nat.le_of_ble_eq_true rfl⟩) ⟨fun a U g mk q => ⟨q.1, s_pc rfl rfl q.2⟩, s_recv hK hP (hLK _ ha0 (by decide)) (ci := 7) rfl oY77, fun U hU hW => ⟨rfl, s_pw hU hW hP hK hD hN⟩⟩ rfl rfl hl.1 rfl (lv_room (Nat.le_of_ble_eq_true rfl)) dX7_goesFrom_41 ⟨Nat.zero_le _, Nat.zero_le _⟩) hS (fun q _ h => h) (fun q h => h) (fun r89 F90 t H1 locs ht hvm hw hB hz1 hk1 hS => ?_)
      obtain ⟨hP, hK1⟩ := hB
      rw [ht] at hP
      generalize H1 = H at hP hS ⊢
      obtain ⟨h91, h93, hI, hfr1, hzf, h92⟩ := hw
      have o94 : F90 (A 13) = .inl (cs 0, 400, .inl f1) := (hfr1 _ (by rw [(y_k13 hA)]; decide)).trans o74
      have o95 : F90 (A 17) = .inl (cs 7, 41, .inl f80) := (hfr1 _ (by rw [(y_k17 hA)]; decide)).trans o81
      have o96 : F90 (A 18) = .inl (cs 0, 41, .inl f83) := (hfr1 _ (by rw [(y_k18 hA)]; decide)).trans o84
      have oY97 : F90 a0 = .inr (7, y_fl A z75 q76) := (hfr1 _ (by rw [ha0]; decide)).trans oY77
      have hfr : ∀ b, K b ∉ [9, 67, 68] → F90 b = F b := fun b hb9 => (hfr1 b (fun q => hb9 (s_sub (by decide) q))).trans (hfr b hb9)
      have h92 : (r89 = y_c f1 (8 * x1.toInt + 4)) := by have q9 := h92; rw [y_atE o74] at q9; exact q9
      have h92 : r89 = y_c f1 (8 * x1.toInt + 4) := h92.trans (congrArg (y_c f1) (by omega))
      have h98 := congrArg Int32.toInt h92
      have h99 : 0 ≤ r89.toInt ∧ r89.toInt ≤ 39 := by have q9 := hP0.2.2 x1.toInt (by omega) (by omega) (by omega); exact ⟨by omega, by omega⟩
      refine lv_iload_n hx hb dX7_goesFrom_44 rfl (lv_at hl 2 rfl) ?_
      refine va_callv (va_runV (As := [.int r89, .int x2]) (rest := []) ⟨hx, hb, hml, hown, hts⟩ (y_X7_comesTo l dC dI H.size hLK A hA F90 a0 r89 x2 ha0 (⟨by omega, by omega⟩) (⟨by omega, by omega⟩) hI (by rw [y_atE o95, y_atE o96, y_fiZ oY97 (k := 19) (by decide), ← ev86, y_atE o94]; exact h71) (by first | (rw [y_atE o94]; omega) | rw [y_atE o94])) (cwV 2 hts (ax_gV T_1175 T_1177 T_1178 T_265 T_1176) rfl rfl rfl (by decide +kernel) ⟨Nat.le_of_ble_eq_true rfl, Nat.le_of_ble_eq_true rfl⟩) ⟨fun a U g mk q => ⟨q.1, s_pc rfl rfl q.2⟩, s_recv hK hP (hLK _ ha0 (by decide)) (ci := 7) rfl oY97, fun U hU hW => ⟨rfl, s_pw hU hW hP hK hD hN⟩⟩ rfl rfl hl.1 rfl (lv_room (Nat.le_of_ble_eq_true rfl)) dX7_goesFrom_45 ⟨Nat.zero_le _, Nat.zero_le _⟩) hS (fun q _ h => h) (fun q h => h) (fun F101 t H1 locs ht hvm hw hB hz1 hk1 hS => ?_)
      obtain ⟨hP, hK1⟩ := hB
      rw [ht] at hP
      generalize H1 = H at hP hS ⊢
      obtain ⟨h102, h104, hI, hfr1, hzf, h103⟩ := hw
      have o105 : F101 (A 13) = .inl (cs 0, 400, .inl f1) := (hfr1 _ (by rw [(y_k13 hA)]; decide)).trans o94
      obtain ⟨z106, q107, oY108, bz109, bq110⟩ := y_opY hI ha0
      have hzf : ∀ k, k ∈ ([1, 2, 3, 4, 5, 6, 7, 8, 11, 15, 16, 25, 26, 27, 31, 32] : List Nat) → z106 k = z75 k := fun k hk => by have q9 := hzf k hk; rw [y_fiZ oY108 (s_sub (by decide) hk), y_fiZ oY97 (s_sub (by decide) hk)] at q9; exact q9
      have hz0 : ∀ k, k ∈ ([1, 2, 3, 4, 5, 6, 7, 8, 11, 15, 16, 25, 26, 27, 31, 32] : List Nat) → z106 k = z0 k := fun k hk => (hzf k (s_sub (by decide) hk)).trans (hz0 k hk)
      have hfr : ∀ b, K b ∉ [9, 67, 68] → F101 b = F b := fun b hb9 => (hfr1 b (fun q => hb9 (s_sub (by decide) q))).trans (hfr b hb9)
      obtain ⟨f111, o112, b113⟩ := y_op17 hI
      obtain ⟨f114, o115, b116⟩ := y_op18 hI
      obtain ⟨v117, ev117⟩ : ∃ y : Int32, y = z106 19 := ⟨_, rfl⟩
      have qv117 : 0 ≤ v117.toInt ∧ v117.toInt ≤ 41 := by rw [ev117]; exact y_bY19 bz109
      have h103 : (y_CM f111 f114 v117.toInt (y_c f1 387).toInt) := by have q9 := h103; rw [y_atE o112, y_atE o115, y_fiZ oY108 (k := 19) (by decide), ← ev117, y_atE o94] at q9; exact q9
      exact K48 _ _ _ ⟨F101, _, w12, rfl, lv_sub hl [0, 1, 2, 3] rfl, hP, hS, hI, hfr, (fun k hk => (y_fiZ oY108 (s_sub (by decide) hk)).trans (hz0 k hk)), trivial, ⟨by omega, by omega⟩, ⟨by omega, by omega⟩, (by rw [y_atE o112, y_atE o115, y_fiZ oY108 (k := 19) (by decide), ← ev117]; exact h103), (by omega)⟩
  · intro g H locs hq
    obtain ⟨F123, ls, w11, rfl, hl, hP, hS, hI, hfr, hz0, h118, h119, h120, h121, h122⟩ := hq
    have o124 : F123 (A 13) = .inl (cs 0, 400, .inl f1) := (hfr _ (by rw [(y_k13 hA)]; decide)).trans o2
    obtain ⟨z125, q126, oY127, bz128, bq129⟩ := y_opY hI ha0
    have hz0 : ∀ k, k ∈ ([1, 2, 3, 4, 5, 6, 7, 8, 11, 15, 16, 25, 26, 27, 31, 32] : List Nat) → z125 k = z0 k := fun k hk => (y_fiZ oY127 (s_sub (by decide) hk)).symm.trans (hz0 k hk)
    obtain ⟨f130, o131, b132⟩ := y_op17 hI
    obtain ⟨f133, o134, b135⟩ := y_op18 hI
    obtain ⟨v136, ev136⟩ : ∃ y : Int32, y = z125 19 := ⟨_, rfl⟩
    have qv136 : 0 ≤ v136.toInt ∧ v136.toInt ≤ 41 := by rw [ev136]; exact y_bY19 bz128
    have h121 : y_CM f130 f133 v136.toInt (y_c f1 387).toInt := by have q9 := h121; rw [y_atE o131, y_atE o134, y_fiZ oY127 (k := 19) (by decide), ← ev136] at q9; exact q9
    refine lv_iload_n hx hb dX7_goesFrom_48 rfl (lv_at hl 3 rfl) ?_
    refine lv_bipush (v := 15) hx hb dX7_goesFrom_49 (by decide) ?_
    refine lv_icmp_eq (tgt := 76) hx hb dX7_goesFrom_51 (by decide) (fun c137 => ?_) (fun c137 => ?_)
    · have c137 := (ax_eq (n := 15) (by decide)).mp c137
      exact W.vret hx hb hr (fun t ht hW => ⟨⟨F123, rfl, ⟨trivial, trivial, hI, hfr, fun k hk => (y_fiZ oY127 (s_sub (by decide) hk)).trans ((hz0 k hk).trans (y_fiZ oY0 (s_sub (by decide) hk)).symm), (by rw [y_atE o131, y_atE o134, y_fiZ oY127 (k := 19) (by decide), ← ev136, y_atE o2]; exact h121)⟩, by rw [ht]; exact hP, va_K.moved hW.alike hK⟩, hS.F ht⟩) hS.2.2 dX7_goesFrom_76
    · have c137 := mt (ax_eq (n := 15) (by decide)).mpr c137
      refine lv_iload_n hx hb dX7_goesFrom_54 rfl (lv_at hl 3 rfl) ?_
      refine lv_bipush (v := 12) hx hb dX7_goesFrom_55 (by decide) ?_
      refine lv_icmp_ne (tgt := 68) hx hb dX7_goesFrom_57 (by decide) (fun c138 => ?_) (fun c138 => ?_)
      · have c138 := mt (ax_eq (n := 12) (by decide)).mpr c138
        exact K68 _ _ _ ⟨F123, _, rfl, lv_sub hl [0, 1, 2] rfl, hP, hS, hI, hfr, (fun k hk => (y_fiZ oY127 (s_sub (by decide) hk)).trans (hz0 k hk)), ⟨by omega, by omega⟩, ⟨by omega, by omega⟩, (by rw [y_atE o131, y_atE o134, y_fiZ oY127 (k := 19) (by decide), ← ev136]; exact h121), (by omega)⟩
      · have c138 := (ax_eq (n := 12) (by decide)).mp c138
        refine lv_aload_n hx hb dX7_goesFrom_60 rfl (lv_at hl 0 rfl) ?_
        refine lv_iload_n hx hb dX7_goesFrom_61 rfl (lv_at hl 1 rfl) ?_
        refine va_calli (va_runV (As := [.int x1]) (rest := []) ⟨hx, hb, hml, hown, hts⟩ (y_X7_isFork l dC dI H.size hLK A hA F123 a0 x1 ha0 (⟨by omega, by omega⟩) hI) (cwV 1 hts (ax_gV T_1179 T_1181 T_1182 T_265 T_1180) rfl rfl rfl (by decide +kernel) ⟨Nat.le_of_ble_eq_true rfl, Nat.le_of_ble_eq_true rfl⟩) ⟨fun a U g mk q => ⟨q.1, s_pc rfl rfl q.2⟩, s_recv hK hP (hLK _ ha0 (by decide)) (ci := 7) rfl oY127, fun U hU hW => ⟨rfl, s_pw hU hW hP hK hD hN⟩⟩ rfl rfl hl.1 rfl (lv_room (Nat.le_of_ble_eq_true rfl)) dX7_goesFrom_62 ⟨Nat.zero_le _, Nat.zero_le _⟩) hS (fun q _ h => h) (fun q h => h) (fun r140 F141 t H1 locs ht hvm hw hB hz1 hk1 hS => ?_)
        obtain ⟨hP, hK1⟩ := hB
        rw [ht] at hP
        generalize H1 = H at hP hS ⊢
        obtain ⟨h142, h144, hI, hfr1, hzf, h143⟩ := hw
        have o145 : F141 (A 13) = .inl (cs 0, 400, .inl f1) := (hfr1 _ (by rw [(y_k13 hA)]; decide)).trans o124
        have o146 : F141 (A 17) = .inl (cs 7, 41, .inl f130) := (hfr1 _ (by rw [(y_k17 hA)]; decide)).trans o131
        have o147 : F141 (A 18) = .inl (cs 0, 41, .inl f133) := (hfr1 _ (by rw [(y_k18 hA)]; decide)).trans o134
        have oY148 : F141 a0 = .inr (7, y_fl A z125 q126) := (hfr1 _ (by rw [ha0]; decide)).trans oY127
        have hfr : ∀ b, K b ∉ [9, 67, 68] → F141 b = F b := fun b hb9 => (hfr1 b (fun q => hb9 (s_sub (by decide) q))).trans (hfr b hb9)
        have h143 : ((r140.toInt = 1 ∧ (y_c f1 (8 * x1.toInt)).toInt = 12 ∧ ¬ (y_c f1 (8 * x1.toInt + 5)).toInt = -1000000) ∨ (r140.toInt = 0 ∧ (¬ (y_c f1 (8 * x1.toInt)).toInt = 12 ∨ (y_c f1 (8 * x1.toInt + 5)).toInt = -1000000))) := by have q9 := h143; rw [y_atE o124] at q9; exact q9
        refine lv_if_eq (tgt := 76) hx hb dX7_goesFrom_65 (by decide) (fun c149 => ?_) (fun c149 => ?_)
        · have c149 := (ax_eq (n := 0) (by decide)).mp c149
          exact W.vret hx hb hr (fun t ht hW => ⟨⟨F141, rfl, ⟨trivial, trivial, hI, hfr, fun k hk => (y_fiZ oY148 (s_sub (by decide) hk)).trans ((hz0 k hk).trans (y_fiZ oY0 (s_sub (by decide) hk)).symm), (by rw [y_atE o146, y_atE o147, y_fiZ oY148 (k := 19) (by decide), ← ev136, y_atE o2]; exact h121)⟩, by rw [ht]; exact hP, va_K.moved hW.alike hK⟩, hS.F ht⟩) hS.2.2 dX7_goesFrom_76
        · have c149 := mt (ax_eq (n := 0) (by decide)).mpr c149
          exact K68 _ _ _ ⟨F141, _, rfl, lv_sub hl [0, 1, 2] rfl, hP, hS, hI, hfr, (fun k hk => (y_fiZ oY148 (s_sub (by decide) hk)).trans (hz0 k hk)), ⟨by omega, by omega⟩, ⟨by omega, by omega⟩, (by rw [y_atE o146, y_atE o147, y_fiZ oY148 (k := 19) (by decide), ← ev136]; exact h121), (by omega)⟩
  · intro g H locs hq
    obtain ⟨F154, ls, rfl, hl, hP, hS, hI, hfr, hz0, h150, h151, h152, h153⟩ := hq
    have o155 : F154 (A 13) = .inl (cs 0, 400, .inl f1) := (hfr _ (by rw [(y_k13 hA)]; decide)).trans o2
    obtain ⟨z156, q157, oY158, bz159, bq160⟩ := y_opY hI ha0
    have hz0 : ∀ k, k ∈ ([1, 2, 3, 4, 5, 6, 7, 8, 11, 15, 16, 25, 26, 27, 31, 32] : List Nat) → z156 k = z0 k := fun k hk => (y_fiZ oY158 (s_sub (by decide) hk)).symm.trans (hz0 k hk)
    obtain ⟨f161, o162, b163⟩ := y_op17 hI
    obtain ⟨f164, o165, b166⟩ := y_op18 hI
    obtain ⟨v167, ev167⟩ : ∃ y : Int32, y = z156 19 := ⟨_, rfl⟩
    have qv167 : 0 ≤ v167.toInt ∧ v167.toInt ≤ 41 := by rw [ev167]; exact y_bY19 bz159
    have h152 : y_CM f161 f164 v167.toInt (y_c f1 387).toInt := by have q9 := h152; rw [y_atE o162, y_atE o165, y_fiZ oY158 (k := 19) (by decide), ← ev167] at q9; exact q9
    refine lv_aload_n hx hb dX7_goesFrom_68 rfl (lv_at hl 0 rfl) ?_
    refine lv_iload_n hx hb dX7_goesFrom_69 rfl (lv_at hl 1 rfl) ?_
    refine lv_iconst (v := 1) hx hb dX7_goesFrom_70 (by decide) ?_
    refine lv_iadd hx hb dX7_goesFrom_71 ?_
    refine lv_topi (fun v168 ev168 => ?_)
    have qv168 : v168.toInt = x1.toInt + 1 := by rw [ev168]; exact th_add rfl (by decide) ⟨by omega, by omega⟩
    refine lv_iload_n hx hb dX7_goesFrom_72 rfl (lv_at hl 2 rfl) ?_
    refine va_callv (va_runV (As := [.int v168, .int x2]) (rest := []) ⟨hx, hb, hml, hown, hts⟩ (y_X7_comesTo l dC dI H.size hLK A hA F154 a0 v168 x2 ha0 (⟨by omega, by omega⟩) (⟨by omega, by omega⟩) hI (by rw [y_atE o162, y_atE o165, y_fiZ oY158 (k := 19) (by decide), ← ev167, y_atE o155]; exact h152) (by first | (rw [y_atE o155]; omega) | rw [y_atE o155])) (cwV 2 hts (ax_gV T_1175 T_1177 T_1178 T_265 T_1176) rfl rfl rfl (by decide +kernel) ⟨Nat.le_of_ble_eq_true rfl, Nat.le_of_ble_eq_true rfl⟩) ⟨fun a U g mk q => ⟨q.1, s_pc rfl rfl q.2⟩, s_recv hK hP (hLK _ ha0 (by decide)) (ci := 7) rfl oY158, fun U hU hW => ⟨rfl, s_pw hU hW hP hK hD hN⟩⟩ rfl rfl hl.1 rfl (lv_room (Nat.le_of_ble_eq_true rfl)) dX7_goesFrom_73 ⟨Nat.zero_le _, Nat.zero_le _⟩) hS (fun q _ h => h) (fun q h => h) (fun F170 t H1 locs ht hvm hw hB hz1 hk1 hS => ?_)
    obtain ⟨hP, hK1⟩ := hB
    rw [ht] at hP
    generalize H1 = H at hP hS ⊢
    obtain ⟨h171, h173, hI, hfr1, hzf, h172⟩ := hw
    have o174 : F170 (A 13) = .inl (cs 0, 400, .inl f1) := (hfr1 _ (by rw [(y_k13 hA)]; decide)).trans o155
    obtain ⟨z175, q176, oY177, bz178, bq179⟩ := y_opY hI ha0
    have hzf : ∀ k, k ∈ ([1, 2, 3, 4, 5, 6, 7, 8, 11, 15, 16, 25, 26, 27, 31, 32] : List Nat) → z175 k = z156 k := fun k hk => by have q9 := hzf k hk; rw [y_fiZ oY177 (s_sub (by decide) hk), y_fiZ oY158 (s_sub (by decide) hk)] at q9; exact q9
    have hz0 : ∀ k, k ∈ ([1, 2, 3, 4, 5, 6, 7, 8, 11, 15, 16, 25, 26, 27, 31, 32] : List Nat) → z175 k = z0 k := fun k hk => (hzf k (s_sub (by decide) hk)).trans (hz0 k hk)
    have hfr : ∀ b, K b ∉ [9, 67, 68] → F170 b = F b := fun b hb9 => (hfr1 b (fun q => hb9 (s_sub (by decide) q))).trans (hfr b hb9)
    obtain ⟨f180, o181, b182⟩ := y_op17 hI
    obtain ⟨f183, o184, b185⟩ := y_op18 hI
    obtain ⟨v186, ev186⟩ : ∃ y : Int32, y = z175 19 := ⟨_, rfl⟩
    have qv186 : 0 ≤ v186.toInt ∧ v186.toInt ≤ 41 := by rw [ev186]; exact y_bY19 bz178
    have h172 : (y_CM f180 f183 v186.toInt (y_c f1 387).toInt) := by have q9 := h172; rw [y_atE o181, y_atE o184, y_fiZ oY177 (k := 19) (by decide), ← ev186, y_atE o155] at q9; exact q9
    exact W.vret hx hb hr (fun t ht hW => ⟨⟨F170, rfl, ⟨trivial, trivial, hI, hfr, fun k hk => (y_fiZ oY177 (s_sub (by decide) hk)).trans ((hz0 k hk).trans (y_fiZ oY0 (s_sub (by decide) hk)).symm), (by rw [y_atE o181, y_atE o184, y_fiZ oY177 (k := 19) (by decide), ← ev186, y_atE o2]; exact h172)⟩, by rw [ht]; exact hP, va_K.moved hW.alike hK⟩, hS.F ht⟩) hS.2.2 dX7_goesFrom_76

set_option maxHeartbeats 4000000 in
set_option maxRecDepth 100000 in
theorem y_X7_isEndReached (l : Launch) (dC : Nat → ClassId) (dI : Nat → Nat → Nat) (sz : Nat) {L : List Nat} {K : Nat → Nat} {cs : Nat → ClassId} (hLK : ∀ a {k : Nat}, K a = k → k ≠ 0 → a ∈ L) (A : Nat → Nat) (hA : y_A K A) (F : Nat → va_E) (a0 : Nat) (x1 : Int32) (x2 : Int32) (ha0 : K a0 = 9) (hx1 : 0 ≤ x1.toInt ∧ x1.toInt ≤ 40) (hx2 : -1 ≤ x2.toInt ∧ x2.toInt ≤ 40) (hI : y_I K cs A F) (hP0 : y_P0 (y_at F (A 13))) (hxl : x1.toInt ≤ (y_c (y_at F (A 13)) 387).toInt) : Met l yX7_isEndReached (Cond.code yX7_isEndReached cX7_isEndReached 4 (some .boolean) :: T0) ({ frames := 4, cells := 0, slots := 0, locals := 87 }) (va_Pc [.ref a0, .int x1, .int x2] (s_W dC dI sz L F [(cs 0, .int), (cs 1, .byte), (cs 2, .long), (cs 3, .object RX5), (cs 4, .object RX4), (cs 5, .array .int), (cs 6, .char), (cs 7, .boolean)])) (va_Qi (fun (r : Int32) (G : Nat → va_E) => (0 ≤ r.toInt ∧ r.toInt ≤ 1) ∧ True ∧ y_I K cs A G ∧ (∀ b, K b ∉ [9, 67, 68] → G b = F b) ∧ (∀ k, k ∈ ([1, 2, 3, 4, 5, 6, 7, 8, 11, 15, 16, 25, 26, 27, 31, 32] : List Nat) → y_fi G a0 k = y_fi F a0 k) ∧ True) (fun (G : Nat → va_E) (t : State) => va_P (dC, dI) vwCl (va_pl L G) t.heap ∧ va_K (dC, dI) vwCl [(cs 0, .int), (cs 1, .byte), (cs 2, .long), (cs 3, .object RX5), (cs 4, .object RX4), (cs 5, .array .int), (cs 6, .char), (cs 7, .boolean)] t) (fun q => q ∈ L)) 0 0 (fun q => q ∈ L) := by
  refine Met.ofW (cc := cX7_isEndReached) (maxL := 4) (ret := (some .boolean)) (by decide) rfl ?_
  intro p e s m args below meth c s₁ B hml hv
  obtain ⟨rfl, hsz, hP, hK, hD, hN⟩ := hv
  have hx := B.exec
  have hb := B.bytes
  have hr := B.returns
  have hts : ∀ w ∈ T0, w.before _ s = true := fun w h => atoms_spec (ws := Cond.code yX7_isEndReached cX7_isEndReached 4 (some .boolean) :: T0) B.pre w (List.mem_cons_of_mem _ h)
  have hown : s.vm.findClass RX7 = some m.cls := findClass_of_methodNamed B.named
  have hlocks := B.notSynchronized
  have hS : va_S (fun q => q ∈ L) s.heap s.heap [] := va_S.rf
  have hfr : ∀ b, K b ∉ [9, 67, 68] → F b = F b := fun _ _ => rfl
  have hl := lv_entry ([.ref a0, .int x1, .int x2]) (n := 4) (Nat.le_of_ble_eq_true rfl)
  rw [lg_entry_eq]
  generalize (lg_sl ([.ref a0, .int x1, .int x2]) ++ List.replicate (4 - (lg_sl ([.ref a0, .int x1, .int x2])).length) Slot.unset).toArray = ls at hl ⊢
  have hl : lv_has ls 4 [(0, .ref a0), (1, .int x1), (2, .int x2)] := hl
  refine s_gen hP hS (fun H locs hP hS => ?_)
  obtain ⟨z0, q0, oY0, bz0, bq0⟩ := y_opY hI ha0
  have hz0 : ∀ k, k ∈ ([1, 2, 3, 4, 5, 6, 7, 8, 11, 15, 16, 25, 26, 27, 31, 32] : List Nat) → z0 k = z0 k := fun _ _ => rfl
  obtain ⟨f1, o2, b3⟩ := y_op13 hI
  obtain ⟨f4, o5, b6⟩ := y_op17 hI
  obtain ⟨f7, o8, b9⟩ := y_op18 hI
  have hP0 : y_P0 f1 := by have q9 := hP0; rw [y_atE o2] at q9; exact q9
  have hxl : x1.toInt ≤ (y_c f1 387).toInt := by have q9 := hxl; rw [y_atE o2] at q9; exact q9
  have hL := y_P0L hP0
  have hW := y_P0W hP0
  refine lv_iconst (v := 0) hx hb dX7_isEndReached_0 (by decide) ?_
  refine lv_istore_n (lv' := [(3, .int 0), (0, .ref a0), (1, .int x1), (2, .int x2)]) hx hb dX7_isEndReached_1 rfl hl (by decide) rfl (fun ls hl => ?_)
  have h11 : (0 : Int32).toInt = 0 := by decide
  refine th_loop (fun n g H locs => ∃ (G : Nat → va_E) (ls : Array Slot) (w10 : Int32), g = F0 m 2 ls [] ∧ lv_has ls 4 [(0, .ref a0), (1, .int x1), (2, .int x2), (3, .int w10)] ∧ va_P (dC, dI) vwCl (va_pl L G) H ∧ va_S (fun q => q ∈ L) s.heap H locs ∧ y_I K cs A G ∧ (∀ b, K b ∉ [9, 67, 68] → G b = F b) ∧ (∀ k, k ∈ ([1, 2, 3, 4, 5, 6, 7, 8, 11, 15, 16, 25, 26, 27, 31, 32] : List Nat) → y_fi G a0 k = z0 k) ∧ (0 ≤ w10.toInt ∧ w10.toInt ≤ 41) ∧ (0 ≤ x1.toInt ∧ x1.toInt ≤ 40) ∧ (-1 ≤ x2.toInt ∧ x2.toInt ≤ 40) ∧ (∀ j : Int, 0 ≤ j → j < w10.toInt → y_c (y_at G (A 17)) j = 0) ∧ n = (42 - w10.toInt).toNat) _ ⟨F, _, 0, rfl, lv_sub hl [1, 2, 3, 0] rfl, hP, hS, hI, hfr, (fun k hk => (y_fiZ oY0 (s_sub (by decide) hk)).trans (hz0 k hk)), (by decide), ⟨by omega, by omega⟩, ⟨by omega, by omega⟩, (by rw [y_atE o5]; exact (fun j h0 h1 => absurd h1 (by omega))), rfl⟩ (fun n ih2 g H locs hq => ?_)
  obtain ⟨F16, ls, w10, rfl, hl, hP, hS, hI, hfr, hz0, h12, h13, h14, h15, hn⟩ := hq
  have o17 : F16 (A 13) = .inl (cs 0, 400, .inl f1) := (hfr _ (by rw [(y_k13 hA)]; decide)).trans o2
  obtain ⟨z18, q19, oY20, bz21, bq22⟩ := y_opY hI ha0
  have hz0 : ∀ k, k ∈ ([1, 2, 3, 4, 5, 6, 7, 8, 11, 15, 16, 25, 26, 27, 31, 32] : List Nat) → z18 k = z0 k := fun k hk => (y_fiZ oY20 (s_sub (by decide) hk)).symm.trans (hz0 k hk)
  obtain ⟨f23, o24, b25⟩ := y_op17 hI
  have h15 : (∀ j : Int, 0 ≤ j → j < w10.toInt → y_c f23 j = 0) := by have q9 := h15; rw [y_atE o24] at q9; exact q9
  have hn_25 := hn
  refine lv_iload_n hx hb dX7_isEndReached_2 rfl (lv_at hl 3 rfl) ?_
  refine lv_bipush (v := 40) hx hb dX7_isEndReached_3 (by decide) ?_
  refine lv_icmp_gt (tgt := 21) hx hb dX7_isEndReached_5 (by decide) (fun c26 => ?_) (fun c26 => ?_)
  · have c26 := (ax_gt (n := 40) (by decide)).mp c26
    refine lv_aload_n hx hb dX7_isEndReached_21 rfl (lv_at hl 0 rfl) ?_
    refine lv_iconst (v := 0) hx hb dX7_isEndReached_22 (by decide) ?_
    refine th_put (D := (dC, dI)) (ci := 7) (v := .int 0) (ty := .int) (C := RX7) (T := TX7) (N := 34) hx hb hts inX7 tyX7 tyX7_ok nmX7 hown hK hP hD hS (hLK _ ha0 (by decide)) oY20 rfl 19 (by decide) (hts _ T_1093) (fun _ h9 => h9) rfl (by decide +kernel) rfl rfl (Nat.le_of_ble_eq_true rfl) dX7_isEndReached_23 (fun H locs hP hS => ?_)
    rw [y_fs19] at hP
    obtain ⟨z27, hz28⟩ : ∃ g : Nat → Int32, g = upd z18 19 0 := ⟨_, rfl⟩
    rw [← hz28] at hP
    have bz29 : y_bY z27 := by rw [hz28]; exact y_bp19 bz21 (by decide)
    have hP : va_P (dC, dI) vwCl (va_pl L (va_up F16 a0 (.inr (7, y_fl A z27 q19)))) H := hP
    obtain ⟨F30, hF31⟩ : ∃ G : Nat → va_E, G = va_up F16 a0 (.inr (7, y_fl A z27 q19)) := ⟨_, rfl⟩
    rw [← hF31] at hP
    have hI : y_I K cs A F30 := by rw [hF31]; exact y_clY hA hI ha0 bz29 bq22
    have hfr : ∀ b, K b ∉ [9, 67, 68] → F30 b = F b := by rw [hF31]; exact s_fr hfr ha0 (by decide)
    have o32 : F30 (A 13) = .inl (cs 0, 400, .inl f1) := by rw [hF31]; exact th_ne (th_kd (y_k13 hA) ha0 (by decide)) o17
    have o33 : F30 (A 17) = .inl (cs 7, 41, .inl f23) := by rw [hF31]; exact th_ne (th_kd (y_k17 hA) ha0 (by decide)) o24
    have oY34 : F30 a0 = .inr (7, y_fl A z27 q19) := by rw [hF31]; exact th_up
    have hz0 : ∀ k, k ∈ ([1, 2, 3, 4, 5, 6, 7, 8, 11, 15, 16, 25, 26, 27, 31, 32] : List Nat) → z27 k = z0 k := fun k hk => by rw [hz28]; exact (y_un (fun q => absurd hk (by rw [q]; decide))).trans (hz0 k hk)
    obtain ⟨v35, ev35⟩ : ∃ y : Int32, y = z27 19 := ⟨_, rfl⟩
    have qv35 : v35.toInt = 0 := by rw [ev35, hz28, y_ue]; decide
    refine lv_aload_n hx hb dX7_isEndReached_26 rfl (lv_at hl 0 rfl) ?_
    refine lv_iload_n hx hb dX7_isEndReached_27 rfl (lv_at hl 1 rfl) ?_
    refine lv_iload_n hx hb dX7_isEndReached_28 rfl (lv_at hl 2 rfl) ?_
    obtain ⟨f37, o38, b39⟩ := y_op18 hI
    refine va_callv (va_runV (As := [.int x1, .int x2]) (rest := []) ⟨hx, hb, hml, hown, hts⟩ (y_X7_goesFrom l dC dI H.size hLK A hA F30 a0 x1 x2 ha0 (⟨by omega, by omega⟩) (⟨by omega, by omega⟩) hI (by rw [y_atE o32]; exact hP0) (by rw [y_atE o33, y_atE o38, y_fiZ oY34 (k := 19) (by decide), ← ev35, y_atE o32]; rw [show v35.toInt = 0 by omega]; exact ⟨(y_cnt0 41 (fun j hj => by have q9 := h15 j (by omega) (by omega); exact q9)).symm, fun j h0 h1 => absurd h1 (by omega)⟩) (by rw [y_atE o32]; exact hxl)) (cwV 2 hts (ax_gV T_1207 T_1209 T_1210 T_265 T_1208) rfl rfl rfl (by decide +kernel) ⟨Nat.le_of_ble_eq_true rfl, Nat.le_of_ble_eq_true rfl⟩) ⟨fun a U g mk q => ⟨q.1, s_pc rfl rfl q.2⟩, s_recv hK hP (hLK _ ha0 (by decide)) (ci := 7) rfl oY34, fun U hU hW => ⟨rfl, s_pw hU hW hP hK hD hN⟩⟩ rfl rfl hl.1 rfl (lv_room (Nat.le_of_ble_eq_true rfl)) dX7_isEndReached_29 ⟨Nat.zero_le _, Nat.zero_le _⟩) hS (fun q _ h => h) (fun q h => h) (fun F40 t H1 locs ht hvm hw hB hz1 hk1 hS => ?_)
    obtain ⟨hP, hK1⟩ := hB
    rw [ht] at hP
    generalize H1 = H at hP hS ⊢
    obtain ⟨h41, h43, hI, hfr1, hzf, h42⟩ := hw
    have o44 : F40 (A 13) = .inl (cs 0, 400, .inl f1) := (hfr1 _ (by rw [(y_k13 hA)]; decide)).trans o32
    obtain ⟨z45, q46, oY47, bz48, bq49⟩ := y_opY hI ha0
    have hzf : ∀ k, k ∈ ([1, 2, 3, 4, 5, 6, 7, 8, 11, 15, 16, 25, 26, 27, 31, 32] : List Nat) → z45 k = z27 k := fun k hk => by have q9 := hzf k hk; rw [y_fiZ oY47 (s_sub (by decide) hk), y_fiZ oY34 (s_sub (by decide) hk)] at q9; exact q9
    have hz0 : ∀ k, k ∈ ([1, 2, 3, 4, 5, 6, 7, 8, 11, 15, 16, 25, 26, 27, 31, 32] : List Nat) → z45 k = z0 k := fun k hk => (hzf k (s_sub (by decide) hk)).trans (hz0 k hk)
    have hfr : ∀ b, K b ∉ [9, 67, 68] → F40 b = F b := fun b hb9 => (hfr1 b (fun q => hb9 (s_sub (by decide) q))).trans (hfr b hb9)
    obtain ⟨f50, o51, b52⟩ := y_op17 hI
    obtain ⟨f53, o54, b55⟩ := y_op18 hI
    obtain ⟨v56, ev56⟩ : ∃ y : Int32, y = z45 19 := ⟨_, rfl⟩
    have qv56 : 0 ≤ v56.toInt ∧ v56.toInt ≤ 41 := by rw [ev56]; exact y_bY19 bz48
    have h42 : (y_CM f50 f53 v56.toInt (y_c f1 387).toInt) := by have q9 := h42; rw [y_atE o51, y_atE o54, y_fiZ oY47 (k := 19) (by decide), ← ev56, y_atE o32] at q9; exact q9
    refine lv_iconst (v := 0) hx hb dX7_isEndReached_32 (by decide) ?_
    refine lv_istore_n (lv' := [(3, .int 0), (0, .ref a0), (1, .int x1), (2, .int x2)]) hx hb dX7_isEndReached_33 rfl hl (by decide) rfl (fun ls hl => ?_)
    have h58 : (0 : Int32).toInt = 0 := by decide
    refine th_loop (fun n g H locs => ∃ (G : Nat → va_E) (ls : Array Slot) (w57 : Int32), g = F0 m 34 ls [] ∧ lv_has ls 4 [(0, .ref a0), (2, .int x2), (3, .int w57)] ∧ va_P (dC, dI) vwCl (va_pl L G) H ∧ va_S (fun q => q ∈ L) s.heap H locs ∧ y_I K cs A G ∧ (∀ b, K b ∉ [9, 67, 68] → G b = F b) ∧ (∀ k, k ∈ ([1, 2, 3, 4, 5, 6, 7, 8, 11, 15, 16, 25, 26, 27, 31, 32] : List Nat) → y_fi G a0 k = z0 k) ∧ (0 ≤ w57.toInt ∧ w57.toInt ≤ 41) ∧ (-1 ≤ x2.toInt ∧ x2.toInt ≤ 40) ∧ y_CM (y_at G (A 17)) (y_at G (A 18)) (y_fi G a0 19).toInt (y_c f1 387).toInt ∧ n = (42 - w57.toInt).toNat) _ ⟨F40, _, 0, rfl, lv_sub hl [1, 3, 0] rfl, hP, hS, hI, hfr, (fun k hk => (y_fiZ oY47 (s_sub (by decide) hk)).trans (hz0 k hk)), (by decide), ⟨by omega, by omega⟩, (by rw [y_atE o51, y_atE o54, y_fiZ oY47 (k := 19) (by decide), ← ev56]; exact h42), rfl⟩ (fun n ih34 g H locs hq => ?_)
    obtain ⟨F62, ls, w57, rfl, hl, hP, hS, hI, hfr, hz0, h59, h60, h61, hn⟩ := hq
    have o63 : F62 (A 13) = .inl (cs 0, 400, .inl f1) := (hfr _ (by rw [(y_k13 hA)]; decide)).trans o2
    obtain ⟨z64, q65, oY66, bz67, bq68⟩ := y_opY hI ha0
    have hz0 : ∀ k, k ∈ ([1, 2, 3, 4, 5, 6, 7, 8, 11, 15, 16, 25, 26, 27, 31, 32] : List Nat) → z64 k = z0 k := fun k hk => (y_fiZ oY66 (s_sub (by decide) hk)).symm.trans (hz0 k hk)
    obtain ⟨f69, o70, b71⟩ := y_op17 hI
    obtain ⟨f72, o73, b74⟩ := y_op18 hI
    obtain ⟨v75, ev75⟩ : ∃ y : Int32, y = z64 19 := ⟨_, rfl⟩
    have qv75 : 0 ≤ v75.toInt ∧ v75.toInt ≤ 41 := by rw [ev75]; exact y_bY19 bz67
    have h61 : y_CM f69 f72 v75.toInt (y_c f1 387).toInt := by have q9 := h61; rw [y_atE o70, y_atE o73, y_fiZ oY66 (k := 19) (by decide), ← ev75] at q9; exact q9
    have hn_75 := hn
    refine lv_iload_n hx hb dX7_isEndReached_34 rfl (lv_at hl 2 rfl) ?_
    refine lv_aload_n hx hb dX7_isEndReached_35 rfl (lv_at hl 0 rfl) ?_
    refine th_get (D := (dC, dI)) (ci := 7) (v := .int (z64 19)) (C := RX7) (T := TX7) (N := 34) hx hb hts inX7 hown hK hP (hLK _ ha0 (by decide)) oY66 rfl 19 (by decide) (hts _ T_1093) (fun _ h9 => h9) rfl dX7_isEndReached_36 ?_
    refine ax_eqi (y := v75) ev75.symm ?_
    refine lv_icmp_ge (tgt := 59) hx hb dX7_isEndReached_39 (by decide) (fun c76 => ?_) (fun c76 => ?_)
    · have c76 := Int32.le_iff_toInt_le.mp c76
      refine lv_aload_n hx hb dX7_isEndReached_59 rfl (lv_at hl 0 rfl) ?_
      refine th_get (D := (dC, dI)) (ci := 7) (v := .ref (A 17)) (C := RX7) (T := TX7) (N := 34) hx hb hts inX7 hown hK hP (hLK _ ha0 (by decide)) oY66 rfl 17 (by decide) (hts _ T_249) (fun _ h9 => h9) rfl dX7_isEndReached_60 ?_
      refine lv_aload_n hx hb dX7_isEndReached_63 rfl (lv_at hl 0 rfl) ?_
      refine va_calli (va_runV (As := []) (rest := [.ref (A 17)]) ⟨hx, hb, hml, hown, hts⟩ (y_X7_lines l dC dI H.size hLK A hA F62 a0 ha0 hI) (cwV 0 hts (ax_gV T_1030 T_1032 T_1033 T_265 T_1031) rfl rfl rfl (by decide +kernel) ⟨Nat.le_of_ble_eq_true rfl, Nat.le_of_ble_eq_true rfl⟩) ⟨fun a U g mk q => ⟨q.1, s_pc rfl rfl q.2⟩, s_recv hK hP (hLK _ ha0 (by decide)) (ci := 7) rfl oY66, fun U hU hW => ⟨rfl, s_pw hU hW hP hK hD hN⟩⟩ rfl rfl hl.1 rfl (lv_room (Nat.le_of_ble_eq_true rfl)) dX7_isEndReached_64 ⟨Nat.zero_le _, Nat.zero_le _⟩) hS (fun q _ h => h) (fun q h => h) (fun r78 F79 t H1 locs ht hvm hw hB hz1 hk1 hS => ?_)
      obtain ⟨hP, hK1⟩ := hB
      rw [ht] at hP
      generalize H1 = H at hP hS ⊢
      obtain ⟨h80, h82, hI, hfr1, hzf, h81⟩ := hw
      have o83 : F79 (A 13) = .inl (cs 0, 400, .inl f1) := (hfr1 _ (by rw [(y_k13 hA)]; decide)).trans o63
      have o84 : F79 (A 17) = .inl (cs 7, 41, .inl f69) := (hfr1 _ (by rw [(y_k17 hA)]; decide)).trans o70
      have o85 : F79 (A 18) = .inl (cs 0, 41, .inl f72) := (hfr1 _ (by rw [(y_k18 hA)]; decide)).trans o73
      have oY86 : F79 a0 = .inr (7, y_fl A z64 q65) := (hfr1 _ (by rw [ha0]; decide)).trans oY66
      have hfr : ∀ b, K b ∉ [9, 67, 68] → F79 b = F b := fun b hb9 => (hfr1 b (fun q => hb9 (s_sub (by decide) q))).trans (hfr b hb9)
      have h81 : (r78 = y_c f1 387) := by have q9 := h81; rw [y_atE o63] at q9; exact q9
      have h87 := congrArg Int32.toInt h81
      have h88 : 1 ≤ r78.toInt ∧ r78.toInt ≤ 40 := ⟨by omega, by omega⟩
      refine th_zald hx hb hK hP (hLK _ (y_k17 hA) (by decide)) 7 o84 rfl (th_in ⟨by omega, by omega⟩) dX7_isEndReached_67 ?_
      refine lv_topi (fun v89 ev89 => ?_)
      have qv89 : 0 ≤ v89.toInt ∧ v89.toInt ≤ 1 := by rw [ev89]; exact b71 _ (th_cl ⟨by omega, by omega⟩)
      exact W.zret (v := v89) (ty := .boolean) hx hb hr (th_nz ⟨by omega, by omega⟩) (fun t ht hW => ⟨⟨v89, F79, rfl, ⟨⟨by omega, by omega⟩, trivial, hI, hfr, fun k hk => (y_fiZ oY86 (s_sub (by decide) hk)).trans ((hz0 k hk).trans (y_fiZ oY0 (s_sub (by decide) hk)).symm), trivial⟩, by rw [ht]; exact hP, va_K.moved hW.alike hK⟩, hS.F ht⟩) hS.2.2 dX7_isEndReached_68
    · have c76 := mt Int32.le_iff_toInt_le.mpr c76
      refine lv_aload_n hx hb dX7_isEndReached_42 rfl (lv_at hl 0 rfl) ?_
      refine lv_aload_n hx hb dX7_isEndReached_43 rfl (lv_at hl 0 rfl) ?_
      refine th_get (D := (dC, dI)) (ci := 7) (v := .ref (A 18)) (C := RX7) (T := TX7) (N := 34) hx hb hts inX7 hown hK hP (hLK _ ha0 (by decide)) oY66 rfl 18 (by decide) (hts _ T_250) (fun _ h9 => h9) rfl dX7_isEndReached_44 ?_
      refine lv_iload_n hx hb dX7_isEndReached_47 rfl (lv_at hl 2 rfl) ?_
      refine th_iald hx hb hK hP (hLK _ (y_k18 hA) (by decide)) 0 o73 rfl (th_in ⟨by omega, by omega⟩) dX7_isEndReached_48 ?_
      refine lv_topi (fun v90 ev90 => ?_)
      have qv90 : 0 ≤ v90.toInt ∧ v90.toInt ≤ 40 := by rw [ev90]; exact b74 _ (th_cl ⟨by omega, by omega⟩)
      refine lv_iload_n hx hb dX7_isEndReached_49 rfl (lv_at hl 1 rfl) ?_
      refine va_callv (va_runV (As := [.int v90, .int x2]) (rest := []) ⟨hx, hb, hml, hown, hts⟩ (y_X7_goesFrom l dC dI H.size hLK A hA F62 a0 v90 x2 ha0 (⟨by omega, by omega⟩) (⟨by omega, by omega⟩) hI (by rw [y_atE o63]; exact hP0) (by rw [y_atE o70, y_atE o73, y_fiZ oY66 (k := 19) (by decide), ← ev75, y_atE o63]; exact h61) (by rw [y_atE o63]; have q9 := (h61.2 w57.toInt (by omega) (by omega)).2; rw [show y_c f72 w57.toInt = v90 from ev90.symm] at q9; exact q9)) (cwV 2 hts (ax_gV T_1207 T_1209 T_1210 T_265 T_1208) rfl rfl rfl (by decide +kernel) ⟨Nat.le_of_ble_eq_true rfl, Nat.le_of_ble_eq_true rfl⟩) ⟨fun a U g mk q => ⟨q.1, s_pc rfl rfl q.2⟩, s_recv hK hP (hLK _ ha0 (by decide)) (ci := 7) rfl oY66, fun U hU hW => ⟨rfl, s_pw hU hW hP hK hD hN⟩⟩ rfl rfl hl.1 rfl (lv_room (Nat.le_of_ble_eq_true rfl)) dX7_isEndReached_50 ⟨Nat.zero_le _, Nat.zero_le _⟩) hS (fun q _ h => h) (fun q h => h) (fun F92 t H1 locs ht hvm hw hB hz1 hk1 hS => ?_)
      obtain ⟨hP, hK1⟩ := hB
      rw [ht] at hP
      generalize H1 = H at hP hS ⊢
      obtain ⟨h93, h95, hI, hfr1, hzf, h94⟩ := hw
      have o96 : F92 (A 13) = .inl (cs 0, 400, .inl f1) := (hfr1 _ (by rw [(y_k13 hA)]; decide)).trans o63
      obtain ⟨z97, q98, oY99, bz100, bq101⟩ := y_opY hI ha0
      have hzf : ∀ k, k ∈ ([1, 2, 3, 4, 5, 6, 7, 8, 11, 15, 16, 25, 26, 27, 31, 32] : List Nat) → z97 k = z64 k := fun k hk => by have q9 := hzf k hk; rw [y_fiZ oY99 (s_sub (by decide) hk), y_fiZ oY66 (s_sub (by decide) hk)] at q9; exact q9
      have hz0 : ∀ k, k ∈ ([1, 2, 3, 4, 5, 6, 7, 8, 11, 15, 16, 25, 26, 27, 31, 32] : List Nat) → z97 k = z0 k := fun k hk => (hzf k (s_sub (by decide) hk)).trans (hz0 k hk)
      have hfr : ∀ b, K b ∉ [9, 67, 68] → F92 b = F b := fun b hb9 => (hfr1 b (fun q => hb9 (s_sub (by decide) q))).trans (hfr b hb9)
      obtain ⟨f102, o103, b104⟩ := y_op17 hI
      obtain ⟨f105, o106, b107⟩ := y_op18 hI
      obtain ⟨v108, ev108⟩ : ∃ y : Int32, y = z97 19 := ⟨_, rfl⟩
      have qv108 : 0 ≤ v108.toInt ∧ v108.toInt ≤ 41 := by rw [ev108]; exact y_bY19 bz100
      have h94 : (y_CM f102 f105 v108.toInt (y_c f1 387).toInt) := by have q9 := h94; rw [y_atE o103, y_atE o106, y_fiZ oY99 (k := 19) (by decide), ← ev108, y_atE o63] at q9; exact q9
      obtain ⟨v109, ev109⟩ : ∃ y : Int32, w57 + 1 = y := ⟨_, rfl⟩
      have qv109 : v109.toInt = w57.toInt + 1 := by rw [← ev109]; exact th_add rfl (by decide) ⟨by omega, by omega⟩
      refine lv_iinc (v := v109) (lv' := [(3, .int v109), (0, .ref a0), (2, .int x2)]) hx hb dX7_isEndReached_53 hl (k := 2) rfl ev109 (by decide) rfl (fun ls hl => ?_)
      refine lv_goto (tgt := 34) hx hb dX7_isEndReached_56 (by decide) ?_
      exact ih34 _ _ _ _ (by omega) ⟨F92, _, v109, rfl, lv_sub hl [1, 2, 0] rfl, hP, hS, hI, hfr, (fun k hk => (y_fiZ oY99 (s_sub (by decide) hk)).trans (hz0 k hk)), ⟨by omega, by omega⟩, ⟨by omega, by omega⟩, (by rw [y_atE o103, y_atE o106, y_fiZ oY99 (k := 19) (by decide), ← ev108]; exact h94), rfl⟩
  · have c26 := mt (ax_gt (n := 40) (by decide)).mpr c26
    refine lv_aload_n hx hb dX7_isEndReached_8 rfl (lv_at hl 0 rfl) ?_
    refine th_get (D := (dC, dI)) (ci := 7) (v := .ref (A 17)) (C := RX7) (T := TX7) (N := 34) hx hb hts inX7 hown hK hP (hLK _ ha0 (by decide)) oY20 rfl 17 (by decide) (hts _ T_249) (fun _ h9 => h9) rfl dX7_isEndReached_9 ?_
    refine lv_iload_n hx hb dX7_isEndReached_12 rfl (lv_at hl 3 rfl) ?_
    refine lv_iconst (v := 0) hx hb dX7_isEndReached_13 (by decide) ?_
    refine th_zast hx hb hK hP hD hS (hLK _ (y_k17 hA) (by decide)) 7 o24 rfl (th_in ⟨by omega, by omega⟩) dX7_isEndReached_14 (fun H locs hP hS => ?_)
    obtain ⟨f110, u111⟩ : ∃ g : Nat → Int32, g = upd f23 (w10 : Int32).toNatClampNeg (vp_nar .boolean 0) := ⟨_, rfl⟩
    rw [← u111] at hP
    have b112 : y_bd 17 f110 := by rw [u111]; exact th_updB b25 (by decide)
    have hP : va_P (dC, dI) vwCl (va_pl L (va_up F16 (A 17) (.inl (cs 7, 41, .inl f110)))) H := hP
    obtain ⟨F113, hF114⟩ : ∃ G : Nat → va_E, G = va_up F16 (A 17) (.inl (cs 7, 41, .inl f110)) := ⟨_, rfl⟩
    rw [← hF114] at hP
    have hI : y_I K cs A F113 := by rw [hF114]; exact y_clA (i := 17) hA hI (by decide) b112
    have hfr : ∀ b, K b ∉ [9, 67, 68] → F113 b = F b := by rw [hF114]; exact s_fr hfr (y_k17 hA) (by decide)
    have o115 : F113 (A 13) = .inl (cs 0, 400, .inl f1) := by rw [hF114]; exact th_ne (th_kd (y_k13 hA) (y_k17 hA) (by decide)) o17
    have oY116 : F113 a0 = .inr (7, y_fl A z18 q19) := by rw [hF114]; exact th_ne (th_kd ha0 (y_k17 hA) (by decide)) oY20
    have o117 : F113 (A 17) = .inl (cs 7, 41, .inl f110) := by rw [hF114]; exact th_up
    have u118 : ∀ j : Int, 0 ≤ j → y_c f110 j = if j = w10.toInt then (vp_nar .boolean 0) else y_c f23 j := by rw [u111]; exact y_cu rfl (by omega)
    obtain ⟨v119, ev119⟩ : ∃ y : Int32, w10 + 1 = y := ⟨_, rfl⟩
    have qv119 : v119.toInt = w10.toInt + 1 := by rw [← ev119]; exact th_add rfl (by decide) ⟨by omega, by omega⟩
    refine lv_iinc (v := v119) (lv' := [(3, .int v119), (0, .ref a0), (1, .int x1), (2, .int x2)]) hx hb dX7_isEndReached_15 hl (k := 3) rfl ev119 (by decide) rfl (fun ls hl => ?_)
    refine lv_goto (tgt := 2) hx hb dX7_isEndReached_18 (by decide) ?_
    exact ih2 _ _ _ _ (by omega) ⟨F113, _, v119, rfl, lv_sub hl [1, 2, 3, 0] rfl, hP, hS, hI, hfr, (fun k hk => (y_fiZ oY116 (s_sub (by decide) hk)).trans (hz0 k hk)), ⟨by omega, by omega⟩, ⟨by omega, by omega⟩, ⟨by omega, by omega⟩, (by rw [y_atE o117]; exact (fun j h0 h1 => by rw [u118 j h0]; split; exact (by decide); exact h15 j h0 (by omega))), rfl⟩

set_option maxHeartbeats 4000000 in
set_option maxRecDepth 100000 in
theorem y_X7_isFirst (l : Launch) (dC : Nat → ClassId) (dI : Nat → Nat → Nat) (sz : Nat) {L : List Nat} {K : Nat → Nat} {cs : Nat → ClassId} (hLK : ∀ a {k : Nat}, K a = k → k ≠ 0 → a ∈ L) (A : Nat → Nat) (hA : y_A K A) (F : Nat → va_E) (a0 : Nat) (x1 : Int32) (x2 : Int32) (ha0 : K a0 = 9) (hx1 : 0 ≤ x1.toInt ∧ x1.toInt ≤ 39) (hx2 : 0 ≤ x2.toInt ∧ x2.toInt ≤ 39) (hI : y_I K cs A F) (hP0 : y_P0 (y_at F (A 13))) (hxm : x1.toInt < (y_c (y_at F (A 13)) 387).toInt) : Met l yX7_isFirst (Cond.code yX7_isFirst cX7_isFirst 4 (some .boolean) :: T0) ({ frames := 5, cells := 0, slots := 0, locals := 110 }) (va_Pc [.ref a0, .int x1, .int x2] (s_W dC dI sz L F [(cs 0, .int), (cs 1, .byte), (cs 2, .long), (cs 3, .object RX5), (cs 4, .object RX4), (cs 5, .array .int), (cs 6, .char), (cs 7, .boolean)])) (va_Qi (fun (r : Int32) (G : Nat → va_E) => (0 ≤ r.toInt ∧ r.toInt ≤ 1) ∧ True ∧ y_I K cs A G ∧ (∀ b, K b ∉ [9, 67, 68] → G b = F b) ∧ (∀ k, k ∈ ([1, 2, 3, 4, 5, 6, 7, 8, 11, 15, 16, 25, 26, 27, 31, 32] : List Nat) → y_fi G a0 k = y_fi F a0 k) ∧ True) (fun (G : Nat → va_E) (t : State) => va_P (dC, dI) vwCl (va_pl L G) t.heap ∧ va_K (dC, dI) vwCl [(cs 0, .int), (cs 1, .byte), (cs 2, .long), (cs 3, .object RX5), (cs 4, .object RX4), (cs 5, .array .int), (cs 6, .char), (cs 7, .boolean)] t) (fun q => q ∈ L)) 0 0 (fun q => q ∈ L) := by
  refine Met.ofW (cc := cX7_isFirst) (maxL := 4) (ret := (some .boolean)) (by decide) rfl ?_
  intro p e s m args below meth c s₁ B hml hv
  obtain ⟨rfl, hsz, hP, hK, hD, hN⟩ := hv
  have hx := B.exec
  have hb := B.bytes
  have hr := B.returns
  have hts : ∀ w ∈ T0, w.before _ s = true := fun w h => atoms_spec (ws := Cond.code yX7_isFirst cX7_isFirst 4 (some .boolean) :: T0) B.pre w (List.mem_cons_of_mem _ h)
  have hown : s.vm.findClass RX7 = some m.cls := findClass_of_methodNamed B.named
  have hlocks := B.notSynchronized
  have hS : va_S (fun q => q ∈ L) s.heap s.heap [] := va_S.rf
  have hfr : ∀ b, K b ∉ [9, 67, 68] → F b = F b := fun _ _ => rfl
  have hl := lv_entry ([.ref a0, .int x1, .int x2]) (n := 4) (Nat.le_of_ble_eq_true rfl)
  rw [lg_entry_eq]
  generalize (lg_sl ([.ref a0, .int x1, .int x2]) ++ List.replicate (4 - (lg_sl ([.ref a0, .int x1, .int x2])).length) Slot.unset).toArray = ls at hl ⊢
  have hl : lv_has ls 4 [(0, .ref a0), (1, .int x1), (2, .int x2)] := hl
  refine s_gen hP hS (fun H locs hP hS => ?_)
  obtain ⟨z0, q0, oY0, bz0, bq0⟩ := y_opY hI ha0
  have hz0 : ∀ k, k ∈ ([1, 2, 3, 4, 5, 6, 7, 8, 11, 15, 16, 25, 26, 27, 31, 32] : List Nat) → z0 k = z0 k := fun _ _ => rfl
  obtain ⟨f1, o2, b3⟩ := y_op13 hI
  have hP0 : y_P0 f1 := by have q9 := hP0; rw [y_atE o2] at q9; exact q9
  have hxm : x1.toInt < (y_c f1 387).toInt := by have q9 := hxm; rw [y_atE o2] at q9; exact q9
  have hL := y_P0L hP0
  have hW := y_P0W hP0
  refine lv_iconst (v := 0) hx hb dX7_isFirst_0 (by decide) ?_
  refine lv_istore_n (lv' := [(3, .int 0), (0, .ref a0), (1, .int x1), (2, .int x2)]) hx hb dX7_isFirst_1 rfl hl (by decide) rfl (fun ls hl => ?_)
  have h5 : (0 : Int32).toInt = 0 := by decide
  refine th_loop (fun n g H locs => ∃ (G : Nat → va_E) (ls : Array Slot) (w4 : Int32), g = F0 m 2 ls [] ∧ lv_has ls 4 [(0, .ref a0), (1, .int x1), (2, .int x2), (3, .int w4)] ∧ va_P (dC, dI) vwCl (va_pl L G) H ∧ va_S (fun q => q ∈ L) s.heap H locs ∧ y_I K cs A G ∧ (∀ b, K b ∉ [9, 67, 68] → G b = F b) ∧ (∀ k, k ∈ ([1, 2, 3, 4, 5, 6, 7, 8, 11, 15, 16, 25, 26, 27, 31, 32] : List Nat) → y_fi G a0 k = z0 k) ∧ (0 ≤ w4.toInt ∧ w4.toInt ≤ 40) ∧ (0 ≤ x1.toInt ∧ x1.toInt ≤ 39) ∧ (0 ≤ x2.toInt ∧ x2.toInt ≤ 39) ∧ n = (41 - w4.toInt).toNat) _ ⟨F, _, 0, rfl, lv_sub hl [1, 2, 3, 0] rfl, hP, hS, hI, hfr, (fun k hk => (y_fiZ oY0 (s_sub (by decide) hk)).trans (hz0 k hk)), (by decide), ⟨by omega, by omega⟩, ⟨by omega, by omega⟩, rfl⟩ (fun n ih2 g H locs hq => ?_)
  obtain ⟨F9, ls, w4, rfl, hl, hP, hS, hI, hfr, hz0, h6, h7, h8, hn⟩ := hq
  have o10 : F9 (A 13) = .inl (cs 0, 400, .inl f1) := (hfr _ (by rw [(y_k13 hA)]; decide)).trans o2
  obtain ⟨z11, q12, oY13, bz14, bq15⟩ := y_opY hI ha0
  have hz0 : ∀ k, k ∈ ([1, 2, 3, 4, 5, 6, 7, 8, 11, 15, 16, 25, 26, 27, 31, 32] : List Nat) → z11 k = z0 k := fun k hk => (y_fiZ oY13 (s_sub (by decide) hk)).symm.trans (hz0 k hk)
  have hn_15 := hn
  refine th_join (fun g H locs => ∃ (G : Nat → va_E) (ls : Array Slot), g = F0 m 50 ls [] ∧ lv_has ls 4 [(0, .ref a0), (1, .int x1), (2, .int x2), (3, .int w4)] ∧ va_P (dC, dI) vwCl (va_pl L G) H ∧ va_S (fun q => q ∈ L) s.heap H locs ∧ y_I K cs A G ∧ (∀ b, K b ∉ [9, 67, 68] → G b = F b) ∧ (∀ k, k ∈ ([1, 2, 3, 4, 5, 6, 7, 8, 11, 15, 16, 25, 26, 27, 31, 32] : List Nat) → y_fi G a0 k = z0 k) ∧ (0 ≤ x1.toInt ∧ x1.toInt ≤ 39) ∧ (0 ≤ x2.toInt ∧ x2.toInt ≤ 39) ∧ (0 ≤ w4.toInt ∧ w4.toInt ≤ 39)) (fun K50 => ?_) ?_
  · refine lv_iload_n hx hb dX7_isFirst_2 rfl (lv_at hl 3 rfl) ?_
    refine lv_aload_n hx hb dX7_isFirst_3 rfl (lv_at hl 0 rfl) ?_
    refine va_calli (va_runV (As := []) (rest := [.int w4]) ⟨hx, hb, hml, hown, hts⟩ (y_X7_lines l dC dI H.size hLK A hA F9 a0 ha0 hI) (cwV 0 hts (ax_gV T_1030 T_1032 T_1033 T_265 T_1031) rfl rfl rfl (by decide +kernel) ⟨Nat.le_of_ble_eq_true rfl, Nat.le_of_ble_eq_true rfl⟩) ⟨fun a U g mk q => ⟨q.1, s_pc rfl rfl q.2⟩, s_recv hK hP (hLK _ ha0 (by decide)) (ci := 7) rfl oY13, fun U hU hW => ⟨rfl, s_pw hU hW hP hK hD hN⟩⟩ rfl rfl hl.1 rfl (lv_room (Nat.le_of_ble_eq_true rfl)) dX7_isFirst_4 ⟨Nat.zero_le _, Nat.zero_le _⟩) hS (fun q _ h => h) (fun q h => h) (fun r17 F18 t H1 locs ht hvm hw hB hz1 hk1 hS => ?_)
    obtain ⟨hP, hK1⟩ := hB
    rw [ht] at hP
    generalize H1 = H at hP hS ⊢
    obtain ⟨h19, h21, hI, hfr1, hzf, h20⟩ := hw
    have o22 : F18 (A 13) = .inl (cs 0, 400, .inl f1) := (hfr1 _ (by rw [(y_k13 hA)]; decide)).trans o10
    have oY23 : F18 a0 = .inr (7, y_fl A z11 q12) := (hfr1 _ (by rw [ha0]; decide)).trans oY13
    have hfr : ∀ b, K b ∉ [9, 67, 68] → F18 b = F b := fun b hb9 => (hfr1 b (fun q => hb9 (s_sub (by decide) q))).trans (hfr b hb9)
    have h20 : (r17 = y_c f1 387) := by have q9 := h20; rw [y_atE o10] at q9; exact q9
    have h24 := congrArg Int32.toInt h20
    have h25 : 1 ≤ r17.toInt ∧ r17.toInt ≤ 40 := ⟨by omega, by omega⟩
    refine lv_icmp_ge (tgt := 56) hx hb dX7_isFirst_7 (by decide) (fun c26 => ?_) (fun c26 => ?_)
    · have c26 := Int32.le_iff_toInt_le.mp c26
      refine lv_iconst (v := 1) hx hb dX7_isFirst_56 (by decide) ?_
      have h27 : (1 : Int32).toInt = 1 := by decide
      exact W.zret (v := 1) (ty := .boolean) hx hb hr (by decide) (fun t ht hW => ⟨⟨1, F18, rfl, ⟨(by decide), trivial, hI, hfr, fun k hk => (y_fiZ oY23 (s_sub (by decide) hk)).trans ((hz0 k hk).trans (y_fiZ oY0 (s_sub (by decide) hk)).symm), trivial⟩, by rw [ht]; exact hP, va_K.moved hW.alike hK⟩, hS.F ht⟩) hS.2.2 dX7_isFirst_57
    · have c26 := mt Int32.le_iff_toInt_le.mpr c26
      refine lv_iload_n hx hb dX7_isFirst_10 rfl (lv_at hl 3 rfl) ?_
      refine lv_iload_n hx hb dX7_isFirst_11 rfl (lv_at hl 1 rfl) ?_
      refine lv_icmp_eq (tgt := 50) hx hb dX7_isFirst_12 (by decide) (fun c28 => ?_) (fun c28 => ?_)
      · have c28 := Int32.toInt_inj.symm.mp c28
        exact K50 _ _ _ ⟨F18, _, rfl, lv_sub hl [0, 1, 2, 3] rfl, hP, hS, hI, hfr, (fun k hk => (y_fiZ oY23 (s_sub (by decide) hk)).trans (hz0 k hk)), ⟨by omega, by omega⟩, ⟨by omega, by omega⟩, ⟨by omega, by omega⟩⟩
      · have c28 := mt Int32.toInt_inj.symm.mpr c28
        refine lv_iload_n hx hb dX7_isFirst_15 rfl (lv_at hl 3 rfl) ?_
        refine lv_iload_n hx hb dX7_isFirst_16 rfl (lv_at hl 2 rfl) ?_
        refine lv_icmp_eq (tgt := 50) hx hb dX7_isFirst_17 (by decide) (fun c29 => ?_) (fun c29 => ?_)
        · have c29 := Int32.toInt_inj.symm.mp c29
          exact K50 _ _ _ ⟨F18, _, rfl, lv_sub hl [0, 1, 2, 3] rfl, hP, hS, hI, hfr, (fun k hk => (y_fiZ oY23 (s_sub (by decide) hk)).trans (hz0 k hk)), ⟨by omega, by omega⟩, ⟨by omega, by omega⟩, ⟨by omega, by omega⟩⟩
        · have c29 := mt Int32.toInt_inj.symm.mpr c29
          refine lv_aload_n hx hb dX7_isFirst_20 rfl (lv_at hl 0 rfl) ?_
          refine lv_iload_n hx hb dX7_isFirst_21 rfl (lv_at hl 1 rfl) ?_
          refine lv_iload_n hx hb dX7_isFirst_22 rfl (lv_at hl 3 rfl) ?_
          refine va_calli (va_runV (As := [.int x1, .int w4]) (rest := []) ⟨hx, hb, hml, hown, hts⟩ (y_X7_isEndReached l dC dI H.size hLK A hA F18 a0 x1 w4 ha0 (⟨by omega, by omega⟩) (⟨by omega, by omega⟩) hI (by rw [y_atE o22]; exact hP0) (by first | (rw [y_atE o22]; omega) | rw [y_atE o22])) (cwV 2 hts (ax_gV T_1211 T_1213 T_1214 T_265 T_1212) rfl rfl rfl (by decide +kernel) ⟨Nat.le_of_ble_eq_true rfl, Nat.le_of_ble_eq_true rfl⟩) ⟨fun a U g mk q => ⟨q.1, s_pc rfl rfl q.2⟩, s_recv hK hP (hLK _ ha0 (by decide)) (ci := 7) rfl oY23, fun U hU hW => ⟨rfl, s_pw hU hW hP hK hD hN⟩⟩ rfl rfl hl.1 rfl (lv_room (Nat.le_of_ble_eq_true rfl)) dX7_isFirst_23 ⟨Nat.zero_le _, Nat.zero_le _⟩) hS (fun q _ h => h) (fun q h => h) (fun r31 F32 t H1 locs ht hvm hw hB hz1 hk1 hS => ?_)
          obtain ⟨hP, hK1⟩ := hB
          rw [ht] at hP
          generalize H1 = H at hP hS ⊢
          obtain ⟨h33, h35, hI, hfr1, hzf, h34⟩ := hw
          have o36 : F32 (A 13) = .inl (cs 0, 400, .inl f1) := (hfr1 _ (by rw [(y_k13 hA)]; decide)).trans o22
          obtain ⟨z37, q38, oY39, bz40, bq41⟩ := y_opY hI ha0
          have hzf : ∀ k, k ∈ ([1, 2, 3, 4, 5, 6, 7, 8, 11, 15, 16, 25, 26, 27, 31, 32] : List Nat) → z37 k = z11 k := fun k hk => by have q9 := hzf k hk; rw [y_fiZ oY39 (s_sub (by decide) hk), y_fiZ oY23 (s_sub (by decide) hk)] at q9; exact q9
          have hz0 : ∀ k, k ∈ ([1, 2, 3, 4, 5, 6, 7, 8, 11, 15, 16, 25, 26, 27, 31, 32] : List Nat) → z37 k = z0 k := fun k hk => (hzf k (s_sub (by decide) hk)).trans (hz0 k hk)
          have hfr : ∀ b, K b ∉ [9, 67, 68] → F32 b = F b := fun b hb9 => (hfr1 b (fun q => hb9 (s_sub (by decide) q))).trans (hfr b hb9)
          refine lv_if_eq (tgt := 32) hx hb dX7_isFirst_26 (by decide) (fun c42 => ?_) (fun c42 => ?_)
          · have c42 := (ax_eq (n := 0) (by decide)).mp c42
            refine lv_aload_n hx hb dX7_isFirst_32 rfl (lv_at hl 0 rfl) ?_
            refine lv_iload_n hx hb dX7_isFirst_33 rfl (lv_at hl 1 rfl) ?_
            refine lv_iload_n hx hb dX7_isFirst_34 rfl (lv_at hl 2 rfl) ?_
            refine va_calli (va_runV (As := [.int x1, .int x2]) (rest := []) ⟨hx, hb, hml, hown, hts⟩ (y_X7_isEndReached l dC dI H.size hLK A hA F32 a0 x1 x2 ha0 (⟨by omega, by omega⟩) (⟨by omega, by omega⟩) hI (by rw [y_atE o36]; exact hP0) (by first | (rw [y_atE o36]; omega) | rw [y_atE o36])) (cwV 2 hts (ax_gV T_1211 T_1213 T_1214 T_265 T_1212) rfl rfl rfl (by decide +kernel) ⟨Nat.le_of_ble_eq_true rfl, Nat.le_of_ble_eq_true rfl⟩) ⟨fun a U g mk q => ⟨q.1, s_pc rfl rfl q.2⟩, s_recv hK hP (hLK _ ha0 (by decide)) (ci := 7) rfl oY39, fun U hU hW => ⟨rfl, s_pw hU hW hP hK hD hN⟩⟩ rfl rfl hl.1 rfl (lv_room (Nat.le_of_ble_eq_true rfl)) dX7_isFirst_35 ⟨Nat.zero_le _, Nat.zero_le _⟩) hS (fun q _ h => h) (fun q h => h) (fun r44 F45 t H1 locs ht hvm hw hB hz1 hk1 hS => ?_)
            obtain ⟨hP, hK1⟩ := hB
            rw [ht] at hP
            generalize H1 = H at hP hS ⊢
            obtain ⟨h46, h48, hI, hfr1, hzf, h47⟩ := hw
            have o49 : F45 (A 13) = .inl (cs 0, 400, .inl f1) := (hfr1 _ (by rw [(y_k13 hA)]; decide)).trans o36
            obtain ⟨z50, q51, oY52, bz53, bq54⟩ := y_opY hI ha0
            have hzf : ∀ k, k ∈ ([1, 2, 3, 4, 5, 6, 7, 8, 11, 15, 16, 25, 26, 27, 31, 32] : List Nat) → z50 k = z37 k := fun k hk => by have q9 := hzf k hk; rw [y_fiZ oY52 (s_sub (by decide) hk), y_fiZ oY39 (s_sub (by decide) hk)] at q9; exact q9
            have hz0 : ∀ k, k ∈ ([1, 2, 3, 4, 5, 6, 7, 8, 11, 15, 16, 25, 26, 27, 31, 32] : List Nat) → z50 k = z0 k := fun k hk => (hzf k (s_sub (by decide) hk)).trans (hz0 k hk)
            have hfr : ∀ b, K b ∉ [9, 67, 68] → F45 b = F b := fun b hb9 => (hfr1 b (fun q => hb9 (s_sub (by decide) q))).trans (hfr b hb9)
            refine lv_pop hx hb dX7_isFirst_38 rfl ?_
            refine lv_aload_n hx hb dX7_isFirst_39 rfl (lv_at hl 0 rfl) ?_
            refine th_get (D := (dC, dI)) (ci := 7) (v := .ref (A 17)) (C := RX7) (T := TX7) (N := 34) hx hb hts inX7 hown hK hP (hLK _ ha0 (by decide)) oY52 rfl 17 (by decide) (hts _ T_249) (fun _ h9 => h9) rfl dX7_isFirst_40 ?_
            refine lv_iload_n hx hb dX7_isFirst_43 rfl (lv_at hl 3 rfl) ?_
            obtain ⟨f55, o56, b57⟩ := y_op17 hI
            refine th_zald hx hb hK hP (hLK _ (y_k17 hA) (by decide)) 7 o56 rfl (th_in ⟨by omega, by omega⟩) dX7_isFirst_44 ?_
            refine lv_topi (fun v58 ev58 => ?_)
            have qv58 : 0 ≤ v58.toInt ∧ v58.toInt ≤ 1 := by rw [ev58]; exact b57 _ (th_cl ⟨by omega, by omega⟩)
            refine lv_if_eq (tgt := 50) hx hb dX7_isFirst_45 (by decide) (fun c59 => ?_) (fun c59 => ?_)
            · have c59 := (ax_eq (n := 0) (by decide)).mp c59
              exact K50 _ _ _ ⟨F45, _, rfl, lv_sub hl [0, 1, 2, 3] rfl, hP, hS, hI, hfr, (fun k hk => (y_fiZ oY52 (s_sub (by decide) hk)).trans (hz0 k hk)), ⟨by omega, by omega⟩, ⟨by omega, by omega⟩, ⟨by omega, by omega⟩⟩
            · have c59 := mt (ax_eq (n := 0) (by decide)).mpr c59
              refine lv_iconst (v := 0) hx hb dX7_isFirst_48 (by decide) ?_
              have h60 : (0 : Int32).toInt = 0 := by decide
              exact W.zret (v := 0) (ty := .boolean) hx hb hr (by decide) (fun t ht hW => ⟨⟨0, F45, rfl, ⟨(by decide), trivial, hI, hfr, fun k hk => (y_fiZ oY52 (s_sub (by decide) hk)).trans ((hz0 k hk).trans (y_fiZ oY0 (s_sub (by decide) hk)).symm), trivial⟩, by rw [ht]; exact hP, va_K.moved hW.alike hK⟩, hS.F ht⟩) hS.2.2 dX7_isFirst_49
          · have c42 := mt (ax_eq (n := 0) (by decide)).mpr c42
            refine lv_goto (tgt := 50) hx hb dX7_isFirst_29 (by decide) ?_
            exact K50 _ _ _ ⟨F32, _, rfl, lv_sub hl [0, 1, 2, 3] rfl, hP, hS, hI, hfr, (fun k hk => (y_fiZ oY39 (s_sub (by decide) hk)).trans (hz0 k hk)), ⟨by omega, by omega⟩, ⟨by omega, by omega⟩, ⟨by omega, by omega⟩⟩
  · intro g H locs hq
    obtain ⟨F64, ls, rfl, hl, hP, hS, hI, hfr, hz0, h61, h62, h63⟩ := hq
    have o65 : F64 (A 13) = .inl (cs 0, 400, .inl f1) := (hfr _ (by rw [(y_k13 hA)]; decide)).trans o2
    obtain ⟨z66, q67, oY68, bz69, bq70⟩ := y_opY hI ha0
    have hz0 : ∀ k, k ∈ ([1, 2, 3, 4, 5, 6, 7, 8, 11, 15, 16, 25, 26, 27, 31, 32] : List Nat) → z66 k = z0 k := fun k hk => (y_fiZ oY68 (s_sub (by decide) hk)).symm.trans (hz0 k hk)
    obtain ⟨v71, ev71⟩ : ∃ y : Int32, w4 + 1 = y := ⟨_, rfl⟩
    have qv71 : v71.toInt = w4.toInt + 1 := by rw [← ev71]; exact th_add rfl (by decide) ⟨by omega, by omega⟩
    refine lv_iinc (v := v71) (lv' := [(3, .int v71), (0, .ref a0), (1, .int x1), (2, .int x2)]) hx hb dX7_isFirst_50 hl (k := 3) rfl ev71 (by decide) rfl (fun ls hl => ?_)
    refine lv_goto (tgt := 2) hx hb dX7_isFirst_53 (by decide) ?_
    exact ih2 _ _ _ _ (by omega) ⟨F64, _, v71, rfl, lv_sub hl [1, 2, 3, 0] rfl, hP, hS, hI, hfr, (fun k hk => (y_fiZ oY68 (s_sub (by decide) hk)).trans (hz0 k hk)), ⟨by omega, by omega⟩, ⟨by omega, by omega⟩, ⟨by omega, by omega⟩, rfl⟩

set_option maxHeartbeats 4000000 in
set_option maxRecDepth 100000 in
theorem y_X7_meetOf (l : Launch) (dC : Nat → ClassId) (dI : Nat → Nat → Nat) (sz : Nat) {L : List Nat} {K : Nat → Nat} {cs : Nat → ClassId} (hLK : ∀ a {k : Nat}, K a = k → k ≠ 0 → a ∈ L) (A : Nat → Nat) (hA : y_A K A) (F : Nat → va_E) (a0 : Nat) (x1 : Int32) (ha0 : K a0 = 9) (hx1 : 0 ≤ x1.toInt ∧ x1.toInt ≤ 39) (hI : y_I K cs A F) (hP0 : y_P0 (y_at F (A 13))) (hxm : x1.toInt < (y_c (y_at F (A 13)) 387).toInt) : Met l yX7_meetOf (Cond.code yX7_meetOf cX7_meetOf 3 (some .int) :: T0) ({ frames := 6, cells := 0, slots := 0, locals := 133 }) (va_Pc [.ref a0, .int x1] (s_W dC dI sz L F [(cs 0, .int), (cs 1, .byte), (cs 2, .long), (cs 3, .object RX5), (cs 4, .object RX4), (cs 5, .array .int), (cs 6, .char), (cs 7, .boolean)])) (va_Qi (fun (r : Int32) (G : Nat → va_E) => (0 ≤ r.toInt ∧ r.toInt ≤ 40) ∧ True ∧ y_I K cs A G ∧ (∀ b, K b ∉ [9, 67, 68] → G b = F b) ∧ (∀ k, k ∈ ([1, 2, 3, 4, 5, 6, 7, 8, 11, 15, 16, 25, 26, 27, 31, 32] : List Nat) → y_fi G a0 k = y_fi F a0 k) ∧ (0 ≤ r.toInt ∧ r.toInt ≤ (y_c (y_at F (A 13)) 387).toInt)) (fun (G : Nat → va_E) (t : State) => va_P (dC, dI) vwCl (va_pl L G) t.heap ∧ va_K (dC, dI) vwCl [(cs 0, .int), (cs 1, .byte), (cs 2, .long), (cs 3, .object RX5), (cs 4, .object RX4), (cs 5, .array .int), (cs 6, .char), (cs 7, .boolean)] t) (fun q => q ∈ L)) 0 0 (fun q => q ∈ L) := by
  refine Met.ofW (cc := cX7_meetOf) (maxL := 3) (ret := (some .int)) (by decide) rfl ?_
  intro p e s m args below meth c s₁ B hml hv
  obtain ⟨rfl, hsz, hP, hK, hD, hN⟩ := hv
  have hx := B.exec
  have hb := B.bytes
  have hr := B.returns
  have hts : ∀ w ∈ T0, w.before _ s = true := fun w h => atoms_spec (ws := Cond.code yX7_meetOf cX7_meetOf 3 (some .int) :: T0) B.pre w (List.mem_cons_of_mem _ h)
  have hown : s.vm.findClass RX7 = some m.cls := findClass_of_methodNamed B.named
  have hlocks := B.notSynchronized
  have hS : va_S (fun q => q ∈ L) s.heap s.heap [] := va_S.rf
  have hfr : ∀ b, K b ∉ [9, 67, 68] → F b = F b := fun _ _ => rfl
  have hl := lv_entry ([.ref a0, .int x1]) (n := 3) (Nat.le_of_ble_eq_true rfl)
  rw [lg_entry_eq]
  generalize (lg_sl ([.ref a0, .int x1]) ++ List.replicate (3 - (lg_sl ([.ref a0, .int x1])).length) Slot.unset).toArray = ls at hl ⊢
  have hl : lv_has ls 3 [(0, .ref a0), (1, .int x1)] := hl
  refine s_gen hP hS (fun H locs hP hS => ?_)
  obtain ⟨z0, q0, oY0, bz0, bq0⟩ := y_opY hI ha0
  have hz0 : ∀ k, k ∈ ([1, 2, 3, 4, 5, 6, 7, 8, 11, 15, 16, 25, 26, 27, 31, 32] : List Nat) → z0 k = z0 k := fun _ _ => rfl
  obtain ⟨f1, o2, b3⟩ := y_op13 hI
  have hP0 : y_P0 f1 := by have q9 := hP0; rw [y_atE o2] at q9; exact q9
  have hxm : x1.toInt < (y_c f1 387).toInt := by have q9 := hxm; rw [y_atE o2] at q9; exact q9
  have hL := y_P0L hP0
  have hW := y_P0W hP0
  refine lv_aload_n hx hb dX7_meetOf_0 rfl (lv_at hl 0 rfl) ?_
  refine lv_iload_n hx hb dX7_meetOf_1 rfl (lv_at hl 1 rfl) ?_
  refine lv_iconst (v := (-1)) hx hb dX7_meetOf_2 (by decide) ?_
  refine va_calli (va_runV (As := [.int x1, .int (-1)]) (rest := []) ⟨hx, hb, hml, hown, hts⟩ (y_X7_isEndReached l dC dI H.size hLK A hA F a0 x1 (-1) ha0 (⟨by omega, by omega⟩) (by decide) hI (by rw [y_atE o2]; exact hP0) (by first | (rw [y_atE o2]; omega) | rw [y_atE o2])) (cwV 2 hts (ax_gV T_1211 T_1213 T_1214 T_265 T_1212) rfl rfl rfl (by decide +kernel) ⟨Nat.le_of_ble_eq_true rfl, Nat.le_of_ble_eq_true rfl⟩) ⟨fun a U g mk q => ⟨q.1, s_pc rfl rfl q.2⟩, s_recv hK hP (hLK _ ha0 (by decide)) (ci := 7) rfl oY0, fun U hU hW => ⟨rfl, s_pw hU hW hP hK hD hN⟩⟩ rfl rfl hl.1 rfl (lv_room (Nat.le_of_ble_eq_true rfl)) dX7_meetOf_3 ⟨Nat.zero_le _, Nat.zero_le _⟩) hS (fun q _ h => h) (fun q h => h) (fun r5 F6 t H1 locs ht hvm hw hB hz1 hk1 hS => ?_)
  obtain ⟨hP, hK1⟩ := hB
  rw [ht] at hP
  generalize H1 = H at hP hS ⊢
  obtain ⟨h7, h9, hI, hfr1, hzf, h8⟩ := hw
  have o10 : F6 (A 13) = .inl (cs 0, 400, .inl f1) := (hfr1 _ (by rw [(y_k13 hA)]; decide)).trans o2
  obtain ⟨z11, q12, oY13, bz14, bq15⟩ := y_opY hI ha0
  have hzf : ∀ k, k ∈ ([1, 2, 3, 4, 5, 6, 7, 8, 11, 15, 16, 25, 26, 27, 31, 32] : List Nat) → z11 k = z0 k := fun k hk => by have q9 := hzf k hk; rw [y_fiZ oY13 (s_sub (by decide) hk), y_fiZ oY0 (s_sub (by decide) hk)] at q9; exact q9
  have hz0 : ∀ k, k ∈ ([1, 2, 3, 4, 5, 6, 7, 8, 11, 15, 16, 25, 26, 27, 31, 32] : List Nat) → z11 k = z0 k := fun k hk => (hzf k (s_sub (by decide) hk)).trans (hz0 k hk)
  have hfr : ∀ b, K b ∉ [9, 67, 68] → F6 b = F b := fun b hb9 => (hfr1 b (fun q => hb9 (s_sub (by decide) q))).trans (hfr b hb9)
  refine lv_if_ne (tgt := 14) hx hb dX7_meetOf_6 (by decide) (fun c16 => ?_) (fun c16 => ?_)
  · have c16 := mt (ax_eq (n := 0) (by decide)).mpr c16
    refine lv_iconst (v := 0) hx hb dX7_meetOf_14 (by decide) ?_
    refine lv_istore_n (lv' := [(2, .int 0), (0, .ref a0), (1, .int x1)]) hx hb dX7_meetOf_15 rfl hl (by decide) rfl (fun ls hl => ?_)
    have h18 : (0 : Int32).toInt = 0 := by decide
    refine th_loop (fun n g H locs => ∃ (G : Nat → va_E) (ls : Array Slot) (w17 : Int32), g = F0 m 16 ls [] ∧ lv_has ls 3 [(0, .ref a0), (1, .int x1), (2, .int w17)] ∧ va_P (dC, dI) vwCl (va_pl L G) H ∧ va_S (fun q => q ∈ L) s.heap H locs ∧ y_I K cs A G ∧ (∀ b, K b ∉ [9, 67, 68] → G b = F b) ∧ (∀ k, k ∈ ([1, 2, 3, 4, 5, 6, 7, 8, 11, 15, 16, 25, 26, 27, 31, 32] : List Nat) → y_fi G a0 k = z0 k) ∧ (0 ≤ w17.toInt ∧ w17.toInt ≤ 40) ∧ (0 ≤ x1.toInt ∧ x1.toInt ≤ 39) ∧ n = (41 - w17.toInt).toNat) _ ⟨F6, _, 0, rfl, lv_sub hl [1, 2, 0] rfl, hP, hS, hI, hfr, (fun k hk => (y_fiZ oY13 (s_sub (by decide) hk)).trans (hz0 k hk)), (by decide), ⟨by omega, by omega⟩, rfl⟩ (fun n ih16 g H locs hq => ?_)
    obtain ⟨F21, ls, w17, rfl, hl, hP, hS, hI, hfr, hz0, h19, h20, hn⟩ := hq
    have o22 : F21 (A 13) = .inl (cs 0, 400, .inl f1) := (hfr _ (by rw [(y_k13 hA)]; decide)).trans o2
    obtain ⟨z23, q24, oY25, bz26, bq27⟩ := y_opY hI ha0
    have hz0 : ∀ k, k ∈ ([1, 2, 3, 4, 5, 6, 7, 8, 11, 15, 16, 25, 26, 27, 31, 32] : List Nat) → z23 k = z0 k := fun k hk => (y_fiZ oY25 (s_sub (by decide) hk)).symm.trans (hz0 k hk)
    have hn_27 := hn
    refine th_join (fun g H locs => ∃ (G : Nat → va_E) (ls : Array Slot), g = F0 m 49 ls [] ∧ lv_has ls 3 [(0, .ref a0), (1, .int x1), (2, .int w17)] ∧ va_P (dC, dI) vwCl (va_pl L G) H ∧ va_S (fun q => q ∈ L) s.heap H locs ∧ y_I K cs A G ∧ (∀ b, K b ∉ [9, 67, 68] → G b = F b) ∧ (∀ k, k ∈ ([1, 2, 3, 4, 5, 6, 7, 8, 11, 15, 16, 25, 26, 27, 31, 32] : List Nat) → y_fi G a0 k = z0 k) ∧ (0 ≤ x1.toInt ∧ x1.toInt ≤ 39) ∧ (0 ≤ w17.toInt ∧ w17.toInt ≤ 39)) (fun K49 => ?_) ?_
    · refine lv_iload_n hx hb dX7_meetOf_16 rfl (lv_at hl 2 rfl) ?_
      refine lv_aload_n hx hb dX7_meetOf_17 rfl (lv_at hl 0 rfl) ?_
      refine va_calli (va_runV (As := []) (rest := [.int w17]) ⟨hx, hb, hml, hown, hts⟩ (y_X7_lines l dC dI H.size hLK A hA F21 a0 ha0 hI) (cwV 0 hts (ax_gV T_1030 T_1032 T_1033 T_265 T_1031) rfl rfl rfl (by decide +kernel) ⟨Nat.le_of_ble_eq_true rfl, Nat.le_of_ble_eq_true rfl⟩) ⟨fun a U g mk q => ⟨q.1, s_pc rfl rfl q.2⟩, s_recv hK hP (hLK _ ha0 (by decide)) (ci := 7) rfl oY25, fun U hU hW => ⟨rfl, s_pw hU hW hP hK hD hN⟩⟩ rfl rfl hl.1 rfl (lv_room (Nat.le_of_ble_eq_true rfl)) dX7_meetOf_18 ⟨Nat.zero_le _, Nat.zero_le _⟩) hS (fun q _ h => h) (fun q h => h) (fun r29 F30 t H1 locs ht hvm hw hB hz1 hk1 hS => ?_)
      obtain ⟨hP, hK1⟩ := hB
      rw [ht] at hP
      generalize H1 = H at hP hS ⊢
      obtain ⟨h31, h33, hI, hfr1, hzf, h32⟩ := hw
      have o34 : F30 (A 13) = .inl (cs 0, 400, .inl f1) := (hfr1 _ (by rw [(y_k13 hA)]; decide)).trans o22
      have oY35 : F30 a0 = .inr (7, y_fl A z23 q24) := (hfr1 _ (by rw [ha0]; decide)).trans oY25
      have hfr : ∀ b, K b ∉ [9, 67, 68] → F30 b = F b := fun b hb9 => (hfr1 b (fun q => hb9 (s_sub (by decide) q))).trans (hfr b hb9)
      have h32 : (r29 = y_c f1 387) := by have q9 := h32; rw [y_atE o22] at q9; exact q9
      have h36 := congrArg Int32.toInt h32
      have h37 : 1 ≤ r29.toInt ∧ r29.toInt ≤ 40 := ⟨by omega, by omega⟩
      refine lv_icmp_ge (tgt := 55) hx hb dX7_meetOf_21 (by decide) (fun c38 => ?_) (fun c38 => ?_)
      · have c38 := Int32.le_iff_toInt_le.mp c38
        refine lv_aload_n hx hb dX7_meetOf_55 rfl (lv_at hl 0 rfl) ?_
        refine va_calli (va_runV (As := []) (rest := []) ⟨hx, hb, hml, hown, hts⟩ (y_X7_lines l dC dI H.size hLK A hA F30 a0 ha0 hI) (cwV 0 hts (ax_gV T_1030 T_1032 T_1033 T_265 T_1031) rfl rfl rfl (by decide +kernel) ⟨Nat.le_of_ble_eq_true rfl, Nat.le_of_ble_eq_true rfl⟩) ⟨fun a U g mk q => ⟨q.1, s_pc rfl rfl q.2⟩, s_recv hK hP (hLK _ ha0 (by decide)) (ci := 7) rfl oY35, fun U hU hW => ⟨rfl, s_pw hU hW hP hK hD hN⟩⟩ rfl rfl hl.1 rfl (lv_room (Nat.le_of_ble_eq_true rfl)) dX7_meetOf_56 ⟨Nat.zero_le _, Nat.zero_le _⟩) hS (fun q _ h => h) (fun q h => h) (fun r40 F41 t H1 locs ht hvm hw hB hz1 hk1 hS => ?_)
        obtain ⟨hP, hK1⟩ := hB
        rw [ht] at hP
        generalize H1 = H at hP hS ⊢
        obtain ⟨h42, h44, hI, hfr1, hzf, h43⟩ := hw
        have o45 : F41 (A 13) = .inl (cs 0, 400, .inl f1) := (hfr1 _ (by rw [(y_k13 hA)]; decide)).trans o34
        have oY46 : F41 a0 = .inr (7, y_fl A z23 q24) := (hfr1 _ (by rw [ha0]; decide)).trans oY35
        have hfr : ∀ b, K b ∉ [9, 67, 68] → F41 b = F b := fun b hb9 => (hfr1 b (fun q => hb9 (s_sub (by decide) q))).trans (hfr b hb9)
        have h43 : (r40 = y_c f1 387) := by have q9 := h43; rw [y_atE o34] at q9; exact q9
        have h47 := congrArg Int32.toInt h43
        have h48 : 1 ≤ r40.toInt ∧ r40.toInt ≤ 40 := ⟨by omega, by omega⟩
        exact W.iret (v := r40) hx hb hr (fun t ht hW => ⟨⟨r40, F41, rfl, ⟨⟨by omega, by omega⟩, trivial, hI, hfr, fun k hk => (y_fiZ oY46 (s_sub (by decide) hk)).trans ((hz0 k hk).trans (y_fiZ oY0 (s_sub (by decide) hk)).symm), (by first | (rw [y_atE o2]; omega) | rw [y_atE o2])⟩, by rw [ht]; exact hP, va_K.moved hW.alike hK⟩, hS.F ht⟩) hS.2.2 dX7_meetOf_59
      · have c38 := mt Int32.le_iff_toInt_le.mpr c38
        refine lv_iload_n hx hb dX7_meetOf_24 rfl (lv_at hl 2 rfl) ?_
        refine lv_iload_n hx hb dX7_meetOf_25 rfl (lv_at hl 1 rfl) ?_
        refine lv_icmp_eq (tgt := 49) hx hb dX7_meetOf_26 (by decide) (fun c49 => ?_) (fun c49 => ?_)
        · have c49 := Int32.toInt_inj.symm.mp c49
          exact K49 _ _ _ ⟨F30, _, rfl, lv_sub hl [0, 1, 2] rfl, hP, hS, hI, hfr, (fun k hk => (y_fiZ oY35 (s_sub (by decide) hk)).trans (hz0 k hk)), ⟨by omega, by omega⟩, ⟨by omega, by omega⟩⟩
        · have c49 := mt Int32.toInt_inj.symm.mpr c49
          refine lv_aload_n hx hb dX7_meetOf_29 rfl (lv_at hl 0 rfl) ?_
          refine lv_iload_n hx hb dX7_meetOf_30 rfl (lv_at hl 1 rfl) ?_
          refine lv_iload_n hx hb dX7_meetOf_31 rfl (lv_at hl 2 rfl) ?_
          refine va_calli (va_runV (As := [.int x1, .int w17]) (rest := []) ⟨hx, hb, hml, hown, hts⟩ (y_X7_isEndReached l dC dI H.size hLK A hA F30 a0 x1 w17 ha0 (⟨by omega, by omega⟩) (⟨by omega, by omega⟩) hI (by rw [y_atE o34]; exact hP0) (by first | (rw [y_atE o34]; omega) | rw [y_atE o34])) (cwV 2 hts (ax_gV T_1211 T_1213 T_1214 T_265 T_1212) rfl rfl rfl (by decide +kernel) ⟨Nat.le_of_ble_eq_true rfl, Nat.le_of_ble_eq_true rfl⟩) ⟨fun a U g mk q => ⟨q.1, s_pc rfl rfl q.2⟩, s_recv hK hP (hLK _ ha0 (by decide)) (ci := 7) rfl oY35, fun U hU hW => ⟨rfl, s_pw hU hW hP hK hD hN⟩⟩ rfl rfl hl.1 rfl (lv_room (Nat.le_of_ble_eq_true rfl)) dX7_meetOf_32 ⟨Nat.zero_le _, Nat.zero_le _⟩) hS (fun q _ h => h) (fun q h => h) (fun r51 F52 t H1 locs ht hvm hw hB hz1 hk1 hS => ?_)
          obtain ⟨hP, hK1⟩ := hB
          rw [ht] at hP
          generalize H1 = H at hP hS ⊢
          obtain ⟨h53, h55, hI, hfr1, hzf, h54⟩ := hw
          have o56 : F52 (A 13) = .inl (cs 0, 400, .inl f1) := (hfr1 _ (by rw [(y_k13 hA)]; decide)).trans o34
          obtain ⟨z57, q58, oY59, bz60, bq61⟩ := y_opY hI ha0
          have hzf : ∀ k, k ∈ ([1, 2, 3, 4, 5, 6, 7, 8, 11, 15, 16, 25, 26, 27, 31, 32] : List Nat) → z57 k = z23 k := fun k hk => by have q9 := hzf k hk; rw [y_fiZ oY59 (s_sub (by decide) hk), y_fiZ oY35 (s_sub (by decide) hk)] at q9; exact q9
          have hz0 : ∀ k, k ∈ ([1, 2, 3, 4, 5, 6, 7, 8, 11, 15, 16, 25, 26, 27, 31, 32] : List Nat) → z57 k = z0 k := fun k hk => (hzf k (s_sub (by decide) hk)).trans (hz0 k hk)
          have hfr : ∀ b, K b ∉ [9, 67, 68] → F52 b = F b := fun b hb9 => (hfr1 b (fun q => hb9 (s_sub (by decide) q))).trans (hfr b hb9)
          refine lv_if_ne (tgt := 49) hx hb dX7_meetOf_35 (by decide) (fun c62 => ?_) (fun c62 => ?_)
          · have c62 := mt (ax_eq (n := 0) (by decide)).mpr c62
            exact K49 _ _ _ ⟨F52, _, rfl, lv_sub hl [0, 1, 2] rfl, hP, hS, hI, hfr, (fun k hk => (y_fiZ oY59 (s_sub (by decide) hk)).trans (hz0 k hk)), ⟨by omega, by omega⟩, ⟨by omega, by omega⟩⟩
          · have c62 := (ax_eq (n := 0) (by decide)).mp c62
            refine lv_aload_n hx hb dX7_meetOf_38 rfl (lv_at hl 0 rfl) ?_
            refine lv_iload_n hx hb dX7_meetOf_39 rfl (lv_at hl 1 rfl) ?_
            refine lv_iload_n hx hb dX7_meetOf_40 rfl (lv_at hl 2 rfl) ?_
            refine va_calli (va_runV (As := [.int x1, .int w17]) (rest := []) ⟨hx, hb, hml, hown, hts⟩ (y_X7_isFirst l dC dI H.size hLK A hA F52 a0 x1 w17 ha0 (⟨by omega, by omega⟩) (⟨by omega, by omega⟩) hI (by rw [y_atE o56]; exact hP0) (by first | (rw [y_atE o56]; omega) | rw [y_atE o56])) (cwV 2 hts (ax_gV T_1275 T_1277 T_1278 T_265 T_1276) rfl rfl rfl (by decide +kernel) ⟨Nat.le_of_ble_eq_true rfl, Nat.le_of_ble_eq_true rfl⟩) ⟨fun a U g mk q => ⟨q.1, s_pc rfl rfl q.2⟩, s_recv hK hP (hLK _ ha0 (by decide)) (ci := 7) rfl oY59, fun U hU hW => ⟨rfl, s_pw hU hW hP hK hD hN⟩⟩ rfl rfl hl.1 rfl (lv_room (Nat.le_of_ble_eq_true rfl)) dX7_meetOf_41 ⟨Nat.zero_le _, Nat.zero_le _⟩) hS (fun q _ h => h) (fun q h => h) (fun r64 F65 t H1 locs ht hvm hw hB hz1 hk1 hS => ?_)
            obtain ⟨hP, hK1⟩ := hB
            rw [ht] at hP
            generalize H1 = H at hP hS ⊢
            obtain ⟨h66, h68, hI, hfr1, hzf, h67⟩ := hw
            have o69 : F65 (A 13) = .inl (cs 0, 400, .inl f1) := (hfr1 _ (by rw [(y_k13 hA)]; decide)).trans o56
            obtain ⟨z70, q71, oY72, bz73, bq74⟩ := y_opY hI ha0
            have hzf : ∀ k, k ∈ ([1, 2, 3, 4, 5, 6, 7, 8, 11, 15, 16, 25, 26, 27, 31, 32] : List Nat) → z70 k = z57 k := fun k hk => by have q9 := hzf k hk; rw [y_fiZ oY72 (s_sub (by decide) hk), y_fiZ oY59 (s_sub (by decide) hk)] at q9; exact q9
            have hz0 : ∀ k, k ∈ ([1, 2, 3, 4, 5, 6, 7, 8, 11, 15, 16, 25, 26, 27, 31, 32] : List Nat) → z70 k = z0 k := fun k hk => (hzf k (s_sub (by decide) hk)).trans (hz0 k hk)
            have hfr : ∀ b, K b ∉ [9, 67, 68] → F65 b = F b := fun b hb9 => (hfr1 b (fun q => hb9 (s_sub (by decide) q))).trans (hfr b hb9)
            refine lv_if_eq (tgt := 49) hx hb dX7_meetOf_44 (by decide) (fun c75 => ?_) (fun c75 => ?_)
            · have c75 := (ax_eq (n := 0) (by decide)).mp c75
              exact K49 _ _ _ ⟨F65, _, rfl, lv_sub hl [0, 1, 2] rfl, hP, hS, hI, hfr, (fun k hk => (y_fiZ oY72 (s_sub (by decide) hk)).trans (hz0 k hk)), ⟨by omega, by omega⟩, ⟨by omega, by omega⟩⟩
            · have c75 := mt (ax_eq (n := 0) (by decide)).mpr c75
              refine lv_iload_n hx hb dX7_meetOf_47 rfl (lv_at hl 2 rfl) ?_
              exact W.iret (v := w17) hx hb hr (fun t ht hW => ⟨⟨w17, F65, rfl, ⟨⟨by omega, by omega⟩, trivial, hI, hfr, fun k hk => (y_fiZ oY72 (s_sub (by decide) hk)).trans ((hz0 k hk).trans (y_fiZ oY0 (s_sub (by decide) hk)).symm), (by first | (rw [y_atE o2]; omega) | rw [y_atE o2])⟩, by rw [ht]; exact hP, va_K.moved hW.alike hK⟩, hS.F ht⟩) hS.2.2 dX7_meetOf_48
    · intro g H locs hq
      obtain ⟨F78, ls, rfl, hl, hP, hS, hI, hfr, hz0, h76, h77⟩ := hq
      have o79 : F78 (A 13) = .inl (cs 0, 400, .inl f1) := (hfr _ (by rw [(y_k13 hA)]; decide)).trans o2
      obtain ⟨z80, q81, oY82, bz83, bq84⟩ := y_opY hI ha0
      have hz0 : ∀ k, k ∈ ([1, 2, 3, 4, 5, 6, 7, 8, 11, 15, 16, 25, 26, 27, 31, 32] : List Nat) → z80 k = z0 k := fun k hk => (y_fiZ oY82 (s_sub (by decide) hk)).symm.trans (hz0 k hk)
      obtain ⟨v85, ev85⟩ : ∃ y : Int32, w17 + 1 = y := ⟨_, rfl⟩
      have qv85 : v85.toInt = w17.toInt + 1 := by rw [← ev85]; exact th_add rfl (by decide) ⟨by omega, by omega⟩
      refine lv_iinc (v := v85) (lv' := [(2, .int v85), (0, .ref a0), (1, .int x1)]) hx hb dX7_meetOf_49 hl (k := 2) rfl ev85 (by decide) rfl (fun ls hl => ?_)
      refine lv_goto (tgt := 16) hx hb dX7_meetOf_52 (by decide) ?_
      exact ih16 _ _ _ _ (by omega) ⟨F78, _, v85, rfl, lv_sub hl [1, 2, 0] rfl, hP, hS, hI, hfr, (fun k hk => (y_fiZ oY82 (s_sub (by decide) hk)).trans (hz0 k hk)), ⟨by omega, by omega⟩, ⟨by omega, by omega⟩, rfl⟩
  · have c16 := (ax_eq (n := 0) (by decide)).mp c16
    refine lv_aload_n hx hb dX7_meetOf_9 rfl (lv_at hl 0 rfl) ?_
    refine va_calli (va_runV (As := []) (rest := []) ⟨hx, hb, hml, hown, hts⟩ (y_X7_lines l dC dI H.size hLK A hA F6 a0 ha0 hI) (cwV 0 hts (ax_gV T_1030 T_1032 T_1033 T_265 T_1031) rfl rfl rfl (by decide +kernel) ⟨Nat.le_of_ble_eq_true rfl, Nat.le_of_ble_eq_true rfl⟩) ⟨fun a U g mk q => ⟨q.1, s_pc rfl rfl q.2⟩, s_recv hK hP (hLK _ ha0 (by decide)) (ci := 7) rfl oY13, fun U hU hW => ⟨rfl, s_pw hU hW hP hK hD hN⟩⟩ rfl rfl hl.1 rfl (lv_room (Nat.le_of_ble_eq_true rfl)) dX7_meetOf_10 ⟨Nat.zero_le _, Nat.zero_le _⟩) hS (fun q _ h => h) (fun q h => h) (fun r87 F88 t H1 locs ht hvm hw hB hz1 hk1 hS => ?_)
    obtain ⟨hP, hK1⟩ := hB
    rw [ht] at hP
    generalize H1 = H at hP hS ⊢
    obtain ⟨h89, h91, hI, hfr1, hzf, h90⟩ := hw
    have o92 : F88 (A 13) = .inl (cs 0, 400, .inl f1) := (hfr1 _ (by rw [(y_k13 hA)]; decide)).trans o10
    have oY93 : F88 a0 = .inr (7, y_fl A z11 q12) := (hfr1 _ (by rw [ha0]; decide)).trans oY13
    have hfr : ∀ b, K b ∉ [9, 67, 68] → F88 b = F b := fun b hb9 => (hfr1 b (fun q => hb9 (s_sub (by decide) q))).trans (hfr b hb9)
    have h90 : (r87 = y_c f1 387) := by have q9 := h90; rw [y_atE o10] at q9; exact q9
    have h94 := congrArg Int32.toInt h90
    have h95 : 1 ≤ r87.toInt ∧ r87.toInt ≤ 40 := ⟨by omega, by omega⟩
    exact W.iret (v := r87) hx hb hr (fun t ht hW => ⟨⟨r87, F88, rfl, ⟨⟨by omega, by omega⟩, trivial, hI, hfr, fun k hk => (y_fiZ oY93 (s_sub (by decide) hk)).trans ((hz0 k hk).trans (y_fiZ oY0 (s_sub (by decide) hk)).symm), (by first | (rw [y_atE o2]; omega) | rw [y_atE o2])⟩, by rw [ht]; exact hP, va_K.moved hW.alike hK⟩, hS.F ht⟩) hS.2.2 dX7_meetOf_13
