set_option maxHeartbeats 4000000 in
set_option maxRecDepth 100000 in
theorem y_X7_lineTold (l : Launch) (dC : Nat → ClassId) (dI : Nat → Nat → Nat) (sz : Nat) {L : List Nat} {K : Nat → Nat} {cs : Nat → ClassId} (hLK : ∀ a {k : Nat}, K a = k → k ≠ 0 → a ∈ L) (A : Nat → Nat) (hA : y_A K A) (F : Nat → va_E) (a0 : Nat) (x1 : Int32) (ha0 : K a0 = 9) (hI : y_I K cs A F) (hg9 : ((y_c (y_at F (A 12)) 387).toInt ≤ 39 ∧ (y_fi F a0 5).toInt = 0)) : Met l yX7_lineTold (Cond.code yX7_lineTold cX7_lineTold 4 none :: T0) ({ frames := 6, cells := 0, slots := 0, locals := 128 }) (va_Pc [.ref a0, .int x1] (s_W dC dI sz L F [(cs 0, .int), (cs 1, .byte), (cs 2, .long), (cs 3, .object RX5), (cs 4, .object RX4), (cs 5, .array .int), (cs 6, .char), (cs 7, .boolean)])) (va_Qv (fun (G : Nat → va_E) => True ∧ True ∧ y_I K cs A G ∧ (∀ b, K b ∉ [9, 62, 64] → G b = F b) ∧ (∀ k, k ∈ ([1, 3, 7, 8, 15, 16, 19, 25, 26, 27, 31, 32] : List Nat) → y_fi G a0 k = y_fi F a0 k) ∧ (((y_fi F a0 5).toInt = 0 ∨ ¬ (y_fi G a0 5).toInt = 0) ∧ (∀ j : Int, 0 ≤ j → j < 8 * (y_c (y_at F (A 12)) 387).toInt → y_c (y_at G (A 12)) j = y_c (y_at F (A 12)) j) ∧ (∀ j : Int, 8 * (y_c (y_at F (A 12)) 387).toInt + 8 ≤ j → j ≠ 387 → y_c (y_at G (A 12)) j = y_c (y_at F (A 12)) j) ∧ ((y_fi G a0 5).toInt = 0 → (y_c (y_at G (A 12)) 387).toInt = (y_c (y_at F (A 12)) 387).toInt + 1 ∧ y_rg (y_at G (A 12)) (y_c (y_at F (A 12)) 387).toInt))) (fun (G : Nat → va_E) (t : State) => va_P (dC, dI) vwCl (va_pl L G) t.heap ∧ va_K (dC, dI) vwCl [(cs 0, .int), (cs 1, .byte), (cs 2, .long), (cs 3, .object RX5), (cs 4, .object RX4), (cs 5, .array .int), (cs 6, .char), (cs 7, .boolean)] t) (fun q => q ∈ L)) 0 0 (fun q => q ∈ L) := by
  refine Met.ofW (cc := cX7_lineTold) (maxL := 4) (ret := none) (by decide) rfl ?_
  intro p e s m args below meth c s₁ B hml hv
  obtain ⟨rfl, hsz, hP, hK, hD, hN⟩ := hv
  have hx := B.exec
  have hb := B.bytes
  have hr := B.returns
  have hts : ∀ w ∈ T0, w.before _ s = true := fun w h => atoms_spec (ws := Cond.code yX7_lineTold cX7_lineTold 4 none :: T0) B.pre w (List.mem_cons_of_mem _ h)
  have hown : s.vm.findClass RX7 = some m.cls := findClass_of_methodNamed B.named
  have hlocks := B.notSynchronized
  have hS : va_S (fun q => q ∈ L) s.heap s.heap [] := va_S.rf
  have hfr : ∀ b, K b ∉ [9, 62, 64] → F b = F b := fun _ _ => rfl
  have hl := lv_entry ([.ref a0, .int x1]) (n := 4) (Nat.le_of_ble_eq_true rfl)
  rw [lg_entry_eq]
  generalize (lg_sl ([.ref a0, .int x1]) ++ List.replicate (4 - (lg_sl ([.ref a0, .int x1])).length) Slot.unset).toArray = ls at hl ⊢
  have hl : lv_has ls 4 [(0, .ref a0), (1, .int x1)] := hl
  refine s_gen hP hS (fun H locs hP hS => ?_)
  obtain ⟨z0, q0, oY0, bz0, bq0⟩ := y_opY hI ha0
  have hz0 : ∀ k, k ∈ ([1, 3, 7, 8, 15, 16, 19, 25, 26, 27, 31, 32] : List Nat) → z0 k = z0 k := fun _ _ => rfl
  obtain ⟨f1, o2, b3⟩ := y_op12 hI
  obtain ⟨v4, ev4⟩ : ∃ y : Int32, y = z0 5 := ⟨_, rfl⟩
  have eF_5 := ev4
  have hg9 : ((y_c f1 387).toInt ≤ 39 ∧ v4.toInt = 0) := by have q9 := hg9; rw [y_atE o2, y_fiZ oY0 (k := 5) (by decide), ← ev4] at q9; exact q9
  obtain ⟨nn, hnn⟩ : ∃ n : Int, n = (y_c f1 387).toInt := ⟨_, rfl⟩
  have hnb : 0 ≤ (y_c f1 387).toInt ∧ (y_c f1 387).toInt ≤ 40 := b3
  rw [← hnn] at hnb
  rw [← hnn] at hg9
  have e0_v4 := ev4
  refine th_join (fun g H locs => ∃ (G : Nat → va_E) (ls : Array Slot), g = F0 m 147 ls [] ∧ lv_has ls 4 [(0, .ref a0)] ∧ va_P (dC, dI) vwCl (va_pl L G) H ∧ va_S (fun q => q ∈ L) s.heap H locs ∧ y_I K cs A G ∧ (∀ b, K b ∉ [9, 62, 64] → G b = F b) ∧ (∀ k, k ∈ ([1, 3, 7, 8, 15, 16, 19, 25, 26, 27, 31, 32] : List Nat) → y_fi G a0 k = z0 k) ∧ (y_c (y_at G (A 12)) 387).toInt = nn ∧ (∀ j : Int, 0 ≤ j → (j < 8 * nn ∨ 8 * nn + 8 ≤ j) → y_c (y_at G (A 12)) j = y_c f1 j) ∧ ((y_fi G a0 5).toInt = 0 → (0 ≤ (y_c (y_at G (A 12)) (8 * nn)).toInt ∧ (y_c (y_at G (A 12)) (8 * nn)).toInt ≤ 15) ∧ (((y_c (y_at G (A 12)) (8 * nn)).toInt = 5 ∨ (y_c (y_at G (A 12)) (8 * nn)).toInt = 6 ∨ 12 ≤ (y_c (y_at G (A 12)) (8 * nn)).toInt) ∨ -4 ≤ (y_c (y_at G (A 12)) (8 * nn + 2)).toInt) ∧ (((y_c (y_at G (A 12)) (8 * nn)).toInt = 5 ∨ (y_c (y_at G (A 12)) (8 * nn)).toInt = 6 ∨ 12 ≤ (y_c (y_at G (A 12)) (8 * nn)).toInt ∨ (y_c (y_at G (A 12)) (8 * nn)).toInt = 0 ∨ (y_c (y_at G (A 12)) (8 * nn)).toInt = 7 ∨ (y_c (y_at G (A 12)) (8 * nn)).toInt = 9 ∨ (y_c (y_at G (A 12)) (8 * nn)).toInt = 11) ∨ -4 ≤ (y_c (y_at G (A 12)) (8 * nn + 3)).toInt) ∧ ((y_c (y_at G (A 12)) (8 * nn)).toInt ≠ 12 ∨ (y_c (y_at G (A 12)) (8 * nn + 5)).toInt = -1000000 ∨ (-4 ≤ (y_c (y_at G (A 12)) (8 * nn + 2)).toInt ∧ -4 ≤ (y_c (y_at G (A 12)) (8 * nn + 3)).toInt))) ∧ v4.toInt = 0) (fun K147 => ?_) ?_
  refine th_join (fun g H locs => ∃ (G : Nat → va_E) (ls : Array Slot) (w5 : Int32), g = F0 m 110 ls [] ∧ lv_has ls 4 [(0, .ref a0), (2, .int w5)] ∧ va_P (dC, dI) vwCl (va_pl L G) H ∧ va_S (fun q => q ∈ L) s.heap H locs ∧ y_I K cs A G ∧ (∀ b, K b ∉ [9, 62, 64] → G b = F b) ∧ (∀ k, k ∈ ([1, 3, 7, 8, 15, 16, 19, 25, 26, 27, 31, 32] : List Nat) → y_fi G a0 k = z0 k) ∧ True ∧ (y_c (y_at G (A 12)) 387).toInt = nn ∧ (∀ j : Int, 0 ≤ j → (j < 8 * nn ∨ 8 * nn + 8 ≤ j) → y_c (y_at G (A 12)) j = y_c f1 j) ∧ ((v4.toInt = 0 ∧ 0 ≤ w5.toInt ∧ w5.toInt ≤ 15) ∧ (y_c (y_at G (A 12)) (8 * nn + 5)).toInt = -1000000 ∧ ((y_fi G a0 5).toInt = 0 → (y_c (y_at G (A 12)) (8 * nn)).toInt = w5.toInt))) (fun K110 => ?_) ?_
  refine th_join (fun g H locs => ∃ (G : Nat → va_E) (ls : Array Slot) (w6 : Int32), g = F0 m 76 ls [] ∧ lv_has ls 4 [(0, .ref a0), (2, .int w6)] ∧ va_P (dC, dI) vwCl (va_pl L G) H ∧ va_S (fun q => q ∈ L) s.heap H locs ∧ y_I K cs A G ∧ (∀ b, K b ∉ [9, 62, 64] → G b = F b) ∧ (∀ k, k ∈ ([1, 3, 7, 8, 15, 16, 19, 25, 26, 27, 31, 32] : List Nat) → y_fi G a0 k = z0 k) ∧ True ∧ (y_c (y_at G (A 12)) 387).toInt = nn ∧ (∀ j : Int, 0 ≤ j → (j < 8 * nn ∨ 8 * nn + 8 ≤ j) → y_c (y_at G (A 12)) j = y_c f1 j) ∧ (v4.toInt = 0 ∧ (y_c (y_at G (A 12)) (8 * nn + 5)).toInt = -1000000 ∧ ((y_fi G a0 5).toInt = 0 → 0 ≤ w6.toInt ∧ w6.toInt ≤ 15))) (fun K76 => ?_) ?_
  · refine lv_iconst (v := 1) hx hb dX7_lineTold_0 (by decide) ?_
    refine lv_istore_n (lv' := [(2, .int 1), (0, .ref a0), (1, .int x1)]) hx hb dX7_lineTold_1 rfl hl (by decide) rfl (fun ls hl => ?_)
    have h8 : (1 : Int32).toInt = 1 := by decide
    refine th_loop (fun n g H locs => ∃ (G : Nat → va_E) (ls : Array Slot) (w7 : Int32), g = F0 m 2 ls [] ∧ lv_has ls 4 [(0, .ref a0), (1, .int x1), (2, .int w7)] ∧ va_P (dC, dI) vwCl (va_pl L G) H ∧ va_S (fun q => q ∈ L) s.heap H locs ∧ y_I K cs A G ∧ (∀ b, K b ∉ [9, 62, 64] → G b = F b) ∧ (∀ k, k ∈ ([1, 3, 7, 8, 15, 16, 19, 25, 26, 27, 31, 32] : List Nat) → y_fi G a0 k = z0 k) ∧ (1 ≤ w7.toInt ∧ w7.toInt ≤ 7) ∧ (y_c (y_at G (A 12)) 387).toInt = nn ∧ (∀ j : Int, 0 ≤ j → (j < 8 * nn ∨ 8 * nn + 8 ≤ j) → y_c (y_at G (A 12)) j = y_c f1 j) ∧ ((v4.toInt = 0 ∧ (y_fi G a0 5).toInt = 0) ∧ (6 ≤ w7.toInt → (y_c (y_at G (A 12)) (8 * nn + 5)).toInt = -1000000)) ∧ n = (8 - w7.toInt).toNat) _ ⟨F, _, 1, rfl, lv_sub hl [1, 2, 0] rfl, hP, hS, hI, hfr, (fun k hk => (y_fiZ oY0 (s_sub (by decide) hk)).trans (hz0 k hk)), (by decide), (by rw [y_atE o2]; exact hnn.symm), (by rw [y_atE o2]; exact (fun j _ _ => rfl)), (by first | (rw [y_fiZ oY0 (k := 5) (by decide), ← ev4, y_atE o2]; omega) | rw [y_fiZ oY0 (k := 5) (by decide), ← ev4, y_atE o2]), rfl⟩ (fun n ih2 g H locs hq => ?_)
    obtain ⟨F13, ls, w7, rfl, hl, hP, hS, hI, hfr, hz0, h9, h10, h11, h12, hn⟩ := hq
    obtain ⟨z14, q15, oY16, bz17, bq18⟩ := y_opY hI ha0
    have hz0 : ∀ k, k ∈ ([1, 3, 7, 8, 15, 16, 19, 25, 26, 27, 31, 32] : List Nat) → z14 k = z0 k := fun k hk => (y_fiZ oY16 (s_sub (by decide) hk)).symm.trans (hz0 k hk)
    obtain ⟨f19, o20, b21⟩ := y_op12 hI
    have h10 : (y_c f19 387).toInt = nn := by have q9 := h10; rw [y_atE o20] at q9; exact q9
    have h11 : (∀ j : Int, 0 ≤ j → (j < 8 * nn ∨ 8 * nn + 8 ≤ j) → y_c f19 j = y_c f1 j) := by have q9 := h11; rw [y_atE o20] at q9; exact q9
    obtain ⟨v22, ev22⟩ : ∃ y : Int32, y = z14 5 := ⟨_, rfl⟩
    have h12 : ((v4.toInt = 0 ∧ v22.toInt = 0) ∧ (6 ≤ w7.toInt → (y_c f19 (8 * nn + 5)).toInt = -1000000)) := by have q9 := h12; rw [y_fiZ oY16 (k := 5) (by decide), ← ev22, y_atE o20] at q9; exact q9
    have hn_22 := hn
    refine lv_iload_n hx hb dX7_lineTold_2 rfl (lv_at hl 2 rfl) ?_
    refine lv_bipush (v := 7) hx hb dX7_lineTold_3 (by decide) ?_
    refine lv_icmp_ge (tgt := 21) hx hb dX7_lineTold_5 (by decide) (fun c23 => ?_) (fun c23 => ?_)
    · have c23 := (ax_ge (n := 7) (by decide)).mp c23
      refine lv_aload_n hx hb dX7_lineTold_21 rfl (lv_at hl 0 rfl) ?_
      refine lv_bipush (v := 7) hx hb dX7_lineTold_22 (by decide) ?_
      refine lv_iload_n hx hb dX7_lineTold_24 rfl (lv_at hl 1 rfl) ?_
      have ep24_5 := ev22
      refine va_callv (va_runV (As := [.int 7, .int x1]) (rest := []) ⟨hx, hb, hml, hown, hts⟩ (y_X7_lays l dC dI H.size hLK A hA F13 a0 7 x1 ha0 (by decide) hI) (cwV 2 hts (ax_gV T_1115 T_1117 T_1118 T_265 T_1116) rfl rfl rfl (by decide +kernel) ⟨Nat.le_of_ble_eq_true rfl, Nat.le_of_ble_eq_true rfl⟩) ⟨fun a U g mk q => ⟨q.1, s_pc rfl rfl q.2⟩, s_recv hK hP (hLK _ ha0 (by decide)) (ci := 7) rfl oY16, fun U hU hW => ⟨rfl, s_pw hU hW hP hK hD hN⟩⟩ rfl rfl hl.1 rfl (lv_room (Nat.le_of_ble_eq_true rfl)) dX7_lineTold_25 ⟨Nat.zero_le _, Nat.zero_le _⟩) hS (fun q _ h => h) (fun q h => h) (fun F25 t H1 locs ht hvm hw hB hz1 hk1 hS => ?_)
      obtain ⟨hP, hK1⟩ := hB
      rw [ht] at hP
      generalize H1 = H at hP hS ⊢
      obtain ⟨h26, h28, hI, hfr1, hzf, h27⟩ := hw
      have oY29 : F25 a0 = .inr (7, y_fl A z14 q15) := (hfr1 _ (by rw [ha0]; decide)).trans oY16
      have hfr : ∀ b, K b ∉ [9, 62, 64] → F25 b = F b := fun b hb9 => (hfr1 b (fun q => hb9 (s_sub (by decide) q))).trans (hfr b hb9)
      obtain ⟨f30, o31, b32⟩ := y_op12 hI
      have h27 : ((∀ j : Int, 0 ≤ j → j ≠ 8 * (y_c f19 387).toInt + 7 → y_c f30 j = y_c f19 j) ∧ (v22.toInt = 0 → y_c f30 (8 * (y_c f19 387).toInt + 7) = x1)) := by have q9 := h27; rw [y_atE o20, y_atE o31, y_fiZ oY16 (k := 5) (by decide), ← ep24_5] at q9; exact q9
      rw [h10] at h27
      have hn33 : (y_c f30 387).toInt = nn := by rw [h27.1 387 (by omega) (by omega)]; exact h10
      have hfr34 : ∀ j : Int, 0 ≤ j → (j < 8 * nn ∨ 8 * nn + 8 ≤ j) → y_c f30 j = y_c f1 j := fun j h0 h1 => (h27.1 j h0 (by omega)).trans (h11 j h0 h1)
      have h35 : (y_c f30 (8 * nn)).toInt = (y_c f19 (8 * nn)).toInt := (congrArg Int32.toInt (h27.1 _ (by omega) (by omega)))
      have h36 : (y_c f30 (8 * nn + 2)).toInt = (y_c f19 (8 * nn + 2)).toInt := (congrArg Int32.toInt (h27.1 _ (by omega) (by omega)))
      have h37 : (y_c f30 (8 * nn + 3)).toInt = (y_c f19 (8 * nn + 3)).toInt := (congrArg Int32.toInt (h27.1 _ (by omega) (by omega)))
      have h38 : (y_c f30 (8 * nn + 5)).toInt = (y_c f19 (8 * nn + 5)).toInt := (congrArg Int32.toInt (h27.1 _ (by omega) (by omega)))
      refine lv_aload_n hx hb dX7_lineTold_28 rfl (lv_at hl 0 rfl) ?_
      refine va_calli (va_runV (As := []) (rest := []) ⟨hx, hb, hml, hown, hts⟩ (y_X7_ownHere l dC dI H.size hLK A hA F25 a0 ha0 hI) (cwV 0 hts (ax_gV T_283 T_284 T_285 T_265 T_25) rfl rfl rfl (by decide +kernel) ⟨Nat.le_of_ble_eq_true rfl, Nat.le_of_ble_eq_true rfl⟩) ⟨fun a U g mk q => ⟨q.1, s_pc rfl rfl q.2⟩, s_recv hK hP (hLK _ ha0 (by decide)) (ci := 7) rfl oY29, fun U hU hW => ⟨rfl, s_pw hU hW hP hK hD hN⟩⟩ rfl rfl hl.1 rfl (lv_room (Nat.le_of_ble_eq_true rfl)) dX7_lineTold_29 ⟨Nat.zero_le _, Nat.zero_le _⟩) hS (fun q _ h => h) (fun q h => h) (fun r40 F41 t H1 locs ht hvm hw hB hz1 hk1 hS => ?_)
      obtain ⟨hP, hK1⟩ := hB
      rw [ht] at hP
      generalize H1 = H at hP hS ⊢
      obtain ⟨h42, h44, hI, hfr1, hzf, h43⟩ := hw
      have o45 : F41 (A 12) = .inl (cs 0, 400, .inl f30) := (hfr1 _ (by rw [(y_k12 hA)]; decide)).trans o31
      obtain ⟨z46, q47, oY48, bz49, bq50⟩ := y_opY hI ha0
      have hzf : ∀ k, k ∈ ([1, 3, 4, 5, 6, 7, 8, 11, 15, 16, 19, 25, 26, 27, 31, 32] : List Nat) → z46 k = z14 k := fun k hk => by have q9 := hzf k hk; rw [y_fiZ oY48 (s_sub (by decide) hk), y_fiZ oY29 (s_sub (by decide) hk)] at q9; exact q9
      have hz0 : ∀ k, k ∈ ([1, 3, 7, 8, 15, 16, 19, 25, 26, 27, 31, 32] : List Nat) → z46 k = z0 k := fun k hk => (hzf k (s_sub (by decide) hk)).trans (hz0 k hk)
      have ev22 : v22 = z46 5 := ev22.trans (hzf 5 (by decide)).symm
      have hfr : ∀ b, K b ∉ [9, 62, 64] → F41 b = F b := fun b hb9 => (hfr1 b (fun q => hb9 (s_sub (by decide) q))).trans (hfr b hb9)
      refine lv_istore_n (lv' := [(2, .int r40), (0, .ref a0), (1, .int x1)]) hx hb dX7_lineTold_32 rfl hl (by decide) rfl (fun ls hl => ?_)
      refine lv_aload_n hx hb dX7_lineTold_33 rfl (lv_at hl 1 rfl) ?_
      refine th_get (D := (dC, dI)) (ci := 7) (v := .int (z46 5)) (C := RX7) (T := TX7) (N := 34) hx hb hts inX7 hown hK hP (hLK _ ha0 (by decide)) oY48 rfl 5 (by decide) (hts _ T_274) (fun _ h9 => h9) rfl dX7_lineTold_34 ?_
      refine ax_eqi (y := v22) ev22.symm ?_
      refine lv_if_ne (tgt := 76) hx hb dX7_lineTold_37 (by decide) (fun c51 => ?_) (fun c51 => ?_)
      · have c51 := mt (ax_eq (n := 0) (by decide)).mpr c51
        exact K76 _ _ _ ⟨F41, _, r40, rfl, lv_sub hl [1, 0] rfl, hP, hS, hI, hfr, (fun k hk => (y_fiZ oY48 (s_sub (by decide) hk)).trans (hz0 k hk)), trivial, (by rw [y_atE o45]; exact hn33), (by rw [y_atE o45]; exact hfr34), (by first | (rw [y_atE o45, y_fiZ oY48 (k := 5) (by decide), ← ev22]; omega) | rw [y_atE o45, y_fiZ oY48 (k := 5) (by decide), ← ev22])⟩
      · have c51 := (ax_eq (n := 0) (by decide)).mp c51
        refine lv_iload_n hx hb dX7_lineTold_40 rfl (lv_at hl 0 rfl) ?_
        refine lv_i2l hx hb dX7_lineTold_41 rfl ?_
        refine lv_topl (fun v52 ev52 => ?_)
        have qv52 : v52.toInt = r40.toInt := y_i2l ev52
        refine lv_lconst (v := 0) hx hb dX7_lineTold_42 (by decide) ?_
        refine lv_ldc2 hx hb hown (hts _ T_1256) dX7_lineTold_43 ?_
        refine va_calli (va_runS (As := [.long v52, .long 0, .long 15]) (rest := []) ⟨hx, hb, hml, hown, hts⟩ (y_X7_isIn l dC dI H.size F41 v52 0 15) (cwS 3 hts (ax_gS T_267 T_268 T_265 T_21) rfl rfl rfl (by decide +kernel) ⟨Nat.le_of_ble_eq_true rfl, Nat.le_of_ble_eq_true rfl⟩) ⟨fun a U g mk q => ⟨q.1, s_pc rfl rfl q.2⟩, fun U hU hW => ⟨rfl, s_pw hU hW hP hK hD hN⟩⟩ rfl rfl hl.1 rfl (lv_room (Nat.le_of_ble_eq_true rfl)) dX7_lineTold_46 ⟨Nat.zero_le _, Nat.zero_le _⟩) hS (fun q _ h => h) (fun q h => h) (fun r54 F55 t H1 locs ht hvm hw hB hz1 hk1 hS => ?_)
        obtain ⟨hP, hK1⟩ := hB
        rw [ht] at hP
        generalize H1 = H at hP hS ⊢
        obtain ⟨h56, h58, hG9, h57⟩ := hw
        rw [hG9] at hP
        have h57 : ((r54.toInt = 0 ∧ (v52.toInt < 0 ∨ 15 < v52.toInt)) ∨ (r54.toInt = 1 ∧ 0 ≤ v52.toInt ∧ v52.toInt ≤ 15)) := by have q9 := h57; exact q9
        refine lv_if_ne (tgt := 76) hx hb dX7_lineTold_49 (by decide) (fun c59 => ?_) (fun c59 => ?_)
        · have c59 := mt (ax_eq (n := 0) (by decide)).mpr c59
          exact K76 _ _ _ ⟨F41, _, r40, rfl, lv_sub hl [1, 0] rfl, hP, hS, hI, hfr, (fun k hk => (y_fiZ oY48 (s_sub (by decide) hk)).trans (hz0 k hk)), trivial, (by rw [y_atE o45]; exact hn33), (by rw [y_atE o45]; exact hfr34), (by first | (rw [y_atE o45, y_fiZ oY48 (k := 5) (by decide), ← ev22]; omega) | rw [y_atE o45, y_fiZ oY48 (k := 5) (by decide), ← ev22])⟩
        · have c59 := (ax_eq (n := 0) (by decide)).mp c59
          refine lv_aload_n hx hb dX7_lineTold_52 rfl (lv_at hl 1 rfl) ?_
          refine lv_iconst (v := 1) hx hb dX7_lineTold_53 (by decide) ?_
          refine lv_aload_n hx hb dX7_lineTold_54 rfl (lv_at hl 1 rfl) ?_
          refine va_calli (va_runV (As := []) (rest := [.int 1, .ref a0]) ⟨hx, hb, hml, hown, hts⟩ (y_X7_look l dC dI H.size hLK A hA F41 a0 ha0 hI) (cwV 0 hts (ax_gV T_275 T_276 T_277 T_265 T_22) rfl rfl rfl (by decide +kernel) ⟨Nat.le_of_ble_eq_true rfl, Nat.le_of_ble_eq_true rfl⟩) ⟨fun a U g mk q => ⟨q.1, s_pc rfl rfl q.2⟩, s_recv hK hP (hLK _ ha0 (by decide)) (ci := 7) rfl oY48, fun U hU hW => ⟨rfl, s_pw hU hW hP hK hD hN⟩⟩ rfl rfl hl.1 rfl (lv_room (Nat.le_of_ble_eq_true rfl)) dX7_lineTold_55 ⟨Nat.zero_le _, Nat.zero_le _⟩) hS (fun q _ h => h) (fun q h => h) (fun r61 F62 t H1 locs ht hvm hw hB hz1 hk1 hS => ?_)
          obtain ⟨hP, hK1⟩ := hB
          rw [ht] at hP
          generalize H1 = H at hP hS ⊢
          obtain ⟨h63, h65, hI, hfr1, hzf, h64⟩ := hw
          have o66 : F62 (A 12) = .inl (cs 0, 400, .inl f30) := (hfr1 _ (by rw [(y_k12 hA)]; decide)).trans o45
          obtain ⟨z67, q68, oY69, bz70, bq71⟩ := y_opY hI ha0
          have hzf : ∀ k, k ∈ ([1, 3, 4, 5, 6, 7, 8, 11, 15, 16, 19, 25, 26, 27, 31, 32] : List Nat) → z67 k = z46 k := fun k hk => by have q9 := hzf k hk; rw [y_fiZ oY69 (s_sub (by decide) hk), y_fiZ oY48 (s_sub (by decide) hk)] at q9; exact q9
          have hz0 : ∀ k, k ∈ ([1, 3, 7, 8, 15, 16, 19, 25, 26, 27, 31, 32] : List Nat) → z67 k = z0 k := fun k hk => (hzf k (s_sub (by decide) hk)).trans (hz0 k hk)
          have ev22 : v22 = z67 5 := ev22.trans (hzf 5 (by decide)).symm
          have hfr : ∀ b, K b ∉ [9, 62, 64] → F62 b = F b := fun b hb9 => (hfr1 b (fun q => hb9 (s_sub (by decide) q))).trans (hfr b hb9)
          obtain ⟨v72, ev72⟩ : ∃ y : Int32, y = z67 2 := ⟨_, rfl⟩
          have qv72 : 0 ≤ v72.toInt ∧ v72.toInt ≤ 1600 := by rw [ev72]; exact y_bY2 bz70
          obtain ⟨v73, ev73⟩ : ∃ y : Int32, y = z67 3 := ⟨_, rfl⟩
          have qv73 : 0 ≤ v73.toInt ∧ v73.toInt ≤ 1600 := by rw [ev73]; exact y_bY3 bz70
          have h64 : (r61.toInt = -1 ∨ v72.toInt < v73.toInt) := by have q9 := h64; rw [y_fiZ oY69 (k := 2) (by decide), ← ev72, y_fiZ oY69 (k := 3) (by decide), ← ev73] at q9; exact q9
          refine lv_iconst (v := (-1)) hx hb dX7_lineTold_58 (by decide) ?_
          refine lv_icmp_ne (tgt := 69) hx hb dX7_lineTold_59 (by decide) (fun c74 => ?_) (fun c74 => ?_)
          · have c74 := mt (ax_eq (n := (-1)) (by decide)).mpr c74
            refine lv_aload_n hx hb dX7_lineTold_69 rfl (lv_at hl 1 rfl) ?_
            refine th_get (D := (dC, dI)) (ci := 7) (v := .int (z67 2)) (C := RX7) (T := TX7) (N := 34) hx hb hts inX7 hown hK hP (hLK _ ha0 (by decide)) oY69 rfl 2 (by decide) (hts _ T_272) (fun _ h9 => h9) rfl dX7_lineTold_70 ?_
            refine ax_eqi (y := v72) ev72.symm ?_
            refine va_callv (va_runV (As := [.int 1, .int v72]) (rest := []) ⟨hx, hb, hml, hown, hts⟩ (y_X7_fail l dC dI H.size hLK A hA F62 a0 1 v72 ha0 (by decide) hI) (cwV 2 hts (ax_gV T_290 T_291 T_292 T_265 T_27) rfl rfl rfl (by decide +kernel) ⟨Nat.le_of_ble_eq_true rfl, Nat.le_of_ble_eq_true rfl⟩) ⟨fun a U g mk q => ⟨q.1, s_pc rfl rfl q.2⟩, s_recv hK hP (hLK _ ha0 (by decide)) (ci := 7) rfl oY69, fun U hU hW => ⟨rfl, s_pw hU hW hP hK hD hN⟩⟩ rfl rfl hl.1 rfl (lv_room (Nat.le_of_ble_eq_true rfl)) dX7_lineTold_73 ⟨Nat.zero_le _, Nat.zero_le _⟩) hS (fun q _ h => h) (fun q h => h) (fun F76 t H1 locs ht hvm hw hB hz1 hk1 hS => ?_)
            obtain ⟨hP, hK1⟩ := hB
            rw [ht] at hP
            generalize H1 = H at hP hS ⊢
            obtain ⟨h77, h79, hI, hfr1, hzf, h78⟩ := hw
            have o80 : F76 (A 12) = .inl (cs 0, 400, .inl f30) := (hfr1 _ (by rw [(y_k12 hA)]; decide)).trans o66
            obtain ⟨z81, q82, oY83, bz84, bq85⟩ := y_opY hI ha0
            have hzf : ∀ k, k ∈ ([1, 2, 3, 4, 7, 8, 11, 15, 16, 19, 25, 26, 27, 31, 32] : List Nat) → z81 k = z67 k := fun k hk => by have q9 := hzf k hk; rw [y_fiZ oY83 (s_sub (by decide) hk), y_fiZ oY69 (s_sub (by decide) hk)] at q9; exact q9
            have hz0 : ∀ k, k ∈ ([1, 3, 7, 8, 15, 16, 19, 25, 26, 27, 31, 32] : List Nat) → z81 k = z0 k := fun k hk => (hzf k (s_sub (by decide) hk)).trans (hz0 k hk)
            have ev72 : v72 = z81 2 := ev72.trans (hzf 2 (by decide)).symm
            have ev73 : v73 = z81 3 := ev73.trans (hzf 3 (by decide)).symm
            have hfr : ∀ b, K b ∉ [9, 62, 64] → F76 b = F b := fun b hb9 => (hfr1 b (fun q => hb9 (s_sub (by decide) q))).trans (hfr b hb9)
            obtain ⟨v86, ev86⟩ : ∃ y : Int32, y = z81 5 := ⟨_, rfl⟩
            have h78 : (¬ v86.toInt = 0) := by have q9 := h78; rw [y_fiZ oY83 (k := 5) (by decide), ← ev86] at q9; exact q9
            exact K76 _ _ _ ⟨F76, _, r40, rfl, lv_sub hl [1, 0] rfl, hP, hS, hI, hfr, (fun k hk => (y_fiZ oY83 (s_sub (by decide) hk)).trans (hz0 k hk)), trivial, (by rw [y_atE o80]; exact hn33), (by rw [y_atE o80]; exact hfr34), (by first | (rw [y_atE o80, y_fiZ oY83 (k := 5) (by decide), ← ev86]; omega) | rw [y_atE o80, y_fiZ oY83 (k := 5) (by decide), ← ev86])⟩
          · have c74 := (ax_eq (n := (-1)) (by decide)).mp c74
            refine lv_aload_n hx hb dX7_lineTold_62 rfl (lv_at hl 1 rfl) ?_
            refine th_get (D := (dC, dI)) (ci := 7) (v := .int (z67 3)) (C := RX7) (T := TX7) (N := 34) hx hb hts inX7 hown hK hP (hLK _ ha0 (by decide)) oY69 rfl 3 (by decide) (hts _ T_273) (fun _ h9 => h9) rfl dX7_lineTold_63 ?_
            refine ax_eqi (y := v73) ev73.symm ?_
            refine lv_goto (tgt := 73) hx hb dX7_lineTold_66 (by decide) ?_
            refine va_callv (va_runV (As := [.int 1, .int v73]) (rest := []) ⟨hx, hb, hml, hown, hts⟩ (y_X7_fail l dC dI H.size hLK A hA F62 a0 1 v73 ha0 (by decide) hI) (cwV 2 hts (ax_gV T_290 T_291 T_292 T_265 T_27) rfl rfl rfl (by decide +kernel) ⟨Nat.le_of_ble_eq_true rfl, Nat.le_of_ble_eq_true rfl⟩) ⟨fun a U g mk q => ⟨q.1, s_pc rfl rfl q.2⟩, s_recv hK hP (hLK _ ha0 (by decide)) (ci := 7) rfl oY69, fun U hU hW => ⟨rfl, s_pw hU hW hP hK hD hN⟩⟩ rfl rfl hl.1 rfl (lv_room (Nat.le_of_ble_eq_true rfl)) dX7_lineTold_73 ⟨Nat.zero_le _, Nat.zero_le _⟩) hS (fun q _ h => h) (fun q h => h) (fun F88 t H1 locs ht hvm hw hB hz1 hk1 hS => ?_)
            obtain ⟨hP, hK1⟩ := hB
            rw [ht] at hP
            generalize H1 = H at hP hS ⊢
            obtain ⟨h89, h91, hI, hfr1, hzf, h90⟩ := hw
            have o92 : F88 (A 12) = .inl (cs 0, 400, .inl f30) := (hfr1 _ (by rw [(y_k12 hA)]; decide)).trans o66
            obtain ⟨z93, q94, oY95, bz96, bq97⟩ := y_opY hI ha0
            have hzf : ∀ k, k ∈ ([1, 2, 3, 4, 7, 8, 11, 15, 16, 19, 25, 26, 27, 31, 32] : List Nat) → z93 k = z67 k := fun k hk => by have q9 := hzf k hk; rw [y_fiZ oY95 (s_sub (by decide) hk), y_fiZ oY69 (s_sub (by decide) hk)] at q9; exact q9
            have hz0 : ∀ k, k ∈ ([1, 3, 7, 8, 15, 16, 19, 25, 26, 27, 31, 32] : List Nat) → z93 k = z0 k := fun k hk => (hzf k (s_sub (by decide) hk)).trans (hz0 k hk)
            have ev72 : v72 = z93 2 := ev72.trans (hzf 2 (by decide)).symm
            have ev73 : v73 = z93 3 := ev73.trans (hzf 3 (by decide)).symm
            have hfr : ∀ b, K b ∉ [9, 62, 64] → F88 b = F b := fun b hb9 => (hfr1 b (fun q => hb9 (s_sub (by decide) q))).trans (hfr b hb9)
            obtain ⟨v98, ev98⟩ : ∃ y : Int32, y = z93 5 := ⟨_, rfl⟩
            have h90 : (¬ v98.toInt = 0) := by have q9 := h90; rw [y_fiZ oY95 (k := 5) (by decide), ← ev98] at q9; exact q9
            exact K76 _ _ _ ⟨F88, _, r40, rfl, lv_sub hl [1, 0] rfl, hP, hS, hI, hfr, (fun k hk => (y_fiZ oY95 (s_sub (by decide) hk)).trans (hz0 k hk)), trivial, (by rw [y_atE o92]; exact hn33), (by rw [y_atE o92]; exact hfr34), (by first | (rw [y_atE o92, y_fiZ oY95 (k := 5) (by decide), ← ev98]; omega) | rw [y_atE o92, y_fiZ oY95 (k := 5) (by decide), ← ev98])⟩
    · have c23 := mt (ax_ge (n := 7) (by decide)).mpr c23
      refine lv_aload_n hx hb dX7_lineTold_8 rfl (lv_at hl 0 rfl) ?_
      refine lv_iload_n hx hb dX7_lineTold_9 rfl (lv_at hl 2 rfl) ?_
      refine lv_ldc (v := (-1000000)) hx hb hown (hts _ T_316) dX7_lineTold_10 ?_
      have ep99_5 := ev22
      refine va_callv (va_runV (As := [.int w7, .int (-1000000)]) (rest := []) ⟨hx, hb, hml, hown, hts⟩ (y_X7_lays l dC dI H.size hLK A hA F13 a0 w7 (-1000000) ha0 (⟨by omega, by omega⟩) hI) (cwV 2 hts (ax_gV T_1115 T_1117 T_1118 T_265 T_1116) rfl rfl rfl (by decide +kernel) ⟨Nat.le_of_ble_eq_true rfl, Nat.le_of_ble_eq_true rfl⟩) ⟨fun a U g mk q => ⟨q.1, s_pc rfl rfl q.2⟩, s_recv hK hP (hLK _ ha0 (by decide)) (ci := 7) rfl oY16, fun U hU hW => ⟨rfl, s_pw hU hW hP hK hD hN⟩⟩ rfl rfl hl.1 rfl (lv_room (Nat.le_of_ble_eq_true rfl)) dX7_lineTold_12 ⟨Nat.zero_le _, Nat.zero_le _⟩) hS (fun q _ h => h) (fun q h => h) (fun F100 t H1 locs ht hvm hw hB hz1 hk1 hS => ?_)
      obtain ⟨hP, hK1⟩ := hB
      rw [ht] at hP
      generalize H1 = H at hP hS ⊢
      obtain ⟨h101, h103, hI, hfr1, hzf, h102⟩ := hw
      have oY104 : F100 a0 = .inr (7, y_fl A z14 q15) := (hfr1 _ (by rw [ha0]; decide)).trans oY16
      have hfr : ∀ b, K b ∉ [9, 62, 64] → F100 b = F b := fun b hb9 => (hfr1 b (fun q => hb9 (s_sub (by decide) q))).trans (hfr b hb9)
      obtain ⟨f105, o106, b107⟩ := y_op12 hI
      have h102 : ((∀ j : Int, 0 ≤ j → j ≠ 8 * (y_c f19 387).toInt + w7.toInt → y_c f105 j = y_c f19 j) ∧ (v22.toInt = 0 → y_c f105 (8 * (y_c f19 387).toInt + w7.toInt) = (-1000000))) := by have q9 := h102; rw [y_atE o20, y_atE o106, y_fiZ oY16 (k := 5) (by decide), ← ep99_5] at q9; exact q9
      rw [h10] at h102
      have hn108 : (y_c f105 387).toInt = nn := by rw [h102.1 387 (by omega) (by omega)]; exact h10
      have hfr109 : ∀ j : Int, 0 ≤ j → (j < 8 * nn ∨ 8 * nn + 8 ≤ j) → y_c f105 j = y_c f1 j := fun j h0 h1 => (h102.1 j h0 (by omega)).trans (h11 j h0 h1)
      have h110 : w7.toInt = 0 → v22.toInt = 0 → (y_c f105 (8 * nn)).toInt = (-1000000) := fun h8 => (fun h9 => (congrArg (fun i => (y_c f105 i).toInt) (show 8 * nn = 8 * nn + w7.toInt by omega)).trans ((congrArg Int32.toInt (h102.2 h9)).trans (by decide)))
      have h111 : w7.toInt ≠ 0 → (y_c f105 (8 * nn)).toInt = (y_c f19 (8 * nn)).toInt := fun h8 => (congrArg Int32.toInt (h102.1 _ (by omega) (by omega)))
      have h112 : w7.toInt = 2 → v22.toInt = 0 → (y_c f105 (8 * nn + 2)).toInt = (-1000000) := fun h8 => (fun h9 => (congrArg (fun i => (y_c f105 i).toInt) (show 8 * nn + 2 = 8 * nn + w7.toInt by omega)).trans ((congrArg Int32.toInt (h102.2 h9)).trans (by decide)))
      have h113 : w7.toInt ≠ 2 → (y_c f105 (8 * nn + 2)).toInt = (y_c f19 (8 * nn + 2)).toInt := fun h8 => (congrArg Int32.toInt (h102.1 _ (by omega) (by omega)))
      have h114 : w7.toInt = 3 → v22.toInt = 0 → (y_c f105 (8 * nn + 3)).toInt = (-1000000) := fun h8 => (fun h9 => (congrArg (fun i => (y_c f105 i).toInt) (show 8 * nn + 3 = 8 * nn + w7.toInt by omega)).trans ((congrArg Int32.toInt (h102.2 h9)).trans (by decide)))
      have h115 : w7.toInt ≠ 3 → (y_c f105 (8 * nn + 3)).toInt = (y_c f19 (8 * nn + 3)).toInt := fun h8 => (congrArg Int32.toInt (h102.1 _ (by omega) (by omega)))
      have h116 : w7.toInt = 5 → v22.toInt = 0 → (y_c f105 (8 * nn + 5)).toInt = (-1000000) := fun h8 => (fun h9 => (congrArg (fun i => (y_c f105 i).toInt) (show 8 * nn + 5 = 8 * nn + w7.toInt by omega)).trans ((congrArg Int32.toInt (h102.2 h9)).trans (by decide)))
      have h117 : w7.toInt ≠ 5 → (y_c f105 (8 * nn + 5)).toInt = (y_c f19 (8 * nn + 5)).toInt := fun h8 => (congrArg Int32.toInt (h102.1 _ (by omega) (by omega)))
      obtain ⟨v118, ev118⟩ : ∃ y : Int32, w7 + 1 = y := ⟨_, rfl⟩
      have qv118 : v118.toInt = w7.toInt + 1 := by rw [← ev118]; exact th_add rfl (by decide) ⟨by omega, by omega⟩
      refine lv_iinc (v := v118) (lv' := [(2, .int v118), (0, .ref a0), (1, .int x1)]) hx hb dX7_lineTold_15 hl (k := 2) rfl ev118 (by decide) rfl (fun ls hl => ?_)
      refine lv_goto (tgt := 2) hx hb dX7_lineTold_18 (by decide) ?_
      exact ih2 _ _ _ _ (by omega) ⟨F100, _, v118, rfl, lv_sub hl [1, 2, 0] rfl, hP, hS, hI, hfr, (fun k hk => (y_fiZ oY104 (s_sub (by decide) hk)).trans (hz0 k hk)), ⟨by omega, by omega⟩, (by rw [y_atE o106]; exact hn108), (by rw [y_atE o106]; exact hfr109), (by first | (rw [y_fiZ oY104 (k := 5) (by decide), ← ev22, y_atE o106]; omega) | rw [y_fiZ oY104 (k := 5) (by decide), ← ev22, y_atE o106]), rfl⟩
  · intro g H locs hq
    obtain ⟨F123, ls, w6, rfl, hl, hP, hS, hI, hfr, hz0, h119, h120, h121, h122⟩ := hq
    obtain ⟨z124, q125, oY126, bz127, bq128⟩ := y_opY hI ha0
    have hz0 : ∀ k, k ∈ ([1, 3, 7, 8, 15, 16, 19, 25, 26, 27, 31, 32] : List Nat) → z124 k = z0 k := fun k hk => (y_fiZ oY126 (s_sub (by decide) hk)).symm.trans (hz0 k hk)
    obtain ⟨f129, o130, b131⟩ := y_op12 hI
    have h120 : (y_c f129 387).toInt = nn := by have q9 := h120; rw [y_atE o130] at q9; exact q9
    have h121 : (∀ j : Int, 0 ≤ j → (j < 8 * nn ∨ 8 * nn + 8 ≤ j) → y_c f129 j = y_c f1 j) := by have q9 := h121; rw [y_atE o130] at q9; exact q9
    obtain ⟨v132, ev132⟩ : ∃ y : Int32, y = z124 5 := ⟨_, rfl⟩
    have h122 : (v4.toInt = 0 ∧ (y_c f129 (8 * nn + 5)).toInt = -1000000 ∧ (v132.toInt = 0 → 0 ≤ w6.toInt ∧ w6.toInt ≤ 15)) := by have q9 := h122; rw [y_atE o130, y_fiZ oY126 (k := 5) (by decide), ← ev132] at q9; exact q9
    refine lv_aload_n hx hb dX7_lineTold_76 rfl (lv_at hl 0 rfl) ?_
    refine th_get (D := (dC, dI)) (ci := 7) (v := .int (z124 5)) (C := RX7) (T := TX7) (N := 34) hx hb hts inX7 hown hK hP (hLK _ ha0 (by decide)) oY126 rfl 5 (by decide) (hts _ T_274) (fun _ h9 => h9) rfl dX7_lineTold_77 ?_
    refine ax_eqi (y := v132) ev132.symm ?_
    refine lv_if_eq (tgt := 84) hx hb dX7_lineTold_80 (by decide) (fun c133 => ?_) (fun c133 => ?_)
    · have c133 := (ax_eq (n := 0) (by decide)).mp c133
      refine lv_aload_n hx hb dX7_lineTold_84 rfl (lv_at hl 0 rfl) ?_
      refine va_callv (va_runV (As := []) (rest := []) ⟨hx, hb, hml, hown, hts⟩ (y_X7_passes l dC dI H.size hLK A hA F123 a0 ha0 hI) (cwV 0 hts (ax_gV T_1257 T_1259 T_1260 T_265 T_1258) rfl rfl rfl (by decide +kernel) ⟨Nat.le_of_ble_eq_true rfl, Nat.le_of_ble_eq_true rfl⟩) ⟨fun a U g mk q => ⟨q.1, s_pc rfl rfl q.2⟩, s_recv hK hP (hLK _ ha0 (by decide)) (ci := 7) rfl oY126, fun U hU hW => ⟨rfl, s_pw hU hW hP hK hD hN⟩⟩ rfl rfl hl.1 rfl (lv_room (Nat.le_of_ble_eq_true rfl)) dX7_lineTold_85 ⟨Nat.zero_le _, Nat.zero_le _⟩) hS (fun q _ h => h) (fun q h => h) (fun F135 t H1 locs ht hvm hw hB hz1 hk1 hS => ?_)
      obtain ⟨hP, hK1⟩ := hB
      rw [ht] at hP
      generalize H1 = H at hP hS ⊢
      obtain ⟨h136, h138, hI, hfr1, hzf, h137⟩ := hw
      have o139 : F135 (A 12) = .inl (cs 0, 400, .inl f129) := (hfr1 _ (by rw [(y_k12 hA)]; decide)).trans o130
      obtain ⟨z140, q141, oY142, bz143, bq144⟩ := y_opY hI ha0
      have hzf : ∀ k, k ∈ ([1, 3, 5, 6, 7, 8, 11, 15, 16, 19, 25, 26, 27, 31, 32] : List Nat) → z140 k = z124 k := fun k hk => by have q9 := hzf k hk; rw [y_fiZ oY142 (s_sub (by decide) hk), y_fiZ oY126 (s_sub (by decide) hk)] at q9; exact q9
      have hz0 : ∀ k, k ∈ ([1, 3, 7, 8, 15, 16, 19, 25, 26, 27, 31, 32] : List Nat) → z140 k = z0 k := fun k hk => (hzf k (s_sub (by decide) hk)).trans (hz0 k hk)
      have ev132 : v132 = z140 5 := ev132.trans (hzf 5 (by decide)).symm
      have hfr : ∀ b, K b ∉ [9, 62, 64] → F135 b = F b := fun b hb9 => (hfr1 b (fun q => hb9 (s_sub (by decide) q))).trans (hfr b hb9)
      refine lv_aload_n hx hb dX7_lineTold_88 rfl (lv_at hl 0 rfl) ?_
      refine lv_iconst (v := 0) hx hb dX7_lineTold_89 (by decide) ?_
      refine lv_iload_n hx hb dX7_lineTold_90 rfl (lv_at hl 1 rfl) ?_
      have ep145_5 := ev132
      refine va_callv (va_runV (As := [.int 0, .int w6]) (rest := []) ⟨hx, hb, hml, hown, hts⟩ (y_X7_lays l dC dI H.size hLK A hA F135 a0 0 w6 ha0 (by decide) hI) (cwV 2 hts (ax_gV T_1115 T_1117 T_1118 T_265 T_1116) rfl rfl rfl (by decide +kernel) ⟨Nat.le_of_ble_eq_true rfl, Nat.le_of_ble_eq_true rfl⟩) ⟨fun a U g mk q => ⟨q.1, s_pc rfl rfl q.2⟩, s_recv hK hP (hLK _ ha0 (by decide)) (ci := 7) rfl oY142, fun U hU hW => ⟨rfl, s_pw hU hW hP hK hD hN⟩⟩ rfl rfl hl.1 rfl (lv_room (Nat.le_of_ble_eq_true rfl)) dX7_lineTold_91 ⟨Nat.zero_le _, Nat.zero_le _⟩) hS (fun q _ h => h) (fun q h => h) (fun F146 t H1 locs ht hvm hw hB hz1 hk1 hS => ?_)
      obtain ⟨hP, hK1⟩ := hB
      rw [ht] at hP
      generalize H1 = H at hP hS ⊢
      obtain ⟨h147, h149, hI, hfr1, hzf, h148⟩ := hw
      have oY150 : F146 a0 = .inr (7, y_fl A z140 q141) := (hfr1 _ (by rw [ha0]; decide)).trans oY142
      have hfr : ∀ b, K b ∉ [9, 62, 64] → F146 b = F b := fun b hb9 => (hfr1 b (fun q => hb9 (s_sub (by decide) q))).trans (hfr b hb9)
      obtain ⟨f151, o152, b153⟩ := y_op12 hI
      have h148 : ((∀ j : Int, 0 ≤ j → j ≠ 8 * (y_c f129 387).toInt + 0 → y_c f151 j = y_c f129 j) ∧ (v132.toInt = 0 → y_c f151 (8 * (y_c f129 387).toInt + 0) = w6)) := by have q9 := h148; rw [y_atE o139, y_atE o152, y_fiZ oY142 (k := 5) (by decide), ← ep145_5] at q9; exact q9
      rw [h120] at h148
      have hn154 : (y_c f151 387).toInt = nn := by rw [h148.1 387 (by omega) (by omega)]; exact h120
      have hfr155 : ∀ j : Int, 0 ≤ j → (j < 8 * nn ∨ 8 * nn + 8 ≤ j) → y_c f151 j = y_c f1 j := fun j h0 h1 => (h148.1 j h0 (by omega)).trans (h121 j h0 h1)
      have h156 : v132.toInt = 0 → (y_c f151 (8 * nn)).toInt = w6.toInt := (fun h9 => (congrArg (fun i => (y_c f151 i).toInt) (show 8 * nn = 8 * nn + 0 by omega)).trans ((congrArg Int32.toInt (h148.2 h9)).trans rfl))
      have h157 : (y_c f151 (8 * nn + 2)).toInt = (y_c f129 (8 * nn + 2)).toInt := (congrArg Int32.toInt (h148.1 _ (by omega) (by omega)))
      have h158 : (y_c f151 (8 * nn + 3)).toInt = (y_c f129 (8 * nn + 3)).toInt := (congrArg Int32.toInt (h148.1 _ (by omega) (by omega)))
      have h159 : (y_c f151 (8 * nn + 5)).toInt = (y_c f129 (8 * nn + 5)).toInt := (congrArg Int32.toInt (h148.1 _ (by omega) (by omega)))
      refine lv_iload_n hx hb dX7_lineTold_94 rfl (lv_at hl 1 rfl) ?_
      have h160 : 0 ≤ w6.toInt ∧ w6.toInt ≤ 15 := ⟨by omega, by omega⟩
      refine va_calli (va_runS (As := [.int w6]) (rest := []) ⟨hx, hb, hml, hown, hts⟩ (y_X7_hasRegister l dC dI H.size F146 w6 (⟨by omega, by omega⟩)) (cwS 1 hts (ax_gS T_1261 T_1263 T_265 T_1262) rfl rfl rfl (by decide +kernel) ⟨Nat.le_of_ble_eq_true rfl, Nat.le_of_ble_eq_true rfl⟩) ⟨fun a U g mk q => ⟨q.1, s_pc rfl rfl q.2⟩, fun U hU hW => ⟨rfl, s_pw hU hW hP hK hD hN⟩⟩ rfl rfl hl.1 rfl (lv_room (Nat.le_of_ble_eq_true rfl)) dX7_lineTold_95 ⟨Nat.zero_le _, Nat.zero_le _⟩) hS (fun q _ h => h) (fun q h => h) (fun r162 F163 t H1 locs ht hvm hw hB hz1 hk1 hS => ?_)
      obtain ⟨hP, hK1⟩ := hB
      rw [ht] at hP
      generalize H1 = H at hP hS ⊢
      obtain ⟨h164, h166, hG9, h165⟩ := hw
      rw [hG9] at hP
      refine lv_if_eq (tgt := 110) hx hb dX7_lineTold_98 (by decide) (fun c167 => ?_) (fun c167 => ?_)
      · have c167 := (ax_eq (n := 0) (by decide)).mp c167
        exact K110 _ _ _ ⟨F146, _, w6, rfl, lv_sub hl [0, 1] rfl, hP, hS, hI, hfr, (fun k hk => (y_fiZ oY150 (s_sub (by decide) hk)).trans (hz0 k hk)), trivial, (by rw [y_atE o152]; exact hn154), (by rw [y_atE o152]; exact hfr155), (by first | (rw [y_atE o152, y_fiZ oY150 (k := 5) (by decide), ← ev132]; omega) | rw [y_atE o152, y_fiZ oY150 (k := 5) (by decide), ← ev132])⟩
      · have c167 := mt (ax_eq (n := 0) (by decide)).mpr c167
        have h168 := h166 (fun q => c167 (by rw [q]; decide))
        refine lv_aload_n hx hb dX7_lineTold_101 rfl (lv_at hl 0 rfl) ?_
        refine lv_iconst (v := 1) hx hb dX7_lineTold_102 (by decide) ?_
        refine lv_aload_n hx hb dX7_lineTold_103 rfl (lv_at hl 0 rfl) ?_
        have ep169_5 := ev132
        refine va_calli (va_runV (As := []) (rest := [.int 1, .ref a0]) ⟨hx, hb, hml, hown, hts⟩ (y_X7_registerTold l dC dI H.size hLK A hA F146 a0 ha0 hI) (cwV 0 hts (ax_gV T_1264 T_1266 T_1267 T_265 T_1265) rfl rfl rfl (by decide +kernel) ⟨Nat.le_of_ble_eq_true rfl, Nat.le_of_ble_eq_true rfl⟩) ⟨fun a U g mk q => ⟨q.1, s_pc rfl rfl q.2⟩, s_recv hK hP (hLK _ ha0 (by decide)) (ci := 7) rfl oY150, fun U hU hW => ⟨rfl, s_pw hU hW hP hK hD hN⟩⟩ rfl rfl hl.1 rfl (lv_room (Nat.le_of_ble_eq_true rfl)) dX7_lineTold_104 ⟨Nat.zero_le _, Nat.zero_le _⟩) hS (fun q _ h => h) (fun q h => h) (fun r170 F171 t H1 locs ht hvm hw hB hz1 hk1 hS => ?_)
        obtain ⟨hP, hK1⟩ := hB
        rw [ht] at hP
        generalize H1 = H at hP hS ⊢
        obtain ⟨h172, h174, hI, hfr1, hzf, h173⟩ := hw
        have o175 : F171 (A 12) = .inl (cs 0, 400, .inl f151) := (hfr1 _ (by rw [(y_k12 hA)]; decide)).trans o152
        obtain ⟨z176, q177, oY178, bz179, bq180⟩ := y_opY hI ha0
        have hzf : ∀ k, k ∈ ([1, 3, 7, 8, 11, 15, 16, 19, 25, 26, 27, 31, 32] : List Nat) → z176 k = z140 k := fun k hk => by have q9 := hzf k hk; rw [y_fiZ oY178 (s_sub (by decide) hk), y_fiZ oY150 (s_sub (by decide) hk)] at q9; exact q9
        have hz0 : ∀ k, k ∈ ([1, 3, 7, 8, 15, 16, 19, 25, 26, 27, 31, 32] : List Nat) → z176 k = z0 k := fun k hk => (hzf k (s_sub (by decide) hk)).trans (hz0 k hk)
        have hfr : ∀ b, K b ∉ [9, 62, 64] → F171 b = F b := fun b hb9 => (hfr1 b (fun q => hb9 (s_sub (by decide) q))).trans (hfr b hb9)
        obtain ⟨v181, ev181⟩ : ∃ y : Int32, y = z176 5 := ⟨_, rfl⟩
        have h173 : ((v132.toInt = 0 ∨ ¬ v181.toInt = 0) ∧ (v181.toInt = 0 → 0 ≤ r170.toInt ∧ r170.toInt ≤ 3)) := by have q9 := h173; rw [y_fiZ oY150 (k := 5) (by decide), ← ep169_5, y_fiZ oY178 (k := 5) (by decide), ← ev181] at q9; exact q9
        have ep182_5 := ev181
        refine va_callv (va_runV (As := [.int 1, .int r170]) (rest := []) ⟨hx, hb, hml, hown, hts⟩ (y_X7_lays l dC dI H.size hLK A hA F171 a0 1 r170 ha0 (by decide) hI) (cwV 2 hts (ax_gV T_1115 T_1117 T_1118 T_265 T_1116) rfl rfl rfl (by decide +kernel) ⟨Nat.le_of_ble_eq_true rfl, Nat.le_of_ble_eq_true rfl⟩) ⟨fun a U g mk q => ⟨q.1, s_pc rfl rfl q.2⟩, s_recv hK hP (hLK _ ha0 (by decide)) (ci := 7) rfl oY178, fun U hU hW => ⟨rfl, s_pw hU hW hP hK hD hN⟩⟩ rfl rfl hl.1 rfl (lv_room (Nat.le_of_ble_eq_true rfl)) dX7_lineTold_107 ⟨Nat.zero_le _, Nat.zero_le _⟩) hS (fun q _ h => h) (fun q h => h) (fun F183 t H1 locs ht hvm hw hB hz1 hk1 hS => ?_)
        obtain ⟨hP, hK1⟩ := hB
        rw [ht] at hP
        generalize H1 = H at hP hS ⊢
        obtain ⟨h184, h186, hI, hfr1, hzf, h185⟩ := hw
        have oY187 : F183 a0 = .inr (7, y_fl A z176 q177) := (hfr1 _ (by rw [ha0]; decide)).trans oY178
        have hfr : ∀ b, K b ∉ [9, 62, 64] → F183 b = F b := fun b hb9 => (hfr1 b (fun q => hb9 (s_sub (by decide) q))).trans (hfr b hb9)
        obtain ⟨f188, o189, b190⟩ := y_op12 hI
        have h185 : ((∀ j : Int, 0 ≤ j → j ≠ 8 * (y_c f151 387).toInt + 1 → y_c f188 j = y_c f151 j) ∧ (v181.toInt = 0 → y_c f188 (8 * (y_c f151 387).toInt + 1) = r170)) := by have q9 := h185; rw [y_atE o175, y_atE o189, y_fiZ oY178 (k := 5) (by decide), ← ep182_5] at q9; exact q9
        rw [hn154] at h185
        have hn191 : (y_c f188 387).toInt = nn := by rw [h185.1 387 (by omega) (by omega)]; exact hn154
        have hfr192 : ∀ j : Int, 0 ≤ j → (j < 8 * nn ∨ 8 * nn + 8 ≤ j) → y_c f188 j = y_c f1 j := fun j h0 h1 => (h185.1 j h0 (by omega)).trans (hfr155 j h0 h1)
        have h193 : (y_c f188 (8 * nn)).toInt = (y_c f151 (8 * nn)).toInt := (congrArg Int32.toInt (h185.1 _ (by omega) (by omega)))
        have h194 : (y_c f188 (8 * nn + 2)).toInt = (y_c f151 (8 * nn + 2)).toInt := (congrArg Int32.toInt (h185.1 _ (by omega) (by omega)))
        have h195 : (y_c f188 (8 * nn + 3)).toInt = (y_c f151 (8 * nn + 3)).toInt := (congrArg Int32.toInt (h185.1 _ (by omega) (by omega)))
        have h196 : (y_c f188 (8 * nn + 5)).toInt = (y_c f151 (8 * nn + 5)).toInt := (congrArg Int32.toInt (h185.1 _ (by omega) (by omega)))
        exact K110 _ _ _ ⟨F183, _, w6, rfl, lv_sub hl [0, 1] rfl, hP, hS, hI, hfr, (fun k hk => (y_fiZ oY187 (s_sub (by decide) hk)).trans (hz0 k hk)), trivial, (by rw [y_atE o189]; exact hn191), (by rw [y_atE o189]; exact hfr192), (by first | (rw [y_atE o189, y_fiZ oY187 (k := 5) (by decide), ← ev181]; omega) | rw [y_atE o189, y_fiZ oY187 (k := 5) (by decide), ← ev181])⟩
    · have c133 := mt (ax_eq (n := 0) (by decide)).mpr c133
      exact W.vret hx hb hr (fun t ht hW => ⟨⟨F123, rfl, ⟨trivial, trivial, hI, hfr, fun k hk => (y_fiZ oY126 (s_sub (by decide) hk)).trans ((hz0 k hk).trans (y_fiZ oY0 (s_sub (by decide) hk)).symm), (by rw [y_fiZ oY0 (k := 5) (by decide), ← eF_5, y_fiZ oY126 (k := 5) (by decide), ← ev132, y_atE o2, y_atE o130]; rw [← hnn]; exact ⟨by omega, (fun j h0 h1 => h121 j h0 (by omega)), (fun j h0 h1 => h121 j (by omega) (by omega)), fun q => absurd q (by omega)⟩)⟩, by rw [ht]; exact hP, va_K.moved hW.alike hK⟩, hS.F ht⟩) hS.2.2 dX7_lineTold_83
  · intro g H locs hq
    obtain ⟨F201, ls, w5, rfl, hl, hP, hS, hI, hfr, hz0, h197, h198, h199, h200⟩ := hq
    obtain ⟨z202, q203, oY204, bz205, bq206⟩ := y_opY hI ha0
    have hz0 : ∀ k, k ∈ ([1, 3, 7, 8, 15, 16, 19, 25, 26, 27, 31, 32] : List Nat) → z202 k = z0 k := fun k hk => (y_fiZ oY204 (s_sub (by decide) hk)).symm.trans (hz0 k hk)
    obtain ⟨f207, o208, b209⟩ := y_op12 hI
    have h198 : (y_c f207 387).toInt = nn := by have q9 := h198; rw [y_atE o208] at q9; exact q9
    have h199 : (∀ j : Int, 0 ≤ j → (j < 8 * nn ∨ 8 * nn + 8 ≤ j) → y_c f207 j = y_c f1 j) := by have q9 := h199; rw [y_atE o208] at q9; exact q9
    obtain ⟨v210, ev210⟩ : ∃ y : Int32, y = z202 5 := ⟨_, rfl⟩
    have h200 : ((v4.toInt = 0 ∧ 0 ≤ w5.toInt ∧ w5.toInt ≤ 15) ∧ (y_c f207 (8 * nn + 5)).toInt = -1000000 ∧ (v210.toInt = 0 → (y_c f207 (8 * nn)).toInt = w5.toInt)) := by have q9 := h200; rw [y_atE o208, y_fiZ oY204 (k := 5) (by decide), ← ev210] at q9; exact q9
    refine lv_iconst (v := 0) hx hb dX7_lineTold_110 (by decide) ?_
    refine lv_istore_n (lv' := [(3, .int 0), (0, .ref a0), (2, .int w5)]) hx hb dX7_lineTold_111 rfl hl (by decide) rfl (fun ls hl => ?_)
    have h212 : (0 : Int32).toInt = 0 := by decide
    refine th_loop (fun n g H locs => ∃ (G : Nat → va_E) (ls : Array Slot) (w211 : Int32), g = F0 m 112 ls [] ∧ lv_has ls 4 [(0, .ref a0), (2, .int w5), (3, .int w211)] ∧ va_P (dC, dI) vwCl (va_pl L G) H ∧ va_S (fun q => q ∈ L) s.heap H locs ∧ y_I K cs A G ∧ (∀ b, K b ∉ [9, 62, 64] → G b = F b) ∧ (∀ k, k ∈ ([1, 3, 7, 8, 15, 16, 19, 25, 26, 27, 31, 32] : List Nat) → y_fi G a0 k = z0 k) ∧ (0 ≤ w211.toInt ∧ w211.toInt ≤ 2) ∧ (y_c (y_at G (A 12)) 387).toInt = nn ∧ (∀ j : Int, 0 ≤ j → (j < 8 * nn ∨ 8 * nn + 8 ≤ j) → y_c (y_at G (A 12)) j = y_c f1 j) ∧ ((v4.toInt = 0 ∧ 0 ≤ w5.toInt ∧ w5.toInt ≤ 15) ∧ (y_c (y_at G (A 12)) (8 * nn + 5)).toInt = -1000000 ∧ ((y_fi G a0 5).toInt = 0 → (y_c (y_at G (A 12)) (8 * nn)).toInt = w5.toInt ∧ (w211.toInt = 0 ∨ -4 ≤ (y_c (y_at G (A 12)) (8 * nn + 2)).toInt) ∧ (w211.toInt ≤ 1 ∨ -4 ≤ (y_c (y_at G (A 12)) (8 * nn + 3)).toInt))) ∧ n = (3 - w211.toInt).toNat) _ ⟨F201, _, 0, rfl, lv_sub hl [1, 2, 0] rfl, hP, hS, hI, hfr, (fun k hk => (y_fiZ oY204 (s_sub (by decide) hk)).trans (hz0 k hk)), (by decide), (by rw [y_atE o208]; exact h198), (by rw [y_atE o208]; exact h199), (by first | (rw [y_atE o208, y_fiZ oY204 (k := 5) (by decide), ← ev210]; omega) | rw [y_atE o208, y_fiZ oY204 (k := 5) (by decide), ← ev210]), rfl⟩ (fun n ih112 g H locs hq => ?_)
    obtain ⟨F217, ls, w211, rfl, hl, hP, hS, hI, hfr, hz0, h213, h214, h215, h216, hn⟩ := hq
    obtain ⟨z218, q219, oY220, bz221, bq222⟩ := y_opY hI ha0
    have hz0 : ∀ k, k ∈ ([1, 3, 7, 8, 15, 16, 19, 25, 26, 27, 31, 32] : List Nat) → z218 k = z0 k := fun k hk => (y_fiZ oY220 (s_sub (by decide) hk)).symm.trans (hz0 k hk)
    obtain ⟨f223, o224, b225⟩ := y_op12 hI
    have h214 : (y_c f223 387).toInt = nn := by have q9 := h214; rw [y_atE o224] at q9; exact q9
    have h215 : (∀ j : Int, 0 ≤ j → (j < 8 * nn ∨ 8 * nn + 8 ≤ j) → y_c f223 j = y_c f1 j) := by have q9 := h215; rw [y_atE o224] at q9; exact q9
    obtain ⟨v226, ev226⟩ : ∃ y : Int32, y = z218 5 := ⟨_, rfl⟩
    have h216 : ((v4.toInt = 0 ∧ 0 ≤ w5.toInt ∧ w5.toInt ≤ 15) ∧ (y_c f223 (8 * nn + 5)).toInt = -1000000 ∧ (v226.toInt = 0 → (y_c f223 (8 * nn)).toInt = w5.toInt ∧ (w211.toInt = 0 ∨ -4 ≤ (y_c f223 (8 * nn + 2)).toInt) ∧ (w211.toInt ≤ 1 ∨ -4 ≤ (y_c f223 (8 * nn + 3)).toInt))) := by have q9 := h216; rw [y_atE o224, y_fiZ oY220 (k := 5) (by decide), ← ev226] at q9; exact q9
    have hn_226 := hn
    refine lv_iload_n hx hb dX7_lineTold_112 rfl (lv_at hl 2 rfl) ?_
    refine lv_iload_n hx hb dX7_lineTold_113 rfl (lv_at hl 1 rfl) ?_
    have h227 : 0 ≤ w5.toInt ∧ w5.toInt ≤ 15 := ⟨by omega, by omega⟩
    refine va_calli (va_runS (As := [.int w5]) (rest := [.int w211]) ⟨hx, hb, hml, hown, hts⟩ (y_X7_partsOf l dC dI H.size F217 w5 (⟨by omega, by omega⟩)) (cwS 1 hts (ax_gS T_1197 T_1199 T_265 T_1198) rfl rfl rfl (by decide +kernel) ⟨Nat.le_of_ble_eq_true rfl, Nat.le_of_ble_eq_true rfl⟩) ⟨fun a U g mk q => ⟨q.1, s_pc rfl rfl q.2⟩, fun U hU hW => ⟨rfl, s_pw hU hW hP hK hD hN⟩⟩ rfl rfl hl.1 rfl (lv_room (Nat.le_of_ble_eq_true rfl)) dX7_lineTold_114 ⟨Nat.zero_le _, Nat.zero_le _⟩) hS (fun q _ h => h) (fun q h => h) (fun r229 F230 t H1 locs ht hvm hw hB hz1 hk1 hS => ?_)
    obtain ⟨hP, hK1⟩ := hB
    rw [ht] at hP
    generalize H1 = H at hP hS ⊢
    obtain ⟨h231, h233, hG9, h232⟩ := hw
    rw [hG9] at hP
    have h232 : ((r229.toInt = 0 ∧ (w5.toInt = 5 ∨ w5.toInt = 6 ∨ 12 ≤ w5.toInt)) ∨ (r229.toInt = 1 ∧ (w5.toInt = 0 ∨ w5.toInt = 7 ∨ w5.toInt = 9 ∨ w5.toInt = 11)) ∨ (r229.toInt = 2 ∧ ((1 ≤ w5.toInt ∧ w5.toInt ≤ 4) ∨ w5.toInt = 8 ∨ w5.toInt = 10))) := by have q9 := h232; exact q9
    refine lv_icmp_ge (tgt := 137) hx hb dX7_lineTold_117 (by decide) (fun c234 => ?_) (fun c234 => ?_)
    · have c234 := Int32.le_iff_toInt_le.mp c234
      refine lv_iload_n hx hb dX7_lineTold_137 rfl (lv_at hl 1 rfl) ?_
      refine lv_bipush (v := 12) hx hb dX7_lineTold_138 (by decide) ?_
      refine lv_icmp_ne (tgt := 147) hx hb dX7_lineTold_140 (by decide) (fun c235 => ?_) (fun c235 => ?_)
      · have c235 := mt (ax_eq (n := 12) (by decide)).mpr c235
        exact K147 _ _ _ ⟨F217, _, rfl, lv_sub hl [0] rfl, hP, hS, hI, hfr, (fun k hk => (y_fiZ oY220 (s_sub (by decide) hk)).trans (hz0 k hk)), (by rw [y_atE o224]; exact h214), (by rw [y_atE o224]; exact h215), (by first | (rw [y_fiZ oY220 (k := 5) (by decide), ← ev226, y_atE o224]; omega) | rw [y_fiZ oY220 (k := 5) (by decide), ← ev226, y_atE o224]), (by omega)⟩
      · have c235 := (ax_eq (n := 12) (by decide)).mp c235
        refine lv_aload_n hx hb dX7_lineTold_143 rfl (lv_at hl 0 rfl) ?_
        have ep236_5 := ev226
        refine va_callv (va_runV (As := []) (rest := []) ⟨hx, hb, hml, hown, hts⟩ (y_X7_goTold l dC dI H.size hLK A hA F217 a0 ha0 hI (by rw [y_atE o224]; rw [h214]; exact ⟨by omega, by omega⟩)) (cwV 0 hts (ax_gV T_1268 T_1270 T_1271 T_265 T_1269) rfl rfl rfl (by decide +kernel) ⟨Nat.le_of_ble_eq_true rfl, Nat.le_of_ble_eq_true rfl⟩) ⟨fun a U g mk q => ⟨q.1, s_pc rfl rfl q.2⟩, s_recv hK hP (hLK _ ha0 (by decide)) (ci := 7) rfl oY220, fun U hU hW => ⟨rfl, s_pw hU hW hP hK hD hN⟩⟩ rfl rfl hl.1 rfl (lv_room (Nat.le_of_ble_eq_true rfl)) dX7_lineTold_144 ⟨Nat.zero_le _, Nat.zero_le _⟩) hS (fun q _ h => h) (fun q h => h) (fun F237 t H1 locs ht hvm hw hB hz1 hk1 hS => ?_)
        obtain ⟨hP, hK1⟩ := hB
        rw [ht] at hP
        generalize H1 = H at hP hS ⊢
        obtain ⟨h238, h240, hI, hfr1, hzf, h239⟩ := hw
        obtain ⟨z241, q242, oY243, bz244, bq245⟩ := y_opY hI ha0
        have hzf : ∀ k, k ∈ ([1, 3, 7, 8, 15, 16, 19, 25, 26, 27, 31, 32] : List Nat) → z241 k = z218 k := fun k hk => by have q9 := hzf k hk; rw [y_fiZ oY243 (s_sub (by decide) hk), y_fiZ oY220 (s_sub (by decide) hk)] at q9; exact q9
        have hz0 : ∀ k, k ∈ ([1, 3, 7, 8, 15, 16, 19, 25, 26, 27, 31, 32] : List Nat) → z241 k = z0 k := fun k hk => (hzf k (s_sub (by decide) hk)).trans (hz0 k hk)
        have hfr : ∀ b, K b ∉ [9, 62, 64] → F237 b = F b := fun b hb9 => (hfr1 b (fun q => hb9 (s_sub (by decide) q))).trans (hfr b hb9)
        obtain ⟨v246, ev246⟩ : ∃ y : Int32, y = z241 5 := ⟨_, rfl⟩
        obtain ⟨f247, o248, b249⟩ := y_op12 hI
        have h239 : ((v226.toInt = 0 ∨ ¬ v246.toInt = 0) ∧ (∀ j : Int, 0 ≤ j → (j < 8 * (y_c f223 387).toInt ∨ 8 * (y_c f223 387).toInt + 8 ≤ j) → y_c f247 j = y_c f223 j) ∧ (y_c f247 (8 * (y_c f223 387).toInt)).toInt = (y_c f223 (8 * (y_c f223 387).toInt)).toInt ∧ (v246.toInt = 0 → (y_c f247 (8 * (y_c f223 387).toInt + 5)).toInt = -1000000 ∨ (-4 ≤ (y_c f247 (8 * (y_c f223 387).toInt + 2)).toInt ∧ -4 ≤ (y_c f247 (8 * (y_c f223 387).toInt + 3)).toInt))) := by have q9 := h239; rw [y_fiZ oY220 (k := 5) (by decide), ← ep236_5, y_fiZ oY243 (k := 5) (by decide), ← ev246, y_atE o224, y_atE o248] at q9; exact q9
        rw [h214] at h239
        obtain ⟨hg1, hg2, hg3, hg4⟩ := h239
        have hn250 : (y_c f247 387).toInt = nn := by rw [hg2 387 (by omega) (by omega)]; exact h214
        have hfr251 : ∀ j : Int, 0 ≤ j → (j < 8 * nn ∨ 8 * nn + 8 ≤ j) → y_c f247 j = y_c f1 j := fun j h0 h1 => (hg2 j h0 h1).trans (h215 j h0 h1)
        exact K147 _ _ _ ⟨F237, _, rfl, lv_sub hl [0] rfl, hP, hS, hI, hfr, (fun k hk => (y_fiZ oY243 (s_sub (by decide) hk)).trans (hz0 k hk)), (by rw [y_atE o248]; exact hn250), (by rw [y_atE o248]; exact hfr251), (by first | (rw [y_fiZ oY243 (k := 5) (by decide), ← ev246, y_atE o248]; omega) | rw [y_fiZ oY243 (k := 5) (by decide), ← ev246, y_atE o248]), (by omega)⟩
    · have c234 := mt Int32.le_iff_toInt_le.mpr c234
      refine lv_aload_n hx hb dX7_lineTold_120 rfl (lv_at hl 0 rfl) ?_
      refine lv_iconst (v := 2) hx hb dX7_lineTold_121 (by decide) ?_
      refine lv_iload_n hx hb dX7_lineTold_122 rfl (lv_at hl 2 rfl) ?_
      refine lv_iadd hx hb dX7_lineTold_123 ?_
      refine lv_topi (fun v252 ev252 => ?_)
      have qv252 : v252.toInt = 2 + w211.toInt := by rw [ev252]; exact th_add (by decide) rfl ⟨by omega, by omega⟩
      refine lv_aload_n hx hb dX7_lineTold_124 rfl (lv_at hl 0 rfl) ?_
      have ep253_5 := ev226
      refine va_calli (va_runV (As := []) (rest := [.int v252, .ref a0]) ⟨hx, hb, hml, hown, hts⟩ (y_X7_partTold l dC dI H.size hLK A hA F217 a0 ha0 hI) (cwV 0 hts (ax_gV T_1119 T_1121 T_1122 T_265 T_1120) rfl rfl rfl (by decide +kernel) ⟨Nat.le_of_ble_eq_true rfl, Nat.le_of_ble_eq_true rfl⟩) ⟨fun a U g mk q => ⟨q.1, s_pc rfl rfl q.2⟩, s_recv hK hP (hLK _ ha0 (by decide)) (ci := 7) rfl oY220, fun U hU hW => ⟨rfl, s_pw hU hW hP hK hD hN⟩⟩ rfl rfl hl.1 rfl (lv_room (Nat.le_of_ble_eq_true rfl)) dX7_lineTold_125 ⟨Nat.zero_le _, Nat.zero_le _⟩) hS (fun q _ h => h) (fun q h => h) (fun r254 F255 t H1 locs ht hvm hw hB hz1 hk1 hS => ?_)
      obtain ⟨hP, hK1⟩ := hB
      rw [ht] at hP
      generalize H1 = H at hP hS ⊢
      obtain ⟨h256, h258, hI, hfr1, hzf, h257⟩ := hw
      have o259 : F255 (A 12) = .inl (cs 0, 400, .inl f223) := (hfr1 _ (by rw [(y_k12 hA)]; decide)).trans o224
      obtain ⟨z260, q261, oY262, bz263, bq264⟩ := y_opY hI ha0
      have hzf : ∀ k, k ∈ ([1, 3, 7, 8, 11, 15, 16, 19, 25, 26, 27, 31, 32] : List Nat) → z260 k = z218 k := fun k hk => by have q9 := hzf k hk; rw [y_fiZ oY262 (s_sub (by decide) hk), y_fiZ oY220 (s_sub (by decide) hk)] at q9; exact q9
      have hz0 : ∀ k, k ∈ ([1, 3, 7, 8, 15, 16, 19, 25, 26, 27, 31, 32] : List Nat) → z260 k = z0 k := fun k hk => (hzf k (s_sub (by decide) hk)).trans (hz0 k hk)
      have hfr : ∀ b, K b ∉ [9, 62, 64] → F255 b = F b := fun b hb9 => (hfr1 b (fun q => hb9 (s_sub (by decide) q))).trans (hfr b hb9)
      obtain ⟨v265, ev265⟩ : ∃ y : Int32, y = z260 5 := ⟨_, rfl⟩
      have h257 : ((v226.toInt = 0 ∨ ¬ v265.toInt = 0) ∧ (v265.toInt = 0 → -4 ≤ r254.toInt ∧ r254.toInt ≤ 999)) := by have q9 := h257; rw [y_fiZ oY220 (k := 5) (by decide), ← ep253_5, y_fiZ oY262 (k := 5) (by decide), ← ev265] at q9; exact q9
      have ep266_5 := ev265
      refine va_callv (va_runV (As := [.int v252, .int r254]) (rest := []) ⟨hx, hb, hml, hown, hts⟩ (y_X7_lays l dC dI H.size hLK A hA F255 a0 v252 r254 ha0 (⟨by omega, by omega⟩) hI) (cwV 2 hts (ax_gV T_1115 T_1117 T_1118 T_265 T_1116) rfl rfl rfl (by decide +kernel) ⟨Nat.le_of_ble_eq_true rfl, Nat.le_of_ble_eq_true rfl⟩) ⟨fun a U g mk q => ⟨q.1, s_pc rfl rfl q.2⟩, s_recv hK hP (hLK _ ha0 (by decide)) (ci := 7) rfl oY262, fun U hU hW => ⟨rfl, s_pw hU hW hP hK hD hN⟩⟩ rfl rfl hl.1 rfl (lv_room (Nat.le_of_ble_eq_true rfl)) dX7_lineTold_128 ⟨Nat.zero_le _, Nat.zero_le _⟩) hS (fun q _ h => h) (fun q h => h) (fun F267 t H1 locs ht hvm hw hB hz1 hk1 hS => ?_)
      obtain ⟨hP, hK1⟩ := hB
      rw [ht] at hP
      generalize H1 = H at hP hS ⊢
      obtain ⟨h268, h270, hI, hfr1, hzf, h269⟩ := hw
      have oY271 : F267 a0 = .inr (7, y_fl A z260 q261) := (hfr1 _ (by rw [ha0]; decide)).trans oY262
      have hfr : ∀ b, K b ∉ [9, 62, 64] → F267 b = F b := fun b hb9 => (hfr1 b (fun q => hb9 (s_sub (by decide) q))).trans (hfr b hb9)
      obtain ⟨f272, o273, b274⟩ := y_op12 hI
      have h269 : ((∀ j : Int, 0 ≤ j → j ≠ 8 * (y_c f223 387).toInt + v252.toInt → y_c f272 j = y_c f223 j) ∧ (v265.toInt = 0 → y_c f272 (8 * (y_c f223 387).toInt + v252.toInt) = r254)) := by have q9 := h269; rw [y_atE o259, y_atE o273, y_fiZ oY262 (k := 5) (by decide), ← ep266_5] at q9; exact q9
      rw [h214] at h269
      have hn275 : (y_c f272 387).toInt = nn := by rw [h269.1 387 (by omega) (by omega)]; exact h214
      have hfr276 : ∀ j : Int, 0 ≤ j → (j < 8 * nn ∨ 8 * nn + 8 ≤ j) → y_c f272 j = y_c f1 j := fun j h0 h1 => (h269.1 j h0 (by omega)).trans (h215 j h0 h1)
      have h277 : v252.toInt = 0 → v265.toInt = 0 → (y_c f272 (8 * nn)).toInt = r254.toInt := fun h8 => (fun h9 => (congrArg (fun i => (y_c f272 i).toInt) (show 8 * nn = 8 * nn + v252.toInt by omega)).trans ((congrArg Int32.toInt (h269.2 h9)).trans rfl))
      have h278 : v252.toInt ≠ 0 → (y_c f272 (8 * nn)).toInt = (y_c f223 (8 * nn)).toInt := fun h8 => (congrArg Int32.toInt (h269.1 _ (by omega) (by omega)))
      have h279 : v252.toInt = 2 → v265.toInt = 0 → (y_c f272 (8 * nn + 2)).toInt = r254.toInt := fun h8 => (fun h9 => (congrArg (fun i => (y_c f272 i).toInt) (show 8 * nn + 2 = 8 * nn + v252.toInt by omega)).trans ((congrArg Int32.toInt (h269.2 h9)).trans rfl))
      have h280 : v252.toInt ≠ 2 → (y_c f272 (8 * nn + 2)).toInt = (y_c f223 (8 * nn + 2)).toInt := fun h8 => (congrArg Int32.toInt (h269.1 _ (by omega) (by omega)))
      have h281 : v252.toInt = 3 → v265.toInt = 0 → (y_c f272 (8 * nn + 3)).toInt = r254.toInt := fun h8 => (fun h9 => (congrArg (fun i => (y_c f272 i).toInt) (show 8 * nn + 3 = 8 * nn + v252.toInt by omega)).trans ((congrArg Int32.toInt (h269.2 h9)).trans rfl))
      have h282 : v252.toInt ≠ 3 → (y_c f272 (8 * nn + 3)).toInt = (y_c f223 (8 * nn + 3)).toInt := fun h8 => (congrArg Int32.toInt (h269.1 _ (by omega) (by omega)))
      have h283 : v252.toInt = 5 → v265.toInt = 0 → (y_c f272 (8 * nn + 5)).toInt = r254.toInt := fun h8 => (fun h9 => (congrArg (fun i => (y_c f272 i).toInt) (show 8 * nn + 5 = 8 * nn + v252.toInt by omega)).trans ((congrArg Int32.toInt (h269.2 h9)).trans rfl))
      have h284 : v252.toInt ≠ 5 → (y_c f272 (8 * nn + 5)).toInt = (y_c f223 (8 * nn + 5)).toInt := fun h8 => (congrArg Int32.toInt (h269.1 _ (by omega) (by omega)))
      obtain ⟨v285, ev285⟩ : ∃ y : Int32, w211 + 1 = y := ⟨_, rfl⟩
      have qv285 : v285.toInt = w211.toInt + 1 := by rw [← ev285]; exact th_add rfl (by decide) ⟨by omega, by omega⟩
      refine lv_iinc (v := v285) (lv' := [(3, .int v285), (0, .ref a0), (2, .int w5)]) hx hb dX7_lineTold_131 hl (k := 2) rfl ev285 (by decide) rfl (fun ls hl => ?_)
      refine lv_goto (tgt := 112) hx hb dX7_lineTold_134 (by decide) ?_
      exact ih112 _ _ _ _ (by omega) ⟨F267, _, v285, rfl, lv_sub hl [1, 2, 0] rfl, hP, hS, hI, hfr, (fun k hk => (y_fiZ oY271 (s_sub (by decide) hk)).trans (hz0 k hk)), ⟨by omega, by omega⟩, (by rw [y_atE o273]; exact hn275), (by rw [y_atE o273]; exact hfr276), (by first | (rw [y_atE o273, y_fiZ oY271 (k := 5) (by decide), ← ev265]; omega) | rw [y_atE o273, y_fiZ oY271 (k := 5) (by decide), ← ev265]), rfl⟩
  · intro g H locs hq
    obtain ⟨F290, ls, rfl, hl, hP, hS, hI, hfr, hz0, h286, h287, h288, h289⟩ := hq
    obtain ⟨z291, q292, oY293, bz294, bq295⟩ := y_opY hI ha0
    have hz0 : ∀ k, k ∈ ([1, 3, 7, 8, 15, 16, 19, 25, 26, 27, 31, 32] : List Nat) → z291 k = z0 k := fun k hk => (y_fiZ oY293 (s_sub (by decide) hk)).symm.trans (hz0 k hk)
    obtain ⟨f296, o297, b298⟩ := y_op12 hI
    have h286 : (y_c f296 387).toInt = nn := by have q9 := h286; rw [y_atE o297] at q9; exact q9
    have h287 : (∀ j : Int, 0 ≤ j → (j < 8 * nn ∨ 8 * nn + 8 ≤ j) → y_c f296 j = y_c f1 j) := by have q9 := h287; rw [y_atE o297] at q9; exact q9
    obtain ⟨v299, ev299⟩ : ∃ y : Int32, y = z291 5 := ⟨_, rfl⟩
    have h288 : (v299.toInt = 0 → (0 ≤ (y_c f296 (8 * nn)).toInt ∧ (y_c f296 (8 * nn)).toInt ≤ 15) ∧ (((y_c f296 (8 * nn)).toInt = 5 ∨ (y_c f296 (8 * nn)).toInt = 6 ∨ 12 ≤ (y_c f296 (8 * nn)).toInt) ∨ -4 ≤ (y_c f296 (8 * nn + 2)).toInt) ∧ (((y_c f296 (8 * nn)).toInt = 5 ∨ (y_c f296 (8 * nn)).toInt = 6 ∨ 12 ≤ (y_c f296 (8 * nn)).toInt ∨ (y_c f296 (8 * nn)).toInt = 0 ∨ (y_c f296 (8 * nn)).toInt = 7 ∨ (y_c f296 (8 * nn)).toInt = 9 ∨ (y_c f296 (8 * nn)).toInt = 11) ∨ -4 ≤ (y_c f296 (8 * nn + 3)).toInt) ∧ ((y_c f296 (8 * nn)).toInt ≠ 12 ∨ (y_c f296 (8 * nn + 5)).toInt = -1000000 ∨ (-4 ≤ (y_c f296 (8 * nn + 2)).toInt ∧ -4 ≤ (y_c f296 (8 * nn + 3)).toInt))) := by have q9 := h288; rw [y_fiZ oY293 (k := 5) (by decide), ← ev299, y_atE o297] at q9; exact q9
    refine lv_aload_n hx hb dX7_lineTold_147 rfl (lv_at hl 0 rfl) ?_
    refine th_get (D := (dC, dI)) (ci := 7) (v := .ref (A 12)) (C := RX7) (T := TX7) (N := 34) hx hb hts inX7 hown hK hP (hLK _ ha0 (by decide)) oY293 rfl 12 (by decide) (hts _ T_245) (fun _ h9 => h9) rfl dX7_lineTold_148 ?_
    refine lv_sipush (v := 387) hx hb dX7_lineTold_151 (by decide) ?_
    refine lv_dup2_11 hx hb dX7_lineTold_154 rfl rfl ?_
    refine th_iald hx hb hK hP (hLK _ (y_k12 hA) (by decide)) 0 o297 rfl (ax_in (by decide)) dX7_lineTold_155 ?_
    refine lv_topi (fun v300 ev300 => ?_)
    have qv300 : 0 ≤ v300.toInt ∧ v300.toInt ≤ 40 := by rw [ev300]; exact b298
    have h301 : 0 ≤ v300.toInt ∧ v300.toInt ≤ 39 := ⟨by omega, by have q9 : v300 = (y_c f296 387) := ev300; rw [q9]; have q8 := h286; omega⟩
    have h302 : v300.toInt = nn := by rw [show v300 = y_c f296 387 from ev300]; exact h286
    refine lv_iconst (v := 1) hx hb dX7_lineTold_156 (by decide) ?_
    refine lv_iadd hx hb dX7_lineTold_157 ?_
    refine lv_topi (fun v303 ev303 => ?_)
    have qv303 : v303.toInt = v300.toInt + 1 := by rw [ev303]; exact th_add rfl (by decide) ⟨by omega, by omega⟩
    refine th_iast hx hb hK hP hD hS (hLK _ (y_k12 hA) (by decide)) 0 o297 rfl (ax_in (by decide)) dX7_lineTold_158 (fun H locs hP hS => ?_)
    obtain ⟨f304, u305⟩ : ∃ g : Nat → Int32, g = upd f296 (387 : Int32).toNatClampNeg v303 := ⟨_, rfl⟩
    rw [← u305] at hP
    have b306 : y_bd 12 f304 := by rw [u305]; exact th_updJ (P := fun y => 0 ≤ y.toInt ∧ y.toInt ≤ 40) b298 (fun q => ⟨by omega, by omega⟩)
    have hP : va_P (dC, dI) vwCl (va_pl L (va_up F290 (A 12) (.inl (cs 0, 400, .inl f304)))) H := hP
    obtain ⟨F307, hF308⟩ : ∃ G : Nat → va_E, G = va_up F290 (A 12) (.inl (cs 0, 400, .inl f304)) := ⟨_, rfl⟩
    rw [← hF308] at hP
    have hI : y_I K cs A F307 := by rw [hF308]; exact y_clA (i := 12) hA hI (by decide) b306
    have hfr : ∀ b, K b ∉ [9, 62, 64] → F307 b = F b := by rw [hF308]; exact s_fr hfr (y_k12 hA) (by decide)
    have oY309 : F307 a0 = .inr (7, y_fl A z291 q292) := by rw [hF308]; exact th_ne (th_kd ha0 (y_k12 hA) (by decide)) oY293
    have o310 : F307 (A 12) = .inl (cs 0, 400, .inl f304) := by rw [hF308]; exact th_up
    have u311 : ∀ j : Int, 0 ≤ j → y_c f304 j = if j = 387 then v303 else y_c f296 j := by rw [u305]; exact y_cu (by decide) (by decide)
    exact W.vret hx hb hr (fun t ht hW => ⟨⟨F307, rfl, ⟨trivial, trivial, hI, hfr, fun k hk => (y_fiZ oY309 (s_sub (by decide) hk)).trans ((hz0 k hk).trans (y_fiZ oY0 (s_sub (by decide) hk)).symm), (by rw [y_fiZ oY0 (k := 5) (by decide), ← eF_5, y_fiZ oY309 (k := 5) (by decide), ← ev299, y_atE o2, y_atE o310]; rw [← hnn]; exact ⟨by omega, (fun j h0 h1 => by rw [u311 j h0, if_neg (by omega)]; exact h287 j h0 (by omega)), (fun j h0 h1 => by rw [u311 j (by omega), if_neg h1]; exact h287 j (by omega) (by omega)), fun q => ⟨by rw [u311 387 (by omega), if_pos rfl]; omega, y_rgC ⟨by rw [u311 _ (by omega), if_neg (by omega)], by rw [u311 _ (by omega), if_neg (by omega)], by rw [u311 _ (by omega), if_neg (by omega)], by rw [u311 _ (by omega), if_neg (by omega)]⟩ (by unfold y_rg; exact ⟨by omega, by omega, by omega, by omega⟩)⟩⟩)⟩, by rw [ht]; exact hP, va_K.moved hW.alike hK⟩, hS.F ht⟩) hS.2.2 dX7_lineTold_159

set_option maxHeartbeats 4000000 in
set_option maxRecDepth 100000 in
theorem y_X7_isNamed (l : Launch) (dC : Nat → ClassId) (dI : Nat → Nat → Nat) (sz : Nat) {L : List Nat} {K : Nat → Nat} {cs : Nat → ClassId} (hLK : ∀ a {k : Nat}, K a = k → k ≠ 0 → a ∈ L) (A : Nat → Nat) (hA : y_A K A) (F : Nat → va_E) (a0 : Nat) (x1 : Int32) (ha0 : K a0 = 9) (hI : y_I K cs A F) : Met l yX7_isNamed (Cond.code yX7_isNamed cX7_isNamed 3 (some .boolean) :: T0) ({ frames := 1, cells := 0, slots := 0, locals := 21 }) (va_Pc [.ref a0, .int x1] (s_W dC dI sz L F [(cs 0, .int), (cs 1, .byte), (cs 2, .long), (cs 3, .object RX5), (cs 4, .object RX4), (cs 5, .array .int), (cs 6, .char), (cs 7, .boolean)])) (va_Qi (fun (r : Int32) (G : Nat → va_E) => (0 ≤ r.toInt ∧ r.toInt ≤ 1) ∧ True ∧ y_I K cs A G ∧ (∀ b, K b ∉ ([] : List Nat) → G b = F b) ∧ (∀ k, k ∈ ([1, 2, 3, 4, 5, 6, 7, 8, 11, 15, 16, 19, 25, 26, 27, 31, 32] : List Nat) → y_fi G a0 k = y_fi F a0 k) ∧ True) (fun (G : Nat → va_E) (t : State) => va_P (dC, dI) vwCl (va_pl L G) t.heap ∧ va_K (dC, dI) vwCl [(cs 0, .int), (cs 1, .byte), (cs 2, .long), (cs 3, .object RX5), (cs 4, .object RX4), (cs 5, .array .int), (cs 6, .char), (cs 7, .boolean)] t) (fun q => q ∈ L)) 0 0 (fun q => q ∈ L) := by
  refine Met.ofW (cc := cX7_isNamed) (maxL := 3) (ret := (some .boolean)) (by decide) rfl ?_
  intro p e s m args below meth c s₁ B hml hv
  obtain ⟨rfl, hsz, hP, hK, hD, hN⟩ := hv
  have hx := B.exec
  have hb := B.bytes
  have hr := B.returns
  have hts : ∀ w ∈ T0, w.before _ s = true := fun w h => atoms_spec (ws := Cond.code yX7_isNamed cX7_isNamed 3 (some .boolean) :: T0) B.pre w (List.mem_cons_of_mem _ h)
  have hown : s.vm.findClass RX7 = some m.cls := findClass_of_methodNamed B.named
  have hlocks := B.notSynchronized
  have hS : va_S (fun q => q ∈ L) s.heap s.heap [] := va_S.rf
  have hfr : ∀ b, K b ∉ ([] : List Nat) → F b = F b := fun _ _ => rfl
  have hl := lv_entry ([.ref a0, .int x1]) (n := 3) (Nat.le_of_ble_eq_true rfl)
  rw [lg_entry_eq]
  generalize (lg_sl ([.ref a0, .int x1]) ++ List.replicate (3 - (lg_sl ([.ref a0, .int x1])).length) Slot.unset).toArray = ls at hl ⊢
  have hl : lv_has ls 3 [(0, .ref a0), (1, .int x1)] := hl
  refine s_gen hP hS (fun H locs hP hS => ?_)
  obtain ⟨z0, q0, oY0, bz0, bq0⟩ := y_opY hI ha0
  have hz0 : ∀ k, k ∈ ([1, 2, 3, 4, 5, 6, 7, 8, 11, 15, 16, 19, 25, 26, 27, 31, 32] : List Nat) → z0 k = z0 k := fun _ _ => rfl
  refine lv_iconst (v := 0) hx hb dX7_isNamed_0 (by decide) ?_
  refine lv_istore_n (lv' := [(2, .int 0), (0, .ref a0), (1, .int x1)]) hx hb dX7_isNamed_1 rfl hl (by decide) rfl (fun ls hl => ?_)
  have h2 : (0 : Int32).toInt = 0 := by decide
  refine th_loop (fun n g H locs => ∃ (G : Nat → va_E) (ls : Array Slot) (w1 : Int32), g = F0 m 2 ls [] ∧ lv_has ls 3 [(0, .ref a0), (1, .int x1), (2, .int w1)] ∧ va_P (dC, dI) vwCl (va_pl L G) H ∧ va_S (fun q => q ∈ L) s.heap H locs ∧ y_I K cs A G ∧ (∀ b, K b ∉ ([] : List Nat) → G b = F b) ∧ (∀ k, k ∈ ([1, 2, 3, 4, 5, 6, 7, 8, 11, 15, 16, 19, 25, 26, 27, 31, 32] : List Nat) → y_fi G a0 k = z0 k) ∧ (0 ≤ w1.toInt ∧ w1.toInt ≤ 40) ∧ n = (41 - w1.toInt).toNat) _ ⟨F, _, 0, rfl, lv_sub hl [1, 2, 0] rfl, hP, hS, hI, hfr, (fun k hk => (y_fiZ oY0 (s_sub (by decide) hk)).trans (hz0 k hk)), (by decide), rfl⟩ (fun n ih2 g H locs hq => ?_)
  obtain ⟨F4, ls, w1, rfl, hl, hP, hS, hI, hfr, hz0, h3, hn⟩ := hq
  have oY5 : F4 a0 = .inr (7, y_fl A z0 q0) := (hfr _ (by rw [ha0]; decide)).trans oY0
  have hz0 : ∀ k, k ∈ ([1, 2, 3, 4, 5, 6, 7, 8, 11, 15, 16, 19, 25, 26, 27, 31, 32] : List Nat) → z0 k = z0 k := fun _ _ => rfl
  have hn_5 := hn
  refine lv_iload_n hx hb dX7_isNamed_2 rfl (lv_at hl 2 rfl) ?_
  refine lv_aload_n hx hb dX7_isNamed_3 rfl (lv_at hl 0 rfl) ?_
  obtain ⟨f6, o7, b8⟩ := y_op12 hI
  refine va_calli (va_runV (As := []) (rest := [.int w1]) ⟨hx, hb, hml, hown, hts⟩ (y_X7_drafted l dC dI H.size hLK A hA F4 a0 ha0 hI) (cwV 0 hts (ax_gV T_293 T_294 T_295 T_265 T_28) rfl rfl rfl (by decide +kernel) ⟨Nat.le_of_ble_eq_true rfl, Nat.le_of_ble_eq_true rfl⟩) ⟨fun a U g mk q => ⟨q.1, s_pc rfl rfl q.2⟩, s_recv hK hP (hLK _ ha0 (by decide)) (ci := 7) rfl oY5, fun U hU hW => ⟨rfl, s_pw hU hW hP hK hD hN⟩⟩ rfl rfl hl.1 rfl (lv_room (Nat.le_of_ble_eq_true rfl)) dX7_isNamed_4 ⟨Nat.zero_le _, Nat.zero_le _⟩) hS (fun q _ h => h) (fun q h => h) (fun r10 F11 t H1 locs ht hvm hw hB hz1 hk1 hS => ?_)
  obtain ⟨hP, hK1⟩ := hB
  rw [ht] at hP
  generalize H1 = H at hP hS ⊢
  obtain ⟨h12, h14, hI, hfr1, hzf, h13⟩ := hw
  have o15 : F11 (A 12) = .inl (cs 0, 400, .inl f6) := (hfr1 _ (by rw [(y_k12 hA)]; decide)).trans o7
  have oY16 : F11 a0 = .inr (7, y_fl A z0 q0) := (hfr1 _ (by rw [ha0]; decide)).trans oY5
  have hfr : ∀ b, K b ∉ ([] : List Nat) → F11 b = F b := fun b hb9 => (hfr1 b (fun q => hb9 (s_sub (by decide) q))).trans (hfr b hb9)
  have h13 : (r10 = y_c f6 387) := by have q9 := h13; rw [y_atE o7] at q9; exact q9
  have h17 := congrArg Int32.toInt h13
  refine lv_icmp_ge (tgt := 33) hx hb dX7_isNamed_7 (by decide) (fun c18 => ?_) (fun c18 => ?_)
  · have c18 := Int32.le_iff_toInt_le.mp c18
    refine lv_iconst (v := 0) hx hb dX7_isNamed_33 (by decide) ?_
    have h19 : (0 : Int32).toInt = 0 := by decide
    exact W.zret (v := 0) (ty := .boolean) hx hb hr (by decide) (fun t ht hW => ⟨⟨0, F11, rfl, ⟨(by decide), trivial, hI, hfr, fun k hk => (y_fiZ oY16 (s_sub (by decide) hk)).trans ((hz0 k hk).trans (y_fiZ oY0 (s_sub (by decide) hk)).symm), trivial⟩, by rw [ht]; exact hP, va_K.moved hW.alike hK⟩, hS.F ht⟩) hS.2.2 dX7_isNamed_34
  · have c18 := mt Int32.le_iff_toInt_le.mpr c18
    refine lv_aload_n hx hb dX7_isNamed_10 rfl (lv_at hl 0 rfl) ?_
    refine th_get (D := (dC, dI)) (ci := 7) (v := .ref (A 12)) (C := RX7) (T := TX7) (N := 34) hx hb hts inX7 hown hK hP (hLK _ ha0 (by decide)) oY16 rfl 12 (by decide) (hts _ T_245) (fun _ h9 => h9) rfl dX7_isNamed_11 ?_
    refine lv_iload_n hx hb dX7_isNamed_14 rfl (lv_at hl 2 rfl) ?_
    refine lv_bipush (v := 7) hx hb dX7_isNamed_15 (by decide) ?_
    refine va_calli (va_runS (As := [.int w1, .int 7]) (rest := [.ref (A 12)]) ⟨hx, hb, hml, hown, hts⟩ (y_X7_lineAt l dC dI H.size F11 w1 7 (⟨by omega, by omega⟩) (by decide)) (cwS 2 hts (ax_gS T_1216 T_1218 T_265 T_1217) rfl rfl rfl (by decide +kernel) ⟨Nat.le_of_ble_eq_true rfl, Nat.le_of_ble_eq_true rfl⟩) ⟨fun a U g mk q => ⟨q.1, s_pc rfl rfl q.2⟩, fun U hU hW => ⟨rfl, s_pw hU hW hP hK hD hN⟩⟩ rfl rfl hl.1 rfl (lv_room (Nat.le_of_ble_eq_true rfl)) dX7_isNamed_17 ⟨Nat.zero_le _, Nat.zero_le _⟩) hS (fun q _ h => h) (fun q h => h) (fun r21 F22 t H1 locs ht hvm hw hB hz1 hk1 hS => ?_)
    obtain ⟨hP, hK1⟩ := hB
    rw [ht] at hP
    generalize H1 = H at hP hS ⊢
    obtain ⟨h23, h25, hG9, h24⟩ := hw
    rw [hG9] at hP
    have h24 : (r21.toInt = 8 * w1.toInt + 7) := by have q9 := h24; exact q9
    refine th_iald hx hb hK hP (hLK _ (y_k12 hA) (by decide)) 0 o15 rfl (th_in ⟨by omega, by omega⟩) dX7_isNamed_20 ?_
    refine lv_topi (fun v26 ev26 => ?_)
    refine lv_iload_n hx hb dX7_isNamed_21 rfl (lv_at hl 1 rfl) ?_
    refine lv_icmp_ne (tgt := 27) hx hb dX7_isNamed_22 (by decide) (fun c27 => ?_) (fun c27 => ?_)
    · have c27 := mt Int32.toInt_inj.symm.mpr c27
      obtain ⟨v28, ev28⟩ : ∃ y : Int32, w1 + 1 = y := ⟨_, rfl⟩
      have qv28 : v28.toInt = w1.toInt + 1 := by rw [← ev28]; exact th_add rfl (by decide) ⟨by omega, by omega⟩
      refine lv_iinc (v := v28) (lv' := [(2, .int v28), (0, .ref a0), (1, .int x1)]) hx hb dX7_isNamed_27 hl (k := 2) rfl ev28 (by decide) rfl (fun ls hl => ?_)
      refine lv_goto (tgt := 2) hx hb dX7_isNamed_30 (by decide) ?_
      exact ih2 _ _ _ _ (by omega) ⟨F11, _, v28, rfl, lv_sub hl [1, 2, 0] rfl, hP, hS, hI, hfr, (fun k hk => (y_fiZ oY16 (s_sub (by decide) hk)).trans (hz0 k hk)), ⟨by omega, by omega⟩, rfl⟩
    · have c27 := Int32.toInt_inj.symm.mp c27
      refine lv_iconst (v := 1) hx hb dX7_isNamed_25 (by decide) ?_
      have h29 : (1 : Int32).toInt = 1 := by decide
      exact W.zret (v := 1) (ty := .boolean) hx hb hr (by decide) (fun t ht hW => ⟨⟨1, F11, rfl, ⟨(by decide), trivial, hI, hfr, fun k hk => (y_fiZ oY16 (s_sub (by decide) hk)).trans ((hz0 k hk).trans (y_fiZ oY0 (s_sub (by decide) hk)).symm), trivial⟩, by rw [ht]; exact hP, va_K.moved hW.alike hK⟩, hS.F ht⟩) hS.2.2 dX7_isNamed_26
