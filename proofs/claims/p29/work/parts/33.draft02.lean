set_option maxHeartbeats 4000000 in
set_option maxRecDepth 100000 in
theorem y_X7_lineTold (l : Launch) (dC : Nat → ClassId) (dI : Nat → Nat → Nat) (sz : Nat) {L : List Nat} {K : Nat → Nat} {cs : Nat → ClassId} (hLK : ∀ a {k : Nat}, K a = k → k ≠ 0 → a ∈ L) (A : Nat → Nat) (hA : y_A K A) (F : Nat → va_E) (a0 : Nat) (x1 : Int32) (ha0 : K a0 = 9) (hI : y_I K cs A F) (hg9 : ((y_c (y_at F (A 12)) 387).toInt ≤ 39 ∧ (y_fi F a0 5).toInt = 0)) : Met l yX7_lineTold (Cond.code yX7_lineTold cX7_lineTold 4 none :: T0) ({ frames := 6, cells := 0, slots := 0, locals := 128 }) (va_Pc [.ref a0, .int x1] (s_W dC dI sz L F [(cs 0, .int), (cs 1, .byte), (cs 2, .long), (cs 3, .object RX5), (cs 4, .object RX4), (cs 5, .array .int), (cs 6, .char), (cs 7, .boolean)])) (va_Qv (fun (G : Nat → va_E) => True ∧ True ∧ y_I K cs A G ∧ (∀ b, K b ∉ [9, 62, 64] → G b = F b) ∧ (∀ k, k ∈ ([1, 3, 7, 8, 15, 16, 19, 25, 26, 27, 31, 32] : List Nat) → y_fi G a0 k = y_fi F a0 k) ∧ (((y_fi F a0 5).toInt = 0 ∨ ¬ (y_fi G a0 5).toInt = 0) ∧ (∀ j : Int, 0 ≤ j → j < 8 * (y_c (y_at F (A 12)) 387).toInt → y_c (y_at G (A 12)) j = y_c (y_at F (A 12)) j) ∧ (∀ j : Int, 8 * (y_c (y_at F (A 12)) 387).toInt + 8 ≤ j → j ≠ 387 → y_c (y_at G (A 12)) j = y_c (y_at F (A 12)) j) ∧ ((y_fi G a0 5).toInt = 0 → (y_c (y_at G (A 12)) 387).toInt = (y_c (y_at F (A 12)) 387).toInt + 1 ∧ y_rg (y_at G (A 12)) (y_c (y_at F (A 12)) 387).toInt))) (fun (G : Nat → va_E) (t : State) => va_P (dC, dI) vwCl (va_pl L G) t.heap ∧ va_K (dC, dI) vwCl [(cs 0, .int), (cs 1, .byte), (cs 2, .long), (cs 3, .object RX5), (cs 4, .object RX4), (cs 5, .array .int), (cs 6, .char), (cs 7, .boolean)] t) (fun q => q ∈ L)) 0 0 (fun q => q ∈ L) := by
  refine Met.ofW (cc := cX7_lineTold) (maxL := 4) (ret := none) (by decide) rfl ?_
  intro p e s m args below meth c s₁ B hml hv
  obtain ⟨rfl, hsz, hP, hK, hD, hN⟩ := hv
  have hx := B.exec
  have hb := B.bytes
  have hr := B.returns
  have hts : ∀ w ∈ T0, w.before _ s = true := fun w h => atoms_spec (ws := Cond.code yX7_lineTold cX7_lineTold 4 none :: T0) B.pre w (List.mem_cons_of_mem _ h)
  have hown : s.vm.findClass RX7 = some m.cls := findClass_of_methodNamed B.named
  have hlocks := B.notSynchronized
  have hS : va_S (fun q => q ∈ L) s.heap s.heap [] := va_S.rf
  have hfr : ∀ b, K b ∉ [9, 62, 64] → F b = F b := fun _ _ => rfl
  have hl := lv_entry ([.ref a0, .int x1]) (n := 4) (Nat.le_of_ble_eq_true rfl)
  rw [lg_entry_eq]
  generalize (lg_sl ([.ref a0, .int x1]) ++ List.replicate (4 - (lg_sl ([.ref a0, .int x1])).length) Slot.unset).toArray = ls at hl ⊢
  have hl : lv_has ls 4 [(0, .ref a0), (1, .int x1)] := hl
  refine s_gen hP hS (fun H locs hP hS => ?_)
  obtain ⟨z0, q0, oY0, bz0⟩ := y_opY hI ha0
  have hz0 : ∀ k, k ∈ ([1, 3, 7, 8, 15, 16, 19, 25, 26, 27, 31, 32] : List Nat) → z0 k = z0 k := fun _ _ => rfl
  obtain ⟨f1, o2, b3⟩ := y_op12 hI
  obtain ⟨v4, ev4⟩ : ∃ y : Int32, y = z0 5 := ⟨_, rfl⟩
  have eF_5 := ev4
  have hg9 : ((y_c f1 387).toInt ≤ 39 ∧ v4.toInt = 0) := by have q9 := hg9; rw [y_atE o2, y_fiZ oY0 (k := 5) (by decide), ← ev4] at q9; exact q9
  obtain ⟨nn, hnn⟩ : ∃ n : Int, n = (y_c f1 387).toInt := ⟨_, rfl⟩
  have hnb : 0 ≤ (y_c f1 387).toInt ∧ (y_c f1 387).toInt ≤ 40 := b3
  rw [← hnn] at hnb
  rw [← hnn] at hg9
  have e0_v4 := ev4
  refine th_join (fun g H locs => ∃ (G : Nat → va_E) (ls : Array Slot), g = F0 m 147 ls [] ∧ lv_has ls 4 [(0, .ref a0)] ∧ va_P (dC, dI) vwCl (va_pl L G) H ∧ va_S (fun q => q ∈ L) s.heap H locs ∧ y_I K cs A G ∧ (∀ b, K b ∉ [9, 62, 64] → G b = F b) ∧ (∀ k, k ∈ ([1, 3, 7, 8, 15, 16, 19, 25, 26, 27, 31, 32] : List Nat) → y_fi G a0 k = z0 k) ∧ (y_c (y_at G (A 12)) 387).toInt = nn ∧ (∀ j : Int, 0 ≤ j → (j < 8 * nn ∨ 8 * nn + 8 ≤ j) → y_c (y_at G (A 12)) j = y_c f1 j) ∧ ((y_fi G a0 5).toInt = 0 → (0 ≤ (y_c (y_at G (A 12)) (8 * nn)).toInt ∧ (y_c (y_at G (A 12)) (8 * nn)).toInt ≤ 15) ∧ (((y_c (y_at G (A 12)) (8 * nn)).toInt = 5 ∨ (y_c (y_at G (A 12)) (8 * nn)).toInt = 6 ∨ 12 ≤ (y_c (y_at G (A 12)) (8 * nn)).toInt) ∨ -4 ≤ (y_c (y_at G (A 12)) (8 * nn + 2)).toInt) ∧ (((y_c (y_at G (A 12)) (8 * nn)).toInt = 5 ∨ (y_c (y_at G (A 12)) (8 * nn)).toInt = 6 ∨ 12 ≤ (y_c (y_at G (A 12)) (8 * nn)).toInt ∨ (y_c (y_at G (A 12)) (8 * nn)).toInt = 0 ∨ (y_c (y_at G (A 12)) (8 * nn)).toInt = 7 ∨ (y_c (y_at G (A 12)) (8 * nn)).toInt = 9 ∨ (y_c (y_at G (A 12)) (8 * nn)).toInt = 11) ∨ -4 ≤ (y_c (y_at G (A 12)) (8 * nn + 3)).toInt) ∧ ((y_c (y_at G (A 12)) (8 * nn)).toInt ≠ 12 ∨ (y_c (y_at G (A 12)) (8 * nn + 5)).toInt = -1000000 ∨ (-4 ≤ (y_c (y_at G (A 12)) (8 * nn + 2)).toInt ∧ -4 ≤ (y_c (y_at G (A 12)) (8 * nn + 3)).toInt))) ∧ v4.toInt = 0) (fun K147 => ?_) ?_
  refine th_join (fun g H locs => ∃ (G : Nat → va_E) (ls : Array Slot) (w5 : Int32), g = F0 m 110 ls [] ∧ lv_has ls 4 [(0, .ref a0), (2, .int w5)] ∧ va_P (dC, dI) vwCl (va_pl L G) H ∧ va_S (fun q => q ∈ L) s.heap H locs ∧ y_I K cs A G ∧ (∀ b, K b ∉ [9, 62, 64] → G b = F b) ∧ (∀ k, k ∈ ([1, 3, 7, 8, 15, 16, 19, 25, 26, 27, 31, 32] : List Nat) → y_fi G a0 k = z0 k) ∧ True ∧ (y_c (y_at G (A 12)) 387).toInt = nn ∧ (∀ j : Int, 0 ≤ j → (j < 8 * nn ∨ 8 * nn + 8 ≤ j) → y_c (y_at G (A 12)) j = y_c f1 j) ∧ ((v4.toInt = 0 ∧ 0 ≤ w5.toInt ∧ w5.toInt ≤ 15) ∧ (y_c (y_at G (A 12)) (8 * nn + 5)).toInt = -1000000 ∧ ((y_fi G a0 5).toInt = 0 → (y_c (y_at G (A 12)) (8 * nn)).toInt = w5.toInt))) (fun K110 => ?_) ?_
  refine th_join (fun g H locs => ∃ (G : Nat → va_E) (ls : Array Slot) (w6 : Int32), g = F0 m 76 ls [] ∧ lv_has ls 4 [(0, .ref a0), (2, .int w6)] ∧ va_P (dC, dI) vwCl (va_pl L G) H ∧ va_S (fun q => q ∈ L) s.heap H locs ∧ y_I K cs A G ∧ (∀ b, K b ∉ [9, 62, 64] → G b = F b) ∧ (∀ k, k ∈ ([1, 3, 7, 8, 15, 16, 19, 25, 26, 27, 31, 32] : List Nat) → y_fi G a0 k = z0 k) ∧ True ∧ (y_c (y_at G (A 12)) 387).toInt = nn ∧ (∀ j : Int, 0 ≤ j → (j < 8 * nn ∨ 8 * nn + 8 ≤ j) → y_c (y_at G (A 12)) j = y_c f1 j) ∧ (v4.toInt = 0 ∧ (y_c (y_at G (A 12)) (8 * nn + 5)).toInt = -1000000 ∧ ((y_fi G a0 5).toInt = 0 → 0 ≤ w6.toInt ∧ w6.toInt ≤ 15))) (fun K76 => ?_) ?_
  · refine lv_iconst (v := 1) hx hb dX7_lineTold_0 (by decide) ?_
    refine lv_istore_n (lv' := [(2, .int 1), (0, .ref a0), (1, .int x1)]) hx hb dX7_lineTold_1 rfl hl (by decide) rfl (fun ls hl => ?_)
    have h8 : (1 : Int32).toInt = 1 := by decide
    refine th_loop (fun n g H locs => ∃ (G : Nat → va_E) (ls : Array Slot) (w7 : Int32), g = F0 m 2 ls [] ∧ lv_has ls 4 [(0, .ref a0), (1, .int x1), (2, .int w7)] ∧ va_P (dC, dI) vwCl (va_pl L G) H ∧ va_S (fun q => q ∈ L) s.heap H locs ∧ y_I K cs A G ∧ (∀ b, K b ∉ [9, 62, 64] → G b = F b) ∧ (∀ k, k ∈ ([1, 3, 7, 8, 15, 16, 19, 25, 26, 27, 31, 32] : List Nat) → y_fi G a0 k = z0 k) ∧ (1 ≤ w7.toInt ∧ w7.toInt ≤ 7) ∧ (y_c (y_at G (A 12)) 387).toInt = nn ∧ (∀ j : Int, 0 ≤ j → (j < 8 * nn ∨ 8 * nn + 8 ≤ j) → y_c (y_at G (A 12)) j = y_c f1 j) ∧ ((v4.toInt = 0 ∧ (y_fi G a0 5).toInt = 0) ∧ (6 ≤ w7.toInt → (y_c (y_at G (A 12)) (8 * nn + 5)).toInt = -1000000)) ∧ n = (8 - w7.toInt).toNat) _ ⟨F, _, 1, rfl, lv_sub hl [1, 2, 0] rfl, hP, hS, hI, hfr, (fun k hk => (y_fiZ oY0 (s_sub (by decide) hk)).trans (hz0 k hk)), (by decide), (by rw [y_atE o2]; exact hnn.symm), (by rw [y_atE o2]; exact (fun j _ _ => rfl)), (by rw [y_fiZ oY0 (k := 5) (by decide), ← ev4, y_atE o2]; omega), rfl⟩ (fun n ih2 g H locs hq => ?_)
    obtain ⟨F13, ls, w7, rfl, hl, hP, hS, hI, hfr, hz0, h9, h10, h11, h12, hn⟩ := hq
    obtain ⟨z14, q15, oY16, bz17⟩ := y_opY hI ha0
    have hz0 : ∀ k, k ∈ ([1, 3, 7, 8, 15, 16, 19, 25, 26, 27, 31, 32] : List Nat) → z14 k = z0 k := fun k hk => (y_fiZ oY16 (s_sub (by decide) hk)).symm.trans (hz0 k hk)
    obtain ⟨f18, o19, b20⟩ := y_op12 hI
    have h10 : (y_c f18 387).toInt = nn := by have q9 := h10; rw [y_atE o19] at q9; exact q9
    have h11 : (∀ j : Int, 0 ≤ j → (j < 8 * nn ∨ 8 * nn + 8 ≤ j) → y_c f18 j = y_c f1 j) := by have q9 := h11; rw [y_atE o19] at q9; exact q9
    obtain ⟨v21, ev21⟩ : ∃ y : Int32, y = z14 5 := ⟨_, rfl⟩
    have h12 : ((v4.toInt = 0 ∧ v21.toInt = 0) ∧ (6 ≤ w7.toInt → (y_c f18 (8 * nn + 5)).toInt = -1000000)) := by have q9 := h12; rw [y_fiZ oY16 (k := 5) (by decide), ← ev21, y_atE o19] at q9; exact q9
    have hn_21 := hn
    refine lv_iload_n hx hb dX7_lineTold_2 rfl (lv_at hl 2 rfl) ?_
    refine lv_bipush (v := 7) hx hb dX7_lineTold_3 (by decide) ?_
    refine lv_icmp_ge (tgt := 21) hx hb dX7_lineTold_5 (by decide) (fun c22 => ?_) (fun c22 => ?_)
    · have c22 := (ax_ge (n := 7) (by decide)).mp c22
      refine lv_aload_n hx hb dX7_lineTold_21 rfl (lv_at hl 0 rfl) ?_
      refine lv_bipush (v := 7) hx hb dX7_lineTold_22 (by decide) ?_
      refine lv_iload_n hx hb dX7_lineTold_24 rfl (lv_at hl 1 rfl) ?_
      have ep23_5 := ev21
      refine va_callv (va_runV (As := [.int 7, .int x1]) (rest := []) ⟨hx, hb, hml, hown, hts⟩ (y_X7_lays l dC dI H.size hLK A hA F13 a0 7 x1 ha0 (by decide) hI) (cwV 2 hts (ax_gV T_1115 T_1117 T_1118 T_265 T_1116) rfl rfl rfl (by decide +kernel) ⟨Nat.le_of_ble_eq_true rfl, Nat.le_of_ble_eq_true rfl⟩) ⟨fun a U g mk q => ⟨q.1, s_pc rfl rfl q.2⟩, s_recv hK hP (hLK _ ha0 (by decide)) (ci := 7) rfl oY16, fun U hU hW => ⟨rfl, s_pw hU hW hP hK hD hN⟩⟩ rfl rfl hl.1 rfl (lv_room (Nat.le_of_ble_eq_true rfl)) dX7_lineTold_25 ⟨Nat.zero_le _, Nat.zero_le _⟩) hS (fun q _ h => h) (fun q h => h) (fun F24 t H1 locs ht hvm hw hB hz1 hk1 hS => ?_)
      obtain ⟨hP, hK1⟩ := hB
      rw [ht] at hP
      generalize H1 = H at hP hS ⊢
      obtain ⟨h25, h27, hI, hfr1, hzf, h26⟩ := hw
      have oY28 : F24 a0 = .inr (7, y_fl A z14 q15) := (hfr1 _ (by rw [ha0]; decide)).trans oY16
      have hfr : ∀ b, K b ∉ [9, 62, 64] → F24 b = F b := fun b hb9 => (hfr1 b (fun q => hb9 (s_sub (by decide) q))).trans (hfr b hb9)
      obtain ⟨f29, o30, b31⟩ := y_op12 hI
      have h26 : ((∀ j : Int, 0 ≤ j → j ≠ 8 * (y_c f18 387).toInt + 7 → y_c f29 j = y_c f18 j) ∧ (v21.toInt = 0 → y_c f29 (8 * (y_c f18 387).toInt + 7) = x1)) := by have q9 := h26; rw [y_atE o19, y_atE o30, y_fiZ oY16 (k := 5) (by decide), ← ep23_5] at q9; exact q9
      rw [h10] at h26
      have hn32 : (y_c f29 387).toInt = nn := by rw [h26.1 387 (by omega) (by omega)]; exact h10
      have hfr33 : ∀ j : Int, 0 ≤ j → (j < 8 * nn ∨ 8 * nn + 8 ≤ j) → y_c f29 j = y_c f1 j := fun j h0 h1 => (h26.1 j h0 (by omega)).trans (h11 j h0 h1)
      have h34 : (y_c f29 (8 * nn)).toInt = (y_c f18 (8 * nn)).toInt := (congrArg Int32.toInt (h26.1 _ (by omega) (by omega)))
      have h35 : (y_c f29 (8 * nn + 2)).toInt = (y_c f18 (8 * nn + 2)).toInt := (congrArg Int32.toInt (h26.1 _ (by omega) (by omega)))
      have h36 : (y_c f29 (8 * nn + 3)).toInt = (y_c f18 (8 * nn + 3)).toInt := (congrArg Int32.toInt (h26.1 _ (by omega) (by omega)))
      have h37 : (y_c f29 (8 * nn + 5)).toInt = (y_c f18 (8 * nn + 5)).toInt := (congrArg Int32.toInt (h26.1 _ (by omega) (by omega)))
      refine lv_aload_n hx hb dX7_lineTold_28 rfl (lv_at hl 0 rfl) ?_
      refine va_calli (va_runV (As := []) (rest := []) ⟨hx, hb, hml, hown, hts⟩ (y_X7_ownHere l dC dI H.size hLK A hA F24 a0 ha0 hI) (cwV 0 hts (ax_gV T_283 T_284 T_285 T_265 T_25) rfl rfl rfl (by decide +kernel) ⟨Nat.le_of_ble_eq_true rfl, Nat.le_of_ble_eq_true rfl⟩) ⟨fun a U g mk q => ⟨q.1, s_pc rfl rfl q.2⟩, s_recv hK hP (hLK _ ha0 (by decide)) (ci := 7) rfl oY28, fun U hU hW => ⟨rfl, s_pw hU hW hP hK hD hN⟩⟩ rfl rfl hl.1 rfl (lv_room (Nat.le_of_ble_eq_true rfl)) dX7_lineTold_29 ⟨Nat.zero_le _, Nat.zero_le _⟩) hS (fun q _ h => h) (fun q h => h) (fun r39 F40 t H1 locs ht hvm hw hB hz1 hk1 hS => ?_)
      obtain ⟨hP, hK1⟩ := hB
      rw [ht] at hP
      generalize H1 = H at hP hS ⊢
      obtain ⟨h41, h43, hI, hfr1, hzf, h42⟩ := hw
      have o44 : F40 (A 12) = .inl (cs 0, 400, .inl f29) := (hfr1 _ (by rw [(y_k12 hA)]; decide)).trans o30
      obtain ⟨z45, q46, oY47, bz48⟩ := y_opY hI ha0
      have hzf : ∀ k, k ∈ ([1, 3, 4, 5, 6, 7, 8, 11, 15, 16, 19, 25, 26, 27, 31, 32] : List Nat) → z45 k = z14 k := fun k hk => by have q9 := hzf k hk; rw [y_fiZ oY47 (s_sub (by decide) hk), y_fiZ oY28 (s_sub (by decide) hk)] at q9; exact q9
      have hz0 : ∀ k, k ∈ ([1, 3, 7, 8, 15, 16, 19, 25, 26, 27, 31, 32] : List Nat) → z45 k = z0 k := fun k hk => (hzf k (s_sub (by decide) hk)).trans (hz0 k hk)
      have ev21 : v21 = z45 5 := ev21.trans (hzf 5 (by decide)).symm
      have hfr : ∀ b, K b ∉ [9, 62, 64] → F40 b = F b := fun b hb9 => (hfr1 b (fun q => hb9 (s_sub (by decide) q))).trans (hfr b hb9)
      refine lv_istore_n (lv' := [(2, .int r39), (0, .ref a0), (1, .int x1)]) hx hb dX7_lineTold_32 rfl hl (by decide) rfl (fun ls hl => ?_)
      refine lv_aload_n hx hb dX7_lineTold_33 rfl (lv_at hl 1 rfl) ?_
      refine th_get (D := (dC, dI)) (ci := 7) (v := .int (z45 5)) (C := RX7) (T := TX7) (N := 34) hx hb hts inX7 hown hK hP (hLK _ ha0 (by decide)) oY47 rfl 5 (by decide) (hts _ T_274) (fun _ h9 => h9) rfl dX7_lineTold_34 ?_
      refine ax_eqi (y := v21) ev21.symm ?_
      refine lv_if_ne (tgt := 76) hx hb dX7_lineTold_37 (by decide) (fun c49 => ?_) (fun c49 => ?_)
      · have c49 := mt (ax_eq (n := 0) (by decide)).mpr c49
        exact K76 _ _ _ ⟨F40, _, r39, rfl, lv_sub hl [1, 0] rfl, hP, hS, hI, hfr, (fun k hk => (y_fiZ oY47 (s_sub (by decide) hk)).trans (hz0 k hk)), trivial, (by rw [y_atE o44]; exact hn32), (by rw [y_atE o44]; exact hfr33), (by rw [y_atE o44, y_fiZ oY47 (k := 5) (by decide), ← ev21]; omega)⟩
      · have c49 := (ax_eq (n := 0) (by decide)).mp c49
        refine lv_iload_n hx hb dX7_lineTold_40 rfl (lv_at hl 0 rfl) ?_
        refine lv_i2l hx hb dX7_lineTold_41 rfl ?_
        refine lv_topl (fun v50 ev50 => ?_)
        have qv50 : v50.toInt = r39.toInt := y_i2l ev50
        refine lv_lconst (v := 0) hx hb dX7_lineTold_42 (by decide) ?_
        refine lv_ldc2 hx hb hown (hts _ T_1256) dX7_lineTold_43 ?_
        refine va_calli (va_runS (As := [.long v50, .long 0, .long 15]) (rest := []) ⟨hx, hb, hml, hown, hts⟩ (y_X7_isIn l dC dI H.size F40 v50 0 15) (cwS 3 hts (ax_gS T_267 T_268 T_265 T_21) rfl rfl rfl (by decide +kernel) ⟨Nat.le_of_ble_eq_true rfl, Nat.le_of_ble_eq_true rfl⟩) ⟨fun a U g mk q => ⟨q.1, s_pc rfl rfl q.2⟩, fun U hU hW => ⟨rfl, s_pw hU hW hP hK hD hN⟩⟩ rfl rfl hl.1 rfl (lv_room (Nat.le_of_ble_eq_true rfl)) dX7_lineTold_46 ⟨Nat.zero_le _, Nat.zero_le _⟩) hS (fun q _ h => h) (fun q h => h) (fun r52 F53 t H1 locs ht hvm hw hB hz1 hk1 hS => ?_)
        obtain ⟨hP, hK1⟩ := hB
        rw [ht] at hP
        generalize H1 = H at hP hS ⊢
        obtain ⟨h54, h56, hG9, h55⟩ := hw
        rw [hG9] at hP
        have h55 : ((r52.toInt = 0 ∧ (v50.toInt < 0 ∨ 15 < v50.toInt)) ∨ (r52.toInt = 1 ∧ 0 ≤ v50.toInt ∧ v50.toInt ≤ 15)) := by have q9 := h55; exact q9
        refine lv_if_ne (tgt := 76) hx hb dX7_lineTold_49 (by decide) (fun c57 => ?_) (fun c57 => ?_)
        · have c57 := mt (ax_eq (n := 0) (by decide)).mpr c57
          exact K76 _ _ _ ⟨F40, _, r39, rfl, lv_sub hl [1, 0] rfl, hP, hS, hI, hfr, (fun k hk => (y_fiZ oY47 (s_sub (by decide) hk)).trans (hz0 k hk)), trivial, (by rw [y_atE o44]; exact hn32), (by rw [y_atE o44]; exact hfr33), (by rw [y_atE o44, y_fiZ oY47 (k := 5) (by decide), ← ev21]; omega)⟩
        · have c57 := (ax_eq (n := 0) (by decide)).mp c57
          refine lv_aload_n hx hb dX7_lineTold_52 rfl (lv_at hl 1 rfl) ?_
          refine lv_iconst (v := 1) hx hb dX7_lineTold_53 (by decide) ?_
          refine lv_aload_n hx hb dX7_lineTold_54 rfl (lv_at hl 1 rfl) ?_
          refine va_calli (va_runV (As := []) (rest := [.int 1, .ref a0]) ⟨hx, hb, hml, hown, hts⟩ (y_X7_look l dC dI H.size hLK A hA F40 a0 ha0 hI) (cwV 0 hts (ax_gV T_275 T_276 T_277 T_265 T_22) rfl rfl rfl (by decide +kernel) ⟨Nat.le_of_ble_eq_true rfl, Nat.le_of_ble_eq_true rfl⟩) ⟨fun a U g mk q => ⟨q.1, s_pc rfl rfl q.2⟩, s_recv hK hP (hLK _ ha0 (by decide)) (ci := 7) rfl oY47, fun U hU hW => ⟨rfl, s_pw hU hW hP hK hD hN⟩⟩ rfl rfl hl.1 rfl (lv_room (Nat.le_of_ble_eq_true rfl)) dX7_lineTold_55 ⟨Nat.zero_le _, Nat.zero_le _⟩) hS (fun q _ h => h) (fun q h => h) (fun r59 F60 t H1 locs ht hvm hw hB hz1 hk1 hS => ?_)
          obtain ⟨hP, hK1⟩ := hB
          rw [ht] at hP
          generalize H1 = H at hP hS ⊢
          obtain ⟨h61, h63, hI, hfr1, hzf, h62⟩ := hw
          have o64 : F60 (A 12) = .inl (cs 0, 400, .inl f29) := (hfr1 _ (by rw [(y_k12 hA)]; decide)).trans o44
          obtain ⟨z65, q66, oY67, bz68⟩ := y_opY hI ha0
          have hzf : ∀ k, k ∈ ([1, 3, 4, 5, 6, 7, 8, 11, 15, 16, 19, 25, 26, 27, 31, 32] : List Nat) → z65 k = z45 k := fun k hk => by have q9 := hzf k hk; rw [y_fiZ oY67 (s_sub (by decide) hk), y_fiZ oY47 (s_sub (by decide) hk)] at q9; exact q9
          have hz0 : ∀ k, k ∈ ([1, 3, 7, 8, 15, 16, 19, 25, 26, 27, 31, 32] : List Nat) → z65 k = z0 k := fun k hk => (hzf k (s_sub (by decide) hk)).trans (hz0 k hk)
          have ev21 : v21 = z65 5 := ev21.trans (hzf 5 (by decide)).symm
          have hfr : ∀ b, K b ∉ [9, 62, 64] → F60 b = F b := fun b hb9 => (hfr1 b (fun q => hb9 (s_sub (by decide) q))).trans (hfr b hb9)
          obtain ⟨v69, ev69⟩ : ∃ y : Int32, y = z65 2 := ⟨_, rfl⟩
          have qv69 : 0 ≤ v69.toInt ∧ v69.toInt ≤ 1600 := by rw [ev69]; exact y_bY2 bz68
          obtain ⟨v70, ev70⟩ : ∃ y : Int32, y = z65 3 := ⟨_, rfl⟩
          have qv70 : 0 ≤ v70.toInt ∧ v70.toInt ≤ 1600 := by rw [ev70]; exact y_bY3 bz68
          have h62 : (r59.toInt = -1 ∨ v69.toInt < v70.toInt) := by have q9 := h62; rw [y_fiZ oY67 (k := 2) (by decide), ← ev69, y_fiZ oY67 (k := 3) (by decide), ← ev70] at q9; exact q9
          refine lv_iconst (v := (-1)) hx hb dX7_lineTold_58 (by decide) ?_
          refine lv_icmp_ne (tgt := 69) hx hb dX7_lineTold_59 (by decide) (fun c71 => ?_) (fun c71 => ?_)
          · have c71 := mt (ax_eq (n := (-1)) (by decide)).mpr c71
            refine lv_aload_n hx hb dX7_lineTold_69 rfl (lv_at hl 1 rfl) ?_
            refine th_get (D := (dC, dI)) (ci := 7) (v := .int (z65 2)) (C := RX7) (T := TX7) (N := 34) hx hb hts inX7 hown hK hP (hLK _ ha0 (by decide)) oY67 rfl 2 (by decide) (hts _ T_272) (fun _ h9 => h9) rfl dX7_lineTold_70 ?_
            refine ax_eqi (y := v69) ev69.symm ?_
            refine va_callv (va_runV (As := [.int 1, .int v69]) (rest := []) ⟨hx, hb, hml, hown, hts⟩ (y_X7_fail l dC dI H.size hLK A hA F60 a0 1 v69 ha0 (by decide) hI) (cwV 2 hts (ax_gV T_290 T_291 T_292 T_265 T_27) rfl rfl rfl (by decide +kernel) ⟨Nat.le_of_ble_eq_true rfl, Nat.le_of_ble_eq_true rfl⟩) ⟨fun a U g mk q => ⟨q.1, s_pc rfl rfl q.2⟩, s_recv hK hP (hLK _ ha0 (by decide)) (ci := 7) rfl oY67, fun U hU hW => ⟨rfl, s_pw hU hW hP hK hD hN⟩⟩ rfl rfl hl.1 rfl (lv_room (Nat.le_of_ble_eq_true rfl)) dX7_lineTold_73 ⟨Nat.zero_le _, Nat.zero_le _⟩) hS (fun q _ h => h) (fun q h => h) (fun F73 t H1 locs ht hvm hw hB hz1 hk1 hS => ?_)
            obtain ⟨hP, hK1⟩ := hB
            rw [ht] at hP
            generalize H1 = H at hP hS ⊢
            obtain ⟨h74, h76, hI, hfr1, hzf, h75⟩ := hw
            have o77 : F73 (A 12) = .inl (cs 0, 400, .inl f29) := (hfr1 _ (by rw [(y_k12 hA)]; decide)).trans o64
            obtain ⟨z78, q79, oY80, bz81⟩ := y_opY hI ha0
            have hzf : ∀ k, k ∈ ([1, 2, 3, 4, 7, 8, 11, 15, 16, 19, 25, 26, 27, 31, 32] : List Nat) → z78 k = z65 k := fun k hk => by have q9 := hzf k hk; rw [y_fiZ oY80 (s_sub (by decide) hk), y_fiZ oY67 (s_sub (by decide) hk)] at q9; exact q9
            have hz0 : ∀ k, k ∈ ([1, 3, 7, 8, 15, 16, 19, 25, 26, 27, 31, 32] : List Nat) → z78 k = z0 k := fun k hk => (hzf k (s_sub (by decide) hk)).trans (hz0 k hk)
            have ev69 : v69 = z78 2 := ev69.trans (hzf 2 (by decide)).symm
            have ev70 : v70 = z78 3 := ev70.trans (hzf 3 (by decide)).symm
            have hfr : ∀ b, K b ∉ [9, 62, 64] → F73 b = F b := fun b hb9 => (hfr1 b (fun q => hb9 (s_sub (by decide) q))).trans (hfr b hb9)
            obtain ⟨v82, ev82⟩ : ∃ y : Int32, y = z78 5 := ⟨_, rfl⟩
            have h75 : (¬ v82.toInt = 0) := by have q9 := h75; rw [y_fiZ oY80 (k := 5) (by decide), ← ev82] at q9; exact q9
            exact K76 _ _ _ ⟨F73, _, r39, rfl, lv_sub hl [1, 0] rfl, hP, hS, hI, hfr, (fun k hk => (y_fiZ oY80 (s_sub (by decide) hk)).trans (hz0 k hk)), trivial, (by rw [y_atE o77]; exact hn32), (by rw [y_atE o77]; exact hfr33), (by rw [y_atE o77, y_fiZ oY80 (k := 5) (by decide), ← ev82]; omega)⟩
          · have c71 := (ax_eq (n := (-1)) (by decide)).mp c71
            refine lv_aload_n hx hb dX7_lineTold_62 rfl (lv_at hl 1 rfl) ?_
            refine th_get (D := (dC, dI)) (ci := 7) (v := .int (z65 3)) (C := RX7) (T := TX7) (N := 34) hx hb hts inX7 hown hK hP (hLK _ ha0 (by decide)) oY67 rfl 3 (by decide) (hts _ T_273) (fun _ h9 => h9) rfl dX7_lineTold_63 ?_
            refine ax_eqi (y := v70) ev70.symm ?_
            refine lv_goto (tgt := 73) hx hb dX7_lineTold_66 (by decide) ?_
            refine va_callv (va_runV (As := [.int 1, .int v70]) (rest := []) ⟨hx, hb, hml, hown, hts⟩ (y_X7_fail l dC dI H.size hLK A hA F60 a0 1 v70 ha0 (by decide) hI) (cwV 2 hts (ax_gV T_290 T_291 T_292 T_265 T_27) rfl rfl rfl (by decide +kernel) ⟨Nat.le_of_ble_eq_true rfl, Nat.le_of_ble_eq_true rfl⟩) ⟨fun a U g mk q => ⟨q.1, s_pc rfl rfl q.2⟩, s_recv hK hP (hLK _ ha0 (by decide)) (ci := 7) rfl oY67, fun U hU hW => ⟨rfl, s_pw hU hW hP hK hD hN⟩⟩ rfl rfl hl.1 rfl (lv_room (Nat.le_of_ble_eq_true rfl)) dX7_lineTold_73 ⟨Nat.zero_le _, Nat.zero_le _⟩) hS (fun q _ h => h) (fun q h => h) (fun F84 t H1 locs ht hvm hw hB hz1 hk1 hS => ?_)
            obtain ⟨hP, hK1⟩ := hB
            rw [ht] at hP
            generalize H1 = H at hP hS ⊢
            obtain ⟨h85, h87, hI, hfr1, hzf, h86⟩ := hw
            have o88 : F84 (A 12) = .inl (cs 0, 400, .inl f29) := (hfr1 _ (by rw [(y_k12 hA)]; decide)).trans o64
            obtain ⟨z89, q90, oY91, bz92⟩ := y_opY hI ha0
            have hzf : ∀ k, k ∈ ([1, 2, 3, 4, 7, 8, 11, 15, 16, 19, 25, 26, 27, 31, 32] : List Nat) → z89 k = z65 k := fun k hk => by have q9 := hzf k hk; rw [y_fiZ oY91 (s_sub (by decide) hk), y_fiZ oY67 (s_sub (by decide) hk)] at q9; exact q9
            have hz0 : ∀ k, k ∈ ([1, 3, 7, 8, 15, 16, 19, 25, 26, 27, 31, 32] : List Nat) → z89 k = z0 k := fun k hk => (hzf k (s_sub (by decide) hk)).trans (hz0 k hk)
            have ev69 : v69 = z89 2 := ev69.trans (hzf 2 (by decide)).symm
            have ev70 : v70 = z89 3 := ev70.trans (hzf 3 (by decide)).symm
            have hfr : ∀ b, K b ∉ [9, 62, 64] → F84 b = F b := fun b hb9 => (hfr1 b (fun q => hb9 (s_sub (by decide) q))).trans (hfr b hb9)
            obtain ⟨v93, ev93⟩ : ∃ y : Int32, y = z89 5 := ⟨_, rfl⟩
            have h86 : (¬ v93.toInt = 0) := by have q9 := h86; rw [y_fiZ oY91 (k := 5) (by decide), ← ev93] at q9; exact q9
            exact K76 _ _ _ ⟨F84, _, r39, rfl, lv_sub hl [1, 0] rfl, hP, hS, hI, hfr, (fun k hk => (y_fiZ oY91 (s_sub (by decide) hk)).trans (hz0 k hk)), trivial, (by rw [y_atE o88]; exact hn32), (by rw [y_atE o88]; exact hfr33), (by rw [y_atE o88, y_fiZ oY91 (k := 5) (by decide), ← ev93]; omega)⟩
    · have c22 := mt (ax_ge (n := 7) (by decide)).mpr c22
      refine lv_aload_n hx hb dX7_lineTold_8 rfl (lv_at hl 0 rfl) ?_
      refine lv_iload_n hx hb dX7_lineTold_9 rfl (lv_at hl 2 rfl) ?_
      refine lv_ldc (v := (-1000000)) hx hb hown (hts _ T_316) dX7_lineTold_10 ?_
      have ep94_5 := ev21
      refine va_callv (va_runV (As := [.int w7, .int (-1000000)]) (rest := []) ⟨hx, hb, hml, hown, hts⟩ (y_X7_lays l dC dI H.size hLK A hA F13 a0 w7 (-1000000) ha0 (⟨by omega, by omega⟩) hI) (cwV 2 hts (ax_gV T_1115 T_1117 T_1118 T_265 T_1116) rfl rfl rfl (by decide +kernel) ⟨Nat.le_of_ble_eq_true rfl, Nat.le_of_ble_eq_true rfl⟩) ⟨fun a U g mk q => ⟨q.1, s_pc rfl rfl q.2⟩, s_recv hK hP (hLK _ ha0 (by decide)) (ci := 7) rfl oY16, fun U hU hW => ⟨rfl, s_pw hU hW hP hK hD hN⟩⟩ rfl rfl hl.1 rfl (lv_room (Nat.le_of_ble_eq_true rfl)) dX7_lineTold_12 ⟨Nat.zero_le _, Nat.zero_le _⟩) hS (fun q _ h => h) (fun q h => h) (fun F95 t H1 locs ht hvm hw hB hz1 hk1 hS => ?_)
      obtain ⟨hP, hK1⟩ := hB
      rw [ht] at hP
      generalize H1 = H at hP hS ⊢
      obtain ⟨h96, h98, hI, hfr1, hzf, h97⟩ := hw
      have oY99 : F95 a0 = .inr (7, y_fl A z14 q15) := (hfr1 _ (by rw [ha0]; decide)).trans oY16
      have hfr : ∀ b, K b ∉ [9, 62, 64] → F95 b = F b := fun b hb9 => (hfr1 b (fun q => hb9 (s_sub (by decide) q))).trans (hfr b hb9)
      obtain ⟨f100, o101, b102⟩ := y_op12 hI
      have h97 : ((∀ j : Int, 0 ≤ j → j ≠ 8 * (y_c f18 387).toInt + w7.toInt → y_c f100 j = y_c f18 j) ∧ (v21.toInt = 0 → y_c f100 (8 * (y_c f18 387).toInt + w7.toInt) = (-1000000))) := by have q9 := h97; rw [y_atE o19, y_atE o101, y_fiZ oY16 (k := 5) (by decide), ← ep94_5] at q9; exact q9
      rw [h10] at h97
      have hn103 : (y_c f100 387).toInt = nn := by rw [h97.1 387 (by omega) (by omega)]; exact h10
      have hfr104 : ∀ j : Int, 0 ≤ j → (j < 8 * nn ∨ 8 * nn + 8 ≤ j) → y_c f100 j = y_c f1 j := fun j h0 h1 => (h97.1 j h0 (by omega)).trans (h11 j h0 h1)
      have h105 : w7.toInt = 0 → v21.toInt = 0 → (y_c f100 (8 * nn)).toInt = (-1000000) := fun h8 => (fun h9 => (congrArg (fun i => (y_c f100 i).toInt) (show 8 * nn = 8 * nn + w7.toInt by omega)).trans ((congrArg Int32.toInt (h97.2 h9)).trans (by decide)))
      have h106 : w7.toInt ≠ 0 → (y_c f100 (8 * nn)).toInt = (y_c f18 (8 * nn)).toInt := fun h8 => (congrArg Int32.toInt (h97.1 _ (by omega) (by omega)))
      have h107 : w7.toInt = 2 → v21.toInt = 0 → (y_c f100 (8 * nn + 2)).toInt = (-1000000) := fun h8 => (fun h9 => (congrArg (fun i => (y_c f100 i).toInt) (show 8 * nn + 2 = 8 * nn + w7.toInt by omega)).trans ((congrArg Int32.toInt (h97.2 h9)).trans (by decide)))
      have h108 : w7.toInt ≠ 2 → (y_c f100 (8 * nn + 2)).toInt = (y_c f18 (8 * nn + 2)).toInt := fun h8 => (congrArg Int32.toInt (h97.1 _ (by omega) (by omega)))
      have h109 : w7.toInt = 3 → v21.toInt = 0 → (y_c f100 (8 * nn + 3)).toInt = (-1000000) := fun h8 => (fun h9 => (congrArg (fun i => (y_c f100 i).toInt) (show 8 * nn + 3 = 8 * nn + w7.toInt by omega)).trans ((congrArg Int32.toInt (h97.2 h9)).trans (by decide)))
      have h110 : w7.toInt ≠ 3 → (y_c f100 (8 * nn + 3)).toInt = (y_c f18 (8 * nn + 3)).toInt := fun h8 => (congrArg Int32.toInt (h97.1 _ (by omega) (by omega)))
      have h111 : w7.toInt = 5 → v21.toInt = 0 → (y_c f100 (8 * nn + 5)).toInt = (-1000000) := fun h8 => (fun h9 => (congrArg (fun i => (y_c f100 i).toInt) (show 8 * nn + 5 = 8 * nn + w7.toInt by omega)).trans ((congrArg Int32.toInt (h97.2 h9)).trans (by decide)))
      have h112 : w7.toInt ≠ 5 → (y_c f100 (8 * nn + 5)).toInt = (y_c f18 (8 * nn + 5)).toInt := fun h8 => (congrArg Int32.toInt (h97.1 _ (by omega) (by omega)))
      obtain ⟨v113, ev113⟩ : ∃ y : Int32, w7 + 1 = y := ⟨_, rfl⟩
      have qv113 : v113.toInt = w7.toInt + 1 := by rw [← ev113]; exact th_add rfl (by decide) ⟨by omega, by omega⟩
      refine lv_iinc (v := v113) (lv' := [(2, .int v113), (0, .ref a0), (1, .int x1)]) hx hb dX7_lineTold_15 hl (k := 2) rfl ev113 (by decide) rfl (fun ls hl => ?_)
      refine lv_goto (tgt := 2) hx hb dX7_lineTold_18 (by decide) ?_
      exact ih2 _ _ _ _ (by omega) ⟨F95, _, v113, rfl, lv_sub hl [1, 2, 0] rfl, hP, hS, hI, hfr, (fun k hk => (y_fiZ oY99 (s_sub (by decide) hk)).trans (hz0 k hk)), ⟨by omega, by omega⟩, (by rw [y_atE o101]; exact hn103), (by rw [y_atE o101]; exact hfr104), (by rw [y_fiZ oY99 (k := 5) (by decide), ← ev21, y_atE o101]; omega), rfl⟩
  · intro g H locs hq
    obtain ⟨F118, ls, w6, rfl, hl, hP, hS, hI, hfr, hz0, h114, h115, h116, h117⟩ := hq
    obtain ⟨z119, q120, oY121, bz122⟩ := y_opY hI ha0
    have hz0 : ∀ k, k ∈ ([1, 3, 7, 8, 15, 16, 19, 25, 26, 27, 31, 32] : List Nat) → z119 k = z0 k := fun k hk => (y_fiZ oY121 (s_sub (by decide) hk)).symm.trans (hz0 k hk)
    obtain ⟨f123, o124, b125⟩ := y_op12 hI
    have h115 : (y_c f123 387).toInt = nn := by have q9 := h115; rw [y_atE o124] at q9; exact q9
    have h116 : (∀ j : Int, 0 ≤ j → (j < 8 * nn ∨ 8 * nn + 8 ≤ j) → y_c f123 j = y_c f1 j) := by have q9 := h116; rw [y_atE o124] at q9; exact q9
    obtain ⟨v126, ev126⟩ : ∃ y : Int32, y = z119 5 := ⟨_, rfl⟩
    have h117 : (v4.toInt = 0 ∧ (y_c f123 (8 * nn + 5)).toInt = -1000000 ∧ (v126.toInt = 0 → 0 ≤ w6.toInt ∧ w6.toInt ≤ 15)) := by have q9 := h117; rw [y_atE o124, y_fiZ oY121 (k := 5) (by decide), ← ev126] at q9; exact q9
    refine lv_aload_n hx hb dX7_lineTold_76 rfl (lv_at hl 0 rfl) ?_
    refine th_get (D := (dC, dI)) (ci := 7) (v := .int (z119 5)) (C := RX7) (T := TX7) (N := 34) hx hb hts inX7 hown hK hP (hLK _ ha0 (by decide)) oY121 rfl 5 (by decide) (hts _ T_274) (fun _ h9 => h9) rfl dX7_lineTold_77 ?_
    refine ax_eqi (y := v126) ev126.symm ?_
    refine lv_if_eq (tgt := 84) hx hb dX7_lineTold_80 (by decide) (fun c127 => ?_) (fun c127 => ?_)
    · have c127 := (ax_eq (n := 0) (by decide)).mp c127
      refine lv_aload_n hx hb dX7_lineTold_84 rfl (lv_at hl 0 rfl) ?_
      refine va_callv (va_runV (As := []) (rest := []) ⟨hx, hb, hml, hown, hts⟩ (y_X7_passes l dC dI H.size hLK A hA F118 a0 ha0 hI) (cwV 0 hts (ax_gV T_1257 T_1259 T_1260 T_265 T_1258) rfl rfl rfl (by decide +kernel) ⟨Nat.le_of_ble_eq_true rfl, Nat.le_of_ble_eq_true rfl⟩) ⟨fun a U g mk q => ⟨q.1, s_pc rfl rfl q.2⟩, s_recv hK hP (hLK _ ha0 (by decide)) (ci := 7) rfl oY121, fun U hU hW => ⟨rfl, s_pw hU hW hP hK hD hN⟩⟩ rfl rfl hl.1 rfl (lv_room (Nat.le_of_ble_eq_true rfl)) dX7_lineTold_85 ⟨Nat.zero_le _, Nat.zero_le _⟩) hS (fun q _ h => h) (fun q h => h) (fun F129 t H1 locs ht hvm hw hB hz1 hk1 hS => ?_)
      obtain ⟨hP, hK1⟩ := hB
      rw [ht] at hP
      generalize H1 = H at hP hS ⊢
      obtain ⟨h130, h132, hI, hfr1, hzf, h131⟩ := hw
      have o133 : F129 (A 12) = .inl (cs 0, 400, .inl f123) := (hfr1 _ (by rw [(y_k12 hA)]; decide)).trans o124
      obtain ⟨z134, q135, oY136, bz137⟩ := y_opY hI ha0
      have hzf : ∀ k, k ∈ ([1, 3, 5, 6, 7, 8, 11, 15, 16, 19, 25, 26, 27, 31, 32] : List Nat) → z134 k = z119 k := fun k hk => by have q9 := hzf k hk; rw [y_fiZ oY136 (s_sub (by decide) hk), y_fiZ oY121 (s_sub (by decide) hk)] at q9; exact q9
      have hz0 : ∀ k, k ∈ ([1, 3, 7, 8, 15, 16, 19, 25, 26, 27, 31, 32] : List Nat) → z134 k = z0 k := fun k hk => (hzf k (s_sub (by decide) hk)).trans (hz0 k hk)
      have ev126 : v126 = z134 5 := ev126.trans (hzf 5 (by decide)).symm
      have hfr : ∀ b, K b ∉ [9, 62, 64] → F129 b = F b := fun b hb9 => (hfr1 b (fun q => hb9 (s_sub (by decide) q))).trans (hfr b hb9)
      refine lv_aload_n hx hb dX7_lineTold_88 rfl (lv_at hl 0 rfl) ?_
      refine lv_iconst (v := 0) hx hb dX7_lineTold_89 (by decide) ?_
      refine lv_iload_n hx hb dX7_lineTold_90 rfl (lv_at hl 1 rfl) ?_
      have ep138_5 := ev126
      refine va_callv (va_runV (As := [.int 0, .int w6]) (rest := []) ⟨hx, hb, hml, hown, hts⟩ (y_X7_lays l dC dI H.size hLK A hA F129 a0 0 w6 ha0 (by decide) hI) (cwV 2 hts (ax_gV T_1115 T_1117 T_1118 T_265 T_1116) rfl rfl rfl (by decide +kernel) ⟨Nat.le_of_ble_eq_true rfl, Nat.le_of_ble_eq_true rfl⟩) ⟨fun a U g mk q => ⟨q.1, s_pc rfl rfl q.2⟩, s_recv hK hP (hLK _ ha0 (by decide)) (ci := 7) rfl oY136, fun U hU hW => ⟨rfl, s_pw hU hW hP hK hD hN⟩⟩ rfl rfl hl.1 rfl (lv_room (Nat.le_of_ble_eq_true rfl)) dX7_lineTold_91 ⟨Nat.zero_le _, Nat.zero_le _⟩) hS (fun q _ h => h) (fun q h => h) (fun F139 t H1 locs ht hvm hw hB hz1 hk1 hS => ?_)
      obtain ⟨hP, hK1⟩ := hB
      rw [ht] at hP
      generalize H1 = H at hP hS ⊢
      obtain ⟨h140, h142, hI, hfr1, hzf, h141⟩ := hw
      have oY143 : F139 a0 = .inr (7, y_fl A z134 q135) := (hfr1 _ (by rw [ha0]; decide)).trans oY136
      have hfr : ∀ b, K b ∉ [9, 62, 64] → F139 b = F b := fun b hb9 => (hfr1 b (fun q => hb9 (s_sub (by decide) q))).trans (hfr b hb9)
      obtain ⟨f144, o145, b146⟩ := y_op12 hI
      have h141 : ((∀ j : Int, 0 ≤ j → j ≠ 8 * (y_c f123 387).toInt + 0 → y_c f144 j = y_c f123 j) ∧ (v126.toInt = 0 → y_c f144 (8 * (y_c f123 387).toInt + 0) = w6)) := by have q9 := h141; rw [y_atE o133, y_atE o145, y_fiZ oY136 (k := 5) (by decide), ← ep138_5] at q9; exact q9
      rw [h115] at h141
      have hn147 : (y_c f144 387).toInt = nn := by rw [h141.1 387 (by omega) (by omega)]; exact h115
      have hfr148 : ∀ j : Int, 0 ≤ j → (j < 8 * nn ∨ 8 * nn + 8 ≤ j) → y_c f144 j = y_c f1 j := fun j h0 h1 => (h141.1 j h0 (by omega)).trans (h116 j h0 h1)
      have h149 : v126.toInt = 0 → (y_c f144 (8 * nn)).toInt = w6.toInt := (fun h9 => (congrArg (fun i => (y_c f144 i).toInt) (show 8 * nn = 8 * nn + 0 by omega)).trans ((congrArg Int32.toInt (h141.2 h9)).trans rfl))
      have h150 : (y_c f144 (8 * nn + 2)).toInt = (y_c f123 (8 * nn + 2)).toInt := (congrArg Int32.toInt (h141.1 _ (by omega) (by omega)))
      have h151 : (y_c f144 (8 * nn + 3)).toInt = (y_c f123 (8 * nn + 3)).toInt := (congrArg Int32.toInt (h141.1 _ (by omega) (by omega)))
      have h152 : (y_c f144 (8 * nn + 5)).toInt = (y_c f123 (8 * nn + 5)).toInt := (congrArg Int32.toInt (h141.1 _ (by omega) (by omega)))
      refine lv_iload_n hx hb dX7_lineTold_94 rfl (lv_at hl 1 rfl) ?_
      have h153 : 0 ≤ w6.toInt ∧ w6.toInt ≤ 15 := ⟨by omega, by omega⟩
      refine va_calli (va_runS (As := [.int w6]) (rest := []) ⟨hx, hb, hml, hown, hts⟩ (y_X7_hasRegister l dC dI H.size F139 w6 (⟨by omega, by omega⟩)) (cwS 1 hts (ax_gS T_1261 T_1263 T_265 T_1262) rfl rfl rfl (by decide +kernel) ⟨Nat.le_of_ble_eq_true rfl, Nat.le_of_ble_eq_true rfl⟩) ⟨fun a U g mk q => ⟨q.1, s_pc rfl rfl q.2⟩, fun U hU hW => ⟨rfl, s_pw hU hW hP hK hD hN⟩⟩ rfl rfl hl.1 rfl (lv_room (Nat.le_of_ble_eq_true rfl)) dX7_lineTold_95 ⟨Nat.zero_le _, Nat.zero_le _⟩) hS (fun q _ h => h) (fun q h => h) (fun r155 F156 t H1 locs ht hvm hw hB hz1 hk1 hS => ?_)
      obtain ⟨hP, hK1⟩ := hB
      rw [ht] at hP
      generalize H1 = H at hP hS ⊢
      obtain ⟨h157, h159, hG9, h158⟩ := hw
      rw [hG9] at hP
      refine lv_if_eq (tgt := 110) hx hb dX7_lineTold_98 (by decide) (fun c160 => ?_) (fun c160 => ?_)
      · have c160 := (ax_eq (n := 0) (by decide)).mp c160
        exact K110 _ _ _ ⟨F139, _, w6, rfl, lv_sub hl [0, 1] rfl, hP, hS, hI, hfr, (fun k hk => (y_fiZ oY143 (s_sub (by decide) hk)).trans (hz0 k hk)), trivial, (by rw [y_atE o145]; exact hn147), (by rw [y_atE o145]; exact hfr148), (by rw [y_atE o145, y_fiZ oY143 (k := 5) (by decide), ← ev126]; omega)⟩
      · have c160 := mt (ax_eq (n := 0) (by decide)).mpr c160
        have h161 := h159 (fun q => c160 (by rw [q]; decide))
        refine lv_aload_n hx hb dX7_lineTold_101 rfl (lv_at hl 0 rfl) ?_
        refine lv_iconst (v := 1) hx hb dX7_lineTold_102 (by decide) ?_
        refine lv_aload_n hx hb dX7_lineTold_103 rfl (lv_at hl 0 rfl) ?_
        have ep162_5 := ev126
        refine va_calli (va_runV (As := []) (rest := [.int 1, .ref a0]) ⟨hx, hb, hml, hown, hts⟩ (y_X7_registerTold l dC dI H.size hLK A hA F139 a0 ha0 hI) (cwV 0 hts (ax_gV T_1264 T_1266 T_1267 T_265 T_1265) rfl rfl rfl (by decide +kernel) ⟨Nat.le_of_ble_eq_true rfl, Nat.le_of_ble_eq_true rfl⟩) ⟨fun a U g mk q => ⟨q.1, s_pc rfl rfl q.2⟩, s_recv hK hP (hLK _ ha0 (by decide)) (ci := 7) rfl oY143, fun U hU hW => ⟨rfl, s_pw hU hW hP hK hD hN⟩⟩ rfl rfl hl.1 rfl (lv_room (Nat.le_of_ble_eq_true rfl)) dX7_lineTold_104 ⟨Nat.zero_le _, Nat.zero_le _⟩) hS (fun q _ h => h) (fun q h => h) (fun r163 F164 t H1 locs ht hvm hw hB hz1 hk1 hS => ?_)
        obtain ⟨hP, hK1⟩ := hB
        rw [ht] at hP
        generalize H1 = H at hP hS ⊢
        obtain ⟨h165, h167, hI, hfr1, hzf, h166⟩ := hw
        have o168 : F164 (A 12) = .inl (cs 0, 400, .inl f144) := (hfr1 _ (by rw [(y_k12 hA)]; decide)).trans o145
        obtain ⟨z169, q170, oY171, bz172⟩ := y_opY hI ha0
        have hzf : ∀ k, k ∈ ([1, 3, 7, 8, 11, 15, 16, 19, 25, 26, 27, 31, 32] : List Nat) → z169 k = z134 k := fun k hk => by have q9 := hzf k hk; rw [y_fiZ oY171 (s_sub (by decide) hk), y_fiZ oY143 (s_sub (by decide) hk)] at q9; exact q9
        have hz0 : ∀ k, k ∈ ([1, 3, 7, 8, 15, 16, 19, 25, 26, 27, 31, 32] : List Nat) → z169 k = z0 k := fun k hk => (hzf k (s_sub (by decide) hk)).trans (hz0 k hk)
        have hfr : ∀ b, K b ∉ [9, 62, 64] → F164 b = F b := fun b hb9 => (hfr1 b (fun q => hb9 (s_sub (by decide) q))).trans (hfr b hb9)
        obtain ⟨v173, ev173⟩ : ∃ y : Int32, y = z169 5 := ⟨_, rfl⟩
        have h166 : ((v126.toInt = 0 ∨ ¬ v173.toInt = 0) ∧ (v173.toInt = 0 → 0 ≤ r163.toInt ∧ r163.toInt ≤ 3)) := by have q9 := h166; rw [y_fiZ oY143 (k := 5) (by decide), ← ep162_5, y_fiZ oY171 (k := 5) (by decide), ← ev173] at q9; exact q9
        have ep174_5 := ev173
        refine va_callv (va_runV (As := [.int 1, .int r163]) (rest := []) ⟨hx, hb, hml, hown, hts⟩ (y_X7_lays l dC dI H.size hLK A hA F164 a0 1 r163 ha0 (by decide) hI) (cwV 2 hts (ax_gV T_1115 T_1117 T_1118 T_265 T_1116) rfl rfl rfl (by decide +kernel) ⟨Nat.le_of_ble_eq_true rfl, Nat.le_of_ble_eq_true rfl⟩) ⟨fun a U g mk q => ⟨q.1, s_pc rfl rfl q.2⟩, s_recv hK hP (hLK _ ha0 (by decide)) (ci := 7) rfl oY171, fun U hU hW => ⟨rfl, s_pw hU hW hP hK hD hN⟩⟩ rfl rfl hl.1 rfl (lv_room (Nat.le_of_ble_eq_true rfl)) dX7_lineTold_107 ⟨Nat.zero_le _, Nat.zero_le _⟩) hS (fun q _ h => h) (fun q h => h) (fun F175 t H1 locs ht hvm hw hB hz1 hk1 hS => ?_)
        obtain ⟨hP, hK1⟩ := hB
        rw [ht] at hP
        generalize H1 = H at hP hS ⊢
        obtain ⟨h176, h178, hI, hfr1, hzf, h177⟩ := hw
        have oY179 : F175 a0 = .inr (7, y_fl A z169 q170) := (hfr1 _ (by rw [ha0]; decide)).trans oY171
        have hfr : ∀ b, K b ∉ [9, 62, 64] → F175 b = F b := fun b hb9 => (hfr1 b (fun q => hb9 (s_sub (by decide) q))).trans (hfr b hb9)
        obtain ⟨f180, o181, b182⟩ := y_op12 hI
        have h177 : ((∀ j : Int, 0 ≤ j → j ≠ 8 * (y_c f144 387).toInt + 1 → y_c f180 j = y_c f144 j) ∧ (v173.toInt = 0 → y_c f180 (8 * (y_c f144 387).toInt + 1) = r163)) := by have q9 := h177; rw [y_atE o168, y_atE o181, y_fiZ oY171 (k := 5) (by decide), ← ep174_5] at q9; exact q9
        rw [hn147] at h177
        have hn183 : (y_c f180 387).toInt = nn := by rw [h177.1 387 (by omega) (by omega)]; exact hn147
        have hfr184 : ∀ j : Int, 0 ≤ j → (j < 8 * nn ∨ 8 * nn + 8 ≤ j) → y_c f180 j = y_c f1 j := fun j h0 h1 => (h177.1 j h0 (by omega)).trans (hfr148 j h0 h1)
        have h185 : (y_c f180 (8 * nn)).toInt = (y_c f144 (8 * nn)).toInt := (congrArg Int32.toInt (h177.1 _ (by omega) (by omega)))
        have h186 : (y_c f180 (8 * nn + 2)).toInt = (y_c f144 (8 * nn + 2)).toInt := (congrArg Int32.toInt (h177.1 _ (by omega) (by omega)))
        have h187 : (y_c f180 (8 * nn + 3)).toInt = (y_c f144 (8 * nn + 3)).toInt := (congrArg Int32.toInt (h177.1 _ (by omega) (by omega)))
        have h188 : (y_c f180 (8 * nn + 5)).toInt = (y_c f144 (8 * nn + 5)).toInt := (congrArg Int32.toInt (h177.1 _ (by omega) (by omega)))
        exact K110 _ _ _ ⟨F175, _, w6, rfl, lv_sub hl [0, 1] rfl, hP, hS, hI, hfr, (fun k hk => (y_fiZ oY179 (s_sub (by decide) hk)).trans (hz0 k hk)), trivial, (by rw [y_atE o181]; exact hn183), (by rw [y_atE o181]; exact hfr184), (by rw [y_atE o181, y_fiZ oY179 (k := 5) (by decide), ← ev173]; omega)⟩
    · have c127 := mt (ax_eq (n := 0) (by decide)).mpr c127
      exact W.vret hx hb hr (fun t ht hW => ⟨⟨F118, rfl, ⟨trivial, trivial, hI, hfr, fun k hk => (y_fiZ oY121 (s_sub (by decide) hk)).trans ((hz0 k hk).trans (y_fiZ oY0 (s_sub (by decide) hk)).symm), (by rw [y_fiZ oY0 (k := 5) (by decide), ← eF_5, y_fiZ oY121 (k := 5) (by decide), ← ev126, y_atE o2, y_atE o124]; rw [← hnn]; exact ⟨by omega, (fun j h0 h1 => h116 j h0 (by omega)), (fun j h0 h1 => h116 j (by omega) (by omega)), fun q => absurd q (by omega)⟩)⟩, by rw [ht]; exact hP, va_K.moved hW.alike hK⟩, hS.F ht⟩) hS.2.2 dX7_lineTold_83
  · intro g H locs hq
    obtain ⟨F193, ls, w5, rfl, hl, hP, hS, hI, hfr, hz0, h189, h190, h191, h192⟩ := hq
    obtain ⟨z194, q195, oY196, bz197⟩ := y_opY hI ha0
    have hz0 : ∀ k, k ∈ ([1, 3, 7, 8, 15, 16, 19, 25, 26, 27, 31, 32] : List Nat) → z194 k = z0 k := fun k hk => (y_fiZ oY196 (s_sub (by decide) hk)).symm.trans (hz0 k hk)
    obtain ⟨f198, o199, b200⟩ := y_op12 hI
    have h190 : (y_c f198 387).toInt = nn := by have q9 := h190; rw [y_atE o199] at q9; exact q9
    have h191 : (∀ j : Int, 0 ≤ j → (j < 8 * nn ∨ 8 * nn + 8 ≤ j) → y_c f198 j = y_c f1 j) := by have q9 := h191; rw [y_atE o199] at q9; exact q9
    obtain ⟨v201, ev201⟩ : ∃ y : Int32, y = z194 5 := ⟨_, rfl⟩
    have h192 : ((v4.toInt = 0 ∧ 0 ≤ w5.toInt ∧ w5.toInt ≤ 15) ∧ (y_c f198 (8 * nn + 5)).toInt = -1000000 ∧ (v201.toInt = 0 → (y_c f198 (8 * nn)).toInt = w5.toInt)) := by have q9 := h192; rw [y_atE o199, y_fiZ oY196 (k := 5) (by decide), ← ev201] at q9; exact q9
    refine lv_iconst (v := 0) hx hb dX7_lineTold_110 (by decide) ?_
    refine lv_istore_n (lv' := [(3, .int 0), (0, .ref a0), (2, .int w5)]) hx hb dX7_lineTold_111 rfl hl (by decide) rfl (fun ls hl => ?_)
    have h203 : (0 : Int32).toInt = 0 := by decide
    refine th_loop (fun n g H locs => ∃ (G : Nat → va_E) (ls : Array Slot) (w202 : Int32), g = F0 m 112 ls [] ∧ lv_has ls 4 [(0, .ref a0), (2, .int w5), (3, .int w202)] ∧ va_P (dC, dI) vwCl (va_pl L G) H ∧ va_S (fun q => q ∈ L) s.heap H locs ∧ y_I K cs A G ∧ (∀ b, K b ∉ [9, 62, 64] → G b = F b) ∧ (∀ k, k ∈ ([1, 3, 7, 8, 15, 16, 19, 25, 26, 27, 31, 32] : List Nat) → y_fi G a0 k = z0 k) ∧ (0 ≤ w202.toInt ∧ w202.toInt ≤ 2) ∧ (y_c (y_at G (A 12)) 387).toInt = nn ∧ (∀ j : Int, 0 ≤ j → (j < 8 * nn ∨ 8 * nn + 8 ≤ j) → y_c (y_at G (A 12)) j = y_c f1 j) ∧ ((v4.toInt = 0 ∧ 0 ≤ w5.toInt ∧ w5.toInt ≤ 15) ∧ (y_c (y_at G (A 12)) (8 * nn + 5)).toInt = -1000000 ∧ ((y_fi G a0 5).toInt = 0 → (y_c (y_at G (A 12)) (8 * nn)).toInt = w5.toInt ∧ (w202.toInt = 0 ∨ -4 ≤ (y_c (y_at G (A 12)) (8 * nn + 2)).toInt) ∧ (w202.toInt ≤ 1 ∨ -4 ≤ (y_c (y_at G (A 12)) (8 * nn + 3)).toInt))) ∧ n = (3 - w202.toInt).toNat) _ ⟨F193, _, 0, rfl, lv_sub hl [1, 2, 0] rfl, hP, hS, hI, hfr, (fun k hk => (y_fiZ oY196 (s_sub (by decide) hk)).trans (hz0 k hk)), (by decide), (by rw [y_atE o199]; exact h190), (by rw [y_atE o199]; exact h191), (by rw [y_atE o199, y_fiZ oY196 (k := 5) (by decide), ← ev201]; omega), rfl⟩ (fun n ih112 g H locs hq => ?_)
    obtain ⟨F208, ls, w202, rfl, hl, hP, hS, hI, hfr, hz0, h204, h205, h206, h207, hn⟩ := hq
    obtain ⟨z209, q210, oY211, bz212⟩ := y_opY hI ha0
    have hz0 : ∀ k, k ∈ ([1, 3, 7, 8, 15, 16, 19, 25, 26, 27, 31, 32] : List Nat) → z209 k = z0 k := fun k hk => (y_fiZ oY211 (s_sub (by decide) hk)).symm.trans (hz0 k hk)
    obtain ⟨f213, o214, b215⟩ := y_op12 hI
    have h205 : (y_c f213 387).toInt = nn := by have q9 := h205; rw [y_atE o214] at q9; exact q9
    have h206 : (∀ j : Int, 0 ≤ j → (j < 8 * nn ∨ 8 * nn + 8 ≤ j) → y_c f213 j = y_c f1 j) := by have q9 := h206; rw [y_atE o214] at q9; exact q9
    obtain ⟨v216, ev216⟩ : ∃ y : Int32, y = z209 5 := ⟨_, rfl⟩
    have h207 : ((v4.toInt = 0 ∧ 0 ≤ w5.toInt ∧ w5.toInt ≤ 15) ∧ (y_c f213 (8 * nn + 5)).toInt = -1000000 ∧ (v216.toInt = 0 → (y_c f213 (8 * nn)).toInt = w5.toInt ∧ (w202.toInt = 0 ∨ -4 ≤ (y_c f213 (8 * nn + 2)).toInt) ∧ (w202.toInt ≤ 1 ∨ -4 ≤ (y_c f213 (8 * nn + 3)).toInt))) := by have q9 := h207; rw [y_atE o214, y_fiZ oY211 (k := 5) (by decide), ← ev216] at q9; exact q9
    have hn_216 := hn
    refine lv_iload_n hx hb dX7_lineTold_112 rfl (lv_at hl 2 rfl) ?_
    refine lv_iload_n hx hb dX7_lineTold_113 rfl (lv_at hl 1 rfl) ?_
    have h217 : 0 ≤ w5.toInt ∧ w5.toInt ≤ 15 := ⟨by omega, by omega⟩
    refine va_calli (va_runS (As := [.int w5]) (rest := [.int w202]) ⟨hx, hb, hml, hown, hts⟩ (y_X7_partsOf l dC dI H.size F208 w5 (⟨by omega, by omega⟩)) (cwS 1 hts (ax_gS T_1197 T_1199 T_265 T_1198) rfl rfl rfl (by decide +kernel) ⟨Nat.le_of_ble_eq_true rfl, Nat.le_of_ble_eq_true rfl⟩) ⟨fun a U g mk q => ⟨q.1, s_pc rfl rfl q.2⟩, fun U hU hW => ⟨rfl, s_pw hU hW hP hK hD hN⟩⟩ rfl rfl hl.1 rfl (lv_room (Nat.le_of_ble_eq_true rfl)) dX7_lineTold_114 ⟨Nat.zero_le _, Nat.zero_le _⟩) hS (fun q _ h => h) (fun q h => h) (fun r219 F220 t H1 locs ht hvm hw hB hz1 hk1 hS => ?_)
    obtain ⟨hP, hK1⟩ := hB
    rw [ht] at hP
    generalize H1 = H at hP hS ⊢
    obtain ⟨h221, h223, hG9, h222⟩ := hw
    rw [hG9] at hP
    have h222 : ((r219.toInt = 0 ∧ (w5.toInt = 5 ∨ w5.toInt = 6 ∨ 12 ≤ w5.toInt)) ∨ (r219.toInt = 1 ∧ (w5.toInt = 0 ∨ w5.toInt = 7 ∨ w5.toInt = 9 ∨ w5.toInt = 11)) ∨ (r219.toInt = 2 ∧ ((1 ≤ w5.toInt ∧ w5.toInt ≤ 4) ∨ w5.toInt = 8 ∨ w5.toInt = 10))) := by have q9 := h222; exact q9
    refine lv_icmp_ge (tgt := 137) hx hb dX7_lineTold_117 (by decide) (fun c224 => ?_) (fun c224 => ?_)
    · have c224 := Int32.le_iff_toInt_le.mp c224
      refine lv_iload_n hx hb dX7_lineTold_137 rfl (lv_at hl 1 rfl) ?_
      refine lv_bipush (v := 12) hx hb dX7_lineTold_138 (by decide) ?_
      refine lv_icmp_ne (tgt := 147) hx hb dX7_lineTold_140 (by decide) (fun c225 => ?_) (fun c225 => ?_)
      · have c225 := mt (ax_eq (n := 12) (by decide)).mpr c225
        exact K147 _ _ _ ⟨F208, _, rfl, lv_sub hl [0] rfl, hP, hS, hI, hfr, (fun k hk => (y_fiZ oY211 (s_sub (by decide) hk)).trans (hz0 k hk)), (by rw [y_atE o214]; exact h205), (by rw [y_atE o214]; exact h206), (by rw [y_fiZ oY211 (k := 5) (by decide), ← ev216, y_atE o214]; omega), (by omega)⟩
      · have c225 := (ax_eq (n := 12) (by decide)).mp c225
        refine lv_aload_n hx hb dX7_lineTold_143 rfl (lv_at hl 0 rfl) ?_
        have ep226_5 := ev216
        refine va_callv (va_runV (As := []) (rest := []) ⟨hx, hb, hml, hown, hts⟩ (y_X7_goTold l dC dI H.size hLK A hA F208 a0 ha0 hI (by rw [y_atE o214]; rw [h205]; exact ⟨by omega, by omega⟩)) (cwV 0 hts (ax_gV T_1268 T_1270 T_1271 T_265 T_1269) rfl rfl rfl (by decide +kernel) ⟨Nat.le_of_ble_eq_true rfl, Nat.le_of_ble_eq_true rfl⟩) ⟨fun a U g mk q => ⟨q.1, s_pc rfl rfl q.2⟩, s_recv hK hP (hLK _ ha0 (by decide)) (ci := 7) rfl oY211, fun U hU hW => ⟨rfl, s_pw hU hW hP hK hD hN⟩⟩ rfl rfl hl.1 rfl (lv_room (Nat.le_of_ble_eq_true rfl)) dX7_lineTold_144 ⟨Nat.zero_le _, Nat.zero_le _⟩) hS (fun q _ h => h) (fun q h => h) (fun F227 t H1 locs ht hvm hw hB hz1 hk1 hS => ?_)
        obtain ⟨hP, hK1⟩ := hB
        rw [ht] at hP
        generalize H1 = H at hP hS ⊢
        obtain ⟨h228, h230, hI, hfr1, hzf, h229⟩ := hw
        obtain ⟨z231, q232, oY233, bz234⟩ := y_opY hI ha0
        have hzf : ∀ k, k ∈ ([1, 3, 7, 8, 15, 16, 19, 25, 26, 27, 31, 32] : List Nat) → z231 k = z209 k := fun k hk => by have q9 := hzf k hk; rw [y_fiZ oY233 (s_sub (by decide) hk), y_fiZ oY211 (s_sub (by decide) hk)] at q9; exact q9
        have hz0 : ∀ k, k ∈ ([1, 3, 7, 8, 15, 16, 19, 25, 26, 27, 31, 32] : List Nat) → z231 k = z0 k := fun k hk => (hzf k (s_sub (by decide) hk)).trans (hz0 k hk)
        have hfr : ∀ b, K b ∉ [9, 62, 64] → F227 b = F b := fun b hb9 => (hfr1 b (fun q => hb9 (s_sub (by decide) q))).trans (hfr b hb9)
        obtain ⟨v235, ev235⟩ : ∃ y : Int32, y = z231 5 := ⟨_, rfl⟩
        obtain ⟨f236, o237, b238⟩ := y_op12 hI
        have h229 : ((v216.toInt = 0 ∨ ¬ v235.toInt = 0) ∧ (∀ j : Int, 0 ≤ j → (j < 8 * (y_c f213 387).toInt ∨ 8 * (y_c f213 387).toInt + 8 ≤ j) → y_c f236 j = y_c f213 j) ∧ (y_c f236 (8 * (y_c f213 387).toInt)).toInt = (y_c f213 (8 * (y_c f213 387).toInt)).toInt ∧ (v235.toInt = 0 → (y_c f236 (8 * (y_c f213 387).toInt + 5)).toInt = -1000000 ∨ (-4 ≤ (y_c f236 (8 * (y_c f213 387).toInt + 2)).toInt ∧ -4 ≤ (y_c f236 (8 * (y_c f213 387).toInt + 3)).toInt))) := by have q9 := h229; rw [y_fiZ oY211 (k := 5) (by decide), ← ep226_5, y_fiZ oY233 (k := 5) (by decide), ← ev235, y_atE o214, y_atE o237] at q9; exact q9
        rw [h205] at h229
        obtain ⟨hg1, hg2, hg3, hg4⟩ := h229
        have hn239 : (y_c f236 387).toInt = nn := by rw [hg2 387 (by omega) (by omega)]; exact h205
        have hfr240 : ∀ j : Int, 0 ≤ j → (j < 8 * nn ∨ 8 * nn + 8 ≤ j) → y_c f236 j = y_c f1 j := fun j h0 h1 => (hg2 j h0 h1).trans (h206 j h0 h1)
        exact K147 _ _ _ ⟨F227, _, rfl, lv_sub hl [0] rfl, hP, hS, hI, hfr, (fun k hk => (y_fiZ oY233 (s_sub (by decide) hk)).trans (hz0 k hk)), (by rw [y_atE o237]; exact hn239), (by rw [y_atE o237]; exact hfr240), (by rw [y_fiZ oY233 (k := 5) (by decide), ← ev235, y_atE o237]; omega), (by omega)⟩
    · have c224 := mt Int32.le_iff_toInt_le.mpr c224
      refine lv_aload_n hx hb dX7_lineTold_120 rfl (lv_at hl 0 rfl) ?_
      refine lv_iconst (v := 2) hx hb dX7_lineTold_121 (by decide) ?_
      refine lv_iload_n hx hb dX7_lineTold_122 rfl (lv_at hl 2 rfl) ?_
      refine lv_iadd hx hb dX7_lineTold_123 ?_
      refine lv_topi (fun v241 ev241 => ?_)
      have qv241 : v241.toInt = 2 + w202.toInt := by rw [ev241]; exact th_add (by decide) rfl ⟨by omega, by omega⟩
      refine lv_aload_n hx hb dX7_lineTold_124 rfl (lv_at hl 0 rfl) ?_
      have ep242_5 := ev216
      refine va_calli (va_runV (As := []) (rest := [.int v241, .ref a0]) ⟨hx, hb, hml, hown, hts⟩ (y_X7_partTold l dC dI H.size hLK A hA F208 a0 ha0 hI) (cwV 0 hts (ax_gV T_1119 T_1121 T_1122 T_265 T_1120) rfl rfl rfl (by decide +kernel) ⟨Nat.le_of_ble_eq_true rfl, Nat.le_of_ble_eq_true rfl⟩) ⟨fun a U g mk q => ⟨q.1, s_pc rfl rfl q.2⟩, s_recv hK hP (hLK _ ha0 (by decide)) (ci := 7) rfl oY211, fun U hU hW => ⟨rfl, s_pw hU hW hP hK hD hN⟩⟩ rfl rfl hl.1 rfl (lv_room (Nat.le_of_ble_eq_true rfl)) dX7_lineTold_125 ⟨Nat.zero_le _, Nat.zero_le _⟩) hS (fun q _ h => h) (fun q h => h) (fun r243 F244 t H1 locs ht hvm hw hB hz1 hk1 hS => ?_)
      obtain ⟨hP, hK1⟩ := hB
      rw [ht] at hP
      generalize H1 = H at hP hS ⊢
      obtain ⟨h245, h247, hI, hfr1, hzf, h246⟩ := hw
      have o248 : F244 (A 12) = .inl (cs 0, 400, .inl f213) := (hfr1 _ (by rw [(y_k12 hA)]; decide)).trans o214
      obtain ⟨z249, q250, oY251, bz252⟩ := y_opY hI ha0
      have hzf : ∀ k, k ∈ ([1, 3, 7, 8, 11, 15, 16, 19, 25, 26, 27, 31, 32] : List Nat) → z249 k = z209 k := fun k hk => by have q9 := hzf k hk; rw [y_fiZ oY251 (s_sub (by decide) hk), y_fiZ oY211 (s_sub (by decide) hk)] at q9; exact q9
      have hz0 : ∀ k, k ∈ ([1, 3, 7, 8, 15, 16, 19, 25, 26, 27, 31, 32] : List Nat) → z249 k = z0 k := fun k hk => (hzf k (s_sub (by decide) hk)).trans (hz0 k hk)
      have hfr : ∀ b, K b ∉ [9, 62, 64] → F244 b = F b := fun b hb9 => (hfr1 b (fun q => hb9 (s_sub (by decide) q))).trans (hfr b hb9)
      obtain ⟨v253, ev253⟩ : ∃ y : Int32, y = z249 5 := ⟨_, rfl⟩
      have h246 : ((v216.toInt = 0 ∨ ¬ v253.toInt = 0) ∧ (v253.toInt = 0 → -4 ≤ r243.toInt ∧ r243.toInt ≤ 999)) := by have q9 := h246; rw [y_fiZ oY211 (k := 5) (by decide), ← ep242_5, y_fiZ oY251 (k := 5) (by decide), ← ev253] at q9; exact q9
      have ep254_5 := ev253
      refine va_callv (va_runV (As := [.int v241, .int r243]) (rest := []) ⟨hx, hb, hml, hown, hts⟩ (y_X7_lays l dC dI H.size hLK A hA F244 a0 v241 r243 ha0 (⟨by omega, by omega⟩) hI) (cwV 2 hts (ax_gV T_1115 T_1117 T_1118 T_265 T_1116) rfl rfl rfl (by decide +kernel) ⟨Nat.le_of_ble_eq_true rfl, Nat.le_of_ble_eq_true rfl⟩) ⟨fun a U g mk q => ⟨q.1, s_pc rfl rfl q.2⟩, s_recv hK hP (hLK _ ha0 (by decide)) (ci := 7) rfl oY251, fun U hU hW => ⟨rfl, s_pw hU hW hP hK hD hN⟩⟩ rfl rfl hl.1 rfl (lv_room (Nat.le_of_ble_eq_true rfl)) dX7_lineTold_128 ⟨Nat.zero_le _, Nat.zero_le _⟩) hS (fun q _ h => h) (fun q h => h) (fun F255 t H1 locs ht hvm hw hB hz1 hk1 hS => ?_)
      obtain ⟨hP, hK1⟩ := hB
      rw [ht] at hP
      generalize H1 = H at hP hS ⊢
      obtain ⟨h256, h258, hI, hfr1, hzf, h257⟩ := hw
      have oY259 : F255 a0 = .inr (7, y_fl A z249 q250) := (hfr1 _ (by rw [ha0]; decide)).trans oY251
      have hfr : ∀ b, K b ∉ [9, 62, 64] → F255 b = F b := fun b hb9 => (hfr1 b (fun q => hb9 (s_sub (by decide) q))).trans (hfr b hb9)
      obtain ⟨f260, o261, b262⟩ := y_op12 hI
      have h257 : ((∀ j : Int, 0 ≤ j → j ≠ 8 * (y_c f213 387).toInt + v241.toInt → y_c f260 j = y_c f213 j) ∧ (v253.toInt = 0 → y_c f260 (8 * (y_c f213 387).toInt + v241.toInt) = r243)) := by have q9 := h257; rw [y_atE o248, y_atE o261, y_fiZ oY251 (k := 5) (by decide), ← ep254_5] at q9; exact q9
      rw [h205] at h257
      have hn263 : (y_c f260 387).toInt = nn := by rw [h257.1 387 (by omega) (by omega)]; exact h205
      have hfr264 : ∀ j : Int, 0 ≤ j → (j < 8 * nn ∨ 8 * nn + 8 ≤ j) → y_c f260 j = y_c f1 j := fun j h0 h1 => (h257.1 j h0 (by omega)).trans (h206 j h0 h1)
      have h265 : v241.toInt = 0 → v253.toInt = 0 → (y_c f260 (8 * nn)).toInt = r243.toInt := fun h8 => (fun h9 => (congrArg (fun i => (y_c f260 i).toInt) (show 8 * nn = 8 * nn + v241.toInt by omega)).trans ((congrArg Int32.toInt (h257.2 h9)).trans rfl))
      have h266 : v241.toInt ≠ 0 → (y_c f260 (8 * nn)).toInt = (y_c f213 (8 * nn)).toInt := fun h8 => (congrArg Int32.toInt (h257.1 _ (by omega) (by omega)))
      have h267 : v241.toInt = 2 → v253.toInt = 0 → (y_c f260 (8 * nn + 2)).toInt = r243.toInt := fun h8 => (fun h9 => (congrArg (fun i => (y_c f260 i).toInt) (show 8 * nn + 2 = 8 * nn + v241.toInt by omega)).trans ((congrArg Int32.toInt (h257.2 h9)).trans rfl))
      have h268 : v241.toInt ≠ 2 → (y_c f260 (8 * nn + 2)).toInt = (y_c f213 (8 * nn + 2)).toInt := fun h8 => (congrArg Int32.toInt (h257.1 _ (by omega) (by omega)))
      have h269 : v241.toInt = 3 → v253.toInt = 0 → (y_c f260 (8 * nn + 3)).toInt = r243.toInt := fun h8 => (fun h9 => (congrArg (fun i => (y_c f260 i).toInt) (show 8 * nn + 3 = 8 * nn + v241.toInt by omega)).trans ((congrArg Int32.toInt (h257.2 h9)).trans rfl))
      have h270 : v241.toInt ≠ 3 → (y_c f260 (8 * nn + 3)).toInt = (y_c f213 (8 * nn + 3)).toInt := fun h8 => (congrArg Int32.toInt (h257.1 _ (by omega) (by omega)))
      have h271 : v241.toInt = 5 → v253.toInt = 0 → (y_c f260 (8 * nn + 5)).toInt = r243.toInt := fun h8 => (fun h9 => (congrArg (fun i => (y_c f260 i).toInt) (show 8 * nn + 5 = 8 * nn + v241.toInt by omega)).trans ((congrArg Int32.toInt (h257.2 h9)).trans rfl))
      have h272 : v241.toInt ≠ 5 → (y_c f260 (8 * nn + 5)).toInt = (y_c f213 (8 * nn + 5)).toInt := fun h8 => (congrArg Int32.toInt (h257.1 _ (by omega) (by omega)))
      obtain ⟨v273, ev273⟩ : ∃ y : Int32, w202 + 1 = y := ⟨_, rfl⟩
      have qv273 : v273.toInt = w202.toInt + 1 := by rw [← ev273]; exact th_add rfl (by decide) ⟨by omega, by omega⟩
      refine lv_iinc (v := v273) (lv' := [(3, .int v273), (0, .ref a0), (2, .int w5)]) hx hb dX7_lineTold_131 hl (k := 2) rfl ev273 (by decide) rfl (fun ls hl => ?_)
      refine lv_goto (tgt := 112) hx hb dX7_lineTold_134 (by decide) ?_
      exact ih112 _ _ _ _ (by omega) ⟨F255, _, v273, rfl, lv_sub hl [1, 2, 0] rfl, hP, hS, hI, hfr, (fun k hk => (y_fiZ oY259 (s_sub (by decide) hk)).trans (hz0 k hk)), ⟨by omega, by omega⟩, (by rw [y_atE o261]; exact hn263), (by rw [y_atE o261]; exact hfr264), (by rw [y_atE o261, y_fiZ oY259 (k := 5) (by decide), ← ev253]; omega), rfl⟩
  · intro g H locs hq
    obtain ⟨F278, ls, rfl, hl, hP, hS, hI, hfr, hz0, h274, h275, h276, h277⟩ := hq
    obtain ⟨z279, q280, oY281, bz282⟩ := y_opY hI ha0
    have hz0 : ∀ k, k ∈ ([1, 3, 7, 8, 15, 16, 19, 25, 26, 27, 31, 32] : List Nat) → z279 k = z0 k := fun k hk => (y_fiZ oY281 (s_sub (by decide) hk)).symm.trans (hz0 k hk)
    obtain ⟨f283, o284, b285⟩ := y_op12 hI
    have h274 : (y_c f283 387).toInt = nn := by have q9 := h274; rw [y_atE o284] at q9; exact q9
    have h275 : (∀ j : Int, 0 ≤ j → (j < 8 * nn ∨ 8 * nn + 8 ≤ j) → y_c f283 j = y_c f1 j) := by have q9 := h275; rw [y_atE o284] at q9; exact q9
    obtain ⟨v286, ev286⟩ : ∃ y : Int32, y = z279 5 := ⟨_, rfl⟩
    have h276 : (v286.toInt = 0 → (0 ≤ (y_c f283 (8 * nn)).toInt ∧ (y_c f283 (8 * nn)).toInt ≤ 15) ∧ (((y_c f283 (8 * nn)).toInt = 5 ∨ (y_c f283 (8 * nn)).toInt = 6 ∨ 12 ≤ (y_c f283 (8 * nn)).toInt) ∨ -4 ≤ (y_c f283 (8 * nn + 2)).toInt) ∧ (((y_c f283 (8 * nn)).toInt = 5 ∨ (y_c f283 (8 * nn)).toInt = 6 ∨ 12 ≤ (y_c f283 (8 * nn)).toInt ∨ (y_c f283 (8 * nn)).toInt = 0 ∨ (y_c f283 (8 * nn)).toInt = 7 ∨ (y_c f283 (8 * nn)).toInt = 9 ∨ (y_c f283 (8 * nn)).toInt = 11) ∨ -4 ≤ (y_c f283 (8 * nn + 3)).toInt) ∧ ((y_c f283 (8 * nn)).toInt ≠ 12 ∨ (y_c f283 (8 * nn + 5)).toInt = -1000000 ∨ (-4 ≤ (y_c f283 (8 * nn + 2)).toInt ∧ -4 ≤ (y_c f283 (8 * nn + 3)).toInt))) := by have q9 := h276; rw [y_fiZ oY281 (k := 5) (by decide), ← ev286, y_atE o284] at q9; exact q9
    refine lv_aload_n hx hb dX7_lineTold_147 rfl (lv_at hl 0 rfl) ?_
    refine th_get (D := (dC, dI)) (ci := 7) (v := .ref (A 12)) (C := RX7) (T := TX7) (N := 34) hx hb hts inX7 hown hK hP (hLK _ ha0 (by decide)) oY281 rfl 12 (by decide) (hts _ T_245) (fun _ h9 => h9) rfl dX7_lineTold_148 ?_
    refine lv_sipush (v := 387) hx hb dX7_lineTold_151 (by decide) ?_
    refine lv_dup2_11 hx hb dX7_lineTold_154 rfl rfl ?_
    refine th_iald hx hb hK hP (hLK _ (y_k12 hA) (by decide)) 0 o284 rfl (ax_in (by decide)) dX7_lineTold_155 ?_
    refine lv_topi (fun v287 ev287 => ?_)
    have qv287 : 0 ≤ v287.toInt ∧ v287.toInt ≤ 40 := by rw [ev287]; exact b285
    have h288 : 0 ≤ v287.toInt ∧ v287.toInt ≤ 39 := ⟨by omega, by have q9 : v287 = (y_c f283 387) := ev287; rw [q9]; have q8 := h274; omega⟩
    have h289 : v287.toInt = nn := by rw [show v287 = y_c f283 387 from ev287]; exact h274
    refine lv_iconst (v := 1) hx hb dX7_lineTold_156 (by decide) ?_
    refine lv_iadd hx hb dX7_lineTold_157 ?_
    refine lv_topi (fun v290 ev290 => ?_)
    have qv290 : v290.toInt = v287.toInt + 1 := by rw [ev290]; exact th_add rfl (by decide) ⟨by omega, by omega⟩
    refine th_iast hx hb hK hP hD hS (hLK _ (y_k12 hA) (by decide)) 0 o284 rfl (ax_in (by decide)) dX7_lineTold_158 (fun H locs hP hS => ?_)
    obtain ⟨f291, u292⟩ : ∃ g : Nat → Int32, g = upd f283 (387 : Int32).toNatClampNeg v290 := ⟨_, rfl⟩
    rw [← u292] at hP
    have b293 : y_bd 12 f291 := by rw [u292]; exact th_updJ (P := fun y => 0 ≤ y.toInt ∧ y.toInt ≤ 40) b285 (fun q => ⟨by omega, by omega⟩)
    have hP : va_P (dC, dI) vwCl (va_pl L (va_up F278 (A 12) (.inl (cs 0, 400, .inl f291)))) H := hP
    obtain ⟨F294, hF295⟩ : ∃ G : Nat → va_E, G = va_up F278 (A 12) (.inl (cs 0, 400, .inl f291)) := ⟨_, rfl⟩
    rw [← hF295] at hP
    have hI : y_I K cs A F294 := by rw [hF295]; exact y_clA (i := 12) hA hI (by decide) b293
    have hfr : ∀ b, K b ∉ [9, 62, 64] → F294 b = F b := by rw [hF295]; exact s_fr hfr (y_k12 hA) (by decide)
    have oY296 : F294 a0 = .inr (7, y_fl A z279 q280) := by rw [hF295]; exact th_ne (th_kd ha0 (y_k12 hA) (by decide)) oY281
    have o297 : F294 (A 12) = .inl (cs 0, 400, .inl f291) := by rw [hF295]; exact th_up
    have u298 : ∀ j : Int, 0 ≤ j → y_c f291 j = if j = 387 then v290 else y_c f283 j := by rw [u292]; exact y_cu (by decide) (by decide)
    exact W.vret hx hb hr (fun t ht hW => ⟨⟨F294, rfl, ⟨trivial, trivial, hI, hfr, fun k hk => (y_fiZ oY296 (s_sub (by decide) hk)).trans ((hz0 k hk).trans (y_fiZ oY0 (s_sub (by decide) hk)).symm), (by rw [y_fiZ oY0 (k := 5) (by decide), ← eF_5, y_fiZ oY296 (k := 5) (by decide), ← ev286, y_atE o2, y_atE o297]; rw [← hnn]; exact ⟨by omega, (fun j h0 h1 => by rw [u298 j h0, if_neg (by omega)]; exact h275 j h0 (by omega)), (fun j h0 h1 => by rw [u298 j (by omega), if_neg h1]; exact h275 j (by omega) (by omega)), fun q => ⟨by rw [u298 387 (by omega), if_pos rfl]; omega, y_rgC ⟨by rw [u298 _ (by omega), if_neg (by omega)], by rw [u298 _ (by omega), if_neg (by omega)], by rw [u298 _ (by omega), if_neg (by omega)], by rw [u298 _ (by omega), if_neg (by omega)]⟩ (by unfold y_rg; exact ⟨by omega, by omega, by omega, by omega⟩)⟩⟩)⟩, by rw [ht]; exact hP, va_K.moved hW.alike hK⟩, hS.F ht⟩) hS.2.2 dX7_lineTold_159

set_option maxHeartbeats 4000000 in
set_option maxRecDepth 100000 in
theorem y_X7_isNamed (l : Launch) (dC : Nat → ClassId) (dI : Nat → Nat → Nat) (sz : Nat) {L : List Nat} {K : Nat → Nat} {cs : Nat → ClassId} (hLK : ∀ a {k : Nat}, K a = k → k ≠ 0 → a ∈ L) (A : Nat → Nat) (hA : y_A K A) (F : Nat → va_E) (a0 : Nat) (x1 : Int32) (ha0 : K a0 = 9) (hI : y_I K cs A F) : Met l yX7_isNamed (Cond.code yX7_isNamed cX7_isNamed 3 (some .boolean) :: T0) ({ frames := 1, cells := 0, slots := 0, locals := 21 }) (va_Pc [.ref a0, .int x1] (s_W dC dI sz L F [(cs 0, .int), (cs 1, .byte), (cs 2, .long), (cs 3, .object RX5), (cs 4, .object RX4), (cs 5, .array .int), (cs 6, .char), (cs 7, .boolean)])) (va_Qi (fun (r : Int32) (G : Nat → va_E) => (0 ≤ r.toInt ∧ r.toInt ≤ 1) ∧ True ∧ y_I K cs A G ∧ (∀ b, K b ∉ ([] : List Nat) → G b = F b) ∧ (∀ k, k ∈ ([1, 2, 3, 4, 5, 6, 7, 8, 11, 15, 16, 19, 25, 26, 27, 31, 32] : List Nat) → y_fi G a0 k = y_fi F a0 k) ∧ True) (fun (G : Nat → va_E) (t : State) => va_P (dC, dI) vwCl (va_pl L G) t.heap ∧ va_K (dC, dI) vwCl [(cs 0, .int), (cs 1, .byte), (cs 2, .long), (cs 3, .object RX5), (cs 4, .object RX4), (cs 5, .array .int), (cs 6, .char), (cs 7, .boolean)] t) (fun q => q ∈ L)) 0 0 (fun q => q ∈ L) := by
  refine Met.ofW (cc := cX7_isNamed) (maxL := 3) (ret := (some .boolean)) (by decide) rfl ?_
  intro p e s m args below meth c s₁ B hml hv
  obtain ⟨rfl, hsz, hP, hK, hD, hN⟩ := hv
  have hx := B.exec
  have hb := B.bytes
  have hr := B.returns
  have hts : ∀ w ∈ T0, w.before _ s = true := fun w h => atoms_spec (ws := Cond.code yX7_isNamed cX7_isNamed 3 (some .boolean) :: T0) B.pre w (List.mem_cons_of_mem _ h)
  have hown : s.vm.findClass RX7 = some m.cls := findClass_of_methodNamed B.named
  have hlocks := B.notSynchronized
  have hS : va_S (fun q => q ∈ L) s.heap s.heap [] := va_S.rf
  have hfr : ∀ b, K b ∉ ([] : List Nat) → F b = F b := fun _ _ => rfl
  have hl := lv_entry ([.ref a0, .int x1]) (n := 3) (Nat.le_of_ble_eq_true rfl)
  rw [lg_entry_eq]
  generalize (lg_sl ([.ref a0, .int x1]) ++ List.replicate (3 - (lg_sl ([.ref a0, .int x1])).length) Slot.unset).toArray = ls at hl ⊢
  have hl : lv_has ls 3 [(0, .ref a0), (1, .int x1)] := hl
  refine s_gen hP hS (fun H locs hP hS => ?_)
  obtain ⟨z0, q0, oY0, bz0⟩ := y_opY hI ha0
  have hz0 : ∀ k, k ∈ ([1, 2, 3, 4, 5, 6, 7, 8, 11, 15, 16, 19, 25, 26, 27, 31, 32] : List Nat) → z0 k = z0 k := fun _ _ => rfl
  refine lv_iconst (v := 0) hx hb dX7_isNamed_0 (by decide) ?_
  refine lv_istore_n (lv' := [(2, .int 0), (0, .ref a0), (1, .int x1)]) hx hb dX7_isNamed_1 rfl hl (by decide) rfl (fun ls hl => ?_)
  have h2 : (0 : Int32).toInt = 0 := by decide
  refine th_loop (fun n g H locs => ∃ (G : Nat → va_E) (ls : Array Slot) (w1 : Int32), g = F0 m 2 ls [] ∧ lv_has ls 3 [(0, .ref a0), (1, .int x1), (2, .int w1)] ∧ va_P (dC, dI) vwCl (va_pl L G) H ∧ va_S (fun q => q ∈ L) s.heap H locs ∧ y_I K cs A G ∧ (∀ b, K b ∉ ([] : List Nat) → G b = F b) ∧ (∀ k, k ∈ ([1, 2, 3, 4, 5, 6, 7, 8, 11, 15, 16, 19, 25, 26, 27, 31, 32] : List Nat) → y_fi G a0 k = z0 k) ∧ (0 ≤ w1.toInt ∧ w1.toInt ≤ 40) ∧ n = (41 - w1.toInt).toNat) _ ⟨F, _, 0, rfl, lv_sub hl [1, 2, 0] rfl, hP, hS, hI, hfr, (fun k hk => (y_fiZ oY0 (s_sub (by decide) hk)).trans (hz0 k hk)), (by decide), rfl⟩ (fun n ih2 g H locs hq => ?_)
  obtain ⟨F4, ls, w1, rfl, hl, hP, hS, hI, hfr, hz0, h3, hn⟩ := hq
  have oY5 : F4 a0 = .inr (7, y_fl A z0 q0) := (hfr _ (by rw [ha0]; decide)).trans oY0
  have hz0 : ∀ k, k ∈ ([1, 2, 3, 4, 5, 6, 7, 8, 11, 15, 16, 19, 25, 26, 27, 31, 32] : List Nat) → z0 k = z0 k := fun _ _ => rfl
  have hn_5 := hn
  refine lv_iload_n hx hb dX7_isNamed_2 rfl (lv_at hl 2 rfl) ?_
  refine lv_aload_n hx hb dX7_isNamed_3 rfl (lv_at hl 0 rfl) ?_
  obtain ⟨f6, o7, b8⟩ := y_op12 hI
  refine va_calli (va_runV (As := []) (rest := [.int w1]) ⟨hx, hb, hml, hown, hts⟩ (y_X7_drafted l dC dI H.size hLK A hA F4 a0 ha0 hI) (cwV 0 hts (ax_gV T_293 T_294 T_295 T_265 T_28) rfl rfl rfl (by decide +kernel) ⟨Nat.le_of_ble_eq_true rfl, Nat.le_of_ble_eq_true rfl⟩) ⟨fun a U g mk q => ⟨q.1, s_pc rfl rfl q.2⟩, s_recv hK hP (hLK _ ha0 (by decide)) (ci := 7) rfl oY5, fun U hU hW => ⟨rfl, s_pw hU hW hP hK hD hN⟩⟩ rfl rfl hl.1 rfl (lv_room (Nat.le_of_ble_eq_true rfl)) dX7_isNamed_4 ⟨Nat.zero_le _, Nat.zero_le _⟩) hS (fun q _ h => h) (fun q h => h) (fun r10 F11 t H1 locs ht hvm hw hB hz1 hk1 hS => ?_)
  obtain ⟨hP, hK1⟩ := hB
  rw [ht] at hP
  generalize H1 = H at hP hS ⊢
  obtain ⟨h12, h14, hI, hfr1, hzf, h13⟩ := hw
  have o15 : F11 (A 12) = .inl (cs 0, 400, .inl f6) := (hfr1 _ (by rw [(y_k12 hA)]; decide)).trans o7
  have oY16 : F11 a0 = .inr (7, y_fl A z0 q0) := (hfr1 _ (by rw [ha0]; decide)).trans oY5
  have hfr : ∀ b, K b ∉ ([] : List Nat) → F11 b = F b := fun b hb9 => (hfr1 b (fun q => hb9 (s_sub (by decide) q))).trans (hfr b hb9)
  have h13 : (r10 = y_c f6 387) := by have q9 := h13; rw [y_atE o7] at q9; exact q9
  have h17 := congrArg Int32.toInt h13
  refine lv_icmp_ge (tgt := 33) hx hb dX7_isNamed_7 (by decide) (fun c18 => ?_) (fun c18 => ?_)
  · have c18 := Int32.le_iff_toInt_le.mp c18
    refine lv_iconst (v := 0) hx hb dX7_isNamed_33 (by decide) ?_
    have h19 : (0 : Int32).toInt = 0 := by decide
    exact W.zret (v := 0) (ty := .boolean) hx hb hr (by decide) (fun t ht hW => ⟨⟨0, F11, rfl, ⟨(by decide), trivial, hI, hfr, fun k hk => (y_fiZ oY16 (s_sub (by decide) hk)).trans ((hz0 k hk).trans (y_fiZ oY0 (s_sub (by decide) hk)).symm), trivial⟩, by rw [ht]; exact hP, va_K.moved hW.alike hK⟩, hS.F ht⟩) hS.2.2 dX7_isNamed_34
  · have c18 := mt Int32.le_iff_toInt_le.mpr c18
    refine lv_aload_n hx hb dX7_isNamed_10 rfl (lv_at hl 0 rfl) ?_
    refine th_get (D := (dC, dI)) (ci := 7) (v := .ref (A 12)) (C := RX7) (T := TX7) (N := 34) hx hb hts inX7 hown hK hP (hLK _ ha0 (by decide)) oY16 rfl 12 (by decide) (hts _ T_245) (fun _ h9 => h9) rfl dX7_isNamed_11 ?_
    refine lv_iload_n hx hb dX7_isNamed_14 rfl (lv_at hl 2 rfl) ?_
    refine lv_bipush (v := 7) hx hb dX7_isNamed_15 (by decide) ?_
    refine va_calli (va_runS (As := [.int w1, .int 7]) (rest := [.ref (A 12)]) ⟨hx, hb, hml, hown, hts⟩ (y_X7_lineAt l dC dI H.size F11 w1 7 (⟨by omega, by omega⟩) (by decide)) (cwS 2 hts (ax_gS T_1216 T_1218 T_265 T_1217) rfl rfl rfl (by decide +kernel) ⟨Nat.le_of_ble_eq_true rfl, Nat.le_of_ble_eq_true rfl⟩) ⟨fun a U g mk q => ⟨q.1, s_pc rfl rfl q.2⟩, fun U hU hW => ⟨rfl, s_pw hU hW hP hK hD hN⟩⟩ rfl rfl hl.1 rfl (lv_room (Nat.le_of_ble_eq_true rfl)) dX7_isNamed_17 ⟨Nat.zero_le _, Nat.zero_le _⟩) hS (fun q _ h => h) (fun q h => h) (fun r21 F22 t H1 locs ht hvm hw hB hz1 hk1 hS => ?_)
    obtain ⟨hP, hK1⟩ := hB
    rw [ht] at hP
    generalize H1 = H at hP hS ⊢
    obtain ⟨h23, h25, hG9, h24⟩ := hw
    rw [hG9] at hP
    have h24 : (r21.toInt = 8 * w1.toInt + 7) := by have q9 := h24; exact q9
    refine th_iald hx hb hK hP (hLK _ (y_k12 hA) (by decide)) 0 o15 rfl (th_in ⟨by omega, by omega⟩) dX7_isNamed_20 ?_
    refine lv_topi (fun v26 ev26 => ?_)
    refine lv_iload_n hx hb dX7_isNamed_21 rfl (lv_at hl 1 rfl) ?_
    refine lv_icmp_ne (tgt := 27) hx hb dX7_isNamed_22 (by decide) (fun c27 => ?_) (fun c27 => ?_)
    · have c27 := mt Int32.toInt_inj.symm.mpr c27
      obtain ⟨v28, ev28⟩ : ∃ y : Int32, w1 + 1 = y := ⟨_, rfl⟩
      have qv28 : v28.toInt = w1.toInt + 1 := by rw [← ev28]; exact th_add rfl (by decide) ⟨by omega, by omega⟩
      refine lv_iinc (v := v28) (lv' := [(2, .int v28), (0, .ref a0), (1, .int x1)]) hx hb dX7_isNamed_27 hl (k := 2) rfl ev28 (by decide) rfl (fun ls hl => ?_)
      refine lv_goto (tgt := 2) hx hb dX7_isNamed_30 (by decide) ?_
      exact ih2 _ _ _ _ (by omega) ⟨F11, _, v28, rfl, lv_sub hl [1, 2, 0] rfl, hP, hS, hI, hfr, (fun k hk => (y_fiZ oY16 (s_sub (by decide) hk)).trans (hz0 k hk)), ⟨by omega, by omega⟩, rfl⟩
    · have c27 := Int32.toInt_inj.symm.mp c27
      refine lv_iconst (v := 1) hx hb dX7_isNamed_25 (by decide) ?_
      have h29 : (1 : Int32).toInt = 1 := by decide
      exact W.zret (v := 1) (ty := .boolean) hx hb hr (by decide) (fun t ht hW => ⟨⟨1, F11, rfl, ⟨(by decide), trivial, hI, hfr, fun k hk => (y_fiZ oY16 (s_sub (by decide) hk)).trans ((hz0 k hk).trans (y_fiZ oY0 (s_sub (by decide) hk)).symm), trivial⟩, by rw [ht]; exact hP, va_K.moved hW.alike hK⟩, hS.F ht⟩) hS.2.2 dX7_isNamed_26
