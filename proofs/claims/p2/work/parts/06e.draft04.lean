set_option maxHeartbeats 4000000 in
set_option maxRecDepth 100000 in
theorem y_X7_statementTold (l : Launch) (dC : Nat → ClassId) (dI : Nat → Nat → Nat) (sz : Nat) {L : List Nat} {K : Nat → Nat} {cs : Nat → ClassId} (hLK : ∀ a {k : Nat}, K a = k → k ≠ 0 → a ∈ L) (A : Nat → Nat) (hA : y_A K A) (F : Nat → va_E) (a0 : Nat) (ha0 : K a0 = 9) (hI : y_I K cs A F) (hst : (0 ≤ (y_fi F a0 16).toInt ∧ (y_fi F a0 16).toInt ≤ 80)) : Met l yX7_statementTold (Cond.code yX7_statementTold cX7_statementTold 5 none :: T0) ({ frames := 8, cells := 0, slots := 0, locals := 174 }) (va_Pc [.ref a0] (s_W dC dI sz L F [(cs 0, .int), (cs 1, .byte), (cs 2, .long), (cs 3, .object RX5), (cs 4, .object RX4), (cs 5, .array .int), (cs 6, .char), (cs 7, .boolean)])) (va_Qv (fun (G : Nat → va_E) => True ∧ True ∧ y_I K cs A G ∧ (∀ b, K b ∉ [9, 62, 64] → G b = F b) ∧ (∀ k, k ∈ ([1, 3, 7, 8, 15, 19, 25, 26, 27, 31, 32] : List Nat) → y_fi G a0 k = y_fi F a0 k) ∧ (((y_fi F a0 5).toInt = 0 ∨ ¬ (y_fi G a0 5).toInt = 0) ∧ (((y_fi F a0 5).toInt = 0 → y_DS (y_at F (A 12))) → (y_fi G a0 5).toInt = 0 → y_DS (y_at G (A 12))) ∧ (y_fi G a0 16).toInt = (y_fi F a0 16).toInt + 1 ∧ ((y_fi F a0 16).toInt = 80 → ¬ (y_fi G a0 5).toInt = 0))) (fun (G : Nat → va_E) (t : State) => va_P (dC, dI) vwCl (va_pl L G) t.heap ∧ va_K (dC, dI) vwCl [(cs 0, .int), (cs 1, .byte), (cs 2, .long), (cs 3, .object RX5), (cs 4, .object RX4), (cs 5, .array .int), (cs 6, .char), (cs 7, .boolean)] t) (fun q => q ∈ L)) 0 0 (fun q => q ∈ L) := by
  refine Met.ofW (cc := cX7_statementTold) (maxL := 5) (ret := none) (by decide) rfl ?_
  intro p e s m args below meth c s₁ B hml hv
  obtain ⟨rfl, hsz, hP, hK, hD, hN⟩ := hv
  have hx := B.exec
  have hb := B.bytes
  have hr := B.returns
  have hts : ∀ w ∈ T0, w.before _ s = true := fun w h => atoms_spec (ws := Cond.code yX7_statementTold cX7_statementTold 5 none :: T0) B.pre w (List.mem_cons_of_mem _ h)
  have hown : s.vm.findClass RX7 = some m.cls := findClass_of_methodNamed B.named
  have hlocks := B.notSynchronized
  have hS : va_S (fun q => q ∈ L) s.heap s.heap [] := va_S.rf
  have hfr : ∀ b, K b ∉ [9, 62, 64] → F b = F b := fun _ _ => rfl
  have hl := lv_entry ([.ref a0]) (n := 5) (Nat.le_of_ble_eq_true rfl)
  rw [lg_entry_eq]
  generalize (lg_sl ([.ref a0]) ++ List.replicate (5 - (lg_sl ([.ref a0])).length) Slot.unset).toArray = ls at hl ⊢
  have hl : lv_has ls 5 [(0, .ref a0)] := hl
  refine s_gen hP hS (fun H locs hP hS => ?_)
  obtain ⟨z0, q0, oY0, bz0, bq0⟩ := y_opY hI ha0
  have hz0 : ∀ k, k ∈ ([1, 3, 7, 8, 15, 19, 25, 26, 27, 31, 32] : List Nat) → z0 k = z0 k := fun _ _ => rfl
  obtain ⟨f1, o2, b3⟩ := y_op12 hI
  obtain ⟨v4, ev4⟩ : ∃ y : Int32, y = z0 5 := ⟨_, rfl⟩
  have eF_5 := ev4
  obtain ⟨v5, ev5⟩ : ∃ y : Int32, y = z0 16 := ⟨_, rfl⟩
  have eF_16 := ev5
  replace hst : (0 ≤ v5.toInt ∧ v5.toInt ≤ 80) := by have q9 := hst; rw [y_fiZ oY0 (k := 16) (by decide), ← ev5] at q9; exact q9
  have hnb : 0 ≤ (y_c f1 387).toInt ∧ (y_c f1 387).toInt ≤ 40 := b3
  have e0_v4 := ev4
  have e0_v5 := ev5
  refine th_join (fun g H locs => ∃ (G : Nat → va_E) (ls : Array Slot), g = F0 m 214 ls [] ∧ lv_has ls 5 [(0, .ref a0)] ∧ va_P (dC, dI) vwCl (va_pl L G) H ∧ va_S (fun q => q ∈ L) s.heap H locs ∧ y_I K cs A G ∧ (∀ b, K b ∉ [9, 62, 64] → G b = F b) ∧ (∀ k, k ∈ ([1, 3, 7, 8, 15, 19, 25, 26, 27, 31, 32] : List Nat) → y_fi G a0 k = z0 k) ∧ ((v4.toInt = 0 → y_DS f1) → (y_fi G a0 5).toInt = 0 → y_DS (y_at G (A 12))) ∧ ((v4.toInt = 0 ∨ ¬ (y_fi G a0 5).toInt = 0) ∧ (v5.toInt = 80 → ¬ (y_fi G a0 5).toInt = 0) ∧ (y_fi G a0 16).toInt = v5.toInt)) (fun K214 => ?_) ?_
  refine th_join (fun g H locs => ∃ (G : Nat → va_E) (ls : Array Slot) (w6 : Int32), g = F0 m 208 ls [] ∧ lv_has ls 5 [(0, .ref a0), (1, .int w6)] ∧ va_P (dC, dI) vwCl (va_pl L G) H ∧ va_S (fun q => q ∈ L) s.heap H locs ∧ y_I K cs A G ∧ (∀ b, K b ∉ [9, 62, 64] → G b = F b) ∧ (∀ k, k ∈ ([1, 3, 7, 8, 15, 19, 25, 26, 27, 31, 32] : List Nat) → y_fi G a0 k = z0 k) ∧ (0 ≤ w6.toInt ∧ w6.toInt ≤ 1600) ∧ (y_at G (A 12)) = f1 ∧ ((v4.toInt = 0 ∨ ¬ (y_fi G a0 5).toInt = 0) ∧ (v5.toInt = 80 → ¬ (y_fi G a0 5).toInt = 0) ∧ (y_fi G a0 16).toInt = v5.toInt)) (fun K208 => ?_) ?_
  refine th_join (fun g H locs => ∃ (G : Nat → va_E) (ls : Array Slot) (w7 : Int32) (w8 : Int32), g = F0 m 190 ls [] ∧ lv_has ls 5 [(0, .ref a0), (1, .int w7), (2, .int w8)] ∧ va_P (dC, dI) vwCl (va_pl L G) H ∧ va_S (fun q => q ∈ L) s.heap H locs ∧ y_I K cs A G ∧ (∀ b, K b ∉ [9, 62, 64] → G b = F b) ∧ (∀ k, k ∈ ([1, 3, 7, 8, 15, 19, 25, 26, 27, 31, 32] : List Nat) → y_fi G a0 k = z0 k) ∧ (0 ≤ w7.toInt ∧ w7.toInt ≤ 1600) ∧ True ∧ (y_at G (A 12)) = f1 ∧ ((v4.toInt = 0 ∨ ¬ (y_fi G a0 5).toInt = 0) ∧ (v5.toInt = 80 → ¬ (y_fi G a0 5).toInt = 0) ∧ (y_fi G a0 16).toInt = v5.toInt)) (fun K190 => ?_) ?_
  refine th_join (fun g H locs => ∃ (G : Nat → va_E) (ls : Array Slot) (w9 : Int32), g = F0 m 20 ls [] ∧ lv_has ls 5 [(0, .ref a0), (1, .int w9)] ∧ va_P (dC, dI) vwCl (va_pl L G) H ∧ va_S (fun q => q ∈ L) s.heap H locs ∧ y_I K cs A G ∧ (∀ b, K b ∉ [9, 62, 64] → G b = F b) ∧ (∀ k, k ∈ ([1, 3, 7, 8, 15, 19, 25, 26, 27, 31, 32] : List Nat) → y_fi G a0 k = z0 k) ∧ (0 ≤ w9.toInt ∧ w9.toInt ≤ 1600) ∧ (y_at G (A 12)) = f1 ∧ ((v4.toInt = 0 ∨ ¬ (y_fi G a0 5).toInt = 0) ∧ (v5.toInt = 80 → ¬ (y_fi G a0 5).toInt = 0) ∧ (y_fi G a0 16).toInt = v5.toInt)) (fun K20 => ?_) ?_
  · refine lv_aload_n hx hb dX7_statementTold_0 rfl (lv_at hl 0 rfl) ?_
    refine th_get (D := (dC, dI)) (ci := 7) (v := .int (z0 2)) (C := RX7) (T := TX7) (N := 34) hx hb hts inX7 hown hK hP (hLK _ ha0 (by decide)) oY0 rfl 2 (by decide) (hts _ T_272) (fun _ h9 => h9) rfl dX7_statementTold_1 ?_
    refine lv_topi (fun v10 ev10 => ?_)
    have qv10 : 0 ≤ v10.toInt ∧ v10.toInt ≤ 1600 := by rw [ev10]; exact y_bY2 bz0
    refine lv_istore_n (lv' := [(1, .int v10), (0, .ref a0)]) hx hb dX7_statementTold_4 rfl hl (by decide) rfl (fun ls hl => ?_)
    refine lv_aload_n hx hb dX7_statementTold_5 rfl (lv_at hl 1 rfl) ?_
    refine th_get (D := (dC, dI)) (ci := 7) (v := .int (z0 16)) (C := RX7) (T := TX7) (N := 34) hx hb hts inX7 hown hK hP (hLK _ ha0 (by decide)) oY0 rfl 16 (by decide) (hts _ T_306) (fun _ h9 => h9) rfl dX7_statementTold_6 ?_
    refine ax_eqi (y := v5) ev5.symm ?_
    refine lv_bipush (v := 80) hx hb dX7_statementTold_9 (by decide) ?_
    refine lv_icmp_ne (tgt := 20) hx hb dX7_statementTold_11 (by decide) (fun c11 => ?_) (fun c11 => ?_)
    · have c11 := mt (ax_eq (n := 80) (by decide)).mpr c11
      exact K20 _ _ _ ⟨F, _, v10, rfl, lv_sub hl [1, 0] rfl, hP, hS, hI, hfr, (fun k hk => (y_fiZ oY0 (s_sub (by decide) hk)).trans (hz0 k hk)), ⟨by omega, by omega⟩, (by first | (rw [y_atE o2]; exact rfl) | rw [y_atE o2]), (by first | (rw [y_fiZ oY0 (k := 5) (by decide), ← ev4, y_fiZ oY0 (k := 16) (by decide), ← ev5]; omega) | rw [y_fiZ oY0 (k := 5) (by decide), ← ev4, y_fiZ oY0 (k := 16) (by decide), ← ev5])⟩
    · have c11 := (ax_eq (n := 80) (by decide)).mp c11
      refine lv_aload_n hx hb dX7_statementTold_14 rfl (lv_at hl 1 rfl) ?_
      refine lv_iconst (v := 5) hx hb dX7_statementTold_15 (by decide) ?_
      refine lv_iload_n hx hb dX7_statementTold_16 rfl (lv_at hl 0 rfl) ?_
      refine va_callv (va_runV (As := [.int 5, .int v10]) (rest := []) ⟨hx, hb, hml, hown, hts⟩ (y_X7_fail l dC dI H.size hLK A hA F a0 5 v10 ha0 (by decide) hI) (cwV 2 hts (ax_gV T_290 T_291 T_292 T_265 T_27) rfl rfl rfl (by decide +kernel) ⟨Nat.le_of_ble_eq_true rfl, Nat.le_of_ble_eq_true rfl⟩) ⟨fun a U g mk q => ⟨q.1, s_pc (U := U) rfl rfl q.2⟩, s_recv hK hP (hLK _ ha0 (by decide)) (ci := 7) rfl oY0, fun U hU hW => ⟨rfl, s_pw hU hW hP hK hD hN⟩⟩ rfl rfl hl.1 rfl (lv_room (Nat.le_of_ble_eq_true rfl)) dX7_statementTold_17 ⟨Nat.zero_le _, Nat.zero_le _⟩) hS (fun q _ h => h) (fun q h => h) (fun F13 t H1 locs ht hvm hw hB hz1 hk1 hS => ?_)
      obtain ⟨hP, hK1⟩ := hB
      rw [ht] at hP
      generalize H1 = H at hP hS ⊢
      clear hz1 hk1 hvm hK1
      obtain ⟨h14, h16, hI, hfr1, hzf, h15⟩ := hw
      have o17 : F13 (A 12) = .inl (cs 0, 400, .inl f1) := (hfr1 _ (by rw [(y_k12 hA)]; decide)).trans o2
      obtain ⟨z18, q19, oY20, bz21, bq22⟩ := y_opY hI ha0
      have hzf : ∀ k, k ∈ ([1, 2, 3, 4, 7, 8, 11, 15, 16, 19, 25, 26, 27, 31, 32] : List Nat) → z18 k = z0 k := fun k hk => by have q9 := hzf k hk; rw [y_fiZ oY20 (s_sub (by decide) hk), y_fiZ oY0 (s_sub (by decide) hk)] at q9; exact q9
      have hz0 : ∀ k, k ∈ ([1, 3, 7, 8, 15, 19, 25, 26, 27, 31, 32] : List Nat) → z18 k = z0 k := fun k hk => (hzf k (s_sub (by decide) hk)).trans (hz0 k hk)
      have ev5 : v5 = z18 16 := ev5.trans (hzf 16 (by decide)).symm
      have ev10 : v10 = z18 2 := ev10.trans (hzf 2 (by decide)).symm
      have hfr : ∀ b, K b ∉ [9, 62, 64] → F13 b = F b := fun b hb9 => (hfr1 b (fun q => hb9 (s_sub (by decide) q))).trans (hfr b hb9)
      obtain ⟨v23, ev23⟩ : ∃ y : Int32, y = z18 5 := ⟨_, rfl⟩
      replace h15 : (¬ v23.toInt = 0) := by have q9 := h15; rw [y_fiZ oY20 (k := 5) (by decide), ← ev23] at q9; exact q9
      exact K20 _ _ _ ⟨F13, _, v10, rfl, lv_sub hl [1, 0] rfl, hP, hS, hI, hfr, (fun k hk => (y_fiZ oY20 (s_sub (by decide) hk)).trans (hz0 k hk)), ⟨by omega, by omega⟩, (by first | (rw [y_atE o17]; exact rfl) | rw [y_atE o17]), (by first | (rw [y_fiZ oY20 (k := 5) (by decide), ← ev23, y_fiZ oY20 (k := 16) (by decide), ← ev5]; omega) | rw [y_fiZ oY20 (k := 5) (by decide), ← ev23, y_fiZ oY20 (k := 16) (by decide), ← ev5])⟩
  · intro g H locs hq
    obtain ⟨F27, ls, w9, rfl, hl, hP, hS, hI, hfr, hz0, h24, h25, h26⟩ := hq
    obtain ⟨z28, q29, oY30, bz31, bq32⟩ := y_opY hI ha0
    have hz0 : ∀ k, k ∈ ([1, 3, 7, 8, 15, 19, 25, 26, 27, 31, 32] : List Nat) → z28 k = z0 k := fun k hk => (y_fiZ oY30 (s_sub (by decide) hk)).symm.trans (hz0 k hk)
    obtain ⟨f33, o34, b35⟩ := y_op12 hI
    replace h25 : f33 = f1 := by have q9 := h25; rw [y_atE o34] at q9; exact q9
    obtain ⟨v36, ev36⟩ : ∃ y : Int32, y = z28 5 := ⟨_, rfl⟩
    obtain ⟨v37, ev37⟩ : ∃ y : Int32, y = z28 16 := ⟨_, rfl⟩
    replace h26 : ((v4.toInt = 0 ∨ ¬ v36.toInt = 0) ∧ (v5.toInt = 80 → ¬ v36.toInt = 0) ∧ v37.toInt = v5.toInt) := by have q9 := h26; rw [y_fiZ oY30 (k := 5) (by decide), ← ev36, y_fiZ oY30 (k := 16) (by decide), ← ev37] at q9; exact q9
    refine lv_aload_n hx hb dX7_statementTold_20 rfl (lv_at hl 0 rfl) ?_
    refine va_calli (va_runV (As := []) (rest := []) ⟨hx, hb, hml, hown, hts⟩ (y_X7_ownHere l dC dI H.size hLK A hA F27 a0 ha0 hI) (cwV 0 hts (ax_gV T_283 T_284 T_285 T_265 T_25) rfl rfl rfl (by decide +kernel) ⟨Nat.le_of_ble_eq_true rfl, Nat.le_of_ble_eq_true rfl⟩) ⟨fun a U g mk q => ⟨q.1, s_pc (U := U) rfl rfl q.2⟩, s_recv hK hP (hLK _ ha0 (by decide)) (ci := 7) rfl oY30, fun U hU hW => ⟨rfl, s_pw hU hW hP hK hD hN⟩⟩ rfl rfl hl.1 rfl (lv_room (Nat.le_of_ble_eq_true rfl)) dX7_statementTold_21 ⟨Nat.zero_le _, Nat.zero_le _⟩) hS (fun q _ h => h) (fun q h => h) (fun r39 F40 t H1 locs ht hvm hw hB hz1 hk1 hS => ?_)
    obtain ⟨hP, hK1⟩ := hB
    rw [ht] at hP
    generalize H1 = H at hP hS ⊢
    clear hz1 hk1 hvm hK1
    obtain ⟨h41, h43, hI, hfr1, hzf, h42⟩ := hw
    have o44 : F40 (A 12) = .inl (cs 0, 400, .inl f33) := (hfr1 _ (by rw [(y_k12 hA)]; decide)).trans o34
    obtain ⟨z45, q46, oY47, bz48, bq49⟩ := y_opY hI ha0
    have hzf : ∀ k, k ∈ ([1, 3, 4, 5, 6, 7, 8, 11, 15, 16, 19, 25, 26, 27, 31, 32] : List Nat) → z45 k = z28 k := fun k hk => by have q9 := hzf k hk; rw [y_fiZ oY47 (s_sub (by decide) hk), y_fiZ oY30 (s_sub (by decide) hk)] at q9; exact q9
    have hz0 : ∀ k, k ∈ ([1, 3, 7, 8, 15, 19, 25, 26, 27, 31, 32] : List Nat) → z45 k = z0 k := fun k hk => (hzf k (s_sub (by decide) hk)).trans (hz0 k hk)
    have ev36 : v36 = z45 5 := ev36.trans (hzf 5 (by decide)).symm
    have ev37 : v37 = z45 16 := ev37.trans (hzf 16 (by decide)).symm
    have hfr : ∀ b, K b ∉ [9, 62, 64] → F40 b = F b := fun b hb9 => (hfr1 b (fun q => hb9 (s_sub (by decide) q))).trans (hfr b hb9)
    refine lv_istore_n (lv' := [(2, .int r39), (0, .ref a0), (1, .int w9)]) hx hb dX7_statementTold_24 rfl hl (by decide) rfl (fun ls hl => ?_)
    refine lv_aload_n hx hb dX7_statementTold_25 rfl (lv_at hl 1 rfl) ?_
    refine lv_bipush (v := 21) hx hb dX7_statementTold_26 (by decide) ?_
    refine va_calli (va_runV (As := [.int 21]) (rest := []) ⟨hx, hb, hml, hown, hts⟩ (y_X7_takes l dC dI H.size hLK A hA F40 a0 21 ha0 hI) (cwV 1 hts (ax_gV T_287 T_288 T_289 T_265 T_26) rfl rfl rfl (by decide +kernel) ⟨Nat.le_of_ble_eq_true rfl, Nat.le_of_ble_eq_true rfl⟩) ⟨fun a U g mk q => ⟨q.1, s_pc (U := U) rfl rfl q.2⟩, s_recv hK hP (hLK _ ha0 (by decide)) (ci := 7) rfl oY47, fun U hU hW => ⟨rfl, s_pw hU hW hP hK hD hN⟩⟩ rfl rfl hl.1 rfl (lv_room (Nat.le_of_ble_eq_true rfl)) dX7_statementTold_28 ⟨Nat.zero_le _, Nat.zero_le _⟩) hS (fun q _ h => h) (fun q h => h) (fun r51 F52 t H1 locs ht hvm hw hB hz1 hk1 hS => ?_)
    obtain ⟨hP, hK1⟩ := hB
    rw [ht] at hP
    generalize H1 = H at hP hS ⊢
    clear hz1 hk1 hvm hK1
    obtain ⟨h53, h55, hI, hfr1, hzf, h54⟩ := hw
    have o56 : F52 (A 12) = .inl (cs 0, 400, .inl f33) := (hfr1 _ (by rw [(y_k12 hA)]; decide)).trans o44
    obtain ⟨z57, q58, oY59, bz60, bq61⟩ := y_opY hI ha0
    have hzf : ∀ k, k ∈ ([1, 3, 5, 6, 7, 8, 11, 15, 16, 19, 25, 26, 27, 31, 32] : List Nat) → z57 k = z45 k := fun k hk => by have q9 := hzf k hk; rw [y_fiZ oY59 (s_sub (by decide) hk), y_fiZ oY47 (s_sub (by decide) hk)] at q9; exact q9
    have hz0 : ∀ k, k ∈ ([1, 3, 7, 8, 15, 19, 25, 26, 27, 31, 32] : List Nat) → z57 k = z0 k := fun k hk => (hzf k (s_sub (by decide) hk)).trans (hz0 k hk)
    have ev36 : v36 = z57 5 := ev36.trans (hzf 5 (by decide)).symm
    have ev37 : v37 = z57 16 := ev37.trans (hzf 16 (by decide)).symm
    have hfr : ∀ b, K b ∉ [9, 62, 64] → F52 b = F b := fun b hb9 => (hfr1 b (fun q => hb9 (s_sub (by decide) q))).trans (hfr b hb9)
    refine lv_if_eq (tgt := 74) hx hb dX7_statementTold_31 (by decide) (fun c62 => ?_) (fun c62 => ?_)
    · have c62 := (ax_eq (n := 0) (by decide)).mp c62
      refine lv_aload_n hx hb dX7_statementTold_74 rfl (lv_at hl 1 rfl) ?_
      refine lv_bipush (v := 22) hx hb dX7_statementTold_75 (by decide) ?_
      refine va_calli (va_runV (As := [.int 22]) (rest := []) ⟨hx, hb, hml, hown, hts⟩ (y_X7_takes l dC dI H.size hLK A hA F52 a0 22 ha0 hI) (cwV 1 hts (ax_gV T_287 T_288 T_289 T_265 T_26) rfl rfl rfl (by decide +kernel) ⟨Nat.le_of_ble_eq_true rfl, Nat.le_of_ble_eq_true rfl⟩) ⟨fun a U g mk q => ⟨q.1, s_pc (U := U) rfl rfl q.2⟩, s_recv hK hP (hLK _ ha0 (by decide)) (ci := 7) rfl oY59, fun U hU hW => ⟨rfl, s_pw hU hW hP hK hD hN⟩⟩ rfl rfl hl.1 rfl (lv_room (Nat.le_of_ble_eq_true rfl)) dX7_statementTold_77 ⟨Nat.zero_le _, Nat.zero_le _⟩) hS (fun q _ h => h) (fun q h => h) (fun r64 F65 t H1 locs ht hvm hw hB hz1 hk1 hS => ?_)
      obtain ⟨hP, hK1⟩ := hB
      rw [ht] at hP
      generalize H1 = H at hP hS ⊢
      clear hz1 hk1 hvm hK1
      obtain ⟨h66, h68, hI, hfr1, hzf, h67⟩ := hw
      have o69 : F65 (A 12) = .inl (cs 0, 400, .inl f33) := (hfr1 _ (by rw [(y_k12 hA)]; decide)).trans o56
      obtain ⟨z70, q71, oY72, bz73, bq74⟩ := y_opY hI ha0
      have hzf : ∀ k, k ∈ ([1, 3, 5, 6, 7, 8, 11, 15, 16, 19, 25, 26, 27, 31, 32] : List Nat) → z70 k = z57 k := fun k hk => by have q9 := hzf k hk; rw [y_fiZ oY72 (s_sub (by decide) hk), y_fiZ oY59 (s_sub (by decide) hk)] at q9; exact q9
      have hz0 : ∀ k, k ∈ ([1, 3, 7, 8, 15, 19, 25, 26, 27, 31, 32] : List Nat) → z70 k = z0 k := fun k hk => (hzf k (s_sub (by decide) hk)).trans (hz0 k hk)
      have ev36 : v36 = z70 5 := ev36.trans (hzf 5 (by decide)).symm
      have ev37 : v37 = z70 16 := ev37.trans (hzf 16 (by decide)).symm
      have hfr : ∀ b, K b ∉ [9, 62, 64] → F65 b = F b := fun b hb9 => (hfr1 b (fun q => hb9 (s_sub (by decide) q))).trans (hfr b hb9)
      refine lv_if_eq (tgt := 120) hx hb dX7_statementTold_80 (by decide) (fun c75 => ?_) (fun c75 => ?_)
      · have c75 := (ax_eq (n := 0) (by decide)).mp c75
        refine lv_aload_n hx hb dX7_statementTold_120 rfl (lv_at hl 1 rfl) ?_
        refine lv_bipush (v := 25) hx hb dX7_statementTold_121 (by decide) ?_
        refine va_calli (va_runV (As := [.int 25]) (rest := []) ⟨hx, hb, hml, hown, hts⟩ (y_X7_takes l dC dI H.size hLK A hA F65 a0 25 ha0 hI) (cwV 1 hts (ax_gV T_287 T_288 T_289 T_265 T_26) rfl rfl rfl (by decide +kernel) ⟨Nat.le_of_ble_eq_true rfl, Nat.le_of_ble_eq_true rfl⟩) ⟨fun a U g mk q => ⟨q.1, s_pc (U := U) rfl rfl q.2⟩, s_recv hK hP (hLK _ ha0 (by decide)) (ci := 7) rfl oY72, fun U hU hW => ⟨rfl, s_pw hU hW hP hK hD hN⟩⟩ rfl rfl hl.1 rfl (lv_room (Nat.le_of_ble_eq_true rfl)) dX7_statementTold_123 ⟨Nat.zero_le _, Nat.zero_le _⟩) hS (fun q _ h => h) (fun q h => h) (fun r77 F78 t H1 locs ht hvm hw hB hz1 hk1 hS => ?_)
        obtain ⟨hP, hK1⟩ := hB
        rw [ht] at hP
        generalize H1 = H at hP hS ⊢
        clear hz1 hk1 hvm hK1
        obtain ⟨h79, h81, hI, hfr1, hzf, h80⟩ := hw
        have o82 : F78 (A 12) = .inl (cs 0, 400, .inl f33) := (hfr1 _ (by rw [(y_k12 hA)]; decide)).trans o69
        obtain ⟨z83, q84, oY85, bz86, bq87⟩ := y_opY hI ha0
        have hzf : ∀ k, k ∈ ([1, 3, 5, 6, 7, 8, 11, 15, 16, 19, 25, 26, 27, 31, 32] : List Nat) → z83 k = z70 k := fun k hk => by have q9 := hzf k hk; rw [y_fiZ oY85 (s_sub (by decide) hk), y_fiZ oY72 (s_sub (by decide) hk)] at q9; exact q9
        have hz0 : ∀ k, k ∈ ([1, 3, 7, 8, 15, 19, 25, 26, 27, 31, 32] : List Nat) → z83 k = z0 k := fun k hk => (hzf k (s_sub (by decide) hk)).trans (hz0 k hk)
        have ev36 : v36 = z83 5 := ev36.trans (hzf 5 (by decide)).symm
        have ev37 : v37 = z83 16 := ev37.trans (hzf 16 (by decide)).symm
        have hfr : ∀ b, K b ∉ [9, 62, 64] → F78 b = F b := fun b hb9 => (hfr1 b (fun q => hb9 (s_sub (by decide) q))).trans (hfr b hb9)
        refine lv_if_eq (tgt := 166) hx hb dX7_statementTold_126 (by decide) (fun c88 => ?_) (fun c88 => ?_)
        · have c88 := (ax_eq (n := 0) (by decide)).mp c88
          refine lv_iload_n hx hb dX7_statementTold_166 rfl (lv_at hl 0 rfl) ?_
          refine lv_i2l hx hb dX7_statementTold_167 rfl ?_
          refine lv_topl (fun v89 ev89 => ?_)
          have qv89 : v89.toInt = r39.toInt := y_i2l ev89
          refine lv_lconst (v := 0) hx hb dX7_statementTold_168 (by decide) ?_
          refine lv_ldc2 hx hb hown (hts _ T_1256) dX7_statementTold_169 ?_
          refine va_calli (va_runS (As := [.long v89, .long 0, .long 15]) (rest := []) ⟨hx, hb, hml, hown, hts⟩ (y_X7_isIn l dC dI H.size F78 v89 0 15) (cwS 3 hts (ax_gS T_267 T_268 T_265 T_21) rfl rfl rfl (by decide +kernel) ⟨Nat.le_of_ble_eq_true rfl, Nat.le_of_ble_eq_true rfl⟩) ⟨fun a U g mk q => ⟨q.1, s_pc (U := U) rfl rfl q.2⟩, fun U hU hW => ⟨rfl, s_pw hU hW hP hK hD hN⟩⟩ rfl rfl hl.1 rfl (lv_room (Nat.le_of_ble_eq_true rfl)) dX7_statementTold_172 ⟨Nat.zero_le _, Nat.zero_le _⟩) hS (fun q _ h => h) (fun q h => h) (fun r91 F92 t H1 locs ht hvm hw hB hz1 hk1 hS => ?_)
          obtain ⟨hP, hK1⟩ := hB
          rw [ht] at hP
          generalize H1 = H at hP hS ⊢
          clear hz1 hk1 hvm hK1
          obtain ⟨h93, h95, hG9, h94⟩ := hw
          rw [hG9] at hP
          replace h94 : ((r91.toInt = 0 ∧ (v89.toInt < 0 ∨ 15 < v89.toInt)) ∨ (r91.toInt = 1 ∧ 0 ≤ v89.toInt ∧ v89.toInt ≤ 15)) := by have q9 := h94; exact q9
          refine lv_if_ne (tgt := 190) hx hb dX7_statementTold_175 (by decide) (fun c96 => ?_) (fun c96 => ?_)
          · have c96 := mt (ax_eq (n := 0) (by decide)).mpr c96
            exact K190 _ _ _ ⟨F78, _, w9, r39, rfl, lv_sub hl [1, 2, 0] rfl, hP, hS, hI, hfr, (fun k hk => (y_fiZ oY85 (s_sub (by decide) hk)).trans (hz0 k hk)), ⟨by omega, by omega⟩, trivial, (by rw [y_atE o82]; exact h25), (by first | (rw [y_fiZ oY85 (k := 5) (by decide), ← ev36, y_fiZ oY85 (k := 16) (by decide), ← ev37]; omega) | rw [y_fiZ oY85 (k := 5) (by decide), ← ev36, y_fiZ oY85 (k := 16) (by decide), ← ev37])⟩
          · have c96 := (ax_eq (n := 0) (by decide)).mp c96
            refine lv_aload_n hx hb dX7_statementTold_178 rfl (lv_at hl 1 rfl) ?_
            refine va_calli (va_runV (As := []) (rest := []) ⟨hx, hb, hml, hown, hts⟩ (y_X7_isWordHere l dC dI H.size hLK A hA F78 a0 ha0 hI) (cwV 0 hts (ax_gV T_280 T_281 T_282 T_265 T_24) rfl rfl rfl (by decide +kernel) ⟨Nat.le_of_ble_eq_true rfl, Nat.le_of_ble_eq_true rfl⟩) ⟨fun a U g mk q => ⟨q.1, s_pc (U := U) rfl rfl q.2⟩, s_recv hK hP (hLK _ ha0 (by decide)) (ci := 7) rfl oY85, fun U hU hW => ⟨rfl, s_pw hU hW hP hK hD hN⟩⟩ rfl rfl hl.1 rfl (lv_room (Nat.le_of_ble_eq_true rfl)) dX7_statementTold_179 ⟨Nat.zero_le _, Nat.zero_le _⟩) hS (fun q _ h => h) (fun q h => h) (fun r98 F99 t H1 locs ht hvm hw hB hz1 hk1 hS => ?_)
            obtain ⟨hP, hK1⟩ := hB
            rw [ht] at hP
            generalize H1 = H at hP hS ⊢
            clear hz1 hk1 hvm hK1
            obtain ⟨h100, h102, hI, hfr1, hzf, h101⟩ := hw
            have o103 : F99 (A 12) = .inl (cs 0, 400, .inl f33) := (hfr1 _ (by rw [(y_k12 hA)]; decide)).trans o82
            obtain ⟨z104, q105, oY106, bz107, bq108⟩ := y_opY hI ha0
            have hzf : ∀ k, k ∈ ([1, 3, 4, 5, 6, 7, 8, 11, 15, 16, 19, 25, 26, 27, 31, 32] : List Nat) → z104 k = z83 k := fun k hk => by have q9 := hzf k hk; rw [y_fiZ oY106 (s_sub (by decide) hk), y_fiZ oY85 (s_sub (by decide) hk)] at q9; exact q9
            have hz0 : ∀ k, k ∈ ([1, 3, 7, 8, 15, 19, 25, 26, 27, 31, 32] : List Nat) → z104 k = z0 k := fun k hk => (hzf k (s_sub (by decide) hk)).trans (hz0 k hk)
            have ev36 : v36 = z104 5 := ev36.trans (hzf 5 (by decide)).symm
            have ev37 : v37 = z104 16 := ev37.trans (hzf 16 (by decide)).symm
            have hfr : ∀ b, K b ∉ [9, 62, 64] → F99 b = F b := fun b hb9 => (hfr1 b (fun q => hb9 (s_sub (by decide) q))).trans (hfr b hb9)
            obtain ⟨v109, ev109⟩ : ∃ y : Int32, y = z104 2 := ⟨_, rfl⟩
            have qv109 : 0 ≤ v109.toInt ∧ v109.toInt ≤ 1600 := by rw [ev109]; exact y_bY2 bz107
            obtain ⟨v110, ev110⟩ : ∃ y : Int32, y = z104 3 := ⟨_, rfl⟩
            have qv110 : 0 ≤ v110.toInt ∧ v110.toInt ≤ 1600 := by rw [ev110]; exact y_bY3 bz107
            replace h101 : (r98.toInt = 0 ∨ v109.toInt < v110.toInt) := by have q9 := h101; rw [y_fiZ oY106 (k := 2) (by decide), ← ev109, y_fiZ oY106 (k := 3) (by decide), ← ev110] at q9; exact q9
            refine lv_if_eq (tgt := 208) hx hb dX7_statementTold_182 (by decide) (fun c111 => ?_) (fun c111 => ?_)
            · have c111 := (ax_eq (n := 0) (by decide)).mp c111
              exact K208 _ _ _ ⟨F99, _, w9, rfl, lv_sub hl [1, 2] rfl, hP, hS, hI, hfr, (fun k hk => (y_fiZ oY106 (s_sub (by decide) hk)).trans (hz0 k hk)), ⟨by omega, by omega⟩, (by rw [y_atE o103]; exact h25), (by first | (rw [y_fiZ oY106 (k := 5) (by decide), ← ev36, y_fiZ oY106 (k := 16) (by decide), ← ev37]; omega) | rw [y_fiZ oY106 (k := 5) (by decide), ← ev36, y_fiZ oY106 (k := 16) (by decide), ← ev37])⟩
            · have c111 := mt (ax_eq (n := 0) (by decide)).mpr c111
              refine lv_iload_n hx hb dX7_statementTold_185 rfl (lv_at hl 0 rfl) ?_
              refine lv_iconst (v := (-1)) hx hb dX7_statementTold_186 (by decide) ?_
              refine lv_icmp_ne (tgt := 208) hx hb dX7_statementTold_187 (by decide) (fun c112 => ?_) (fun c112 => ?_)
              · have c112 := mt (ax_eq (n := (-1)) (by decide)).mpr c112
                exact K208 _ _ _ ⟨F99, _, w9, rfl, lv_sub hl [1, 2] rfl, hP, hS, hI, hfr, (fun k hk => (y_fiZ oY106 (s_sub (by decide) hk)).trans (hz0 k hk)), ⟨by omega, by omega⟩, (by rw [y_atE o103]; exact h25), (by first | (rw [y_fiZ oY106 (k := 5) (by decide), ← ev36, y_fiZ oY106 (k := 16) (by decide), ← ev37]; omega) | rw [y_fiZ oY106 (k := 5) (by decide), ← ev36, y_fiZ oY106 (k := 16) (by decide), ← ev37])⟩
              · have c112 := (ax_eq (n := (-1)) (by decide)).mp c112
                exact K190 _ _ _ ⟨F99, _, w9, r39, rfl, lv_sub hl [1, 2, 0] rfl, hP, hS, hI, hfr, (fun k hk => (y_fiZ oY106 (s_sub (by decide) hk)).trans (hz0 k hk)), ⟨by omega, by omega⟩, trivial, (by rw [y_atE o103]; exact h25), (by first | (rw [y_fiZ oY106 (k := 5) (by decide), ← ev36, y_fiZ oY106 (k := 16) (by decide), ← ev37]; omega) | rw [y_fiZ oY106 (k := 5) (by decide), ← ev36, y_fiZ oY106 (k := 16) (by decide), ← ev37])⟩
        · have c88 := mt (ax_eq (n := 0) (by decide)).mpr c88
          refine lv_aload_n hx hb dX7_statementTold_129 rfl (lv_at hl 1 rfl) ?_
          refine th_get (D := (dC, dI)) (ci := 7) (v := .ref (A 12)) (C := RX7) (T := TX7) (N := 34) hx hb hts inX7 hown hK hP (hLK _ ha0 (by decide)) oY85 rfl 12 (by decide) (hts _ T_245) (fun _ h9 => h9) rfl dX7_statementTold_130 ?_
          refine lv_sipush (v := 386) hx hb dX7_statementTold_133 (by decide) ?_
          refine lv_aload_n hx hb dX7_statementTold_136 rfl (lv_at hl 1 rfl) ?_
          refine lv_bipush (v := 27) hx hb dX7_statementTold_137 (by decide) ?_
          refine va_calli (va_runV (As := [.int 27]) (rest := [.int 386, .ref (A 12)]) ⟨hx, hb, hml, hown, hts⟩ (y_X7_takes l dC dI H.size hLK A hA F78 a0 27 ha0 hI) (cwV 1 hts (ax_gV T_287 T_288 T_289 T_265 T_26) rfl rfl rfl (by decide +kernel) ⟨Nat.le_of_ble_eq_true rfl, Nat.le_of_ble_eq_true rfl⟩) ⟨fun a U g mk q => ⟨q.1, s_pc (U := U) rfl rfl q.2⟩, s_recv hK hP (hLK _ ha0 (by decide)) (ci := 7) rfl oY85, fun U hU hW => ⟨rfl, s_pw hU hW hP hK hD hN⟩⟩ rfl rfl hl.1 rfl (lv_room (Nat.le_of_ble_eq_true rfl)) dX7_statementTold_139 ⟨Nat.zero_le _, Nat.zero_le _⟩) hS (fun q _ h => h) (fun q h => h) (fun r114 F115 t H1 locs ht hvm hw hB hz1 hk1 hS => ?_)
          obtain ⟨hP, hK1⟩ := hB
          rw [ht] at hP
          generalize H1 = H at hP hS ⊢
          clear hz1 hk1 hvm hK1
          obtain ⟨h116, h118, hI, hfr1, hzf, h117⟩ := hw
          have o119 : F115 (A 12) = .inl (cs 0, 400, .inl f33) := (hfr1 _ (by rw [(y_k12 hA)]; decide)).trans o82
          obtain ⟨z120, q121, oY122, bz123, bq124⟩ := y_opY hI ha0
          have hzf : ∀ k, k ∈ ([1, 3, 5, 6, 7, 8, 11, 15, 16, 19, 25, 26, 27, 31, 32] : List Nat) → z120 k = z83 k := fun k hk => by have q9 := hzf k hk; rw [y_fiZ oY122 (s_sub (by decide) hk), y_fiZ oY85 (s_sub (by decide) hk)] at q9; exact q9
          have hz0 : ∀ k, k ∈ ([1, 3, 7, 8, 15, 19, 25, 26, 27, 31, 32] : List Nat) → z120 k = z0 k := fun k hk => (hzf k (s_sub (by decide) hk)).trans (hz0 k hk)
          have ev36 : v36 = z120 5 := ev36.trans (hzf 5 (by decide)).symm
          have ev37 : v37 = z120 16 := ev37.trans (hzf 16 (by decide)).symm
          have hfr : ∀ b, K b ∉ [9, 62, 64] → F115 b = F b := fun b hb9 => (hfr1 b (fun q => hb9 (s_sub (by decide) q))).trans (hfr b hb9)
          have rg125 : 0 ≤ r114.toInt ∧ r114.toInt ≤ 1 := ⟨by omega, by omega⟩
          refine va_calli (va_runS (As := [.int r114]) (rest := [.int 386, .ref (A 12)]) ⟨hx, hb, hml, hown, hts⟩ (y_X7_flag l dC dI H.size F115 r114 rg125) (cwS 1 hts (ax_gS T_1001 T_1003 T_265 T_1002) rfl rfl rfl (by decide +kernel) ⟨Nat.le_of_ble_eq_true rfl, Nat.le_of_ble_eq_true rfl⟩) ⟨fun a U g mk q => ⟨q.1, s_pc (U := U) rfl rfl q.2⟩, fun U hU hW => ⟨rfl, s_pw hU hW hP hK hD hN⟩⟩ rfl rfl hl.1 rfl (lv_room (Nat.le_of_ble_eq_true rfl)) dX7_statementTold_142 ⟨Nat.zero_le _, Nat.zero_le _⟩) hS (fun q _ h => h) (fun q h => h) (fun r127 F128 t H1 locs ht hvm hw hB hz1 hk1 hS => ?_)
          obtain ⟨hP, hK1⟩ := hB
          rw [ht] at hP
          generalize H1 = H at hP hS ⊢
          clear hz1 hk1 hvm hK1
          obtain ⟨h129, h131, hG9, h130⟩ := hw
          rw [hG9] at hP
          refine th_iast hx hb hK hP hD hS (hLK _ (y_k12 hA) (by decide)) 0 o119 rfl (ax_in (by decide)) dX7_statementTold_145 (fun H locs hP hS => ?_)
          obtain ⟨f132, u133⟩ : ∃ g : Nat → Int32, g = upd f33 (386 : Int32).toNatClampNeg r127 := ⟨_, rfl⟩
          rw [← u133] at hP
          have b134 : y_bd 12 f132 := by rw [u133]; exact th_updJ (P := fun y => 0 ≤ y.toInt ∧ y.toInt ≤ 40) b35 (fun q => absurd q (by decide))
          have hP : va_P (dC, dI) vwCl (va_pl L (va_up F115 (A 12) (.inl (cs 0, 400, .inl f132)))) H := hP
          obtain ⟨F135, hF136⟩ : ∃ G : Nat → va_E, G = va_up F115 (A 12) (.inl (cs 0, 400, .inl f132)) := ⟨_, rfl⟩
          rw [← hF136] at hP
          have hI : y_I K cs A F135 := by rw [hF136]; exact y_clA (i := 12) hA hI (by decide) b134
          have hfr : ∀ b, K b ∉ [9, 62, 64] → F135 b = F b := by rw [hF136]; exact s_fr hfr (y_k12 hA) (by decide)
          have oY137 : F135 a0 = .inr (7, y_fl A z120 q121) := by rw [hF136]; exact th_ne (th_kd ha0 (y_k12 hA) (by decide)) oY122
          have o138 : F135 (A 12) = .inl (cs 0, 400, .inl f132) := by rw [hF136]; exact th_up
          have u139 : ∀ j : Int, 0 ≤ j → y_c f132 j = if j = 386 then r127 else y_c f33 j := by rw [u133]; exact y_cu (by decide) (by decide)
          refine lv_aload_n hx hb dX7_statementTold_146 rfl (lv_at hl 1 rfl) ?_
          refine th_get (D := (dC, dI)) (ci := 7) (v := .ref (A 12)) (C := RX7) (T := TX7) (N := 34) hx hb hts inX7 hown hK hP (hLK _ ha0 (by decide)) oY137 rfl 12 (by decide) (hts _ T_245) (fun _ h9 => h9) rfl dX7_statementTold_147 ?_
          refine lv_sipush (v := 386) hx hb dX7_statementTold_150 (by decide) ?_
          refine th_iald hx hb hK hP (hLK _ (y_k12 hA) (by decide)) 0 o138 rfl (ax_in (by decide)) dX7_statementTold_153 ?_
          refine lv_topi (fun v140 ev140 => ?_)
          refine lv_if_ne (tgt := 214) hx hb dX7_statementTold_154 (by decide) (fun c141 => ?_) (fun c141 => ?_)
          · have c141 := mt (ax_eq (n := 0) (by decide)).mpr c141
            exact K214 _ _ _ ⟨F135, _, rfl, lv_sub hl [1] rfl, hP, hS, hI, hfr, (fun k hk => (y_fiZ oY137 (s_sub (by decide) hk)).trans (hz0 k hk)), (by rw [y_fiZ oY137 (k := 5) (by decide), ← ev36, y_atE o138]; exact (fun hd hg => y_DSp u139 (by omega) ⟨by omega, by omega⟩ (by rw [h25]; omega) (by rw [h25]; exact hd (by omega)))), (by first | (rw [y_fiZ oY137 (k := 5) (by decide), ← ev36, y_fiZ oY137 (k := 16) (by decide), ← ev37]; omega) | rw [y_fiZ oY137 (k := 5) (by decide), ← ev36, y_fiZ oY137 (k := 16) (by decide), ← ev37])⟩
          · have c141 := (ax_eq (n := 0) (by decide)).mp c141
            refine lv_aload_n hx hb dX7_statementTold_157 rfl (lv_at hl 1 rfl) ?_
            refine lv_bipush (v := 26) hx hb dX7_statementTold_158 (by decide) ?_
            have ep142_5 := ev36
            refine va_callv (va_runV (As := [.int 26]) (rest := []) ⟨hx, hb, hml, hown, hts⟩ (y_X7_asks l dC dI H.size hLK A hA F135 a0 26 ha0 hI) (cwV 1 hts (ax_gV T_297 T_298 T_299 T_265 T_29) rfl rfl rfl (by decide +kernel) ⟨Nat.le_of_ble_eq_true rfl, Nat.le_of_ble_eq_true rfl⟩) ⟨fun a U g mk q => ⟨q.1, s_pc (U := U) rfl rfl q.2⟩, s_recv hK hP (hLK _ ha0 (by decide)) (ci := 7) rfl oY137, fun U hU hW => ⟨rfl, s_pw hU hW hP hK hD hN⟩⟩ rfl rfl hl.1 rfl (lv_room (Nat.le_of_ble_eq_true rfl)) dX7_statementTold_160 ⟨Nat.zero_le _, Nat.zero_le _⟩) hS (fun q _ h => h) (fun q h => h) (fun F143 t H1 locs ht hvm hw hB hz1 hk1 hS => ?_)
            obtain ⟨hP, hK1⟩ := hB
            rw [ht] at hP
            generalize H1 = H at hP hS ⊢
            clear hz1 hk1 hvm hK1
            obtain ⟨h144, h146, hI, hfr1, hzf, h145⟩ := hw
            have o147 : F143 (A 12) = .inl (cs 0, 400, .inl f132) := (hfr1 _ (by rw [(y_k12 hA)]; decide)).trans o138
            obtain ⟨z148, q149, oY150, bz151, bq152⟩ := y_opY hI ha0
            have hzf : ∀ k, k ∈ ([1, 3, 7, 8, 11, 15, 16, 19, 25, 26, 27, 31, 32] : List Nat) → z148 k = z120 k := fun k hk => by have q9 := hzf k hk; rw [y_fiZ oY150 (s_sub (by decide) hk), y_fiZ oY137 (s_sub (by decide) hk)] at q9; exact q9
            have hz0 : ∀ k, k ∈ ([1, 3, 7, 8, 15, 19, 25, 26, 27, 31, 32] : List Nat) → z148 k = z0 k := fun k hk => (hzf k (s_sub (by decide) hk)).trans (hz0 k hk)
            have ev37 : v37 = z148 16 := ev37.trans (hzf 16 (by decide)).symm
            have hfr : ∀ b, K b ∉ [9, 62, 64] → F143 b = F b := fun b hb9 => (hfr1 b (fun q => hb9 (s_sub (by decide) q))).trans (hfr b hb9)
            obtain ⟨v153, ev153⟩ : ∃ y : Int32, y = z148 5 := ⟨_, rfl⟩
            replace h145 : (v36.toInt = 0 ∨ ¬ v153.toInt = 0) := by have q9 := h145; rw [y_fiZ oY137 (k := 5) (by decide), ← ep142_5, y_fiZ oY150 (k := 5) (by decide), ← ev153] at q9; exact q9
            refine lv_goto (tgt := 214) hx hb dX7_statementTold_163 (by decide) ?_
            exact K214 _ _ _ ⟨F143, _, rfl, lv_sub hl [1] rfl, hP, hS, hI, hfr, (fun k hk => (y_fiZ oY150 (s_sub (by decide) hk)).trans (hz0 k hk)), (by rw [y_fiZ oY150 (k := 5) (by decide), ← ev153, y_atE o147]; exact (fun hd hg => y_DSp u139 (by omega) ⟨by omega, by omega⟩ (by rw [h25]; omega) (by rw [h25]; exact hd (by omega)))), (by first | (rw [y_fiZ oY150 (k := 5) (by decide), ← ev153, y_fiZ oY150 (k := 16) (by decide), ← ev37]; omega) | rw [y_fiZ oY150 (k := 5) (by decide), ← ev153, y_fiZ oY150 (k := 16) (by decide), ← ev37])⟩
      · have c75 := mt (ax_eq (n := 0) (by decide)).mpr c75
        refine lv_aload_n hx hb dX7_statementTold_83 rfl (lv_at hl 1 rfl) ?_
        refine th_get (D := (dC, dI)) (ci := 7) (v := .ref (A 12)) (C := RX7) (T := TX7) (N := 34) hx hb hts inX7 hown hK hP (hLK _ ha0 (by decide)) oY72 rfl 12 (by decide) (hts _ T_245) (fun _ h9 => h9) rfl dX7_statementTold_84 ?_
        refine lv_sipush (v := 385) hx hb dX7_statementTold_87 (by decide) ?_
        refine lv_aload_n hx hb dX7_statementTold_90 rfl (lv_at hl 1 rfl) ?_
        refine lv_bipush (v := 24) hx hb dX7_statementTold_91 (by decide) ?_
        refine va_calli (va_runV (As := [.int 24]) (rest := [.int 385, .ref (A 12)]) ⟨hx, hb, hml, hown, hts⟩ (y_X7_takes l dC dI H.size hLK A hA F65 a0 24 ha0 hI) (cwV 1 hts (ax_gV T_287 T_288 T_289 T_265 T_26) rfl rfl rfl (by decide +kernel) ⟨Nat.le_of_ble_eq_true rfl, Nat.le_of_ble_eq_true rfl⟩) ⟨fun a U g mk q => ⟨q.1, s_pc (U := U) rfl rfl q.2⟩, s_recv hK hP (hLK _ ha0 (by decide)) (ci := 7) rfl oY72, fun U hU hW => ⟨rfl, s_pw hU hW hP hK hD hN⟩⟩ rfl rfl hl.1 rfl (lv_room (Nat.le_of_ble_eq_true rfl)) dX7_statementTold_93 ⟨Nat.zero_le _, Nat.zero_le _⟩) hS (fun q _ h => h) (fun q h => h) (fun r155 F156 t H1 locs ht hvm hw hB hz1 hk1 hS => ?_)
        obtain ⟨hP, hK1⟩ := hB
        rw [ht] at hP
        generalize H1 = H at hP hS ⊢
        clear hz1 hk1 hvm hK1
        obtain ⟨h157, h159, hI, hfr1, hzf, h158⟩ := hw
        have o160 : F156 (A 12) = .inl (cs 0, 400, .inl f33) := (hfr1 _ (by rw [(y_k12 hA)]; decide)).trans o69
        obtain ⟨z161, q162, oY163, bz164, bq165⟩ := y_opY hI ha0
        have hzf : ∀ k, k ∈ ([1, 3, 5, 6, 7, 8, 11, 15, 16, 19, 25, 26, 27, 31, 32] : List Nat) → z161 k = z70 k := fun k hk => by have q9 := hzf k hk; rw [y_fiZ oY163 (s_sub (by decide) hk), y_fiZ oY72 (s_sub (by decide) hk)] at q9; exact q9
        have hz0 : ∀ k, k ∈ ([1, 3, 7, 8, 15, 19, 25, 26, 27, 31, 32] : List Nat) → z161 k = z0 k := fun k hk => (hzf k (s_sub (by decide) hk)).trans (hz0 k hk)
        have ev36 : v36 = z161 5 := ev36.trans (hzf 5 (by decide)).symm
        have ev37 : v37 = z161 16 := ev37.trans (hzf 16 (by decide)).symm
        have hfr : ∀ b, K b ∉ [9, 62, 64] → F156 b = F b := fun b hb9 => (hfr1 b (fun q => hb9 (s_sub (by decide) q))).trans (hfr b hb9)
        have rg166 : 0 ≤ r155.toInt ∧ r155.toInt ≤ 1 := ⟨by omega, by omega⟩
        refine va_calli (va_runS (As := [.int r155]) (rest := [.int 385, .ref (A 12)]) ⟨hx, hb, hml, hown, hts⟩ (y_X7_flag l dC dI H.size F156 r155 rg166) (cwS 1 hts (ax_gS T_1001 T_1003 T_265 T_1002) rfl rfl rfl (by decide +kernel) ⟨Nat.le_of_ble_eq_true rfl, Nat.le_of_ble_eq_true rfl⟩) ⟨fun a U g mk q => ⟨q.1, s_pc (U := U) rfl rfl q.2⟩, fun U hU hW => ⟨rfl, s_pw hU hW hP hK hD hN⟩⟩ rfl rfl hl.1 rfl (lv_room (Nat.le_of_ble_eq_true rfl)) dX7_statementTold_96 ⟨Nat.zero_le _, Nat.zero_le _⟩) hS (fun q _ h => h) (fun q h => h) (fun r168 F169 t H1 locs ht hvm hw hB hz1 hk1 hS => ?_)
        obtain ⟨hP, hK1⟩ := hB
        rw [ht] at hP
        generalize H1 = H at hP hS ⊢
        clear hz1 hk1 hvm hK1
        obtain ⟨h170, h172, hG9, h171⟩ := hw
        rw [hG9] at hP
        refine th_iast hx hb hK hP hD hS (hLK _ (y_k12 hA) (by decide)) 0 o160 rfl (ax_in (by decide)) dX7_statementTold_99 (fun H locs hP hS => ?_)
        obtain ⟨f173, u174⟩ : ∃ g : Nat → Int32, g = upd f33 (385 : Int32).toNatClampNeg r168 := ⟨_, rfl⟩
        rw [← u174] at hP
        have b175 : y_bd 12 f173 := by rw [u174]; exact th_updJ (P := fun y => 0 ≤ y.toInt ∧ y.toInt ≤ 40) b35 (fun q => absurd q (by decide))
        have hP : va_P (dC, dI) vwCl (va_pl L (va_up F156 (A 12) (.inl (cs 0, 400, .inl f173)))) H := hP
        obtain ⟨F176, hF177⟩ : ∃ G : Nat → va_E, G = va_up F156 (A 12) (.inl (cs 0, 400, .inl f173)) := ⟨_, rfl⟩
        rw [← hF177] at hP
        have hI : y_I K cs A F176 := by rw [hF177]; exact y_clA (i := 12) hA hI (by decide) b175
        have hfr : ∀ b, K b ∉ [9, 62, 64] → F176 b = F b := by rw [hF177]; exact s_fr hfr (y_k12 hA) (by decide)
        have oY178 : F176 a0 = .inr (7, y_fl A z161 q162) := by rw [hF177]; exact th_ne (th_kd ha0 (y_k12 hA) (by decide)) oY163
        have o179 : F176 (A 12) = .inl (cs 0, 400, .inl f173) := by rw [hF177]; exact th_up
        have u180 : ∀ j : Int, 0 ≤ j → y_c f173 j = if j = 385 then r168 else y_c f33 j := by rw [u174]; exact y_cu (by decide) (by decide)
        refine lv_aload_n hx hb dX7_statementTold_100 rfl (lv_at hl 1 rfl) ?_
        refine th_get (D := (dC, dI)) (ci := 7) (v := .ref (A 12)) (C := RX7) (T := TX7) (N := 34) hx hb hts inX7 hown hK hP (hLK _ ha0 (by decide)) oY178 rfl 12 (by decide) (hts _ T_245) (fun _ h9 => h9) rfl dX7_statementTold_101 ?_
        refine lv_sipush (v := 385) hx hb dX7_statementTold_104 (by decide) ?_
        refine th_iald hx hb hK hP (hLK _ (y_k12 hA) (by decide)) 0 o179 rfl (ax_in (by decide)) dX7_statementTold_107 ?_
        refine lv_topi (fun v181 ev181 => ?_)
        refine lv_if_ne (tgt := 214) hx hb dX7_statementTold_108 (by decide) (fun c182 => ?_) (fun c182 => ?_)
        · have c182 := mt (ax_eq (n := 0) (by decide)).mpr c182
          exact K214 _ _ _ ⟨F176, _, rfl, lv_sub hl [1] rfl, hP, hS, hI, hfr, (fun k hk => (y_fiZ oY178 (s_sub (by decide) hk)).trans (hz0 k hk)), (by rw [y_fiZ oY178 (k := 5) (by decide), ← ev36, y_atE o179]; exact (fun hd hg => y_DSp u180 (by omega) ⟨by omega, by omega⟩ (by rw [h25]; omega) (by rw [h25]; exact hd (by omega)))), (by first | (rw [y_fiZ oY178 (k := 5) (by decide), ← ev36, y_fiZ oY178 (k := 16) (by decide), ← ev37]; omega) | rw [y_fiZ oY178 (k := 5) (by decide), ← ev36, y_fiZ oY178 (k := 16) (by decide), ← ev37])⟩
        · have c182 := (ax_eq (n := 0) (by decide)).mp c182
          refine lv_aload_n hx hb dX7_statementTold_111 rfl (lv_at hl 1 rfl) ?_
          refine lv_bipush (v := 23) hx hb dX7_statementTold_112 (by decide) ?_
          have ep183_5 := ev36
          refine va_callv (va_runV (As := [.int 23]) (rest := []) ⟨hx, hb, hml, hown, hts⟩ (y_X7_asks l dC dI H.size hLK A hA F176 a0 23 ha0 hI) (cwV 1 hts (ax_gV T_297 T_298 T_299 T_265 T_29) rfl rfl rfl (by decide +kernel) ⟨Nat.le_of_ble_eq_true rfl, Nat.le_of_ble_eq_true rfl⟩) ⟨fun a U g mk q => ⟨q.1, s_pc (U := U) rfl rfl q.2⟩, s_recv hK hP (hLK _ ha0 (by decide)) (ci := 7) rfl oY178, fun U hU hW => ⟨rfl, s_pw hU hW hP hK hD hN⟩⟩ rfl rfl hl.1 rfl (lv_room (Nat.le_of_ble_eq_true rfl)) dX7_statementTold_114 ⟨Nat.zero_le _, Nat.zero_le _⟩) hS (fun q _ h => h) (fun q h => h) (fun F184 t H1 locs ht hvm hw hB hz1 hk1 hS => ?_)
          obtain ⟨hP, hK1⟩ := hB
          rw [ht] at hP
          generalize H1 = H at hP hS ⊢
          clear hz1 hk1 hvm hK1
          obtain ⟨h185, h187, hI, hfr1, hzf, h186⟩ := hw
          have o188 : F184 (A 12) = .inl (cs 0, 400, .inl f173) := (hfr1 _ (by rw [(y_k12 hA)]; decide)).trans o179
          obtain ⟨z189, q190, oY191, bz192, bq193⟩ := y_opY hI ha0
          have hzf : ∀ k, k ∈ ([1, 3, 7, 8, 11, 15, 16, 19, 25, 26, 27, 31, 32] : List Nat) → z189 k = z161 k := fun k hk => by have q9 := hzf k hk; rw [y_fiZ oY191 (s_sub (by decide) hk), y_fiZ oY178 (s_sub (by decide) hk)] at q9; exact q9
          have hz0 : ∀ k, k ∈ ([1, 3, 7, 8, 15, 19, 25, 26, 27, 31, 32] : List Nat) → z189 k = z0 k := fun k hk => (hzf k (s_sub (by decide) hk)).trans (hz0 k hk)
          have ev37 : v37 = z189 16 := ev37.trans (hzf 16 (by decide)).symm
          have hfr : ∀ b, K b ∉ [9, 62, 64] → F184 b = F b := fun b hb9 => (hfr1 b (fun q => hb9 (s_sub (by decide) q))).trans (hfr b hb9)
          obtain ⟨v194, ev194⟩ : ∃ y : Int32, y = z189 5 := ⟨_, rfl⟩
          replace h186 : (v36.toInt = 0 ∨ ¬ v194.toInt = 0) := by have q9 := h186; rw [y_fiZ oY178 (k := 5) (by decide), ← ep183_5, y_fiZ oY191 (k := 5) (by decide), ← ev194] at q9; exact q9
          refine lv_goto (tgt := 214) hx hb dX7_statementTold_117 (by decide) ?_
          exact K214 _ _ _ ⟨F184, _, rfl, lv_sub hl [1] rfl, hP, hS, hI, hfr, (fun k hk => (y_fiZ oY191 (s_sub (by decide) hk)).trans (hz0 k hk)), (by rw [y_fiZ oY191 (k := 5) (by decide), ← ev194, y_atE o188]; exact (fun hd hg => y_DSp u180 (by omega) ⟨by omega, by omega⟩ (by rw [h25]; omega) (by rw [h25]; exact hd (by omega)))), (by first | (rw [y_fiZ oY191 (k := 5) (by decide), ← ev194, y_fiZ oY191 (k := 16) (by decide), ← ev37]; omega) | rw [y_fiZ oY191 (k := 5) (by decide), ← ev194, y_fiZ oY191 (k := 16) (by decide), ← ev37])⟩
    · have c62 := mt (ax_eq (n := 0) (by decide)).mpr c62
      refine lv_aload_n hx hb dX7_statementTold_34 rfl (lv_at hl 1 rfl) ?_
      refine lv_iconst (v := 0) hx hb dX7_statementTold_35 (by decide) ?_
      refine lv_bipush (v := 63) hx hb dX7_statementTold_36 (by decide) ?_
      have ep195_5 := ev36
      refine va_calli (va_runV (As := [.int 0, .int 63]) (rest := []) ⟨hx, hb, hml, hown, hts⟩ (y_X7_number l dC dI H.size hLK A hA F52 a0 0 63 ha0 hI) (cwV 2 hts (ax_gV T_300 T_301 T_302 T_265 T_30) rfl rfl rfl (by decide +kernel) ⟨Nat.le_of_ble_eq_true rfl, Nat.le_of_ble_eq_true rfl⟩) ⟨fun a U g mk q => ⟨q.1, s_pc (U := U) rfl rfl q.2⟩, s_recv hK hP (hLK _ ha0 (by decide)) (ci := 7) rfl oY59, fun U hU hW => ⟨rfl, s_pw hU hW hP hK hD hN⟩⟩ rfl rfl hl.1 rfl (lv_room (Nat.le_of_ble_eq_true rfl)) dX7_statementTold_38 ⟨Nat.zero_le _, Nat.zero_le _⟩) hS (fun q _ h => h) (fun q h => h) (fun r196 F197 t H1 locs ht hvm hw hB hz1 hk1 hS => ?_)
      obtain ⟨hP, hK1⟩ := hB
      rw [ht] at hP
      generalize H1 = H at hP hS ⊢
      clear hz1 hk1 hvm hK1
      obtain ⟨h198, h200, hI, hfr1, hzf, h199⟩ := hw
      have o201 : F197 (A 12) = .inl (cs 0, 400, .inl f33) := (hfr1 _ (by rw [(y_k12 hA)]; decide)).trans o56
      obtain ⟨z202, q203, oY204, bz205, bq206⟩ := y_opY hI ha0
      have hzf : ∀ k, k ∈ ([1, 3, 7, 8, 11, 15, 16, 19, 25, 26, 27, 31, 32] : List Nat) → z202 k = z57 k := fun k hk => by have q9 := hzf k hk; rw [y_fiZ oY204 (s_sub (by decide) hk), y_fiZ oY59 (s_sub (by decide) hk)] at q9; exact q9
      have hz0 : ∀ k, k ∈ ([1, 3, 7, 8, 15, 19, 25, 26, 27, 31, 32] : List Nat) → z202 k = z0 k := fun k hk => (hzf k (s_sub (by decide) hk)).trans (hz0 k hk)
      have ev37 : v37 = z202 16 := ev37.trans (hzf 16 (by decide)).symm
      have hfr : ∀ b, K b ∉ [9, 62, 64] → F197 b = F b := fun b hb9 => (hfr1 b (fun q => hb9 (s_sub (by decide) q))).trans (hfr b hb9)
      obtain ⟨v207, ev207⟩ : ∃ y : Int32, y = z202 5 := ⟨_, rfl⟩
      replace h199 : ((v36.toInt = 0 ∨ ¬ v207.toInt = 0) ∧ (v207.toInt = 0 → 0 ≤ r196.toInt ∧ r196.toInt ≤ 63)) := by have q9 := h199; rw [y_fiZ oY59 (k := 5) (by decide), ← ep195_5, y_fiZ oY204 (k := 5) (by decide), ← ev207] at q9; exact q9
      refine lv_istore_n (lv' := [(3, .int r196), (2, .int r39), (0, .ref a0), (1, .int w9)]) hx hb dX7_statementTold_41 rfl hl (by decide) rfl (fun ls hl => ?_)
      refine lv_aload_n hx hb dX7_statementTold_42 rfl (lv_at hl 2 rfl) ?_
      refine lv_iconst (v := 0) hx hb dX7_statementTold_43 (by decide) ?_
      refine lv_sipush (v := 999) hx hb dX7_statementTold_44 (by decide) ?_
      have ep208_5 := ev207
      refine va_calli (va_runV (As := [.int 0, .int 999]) (rest := []) ⟨hx, hb, hml, hown, hts⟩ (y_X7_number l dC dI H.size hLK A hA F197 a0 0 999 ha0 hI) (cwV 2 hts (ax_gV T_300 T_301 T_302 T_265 T_30) rfl rfl rfl (by decide +kernel) ⟨Nat.le_of_ble_eq_true rfl, Nat.le_of_ble_eq_true rfl⟩) ⟨fun a U g mk q => ⟨q.1, s_pc (U := U) rfl rfl q.2⟩, s_recv hK hP (hLK _ ha0 (by decide)) (ci := 7) rfl oY204, fun U hU hW => ⟨rfl, s_pw hU hW hP hK hD hN⟩⟩ rfl rfl hl.1 rfl (lv_room (Nat.le_of_ble_eq_true rfl)) dX7_statementTold_47 ⟨Nat.zero_le _, Nat.zero_le _⟩) hS (fun q _ h => h) (fun q h => h) (fun r209 F210 t H1 locs ht hvm hw hB hz1 hk1 hS => ?_)
      obtain ⟨hP, hK1⟩ := hB
      rw [ht] at hP
      generalize H1 = H at hP hS ⊢
      clear hz1 hk1 hvm hK1
      obtain ⟨h211, h213, hI, hfr1, hzf, h212⟩ := hw
      have o214 : F210 (A 12) = .inl (cs 0, 400, .inl f33) := (hfr1 _ (by rw [(y_k12 hA)]; decide)).trans o201
      obtain ⟨z215, q216, oY217, bz218, bq219⟩ := y_opY hI ha0
      have hzf : ∀ k, k ∈ ([1, 3, 7, 8, 11, 15, 16, 19, 25, 26, 27, 31, 32] : List Nat) → z215 k = z202 k := fun k hk => by have q9 := hzf k hk; rw [y_fiZ oY217 (s_sub (by decide) hk), y_fiZ oY204 (s_sub (by decide) hk)] at q9; exact q9
      have hz0 : ∀ k, k ∈ ([1, 3, 7, 8, 15, 19, 25, 26, 27, 31, 32] : List Nat) → z215 k = z0 k := fun k hk => (hzf k (s_sub (by decide) hk)).trans (hz0 k hk)
      have ev37 : v37 = z215 16 := ev37.trans (hzf 16 (by decide)).symm
      have hfr : ∀ b, K b ∉ [9, 62, 64] → F210 b = F b := fun b hb9 => (hfr1 b (fun q => hb9 (s_sub (by decide) q))).trans (hfr b hb9)
      obtain ⟨v220, ev220⟩ : ∃ y : Int32, y = z215 5 := ⟨_, rfl⟩
      replace h212 : ((v207.toInt = 0 ∨ ¬ v220.toInt = 0) ∧ (v220.toInt = 0 → 0 ≤ r209.toInt ∧ r209.toInt ≤ 999)) := by have q9 := h212; rw [y_fiZ oY204 (k := 5) (by decide), ← ep208_5, y_fiZ oY217 (k := 5) (by decide), ← ev220] at q9; exact q9
      refine lv_istore (lv' := [(4, .int r209), (3, .int r196), (2, .int r39), (0, .ref a0), (1, .int w9)]) hx hb dX7_statementTold_50 hl (by decide) rfl (fun ls hl => ?_)
      refine lv_aload_n hx hb dX7_statementTold_52 rfl (lv_at hl 3 rfl) ?_
      refine th_get (D := (dC, dI)) (ci := 7) (v := .int (z215 5)) (C := RX7) (T := TX7) (N := 34) hx hb hts inX7 hown hK hP (hLK _ ha0 (by decide)) oY217 rfl 5 (by decide) (hts _ T_274) (fun _ h9 => h9) rfl dX7_statementTold_53 ?_
      refine ax_eqi (y := v220) ev220.symm ?_
      refine lv_if_ne (tgt := 71) hx hb dX7_statementTold_56 (by decide) (fun c221 => ?_) (fun c221 => ?_)
      · have c221 := mt (ax_eq (n := 0) (by decide)).mpr c221
        refine lv_goto (tgt := 214) hx hb dX7_statementTold_71 (by decide) ?_
        exact K214 _ _ _ ⟨F210, _, rfl, lv_sub hl [3] rfl, hP, hS, hI, hfr, (fun k hk => (y_fiZ oY217 (s_sub (by decide) hk)).trans (hz0 k hk)), (by rw [y_fiZ oY217 (k := 5) (by decide), ← ev220, y_atE o214]; exact (fun hd hg => (by rw [h25]; exact hd (by omega)))), (by first | (rw [y_fiZ oY217 (k := 5) (by decide), ← ev220, y_fiZ oY217 (k := 16) (by decide), ← ev37]; omega) | rw [y_fiZ oY217 (k := 5) (by decide), ← ev220, y_fiZ oY217 (k := 16) (by decide), ← ev37])⟩
      · have c221 := (ax_eq (n := 0) (by decide)).mp c221
        refine lv_aload_n hx hb dX7_statementTold_59 rfl (lv_at hl 3 rfl) ?_
        refine th_get (D := (dC, dI)) (ci := 7) (v := .ref (A 12)) (C := RX7) (T := TX7) (N := 34) hx hb hts inX7 hown hK hP (hLK _ ha0 (by decide)) oY217 rfl 12 (by decide) (hts _ T_245) (fun _ h9 => h9) rfl dX7_statementTold_60 ?_
        refine lv_sipush (v := 320) hx hb dX7_statementTold_63 (by decide) ?_
        refine lv_iload_n hx hb dX7_statementTold_66 rfl (lv_at hl 1 rfl) ?_
        have h222 : 0 ≤ r196.toInt ∧ r196.toInt ≤ 63 := ⟨by omega, by omega⟩
        refine lv_iadd hx hb dX7_statementTold_67 ?_
        refine lv_topi (fun v223 ev223 => ?_)
        have qv223 : v223.toInt = 320 + r196.toInt := by rw [ev223]; exact th_add (by decide) rfl ⟨by omega, by omega⟩
        refine lv_iload hx hb dX7_statementTold_68 (lv_at hl 0 rfl) ?_
        refine th_iast hx hb hK hP hD hS (hLK _ (y_k12 hA) (by decide)) 0 o214 rfl (th_in ⟨by omega, by omega⟩) dX7_statementTold_70 (fun H locs hP hS => ?_)
        obtain ⟨f224, u225⟩ : ∃ g : Nat → Int32, g = upd f33 (v223 : Int32).toNatClampNeg r209 := ⟨_, rfl⟩
        rw [← u225] at hP
        have b226 : y_bd 12 f224 := by rw [u225]; exact th_updJ (P := fun y => 0 ≤ y.toInt ∧ y.toInt ≤ 40) b35 (fun q => by have q2 := th_tn (by omega) q; omega)
        have hP : va_P (dC, dI) vwCl (va_pl L (va_up F210 (A 12) (.inl (cs 0, 400, .inl f224)))) H := hP
        obtain ⟨F227, hF228⟩ : ∃ G : Nat → va_E, G = va_up F210 (A 12) (.inl (cs 0, 400, .inl f224)) := ⟨_, rfl⟩
        rw [← hF228] at hP
        have hI : y_I K cs A F227 := by rw [hF228]; exact y_clA (i := 12) hA hI (by decide) b226
        have hfr : ∀ b, K b ∉ [9, 62, 64] → F227 b = F b := by rw [hF228]; exact s_fr hfr (y_k12 hA) (by decide)
        have oY229 : F227 a0 = .inr (7, y_fl A z215 q216) := by rw [hF228]; exact th_ne (th_kd ha0 (y_k12 hA) (by decide)) oY217
        have o230 : F227 (A 12) = .inl (cs 0, 400, .inl f224) := by rw [hF228]; exact th_up
        have u231 : ∀ j : Int, 0 ≤ j → y_c f224 j = if j = v223.toInt then r209 else y_c f33 j := by rw [u225]; exact y_cu rfl (by omega)
        refine lv_goto (tgt := 214) hx hb dX7_statementTold_71 (by decide) ?_
        exact K214 _ _ _ ⟨F227, _, rfl, lv_sub hl [3] rfl, hP, hS, hI, hfr, (fun k hk => (y_fiZ oY229 (s_sub (by decide) hk)).trans (hz0 k hk)), (by rw [y_fiZ oY229 (k := 5) (by decide), ← ev220, y_atE o230]; exact (fun hd hg => y_DSC (d := f33) (fun j h0 h1 => by rw [u231 j h0, if_neg (by omega)]) (by rw [h25]; omega) (by rw [h25]; exact hd (by omega)))), (by first | (rw [y_fiZ oY229 (k := 5) (by decide), ← ev220, y_fiZ oY229 (k := 16) (by decide), ← ev37]; omega) | rw [y_fiZ oY229 (k := 5) (by decide), ← ev220, y_fiZ oY229 (k := 16) (by decide), ← ev37])⟩
  · intro g H locs hq
    obtain ⟨F236, ls, w7, w8, rfl, hl, hP, hS, hI, hfr, hz0, h232, h233, h234, h235⟩ := hq
    obtain ⟨z237, q238, oY239, bz240, bq241⟩ := y_opY hI ha0
    have hz0 : ∀ k, k ∈ ([1, 3, 7, 8, 15, 19, 25, 26, 27, 31, 32] : List Nat) → z237 k = z0 k := fun k hk => (y_fiZ oY239 (s_sub (by decide) hk)).symm.trans (hz0 k hk)
    obtain ⟨f242, o243, b244⟩ := y_op12 hI
    replace h234 : f242 = f1 := by have q9 := h234; rw [y_atE o243] at q9; exact q9
    obtain ⟨v245, ev245⟩ : ∃ y : Int32, y = z237 5 := ⟨_, rfl⟩
    obtain ⟨v246, ev246⟩ : ∃ y : Int32, y = z237 16 := ⟨_, rfl⟩
    replace h235 : ((v4.toInt = 0 ∨ ¬ v245.toInt = 0) ∧ (v5.toInt = 80 → ¬ v245.toInt = 0) ∧ v246.toInt = v5.toInt) := by have q9 := h235; rw [y_fiZ oY239 (k := 5) (by decide), ← ev245, y_fiZ oY239 (k := 16) (by decide), ← ev246] at q9; exact q9
    refine lv_aload_n hx hb dX7_statementTold_190 rfl (lv_at hl 0 rfl) ?_
    refine lv_iload_n hx hb dX7_statementTold_191 rfl (lv_at hl 1 rfl) ?_
    refine lv_iload_n hx hb dX7_statementTold_192 rfl (lv_at hl 2 rfl) ?_
    refine lv_iconst (v := (-1)) hx hb dX7_statementTold_193 (by decide) ?_
    refine lv_icmp_ne (tgt := 201) hx hb dX7_statementTold_194 (by decide) (fun c247 => ?_) (fun c247 => ?_)
    · have c247 := mt (ax_eq (n := (-1)) (by decide)).mpr c247
      refine lv_iconst (v := 0) hx hb dX7_statementTold_201 (by decide) ?_
      have ep248_5 := ev245
      refine va_callv (va_runV (As := [.int w7, .int 0]) (rest := []) ⟨hx, hb, hml, hown, hts⟩ (y_X7_lineBegins l dC dI H.size hLK A hA F236 a0 w7 0 ha0 (by decide) hI) (cwV 2 hts (ax_gV T_1311 T_1313 T_1314 T_265 T_1312) rfl rfl rfl (by decide +kernel) ⟨Nat.le_of_ble_eq_true rfl, Nat.le_of_ble_eq_true rfl⟩) ⟨fun a U g mk q => ⟨q.1, s_pc (U := U) rfl rfl q.2⟩, s_recv hK hP (hLK _ ha0 (by decide)) (ci := 7) rfl oY239, fun U hU hW => ⟨rfl, s_pw hU hW hP hK hD hN⟩⟩ rfl rfl hl.1 rfl (lv_room (Nat.le_of_ble_eq_true rfl)) dX7_statementTold_202 ⟨Nat.zero_le _, Nat.zero_le _⟩) hS (fun q _ h => h) (fun q h => h) (fun F249 t H1 locs ht hvm hw hB hz1 hk1 hS => ?_)
      obtain ⟨hP, hK1⟩ := hB
      rw [ht] at hP
      generalize H1 = H at hP hS ⊢
      clear hz1 hk1 hvm hK1
      obtain ⟨h250, h252, hI, hfr1, hzf, h251⟩ := hw
      obtain ⟨z253, q254, oY255, bz256, bq257⟩ := y_opY hI ha0
      have hzf : ∀ k, k ∈ ([1, 3, 7, 8, 15, 16, 19, 25, 26, 27, 31, 32] : List Nat) → z253 k = z237 k := fun k hk => by have q9 := hzf k hk; rw [y_fiZ oY255 (s_sub (by decide) hk), y_fiZ oY239 (s_sub (by decide) hk)] at q9; exact q9
      have hz0 : ∀ k, k ∈ ([1, 3, 7, 8, 15, 19, 25, 26, 27, 31, 32] : List Nat) → z253 k = z0 k := fun k hk => (hzf k (s_sub (by decide) hk)).trans (hz0 k hk)
      have ev246 : v246 = z253 16 := ev246.trans (hzf 16 (by decide)).symm
      have hfr : ∀ b, K b ∉ [9, 62, 64] → F249 b = F b := fun b hb9 => (hfr1 b (fun q => hb9 (s_sub (by decide) q))).trans (hfr b hb9)
      obtain ⟨v258, ev258⟩ : ∃ y : Int32, y = z253 5 := ⟨_, rfl⟩
      obtain ⟨f259, o260, b261⟩ := y_op12 hI
      replace h251 : ((v245.toInt = 0 ∨ ¬ v258.toInt = 0) ∧ ((v245.toInt = 0 → y_DS f242) → v258.toInt = 0 → y_DS f259)) := by have q9 := h251; rw [y_fiZ oY239 (k := 5) (by decide), ← ep248_5, y_fiZ oY255 (k := 5) (by decide), ← ev258, y_atE o243, y_atE o260] at q9; exact q9
      refine lv_goto (tgt := 214) hx hb dX7_statementTold_205 (by decide) ?_
      exact K214 _ _ _ ⟨F249, _, rfl, lv_sub hl [0] rfl, hP, hS, hI, hfr, (fun k hk => (y_fiZ oY255 (s_sub (by decide) hk)).trans (hz0 k hk)), (by rw [y_fiZ oY255 (k := 5) (by decide), ← ev258, y_atE o260]; exact (fun hd hg => h251.2 (fun hb => (by rw [h234]; exact hd (by omega))) hg)), (by first | (rw [y_fiZ oY255 (k := 5) (by decide), ← ev258, y_fiZ oY255 (k := 16) (by decide), ← ev246]; omega) | rw [y_fiZ oY255 (k := 5) (by decide), ← ev258, y_fiZ oY255 (k := 16) (by decide), ← ev246])⟩
    · have c247 := (ax_eq (n := (-1)) (by decide)).mp c247
      refine lv_iconst (v := 1) hx hb dX7_statementTold_197 (by decide) ?_
      refine lv_goto (tgt := 202) hx hb dX7_statementTold_198 (by decide) ?_
      have ep262_5 := ev245
      refine va_callv (va_runV (As := [.int w7, .int 1]) (rest := []) ⟨hx, hb, hml, hown, hts⟩ (y_X7_lineBegins l dC dI H.size hLK A hA F236 a0 w7 1 ha0 (by decide) hI) (cwV 2 hts (ax_gV T_1311 T_1313 T_1314 T_265 T_1312) rfl rfl rfl (by decide +kernel) ⟨Nat.le_of_ble_eq_true rfl, Nat.le_of_ble_eq_true rfl⟩) ⟨fun a U g mk q => ⟨q.1, s_pc (U := U) rfl rfl q.2⟩, s_recv hK hP (hLK _ ha0 (by decide)) (ci := 7) rfl oY239, fun U hU hW => ⟨rfl, s_pw hU hW hP hK hD hN⟩⟩ rfl rfl hl.1 rfl (lv_room (Nat.le_of_ble_eq_true rfl)) dX7_statementTold_202 ⟨Nat.zero_le _, Nat.zero_le _⟩) hS (fun q _ h => h) (fun q h => h) (fun F263 t H1 locs ht hvm hw hB hz1 hk1 hS => ?_)
      obtain ⟨hP, hK1⟩ := hB
      rw [ht] at hP
      generalize H1 = H at hP hS ⊢
      clear hz1 hk1 hvm hK1
      obtain ⟨h264, h266, hI, hfr1, hzf, h265⟩ := hw
      obtain ⟨z267, q268, oY269, bz270, bq271⟩ := y_opY hI ha0
      have hzf : ∀ k, k ∈ ([1, 3, 7, 8, 15, 16, 19, 25, 26, 27, 31, 32] : List Nat) → z267 k = z237 k := fun k hk => by have q9 := hzf k hk; rw [y_fiZ oY269 (s_sub (by decide) hk), y_fiZ oY239 (s_sub (by decide) hk)] at q9; exact q9
      have hz0 : ∀ k, k ∈ ([1, 3, 7, 8, 15, 19, 25, 26, 27, 31, 32] : List Nat) → z267 k = z0 k := fun k hk => (hzf k (s_sub (by decide) hk)).trans (hz0 k hk)
      have ev246 : v246 = z267 16 := ev246.trans (hzf 16 (by decide)).symm
      have hfr : ∀ b, K b ∉ [9, 62, 64] → F263 b = F b := fun b hb9 => (hfr1 b (fun q => hb9 (s_sub (by decide) q))).trans (hfr b hb9)
      obtain ⟨v272, ev272⟩ : ∃ y : Int32, y = z267 5 := ⟨_, rfl⟩
      obtain ⟨f273, o274, b275⟩ := y_op12 hI
      replace h265 : ((v245.toInt = 0 ∨ ¬ v272.toInt = 0) ∧ ((v245.toInt = 0 → y_DS f242) → v272.toInt = 0 → y_DS f273)) := by have q9 := h265; rw [y_fiZ oY239 (k := 5) (by decide), ← ep262_5, y_fiZ oY269 (k := 5) (by decide), ← ev272, y_atE o243, y_atE o274] at q9; exact q9
      refine lv_goto (tgt := 214) hx hb dX7_statementTold_205 (by decide) ?_
      exact K214 _ _ _ ⟨F263, _, rfl, lv_sub hl [0] rfl, hP, hS, hI, hfr, (fun k hk => (y_fiZ oY269 (s_sub (by decide) hk)).trans (hz0 k hk)), (by rw [y_fiZ oY269 (k := 5) (by decide), ← ev272, y_atE o274]; exact (fun hd hg => h265.2 (fun hb => (by rw [h234]; exact hd (by omega))) hg)), (by first | (rw [y_fiZ oY269 (k := 5) (by decide), ← ev272, y_fiZ oY269 (k := 16) (by decide), ← ev246]; omega) | rw [y_fiZ oY269 (k := 5) (by decide), ← ev272, y_fiZ oY269 (k := 16) (by decide), ← ev246])⟩
  · intro g H locs hq
    obtain ⟨F279, ls, w6, rfl, hl, hP, hS, hI, hfr, hz0, h276, h277, h278⟩ := hq
    obtain ⟨z280, q281, oY282, bz283, bq284⟩ := y_opY hI ha0
    have hz0 : ∀ k, k ∈ ([1, 3, 7, 8, 15, 19, 25, 26, 27, 31, 32] : List Nat) → z280 k = z0 k := fun k hk => (y_fiZ oY282 (s_sub (by decide) hk)).symm.trans (hz0 k hk)
    obtain ⟨f285, o286, b287⟩ := y_op12 hI
    replace h277 : f285 = f1 := by have q9 := h277; rw [y_atE o286] at q9; exact q9
    obtain ⟨v288, ev288⟩ : ∃ y : Int32, y = z280 5 := ⟨_, rfl⟩
    obtain ⟨v289, ev289⟩ : ∃ y : Int32, y = z280 16 := ⟨_, rfl⟩
    replace h278 : ((v4.toInt = 0 ∨ ¬ v288.toInt = 0) ∧ (v5.toInt = 80 → ¬ v288.toInt = 0) ∧ v289.toInt = v5.toInt) := by have q9 := h278; rw [y_fiZ oY282 (k := 5) (by decide), ← ev288, y_fiZ oY282 (k := 16) (by decide), ← ev289] at q9; exact q9
    refine lv_aload_n hx hb dX7_statementTold_208 rfl (lv_at hl 0 rfl) ?_
    refine lv_iconst (v := 1) hx hb dX7_statementTold_209 (by decide) ?_
    refine lv_iload_n hx hb dX7_statementTold_210 rfl (lv_at hl 1 rfl) ?_
    refine va_callv (va_runV (As := [.int 1, .int w6]) (rest := []) ⟨hx, hb, hml, hown, hts⟩ (y_X7_fail l dC dI H.size hLK A hA F279 a0 1 w6 ha0 (by decide) hI) (cwV 2 hts (ax_gV T_290 T_291 T_292 T_265 T_27) rfl rfl rfl (by decide +kernel) ⟨Nat.le_of_ble_eq_true rfl, Nat.le_of_ble_eq_true rfl⟩) ⟨fun a U g mk q => ⟨q.1, s_pc (U := U) rfl rfl q.2⟩, s_recv hK hP (hLK _ ha0 (by decide)) (ci := 7) rfl oY282, fun U hU hW => ⟨rfl, s_pw hU hW hP hK hD hN⟩⟩ rfl rfl hl.1 rfl (lv_room (Nat.le_of_ble_eq_true rfl)) dX7_statementTold_211 ⟨Nat.zero_le _, Nat.zero_le _⟩) hS (fun q _ h => h) (fun q h => h) (fun F291 t H1 locs ht hvm hw hB hz1 hk1 hS => ?_)
    obtain ⟨hP, hK1⟩ := hB
    rw [ht] at hP
    generalize H1 = H at hP hS ⊢
    clear hz1 hk1 hvm hK1
    obtain ⟨h292, h294, hI, hfr1, hzf, h293⟩ := hw
    have o295 : F291 (A 12) = .inl (cs 0, 400, .inl f285) := (hfr1 _ (by rw [(y_k12 hA)]; decide)).trans o286
    obtain ⟨z296, q297, oY298, bz299, bq300⟩ := y_opY hI ha0
    have hzf : ∀ k, k ∈ ([1, 2, 3, 4, 7, 8, 11, 15, 16, 19, 25, 26, 27, 31, 32] : List Nat) → z296 k = z280 k := fun k hk => by have q9 := hzf k hk; rw [y_fiZ oY298 (s_sub (by decide) hk), y_fiZ oY282 (s_sub (by decide) hk)] at q9; exact q9
    have hz0 : ∀ k, k ∈ ([1, 3, 7, 8, 15, 19, 25, 26, 27, 31, 32] : List Nat) → z296 k = z0 k := fun k hk => (hzf k (s_sub (by decide) hk)).trans (hz0 k hk)
    have ev289 : v289 = z296 16 := ev289.trans (hzf 16 (by decide)).symm
    have hfr : ∀ b, K b ∉ [9, 62, 64] → F291 b = F b := fun b hb9 => (hfr1 b (fun q => hb9 (s_sub (by decide) q))).trans (hfr b hb9)
    obtain ⟨v301, ev301⟩ : ∃ y : Int32, y = z296 5 := ⟨_, rfl⟩
    replace h293 : (¬ v301.toInt = 0) := by have q9 := h293; rw [y_fiZ oY298 (k := 5) (by decide), ← ev301] at q9; exact q9
    exact K214 _ _ _ ⟨F291, _, rfl, lv_sub hl [0] rfl, hP, hS, hI, hfr, (fun k hk => (y_fiZ oY298 (s_sub (by decide) hk)).trans (hz0 k hk)), (by rw [y_fiZ oY298 (k := 5) (by decide), ← ev301, y_atE o295]; exact (fun hd hg => (by rw [h277]; exact hd (by omega)))), (by first | (rw [y_fiZ oY298 (k := 5) (by decide), ← ev301, y_fiZ oY298 (k := 16) (by decide), ← ev289]; omega) | rw [y_fiZ oY298 (k := 5) (by decide), ← ev301, y_fiZ oY298 (k := 16) (by decide), ← ev289])⟩
  · intro g H locs hq
    obtain ⟨F304, ls, rfl, hl, hP, hS, hI, hfr, hz0, h302, h303⟩ := hq
    obtain ⟨z305, q306, oY307, bz308, bq309⟩ := y_opY hI ha0
    have hz0 : ∀ k, k ∈ ([1, 3, 7, 8, 15, 19, 25, 26, 27, 31, 32] : List Nat) → z305 k = z0 k := fun k hk => (y_fiZ oY307 (s_sub (by decide) hk)).symm.trans (hz0 k hk)
    obtain ⟨v310, ev310⟩ : ∃ y : Int32, y = z305 5 := ⟨_, rfl⟩
    obtain ⟨f311, o312, b313⟩ := y_op12 hI
    replace h302 : ((v4.toInt = 0 → y_DS f1) → v310.toInt = 0 → y_DS f311) := by have q9 := h302; rw [y_fiZ oY307 (k := 5) (by decide), ← ev310, y_atE o312] at q9; exact q9
    obtain ⟨v314, ev314⟩ : ∃ y : Int32, y = z305 16 := ⟨_, rfl⟩
    replace h303 : ((v4.toInt = 0 ∨ ¬ v310.toInt = 0) ∧ (v5.toInt = 80 → ¬ v310.toInt = 0) ∧ v314.toInt = v5.toInt) := by have q9 := h303; rw [y_fiZ oY307 (k := 5) (by decide), ← ev310, y_fiZ oY307 (k := 16) (by decide), ← ev314] at q9; exact q9
    refine lv_aload_n hx hb dX7_statementTold_214 rfl (lv_at hl 0 rfl) ?_
    refine lv_bipush (v := 59) hx hb dX7_statementTold_215 (by decide) ?_
    have ep315_5 := ev310
    refine va_callv (va_runV (As := [.int 59]) (rest := []) ⟨hx, hb, hml, hown, hts⟩ (y_X7_asksSign l dC dI H.size hLK A hA F304 a0 59 ha0 (by decide) hI) (cwV 1 hts (ax_gV T_303 T_304 T_305 T_265 T_31) rfl rfl rfl (by decide +kernel) ⟨Nat.le_of_ble_eq_true rfl, Nat.le_of_ble_eq_true rfl⟩) ⟨fun a U g mk q => ⟨q.1, s_pc (U := U) rfl rfl q.2⟩, s_recv hK hP (hLK _ ha0 (by decide)) (ci := 7) rfl oY307, fun U hU hW => ⟨rfl, s_pw hU hW hP hK hD hN⟩⟩ rfl rfl hl.1 rfl (lv_room (Nat.le_of_ble_eq_true rfl)) dX7_statementTold_217 ⟨Nat.zero_le _, Nat.zero_le _⟩) hS (fun q _ h => h) (fun q h => h) (fun F316 t H1 locs ht hvm hw hB hz1 hk1 hS => ?_)
    obtain ⟨hP, hK1⟩ := hB
    rw [ht] at hP
    generalize H1 = H at hP hS ⊢
    clear hz1 hk1 hvm hK1
    obtain ⟨h317, h319, hI, hfr1, hzf, h318⟩ := hw
    have o320 : F316 (A 12) = .inl (cs 0, 400, .inl f311) := (hfr1 _ (by rw [(y_k12 hA)]; decide)).trans o312
    obtain ⟨z321, q322, oY323, bz324, bq325⟩ := y_opY hI ha0
    have hzf : ∀ k, k ∈ ([1, 3, 4, 7, 8, 11, 15, 16, 19, 25, 26, 27, 31, 32] : List Nat) → z321 k = z305 k := fun k hk => by have q9 := hzf k hk; rw [y_fiZ oY323 (s_sub (by decide) hk), y_fiZ oY307 (s_sub (by decide) hk)] at q9; exact q9
    have hz0 : ∀ k, k ∈ ([1, 3, 7, 8, 15, 19, 25, 26, 27, 31, 32] : List Nat) → z321 k = z0 k := fun k hk => (hzf k (s_sub (by decide) hk)).trans (hz0 k hk)
    have ev314 : v314 = z321 16 := ev314.trans (hzf 16 (by decide)).symm
    have hfr : ∀ b, K b ∉ [9, 62, 64] → F316 b = F b := fun b hb9 => (hfr1 b (fun q => hb9 (s_sub (by decide) q))).trans (hfr b hb9)
    obtain ⟨v326, ev326⟩ : ∃ y : Int32, y = z321 5 := ⟨_, rfl⟩
    replace h318 : (v310.toInt = 0 ∨ ¬ v326.toInt = 0) := by have q9 := h318; rw [y_fiZ oY307 (k := 5) (by decide), ← ep315_5, y_fiZ oY323 (k := 5) (by decide), ← ev326] at q9; exact q9
    refine lv_aload_n hx hb dX7_statementTold_220 rfl (lv_at hl 0 rfl) ?_
    refine lv_dup hx hb dX7_statementTold_221 rfl ?_
    refine th_get (D := (dC, dI)) (ci := 7) (v := .int (z321 16)) (C := RX7) (T := TX7) (N := 34) hx hb hts inX7 hown hK hP (hLK _ ha0 (by decide)) oY323 rfl 16 (by decide) (hts _ T_306) (fun _ h9 => h9) rfl dX7_statementTold_222 ?_
    refine ax_eqi (y := v314) ev314.symm ?_
    have h327 : 0 ≤ v314.toInt ∧ v314.toInt ≤ 80 := ⟨by omega, by omega⟩
    refine lv_iconst (v := 1) hx hb dX7_statementTold_225 (by decide) ?_
    refine lv_iadd hx hb dX7_statementTold_226 ?_
    refine lv_topi (fun v328 ev328 => ?_)
    have qv328 : v328.toInt = v314.toInt + 1 := by rw [ev328]; exact th_add rfl (by decide) ⟨by omega, by omega⟩
    refine th_put (D := (dC, dI)) (ci := 7) (v := .int v328) (ty := .int) (C := RX7) (T := TX7) (N := 34) hx hb hts inX7 tyX7 tyX7_ok nmX7 hown hK hP hD hS (hLK _ ha0 (by decide)) oY323 rfl 16 (by decide) (hts _ T_306) (fun _ h9 => h9) rfl (by decide +kernel) rfl rfl (Nat.le_of_ble_eq_true rfl) dX7_statementTold_227 (fun H locs hP hS => ?_)
    rw [y_fs16] at hP
    obtain ⟨z329, hz330⟩ : ∃ g : Nat → Int32, g = upd z321 16 v328 := ⟨_, rfl⟩
    rw [← hz330] at hP
    have bz331 : y_bY z329 := by rw [hz330]; exact y_bp16 bz324
    have hP : va_P (dC, dI) vwCl (va_pl L (va_up F316 a0 (.inr (7, y_fl A z329 q322)))) H := hP
    obtain ⟨F332, hF333⟩ : ∃ G : Nat → va_E, G = va_up F316 a0 (.inr (7, y_fl A z329 q322)) := ⟨_, rfl⟩
    rw [← hF333] at hP
    have hI : y_I K cs A F332 := by rw [hF333]; exact y_clY hA hI ha0 bz331 bq325
    have hfr : ∀ b, K b ∉ [9, 62, 64] → F332 b = F b := by rw [hF333]; exact s_fr hfr ha0 (by decide)
    have o334 : F332 (A 12) = .inl (cs 0, 400, .inl f311) := by rw [hF333]; exact th_ne (th_kd (y_k12 hA) ha0 (by decide)) o320
    have oY335 : F332 a0 = .inr (7, y_fl A z329 q322) := by rw [hF333]; exact th_up
    have hz0 : ∀ k, k ∈ ([1, 3, 7, 8, 15, 19, 25, 26, 27, 31, 32] : List Nat) → z329 k = z0 k := fun k hk => by rw [hz330]; exact (y_un (fun q => absurd hk (by rw [q]; decide))).trans (hz0 k hk)
    have ev326 : v326 = z329 5 := by rw [hz330]; exact ev326.trans (y_un (by decide)).symm
    obtain ⟨v336, ev336⟩ : ∃ y : Int32, y = z329 16 := ⟨_, rfl⟩
    have qv336 : v336.toInt = v328.toInt := by rw [ev336, hz330, y_ue]
    exact W.vret hx hb hr (fun t ht hW => ⟨⟨F332, rfl, ⟨trivial, trivial, hI, hfr, fun k hk => (y_fiZ oY335 (s_sub (by decide) hk)).trans ((hz0 k hk).trans (y_fiZ oY0 (s_sub (by decide) hk)).symm), (by rw [y_fiZ oY0 (k := 5) (by decide), ← eF_5, y_fiZ oY335 (k := 5) (by decide), ← ev326, y_atE o2, y_atE o334, y_fiZ oY335 (k := 16) (by decide), ← ev336, y_fiZ oY0 (k := 16) (by decide), ← eF_16]; exact ⟨by omega, fun hd hg => h302 hd (by omega), by omega, by omega⟩)⟩, by rw [ht]; exact hP, va_K.moved hW.alike hK⟩, hS.F ht⟩) hS.2.2 dX7_statementTold_230
