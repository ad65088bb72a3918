set_option maxHeartbeats 4000000 in
set_option maxRecDepth 100000 in
theorem y_X7_statementTold (l : Launch) (dC : Nat → ClassId) (dI : Nat → Nat → Nat) (sz : Nat) {L : List Nat} {K : Nat → Nat} {cs : Nat → ClassId} (hLK : ∀ a {k : Nat}, K a = k → k ≠ 0 → a ∈ L) (A : Nat → Nat) (hA : y_A K A) (F : Nat → va_E) (a0 : Nat) (ha0 : K a0 = 9) (hI : y_I K cs A F) (hst : (0 ≤ (y_fi F a0 16).toInt ∧ (y_fi F a0 16).toInt ≤ 80)) : Met l yX7_statementTold (Cond.code yX7_statementTold cX7_statementTold 5 none :: T0) ({ frames := 8, cells := 0, slots := 0, locals := 174 }) (va_Pc [.ref a0] (s_W dC dI sz L F [(cs 0, .int), (cs 1, .byte), (cs 2, .long), (cs 3, .object RX5), (cs 4, .object RX4), (cs 5, .array .int), (cs 6, .char), (cs 7, .boolean)])) (va_Qv (fun (G : Nat → va_E) => True ∧ True ∧ y_I K cs A G ∧ (∀ b, K b ∉ [9, 62, 64] → G b = F b) ∧ (∀ k, k ∈ ([1, 3, 7, 8, 15, 19, 25, 26, 27, 31, 32] : List Nat) → y_fi G a0 k = y_fi F a0 k) ∧ (((y_fi F a0 5).toInt = 0 ∨ ¬ (y_fi G a0 5).toInt = 0) ∧ (((y_fi F a0 5).toInt = 0 → y_DS (y_at F (A 12))) → (y_fi G a0 5).toInt = 0 → y_DS (y_at G (A 12))) ∧ (y_fi G a0 16).toInt = (y_fi F a0 16).toInt + 1 ∧ ((y_fi F a0 16).toInt = 80 → ¬ (y_fi G a0 5).toInt = 0))) (fun (G : Nat → va_E) (t : State) => va_P (dC, dI) vwCl (va_pl L G) t.heap ∧ va_K (dC, dI) vwCl [(cs 0, .int), (cs 1, .byte), (cs 2, .long), (cs 3, .object RX5), (cs 4, .object RX4), (cs 5, .array .int), (cs 6, .char), (cs 7, .boolean)] t) (fun q => q ∈ L)) 0 0 (fun q => q ∈ L) := by
  refine Met.ofW (cc := cX7_statementTold) (maxL := 5) (ret := none) (by decide) rfl ?_
  intro p e s m args below meth c s₁ B hml hv
  obtain ⟨rfl, hsz, hP, hK, hD, hN⟩ := hv
  have hx := B.exec
  have hb := B.bytes
  have hr := B.returns
  have hts : ∀ w ∈ T0, w.before _ s = true := fun w h => atoms_spec (ws := Cond.code yX7_statementTold cX7_statementTold 5 none :: T0) B.pre w (List.mem_cons_of_mem _ h)
  have hown : s.vm.findClass RX7 = some m.cls := findClass_of_methodNamed B.named
  have hlocks := B.notSynchronized
  have hS : va_S (fun q => q ∈ L) s.heap s.heap [] := va_S.rf
  have hfr : ∀ b, K b ∉ [9, 62, 64] → F b = F b := fun _ _ => rfl
  have hl := lv_entry ([.ref a0]) (n := 5) (Nat.le_of_ble_eq_true rfl)
  rw [lg_entry_eq]
  generalize (lg_sl ([.ref a0]) ++ List.replicate (5 - (lg_sl ([.ref a0])).length) Slot.unset).toArray = ls at hl ⊢
  have hl : lv_has ls 5 [(0, .ref a0)] := hl
  refine s_gen hP hS (fun H locs hP hS => ?_)
  obtain ⟨z0, q0, oY0, bz0, bq0⟩ := y_opY hI ha0
  have hz0 : ∀ k, k ∈ ([1, 3, 7, 8, 15, 19, 25, 26, 27, 31, 32] : List Nat) → z0 k = z0 k := fun _ _ => rfl
  obtain ⟨f1, o2, b3⟩ := y_op12 hI
  obtain ⟨v4, ev4⟩ : ∃ y : Int32, y = z0 5 := ⟨_, rfl⟩
  have eF_5 := ev4
  obtain ⟨v5, ev5⟩ : ∃ y : Int32, y = z0 16 := ⟨_, rfl⟩
  have eF_16 := ev5
  have hst : (0 ≤ v5.toInt ∧ v5.toInt ≤ 80) := by have q9 := hst; rw [y_fiZ oY0 (k := 16) (by decide), ← ev5] at q9; exact q9
  have hnb : 0 ≤ (y_c f1 387).toInt ∧ (y_c f1 387).toInt ≤ 40 := b3
  have e0_v4 := ev4
  have e0_v5 := ev5
  refine th_join (fun g H locs => ∃ (G : Nat → va_E) (ls : Array Slot), g = F0 m 214 ls [] ∧ lv_has ls 5 [(0, .ref a0)] ∧ va_P (dC, dI) vwCl (va_pl L G) H ∧ va_S (fun q => q ∈ L) s.heap H locs ∧ y_I K cs A G ∧ (∀ b, K b ∉ [9, 62, 64] → G b = F b) ∧ (∀ k, k ∈ ([1, 3, 7, 8, 15, 19, 25, 26, 27, 31, 32] : List Nat) → y_fi G a0 k = z0 k) ∧ ((v4.toInt = 0 → y_DS f1) → (y_fi G a0 5).toInt = 0 → y_DS (y_at G (A 12))) ∧ ((v4.toInt = 0 ∨ ¬ (y_fi G a0 5).toInt = 0) ∧ (v5.toInt = 80 → ¬ (y_fi G a0 5).toInt = 0) ∧ (y_fi G a0 16).toInt = v5.toInt)) (fun K214 => ?_) ?_
  refine th_join (fun g H locs => ∃ (G : Nat → va_E) (ls : Array Slot) (w6 : Int32), g = F0 m 208 ls [] ∧ lv_has ls 5 [(0, .ref a0), (1, .int w6)] ∧ va_P (dC, dI) vwCl (va_pl L G) H ∧ va_S (fun q => q ∈ L) s.heap H locs ∧ y_I K cs A G ∧ (∀ b, K b ∉ [9, 62, 64] → G b = F b) ∧ (∀ k, k ∈ ([1, 3, 7, 8, 15, 19, 25, 26, 27, 31, 32] : List Nat) → y_fi G a0 k = z0 k) ∧ (0 ≤ w6.toInt ∧ w6.toInt ≤ 1600) ∧ (y_at G (A 12)) = f1 ∧ ((v4.toInt = 0 ∨ ¬ (y_fi G a0 5).toInt = 0) ∧ (v5.toInt = 80 → ¬ (y_fi G a0 5).toInt = 0) ∧ (y_fi G a0 16).toInt = v5.toInt)) (fun K208 => ?_) ?_
  refine th_join (fun g H locs => ∃ (G : Nat → va_E) (ls : Array Slot) (w7 : Int32) (w8 : Int32), g = F0 m 190 ls [] ∧ lv_has ls 5 [(0, .ref a0), (1, .int w7), (2, .int w8)] ∧ va_P (dC, dI) vwCl (va_pl L G) H ∧ va_S (fun q => q ∈ L) s.heap H locs ∧ y_I K cs A G ∧ (∀ b, K b ∉ [9, 62, 64] → G b = F b) ∧ (∀ k, k ∈ ([1, 3, 7, 8, 15, 19, 25, 26, 27, 31, 32] : List Nat) → y_fi G a0 k = z0 k) ∧ (0 ≤ w7.toInt ∧ w7.toInt ≤ 1600) ∧ True ∧ (y_at G (A 12)) = f1 ∧ ((v4.toInt = 0 ∨ ¬ (y_fi G a0 5).toInt = 0) ∧ (v5.toInt = 80 → ¬ (y_fi G a0 5).toInt = 0) ∧ (y_fi G a0 16).toInt = v5.toInt)) (fun K190 => ?_) ?_
  refine th_join (fun g H locs => ∃ (G : Nat → va_E) (ls : Array Slot) (w9 : Int32), g = F0 m 20 ls [] ∧ lv_has ls 5 [(0, .ref a0), (1, .int w9)] ∧ va_P (dC, dI) vwCl (va_pl L G) H ∧ va_S (fun q => q ∈ L) s.heap H locs ∧ y_I K cs A G ∧ (∀ b, K b ∉ [9, 62, 64] → G b = F b) ∧ (∀ k, k ∈ ([1, 3, 7, 8, 15, 19, 25, 26, 27, 31, 32] : List Nat) → y_fi G a0 k = z0 k) ∧ (0 ≤ w9.toInt ∧ w9.toInt ≤ 1600) ∧ (y_at G (A 12)) = f1 ∧ ((v4.toInt = 0 ∨ ¬ (y_fi G a0 5).toInt = 0) ∧ (v5.toInt = 80 → ¬ (y_fi G a0 5).toInt = 0) ∧ (y_fi G a0 16).toInt = v5.toInt)) (fun K20 => ?_) ?_
  · refine lv_aload_n hx hb dX7_statementTold_0 rfl (lv_at hl 0 rfl) ?_
    refine th_get (D := (dC, dI)) (ci := 7) (v := .int (z0 2)) (C := RX7) (T := TX7) (N := 34) hx hb hts inX7 hown hK hP (hLK _ ha0 (by decide)) oY0 rfl 2 (by decide) (hts _ T_272) (fun _ h9 => h9) rfl dX7_statementTold_1 ?_
    refine lv_topi (fun v10 ev10 => ?_)
    have qv10 : 0 ≤ v10.toInt ∧ v10.toInt ≤ 1600 := by rw [ev10]; exact y_bY2 bz0
    refine lv_istore_n (lv' := [(1, .int v10), (0, .ref a0)]) hx hb dX7_statementTold_4 rfl hl (by decide) rfl (fun ls hl => ?_)
    refine lv_aload_n hx hb dX7_statementTold_5 rfl (lv_at hl 1 rfl) ?_
    refine th_get (D := (dC, dI)) (ci := 7) (v := .int (z0 16)) (C := RX7) (T := TX7) (N := 34) hx hb hts inX7 hown hK hP (hLK _ ha0 (by decide)) oY0 rfl 16 (by decide) (hts _ T_306) (fun _ h9 => h9) rfl dX7_statementTold_6 ?_
    refine ax_eqi (y := v5) ev5.symm ?_
    refine lv_bipush (v := 80) hx hb dX7_statementTold_9 (by decide) ?_
    refine lv_icmp_ne (tgt := 20) hx hb dX7_statementTold_11 (by decide) (fun c11 => ?_) (fun c11 => ?_)
    · have c11 := mt (ax_eq (n := 80) (by decide)).mpr c11
      exact K20 _ _ _ ⟨F, _, v10, rfl, lv_sub hl [1, 0] rfl, hP, hS, hI, hfr, (fun k hk => (y_fiZ oY0 (s_sub (by decide) hk)).trans (hz0 k hk)), ⟨by omega, by omega⟩, (by first | (rw [y_atE o2]; exact rfl) | rw [y_atE o2]), (by first | (rw [y_fiZ oY0 (k := 5) (by decide), ← ev4, y_fiZ oY0 (k := 16) (by decide), ← ev5]; omega) | rw [y_fiZ oY0 (k := 5) (by decide), ← ev4, y_fiZ oY0 (k := 16) (by decide), ← ev5])⟩
    · have c11 := (ax_eq (n := 80) (by decide)).mp c11
      refine lv_aload_n hx hb dX7_statementTold_14 rfl (lv_at hl 1 rfl) ?_
      refine lv_iconst (v := 5) hx hb dX7_statementTold_15 (by decide) ?_
      refine lv_iload_n hx hb dX7_statementTold_16 rfl (lv_at hl 0 rfl) ?_
      refine va_callv (va_runV (As := [.int 5, .int v10]) (rest := []) ⟨hx, hb, hml, hown, hts⟩ (y_X7_fail l dC dI H.size hLK A hA F a0 5 v10 ha0 (by decide) hI) (cwV 2 hts (ax_gV T_290 T_291 T_292 T_265 T_27) rfl rfl rfl (by decide +kernel) ⟨Nat.le_of_ble_eq_true rfl, Nat.le_of_ble_eq_true rfl⟩) ⟨fun a U g mk q => ⟨q.1, s_pc rfl rfl q.2⟩, s_recv hK hP (hLK _ ha0 (by decide)) (ci := 7) rfl oY0, fun U hU hW => ⟨rfl, s_pw hU hW hP hK hD hN⟩⟩ rfl rfl hl.1 rfl (lv_room (Nat.le_of_ble_eq_true rfl)) dX7_statementTold_17 ⟨Nat.zero_le _, Nat.zero_le _⟩) hS (fun q _ h => h) (fun q h => h) (fun F13 t H1 locs ht hvm hw hB hz1 hk1 hS => ?_)
      obtain ⟨hP, hK1⟩ := hB
      rw [ht] at hP
      generalize H1 = H at hP hS ⊢
      obtain ⟨h14, h16, hI, hfr1, hzf, h15⟩ := hw
      have o17 : F13 (A 12) = .inl (cs 0, 400, .inl f1) := (hfr1 _ (by rw [(y_k12 hA)]; decide)).trans o2
      obtain ⟨z18, q19, oY20, bz21, bq22⟩ := y_opY hI ha0
      have hzf : ∀ k, k ∈ ([1, 2, 3, 4, 7, 8, 11, 15, 16, 19, 25, 26, 27, 31, 32] : List Nat) → z18 k = z0 k := fun k hk => by have q9 := hzf k hk; rw [y_fiZ oY20 (s_sub (by decide) hk), y_fiZ oY0 (s_sub (by decide) hk)] at q9; exact q9
      have hz0 : ∀ k, k ∈ ([1, 3, 7, 8, 15, 19, 25, 26, 27, 31, 32] : List Nat) → z18 k = z0 k := fun k hk => (hzf k (s_sub (by decide) hk)).trans (hz0 k hk)
      have ev5 : v5 = z18 16 := ev5.trans (hzf 16 (by decide)).symm
      have ev10 : v10 = z18 2 := ev10.trans (hzf 2 (by decide)).symm
      have hfr : ∀ b, K b ∉ [9, 62, 64] → F13 b = F b := fun b hb9 => (hfr1 b (fun q => hb9 (s_sub (by decide) q))).trans (hfr b hb9)
      obtain ⟨v23, ev23⟩ : ∃ y : Int32, y = z18 5 := ⟨_, rfl⟩
      have h15 : (¬ v23.toInt = 0) := by have q9 := h15; rw [y_fiZ oY20 (k := 5) (by decide), ← ev23] at q9; exact q9
      exact K20 _ _ _ ⟨F13, _, v10, rfl, lv_sub hl [1, 0] rfl, hP, hS, hI, hfr, (fun k hk => (y_fiZ oY20 (s_sub (by decide) hk)).trans (hz0 k hk)), ⟨by omega, by omega⟩, (by first | (rw [y_atE o17]; exact rfl) | rw [y_atE o17]), (by first | (rw [y_fiZ oY20 (k := 5) (by decide), ← ev23, y_fiZ oY20 (k := 16) (by decide), ← ev5]; omega) | rw [y_fiZ oY20 (k := 5) (by decide), ← ev23, y_fiZ oY20 (k := 16) (by decide), ← ev5])⟩
  · intro g H locs hq
    obtain ⟨F27, ls, w9, rfl, hl, hP, hS, hI, hfr, hz0, h24, h25, h26⟩ := hq
    obtain ⟨z28, q29, oY30, bz31, bq32⟩ := y_opY hI ha0
    have hz0 : ∀ k, k ∈ ([1, 3, 7, 8, 15, 19, 25, 26, 27, 31, 32] : List Nat) → z28 k = z0 k := fun k hk => (y_fiZ oY30 (s_sub (by decide) hk)).symm.trans (hz0 k hk)
    obtain ⟨f33, o34, b35⟩ := y_op12 hI
    have h25 : f33 = f1 := by have q9 := h25; rw [y_atE o34] at q9; exact q9
    obtain ⟨v36, ev36⟩ : ∃ y : Int32, y = z28 5 := ⟨_, rfl⟩
    obtain ⟨v37, ev37⟩ : ∃ y : Int32, y = z28 16 := ⟨_, rfl⟩
    have h26 : ((v4.toInt = 0 ∨ ¬ v36.toInt = 0) ∧ (v5.toInt = 80 → ¬ v36.toInt = 0) ∧ v37.toInt = v5.toInt) := by have q9 := h26; rw [y_fiZ oY30 (k := 5) (by decide), ← ev36, y_fiZ oY30 (k := 16) (by decide), ← ev37] at q9; exact q9
    refine lv_aload_n hx hb dX7_statementTold_20 rfl (lv_at hl 0 rfl) ?_
    refine va_calli (va_runV (As := []) (rest := []) ⟨hx, hb, hml, hown, hts⟩ (y_X7_ownHere l dC dI H.size hLK A hA F27 a0 ha0 hI) (cwV 0 hts (ax_gV T_283 T_284 T_285 T_265 T_25) rfl rfl rfl (by decide +kernel) ⟨Nat.le_of_ble_eq_true rfl, Nat.le_of_ble_eq_true rfl⟩) ⟨fun a U g mk q => ⟨q.1, s_pc rfl rfl q.2⟩, s_recv hK hP (hLK _ ha0 (by decide)) (ci := 7) rfl oY30, fun U hU hW => ⟨rfl, s_pw hU hW hP hK hD hN⟩⟩ rfl rfl hl.1 rfl (lv_room (Nat.le_of_ble_eq_true rfl)) dX7_statementTold_21 ⟨Nat.zero_le _, Nat.zero_le _⟩) hS (fun q _ h => h) (fun q h => h) (fun r39 F40 t H1 locs ht hvm hw hB hz1 hk1 hS => ?_)
    obtain ⟨hP, hK1⟩ := hB
    rw [ht] at hP
    generalize H1 = H at hP hS ⊢
    obtain ⟨h41, h43, hI, hfr1, hzf, h42⟩ := hw
    have o44 : F40 (A 12) = .inl (cs 0, 400, .inl f33) := (hfr1 _ (by rw [(y_k12 hA)]; decide)).trans o34
    obtain ⟨z45, q46, oY47, bz48, bq49⟩ := y_opY hI ha0
    have hzf : ∀ k, k ∈ ([1, 3, 4, 5, 6, 7, 8, 11, 15, 16, 19, 25, 26, 27, 31, 32] : List Nat) → z45 k = z28 k := fun k hk => by have q9 := hzf k hk; rw [y_fiZ oY47 (s_sub (by decide) hk), y_fiZ oY30 (s_sub (by decide) hk)] at q9; exact q9
    have hz0 : ∀ k, k ∈ ([1, 3, 7, 8, 15, 19, 25, 26, 27, 31, 32] : List Nat) → z45 k = z0 k := fun k hk => (hzf k (s_sub (by decide) hk)).trans (hz0 k hk)
    have ev36 : v36 = z45 5 := ev36.trans (hzf 5 (by decide)).symm
    have ev37 : v37 = z45 16 := ev37.trans (hzf 16 (by decide)).symm
    have hfr : ∀ b, K b ∉ [9, 62, 64] → F40 b = F b := fun b hb9 => (hfr1 b (fun q => hb9 (s_sub (by decide) q))).trans (hfr b hb9)
    refine lv_istore_n (lv' := [(2, .int r39), (0, .ref a0), (1, .int w9)]) hx hb dX7_statementTold_24 rfl hl (by decide) rfl (fun ls hl => ?_)
    refine lv_aload_n hx hb dX7_statementTold_25 rfl (lv_at hl 1 rfl) ?_
    refine lv_bipush (v := 21) hx hb dX7_statementTold_26 (by decide) ?_
    refine va_calli (va_runV (As := [.int 21]) (rest := []) ⟨hx, hb, hml, hown, hts⟩ (y_X7_takes l dC dI H.size hLK A hA F40 a0 21 ha0 hI) (cwV 1 hts (ax_gV T_287 T_288 T_289 T_265 T_26) rfl rfl rfl (by decide +kernel) ⟨Nat.le_of_ble_eq_true rfl, Nat.le_of_ble_eq_true rfl⟩) ⟨fun a U g mk q => ⟨q.1, s_pc rfl rfl q.2⟩, s_recv hK hP (hLK _ ha0 (by decide)) (ci := 7) rfl oY47, fun U hU hW => ⟨rfl, s_pw hU hW hP hK hD hN⟩⟩ rfl rfl hl.1 rfl (lv_room (Nat.le_of_ble_eq_true rfl)) dX7_statementTold_28 ⟨Nat.zero_le _, Nat.zero_le _⟩) hS (fun q _ h => h) (fun q h => h) (fun r51 F52 t H1 locs ht hvm hw hB hz1 hk1 hS => ?_)
    obtain ⟨hP, hK1⟩ := hB
    rw [ht] at hP
    generalize H1 = H at hP hS ⊢
    obtain ⟨h53, h55, hI, hfr1, hzf, h54⟩ := hw
    have o56 : F52 (A 12) = .inl (cs 0, 400, .inl f33) := (hfr1 _ (by rw [(y_k12 hA)]; decide)).trans o44
    obtain ⟨z57, q58, oY59, bz60, bq61⟩ := y_opY hI ha0
    have hzf : ∀ k, k ∈ ([1, 3, 5, 6, 7, 8, 11, 15, 16, 19, 25, 26, 27, 31, 32] : List Nat) → z57 k = z45 k := fun k hk => by have q9 := hzf k hk; rw [y_fiZ oY59 (s_sub (by decide) hk), y_fiZ oY47 (s_sub (by decide) hk)] at q9; exact q9
    have hz0 : ∀ k, k ∈ ([1, 3, 7, 8, 15, 19, 25, 26, 27, 31, 32] : List Nat) → z57 k = z0 k := fun k hk => (hzf k (s_sub (by decide) hk)).trans (hz0 k hk)
    have ev36 : v36 = z57 5 := ev36.trans (hzf 5 (by decide)).symm
    have ev37 : v37 = z57 16 := ev37.trans (hzf 16 (by decide)).symm
    have hfr : ∀ b, K b ∉ [9, 62, 64] → F52 b = F b := fun b hb9 => (hfr1 b (fun q => hb9 (s_sub (by decide) q))).trans (hfr b hb9)
    refine lv_if_eq (tgt := 74) hx hb dX7_statementTold_31 (by decide) (fun c62 => ?_) (fun c62 => ?_)
    · have c62 := (ax_eq (n := 0) (by decide)).mp c62
      refine lv_aload_n hx hb dX7_statementTold_74 rfl (lv_at hl 1 rfl) ?_
      refine lv_bipush (v := 22) hx hb dX7_statementTold_75 (by decide) ?_
      refine va_calli (va_runV (As := [.int 22]) (rest := []) ⟨hx, hb, hml, hown, hts⟩ (y_X7_takes l dC dI H.size hLK A hA F52 a0 22 ha0 hI) (cwV 1 hts (ax_gV T_287 T_288 T_289 T_265 T_26) rfl rfl rfl (by decide +kernel) ⟨Nat.le_of_ble_eq_true rfl, Nat.le_of_ble_eq_true rfl⟩) ⟨fun a U g mk q => ⟨q.1, s_pc rfl rfl q.2⟩, s_recv hK hP (hLK _ ha0 (by decide)) (ci := 7) rfl oY59, fun U hU hW => ⟨rfl, s_pw hU hW hP hK hD hN⟩⟩ rfl rfl hl.1 rfl (lv_room (Nat.le_of_ble_eq_true rfl)) dX7_statementTold_77 ⟨Nat.zero_le _, Nat.zero_le _⟩) hS (fun q _ h => h) (fun q h => h) (fun r64 F65 t H1 locs ht hvm hw hB hz1 hk1 hS => ?_)
      obtain ⟨hP, hK1⟩ := hB
      rw [ht] at hP
      generalize H1 = H at hP hS ⊢
      obtain ⟨h66, h68, hI, hfr1, hzf, h67⟩ := hw
      have o69 : F65 (A 12) = .inl (cs 0, 400, .inl f33) := (hfr1 _ (by rw [(y_k12 hA)]; decide)).trans o56
      obtain ⟨z70, q71, oY72, bz73, bq74⟩ := y_opY hI ha0
      have hzf : ∀ k, k ∈ ([1, 3, 5, 6, 7, 8, 11, 15, 16, 19, 25, 26, 27, 31, 32] : List Nat) → z70 k = z57 k := fun k hk => by have q9 := hzf k hk; rw [y_fiZ oY72 (s_sub (by decide) hk), y_fiZ oY59 (s_sub (by decide) hk)] at q9; exact q9
      have hz0 : ∀ k, k ∈ ([1, 3, 7, 8, 15, 19, 25, 26, 27, 31, 32] : List Nat) → z70 k = z0 k := fun k hk => (hzf k (s_sub (by decide) hk)).trans (hz0 k hk)
      have ev36 : v36 = z70 5 := ev36.trans (hzf 5 (by decide)).symm
      have ev37 : v37 = z70 16 := ev37.trans (hzf 16 (by decide)).symm
      have hfr : ∀ b, K b ∉ [9, 62, 64] → F65 b = F b := fun b hb9 => (hfr1 b (fun q => hb9 (s_sub (by decide) q))).trans (hfr b hb9)
      refine lv_if_eq (tgt := 120) hx hb dX7_statementTold_80 (by decide) (fun c75 => ?_) (fun c75 => ?_)
      · have c75 := (ax_eq (n := 0) (by decide)).mp c75
        refine lv_aload_n hx hb dX7_statementTold_120 rfl (lv_at hl 1 rfl) ?_
        refine lv_bipush (v := 25) hx hb dX7_statementTold_121 (by decide) ?_
        refine va_calli (va_runV (As := [.int 25]) (rest := []) ⟨hx, hb, hml, hown, hts⟩ (y_X7_takes l dC dI H.size hLK A hA F65 a0 25 ha0 hI) (cwV 1 hts (ax_gV T_287 T_288 T_289 T_265 T_26) rfl rfl rfl (by decide +kernel) ⟨Nat.le_of_ble_eq_true rfl, Nat.le_of_ble_eq_true rfl⟩) ⟨fun a U g mk q => ⟨q.1, s_pc rfl rfl q.2⟩, s_recv hK hP (hLK _ ha0 (by decide)) (ci := 7) rfl oY72, fun U hU hW => ⟨rfl, s_pw hU hW hP hK hD hN⟩⟩ rfl rfl hl.1 rfl (lv_room (Nat.le_of_ble_eq_true rfl)) dX7_statementTold_123 ⟨Nat.zero_le _, Nat.zero_le _⟩) hS (fun q _ h => h) (fun q h => h) (fun r77 F78 t H1 locs ht hvm hw hB hz1 hk1 hS => ?_)
        obtain ⟨hP, hK1⟩ := hB
        rw [ht] at hP
        generalize H1 = H at hP hS ⊢
        obtain ⟨h79, h81, hI, hfr1, hzf, h80⟩ := hw
        have o82 : F78 (A 12) = .inl (cs 0, 400, .inl f33) := (hfr1 _ (by rw [(y_k12 hA)]; decide)).trans o69
        obtain ⟨z83, q84, oY85, bz86, bq87⟩ := y_opY hI ha0
        have hzf : ∀ k, k ∈ ([1, 3, 5, 6, 7, 8, 11, 15, 16, 19, 25, 26, 27, 31, 32] : List Nat) → z83 k = z70 k := fun k hk => by have q9 := hzf k hk; rw [y_fiZ oY85 (s_sub (by decide) hk), y_fiZ oY72 (s_sub (by decide) hk)] at q9; exact q9
        have hz0 : ∀ k, k ∈ ([1, 3, 7, 8, 15, 19, 25, 26, 27, 31, 32] : List Nat) → z83 k = z0 k := fun k hk => (hzf k (s_sub (by decide) hk)).trans (hz0 k hk)
        have ev36 : v36 = z83 5 := ev36.trans (hzf 5 (by decide)).symm
        have ev37 : v37 = z83 16 := ev37.trans (hzf 16 (by decide)).symm
        have hfr : ∀ b, K b ∉ [9, 62, 64] → F78 b = F b := fun b hb9 => (hfr1 b (fun q => hb9 (s_sub (by decide) q))).trans (hfr b hb9)
        refine lv_if_eq (tgt := 166) hx hb dX7_statementTold_126 (by decide) (fun c88 => ?_) (fun c88 => ?_)
        · have c88 := (ax_eq (n := 0) (by decide)).mp c88
          refine lv_iload_n hx hb dX7_statementTold_166 rfl (lv_at hl 0 rfl) ?_
          refine lv_i2l hx hb dX7_statementTold_167 rfl ?_
          refine lv_topl (fun v89 ev89 => ?_)
          have qv89 : v89.toInt = r39.toInt := y_i2l ev89
          refine lv_lconst (v := 0) hx hb dX7_statementTold_168 (by decide) ?_
          refine lv_ldc2 hx hb hown (hts _ T_1256) dX7_statementTold_169 ?_
          refine va_calli (va_runS (As := [.long v89, .long 0, .long 15]) (rest := []) ⟨hx, hb, hml, hown, hts⟩ (y_X7_isIn l dC dI H.size F78 v89 0 15) (cwS 3 hts (ax_gS T_267 T_268 T_265 T_21) rfl rfl rfl (by decide +kernel) ⟨Nat.le_of_ble_eq_true rfl, Nat.le_of_ble_eq_true rfl⟩) ⟨fun a U g mk q => ⟨q.1, s_pc rfl rfl q.2⟩, fun U hU hW => ⟨rfl, s_pw hU hW hP hK hD hN⟩⟩ rfl rfl hl.1 rfl (lv_room (Nat.le_of_ble_eq_true rfl)) dX7_statementTold_172 ⟨Nat.zero_le _, Nat.zero_le _⟩) hS (fun q _ h => h) (fun q h => h) (fun r91 F92 t H1 locs ht hvm hw hB hz1 hk1 hS => ?_)
          obtain ⟨hP, hK1⟩ := hB
          rw [ht] at hP
          generalize H1 = H at hP hS ⊢
          obtain ⟨h93, h95, hG9, h94⟩ := hw
          rw [hG9] at hP
          have h94 : ((r91.toInt = 0 ∧ (v89.toInt < 0 ∨ 15 < v89.toInt)) ∨ (r91.toInt = 1 ∧ 0 ≤ v89.toInt ∧ v89.toInt ≤ 15)) := by have q9 := h94; exact q9
          refine lv_if_ne (tgt := 190) hx hb dX7_statementTold_175 (by decide) (fun c96 => ?_) (fun c96 => ?_)
          · have c96 := mt (ax_eq (n := 0) (by decide)).mpr c96
            exact K190 _ _ _ ⟨F78, _, w9, r39, rfl, lv_sub hl [1, 2, 0] rfl, hP, hS, hI, hfr, (fun k hk => (y_fiZ oY85 (s_sub (by decide) hk)).trans (hz0 k hk)), ⟨by omega, by omega⟩, trivial, (by rw [y_atE o82]; exact h25), (by first | (rw [y_fiZ oY85 (k := 5) (by decide), ← ev36, y_fiZ oY85 (k := 16) (by decide), ← ev37]; omega) | rw [y_fiZ oY85 (k := 5) (by decide), ← ev36, y_fiZ oY85 (k := 16) (by decide), ← ev37])⟩
          · have c96 := (ax_eq (n := 0) (by decide)).mp c96
            refine lv_aload_n hx hb dX7_statementTold_178 rfl (lv_at hl 1 rfl) ?_
            refine va_calli (va_runV (As := []) (rest := []) ⟨hx, hb, hml, hown, hts⟩ (y_X7_isWordHere l dC dI H.size hLK A hA F78 a0 ha0 hI) (cwV 0 hts (ax_gV T_280 T_281 T_282 T_265 T_24) rfl rfl rfl (by decide +kernel) ⟨Nat.le_of_ble_eq_true rfl, Nat.le_of_ble_eq_true rfl⟩) ⟨fun a U g mk q => ⟨q.1, s_pc rfl rfl q.2⟩, s_recv hK hP (hLK _ ha0 (by decide)) (ci := 7) rfl oY85, fun U hU hW => ⟨rfl, s_pw hU hW hP hK hD hN⟩⟩ rfl rfl hl.1 rfl (lv_room (Nat.le_of_ble_eq_true rfl)) dX7_statementTold_179 ⟨Nat.zero_le _, Nat.zero_le _⟩) hS (fun q _ h => h) (fun q h => h) (fun r98 F99 t H1 locs ht hvm hw hB hz1 hk1 hS => ?_)
            obtain ⟨hP, hK1⟩ := hB
            rw [ht] at hP
            generalize H1 = H at hP hS ⊢
            obtain ⟨h100, h102, hI, hfr1, hzf, h101⟩ := hw
            have o103 : F99 (A 12) = .inl (cs 0, 400, .inl f33) := (hfr1 _ (by rw [(y_k12 hA)]; decide)).trans o82
            obtain ⟨z104, q105, oY106, bz107, bq108⟩ := y_opY hI ha0
            have hzf : ∀ k, k ∈ ([1, 3, 4, 5, 6, 7, 8, 11, 15, 16, 19, 25, 26, 27, 31, 32] : List Nat) → z104 k = z83 k := fun k hk => by have q9 := hzf k hk; rw [y_fiZ oY106 (s_sub (by decide) hk), y_fiZ oY85 (s_sub (by decide) hk)] at q9; exact q9
            have hz0 : ∀ k, k ∈ ([1, 3, 7, 8, 15, 19, 25, 26, 27, 31, 32] : List Nat) → z104 k = z0 k := fun k hk => (hzf k (s_sub (by decide) hk)).trans (hz0 k hk)
            have ev36 : v36 = z104 5 := ev36.trans (hzf 5 (by decide)).symm
            have ev37 : v37 = z104 16 := ev37.trans (hzf 16 (by decide)).symm
            have hfr : ∀ b, K b ∉ [9, 62, 64] → F99 b = F b := fun b hb9 => (hfr1 b (fun q => hb9 (s_sub (by decide) q))).trans (hfr b hb9)
            obtain ⟨v109, ev109⟩ : ∃ y : Int32, y = z104 2 := ⟨_, rfl⟩
            have qv109 : 0 ≤ v109.toInt ∧ v109.toInt ≤ 1600 := by rw [ev109]; exact y_bY2 bz107
            obtain ⟨v110, ev110⟩ : ∃ y : Int32, y = z104 3 := ⟨_, rfl⟩
            have qv110 : 0 ≤ v110.toInt ∧ v110.toInt ≤ 1600 := by rw [ev110]; exact y_bY3 bz107
            have h101 : (r98.toInt = 0 ∨ v109.toInt < v110.toInt) := by have q9 := h101; rw [y_fiZ oY106 (k := 2) (by decide), ← ev109, y_fiZ oY106 (k := 3) (by decide), ← ev110] at q9; exact q9
            refine lv_if_eq (tgt := 208) hx hb dX7_statementTold_182 (by decide) (fun c111 => ?_) (fun c111 => ?_)
            · have c111 := (ax_eq (n := 0) (by decide)).mp c111
              exact K208 _ _ _ ⟨F99, _, w9, rfl, lv_sub hl [1, 2] rfl, hP, hS, hI, hfr, (fun k hk => (y_fiZ oY106 (s_sub (by decide) hk)).trans (hz0 k hk)), ⟨by omega, by omega⟩, (by rw [y_atE o103]; exact h25), (by first | (rw [y_fiZ oY106 (k := 5) (by decide), ← ev36, y_fiZ oY106 (k := 16) (by decide), ← ev37]; omega) | rw [y_fiZ oY106 (k := 5) (by decide), ← ev36, y_fiZ oY106 (k := 16) (by decide), ← ev37])⟩
            · have c111 := mt (ax_eq (n := 0) (by decide)).mpr c111
              refine lv_iload_n hx hb dX7_statementTold_185 rfl (lv_at hl 0 rfl) ?_
              refine lv_iconst (v := (-1)) hx hb dX7_statementTold_186 (by decide) ?_
              refine lv_icmp_ne (tgt := 208) hx hb dX7_statementTold_187 (by decide) (fun c112 => ?_) (fun c112 => ?_)
              · have c112 := mt (ax_eq (n := (-1)) (by decide)).mpr c112
                exact K208 _ _ _ ⟨F99, _, w9, rfl, lv_sub hl [1, 2] rfl, hP, hS, hI, hfr, (fun k hk => (y_fiZ oY106 (s_sub (by decide) hk)).trans (hz0 k hk)), ⟨by omega, by omega⟩, (by rw [y_atE o103]; exact h25), (by first | (rw [y_fiZ oY106 (k := 5) (by decide), ← ev36, y_fiZ oY106 (k := 16) (by decide), ← ev37]; omega) | rw [y_fiZ oY106 (k := 5) (by decide), ← ev36, y_fiZ oY106 (k := 16) (by decide), ← ev37])⟩
              · have c112 := (ax_eq (n := (-1)) (by decide)).mp c112
                exact K190 _ _ _ ⟨F99, _, w9, r39, rfl, lv_sub hl [1, 2, 0] rfl, hP, hS, hI, hfr, (fun k hk => (y_fiZ oY106 (s_sub (by decide) hk)).trans (hz0 k hk)), ⟨by omega, by omega⟩, trivial, (by rw [y_atE o103]; exact h25), (by first | (rw [y_fiZ oY106 (k := 5) (by decide), ← ev36, y_fiZ oY106 (k := 16) (by decide), ← ev37]; omega) | rw [y_fiZ oY106 (k := 5) (by decide), ← ev36, y_fiZ oY106 (k := 16) (by decide), ← ev37])⟩
        · have c88 := mt (ax_eq (n := 0) (by decide)).mpr c88
          refine lv_aload_n hx hb dX7_statementTold_129 rfl (lv_at hl 1 rfl) ?_
          refine th_get (D := (dC, dI)) (ci := 7) (v := .ref (A 12)) (C := RX7) (T := TX7) (N := 34) hx hb hts inX7 hown hK hP (hLK _ ha0 (by decide)) oY85 rfl 12 (by decide) (hts _ T_245) (fun _ h9 => h9) rfl dX7_statementTold_130 ?_
          refine lv_sipush (v := 386) hx hb dX7_statementTold_133 (by decide) ?_
          refine lv_aload_n hx hb dX7_statementTold_136 rfl (lv_at hl 1 rfl) ?_
          refine lv_bipush (v := 27) hx hb dX7_statementTold_137 (by decide) ?_
          refine va_calli (va_runV (As := [.int 27]) (rest := [.int 386, .ref (A 12)]) ⟨hx, hb, hml, hown, hts⟩ (y_X7_takes l dC dI H.size hLK A hA F78 a0 27 ha0 hI) (cwV 1 hts (ax_gV T_287 T_288 T_289 T_265 T_26) rfl rfl rfl (by decide +kernel) ⟨Nat.le_of_ble_eq_true rfl, Nat.le_of_ble_eq_true rfl⟩) ⟨fun a U g mk q => ⟨q.1, s_pc rfl rfl q.2⟩, s_recv hK hP (hLK _ ha0 (by decide)) (ci := 7) rfl oY85, fun U hU hW => ⟨rfl, s_pw hU hW hP hK hD hN⟩⟩ rfl rfl hl.1 rfl (lv_room (Nat.le_of_ble_eq_true rfl)) dX7_statementTold_139 ⟨Nat.zero_le _, Nat.zero_le _⟩) hS (fun q _ h => h) (fun q h => h) (fun r114 F115 t H1 locs ht hvm hw hB hz1 hk1 hS => ?_)
          obtain ⟨hP, hK1⟩ := hB
          rw [ht] at hP
          generalize H1 = H at hP hS ⊢
          obtain ⟨h116, h118, hI, hfr1, hzf, h117⟩ := hw
          have o119 : F115 (A 12) = .inl (cs 0, 400, .inl f33) := (hfr1 _ (by rw [(y_k12 hA)]; decide)).trans o82
          obtain ⟨z120, q121, oY122, bz123, bq124⟩ := y_opY hI ha0
          have hzf : ∀ k, k ∈ ([1, 3, 5, 6, 7, 8, 11, 15, 16, 19, 25, 26, 27, 31, 32] : List Nat) → z120 k = z83 k := fun k hk => by have q9 := hzf k hk; rw [y_fiZ oY122 (s_sub (by decide) hk), y_fiZ oY85 (s_sub (by decide) hk)] at q9; exact q9
          have hz0 : ∀ k, k ∈ ([1, 3, 7, 8, 15, 19, 25, 26, 27, 31, 32] : List Nat) → z120 k = z0 k := fun k hk => (hzf k (s_sub (by decide) hk)).trans (hz0 k hk)
          have ev36 : v36 = z120 5 := ev36.trans (hzf 5 (by decide)).symm
          have ev37 : v37 = z120 16 := ev37.trans (hzf 16 (by decide)).symm
          have hfr : ∀ b, K b ∉ [9, 62, 64] → F115 b = F b := fun b hb9 => (hfr1 b (fun q => hb9 (s_sub (by decide) q))).trans (hfr b hb9)
          refine va_calli (va_runS (As := [.int r114]) (rest := [.int 386, .ref (A 12)]) ⟨hx, hb, hml, hown, hts⟩ (y_X7_flag l dC dI H.size F115 r114 (⟨by omega, by omega⟩)) (cwS 1 hts (ax_gS T_1001 T_1003 T_265 T_1002) rfl rfl rfl (by decide +kernel) ⟨Nat.le_of_ble_eq_true rfl, Nat.le_of_ble_eq_true rfl⟩) ⟨fun a U g mk q => ⟨q.1, s_pc rfl rfl q.2⟩, fun U hU hW => ⟨rfl, s_pw hU hW hP hK hD hN⟩⟩ rfl rfl hl.1 rfl (lv_room (Nat.le_of_ble_eq_true rfl)) dX7_statementTold_142 ⟨Nat.zero_le _, Nat.zero_le _⟩) hS (fun q _ h => h) (fun q h => h) (fun r126 F127 t H1 locs ht hvm hw hB hz1 hk1 hS => ?_)
          obtain ⟨hP, hK1⟩ := hB
          rw [ht] at hP
          generalize H1 = H at hP hS ⊢
          obtain ⟨h128, h130, hG9, h129⟩ := hw
          rw [hG9] at hP
          refine th_iast hx hb hK hP hD hS (hLK _ (y_k12 hA) (by decide)) 0 o119 rfl (ax_in (by decide)) dX7_statementTold_145 (fun H locs hP hS => ?_)
          obtain ⟨f131, u132⟩ : ∃ g : Nat → Int32, g = upd f33 (386 : Int32).toNatClampNeg r126 := ⟨_, rfl⟩
          rw [← u132] at hP
          have b133 : y_bd 12 f131 := by rw [u132]; exact th_updJ (P := fun y => 0 ≤ y.toInt ∧ y.toInt ≤ 40) b35 (fun q => absurd q (by decide))
          have hP : va_P (dC, dI) vwCl (va_pl L (va_up F115 (A 12) (.inl (cs 0, 400, .inl f131)))) H := hP
          obtain ⟨F134, hF135⟩ : ∃ G : Nat → va_E, G = va_up F115 (A 12) (.inl (cs 0, 400, .inl f131)) := ⟨_, rfl⟩
          rw [← hF135] at hP
          have hI : y_I K cs A F134 := by rw [hF135]; exact y_clA (i := 12) hA hI (by decide) b133
          have hfr : ∀ b, K b ∉ [9, 62, 64] → F134 b = F b := by rw [hF135]; exact s_fr hfr (y_k12 hA) (by decide)
          have oY136 : F134 a0 = .inr (7, y_fl A z120 q121) := by rw [hF135]; exact th_ne (th_kd ha0 (y_k12 hA) (by decide)) oY122
          have o137 : F134 (A 12) = .inl (cs 0, 400, .inl f131) := by rw [hF135]; exact th_up
          have u138 : ∀ j : Int, 0 ≤ j → y_c f131 j = if j = 386 then r126 else y_c f33 j := by rw [u132]; exact y_cu (by decide) (by decide)
          refine lv_aload_n hx hb dX7_statementTold_146 rfl (lv_at hl 1 rfl) ?_
          refine th_get (D := (dC, dI)) (ci := 7) (v := .ref (A 12)) (C := RX7) (T := TX7) (N := 34) hx hb hts inX7 hown hK hP (hLK _ ha0 (by decide)) oY136 rfl 12 (by decide) (hts _ T_245) (fun _ h9 => h9) rfl dX7_statementTold_147 ?_
          refine lv_sipush (v := 386) hx hb dX7_statementTold_150 (by decide) ?_
          refine th_iald hx hb hK hP (hLK _ (y_k12 hA) (by decide)) 0 o137 rfl (ax_in (by decide)) dX7_statementTold_153 ?_
          refine lv_topi (fun v139 ev139 => ?_)
          refine lv_if_ne (tgt := 214) hx hb dX7_statementTold_154 (by decide) (fun c140 => ?_) (fun c140 => ?_)
          · have c140 := mt (ax_eq (n := 0) (by decide)).mpr c140
            exact K214 _ _ _ ⟨F134, _, rfl, lv_sub hl [1] rfl, hP, hS, hI, hfr, (fun k hk => (y_fiZ oY136 (s_sub (by decide) hk)).trans (hz0 k hk)), (by rw [y_fiZ oY136 (k := 5) (by decide), ← ev36, y_atE o137]; exact (fun hd hg => y_DSp u138 (by omega) ⟨by omega, by omega⟩ (by rw [h25]; omega) (by rw [h25]; exact hd (by omega)))), (by first | (rw [y_fiZ oY136 (k := 5) (by decide), ← ev36, y_fiZ oY136 (k := 16) (by decide), ← ev37]; omega) | rw [y_fiZ oY136 (k := 5) (by decide), ← ev36, y_fiZ oY136 (k := 16) (by decide), ← ev37])⟩
          · have c140 := (ax_eq (n := 0) (by decide)).mp c140
            refine lv_aload_n hx hb dX7_statementTold_157 rfl (lv_at hl 1 rfl) ?_
            refine lv_bipush (v := 26) hx hb dX7_statementTold_158 (by decide) ?_
            have ep141_5 := ev36
            refine va_callv (va_runV (As := [.int 26]) (rest := []) ⟨hx, hb, hml, hown, hts⟩ (y_X7_asks l dC dI H.size hLK A hA F134 a0 26 ha0 hI) (cwV 1 hts (ax_gV T_297 T_298 T_299 T_265 T_29) rfl rfl rfl (by decide +kernel) ⟨Nat.le_of_ble_eq_true rfl, Nat.le_of_ble_eq_true rfl⟩) ⟨fun a U g mk q => ⟨q.1, s_pc rfl rfl q.2⟩, s_recv hK hP (hLK _ ha0 (by decide)) (ci := 7) rfl oY136, fun U hU hW => ⟨rfl, s_pw hU hW hP hK hD hN⟩⟩ rfl rfl hl.1 rfl (lv_room (Nat.le_of_ble_eq_true rfl)) dX7_statementTold_160 ⟨Nat.zero_le _, Nat.zero_le _⟩) hS (fun q _ h => h) (fun q h => h) (fun F142 t H1 locs ht hvm hw hB hz1 hk1 hS => ?_)
            obtain ⟨hP, hK1⟩ := hB
            rw [ht] at hP
            generalize H1 = H at hP hS ⊢
            obtain ⟨h143, h145, hI, hfr1, hzf, h144⟩ := hw
            have o146 : F142 (A 12) = .inl (cs 0, 400, .inl f131) := (hfr1 _ (by rw [(y_k12 hA)]; decide)).trans o137
            obtain ⟨z147, q148, oY149, bz150, bq151⟩ := y_opY hI ha0
            have hzf : ∀ k, k ∈ ([1, 3, 7, 8, 11, 15, 16, 19, 25, 26, 27, 31, 32] : List Nat) → z147 k = z120 k := fun k hk => by have q9 := hzf k hk; rw [y_fiZ oY149 (s_sub (by decide) hk), y_fiZ oY136 (s_sub (by decide) hk)] at q9; exact q9
            have hz0 : ∀ k, k ∈ ([1, 3, 7, 8, 15, 19, 25, 26, 27, 31, 32] : List Nat) → z147 k = z0 k := fun k hk => (hzf k (s_sub (by decide) hk)).trans (hz0 k hk)
            have ev37 : v37 = z147 16 := ev37.trans (hzf 16 (by decide)).symm
            have hfr : ∀ b, K b ∉ [9, 62, 64] → F142 b = F b := fun b hb9 => (hfr1 b (fun q => hb9 (s_sub (by decide) q))).trans (hfr b hb9)
            obtain ⟨v152, ev152⟩ : ∃ y : Int32, y = z147 5 := ⟨_, rfl⟩
            have h144 : (v36.toInt = 0 ∨ ¬ v152.toInt = 0) := by have q9 := h144; rw [y_fiZ oY136 (k := 5) (by decide), ← ep141_5, y_fiZ oY149 (k := 5) (by decide), ← ev152] at q9; exact q9
            refine lv_goto (tgt := 214) hx hb dX7_statementTold_163 (by decide) ?_
            exact K214 _ _ _ ⟨F142, _, rfl, lv_sub hl [1] rfl, hP, hS, hI, hfr, (fun k hk => (y_fiZ oY149 (s_sub (by decide) hk)).trans (hz0 k hk)), (by rw [y_fiZ oY149 (k := 5) (by decide), ← ev152, y_atE o146]; exact (fun hd hg => y_DSp u138 (by omega) ⟨by omega, by omega⟩ (by rw [h25]; omega) (by rw [h25]; exact hd (by omega)))), (by first | (rw [y_fiZ oY149 (k := 5) (by decide), ← ev152, y_fiZ oY149 (k := 16) (by decide), ← ev37]; omega) | rw [y_fiZ oY149 (k := 5) (by decide), ← ev152, y_fiZ oY149 (k := 16) (by decide), ← ev37])⟩
      · have c75 := mt (ax_eq (n := 0) (by decide)).mpr c75
        refine lv_aload_n hx hb dX7_statementTold_83 rfl (lv_at hl 1 rfl) ?_
        refine th_get (D := (dC, dI)) (ci := 7) (v := .ref (A 12)) (C := RX7) (T := TX7) (N := 34) hx hb hts inX7 hown hK hP (hLK _ ha0 (by decide)) oY72 rfl 12 (by decide) (hts _ T_245) (fun _ h9 => h9) rfl dX7_statementTold_84 ?_
        refine lv_sipush (v := 385) hx hb dX7_statementTold_87 (by decide) ?_
        refine lv_aload_n hx hb dX7_statementTold_90 rfl (lv_at hl 1 rfl) ?_
        refine lv_bipush (v := 24) hx hb dX7_statementTold_91 (by decide) ?_
        refine va_calli (va_runV (As := [.int 24]) (rest := [.int 385, .ref (A 12)]) ⟨hx, hb, hml, hown, hts⟩ (y_X7_takes l dC dI H.size hLK A hA F65 a0 24 ha0 hI) (cwV 1 hts (ax_gV T_287 T_288 T_289 T_265 T_26) rfl rfl rfl (by decide +kernel) ⟨Nat.le_of_ble_eq_true rfl, Nat.le_of_ble_eq_true rfl⟩) ⟨fun a U g mk q => ⟨q.1, s_pc rfl rfl q.2⟩, s_recv hK hP (hLK _ ha0 (by decide)) (ci := 7) rfl oY72, fun U hU hW => ⟨rfl, s_pw hU hW hP hK hD hN⟩⟩ rfl rfl hl.1 rfl (lv_room (Nat.le_of_ble_eq_true rfl)) dX7_statementTold_93 ⟨Nat.zero_le _, Nat.zero_le _⟩) hS (fun q _ h => h) (fun q h => h) (fun r154 F155 t H1 locs ht hvm hw hB hz1 hk1 hS => ?_)
        obtain ⟨hP, hK1⟩ := hB
        rw [ht] at hP
        generalize H1 = H at hP hS ⊢
        obtain ⟨h156, h158, hI, hfr1, hzf, h157⟩ := hw
        have o159 : F155 (A 12) = .inl (cs 0, 400, .inl f33) := (hfr1 _ (by rw [(y_k12 hA)]; decide)).trans o69
        obtain ⟨z160, q161, oY162, bz163, bq164⟩ := y_opY hI ha0
        have hzf : ∀ k, k ∈ ([1, 3, 5, 6, 7, 8, 11, 15, 16, 19, 25, 26, 27, 31, 32] : List Nat) → z160 k = z70 k := fun k hk => by have q9 := hzf k hk; rw [y_fiZ oY162 (s_sub (by decide) hk), y_fiZ oY72 (s_sub (by decide) hk)] at q9; exact q9
        have hz0 : ∀ k, k ∈ ([1, 3, 7, 8, 15, 19, 25, 26, 27, 31, 32] : List Nat) → z160 k = z0 k := fun k hk => (hzf k (s_sub (by decide) hk)).trans (hz0 k hk)
        have ev36 : v36 = z160 5 := ev36.trans (hzf 5 (by decide)).symm
        have ev37 : v37 = z160 16 := ev37.trans (hzf 16 (by decide)).symm
        have hfr : ∀ b, K b ∉ [9, 62, 64] → F155 b = F b := fun b hb9 => (hfr1 b (fun q => hb9 (s_sub (by decide) q))).trans (hfr b hb9)
        refine va_calli (va_runS (As := [.int r154]) (rest := [.int 385, .ref (A 12)]) ⟨hx, hb, hml, hown, hts⟩ (y_X7_flag l dC dI H.size F155 r154 (⟨by omega, by omega⟩)) (cwS 1 hts (ax_gS T_1001 T_1003 T_265 T_1002) rfl rfl rfl (by decide +kernel) ⟨Nat.le_of_ble_eq_true rfl, Nat.le_of_ble_eq_true rfl⟩) ⟨fun a U g mk q => ⟨q.1, s_pc rfl rfl q.2⟩, fun U hU hW => ⟨rfl, s_pw hU hW hP hK hD hN⟩⟩ rfl rfl hl.1 rfl (lv_room (Nat.le_of_ble_eq_true rfl)) dX7_statementTold_96 ⟨Nat.zero_le _, Nat.zero_le _⟩) hS (fun q _ h => h) (fun q h => h) (fun r166 F167 t H1 locs ht hvm hw hB hz1 hk1 hS => ?_)
        obtain ⟨hP, hK1⟩ := hB
        rw [ht] at hP
        generalize H1 = H at hP hS ⊢
        obtain ⟨h168, h170, hG9, h169⟩ := hw
        rw [hG9] at hP
        refine th_iast hx hb hK hP hD hS (hLK _ (y_k12 hA) (by decide)) 0 o159 rfl (ax_in (by decide)) dX7_statementTold_99 (fun H locs hP hS => ?_)
        obtain ⟨f171, u172⟩ : ∃ g : Nat → Int32, g = upd f33 (385 : Int32).toNatClampNeg r166 := ⟨_, rfl⟩
        rw [← u172] at hP
        have b173 : y_bd 12 f171 := by rw [u172]; exact th_updJ (P := fun y => 0 ≤ y.toInt ∧ y.toInt ≤ 40) b35 (fun q => absurd q (by decide))
        have hP : va_P (dC, dI) vwCl (va_pl L (va_up F155 (A 12) (.inl (cs 0, 400, .inl f171)))) H := hP
        obtain ⟨F174, hF175⟩ : ∃ G : Nat → va_E, G = va_up F155 (A 12) (.inl (cs 0, 400, .inl f171)) := ⟨_, rfl⟩
        rw [← hF175] at hP
        have hI : y_I K cs A F174 := by rw [hF175]; exact y_clA (i := 12) hA hI (by decide) b173
        have hfr : ∀ b, K b ∉ [9, 62, 64] → F174 b = F b := by rw [hF175]; exact s_fr hfr (y_k12 hA) (by decide)
        have oY176 : F174 a0 = .inr (7, y_fl A z160 q161) := by rw [hF175]; exact th_ne (th_kd ha0 (y_k12 hA) (by decide)) oY162
        have o177 : F174 (A 12) = .inl (cs 0, 400, .inl f171) := by rw [hF175]; exact th_up
        have u178 : ∀ j : Int, 0 ≤ j → y_c f171 j = if j = 385 then r166 else y_c f33 j := by rw [u172]; exact y_cu (by decide) (by decide)
        refine lv_aload_n hx hb dX7_statementTold_100 rfl (lv_at hl 1 rfl) ?_
        refine th_get (D := (dC, dI)) (ci := 7) (v := .ref (A 12)) (C := RX7) (T := TX7) (N := 34) hx hb hts inX7 hown hK hP (hLK _ ha0 (by decide)) oY176 rfl 12 (by decide) (hts _ T_245) (fun _ h9 => h9) rfl dX7_statementTold_101 ?_
        refine lv_sipush (v := 385) hx hb dX7_statementTold_104 (by decide) ?_
        refine th_iald hx hb hK hP (hLK _ (y_k12 hA) (by decide)) 0 o177 rfl (ax_in (by decide)) dX7_statementTold_107 ?_
        refine lv_topi (fun v179 ev179 => ?_)
        refine lv_if_ne (tgt := 214) hx hb dX7_statementTold_108 (by decide) (fun c180 => ?_) (fun c180 => ?_)
        · have c180 := mt (ax_eq (n := 0) (by decide)).mpr c180
          exact K214 _ _ _ ⟨F174, _, rfl, lv_sub hl [1] rfl, hP, hS, hI, hfr, (fun k hk => (y_fiZ oY176 (s_sub (by decide) hk)).trans (hz0 k hk)), (by rw [y_fiZ oY176 (k := 5) (by decide), ← ev36, y_atE o177]; exact (fun hd hg => y_DSp u178 (by omega) ⟨by omega, by omega⟩ (by rw [h25]; omega) (by rw [h25]; exact hd (by omega)))), (by first | (rw [y_fiZ oY176 (k := 5) (by decide), ← ev36, y_fiZ oY176 (k := 16) (by decide), ← ev37]; omega) | rw [y_fiZ oY176 (k := 5) (by decide), ← ev36, y_fiZ oY176 (k := 16) (by decide), ← ev37])⟩
        · have c180 := (ax_eq (n := 0) (by decide)).mp c180
          refine lv_aload_n hx hb dX7_statementTold_111 rfl (lv_at hl 1 rfl) ?_
          refine lv_bipush (v := 23) hx hb dX7_statementTold_112 (by decide) ?_
          have ep181_5 := ev36
          refine va_callv (va_runV (As := [.int 23]) (rest := []) ⟨hx, hb, hml, hown, hts⟩ (y_X7_asks l dC dI H.size hLK A hA F174 a0 23 ha0 hI) (cwV 1 hts (ax_gV T_297 T_298 T_299 T_265 T_29) rfl rfl rfl (by decide +kernel) ⟨Nat.le_of_ble_eq_true rfl, Nat.le_of_ble_eq_true rfl⟩) ⟨fun a U g mk q => ⟨q.1, s_pc rfl rfl q.2⟩, s_recv hK hP (hLK _ ha0 (by decide)) (ci := 7) rfl oY176, fun U hU hW => ⟨rfl, s_pw hU hW hP hK hD hN⟩⟩ rfl rfl hl.1 rfl (lv_room (Nat.le_of_ble_eq_true rfl)) dX7_statementTold_114 ⟨Nat.zero_le _, Nat.zero_le _⟩) hS (fun q _ h => h) (fun q h => h) (fun F182 t H1 locs ht hvm hw hB hz1 hk1 hS => ?_)
          obtain ⟨hP, hK1⟩ := hB
          rw [ht] at hP
          generalize H1 = H at hP hS ⊢
          obtain ⟨h183, h185, hI, hfr1, hzf, h184⟩ := hw
          have o186 : F182 (A 12) = .inl (cs 0, 400, .inl f171) := (hfr1 _ (by rw [(y_k12 hA)]; decide)).trans o177
          obtain ⟨z187, q188, oY189, bz190, bq191⟩ := y_opY hI ha0
          have hzf : ∀ k, k ∈ ([1, 3, 7, 8, 11, 15, 16, 19, 25, 26, 27, 31, 32] : List Nat) → z187 k = z160 k := fun k hk => by have q9 := hzf k hk; rw [y_fiZ oY189 (s_sub (by decide) hk), y_fiZ oY176 (s_sub (by decide) hk)] at q9; exact q9
          have hz0 : ∀ k, k ∈ ([1, 3, 7, 8, 15, 19, 25, 26, 27, 31, 32] : List Nat) → z187 k = z0 k := fun k hk => (hzf k (s_sub (by decide) hk)).trans (hz0 k hk)
          have ev37 : v37 = z187 16 := ev37.trans (hzf 16 (by decide)).symm
          have hfr : ∀ b, K b ∉ [9, 62, 64] → F182 b = F b := fun b hb9 => (hfr1 b (fun q => hb9 (s_sub (by decide) q))).trans (hfr b hb9)
          obtain ⟨v192, ev192⟩ : ∃ y : Int32, y = z187 5 := ⟨_, rfl⟩
          have h184 : (v36.toInt = 0 ∨ ¬ v192.toInt = 0) := by have q9 := h184; rw [y_fiZ oY176 (k := 5) (by decide), ← ep181_5, y_fiZ oY189 (k := 5) (by decide), ← ev192] at q9; exact q9
          refine lv_goto (tgt := 214) hx hb dX7_statementTold_117 (by decide) ?_
          exact K214 _ _ _ ⟨F182, _, rfl, lv_sub hl [1] rfl, hP, hS, hI, hfr, (fun k hk => (y_fiZ oY189 (s_sub (by decide) hk)).trans (hz0 k hk)), (by rw [y_fiZ oY189 (k := 5) (by decide), ← ev192, y_atE o186]; exact (fun hd hg => y_DSp u178 (by omega) ⟨by omega, by omega⟩ (by rw [h25]; omega) (by rw [h25]; exact hd (by omega)))), (by first | (rw [y_fiZ oY189 (k := 5) (by decide), ← ev192, y_fiZ oY189 (k := 16) (by decide), ← ev37]; omega) | rw [y_fiZ oY189 (k := 5) (by decide), ← ev192, y_fiZ oY189 (k := 16) (by decide), ← ev37])⟩
    · have c62 := mt (ax_eq (n := 0) (by decide)).mpr c62
      refine lv_aload_n hx hb dX7_statementTold_34 rfl (lv_at hl 1 rfl) ?_
      refine lv_iconst (v := 0) hx hb dX7_statementTold_35 (by decide) ?_
      refine lv_bipush (v := 63) hx hb dX7_statementTold_36 (by decide) ?_
      have ep193_5 := ev36
      refine va_calli (va_runV (As := [.int 0, .int 63]) (rest := []) ⟨hx, hb, hml, hown, hts⟩ (y_X7_number l dC dI H.size hLK A hA F52 a0 0 63 ha0 hI) (cwV 2 hts (ax_gV T_300 T_301 T_302 T_265 T_30) rfl rfl rfl (by decide +kernel) ⟨Nat.le_of_ble_eq_true rfl, Nat.le_of_ble_eq_true rfl⟩) ⟨fun a U g mk q => ⟨q.1, s_pc rfl rfl q.2⟩, s_recv hK hP (hLK _ ha0 (by decide)) (ci := 7) rfl oY59, fun U hU hW => ⟨rfl, s_pw hU hW hP hK hD hN⟩⟩ rfl rfl hl.1 rfl (lv_room (Nat.le_of_ble_eq_true rfl)) dX7_statementTold_38 ⟨Nat.zero_le _, Nat.zero_le _⟩) hS (fun q _ h => h) (fun q h => h) (fun r194 F195 t H1 locs ht hvm hw hB hz1 hk1 hS => ?_)
      obtain ⟨hP, hK1⟩ := hB
      rw [ht] at hP
      generalize H1 = H at hP hS ⊢
      obtain ⟨h196, h198, hI, hfr1, hzf, h197⟩ := hw
      have o199 : F195 (A 12) = .inl (cs 0, 400, .inl f33) := (hfr1 _ (by rw [(y_k12 hA)]; decide)).trans o56
      obtain ⟨z200, q201, oY202, bz203, bq204⟩ := y_opY hI ha0
      have hzf : ∀ k, k ∈ ([1, 3, 7, 8, 11, 15, 16, 19, 25, 26, 27, 31, 32] : List Nat) → z200 k = z57 k := fun k hk => by have q9 := hzf k hk; rw [y_fiZ oY202 (s_sub (by decide) hk), y_fiZ oY59 (s_sub (by decide) hk)] at q9; exact q9
      have hz0 : ∀ k, k ∈ ([1, 3, 7, 8, 15, 19, 25, 26, 27, 31, 32] : List Nat) → z200 k = z0 k := fun k hk => (hzf k (s_sub (by decide) hk)).trans (hz0 k hk)
      have ev37 : v37 = z200 16 := ev37.trans (hzf 16 (by decide)).symm
      have hfr : ∀ b, K b ∉ [9, 62, 64] → F195 b = F b := fun b hb9 => (hfr1 b (fun q => hb9 (s_sub (by decide) q))).trans (hfr b hb9)
      obtain ⟨v205, ev205⟩ : ∃ y : Int32, y = z200 5 := ⟨_, rfl⟩
      have h197 : ((v36.toInt = 0 ∨ ¬ v205.toInt = 0) ∧ (v205.toInt = 0 → 0 ≤ r194.toInt ∧ r194.toInt ≤ 63)) := by have q9 := h197; rw [y_fiZ oY59 (k := 5) (by decide), ← ep193_5, y_fiZ oY202 (k := 5) (by decide), ← ev205] at q9; exact q9
      refine lv_istore_n (lv' := [(3, .int r194), (2, .int r39), (0, .ref a0), (1, .int w9)]) hx hb dX7_statementTold_41 rfl hl (by decide) rfl (fun ls hl => ?_)
      refine lv_aload_n hx hb dX7_statementTold_42 rfl (lv_at hl 2 rfl) ?_
      refine lv_iconst (v := 0) hx hb dX7_statementTold_43 (by decide) ?_
      refine lv_sipush (v := 999) hx hb dX7_statementTold_44 (by decide) ?_
      have ep206_5 := ev205
      refine va_calli (va_runV (As := [.int 0, .int 999]) (rest := []) ⟨hx, hb, hml, hown, hts⟩ (y_X7_number l dC dI H.size hLK A hA F195 a0 0 999 ha0 hI) (cwV 2 hts (ax_gV T_300 T_301 T_302 T_265 T_30) rfl rfl rfl (by decide +kernel) ⟨Nat.le_of_ble_eq_true rfl, Nat.le_of_ble_eq_true rfl⟩) ⟨fun a U g mk q => ⟨q.1, s_pc rfl rfl q.2⟩, s_recv hK hP (hLK _ ha0 (by decide)) (ci := 7) rfl oY202, fun U hU hW => ⟨rfl, s_pw hU hW hP hK hD hN⟩⟩ rfl rfl hl.1 rfl (lv_room (Nat.le_of_ble_eq_true rfl)) dX7_statementTold_47 ⟨Nat.zero_le _, Nat.zero_le _⟩) hS (fun q _ h => h) (fun q h => h) (fun r207 F208 t H1 locs ht hvm hw hB hz1 hk1 hS => ?_)
      obtain ⟨hP, hK1⟩ := hB
      rw [ht] at hP
      generalize H1 = H at hP hS ⊢
      obtain ⟨h209, h211, hI, hfr1, hzf, h210⟩ := hw
      have o212 : F208 (A 12) = .inl (cs 0, 400, .inl f33) := (hfr1 _ (by rw [(y_k12 hA)]; decide)).trans o199
      obtain ⟨z213, q214, oY215, bz216, bq217⟩ := y_opY hI ha0
      have hzf : ∀ k, k ∈ ([1, 3, 7, 8, 11, 15, 16, 19, 25, 26, 27, 31, 32] : List Nat) → z213 k = z200 k := fun k hk => by have q9 := hzf k hk; rw [y_fiZ oY215 (s_sub (by decide) hk), y_fiZ oY202 (s_sub (by decide) hk)] at q9; exact q9
      have hz0 : ∀ k, k ∈ ([1, 3, 7, 8, 15, 19, 25, 26, 27, 31, 32] : List Nat) → z213 k = z0 k := fun k hk => (hzf k (s_sub (by decide) hk)).trans (hz0 k hk)
      have ev37 : v37 = z213 16 := ev37.trans (hzf 16 (by decide)).symm
      have hfr : ∀ b, K b ∉ [9, 62, 64] → F208 b = F b := fun b hb9 => (hfr1 b (fun q => hb9 (s_sub (by decide) q))).trans (hfr b hb9)
      obtain ⟨v218, ev218⟩ : ∃ y : Int32, y = z213 5 := ⟨_, rfl⟩
      have h210 : ((v205.toInt = 0 ∨ ¬ v218.toInt = 0) ∧ (v218.toInt = 0 → 0 ≤ r207.toInt ∧ r207.toInt ≤ 999)) := by have q9 := h210; rw [y_fiZ oY202 (k := 5) (by decide), ← ep206_5, y_fiZ oY215 (k := 5) (by decide), ← ev218] at q9; exact q9
      refine lv_istore (lv' := [(4, .int r207), (3, .int r194), (2, .int r39), (0, .ref a0), (1, .int w9)]) hx hb dX7_statementTold_50 hl (by decide) rfl (fun ls hl => ?_)
      refine lv_aload_n hx hb dX7_statementTold_52 rfl (lv_at hl 3 rfl) ?_
      refine th_get (D := (dC, dI)) (ci := 7) (v := .int (z213 5)) (C := RX7) (T := TX7) (N := 34) hx hb hts inX7 hown hK hP (hLK _ ha0 (by decide)) oY215 rfl 5 (by decide) (hts _ T_274) (fun _ h9 => h9) rfl dX7_statementTold_53 ?_
      refine ax_eqi (y := v218) ev218.symm ?_
      refine lv_if_ne (tgt := 71) hx hb dX7_statementTold_56 (by decide) (fun c219 => ?_) (fun c219 => ?_)
      · have c219 := mt (ax_eq (n := 0) (by decide)).mpr c219
        refine lv_goto (tgt := 214) hx hb dX7_statementTold_71 (by decide) ?_
        exact K214 _ _ _ ⟨F208, _, rfl, lv_sub hl [3] rfl, hP, hS, hI, hfr, (fun k hk => (y_fiZ oY215 (s_sub (by decide) hk)).trans (hz0 k hk)), (by rw [y_fiZ oY215 (k := 5) (by decide), ← ev218, y_atE o212]; exact (fun hd hg => (by rw [h25]; exact hd (by omega)))), (by first | (rw [y_fiZ oY215 (k := 5) (by decide), ← ev218, y_fiZ oY215 (k := 16) (by decide), ← ev37]; omega) | rw [y_fiZ oY215 (k := 5) (by decide), ← ev218, y_fiZ oY215 (k := 16) (by decide), ← ev37])⟩
      · have c219 := (ax_eq (n := 0) (by decide)).mp c219
        refine lv_aload_n hx hb dX7_statementTold_59 rfl (lv_at hl 3 rfl) ?_
        refine th_get (D := (dC, dI)) (ci := 7) (v := .ref (A 12)) (C := RX7) (T := TX7) (N := 34) hx hb hts inX7 hown hK hP (hLK _ ha0 (by decide)) oY215 rfl 12 (by decide) (hts _ T_245) (fun _ h9 => h9) rfl dX7_statementTold_60 ?_
        refine lv_sipush (v := 320) hx hb dX7_statementTold_63 (by decide) ?_
        refine lv_iload_n hx hb dX7_statementTold_66 rfl (lv_at hl 1 rfl) ?_
        have h220 : 0 ≤ r194.toInt ∧ r194.toInt ≤ 63 := ⟨by omega, by omega⟩
        refine lv_iadd hx hb dX7_statementTold_67 ?_
        refine lv_topi (fun v221 ev221 => ?_)
        have qv221 : v221.toInt = 320 + r194.toInt := by rw [ev221]; exact th_add (by decide) rfl ⟨by omega, by omega⟩
        refine lv_iload hx hb dX7_statementTold_68 (lv_at hl 0 rfl) ?_
        refine th_iast hx hb hK hP hD hS (hLK _ (y_k12 hA) (by decide)) 0 o212 rfl (th_in ⟨by omega, by omega⟩) dX7_statementTold_70 (fun H locs hP hS => ?_)
        obtain ⟨f222, u223⟩ : ∃ g : Nat → Int32, g = upd f33 (v221 : Int32).toNatClampNeg r207 := ⟨_, rfl⟩
        rw [← u223] at hP
        have b224 : y_bd 12 f222 := by rw [u223]; exact th_updJ (P := fun y => 0 ≤ y.toInt ∧ y.toInt ≤ 40) b35 (fun q => by have q2 := th_tn (by omega) q; omega)
        have hP : va_P (dC, dI) vwCl (va_pl L (va_up F208 (A 12) (.inl (cs 0, 400, .inl f222)))) H := hP
        obtain ⟨F225, hF226⟩ : ∃ G : Nat → va_E, G = va_up F208 (A 12) (.inl (cs 0, 400, .inl f222)) := ⟨_, rfl⟩
        rw [← hF226] at hP
        have hI : y_I K cs A F225 := by rw [hF226]; exact y_clA (i := 12) hA hI (by decide) b224
        have hfr : ∀ b, K b ∉ [9, 62, 64] → F225 b = F b := by rw [hF226]; exact s_fr hfr (y_k12 hA) (by decide)
        have oY227 : F225 a0 = .inr (7, y_fl A z213 q214) := by rw [hF226]; exact th_ne (th_kd ha0 (y_k12 hA) (by decide)) oY215
        have o228 : F225 (A 12) = .inl (cs 0, 400, .inl f222) := by rw [hF226]; exact th_up
        have u229 : ∀ j : Int, 0 ≤ j → y_c f222 j = if j = v221.toInt then r207 else y_c f33 j := by rw [u223]; exact y_cu rfl (by omega)
        refine lv_goto (tgt := 214) hx hb dX7_statementTold_71 (by decide) ?_
        exact K214 _ _ _ ⟨F225, _, rfl, lv_sub hl [3] rfl, hP, hS, hI, hfr, (fun k hk => (y_fiZ oY227 (s_sub (by decide) hk)).trans (hz0 k hk)), (by rw [y_fiZ oY227 (k := 5) (by decide), ← ev218, y_atE o228]; exact (fun hd hg => y_DSC (d := f33) (fun j h0 h1 => by rw [u229 j h0, if_neg (by omega)]) (by rw [h25]; omega) (by rw [h25]; exact hd (by omega)))), (by first | (rw [y_fiZ oY227 (k := 5) (by decide), ← ev218, y_fiZ oY227 (k := 16) (by decide), ← ev37]; omega) | rw [y_fiZ oY227 (k := 5) (by decide), ← ev218, y_fiZ oY227 (k := 16) (by decide), ← ev37])⟩
  · intro g H locs hq
    obtain ⟨F234, ls, w7, w8, rfl, hl, hP, hS, hI, hfr, hz0, h230, h231, h232, h233⟩ := hq
    obtain ⟨z235, q236, oY237, bz238, bq239⟩ := y_opY hI ha0
    have hz0 : ∀ k, k ∈ ([1, 3, 7, 8, 15, 19, 25, 26, 27, 31, 32] : List Nat) → z235 k = z0 k := fun k hk => (y_fiZ oY237 (s_sub (by decide) hk)).symm.trans (hz0 k hk)
    obtain ⟨f240, o241, b242⟩ := y_op12 hI
    have h232 : f240 = f1 := by have q9 := h232; rw [y_atE o241] at q9; exact q9
    obtain ⟨v243, ev243⟩ : ∃ y : Int32, y = z235 5 := ⟨_, rfl⟩
    obtain ⟨v244, ev244⟩ : ∃ y : Int32, y = z235 16 := ⟨_, rfl⟩
    have h233 : ((v4.toInt = 0 ∨ ¬ v243.toInt = 0) ∧ (v5.toInt = 80 → ¬ v243.toInt = 0) ∧ v244.toInt = v5.toInt) := by have q9 := h233; rw [y_fiZ oY237 (k := 5) (by decide), ← ev243, y_fiZ oY237 (k := 16) (by decide), ← ev244] at q9; exact q9
    refine lv_aload_n hx hb dX7_statementTold_190 rfl (lv_at hl 0 rfl) ?_
    refine lv_iload_n hx hb dX7_statementTold_191 rfl (lv_at hl 1 rfl) ?_
    refine lv_iload_n hx hb dX7_statementTold_192 rfl (lv_at hl 2 rfl) ?_
    refine lv_iconst (v := (-1)) hx hb dX7_statementTold_193 (by decide) ?_
    refine lv_icmp_ne (tgt := 201) hx hb dX7_statementTold_194 (by decide) (fun c245 => ?_) (fun c245 => ?_)
    · have c245 := mt (ax_eq (n := (-1)) (by decide)).mpr c245
      refine lv_iconst (v := 0) hx hb dX7_statementTold_201 (by decide) ?_
      have ep246_5 := ev243
      refine va_callv (va_runV (As := [.int w7, .int 0]) (rest := []) ⟨hx, hb, hml, hown, hts⟩ (y_X7_lineBegins l dC dI H.size hLK A hA F234 a0 w7 0 ha0 (by decide) hI) (cwV 2 hts (ax_gV T_1311 T_1313 T_1314 T_265 T_1312) rfl rfl rfl (by decide +kernel) ⟨Nat.le_of_ble_eq_true rfl, Nat.le_of_ble_eq_true rfl⟩) ⟨fun a U g mk q => ⟨q.1, s_pc rfl rfl q.2⟩, s_recv hK hP (hLK _ ha0 (by decide)) (ci := 7) rfl oY237, fun U hU hW => ⟨rfl, s_pw hU hW hP hK hD hN⟩⟩ rfl rfl hl.1 rfl (lv_room (Nat.le_of_ble_eq_true rfl)) dX7_statementTold_202 ⟨Nat.zero_le _, Nat.zero_le _⟩) hS (fun q _ h => h) (fun q h => h) (fun F247 t H1 locs ht hvm hw hB hz1 hk1 hS => ?_)
      obtain ⟨hP, hK1⟩ := hB
      rw [ht] at hP
      generalize H1 = H at hP hS ⊢
      obtain ⟨h248, h250, hI, hfr1, hzf, h249⟩ := hw
      obtain ⟨z251, q252, oY253, bz254, bq255⟩ := y_opY hI ha0
      have hzf : ∀ k, k ∈ ([1, 3, 7, 8, 15, 16, 19, 25, 26, 27, 31, 32] : List Nat) → z251 k = z235 k := fun k hk => by have q9 := hzf k hk; rw [y_fiZ oY253 (s_sub (by decide) hk), y_fiZ oY237 (s_sub (by decide) hk)] at q9; exact q9
      have hz0 : ∀ k, k ∈ ([1, 3, 7, 8, 15, 19, 25, 26, 27, 31, 32] : List Nat) → z251 k = z0 k := fun k hk => (hzf k (s_sub (by decide) hk)).trans (hz0 k hk)
      have ev244 : v244 = z251 16 := ev244.trans (hzf 16 (by decide)).symm
      have hfr : ∀ b, K b ∉ [9, 62, 64] → F247 b = F b := fun b hb9 => (hfr1 b (fun q => hb9 (s_sub (by decide) q))).trans (hfr b hb9)
      obtain ⟨v256, ev256⟩ : ∃ y : Int32, y = z251 5 := ⟨_, rfl⟩
      obtain ⟨f257, o258, b259⟩ := y_op12 hI
      have h249 : ((v243.toInt = 0 ∨ ¬ v256.toInt = 0) ∧ ((v243.toInt = 0 → y_DS f240) → v256.toInt = 0 → y_DS f257)) := by have q9 := h249; rw [y_fiZ oY237 (k := 5) (by decide), ← ep246_5, y_fiZ oY253 (k := 5) (by decide), ← ev256, y_atE o241, y_atE o258] at q9; exact q9
      refine lv_goto (tgt := 214) hx hb dX7_statementTold_205 (by decide) ?_
      exact K214 _ _ _ ⟨F247, _, rfl, lv_sub hl [0] rfl, hP, hS, hI, hfr, (fun k hk => (y_fiZ oY253 (s_sub (by decide) hk)).trans (hz0 k hk)), (by rw [y_fiZ oY253 (k := 5) (by decide), ← ev256, y_atE o258]; exact (fun hd hg => h249.2 (fun hb => (by rw [h232]; exact hd (by omega))) hg)), (by first | (rw [y_fiZ oY253 (k := 5) (by decide), ← ev256, y_fiZ oY253 (k := 16) (by decide), ← ev244]; omega) | rw [y_fiZ oY253 (k := 5) (by decide), ← ev256, y_fiZ oY253 (k := 16) (by decide), ← ev244])⟩
    · have c245 := (ax_eq (n := (-1)) (by decide)).mp c245
      refine lv_iconst (v := 1) hx hb dX7_statementTold_197 (by decide) ?_
      refine lv_goto (tgt := 202) hx hb dX7_statementTold_198 (by decide) ?_
      have ep260_5 := ev243
      refine va_callv (va_runV (As := [.int w7, .int 1]) (rest := []) ⟨hx, hb, hml, hown, hts⟩ (y_X7_lineBegins l dC dI H.size hLK A hA F234 a0 w7 1 ha0 (by decide) hI) (cwV 2 hts (ax_gV T_1311 T_1313 T_1314 T_265 T_1312) rfl rfl rfl (by decide +kernel) ⟨Nat.le_of_ble_eq_true rfl, Nat.le_of_ble_eq_true rfl⟩) ⟨fun a U g mk q => ⟨q.1, s_pc rfl rfl q.2⟩, s_recv hK hP (hLK _ ha0 (by decide)) (ci := 7) rfl oY237, fun U hU hW => ⟨rfl, s_pw hU hW hP hK hD hN⟩⟩ rfl rfl hl.1 rfl (lv_room (Nat.le_of_ble_eq_true rfl)) dX7_statementTold_202 ⟨Nat.zero_le _, Nat.zero_le _⟩) hS (fun q _ h => h) (fun q h => h) (fun F261 t H1 locs ht hvm hw hB hz1 hk1 hS => ?_)
      obtain ⟨hP, hK1⟩ := hB
      rw [ht] at hP
      generalize H1 = H at hP hS ⊢
      obtain ⟨h262, h264, hI, hfr1, hzf, h263⟩ := hw
      obtain ⟨z265, q266, oY267, bz268, bq269⟩ := y_opY hI ha0
      have hzf : ∀ k, k ∈ ([1, 3, 7, 8, 15, 16, 19, 25, 26, 27, 31, 32] : List Nat) → z265 k = z235 k := fun k hk => by have q9 := hzf k hk; rw [y_fiZ oY267 (s_sub (by decide) hk), y_fiZ oY237 (s_sub (by decide) hk)] at q9; exact q9
      have hz0 : ∀ k, k ∈ ([1, 3, 7, 8, 15, 19, 25, 26, 27, 31, 32] : List Nat) → z265 k = z0 k := fun k hk => (hzf k (s_sub (by decide) hk)).trans (hz0 k hk)
      have ev244 : v244 = z265 16 := ev244.trans (hzf 16 (by decide)).symm
      have hfr : ∀ b, K b ∉ [9, 62, 64] → F261 b = F b := fun b hb9 => (hfr1 b (fun q => hb9 (s_sub (by decide) q))).trans (hfr b hb9)
      obtain ⟨v270, ev270⟩ : ∃ y : Int32, y = z265 5 := ⟨_, rfl⟩
      obtain ⟨f271, o272, b273⟩ := y_op12 hI
      have h263 : ((v243.toInt = 0 ∨ ¬ v270.toInt = 0) ∧ ((v243.toInt = 0 → y_DS f240) → v270.toInt = 0 → y_DS f271)) := by have q9 := h263; rw [y_fiZ oY237 (k := 5) (by decide), ← ep260_5, y_fiZ oY267 (k := 5) (by decide), ← ev270, y_atE o241, y_atE o272] at q9; exact q9
      refine lv_goto (tgt := 214) hx hb dX7_statementTold_205 (by decide) ?_
      exact K214 _ _ _ ⟨F261, _, rfl, lv_sub hl [0] rfl, hP, hS, hI, hfr, (fun k hk => (y_fiZ oY267 (s_sub (by decide) hk)).trans (hz0 k hk)), (by rw [y_fiZ oY267 (k := 5) (by decide), ← ev270, y_atE o272]; exact (fun hd hg => h263.2 (fun hb => (by rw [h232]; exact hd (by omega))) hg)), (by first | (rw [y_fiZ oY267 (k := 5) (by decide), ← ev270, y_fiZ oY267 (k := 16) (by decide), ← ev244]; omega) | rw [y_fiZ oY267 (k := 5) (by decide), ← ev270, y_fiZ oY267 (k := 16) (by decide), ← ev244])⟩
  · intro g H locs hq
    obtain ⟨F277, ls, w6, rfl, hl, hP, hS, hI, hfr, hz0, h274, h275, h276⟩ := hq
    obtain ⟨z278, q279, oY280, bz281, bq282⟩ := y_opY hI ha0
    have hz0 : ∀ k, k ∈ ([1, 3, 7, 8, 15, 19, 25, 26, 27, 31, 32] : List Nat) → z278 k = z0 k := fun k hk => (y_fiZ oY280 (s_sub (by decide) hk)).symm.trans (hz0 k hk)
    obtain ⟨f283, o284, b285⟩ := y_op12 hI
    have h275 : f283 = f1 := by have q9 := h275; rw [y_atE o284] at q9; exact q9
    obtain ⟨v286, ev286⟩ : ∃ y : Int32, y = z278 5 := ⟨_, rfl⟩
    obtain ⟨v287, ev287⟩ : ∃ y : Int32, y = z278 16 := ⟨_, rfl⟩
    have h276 : ((v4.toInt = 0 ∨ ¬ v286.toInt = 0) ∧ (v5.toInt = 80 → ¬ v286.toInt = 0) ∧ v287.toInt = v5.toInt) := by have q9 := h276; rw [y_fiZ oY280 (k := 5) (by decide), ← ev286, y_fiZ oY280 (k := 16) (by decide), ← ev287] at q9; exact q9
    refine lv_aload_n hx hb dX7_statementTold_208 rfl (lv_at hl 0 rfl) ?_
    refine lv_iconst (v := 1) hx hb dX7_statementTold_209 (by decide) ?_
    refine lv_iload_n hx hb dX7_statementTold_210 rfl (lv_at hl 1 rfl) ?_
    refine va_callv (va_runV (As := [.int 1, .int w6]) (rest := []) ⟨hx, hb, hml, hown, hts⟩ (y_X7_fail l dC dI H.size hLK A hA F277 a0 1 w6 ha0 (by decide) hI) (cwV 2 hts (ax_gV T_290 T_291 T_292 T_265 T_27) rfl rfl rfl (by decide +kernel) ⟨Nat.le_of_ble_eq_true rfl, Nat.le_of_ble_eq_true rfl⟩) ⟨fun a U g mk q => ⟨q.1, s_pc rfl rfl q.2⟩, s_recv hK hP (hLK _ ha0 (by decide)) (ci := 7) rfl oY280, fun U hU hW => ⟨rfl, s_pw hU hW hP hK hD hN⟩⟩ rfl rfl hl.1 rfl (lv_room (Nat.le_of_ble_eq_true rfl)) dX7_statementTold_211 ⟨Nat.zero_le _, Nat.zero_le _⟩) hS (fun q _ h => h) (fun q h => h) (fun F289 t H1 locs ht hvm hw hB hz1 hk1 hS => ?_)
    obtain ⟨hP, hK1⟩ := hB
    rw [ht] at hP
    generalize H1 = H at hP hS ⊢
    obtain ⟨h290, h292, hI, hfr1, hzf, h291⟩ := hw
    have o293 : F289 (A 12) = .inl (cs 0, 400, .inl f283) := (hfr1 _ (by rw [(y_k12 hA)]; decide)).trans o284
    obtain ⟨z294, q295, oY296, bz297, bq298⟩ := y_opY hI ha0
    have hzf : ∀ k, k ∈ ([1, 2, 3, 4, 7, 8, 11, 15, 16, 19, 25, 26, 27, 31, 32] : List Nat) → z294 k = z278 k := fun k hk => by have q9 := hzf k hk; rw [y_fiZ oY296 (s_sub (by decide) hk), y_fiZ oY280 (s_sub (by decide) hk)] at q9; exact q9
    have hz0 : ∀ k, k ∈ ([1, 3, 7, 8, 15, 19, 25, 26, 27, 31, 32] : List Nat) → z294 k = z0 k := fun k hk => (hzf k (s_sub (by decide) hk)).trans (hz0 k hk)
    have ev287 : v287 = z294 16 := ev287.trans (hzf 16 (by decide)).symm
    have hfr : ∀ b, K b ∉ [9, 62, 64] → F289 b = F b := fun b hb9 => (hfr1 b (fun q => hb9 (s_sub (by decide) q))).trans (hfr b hb9)
    obtain ⟨v299, ev299⟩ : ∃ y : Int32, y = z294 5 := ⟨_, rfl⟩
    have h291 : (¬ v299.toInt = 0) := by have q9 := h291; rw [y_fiZ oY296 (k := 5) (by decide), ← ev299] at q9; exact q9
    exact K214 _ _ _ ⟨F289, _, rfl, lv_sub hl [0] rfl, hP, hS, hI, hfr, (fun k hk => (y_fiZ oY296 (s_sub (by decide) hk)).trans (hz0 k hk)), (by rw [y_fiZ oY296 (k := 5) (by decide), ← ev299, y_atE o293]; exact (fun hd hg => (by rw [h275]; exact hd (by omega)))), (by first | (rw [y_fiZ oY296 (k := 5) (by decide), ← ev299, y_fiZ oY296 (k := 16) (by decide), ← ev287]; omega) | rw [y_fiZ oY296 (k := 5) (by decide), ← ev299, y_fiZ oY296 (k := 16) (by decide), ← ev287])⟩
  · intro g H locs hq
    obtain ⟨F302, ls, rfl, hl, hP, hS, hI, hfr, hz0, h300, h301⟩ := hq
    obtain ⟨z303, q304, oY305, bz306, bq307⟩ := y_opY hI ha0
    have hz0 : ∀ k, k ∈ ([1, 3, 7, 8, 15, 19, 25, 26, 27, 31, 32] : List Nat) → z303 k = z0 k := fun k hk => (y_fiZ oY305 (s_sub (by decide) hk)).symm.trans (hz0 k hk)
    obtain ⟨v308, ev308⟩ : ∃ y : Int32, y = z303 5 := ⟨_, rfl⟩
    obtain ⟨f309, o310, b311⟩ := y_op12 hI
    have h300 : ((v4.toInt = 0 → y_DS f1) → v308.toInt = 0 → y_DS f309) := by have q9 := h300; rw [y_fiZ oY305 (k := 5) (by decide), ← ev308, y_atE o310] at q9; exact q9
    obtain ⟨v312, ev312⟩ : ∃ y : Int32, y = z303 16 := ⟨_, rfl⟩
    have h301 : ((v4.toInt = 0 ∨ ¬ v308.toInt = 0) ∧ (v5.toInt = 80 → ¬ v308.toInt = 0) ∧ v312.toInt = v5.toInt) := by have q9 := h301; rw [y_fiZ oY305 (k := 5) (by decide), ← ev308, y_fiZ oY305 (k := 16) (by decide), ← ev312] at q9; exact q9
    refine lv_aload_n hx hb dX7_statementTold_214 rfl (lv_at hl 0 rfl) ?_
    refine lv_bipush (v := 59) hx hb dX7_statementTold_215 (by decide) ?_
    have ep313_5 := ev308
    refine va_callv (va_runV (As := [.int 59]) (rest := []) ⟨hx, hb, hml, hown, hts⟩ (y_X7_asksSign l dC dI H.size hLK A hA F302 a0 59 ha0 (by decide) hI) (cwV 1 hts (ax_gV T_303 T_304 T_305 T_265 T_31) rfl rfl rfl (by decide +kernel) ⟨Nat.le_of_ble_eq_true rfl, Nat.le_of_ble_eq_true rfl⟩) ⟨fun a U g mk q => ⟨q.1, s_pc rfl rfl q.2⟩, s_recv hK hP (hLK _ ha0 (by decide)) (ci := 7) rfl oY305, fun U hU hW => ⟨rfl, s_pw hU hW hP hK hD hN⟩⟩ rfl rfl hl.1 rfl (lv_room (Nat.le_of_ble_eq_true rfl)) dX7_statementTold_217 ⟨Nat.zero_le _, Nat.zero_le _⟩) hS (fun q _ h => h) (fun q h => h) (fun F314 t H1 locs ht hvm hw hB hz1 hk1 hS => ?_)
    obtain ⟨hP, hK1⟩ := hB
    rw [ht] at hP
    generalize H1 = H at hP hS ⊢
    obtain ⟨h315, h317, hI, hfr1, hzf, h316⟩ := hw
    have o318 : F314 (A 12) = .inl (cs 0, 400, .inl f309) := (hfr1 _ (by rw [(y_k12 hA)]; decide)).trans o310
    obtain ⟨z319, q320, oY321, bz322, bq323⟩ := y_opY hI ha0
    have hzf : ∀ k, k ∈ ([1, 3, 4, 7, 8, 11, 15, 16, 19, 25, 26, 27, 31, 32] : List Nat) → z319 k = z303 k := fun k hk => by have q9 := hzf k hk; rw [y_fiZ oY321 (s_sub (by decide) hk), y_fiZ oY305 (s_sub (by decide) hk)] at q9; exact q9
    have hz0 : ∀ k, k ∈ ([1, 3, 7, 8, 15, 19, 25, 26, 27, 31, 32] : List Nat) → z319 k = z0 k := fun k hk => (hzf k (s_sub (by decide) hk)).trans (hz0 k hk)
    have ev312 : v312 = z319 16 := ev312.trans (hzf 16 (by decide)).symm
    have hfr : ∀ b, K b ∉ [9, 62, 64] → F314 b = F b := fun b hb9 => (hfr1 b (fun q => hb9 (s_sub (by decide) q))).trans (hfr b hb9)
    obtain ⟨v324, ev324⟩ : ∃ y : Int32, y = z319 5 := ⟨_, rfl⟩
    have h316 : (v308.toInt = 0 ∨ ¬ v324.toInt = 0) := by have q9 := h316; rw [y_fiZ oY305 (k := 5) (by decide), ← ep313_5, y_fiZ oY321 (k := 5) (by decide), ← ev324] at q9; exact q9
    refine lv_aload_n hx hb dX7_statementTold_220 rfl (lv_at hl 0 rfl) ?_
    refine lv_dup hx hb dX7_statementTold_221 rfl ?_
    refine th_get (D := (dC, dI)) (ci := 7) (v := .int (z319 16)) (C := RX7) (T := TX7) (N := 34) hx hb hts inX7 hown hK hP (hLK _ ha0 (by decide)) oY321 rfl 16 (by decide) (hts _ T_306) (fun _ h9 => h9) rfl dX7_statementTold_222 ?_
    refine ax_eqi (y := v312) ev312.symm ?_
    have h325 : 0 ≤ v312.toInt ∧ v312.toInt ≤ 80 := ⟨by omega, by omega⟩
    refine lv_iconst (v := 1) hx hb dX7_statementTold_225 (by decide) ?_
    refine lv_iadd hx hb dX7_statementTold_226 ?_
    refine lv_topi (fun v326 ev326 => ?_)
    have qv326 : v326.toInt = v312.toInt + 1 := by rw [ev326]; exact th_add rfl (by decide) ⟨by omega, by omega⟩
    refine th_put (D := (dC, dI)) (ci := 7) (v := .int v326) (ty := .int) (C := RX7) (T := TX7) (N := 34) hx hb hts inX7 tyX7 tyX7_ok nmX7 hown hK hP hD hS (hLK _ ha0 (by decide)) oY321 rfl 16 (by decide) (hts _ T_306) (fun _ h9 => h9) rfl (by decide +kernel) rfl rfl (Nat.le_of_ble_eq_true rfl) dX7_statementTold_227 (fun H locs hP hS => ?_)
    rw [y_fs16] at hP
    obtain ⟨z327, hz328⟩ : ∃ g : Nat → Int32, g = upd z319 16 v326 := ⟨_, rfl⟩
    rw [← hz328] at hP
    have bz329 : y_bY z327 := by rw [hz328]; exact y_bp16 bz322
    have hP : va_P (dC, dI) vwCl (va_pl L (va_up F314 a0 (.inr (7, y_fl A z327 q320)))) H := hP
    obtain ⟨F330, hF331⟩ : ∃ G : Nat → va_E, G = va_up F314 a0 (.inr (7, y_fl A z327 q320)) := ⟨_, rfl⟩
    rw [← hF331] at hP
    have hI : y_I K cs A F330 := by rw [hF331]; exact y_clY hA hI ha0 bz329 bq323
    have hfr : ∀ b, K b ∉ [9, 62, 64] → F330 b = F b := by rw [hF331]; exact s_fr hfr ha0 (by decide)
    have o332 : F330 (A 12) = .inl (cs 0, 400, .inl f309) := by rw [hF331]; exact th_ne (th_kd (y_k12 hA) ha0 (by decide)) o318
    have oY333 : F330 a0 = .inr (7, y_fl A z327 q320) := by rw [hF331]; exact th_up
    have hz0 : ∀ k, k ∈ ([1, 3, 7, 8, 15, 19, 25, 26, 27, 31, 32] : List Nat) → z327 k = z0 k := fun k hk => by rw [hz328]; exact (y_un (fun q => absurd hk (by rw [q]; decide))).trans (hz0 k hk)
    have ev324 : v324 = z327 5 := by rw [hz328]; exact ev324.trans (y_un (by decide)).symm
    obtain ⟨v334, ev334⟩ : ∃ y : Int32, y = z327 16 := ⟨_, rfl⟩
    have qv334 : v334.toInt = v326.toInt := by rw [ev334, hz328, y_ue]
    exact W.vret hx hb hr (fun t ht hW => ⟨⟨F330, rfl, ⟨trivial, trivial, hI, hfr, fun k hk => (y_fiZ oY333 (s_sub (by decide) hk)).trans ((hz0 k hk).trans (y_fiZ oY0 (s_sub (by decide) hk)).symm), (by rw [y_fiZ oY0 (k := 5) (by decide), ← eF_5, y_fiZ oY333 (k := 5) (by decide), ← ev324, y_atE o2, y_atE o332, y_fiZ oY333 (k := 16) (by decide), ← ev334, y_fiZ oY0 (k := 16) (by decide), ← eF_16]; exact ⟨by omega, fun hd hg => h300 hd (by omega), by omega, by omega⟩)⟩, by rw [ht]; exact hP, va_K.moved hW.alike hK⟩, hS.F ht⟩) hS.2.2 dX7_statementTold_230
