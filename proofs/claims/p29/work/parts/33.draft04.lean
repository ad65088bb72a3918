set_option maxHeartbeats 4000000 in
set_option maxRecDepth 100000 in
theorem y_X7_statementTold (l : Launch) (dC : Nat → ClassId) (dI : Nat → Nat → Nat) (sz : Nat) {L : List Nat} {K : Nat → Nat} {cs : Nat → ClassId} (hLK : ∀ a {k : Nat}, K a = k → k ≠ 0 → a ∈ L) (A : Nat → Nat) (hA : y_A K A) (F : Nat → va_E) (a0 : Nat) (ha0 : K a0 = 9) (hI : y_I K cs A F) (hst : (0 ≤ (y_fi F a0 16).toInt ∧ (y_fi F a0 16).toInt ≤ 80)) : Met l yX7_statementTold (Cond.code yX7_statementTold cX7_statementTold 5 none :: T0) ({ frames := 8, cells := 0, slots := 0, locals := 174 }) (va_Pc [.ref a0] (s_W dC dI sz L F [(cs 0, .int), (cs 1, .byte), (cs 2, .long), (cs 3, .object RX5), (cs 4, .object RX4), (cs 5, .array .int), (cs 6, .char), (cs 7, .boolean)])) (va_Qv (fun (G : Nat → va_E) => True ∧ True ∧ y_I K cs A G ∧ (∀ b, K b ∉ [9, 62, 64] → G b = F b) ∧ (∀ k, k ∈ ([1, 3, 7, 8, 15, 19, 25, 26, 27, 31, 32] : List Nat) → y_fi G a0 k = y_fi F a0 k) ∧ (((y_fi F a0 5).toInt = 0 ∨ ¬ (y_fi G a0 5).toInt = 0) ∧ (((y_fi F a0 5).toInt = 0 → y_DS (y_at F (A 12))) → (y_fi G a0 5).toInt = 0 → y_DS (y_at G (A 12))) ∧ (y_fi G a0 16).toInt = (y_fi F a0 16).toInt + 1 ∧ ((y_fi F a0 16).toInt = 80 → ¬ (y_fi G a0 5).toInt = 0))) (fun (G : Nat → va_E) (t : State) => va_P (dC, dI) vwCl (va_pl L G) t.heap ∧ va_K (dC, dI) vwCl [(cs 0, .int), (cs 1, .byte), (cs 2, .long), (cs 3, .object RX5), (cs 4, .object RX4), (cs 5, .array .int), (cs 6, .char), (cs 7, .boolean)] t) (fun q => q ∈ L)) 0 0 (fun q => q ∈ L) := by
  refine Met.ofW (cc := cX7_statementTold) (maxL := 5) (ret := none) (by decide) rfl ?_
  intro p e s m args below meth c s₁ B hml hv
  obtain ⟨rfl, hsz, hP, hK, hD, hN⟩ := hv
  have hx := B.exec
  have hb := B.bytes
  have hr := B.returns
  have hts : ∀ w ∈ T0, w.before _ s = true := fun w h => atoms_spec (ws := Cond.code yX7_statementTold cX7_statementTold 5 none :: T0) B.pre w (List.mem_cons_of_mem _ h)
  have hown : s.vm.findClass RX7 = some m.cls := findClass_of_methodNamed B.named
  have hlocks := B.notSynchronized
  have hS : va_S (fun q => q ∈ L) s.heap s.heap [] := va_S.rf
  have hfr : ∀ b, K b ∉ [9, 62, 64] → F b = F b := fun _ _ => rfl
  have hl := lv_entry ([.ref a0]) (n := 5) (Nat.le_of_ble_eq_true rfl)
  rw [lg_entry_eq]
  generalize (lg_sl ([.ref a0]) ++ List.replicate (5 - (lg_sl ([.ref a0])).length) Slot.unset).toArray = ls at hl ⊢
  have hl : lv_has ls 5 [(0, .ref a0)] := hl
  refine s_gen hP hS (fun H locs hP hS => ?_)
  obtain ⟨z0, q0, oY0, bz0⟩ := y_opY hI ha0
  have hz0 : ∀ k, k ∈ ([1, 3, 7, 8, 15, 19, 25, 26, 27, 31, 32] : List Nat) → z0 k = z0 k := fun _ _ => rfl
  obtain ⟨f1, o2, b3⟩ := y_op12 hI
  obtain ⟨v4, ev4⟩ : ∃ y : Int32, y = z0 5 := ⟨_, rfl⟩
  have eF_5 := ev4
  obtain ⟨v5, ev5⟩ : ∃ y : Int32, y = z0 16 := ⟨_, rfl⟩
  have eF_16 := ev5
  have hst : (0 ≤ v5.toInt ∧ v5.toInt ≤ 80) := by have q9 := hst; rw [y_fiZ oY0 (k := 16) (by decide), ← ev5] at q9; exact q9
  have hnb : 0 ≤ (y_c f1 387).toInt ∧ (y_c f1 387).toInt ≤ 40 := b3
  have e0_v4 := ev4
  have e0_v5 := ev5
  refine th_join (fun g H locs => ∃ (G : Nat → va_E) (ls : Array Slot), g = F0 m 214 ls [] ∧ lv_has ls 5 [(0, .ref a0)] ∧ va_P (dC, dI) vwCl (va_pl L G) H ∧ va_S (fun q => q ∈ L) s.heap H locs ∧ y_I K cs A G ∧ (∀ b, K b ∉ [9, 62, 64] → G b = F b) ∧ (∀ k, k ∈ ([1, 3, 7, 8, 15, 19, 25, 26, 27, 31, 32] : List Nat) → y_fi G a0 k = z0 k) ∧ ((v4.toInt = 0 → y_DS f1) → (y_fi G a0 5).toInt = 0 → y_DS (y_at G (A 12))) ∧ ((v4.toInt = 0 ∨ ¬ (y_fi G a0 5).toInt = 0) ∧ (v5.toInt = 80 → ¬ (y_fi G a0 5).toInt = 0))) (fun K214 => ?_) ?_
  refine th_join (fun g H locs => ∃ (G : Nat → va_E) (ls : Array Slot) (w6 : Int32), g = F0 m 208 ls [] ∧ lv_has ls 5 [(0, .ref a0), (1, .int w6)] ∧ va_P (dC, dI) vwCl (va_pl L G) H ∧ va_S (fun q => q ∈ L) s.heap H locs ∧ y_I K cs A G ∧ (∀ b, K b ∉ [9, 62, 64] → G b = F b) ∧ (∀ k, k ∈ ([1, 3, 7, 8, 15, 19, 25, 26, 27, 31, 32] : List Nat) → y_fi G a0 k = z0 k) ∧ (0 ≤ w6.toInt ∧ w6.toInt ≤ 1600) ∧ (y_at G (A 12)) = f1 ∧ ((v4.toInt = 0 ∨ ¬ (y_fi G a0 5).toInt = 0) ∧ (v5.toInt = 80 → ¬ (y_fi G a0 5).toInt = 0))) (fun K208 => ?_) ?_
  refine th_join (fun g H locs => ∃ (G : Nat → va_E) (ls : Array Slot) (w7 : Int32) (w8 : Int32), g = F0 m 190 ls [] ∧ lv_has ls 5 [(0, .ref a0), (1, .int w7), (2, .int w8)] ∧ va_P (dC, dI) vwCl (va_pl L G) H ∧ va_S (fun q => q ∈ L) s.heap H locs ∧ y_I K cs A G ∧ (∀ b, K b ∉ [9, 62, 64] → G b = F b) ∧ (∀ k, k ∈ ([1, 3, 7, 8, 15, 19, 25, 26, 27, 31, 32] : List Nat) → y_fi G a0 k = z0 k) ∧ (0 ≤ w7.toInt ∧ w7.toInt ≤ 1600) ∧ True ∧ (y_at G (A 12)) = f1 ∧ ((v4.toInt = 0 ∨ ¬ (y_fi G a0 5).toInt = 0) ∧ (v5.toInt = 80 → ¬ (y_fi G a0 5).toInt = 0))) (fun K190 => ?_) ?_
  refine th_join (fun g H locs => ∃ (G : Nat → va_E) (ls : Array Slot) (w9 : Int32), g = F0 m 20 ls [] ∧ lv_has ls 5 [(0, .ref a0), (1, .int w9)] ∧ va_P (dC, dI) vwCl (va_pl L G) H ∧ va_S (fun q => q ∈ L) s.heap H locs ∧ y_I K cs A G ∧ (∀ b, K b ∉ [9, 62, 64] → G b = F b) ∧ (∀ k, k ∈ ([1, 3, 7, 8, 15, 19, 25, 26, 27, 31, 32] : List Nat) → y_fi G a0 k = z0 k) ∧ (0 ≤ w9.toInt ∧ w9.toInt ≤ 1600) ∧ (y_at G (A 12)) = f1 ∧ ((v4.toInt = 0 ∨ ¬ (y_fi G a0 5).toInt = 0) ∧ (v5.toInt = 80 → ¬ (y_fi G a0 5).toInt = 0))) (fun K20 => ?_) ?_
  · refine lv_aload_n hx hb dX7_statementTold_0 rfl (lv_at hl 0 rfl) ?_
    refine th_get (D := (dC, dI)) (ci := 7) (v := .int (z0 2)) (C := RX7) (T := TX7) (N := 34) hx hb hts inX7 hown hK hP (hLK _ ha0 (by decide)) oY0 rfl 2 (by decide) (hts _ T_272) (fun _ h9 => h9) rfl dX7_statementTold_1 ?_
    refine lv_topi (fun v10 ev10 => ?_)
    have qv10 : 0 ≤ v10.toInt ∧ v10.toInt ≤ 1600 := by rw [ev10]; exact y_bY2 bz0
    refine lv_istore_n (lv' := [(1, .int v10), (0, .ref a0)]) hx hb dX7_statementTold_4 rfl hl (by decide) rfl (fun ls hl => ?_)
    refine lv_aload_n hx hb dX7_statementTold_5 rfl (lv_at hl 1 rfl) ?_
    refine th_get (D := (dC, dI)) (ci := 7) (v := .int (z0 16)) (C := RX7) (T := TX7) (N := 34) hx hb hts inX7 hown hK hP (hLK _ ha0 (by decide)) oY0 rfl 16 (by decide) (hts _ T_306) (fun _ h9 => h9) rfl dX7_statementTold_6 ?_
    refine ax_eqi (y := v5) ev5.symm ?_
    refine lv_bipush (v := 80) hx hb dX7_statementTold_9 (by decide) ?_
    refine lv_icmp_ne (tgt := 20) hx hb dX7_statementTold_11 (by decide) (fun c11 => ?_) (fun c11 => ?_)
    · have c11 := mt (ax_eq (n := 80) (by decide)).mpr c11
      exact K20 _ _ _ ⟨F, _, v10, rfl, lv_sub hl [1, 0] rfl, hP, hS, hI, hfr, (fun k hk => (y_fiZ oY0 (s_sub (by decide) hk)).trans (hz0 k hk)), ⟨by omega, by omega⟩, (by rw [y_atE o2]; exact rfl), (by rw [y_fiZ oY0 (k := 5) (by decide), ← ev4]; omega)⟩
    · have c11 := (ax_eq (n := 80) (by decide)).mp c11
      refine lv_aload_n hx hb dX7_statementTold_14 rfl (lv_at hl 1 rfl) ?_
      refine lv_iconst (v := 5) hx hb dX7_statementTold_15 (by decide) ?_
      refine lv_iload_n hx hb dX7_statementTold_16 rfl (lv_at hl 0 rfl) ?_
      refine va_callv (va_runV (As := [.int 5, .int v10]) (rest := []) ⟨hx, hb, hml, hown, hts⟩ (y_X7_fail l dC dI H.size hLK A hA F a0 5 v10 ha0 (by decide) hI) (cwV 2 hts (ax_gV T_290 T_291 T_292 T_265 T_27) rfl rfl rfl (by decide +kernel) ⟨Nat.le_of_ble_eq_true rfl, Nat.le_of_ble_eq_true rfl⟩) ⟨fun a U g mk q => ⟨q.1, s_pc rfl rfl q.2⟩, s_recv hK hP (hLK _ ha0 (by decide)) (ci := 7) rfl oY0, fun U hU hW => ⟨rfl, s_pw hU hW hP hK hD hN⟩⟩ rfl rfl hl.1 rfl (lv_room (Nat.le_of_ble_eq_true rfl)) dX7_statementTold_17 ⟨Nat.zero_le _, Nat.zero_le _⟩) hS (fun q _ h => h) (fun q h => h) (fun F13 t H1 locs ht hvm hw hB hz1 hk1 hS => ?_)
      obtain ⟨hP, hK1⟩ := hB
      rw [ht] at hP
      generalize H1 = H at hP hS ⊢
      obtain ⟨h14, h16, hI, hfr1, hzf, h15⟩ := hw
      have o17 : F13 (A 12) = .inl (cs 0, 400, .inl f1) := (hfr1 _ (by rw [(y_k12 hA)]; decide)).trans o2
      obtain ⟨z18, q19, oY20, bz21⟩ := y_opY hI ha0
      have hzf : ∀ k, k ∈ ([1, 2, 3, 4, 7, 8, 11, 15, 16, 19, 25, 26, 27, 31, 32] : List Nat) → z18 k = z0 k := fun k hk => by have q9 := hzf k hk; rw [y_fiZ oY20 (s_sub (by decide) hk), y_fiZ oY0 (s_sub (by decide) hk)] at q9; exact q9
      have hz0 : ∀ k, k ∈ ([1, 3, 7, 8, 15, 19, 25, 26, 27, 31, 32] : List Nat) → z18 k = z0 k := fun k hk => (hzf k (s_sub (by decide) hk)).trans (hz0 k hk)
      have ev5 : v5 = z18 16 := ev5.trans (hzf 16 (by decide)).symm
      have ev10 : v10 = z18 2 := ev10.trans (hzf 2 (by decide)).symm
      have hfr : ∀ b, K b ∉ [9, 62, 64] → F13 b = F b := fun b hb9 => (hfr1 b (fun q => hb9 (s_sub (by decide) q))).trans (hfr b hb9)
      obtain ⟨v22, ev22⟩ : ∃ y : Int32, y = z18 5 := ⟨_, rfl⟩
      have h15 : (¬ v22.toInt = 0) := by have q9 := h15; rw [y_fiZ oY20 (k := 5) (by decide), ← ev22] at q9; exact q9
      exact K20 _ _ _ ⟨F13, _, v10, rfl, lv_sub hl [1, 0] rfl, hP, hS, hI, hfr, (fun k hk => (y_fiZ oY20 (s_sub (by decide) hk)).trans (hz0 k hk)), ⟨by omega, by omega⟩, (by rw [y_atE o17]; exact rfl), (by rw [y_fiZ oY20 (k := 5) (by decide), ← ev22]; omega)⟩
  · intro g H locs hq
    obtain ⟨F26, ls, w9, rfl, hl, hP, hS, hI, hfr, hz0, h23, h24, h25⟩ := hq
    obtain ⟨z27, q28, oY29, bz30⟩ := y_opY hI ha0
    have hz0 : ∀ k, k ∈ ([1, 3, 7, 8, 15, 19, 25, 26, 27, 31, 32] : List Nat) → z27 k = z0 k := fun k hk => (y_fiZ oY29 (s_sub (by decide) hk)).symm.trans (hz0 k hk)
    obtain ⟨f31, o32, b33⟩ := y_op12 hI
    have h24 : f31 = f1 := by have q9 := h24; rw [y_atE o32] at q9; exact q9
    obtain ⟨v34, ev34⟩ : ∃ y : Int32, y = z27 5 := ⟨_, rfl⟩
    have h25 : ((v4.toInt = 0 ∨ ¬ v34.toInt = 0) ∧ (v5.toInt = 80 → ¬ v34.toInt = 0)) := by have q9 := h25; rw [y_fiZ oY29 (k := 5) (by decide), ← ev34] at q9; exact q9
    refine lv_aload_n hx hb dX7_statementTold_20 rfl (lv_at hl 0 rfl) ?_
    refine va_calli (va_runV (As := []) (rest := []) ⟨hx, hb, hml, hown, hts⟩ (y_X7_ownHere l dC dI H.size hLK A hA F26 a0 ha0 hI) (cwV 0 hts (ax_gV T_283 T_284 T_285 T_265 T_25) rfl rfl rfl (by decide +kernel) ⟨Nat.le_of_ble_eq_true rfl, Nat.le_of_ble_eq_true rfl⟩) ⟨fun a U g mk q => ⟨q.1, s_pc rfl rfl q.2⟩, s_recv hK hP (hLK _ ha0 (by decide)) (ci := 7) rfl oY29, fun U hU hW => ⟨rfl, s_pw hU hW hP hK hD hN⟩⟩ rfl rfl hl.1 rfl (lv_room (Nat.le_of_ble_eq_true rfl)) dX7_statementTold_21 ⟨Nat.zero_le _, Nat.zero_le _⟩) hS (fun q _ h => h) (fun q h => h) (fun r36 F37 t H1 locs ht hvm hw hB hz1 hk1 hS => ?_)
    obtain ⟨hP, hK1⟩ := hB
    rw [ht] at hP
    generalize H1 = H at hP hS ⊢
    obtain ⟨h38, h40, hI, hfr1, hzf, h39⟩ := hw
    have o41 : F37 (A 12) = .inl (cs 0, 400, .inl f31) := (hfr1 _ (by rw [(y_k12 hA)]; decide)).trans o32
    obtain ⟨z42, q43, oY44, bz45⟩ := y_opY hI ha0
    have hzf : ∀ k, k ∈ ([1, 3, 4, 5, 6, 7, 8, 11, 15, 16, 19, 25, 26, 27, 31, 32] : List Nat) → z42 k = z27 k := fun k hk => by have q9 := hzf k hk; rw [y_fiZ oY44 (s_sub (by decide) hk), y_fiZ oY29 (s_sub (by decide) hk)] at q9; exact q9
    have hz0 : ∀ k, k ∈ ([1, 3, 7, 8, 15, 19, 25, 26, 27, 31, 32] : List Nat) → z42 k = z0 k := fun k hk => (hzf k (s_sub (by decide) hk)).trans (hz0 k hk)
    have ev34 : v34 = z42 5 := ev34.trans (hzf 5 (by decide)).symm
    have hfr : ∀ b, K b ∉ [9, 62, 64] → F37 b = F b := fun b hb9 => (hfr1 b (fun q => hb9 (s_sub (by decide) q))).trans (hfr b hb9)
    refine lv_istore_n (lv' := [(2, .int r36), (0, .ref a0), (1, .int w9)]) hx hb dX7_statementTold_24 rfl hl (by decide) rfl (fun ls hl => ?_)
    refine lv_aload_n hx hb dX7_statementTold_25 rfl (lv_at hl 1 rfl) ?_
    refine lv_bipush (v := 21) hx hb dX7_statementTold_26 (by decide) ?_
    refine va_calli (va_runV (As := [.int 21]) (rest := []) ⟨hx, hb, hml, hown, hts⟩ (y_X7_takes l dC dI H.size hLK A hA F37 a0 21 ha0 hI) (cwV 1 hts (ax_gV T_287 T_288 T_289 T_265 T_26) rfl rfl rfl (by decide +kernel) ⟨Nat.le_of_ble_eq_true rfl, Nat.le_of_ble_eq_true rfl⟩) ⟨fun a U g mk q => ⟨q.1, s_pc rfl rfl q.2⟩, s_recv hK hP (hLK _ ha0 (by decide)) (ci := 7) rfl oY44, fun U hU hW => ⟨rfl, s_pw hU hW hP hK hD hN⟩⟩ rfl rfl hl.1 rfl (lv_room (Nat.le_of_ble_eq_true rfl)) dX7_statementTold_28 ⟨Nat.zero_le _, Nat.zero_le _⟩) hS (fun q _ h => h) (fun q h => h) (fun r47 F48 t H1 locs ht hvm hw hB hz1 hk1 hS => ?_)
    obtain ⟨hP, hK1⟩ := hB
    rw [ht] at hP
    generalize H1 = H at hP hS ⊢
    obtain ⟨h49, h51, hI, hfr1, hzf, h50⟩ := hw
    have o52 : F48 (A 12) = .inl (cs 0, 400, .inl f31) := (hfr1 _ (by rw [(y_k12 hA)]; decide)).trans o41
    obtain ⟨z53, q54, oY55, bz56⟩ := y_opY hI ha0
    have hzf : ∀ k, k ∈ ([1, 3, 5, 6, 7, 8, 11, 15, 16, 19, 25, 26, 27, 31, 32] : List Nat) → z53 k = z42 k := fun k hk => by have q9 := hzf k hk; rw [y_fiZ oY55 (s_sub (by decide) hk), y_fiZ oY44 (s_sub (by decide) hk)] at q9; exact q9
    have hz0 : ∀ k, k ∈ ([1, 3, 7, 8, 15, 19, 25, 26, 27, 31, 32] : List Nat) → z53 k = z0 k := fun k hk => (hzf k (s_sub (by decide) hk)).trans (hz0 k hk)
    have ev34 : v34 = z53 5 := ev34.trans (hzf 5 (by decide)).symm
    have hfr : ∀ b, K b ∉ [9, 62, 64] → F48 b = F b := fun b hb9 => (hfr1 b (fun q => hb9 (s_sub (by decide) q))).trans (hfr b hb9)
    refine lv_if_eq (tgt := 74) hx hb dX7_statementTold_31 (by decide) (fun c57 => ?_) (fun c57 => ?_)
    · have c57 := (ax_eq (n := 0) (by decide)).mp c57
      refine lv_aload_n hx hb dX7_statementTold_74 rfl (lv_at hl 1 rfl) ?_
      refine lv_bipush (v := 22) hx hb dX7_statementTold_75 (by decide) ?_
      refine va_calli (va_runV (As := [.int 22]) (rest := []) ⟨hx, hb, hml, hown, hts⟩ (y_X7_takes l dC dI H.size hLK A hA F48 a0 22 ha0 hI) (cwV 1 hts (ax_gV T_287 T_288 T_289 T_265 T_26) rfl rfl rfl (by decide +kernel) ⟨Nat.le_of_ble_eq_true rfl, Nat.le_of_ble_eq_true rfl⟩) ⟨fun a U g mk q => ⟨q.1, s_pc rfl rfl q.2⟩, s_recv hK hP (hLK _ ha0 (by decide)) (ci := 7) rfl oY55, fun U hU hW => ⟨rfl, s_pw hU hW hP hK hD hN⟩⟩ rfl rfl hl.1 rfl (lv_room (Nat.le_of_ble_eq_true rfl)) dX7_statementTold_77 ⟨Nat.zero_le _, Nat.zero_le _⟩) hS (fun q _ h => h) (fun q h => h) (fun r59 F60 t H1 locs ht hvm hw hB hz1 hk1 hS => ?_)
      obtain ⟨hP, hK1⟩ := hB
      rw [ht] at hP
      generalize H1 = H at hP hS ⊢
      obtain ⟨h61, h63, hI, hfr1, hzf, h62⟩ := hw
      have o64 : F60 (A 12) = .inl (cs 0, 400, .inl f31) := (hfr1 _ (by rw [(y_k12 hA)]; decide)).trans o52
      obtain ⟨z65, q66, oY67, bz68⟩ := y_opY hI ha0
      have hzf : ∀ k, k ∈ ([1, 3, 5, 6, 7, 8, 11, 15, 16, 19, 25, 26, 27, 31, 32] : List Nat) → z65 k = z53 k := fun k hk => by have q9 := hzf k hk; rw [y_fiZ oY67 (s_sub (by decide) hk), y_fiZ oY55 (s_sub (by decide) hk)] at q9; exact q9
      have hz0 : ∀ k, k ∈ ([1, 3, 7, 8, 15, 19, 25, 26, 27, 31, 32] : List Nat) → z65 k = z0 k := fun k hk => (hzf k (s_sub (by decide) hk)).trans (hz0 k hk)
      have ev34 : v34 = z65 5 := ev34.trans (hzf 5 (by decide)).symm
      have hfr : ∀ b, K b ∉ [9, 62, 64] → F60 b = F b := fun b hb9 => (hfr1 b (fun q => hb9 (s_sub (by decide) q))).trans (hfr b hb9)
      refine lv_if_eq (tgt := 120) hx hb dX7_statementTold_80 (by decide) (fun c69 => ?_) (fun c69 => ?_)
      · have c69 := (ax_eq (n := 0) (by decide)).mp c69
        refine lv_aload_n hx hb dX7_statementTold_120 rfl (lv_at hl 1 rfl) ?_
        refine lv_bipush (v := 25) hx hb dX7_statementTold_121 (by decide) ?_
        refine va_calli (va_runV (As := [.int 25]) (rest := []) ⟨hx, hb, hml, hown, hts⟩ (y_X7_takes l dC dI H.size hLK A hA F60 a0 25 ha0 hI) (cwV 1 hts (ax_gV T_287 T_288 T_289 T_265 T_26) rfl rfl rfl (by decide +kernel) ⟨Nat.le_of_ble_eq_true rfl, Nat.le_of_ble_eq_true rfl⟩) ⟨fun a U g mk q => ⟨q.1, s_pc rfl rfl q.2⟩, s_recv hK hP (hLK _ ha0 (by decide)) (ci := 7) rfl oY67, fun U hU hW => ⟨rfl, s_pw hU hW hP hK hD hN⟩⟩ rfl rfl hl.1 rfl (lv_room (Nat.le_of_ble_eq_true rfl)) dX7_statementTold_123 ⟨Nat.zero_le _, Nat.zero_le _⟩) hS (fun q _ h => h) (fun q h => h) (fun r71 F72 t H1 locs ht hvm hw hB hz1 hk1 hS => ?_)
        obtain ⟨hP, hK1⟩ := hB
        rw [ht] at hP
        generalize H1 = H at hP hS ⊢
        obtain ⟨h73, h75, hI, hfr1, hzf, h74⟩ := hw
        have o76 : F72 (A 12) = .inl (cs 0, 400, .inl f31) := (hfr1 _ (by rw [(y_k12 hA)]; decide)).trans o64
        obtain ⟨z77, q78, oY79, bz80⟩ := y_opY hI ha0
        have hzf : ∀ k, k ∈ ([1, 3, 5, 6, 7, 8, 11, 15, 16, 19, 25, 26, 27, 31, 32] : List Nat) → z77 k = z65 k := fun k hk => by have q9 := hzf k hk; rw [y_fiZ oY79 (s_sub (by decide) hk), y_fiZ oY67 (s_sub (by decide) hk)] at q9; exact q9
        have hz0 : ∀ k, k ∈ ([1, 3, 7, 8, 15, 19, 25, 26, 27, 31, 32] : List Nat) → z77 k = z0 k := fun k hk => (hzf k (s_sub (by decide) hk)).trans (hz0 k hk)
        have ev34 : v34 = z77 5 := ev34.trans (hzf 5 (by decide)).symm
        have hfr : ∀ b, K b ∉ [9, 62, 64] → F72 b = F b := fun b hb9 => (hfr1 b (fun q => hb9 (s_sub (by decide) q))).trans (hfr b hb9)
        refine lv_if_eq (tgt := 166) hx hb dX7_statementTold_126 (by decide) (fun c81 => ?_) (fun c81 => ?_)
        · have c81 := (ax_eq (n := 0) (by decide)).mp c81
          refine lv_iload_n hx hb dX7_statementTold_166 rfl (lv_at hl 0 rfl) ?_
          refine lv_i2l hx hb dX7_statementTold_167 rfl ?_
          refine lv_topl (fun v82 ev82 => ?_)
          have qv82 : v82.toInt = r36.toInt := y_i2l ev82
          refine lv_lconst (v := 0) hx hb dX7_statementTold_168 (by decide) ?_
          refine lv_ldc2 hx hb hown (hts _ T_1256) dX7_statementTold_169 ?_
          refine va_calli (va_runS (As := [.long v82, .long 0, .long 15]) (rest := []) ⟨hx, hb, hml, hown, hts⟩ (y_X7_isIn l dC dI H.size F72 v82 0 15) (cwS 3 hts (ax_gS T_267 T_268 T_265 T_21) rfl rfl rfl (by decide +kernel) ⟨Nat.le_of_ble_eq_true rfl, Nat.le_of_ble_eq_true rfl⟩) ⟨fun a U g mk q => ⟨q.1, s_pc rfl rfl q.2⟩, fun U hU hW => ⟨rfl, s_pw hU hW hP hK hD hN⟩⟩ rfl rfl hl.1 rfl (lv_room (Nat.le_of_ble_eq_true rfl)) dX7_statementTold_172 ⟨Nat.zero_le _, Nat.zero_le _⟩) hS (fun q _ h => h) (fun q h => h) (fun r84 F85 t H1 locs ht hvm hw hB hz1 hk1 hS => ?_)
          obtain ⟨hP, hK1⟩ := hB
          rw [ht] at hP
          generalize H1 = H at hP hS ⊢
          obtain ⟨h86, h88, hG9, h87⟩ := hw
          rw [hG9] at hP
          have h87 : ((r84.toInt = 0 ∧ (v82.toInt < 0 ∨ 15 < v82.toInt)) ∨ (r84.toInt = 1 ∧ 0 ≤ v82.toInt ∧ v82.toInt ≤ 15)) := by have q9 := h87; exact q9
          refine lv_if_ne (tgt := 190) hx hb dX7_statementTold_175 (by decide) (fun c89 => ?_) (fun c89 => ?_)
          · have c89 := mt (ax_eq (n := 0) (by decide)).mpr c89
            exact K190 _ _ _ ⟨F72, _, w9, r36, rfl, lv_sub hl [1, 2, 0] rfl, hP, hS, hI, hfr, (fun k hk => (y_fiZ oY79 (s_sub (by decide) hk)).trans (hz0 k hk)), ⟨by omega, by omega⟩, trivial, (by rw [y_atE o76]; exact h24), (by rw [y_fiZ oY79 (k := 5) (by decide), ← ev34]; omega)⟩
          · have c89 := (ax_eq (n := 0) (by decide)).mp c89
            refine lv_aload_n hx hb dX7_statementTold_178 rfl (lv_at hl 1 rfl) ?_
            refine va_calli (va_runV (As := []) (rest := []) ⟨hx, hb, hml, hown, hts⟩ (y_X7_isWordHere l dC dI H.size hLK A hA F72 a0 ha0 hI) (cwV 0 hts (ax_gV T_280 T_281 T_282 T_265 T_24) rfl rfl rfl (by decide +kernel) ⟨Nat.le_of_ble_eq_true rfl, Nat.le_of_ble_eq_true rfl⟩) ⟨fun a U g mk q => ⟨q.1, s_pc rfl rfl q.2⟩, s_recv hK hP (hLK _ ha0 (by decide)) (ci := 7) rfl oY79, fun U hU hW => ⟨rfl, s_pw hU hW hP hK hD hN⟩⟩ rfl rfl hl.1 rfl (lv_room (Nat.le_of_ble_eq_true rfl)) dX7_statementTold_179 ⟨Nat.zero_le _, Nat.zero_le _⟩) hS (fun q _ h => h) (fun q h => h) (fun r91 F92 t H1 locs ht hvm hw hB hz1 hk1 hS => ?_)
            obtain ⟨hP, hK1⟩ := hB
            rw [ht] at hP
            generalize H1 = H at hP hS ⊢
            obtain ⟨h93, h95, hI, hfr1, hzf, h94⟩ := hw
            have o96 : F92 (A 12) = .inl (cs 0, 400, .inl f31) := (hfr1 _ (by rw [(y_k12 hA)]; decide)).trans o76
            obtain ⟨z97, q98, oY99, bz100⟩ := y_opY hI ha0
            have hzf : ∀ k, k ∈ ([1, 3, 4, 5, 6, 7, 8, 11, 15, 16, 19, 25, 26, 27, 31, 32] : List Nat) → z97 k = z77 k := fun k hk => by have q9 := hzf k hk; rw [y_fiZ oY99 (s_sub (by decide) hk), y_fiZ oY79 (s_sub (by decide) hk)] at q9; exact q9
            have hz0 : ∀ k, k ∈ ([1, 3, 7, 8, 15, 19, 25, 26, 27, 31, 32] : List Nat) → z97 k = z0 k := fun k hk => (hzf k (s_sub (by decide) hk)).trans (hz0 k hk)
            have ev34 : v34 = z97 5 := ev34.trans (hzf 5 (by decide)).symm
            have hfr : ∀ b, K b ∉ [9, 62, 64] → F92 b = F b := fun b hb9 => (hfr1 b (fun q => hb9 (s_sub (by decide) q))).trans (hfr b hb9)
            obtain ⟨v101, ev101⟩ : ∃ y : Int32, y = z97 2 := ⟨_, rfl⟩
            have qv101 : 0 ≤ v101.toInt ∧ v101.toInt ≤ 1600 := by rw [ev101]; exact y_bY2 bz100
            obtain ⟨v102, ev102⟩ : ∃ y : Int32, y = z97 3 := ⟨_, rfl⟩
            have qv102 : 0 ≤ v102.toInt ∧ v102.toInt ≤ 1600 := by rw [ev102]; exact y_bY3 bz100
            have h94 : (r91.toInt = 0 ∨ v101.toInt < v102.toInt) := by have q9 := h94; rw [y_fiZ oY99 (k := 2) (by decide), ← ev101, y_fiZ oY99 (k := 3) (by decide), ← ev102] at q9; exact q9
            refine lv_if_eq (tgt := 208) hx hb dX7_statementTold_182 (by decide) (fun c103 => ?_) (fun c103 => ?_)
            · have c103 := (ax_eq (n := 0) (by decide)).mp c103
              exact K208 _ _ _ ⟨F92, _, w9, rfl, lv_sub hl [1, 2] rfl, hP, hS, hI, hfr, (fun k hk => (y_fiZ oY99 (s_sub (by decide) hk)).trans (hz0 k hk)), ⟨by omega, by omega⟩, (by rw [y_atE o96]; exact h24), (by rw [y_fiZ oY99 (k := 5) (by decide), ← ev34]; omega)⟩
            · have c103 := mt (ax_eq (n := 0) (by decide)).mpr c103
              refine lv_iload_n hx hb dX7_statementTold_185 rfl (lv_at hl 0 rfl) ?_
              refine lv_iconst (v := (-1)) hx hb dX7_statementTold_186 (by decide) ?_
              refine lv_icmp_ne (tgt := 208) hx hb dX7_statementTold_187 (by decide) (fun c104 => ?_) (fun c104 => ?_)
              · have c104 := mt (ax_eq (n := (-1)) (by decide)).mpr c104
                exact K208 _ _ _ ⟨F92, _, w9, rfl, lv_sub hl [1, 2] rfl, hP, hS, hI, hfr, (fun k hk => (y_fiZ oY99 (s_sub (by decide) hk)).trans (hz0 k hk)), ⟨by omega, by omega⟩, (by rw [y_atE o96]; exact h24), (by rw [y_fiZ oY99 (k := 5) (by decide), ← ev34]; omega)⟩
              · have c104 := (ax_eq (n := (-1)) (by decide)).mp c104
                exact K190 _ _ _ ⟨F92, _, w9, r36, rfl, lv_sub hl [1, 2, 0] rfl, hP, hS, hI, hfr, (fun k hk => (y_fiZ oY99 (s_sub (by decide) hk)).trans (hz0 k hk)), ⟨by omega, by omega⟩, trivial, (by rw [y_atE o96]; exact h24), (by rw [y_fiZ oY99 (k := 5) (by decide), ← ev34]; omega)⟩
        · have c81 := mt (ax_eq (n := 0) (by decide)).mpr c81
          refine lv_aload_n hx hb dX7_statementTold_129 rfl (lv_at hl 1 rfl) ?_
          refine th_get (D := (dC, dI)) (ci := 7) (v := .ref (A 12)) (C := RX7) (T := TX7) (N := 34) hx hb hts inX7 hown hK hP (hLK _ ha0 (by decide)) oY79 rfl 12 (by decide) (hts _ T_245) (fun _ h9 => h9) rfl dX7_statementTold_130 ?_
          refine lv_sipush (v := 386) hx hb dX7_statementTold_133 (by decide) ?_
          refine lv_aload_n hx hb dX7_statementTold_136 rfl (lv_at hl 1 rfl) ?_
          refine lv_bipush (v := 27) hx hb dX7_statementTold_137 (by decide) ?_
          refine va_calli (va_runV (As := [.int 27]) (rest := [.int 386, .ref (A 12)]) ⟨hx, hb, hml, hown, hts⟩ (y_X7_takes l dC dI H.size hLK A hA F72 a0 27 ha0 hI) (cwV 1 hts (ax_gV T_287 T_288 T_289 T_265 T_26) rfl rfl rfl (by decide +kernel) ⟨Nat.le_of_ble_eq_true rfl, Nat.le_of_ble_eq_true rfl⟩) ⟨fun a U g mk q => ⟨q.1, s_pc rfl rfl q.2⟩, s_recv hK hP (hLK _ ha0 (by decide)) (ci := 7) rfl oY79, fun U hU hW => ⟨rfl, s_pw hU hW hP hK hD hN⟩⟩ rfl rfl hl.1 rfl (lv_room (Nat.le_of_ble_eq_true rfl)) dX7_statementTold_139 ⟨Nat.zero_le _, Nat.zero_le _⟩) hS (fun q _ h => h) (fun q h => h) (fun r106 F107 t H1 locs ht hvm hw hB hz1 hk1 hS => ?_)
          obtain ⟨hP, hK1⟩ := hB
          rw [ht] at hP
          generalize H1 = H at hP hS ⊢
          obtain ⟨h108, h110, hI, hfr1, hzf, h109⟩ := hw
          have o111 : F107 (A 12) = .inl (cs 0, 400, .inl f31) := (hfr1 _ (by rw [(y_k12 hA)]; decide)).trans o76
          obtain ⟨z112, q113, oY114, bz115⟩ := y_opY hI ha0
          have hzf : ∀ k, k ∈ ([1, 3, 5, 6, 7, 8, 11, 15, 16, 19, 25, 26, 27, 31, 32] : List Nat) → z112 k = z77 k := fun k hk => by have q9 := hzf k hk; rw [y_fiZ oY114 (s_sub (by decide) hk), y_fiZ oY79 (s_sub (by decide) hk)] at q9; exact q9
          have hz0 : ∀ k, k ∈ ([1, 3, 7, 8, 15, 19, 25, 26, 27, 31, 32] : List Nat) → z112 k = z0 k := fun k hk => (hzf k (s_sub (by decide) hk)).trans (hz0 k hk)
          have ev34 : v34 = z112 5 := ev34.trans (hzf 5 (by decide)).symm
          have hfr : ∀ b, K b ∉ [9, 62, 64] → F107 b = F b := fun b hb9 => (hfr1 b (fun q => hb9 (s_sub (by decide) q))).trans (hfr b hb9)
          refine va_calli (va_runS (As := [.int r106]) (rest := [.int 386, .ref (A 12)]) ⟨hx, hb, hml, hown, hts⟩ (y_X7_flag l dC dI H.size F107 r106 (⟨by omega, by omega⟩)) (cwS 1 hts (ax_gS T_1001 T_1003 T_265 T_1002) rfl rfl rfl (by decide +kernel) ⟨Nat.le_of_ble_eq_true rfl, Nat.le_of_ble_eq_true rfl⟩) ⟨fun a U g mk q => ⟨q.1, s_pc rfl rfl q.2⟩, fun U hU hW => ⟨rfl, s_pw hU hW hP hK hD hN⟩⟩ rfl rfl hl.1 rfl (lv_room (Nat.le_of_ble_eq_true rfl)) dX7_statementTold_142 ⟨Nat.zero_le _, Nat.zero_le _⟩) hS (fun q _ h => h) (fun q h => h) (fun r117 F118 t H1 locs ht hvm hw hB hz1 hk1 hS => ?_)
          obtain ⟨hP, hK1⟩ := hB
          rw [ht] at hP
          generalize H1 = H at hP hS ⊢
          obtain ⟨h119, h121, hG9, h120⟩ := hw
          rw [hG9] at hP
          refine th_iast hx hb hK hP hD hS (hLK _ (y_k12 hA) (by decide)) 0 o111 rfl (ax_in (by decide)) dX7_statementTold_145 (fun H locs hP hS => ?_)
          obtain ⟨f122, u123⟩ : ∃ g : Nat → Int32, g = upd f31 (386 : Int32).toNatClampNeg r117 := ⟨_, rfl⟩
          rw [← u123] at hP
          have b124 : y_bd 12 f122 := by rw [u123]; exact th_updJ (P := fun y => 0 ≤ y.toInt ∧ y.toInt ≤ 40) b33 (fun q => absurd q (by decide))
          have hP : va_P (dC, dI) vwCl (va_pl L (va_up F107 (A 12) (.inl (cs 0, 400, .inl f122)))) H := hP
          obtain ⟨F125, hF126⟩ : ∃ G : Nat → va_E, G = va_up F107 (A 12) (.inl (cs 0, 400, .inl f122)) := ⟨_, rfl⟩
          rw [← hF126] at hP
          have hI : y_I K cs A F125 := by rw [hF126]; exact y_clA (i := 12) hA hI (by decide) b124
          have hfr : ∀ b, K b ∉ [9, 62, 64] → F125 b = F b := by rw [hF126]; exact s_fr hfr (y_k12 hA) (by decide)
          have oY127 : F125 a0 = .inr (7, y_fl A z112 q113) := by rw [hF126]; exact th_ne (th_kd ha0 (y_k12 hA) (by decide)) oY114
          have o128 : F125 (A 12) = .inl (cs 0, 400, .inl f122) := by rw [hF126]; exact th_up
          have u129 : ∀ j : Int, 0 ≤ j → y_c f122 j = if j = 386 then r117 else y_c f31 j := by rw [u123]; exact y_cu (by decide) (by decide)
          refine lv_aload_n hx hb dX7_statementTold_146 rfl (lv_at hl 1 rfl) ?_
          refine th_get (D := (dC, dI)) (ci := 7) (v := .ref (A 12)) (C := RX7) (T := TX7) (N := 34) hx hb hts inX7 hown hK hP (hLK _ ha0 (by decide)) oY127 rfl 12 (by decide) (hts _ T_245) (fun _ h9 => h9) rfl dX7_statementTold_147 ?_
          refine lv_sipush (v := 386) hx hb dX7_statementTold_150 (by decide) ?_
          refine th_iald hx hb hK hP (hLK _ (y_k12 hA) (by decide)) 0 o128 rfl (ax_in (by decide)) dX7_statementTold_153 ?_
          refine lv_topi (fun v130 ev130 => ?_)
          refine lv_if_ne (tgt := 214) hx hb dX7_statementTold_154 (by decide) (fun c131 => ?_) (fun c131 => ?_)
          · have c131 := mt (ax_eq (n := 0) (by decide)).mpr c131
            exact K214 _ _ _ ⟨F125, _, rfl, lv_sub hl [1] rfl, hP, hS, hI, hfr, (fun k hk => (y_fiZ oY127 (s_sub (by decide) hk)).trans (hz0 k hk)), (by rw [y_fiZ oY127 (k := 5) (by decide), ← ev34, y_atE o128]; exact (fun hd hg => y_DSp u129 (by omega) ⟨by omega, by omega⟩ (by rw [h24]; omega) (by rw [h24]; exact hd (by omega)))), (by rw [y_fiZ oY127 (k := 5) (by decide), ← ev34]; omega)⟩
          · have c131 := (ax_eq (n := 0) (by decide)).mp c131
            refine lv_aload_n hx hb dX7_statementTold_157 rfl (lv_at hl 1 rfl) ?_
            refine lv_bipush (v := 26) hx hb dX7_statementTold_158 (by decide) ?_
            have ep132_5 := ev34
            refine va_callv (va_runV (As := [.int 26]) (rest := []) ⟨hx, hb, hml, hown, hts⟩ (y_X7_asks l dC dI H.size hLK A hA F125 a0 26 ha0 hI) (cwV 1 hts (ax_gV T_297 T_298 T_299 T_265 T_29) rfl rfl rfl (by decide +kernel) ⟨Nat.le_of_ble_eq_true rfl, Nat.le_of_ble_eq_true rfl⟩) ⟨fun a U g mk q => ⟨q.1, s_pc rfl rfl q.2⟩, s_recv hK hP (hLK _ ha0 (by decide)) (ci := 7) rfl oY127, fun U hU hW => ⟨rfl, s_pw hU hW hP hK hD hN⟩⟩ rfl rfl hl.1 rfl (lv_room (Nat.le_of_ble_eq_true rfl)) dX7_statementTold_160 ⟨Nat.zero_le _, Nat.zero_le _⟩) hS (fun q _ h => h) (fun q h => h) (fun F133 t H1 locs ht hvm hw hB hz1 hk1 hS => ?_)
            obtain ⟨hP, hK1⟩ := hB
            rw [ht] at hP
            generalize H1 = H at hP hS ⊢
            obtain ⟨h134, h136, hI, hfr1, hzf, h135⟩ := hw
            have o137 : F133 (A 12) = .inl (cs 0, 400, .inl f122) := (hfr1 _ (by rw [(y_k12 hA)]; decide)).trans o128
            obtain ⟨z138, q139, oY140, bz141⟩ := y_opY hI ha0
            have hzf : ∀ k, k ∈ ([1, 3, 7, 8, 11, 15, 16, 19, 25, 26, 27, 31, 32] : List Nat) → z138 k = z112 k := fun k hk => by have q9 := hzf k hk; rw [y_fiZ oY140 (s_sub (by decide) hk), y_fiZ oY127 (s_sub (by decide) hk)] at q9; exact q9
            have hz0 : ∀ k, k ∈ ([1, 3, 7, 8, 15, 19, 25, 26, 27, 31, 32] : List Nat) → z138 k = z0 k := fun k hk => (hzf k (s_sub (by decide) hk)).trans (hz0 k hk)
            have hfr : ∀ b, K b ∉ [9, 62, 64] → F133 b = F b := fun b hb9 => (hfr1 b (fun q => hb9 (s_sub (by decide) q))).trans (hfr b hb9)
            obtain ⟨v142, ev142⟩ : ∃ y : Int32, y = z138 5 := ⟨_, rfl⟩
            have h135 : (v34.toInt = 0 ∨ ¬ v142.toInt = 0) := by have q9 := h135; rw [y_fiZ oY127 (k := 5) (by decide), ← ep132_5, y_fiZ oY140 (k := 5) (by decide), ← ev142] at q9; exact q9
            refine lv_goto (tgt := 214) hx hb dX7_statementTold_163 (by decide) ?_
            exact K214 _ _ _ ⟨F133, _, rfl, lv_sub hl [1] rfl, hP, hS, hI, hfr, (fun k hk => (y_fiZ oY140 (s_sub (by decide) hk)).trans (hz0 k hk)), (by rw [y_fiZ oY140 (k := 5) (by decide), ← ev142, y_atE o137]; exact (fun hd hg => y_DSp u129 (by omega) ⟨by omega, by omega⟩ (by rw [h24]; omega) (by rw [h24]; exact hd (by omega)))), (by rw [y_fiZ oY140 (k := 5) (by decide), ← ev142]; omega)⟩
      · have c69 := mt (ax_eq (n := 0) (by decide)).mpr c69
        refine lv_aload_n hx hb dX7_statementTold_83 rfl (lv_at hl 1 rfl) ?_
        refine th_get (D := (dC, dI)) (ci := 7) (v := .ref (A 12)) (C := RX7) (T := TX7) (N := 34) hx hb hts inX7 hown hK hP (hLK _ ha0 (by decide)) oY67 rfl 12 (by decide) (hts _ T_245) (fun _ h9 => h9) rfl dX7_statementTold_84 ?_
        refine lv_sipush (v := 385) hx hb dX7_statementTold_87 (by decide) ?_
        refine lv_aload_n hx hb dX7_statementTold_90 rfl (lv_at hl 1 rfl) ?_
        refine lv_bipush (v := 24) hx hb dX7_statementTold_91 (by decide) ?_
        refine va_calli (va_runV (As := [.int 24]) (rest := [.int 385, .ref (A 12)]) ⟨hx, hb, hml, hown, hts⟩ (y_X7_takes l dC dI H.size hLK A hA F60 a0 24 ha0 hI) (cwV 1 hts (ax_gV T_287 T_288 T_289 T_265 T_26) rfl rfl rfl (by decide +kernel) ⟨Nat.le_of_ble_eq_true rfl, Nat.le_of_ble_eq_true rfl⟩) ⟨fun a U g mk q => ⟨q.1, s_pc rfl rfl q.2⟩, s_recv hK hP (hLK _ ha0 (by decide)) (ci := 7) rfl oY67, fun U hU hW => ⟨rfl, s_pw hU hW hP hK hD hN⟩⟩ rfl rfl hl.1 rfl (lv_room (Nat.le_of_ble_eq_true rfl)) dX7_statementTold_93 ⟨Nat.zero_le _, Nat.zero_le _⟩) hS (fun q _ h => h) (fun q h => h) (fun r144 F145 t H1 locs ht hvm hw hB hz1 hk1 hS => ?_)
        obtain ⟨hP, hK1⟩ := hB
        rw [ht] at hP
        generalize H1 = H at hP hS ⊢
        obtain ⟨h146, h148, hI, hfr1, hzf, h147⟩ := hw
        have o149 : F145 (A 12) = .inl (cs 0, 400, .inl f31) := (hfr1 _ (by rw [(y_k12 hA)]; decide)).trans o64
        obtain ⟨z150, q151, oY152, bz153⟩ := y_opY hI ha0
        have hzf : ∀ k, k ∈ ([1, 3, 5, 6, 7, 8, 11, 15, 16, 19, 25, 26, 27, 31, 32] : List Nat) → z150 k = z65 k := fun k hk => by have q9 := hzf k hk; rw [y_fiZ oY152 (s_sub (by decide) hk), y_fiZ oY67 (s_sub (by decide) hk)] at q9; exact q9
        have hz0 : ∀ k, k ∈ ([1, 3, 7, 8, 15, 19, 25, 26, 27, 31, 32] : List Nat) → z150 k = z0 k := fun k hk => (hzf k (s_sub (by decide) hk)).trans (hz0 k hk)
        have ev34 : v34 = z150 5 := ev34.trans (hzf 5 (by decide)).symm
        have hfr : ∀ b, K b ∉ [9, 62, 64] → F145 b = F b := fun b hb9 => (hfr1 b (fun q => hb9 (s_sub (by decide) q))).trans (hfr b hb9)
        refine va_calli (va_runS (As := [.int r144]) (rest := [.int 385, .ref (A 12)]) ⟨hx, hb, hml, hown, hts⟩ (y_X7_flag l dC dI H.size F145 r144 (⟨by omega, by omega⟩)) (cwS 1 hts (ax_gS T_1001 T_1003 T_265 T_1002) rfl rfl rfl (by decide +kernel) ⟨Nat.le_of_ble_eq_true rfl, Nat.le_of_ble_eq_true rfl⟩) ⟨fun a U g mk q => ⟨q.1, s_pc rfl rfl q.2⟩, fun U hU hW => ⟨rfl, s_pw hU hW hP hK hD hN⟩⟩ rfl rfl hl.1 rfl (lv_room (Nat.le_of_ble_eq_true rfl)) dX7_statementTold_96 ⟨Nat.zero_le _, Nat.zero_le _⟩) hS (fun q _ h => h) (fun q h => h) (fun r155 F156 t H1 locs ht hvm hw hB hz1 hk1 hS => ?_)
        obtain ⟨hP, hK1⟩ := hB
        rw [ht] at hP
        generalize H1 = H at hP hS ⊢
        obtain ⟨h157, h159, hG9, h158⟩ := hw
        rw [hG9] at hP
        refine th_iast hx hb hK hP hD hS (hLK _ (y_k12 hA) (by decide)) 0 o149 rfl (ax_in (by decide)) dX7_statementTold_99 (fun H locs hP hS => ?_)
        obtain ⟨f160, u161⟩ : ∃ g : Nat → Int32, g = upd f31 (385 : Int32).toNatClampNeg r155 := ⟨_, rfl⟩
        rw [← u161] at hP
        have b162 : y_bd 12 f160 := by rw [u161]; exact th_updJ (P := fun y => 0 ≤ y.toInt ∧ y.toInt ≤ 40) b33 (fun q => absurd q (by decide))
        have hP : va_P (dC, dI) vwCl (va_pl L (va_up F145 (A 12) (.inl (cs 0, 400, .inl f160)))) H := hP
        obtain ⟨F163, hF164⟩ : ∃ G : Nat → va_E, G = va_up F145 (A 12) (.inl (cs 0, 400, .inl f160)) := ⟨_, rfl⟩
        rw [← hF164] at hP
        have hI : y_I K cs A F163 := by rw [hF164]; exact y_clA (i := 12) hA hI (by decide) b162
        have hfr : ∀ b, K b ∉ [9, 62, 64] → F163 b = F b := by rw [hF164]; exact s_fr hfr (y_k12 hA) (by decide)
        have oY165 : F163 a0 = .inr (7, y_fl A z150 q151) := by rw [hF164]; exact th_ne (th_kd ha0 (y_k12 hA) (by decide)) oY152
        have o166 : F163 (A 12) = .inl (cs 0, 400, .inl f160) := by rw [hF164]; exact th_up
        have u167 : ∀ j : Int, 0 ≤ j → y_c f160 j = if j = 385 then r155 else y_c f31 j := by rw [u161]; exact y_cu (by decide) (by decide)
        refine lv_aload_n hx hb dX7_statementTold_100 rfl (lv_at hl 1 rfl) ?_
        refine th_get (D := (dC, dI)) (ci := 7) (v := .ref (A 12)) (C := RX7) (T := TX7) (N := 34) hx hb hts inX7 hown hK hP (hLK _ ha0 (by decide)) oY165 rfl 12 (by decide) (hts _ T_245) (fun _ h9 => h9) rfl dX7_statementTold_101 ?_
        refine lv_sipush (v := 385) hx hb dX7_statementTold_104 (by decide) ?_
        refine th_iald hx hb hK hP (hLK _ (y_k12 hA) (by decide)) 0 o166 rfl (ax_in (by decide)) dX7_statementTold_107 ?_
        refine lv_topi (fun v168 ev168 => ?_)
        refine lv_if_ne (tgt := 214) hx hb dX7_statementTold_108 (by decide) (fun c169 => ?_) (fun c169 => ?_)
        · have c169 := mt (ax_eq (n := 0) (by decide)).mpr c169
          exact K214 _ _ _ ⟨F163, _, rfl, lv_sub hl [1] rfl, hP, hS, hI, hfr, (fun k hk => (y_fiZ oY165 (s_sub (by decide) hk)).trans (hz0 k hk)), (by rw [y_fiZ oY165 (k := 5) (by decide), ← ev34, y_atE o166]; exact (fun hd hg => y_DSp u167 (by omega) ⟨by omega, by omega⟩ (by rw [h24]; omega) (by rw [h24]; exact hd (by omega)))), (by rw [y_fiZ oY165 (k := 5) (by decide), ← ev34]; omega)⟩
        · have c169 := (ax_eq (n := 0) (by decide)).mp c169
          refine lv_aload_n hx hb dX7_statementTold_111 rfl (lv_at hl 1 rfl) ?_
          refine lv_bipush (v := 23) hx hb dX7_statementTold_112 (by decide) ?_
          have ep170_5 := ev34
          refine va_callv (va_runV (As := [.int 23]) (rest := []) ⟨hx, hb, hml, hown, hts⟩ (y_X7_asks l dC dI H.size hLK A hA F163 a0 23 ha0 hI) (cwV 1 hts (ax_gV T_297 T_298 T_299 T_265 T_29) rfl rfl rfl (by decide +kernel) ⟨Nat.le_of_ble_eq_true rfl, Nat.le_of_ble_eq_true rfl⟩) ⟨fun a U g mk q => ⟨q.1, s_pc rfl rfl q.2⟩, s_recv hK hP (hLK _ ha0 (by decide)) (ci := 7) rfl oY165, fun U hU hW => ⟨rfl, s_pw hU hW hP hK hD hN⟩⟩ rfl rfl hl.1 rfl (lv_room (Nat.le_of_ble_eq_true rfl)) dX7_statementTold_114 ⟨Nat.zero_le _, Nat.zero_le _⟩) hS (fun q _ h => h) (fun q h => h) (fun F171 t H1 locs ht hvm hw hB hz1 hk1 hS => ?_)
          obtain ⟨hP, hK1⟩ := hB
          rw [ht] at hP
          generalize H1 = H at hP hS ⊢
          obtain ⟨h172, h174, hI, hfr1, hzf, h173⟩ := hw
          have o175 : F171 (A 12) = .inl (cs 0, 400, .inl f160) := (hfr1 _ (by rw [(y_k12 hA)]; decide)).trans o166
          obtain ⟨z176, q177, oY178, bz179⟩ := y_opY hI ha0
          have hzf : ∀ k, k ∈ ([1, 3, 7, 8, 11, 15, 16, 19, 25, 26, 27, 31, 32] : List Nat) → z176 k = z150 k := fun k hk => by have q9 := hzf k hk; rw [y_fiZ oY178 (s_sub (by decide) hk), y_fiZ oY165 (s_sub (by decide) hk)] at q9; exact q9
          have hz0 : ∀ k, k ∈ ([1, 3, 7, 8, 15, 19, 25, 26, 27, 31, 32] : List Nat) → z176 k = z0 k := fun k hk => (hzf k (s_sub (by decide) hk)).trans (hz0 k hk)
          have hfr : ∀ b, K b ∉ [9, 62, 64] → F171 b = F b := fun b hb9 => (hfr1 b (fun q => hb9 (s_sub (by decide) q))).trans (hfr b hb9)
          obtain ⟨v180, ev180⟩ : ∃ y : Int32, y = z176 5 := ⟨_, rfl⟩
          have h173 : (v34.toInt = 0 ∨ ¬ v180.toInt = 0) := by have q9 := h173; rw [y_fiZ oY165 (k := 5) (by decide), ← ep170_5, y_fiZ oY178 (k := 5) (by decide), ← ev180] at q9; exact q9
          refine lv_goto (tgt := 214) hx hb dX7_statementTold_117 (by decide) ?_
          exact K214 _ _ _ ⟨F171, _, rfl, lv_sub hl [1] rfl, hP, hS, hI, hfr, (fun k hk => (y_fiZ oY178 (s_sub (by decide) hk)).trans (hz0 k hk)), (by rw [y_fiZ oY178 (k := 5) (by decide), ← ev180, y_atE o175]; exact (fun hd hg => y_DSp u167 (by omega) ⟨by omega, by omega⟩ (by rw [h24]; omega) (by rw [h24]; exact hd (by omega)))), (by rw [y_fiZ oY178 (k := 5) (by decide), ← ev180]; omega)⟩
    · have c57 := mt (ax_eq (n := 0) (by decide)).mpr c57
      refine lv_aload_n hx hb dX7_statementTold_34 rfl (lv_at hl 1 rfl) ?_
      refine lv_iconst (v := 0) hx hb dX7_statementTold_35 (by decide) ?_
      refine lv_bipush (v := 63) hx hb dX7_statementTold_36 (by decide) ?_
      have ep181_5 := ev34
      refine va_calli (va_runV (As := [.int 0, .int 63]) (rest := []) ⟨hx, hb, hml, hown, hts⟩ (y_X7_number l dC dI H.size hLK A hA F48 a0 0 63 ha0 hI) (cwV 2 hts (ax_gV T_300 T_301 T_302 T_265 T_30) rfl rfl rfl (by decide +kernel) ⟨Nat.le_of_ble_eq_true rfl, Nat.le_of_ble_eq_true rfl⟩) ⟨fun a U g mk q => ⟨q.1, s_pc rfl rfl q.2⟩, s_recv hK hP (hLK _ ha0 (by decide)) (ci := 7) rfl oY55, fun U hU hW => ⟨rfl, s_pw hU hW hP hK hD hN⟩⟩ rfl rfl hl.1 rfl (lv_room (Nat.le_of_ble_eq_true rfl)) dX7_statementTold_38 ⟨Nat.zero_le _, Nat.zero_le _⟩) hS (fun q _ h => h) (fun q h => h) (fun r182 F183 t H1 locs ht hvm hw hB hz1 hk1 hS => ?_)
      obtain ⟨hP, hK1⟩ := hB
      rw [ht] at hP
      generalize H1 = H at hP hS ⊢
      obtain ⟨h184, h186, hI, hfr1, hzf, h185⟩ := hw
      have o187 : F183 (A 12) = .inl (cs 0, 400, .inl f31) := (hfr1 _ (by rw [(y_k12 hA)]; decide)).trans o52
      obtain ⟨z188, q189, oY190, bz191⟩ := y_opY hI ha0
      have hzf : ∀ k, k ∈ ([1, 3, 7, 8, 11, 15, 16, 19, 25, 26, 27, 31, 32] : List Nat) → z188 k = z53 k := fun k hk => by have q9 := hzf k hk; rw [y_fiZ oY190 (s_sub (by decide) hk), y_fiZ oY55 (s_sub (by decide) hk)] at q9; exact q9
      have hz0 : ∀ k, k ∈ ([1, 3, 7, 8, 15, 19, 25, 26, 27, 31, 32] : List Nat) → z188 k = z0 k := fun k hk => (hzf k (s_sub (by decide) hk)).trans (hz0 k hk)
      have hfr : ∀ b, K b ∉ [9, 62, 64] → F183 b = F b := fun b hb9 => (hfr1 b (fun q => hb9 (s_sub (by decide) q))).trans (hfr b hb9)
      obtain ⟨v192, ev192⟩ : ∃ y : Int32, y = z188 5 := ⟨_, rfl⟩
      have h185 : ((v34.toInt = 0 ∨ ¬ v192.toInt = 0) ∧ (v192.toInt = 0 → 0 ≤ r182.toInt ∧ r182.toInt ≤ 63)) := by have q9 := h185; rw [y_fiZ oY55 (k := 5) (by decide), ← ep181_5, y_fiZ oY190 (k := 5) (by decide), ← ev192] at q9; exact q9
      refine lv_istore_n (lv' := [(3, .int r182), (2, .int r36), (0, .ref a0), (1, .int w9)]) hx hb dX7_statementTold_41 rfl hl (by decide) rfl (fun ls hl => ?_)
      refine lv_aload_n hx hb dX7_statementTold_42 rfl (lv_at hl 2 rfl) ?_
      refine lv_iconst (v := 0) hx hb dX7_statementTold_43 (by decide) ?_
      refine lv_sipush (v := 999) hx hb dX7_statementTold_44 (by decide) ?_
      have ep193_5 := ev192
      refine va_calli (va_runV (As := [.int 0, .int 999]) (rest := []) ⟨hx, hb, hml, hown, hts⟩ (y_X7_number l dC dI H.size hLK A hA F183 a0 0 999 ha0 hI) (cwV 2 hts (ax_gV T_300 T_301 T_302 T_265 T_30) rfl rfl rfl (by decide +kernel) ⟨Nat.le_of_ble_eq_true rfl, Nat.le_of_ble_eq_true rfl⟩) ⟨fun a U g mk q => ⟨q.1, s_pc rfl rfl q.2⟩, s_recv hK hP (hLK _ ha0 (by decide)) (ci := 7) rfl oY190, fun U hU hW => ⟨rfl, s_pw hU hW hP hK hD hN⟩⟩ rfl rfl hl.1 rfl (lv_room (Nat.le_of_ble_eq_true rfl)) dX7_statementTold_47 ⟨Nat.zero_le _, Nat.zero_le _⟩) hS (fun q _ h => h) (fun q h => h) (fun r194 F195 t H1 locs ht hvm hw hB hz1 hk1 hS => ?_)
      obtain ⟨hP, hK1⟩ := hB
      rw [ht] at hP
      generalize H1 = H at hP hS ⊢
      obtain ⟨h196, h198, hI, hfr1, hzf, h197⟩ := hw
      have o199 : F195 (A 12) = .inl (cs 0, 400, .inl f31) := (hfr1 _ (by rw [(y_k12 hA)]; decide)).trans o187
      obtain ⟨z200, q201, oY202, bz203⟩ := y_opY hI ha0
      have hzf : ∀ k, k ∈ ([1, 3, 7, 8, 11, 15, 16, 19, 25, 26, 27, 31, 32] : List Nat) → z200 k = z188 k := fun k hk => by have q9 := hzf k hk; rw [y_fiZ oY202 (s_sub (by decide) hk), y_fiZ oY190 (s_sub (by decide) hk)] at q9; exact q9
      have hz0 : ∀ k, k ∈ ([1, 3, 7, 8, 15, 19, 25, 26, 27, 31, 32] : List Nat) → z200 k = z0 k := fun k hk => (hzf k (s_sub (by decide) hk)).trans (hz0 k hk)
      have hfr : ∀ b, K b ∉ [9, 62, 64] → F195 b = F b := fun b hb9 => (hfr1 b (fun q => hb9 (s_sub (by decide) q))).trans (hfr b hb9)
      obtain ⟨v204, ev204⟩ : ∃ y : Int32, y = z200 5 := ⟨_, rfl⟩
      have h197 : ((v192.toInt = 0 ∨ ¬ v204.toInt = 0) ∧ (v204.toInt = 0 → 0 ≤ r194.toInt ∧ r194.toInt ≤ 999)) := by have q9 := h197; rw [y_fiZ oY190 (k := 5) (by decide), ← ep193_5, y_fiZ oY202 (k := 5) (by decide), ← ev204] at q9; exact q9
      refine lv_istore (lv' := [(4, .int r194), (3, .int r182), (2, .int r36), (0, .ref a0), (1, .int w9)]) hx hb dX7_statementTold_50 hl (by decide) rfl (fun ls hl => ?_)
      refine lv_aload_n hx hb dX7_statementTold_52 rfl (lv_at hl 3 rfl) ?_
      refine th_get (D := (dC, dI)) (ci := 7) (v := .int (z200 5)) (C := RX7) (T := TX7) (N := 34) hx hb hts inX7 hown hK hP (hLK _ ha0 (by decide)) oY202 rfl 5 (by decide) (hts _ T_274) (fun _ h9 => h9) rfl dX7_statementTold_53 ?_
      refine ax_eqi (y := v204) ev204.symm ?_
      refine lv_if_ne (tgt := 71) hx hb dX7_statementTold_56 (by decide) (fun c205 => ?_) (fun c205 => ?_)
      · have c205 := mt (ax_eq (n := 0) (by decide)).mpr c205
        refine lv_goto (tgt := 214) hx hb dX7_statementTold_71 (by decide) ?_
        exact K214 _ _ _ ⟨F195, _, rfl, lv_sub hl [3] rfl, hP, hS, hI, hfr, (fun k hk => (y_fiZ oY202 (s_sub (by decide) hk)).trans (hz0 k hk)), (by rw [y_fiZ oY202 (k := 5) (by decide), ← ev204, y_atE o199]; exact (fun hd hg => (by rw [h24]; exact hd (by omega)))), (by rw [y_fiZ oY202 (k := 5) (by decide), ← ev204]; omega)⟩
      · have c205 := (ax_eq (n := 0) (by decide)).mp c205
        refine lv_aload_n hx hb dX7_statementTold_59 rfl (lv_at hl 3 rfl) ?_
        refine th_get (D := (dC, dI)) (ci := 7) (v := .ref (A 12)) (C := RX7) (T := TX7) (N := 34) hx hb hts inX7 hown hK hP (hLK _ ha0 (by decide)) oY202 rfl 12 (by decide) (hts _ T_245) (fun _ h9 => h9) rfl dX7_statementTold_60 ?_
        refine lv_sipush (v := 320) hx hb dX7_statementTold_63 (by decide) ?_
        refine lv_iload_n hx hb dX7_statementTold_66 rfl (lv_at hl 1 rfl) ?_
        have h206 : 0 ≤ r182.toInt ∧ r182.toInt ≤ 63 := ⟨by omega, by omega⟩
        refine lv_iadd hx hb dX7_statementTold_67 ?_
        refine lv_topi (fun v207 ev207 => ?_)
        have qv207 : v207.toInt = 320 + r182.toInt := by rw [ev207]; exact th_add (by decide) rfl ⟨by omega, by omega⟩
        refine lv_iload hx hb dX7_statementTold_68 (lv_at hl 0 rfl) ?_
        refine th_iast hx hb hK hP hD hS (hLK _ (y_k12 hA) (by decide)) 0 o199 rfl (th_in ⟨by omega, by omega⟩) dX7_statementTold_70 (fun H locs hP hS => ?_)
        obtain ⟨f208, u209⟩ : ∃ g : Nat → Int32, g = upd f31 (v207 : Int32).toNatClampNeg r194 := ⟨_, rfl⟩
        rw [← u209] at hP
        have b210 : y_bd 12 f208 := by rw [u209]; exact th_updJ (P := fun y => 0 ≤ y.toInt ∧ y.toInt ≤ 40) b33 (fun q => by have q2 := th_tn (by omega) q; omega)
        have hP : va_P (dC, dI) vwCl (va_pl L (va_up F195 (A 12) (.inl (cs 0, 400, .inl f208)))) H := hP
        obtain ⟨F211, hF212⟩ : ∃ G : Nat → va_E, G = va_up F195 (A 12) (.inl (cs 0, 400, .inl f208)) := ⟨_, rfl⟩
        rw [← hF212] at hP
        have hI : y_I K cs A F211 := by rw [hF212]; exact y_clA (i := 12) hA hI (by decide) b210
        have hfr : ∀ b, K b ∉ [9, 62, 64] → F211 b = F b := by rw [hF212]; exact s_fr hfr (y_k12 hA) (by decide)
        have oY213 : F211 a0 = .inr (7, y_fl A z200 q201) := by rw [hF212]; exact th_ne (th_kd ha0 (y_k12 hA) (by decide)) oY202
        have o214 : F211 (A 12) = .inl (cs 0, 400, .inl f208) := by rw [hF212]; exact th_up
        have u215 : ∀ j : Int, 0 ≤ j → y_c f208 j = if j = v207.toInt then r194 else y_c f31 j := by rw [u209]; exact y_cu rfl (by omega)
        refine lv_goto (tgt := 214) hx hb dX7_statementTold_71 (by decide) ?_
        exact K214 _ _ _ ⟨F211, _, rfl, lv_sub hl [3] rfl, hP, hS, hI, hfr, (fun k hk => (y_fiZ oY213 (s_sub (by decide) hk)).trans (hz0 k hk)), (by rw [y_fiZ oY213 (k := 5) (by decide), ← ev204, y_atE o214]; exact (fun hd hg => y_DSC (fun j h0 h1 => by rw [u215 j h0, if_neg (by omega)]) (by rw [h24]; omega) (by rw [h24]; exact hd (by omega)))), (by rw [y_fiZ oY213 (k := 5) (by decide), ← ev204]; omega)⟩
  · intro g H locs hq
    obtain ⟨F220, ls, w7, w8, rfl, hl, hP, hS, hI, hfr, hz0, h216, h217, h218, h219⟩ := hq
    obtain ⟨z221, q222, oY223, bz224⟩ := y_opY hI ha0
    have hz0 : ∀ k, k ∈ ([1, 3, 7, 8, 15, 19, 25, 26, 27, 31, 32] : List Nat) → z221 k = z0 k := fun k hk => (y_fiZ oY223 (s_sub (by decide) hk)).symm.trans (hz0 k hk)
    obtain ⟨f225, o226, b227⟩ := y_op12 hI
    have h218 : f225 = f1 := by have q9 := h218; rw [y_atE o226] at q9; exact q9
    obtain ⟨v228, ev228⟩ : ∃ y : Int32, y = z221 5 := ⟨_, rfl⟩
    have h219 : ((v4.toInt = 0 ∨ ¬ v228.toInt = 0) ∧ (v5.toInt = 80 → ¬ v228.toInt = 0)) := by have q9 := h219; rw [y_fiZ oY223 (k := 5) (by decide), ← ev228] at q9; exact q9
    refine lv_aload_n hx hb dX7_statementTold_190 rfl (lv_at hl 0 rfl) ?_
    refine lv_iload_n hx hb dX7_statementTold_191 rfl (lv_at hl 1 rfl) ?_
    refine lv_iload_n hx hb dX7_statementTold_192 rfl (lv_at hl 2 rfl) ?_
    refine lv_iconst (v := (-1)) hx hb dX7_statementTold_193 (by decide) ?_
    refine lv_icmp_ne (tgt := 201) hx hb dX7_statementTold_194 (by decide) (fun c229 => ?_) (fun c229 => ?_)
    · have c229 := mt (ax_eq (n := (-1)) (by decide)).mpr c229
      refine lv_iconst (v := 0) hx hb dX7_statementTold_201 (by decide) ?_
      have ep230_5 := ev228
      refine va_callv (va_runV (As := [.int w7, .int 0]) (rest := []) ⟨hx, hb, hml, hown, hts⟩ (y_X7_lineBegins l dC dI H.size hLK A hA F220 a0 w7 0 ha0 (by decide) hI) (cwV 2 hts (ax_gV T_1311 T_1313 T_1314 T_265 T_1312) rfl rfl rfl (by decide +kernel) ⟨Nat.le_of_ble_eq_true rfl, Nat.le_of_ble_eq_true rfl⟩) ⟨fun a U g mk q => ⟨q.1, s_pc rfl rfl q.2⟩, s_recv hK hP (hLK _ ha0 (by decide)) (ci := 7) rfl oY223, fun U hU hW => ⟨rfl, s_pw hU hW hP hK hD hN⟩⟩ rfl rfl hl.1 rfl (lv_room (Nat.le_of_ble_eq_true rfl)) dX7_statementTold_202 ⟨Nat.zero_le _, Nat.zero_le _⟩) hS (fun q _ h => h) (fun q h => h) (fun F231 t H1 locs ht hvm hw hB hz1 hk1 hS => ?_)
      obtain ⟨hP, hK1⟩ := hB
      rw [ht] at hP
      generalize H1 = H at hP hS ⊢
      obtain ⟨h232, h234, hI, hfr1, hzf, h233⟩ := hw
      obtain ⟨z235, q236, oY237, bz238⟩ := y_opY hI ha0
      have hzf : ∀ k, k ∈ ([1, 3, 7, 8, 15, 16, 19, 25, 26, 27, 31, 32] : List Nat) → z235 k = z221 k := fun k hk => by have q9 := hzf k hk; rw [y_fiZ oY237 (s_sub (by decide) hk), y_fiZ oY223 (s_sub (by decide) hk)] at q9; exact q9
      have hz0 : ∀ k, k ∈ ([1, 3, 7, 8, 15, 19, 25, 26, 27, 31, 32] : List Nat) → z235 k = z0 k := fun k hk => (hzf k (s_sub (by decide) hk)).trans (hz0 k hk)
      have hfr : ∀ b, K b ∉ [9, 62, 64] → F231 b = F b := fun b hb9 => (hfr1 b (fun q => hb9 (s_sub (by decide) q))).trans (hfr b hb9)
      obtain ⟨v239, ev239⟩ : ∃ y : Int32, y = z235 5 := ⟨_, rfl⟩
      obtain ⟨f240, o241, b242⟩ := y_op12 hI
      have h233 : ((v228.toInt = 0 ∨ ¬ v239.toInt = 0) ∧ ((v228.toInt = 0 → y_DS f225) → v239.toInt = 0 → y_DS f240)) := by have q9 := h233; rw [y_fiZ oY223 (k := 5) (by decide), ← ep230_5, y_fiZ oY237 (k := 5) (by decide), ← ev239, y_atE o226, y_atE o241] at q9; exact q9
      refine lv_goto (tgt := 214) hx hb dX7_statementTold_205 (by decide) ?_
      exact K214 _ _ _ ⟨F231, _, rfl, lv_sub hl [0] rfl, hP, hS, hI, hfr, (fun k hk => (y_fiZ oY237 (s_sub (by decide) hk)).trans (hz0 k hk)), (by rw [y_fiZ oY237 (k := 5) (by decide), ← ev239, y_atE o241]; exact (fun hd hg => h233.2 (fun hb => (by rw [h218]; exact hd (by omega))) hg)), (by rw [y_fiZ oY237 (k := 5) (by decide), ← ev239]; omega)⟩
    · have c229 := (ax_eq (n := (-1)) (by decide)).mp c229
      refine lv_iconst (v := 1) hx hb dX7_statementTold_197 (by decide) ?_
      refine lv_goto (tgt := 202) hx hb dX7_statementTold_198 (by decide) ?_
      have ep243_5 := ev228
      refine va_callv (va_runV (As := [.int w7, .int 1]) (rest := []) ⟨hx, hb, hml, hown, hts⟩ (y_X7_lineBegins l dC dI H.size hLK A hA F220 a0 w7 1 ha0 (by decide) hI) (cwV 2 hts (ax_gV T_1311 T_1313 T_1314 T_265 T_1312) rfl rfl rfl (by decide +kernel) ⟨Nat.le_of_ble_eq_true rfl, Nat.le_of_ble_eq_true rfl⟩) ⟨fun a U g mk q => ⟨q.1, s_pc rfl rfl q.2⟩, s_recv hK hP (hLK _ ha0 (by decide)) (ci := 7) rfl oY223, fun U hU hW => ⟨rfl, s_pw hU hW hP hK hD hN⟩⟩ rfl rfl hl.1 rfl (lv_room (Nat.le_of_ble_eq_true rfl)) dX7_statementTold_202 ⟨Nat.zero_le _, Nat.zero_le _⟩) hS (fun q _ h => h) (fun q h => h) (fun F244 t H1 locs ht hvm hw hB hz1 hk1 hS => ?_)
      obtain ⟨hP, hK1⟩ := hB
      rw [ht] at hP
      generalize H1 = H at hP hS ⊢
      obtain ⟨h245, h247, hI, hfr1, hzf, h246⟩ := hw
      obtain ⟨z248, q249, oY250, bz251⟩ := y_opY hI ha0
      have hzf : ∀ k, k ∈ ([1, 3, 7, 8, 15, 16, 19, 25, 26, 27, 31, 32] : List Nat) → z248 k = z221 k := fun k hk => by have q9 := hzf k hk; rw [y_fiZ oY250 (s_sub (by decide) hk), y_fiZ oY223 (s_sub (by decide) hk)] at q9; exact q9
      have hz0 : ∀ k, k ∈ ([1, 3, 7, 8, 15, 19, 25, 26, 27, 31, 32] : List Nat) → z248 k = z0 k := fun k hk => (hzf k (s_sub (by decide) hk)).trans (hz0 k hk)
      have hfr : ∀ b, K b ∉ [9, 62, 64] → F244 b = F b := fun b hb9 => (hfr1 b (fun q => hb9 (s_sub (by decide) q))).trans (hfr b hb9)
      obtain ⟨v252, ev252⟩ : ∃ y : Int32, y = z248 5 := ⟨_, rfl⟩
      obtain ⟨f253, o254, b255⟩ := y_op12 hI
      have h246 : ((v228.toInt = 0 ∨ ¬ v252.toInt = 0) ∧ ((v228.toInt = 0 → y_DS f225) → v252.toInt = 0 → y_DS f253)) := by have q9 := h246; rw [y_fiZ oY223 (k := 5) (by decide), ← ep243_5, y_fiZ oY250 (k := 5) (by decide), ← ev252, y_atE o226, y_atE o254] at q9; exact q9
      refine lv_goto (tgt := 214) hx hb dX7_statementTold_205 (by decide) ?_
      exact K214 _ _ _ ⟨F244, _, rfl, lv_sub hl [0] rfl, hP, hS, hI, hfr, (fun k hk => (y_fiZ oY250 (s_sub (by decide) hk)).trans (hz0 k hk)), (by rw [y_fiZ oY250 (k := 5) (by decide), ← ev252, y_atE o254]; exact (fun hd hg => h246.2 (fun hb => (by rw [h218]; exact hd (by omega))) hg)), (by rw [y_fiZ oY250 (k := 5) (by decide), ← ev252]; omega)⟩
  · intro g H locs hq
    obtain ⟨F259, ls, w6, rfl, hl, hP, hS, hI, hfr, hz0, h256, h257, h258⟩ := hq
    obtain ⟨z260, q261, oY262, bz263⟩ := y_opY hI ha0
    have hz0 : ∀ k, k ∈ ([1, 3, 7, 8, 15, 19, 25, 26, 27, 31, 32] : List Nat) → z260 k = z0 k := fun k hk => (y_fiZ oY262 (s_sub (by decide) hk)).symm.trans (hz0 k hk)
    obtain ⟨f264, o265, b266⟩ := y_op12 hI
    have h257 : f264 = f1 := by have q9 := h257; rw [y_atE o265] at q9; exact q9
    obtain ⟨v267, ev267⟩ : ∃ y : Int32, y = z260 5 := ⟨_, rfl⟩
    have h258 : ((v4.toInt = 0 ∨ ¬ v267.toInt = 0) ∧ (v5.toInt = 80 → ¬ v267.toInt = 0)) := by have q9 := h258; rw [y_fiZ oY262 (k := 5) (by decide), ← ev267] at q9; exact q9
    refine lv_aload_n hx hb dX7_statementTold_208 rfl (lv_at hl 0 rfl) ?_
    refine lv_iconst (v := 1) hx hb dX7_statementTold_209 (by decide) ?_
    refine lv_iload_n hx hb dX7_statementTold_210 rfl (lv_at hl 1 rfl) ?_
    refine va_callv (va_runV (As := [.int 1, .int w6]) (rest := []) ⟨hx, hb, hml, hown, hts⟩ (y_X7_fail l dC dI H.size hLK A hA F259 a0 1 w6 ha0 (by decide) hI) (cwV 2 hts (ax_gV T_290 T_291 T_292 T_265 T_27) rfl rfl rfl (by decide +kernel) ⟨Nat.le_of_ble_eq_true rfl, Nat.le_of_ble_eq_true rfl⟩) ⟨fun a U g mk q => ⟨q.1, s_pc rfl rfl q.2⟩, s_recv hK hP (hLK _ ha0 (by decide)) (ci := 7) rfl oY262, fun U hU hW => ⟨rfl, s_pw hU hW hP hK hD hN⟩⟩ rfl rfl hl.1 rfl (lv_room (Nat.le_of_ble_eq_true rfl)) dX7_statementTold_211 ⟨Nat.zero_le _, Nat.zero_le _⟩) hS (fun q _ h => h) (fun q h => h) (fun F269 t H1 locs ht hvm hw hB hz1 hk1 hS => ?_)
    obtain ⟨hP, hK1⟩ := hB
    rw [ht] at hP
    generalize H1 = H at hP hS ⊢
    obtain ⟨h270, h272, hI, hfr1, hzf, h271⟩ := hw
    have o273 : F269 (A 12) = .inl (cs 0, 400, .inl f264) := (hfr1 _ (by rw [(y_k12 hA)]; decide)).trans o265
    obtain ⟨z274, q275, oY276, bz277⟩ := y_opY hI ha0
    have hzf : ∀ k, k ∈ ([1, 2, 3, 4, 7, 8, 11, 15, 16, 19, 25, 26, 27, 31, 32] : List Nat) → z274 k = z260 k := fun k hk => by have q9 := hzf k hk; rw [y_fiZ oY276 (s_sub (by decide) hk), y_fiZ oY262 (s_sub (by decide) hk)] at q9; exact q9
    have hz0 : ∀ k, k ∈ ([1, 3, 7, 8, 15, 19, 25, 26, 27, 31, 32] : List Nat) → z274 k = z0 k := fun k hk => (hzf k (s_sub (by decide) hk)).trans (hz0 k hk)
    have hfr : ∀ b, K b ∉ [9, 62, 64] → F269 b = F b := fun b hb9 => (hfr1 b (fun q => hb9 (s_sub (by decide) q))).trans (hfr b hb9)
    obtain ⟨v278, ev278⟩ : ∃ y : Int32, y = z274 5 := ⟨_, rfl⟩
    have h271 : (¬ v278.toInt = 0) := by have q9 := h271; rw [y_fiZ oY276 (k := 5) (by decide), ← ev278] at q9; exact q9
    exact K214 _ _ _ ⟨F269, _, rfl, lv_sub hl [0] rfl, hP, hS, hI, hfr, (fun k hk => (y_fiZ oY276 (s_sub (by decide) hk)).trans (hz0 k hk)), (by rw [y_fiZ oY276 (k := 5) (by decide), ← ev278, y_atE o273]; exact (fun hd hg => (by rw [h257]; exact hd (by omega)))), (by rw [y_fiZ oY276 (k := 5) (by decide), ← ev278]; omega)⟩
  · intro g H locs hq
    obtain ⟨F281, ls, rfl, hl, hP, hS, hI, hfr, hz0, h279, h280⟩ := hq
    obtain ⟨z282, q283, oY284, bz285⟩ := y_opY hI ha0
    have hz0 : ∀ k, k ∈ ([1, 3, 7, 8, 15, 19, 25, 26, 27, 31, 32] : List Nat) → z282 k = z0 k := fun k hk => (y_fiZ oY284 (s_sub (by decide) hk)).symm.trans (hz0 k hk)
    obtain ⟨v286, ev286⟩ : ∃ y : Int32, y = z282 5 := ⟨_, rfl⟩
    obtain ⟨f287, o288, b289⟩ := y_op12 hI
    have h279 : ((v4.toInt = 0 → y_DS f1) → v286.toInt = 0 → y_DS f287) := by have q9 := h279; rw [y_fiZ oY284 (k := 5) (by decide), ← ev286, y_atE o288] at q9; exact q9
    have h280 : ((v4.toInt = 0 ∨ ¬ v286.toInt = 0) ∧ (v5.toInt = 80 → ¬ v286.toInt = 0)) := by have q9 := h280; rw [y_fiZ oY284 (k := 5) (by decide), ← ev286] at q9; exact q9
    refine lv_aload_n hx hb dX7_statementTold_214 rfl (lv_at hl 0 rfl) ?_
    refine lv_bipush (v := 59) hx hb dX7_statementTold_215 (by decide) ?_
    have ep290_5 := ev286
    refine va_callv (va_runV (As := [.int 59]) (rest := []) ⟨hx, hb, hml, hown, hts⟩ (y_X7_asksSign l dC dI H.size hLK A hA F281 a0 59 ha0 (by decide) hI) (cwV 1 hts (ax_gV T_303 T_304 T_305 T_265 T_31) rfl rfl rfl (by decide +kernel) ⟨Nat.le_of_ble_eq_true rfl, Nat.le_of_ble_eq_true rfl⟩) ⟨fun a U g mk q => ⟨q.1, s_pc rfl rfl q.2⟩, s_recv hK hP (hLK _ ha0 (by decide)) (ci := 7) rfl oY284, fun U hU hW => ⟨rfl, s_pw hU hW hP hK hD hN⟩⟩ rfl rfl hl.1 rfl (lv_room (Nat.le_of_ble_eq_true rfl)) dX7_statementTold_217 ⟨Nat.zero_le _, Nat.zero_le _⟩) hS (fun q _ h => h) (fun q h => h) (fun F291 t H1 locs ht hvm hw hB hz1 hk1 hS => ?_)
    obtain ⟨hP, hK1⟩ := hB
    rw [ht] at hP
    generalize H1 = H at hP hS ⊢
    obtain ⟨h292, h294, hI, hfr1, hzf, h293⟩ := hw
    have o295 : F291 (A 12) = .inl (cs 0, 400, .inl f287) := (hfr1 _ (by rw [(y_k12 hA)]; decide)).trans o288
    obtain ⟨z296, q297, oY298, bz299⟩ := y_opY hI ha0
    have hzf : ∀ k, k ∈ ([1, 3, 4, 7, 8, 11, 15, 16, 19, 25, 26, 27, 31, 32] : List Nat) → z296 k = z282 k := fun k hk => by have q9 := hzf k hk; rw [y_fiZ oY298 (s_sub (by decide) hk), y_fiZ oY284 (s_sub (by decide) hk)] at q9; exact q9
    have hz0 : ∀ k, k ∈ ([1, 3, 7, 8, 15, 19, 25, 26, 27, 31, 32] : List Nat) → z296 k = z0 k := fun k hk => (hzf k (s_sub (by decide) hk)).trans (hz0 k hk)
    have hfr : ∀ b, K b ∉ [9, 62, 64] → F291 b = F b := fun b hb9 => (hfr1 b (fun q => hb9 (s_sub (by decide) q))).trans (hfr b hb9)
    obtain ⟨v300, ev300⟩ : ∃ y : Int32, y = z296 5 := ⟨_, rfl⟩
    have h293 : (v286.toInt = 0 ∨ ¬ v300.toInt = 0) := by have q9 := h293; rw [y_fiZ oY284 (k := 5) (by decide), ← ep290_5, y_fiZ oY298 (k := 5) (by decide), ← ev300] at q9; exact q9
    refine lv_aload_n hx hb dX7_statementTold_220 rfl (lv_at hl 0 rfl) ?_
    refine lv_dup hx hb dX7_statementTold_221 rfl ?_
    refine th_get (D := (dC, dI)) (ci := 7) (v := .int (z296 16)) (C := RX7) (T := TX7) (N := 34) hx hb hts inX7 hown hK hP (hLK _ ha0 (by decide)) oY298 rfl 16 (by decide) (hts _ T_306) (fun _ h9 => h9) rfl dX7_statementTold_222 ?_
    refine lv_topi (fun v301 ev301 => ?_)
    refine lv_iconst (v := 1) hx hb dX7_statementTold_225 (by decide) ?_
    refine lv_iadd hx hb dX7_statementTold_226 ?_
    refine lv_topi (fun v302 ev302 => ?_)
    refine th_put (D := (dC, dI)) (ci := 7) (v := .int v302) (ty := .int) (C := RX7) (T := TX7) (N := 34) hx hb hts inX7 tyX7 tyX7_ok nmX7 hown hK hP hD hS (hLK _ ha0 (by decide)) oY298 rfl 16 (by decide) (hts _ T_306) (fun _ h9 => h9) rfl (by decide +kernel) rfl rfl (Nat.le_of_ble_eq_true rfl) dX7_statementTold_227 (fun H locs hP hS => ?_)
    rw [y_fs16] at hP
    obtain ⟨z303, hz304⟩ : ∃ g : Nat → Int32, g = upd z296 16 v302 := ⟨_, rfl⟩
    rw [← hz304] at hP
    have bz305 : y_bY z303 := by rw [hz304]; exact y_bp16 bz299
    have hP : va_P (dC, dI) vwCl (va_pl L (va_up F291 a0 (.inr (7, y_fl A z303 q297)))) H := hP
    obtain ⟨F306, hF307⟩ : ∃ G : Nat → va_E, G = va_up F291 a0 (.inr (7, y_fl A z303 q297)) := ⟨_, rfl⟩
    rw [← hF307] at hP
    have hI : y_I K cs A F306 := by rw [hF307]; exact y_clY hA hI ha0 bz305
    have hfr : ∀ b, K b ∉ [9, 62, 64] → F306 b = F b := by rw [hF307]; exact s_fr hfr ha0 (by decide)
    have o308 : F306 (A 12) = .inl (cs 0, 400, .inl f287) := by rw [hF307]; exact th_ne (th_kd (y_k12 hA) ha0 (by decide)) o295
    have oY309 : F306 a0 = .inr (7, y_fl A z303 q297) := by rw [hF307]; exact th_up
    have hz0 : ∀ k, k ∈ ([1, 3, 7, 8, 15, 19, 25, 26, 27, 31, 32] : List Nat) → z303 k = z0 k := fun k hk => by rw [hz304]; exact (y_un (fun q => absurd hk (by rw [q]; decide))).trans (hz0 k hk)
    have ev300 : v300 = z303 5 := by rw [hz304]; exact ev300.trans (y_un (by decide)).symm
    obtain ⟨v310, ev310⟩ : ∃ y : Int32, y = z303 16 := ⟨_, rfl⟩
    have qv310 : v310.toInt = v302.toInt := by rw [ev310, hz304, y_ue]
    exact W.vret hx hb hr (fun t ht hW => ⟨⟨F306, rfl, ⟨trivial, trivial, hI, hfr, fun k hk => (y_fiZ oY309 (s_sub (by decide) hk)).trans ((hz0 k hk).trans (y_fiZ oY0 (s_sub (by decide) hk)).symm), (by rw [y_fiZ oY0 (k := 5) (by decide), ← eF_5, y_fiZ oY309 (k := 5) (by decide), ← ev300, y_atE o2, y_atE o308, y_fiZ oY309 (k := 16) (by decide), ← ev310, y_fiZ oY0 (k := 16) (by decide), ← eF_16]; exact ⟨by omega, fun hd hg => h279 hd (by omega), by omega, by omega⟩)⟩, by rw [ht]; exact hP, va_K.moved hW.alike hK⟩, hS.F ht⟩) hS.2.2 dX7_statementTold_230
