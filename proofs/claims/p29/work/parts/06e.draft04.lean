set_option maxHeartbeats 4000000 in
set_option maxRecDepth 100000 in
theorem y_X7_statementTold (l : Launch) (dC : Nat → ClassId) (dI : Nat → Nat → Nat) (sz : Nat) {L : List Nat} {K : Nat → Nat} {cs : Nat → ClassId} (hLK : ∀ a {k : Nat}, K a = k → k ≠ 0 → a ∈ L) (A : Nat → Nat) (hA : y_A K A) (F : Nat → va_E) (a0 : Nat) (ha0 : K a0 = 9) (hI : y_I K cs A F) (hst : (0 ≤ (y_fi F a0 16).toInt ∧ (y_fi F a0 16).toInt ≤ 80)) : Met l yX7_statementTold (Cond.code yX7_statementTold cX7_statementTold 5 none :: T0) ({ frames := 8, cells := 0, slots := 0, locals := 174 }) (va_Pc [.ref a0] (s_W dC dI sz L F [(cs 0, .int), (cs 1, .byte), (cs 2, .long), (cs 3, .object RX5), (cs 4, .object RX4), (cs 5, .array .int), (cs 6, .char), (cs 7, .boolean)])) (va_Qv (fun (G : Nat → va_E) => True ∧ True ∧ y_I K cs A G ∧ (∀ b, K b ∉ [9, 62, 64] → G b = F b) ∧ (∀ k, k ∈ ([1, 3, 7, 8, 15, 19, 25, 26, 27, 31, 32] : List Nat) → y_fi G a0 k = y_fi F a0 k) ∧ (((y_fi F a0 5).toInt = 0 ∨ ¬ (y_fi G a0 5).toInt = 0) ∧ (((y_fi F a0 5).toInt = 0 → y_DS (y_at F (A 12))) → (y_fi G a0 5).toInt = 0 → y_DS (y_at G (A 12))) ∧ (y_fi G a0 16).toInt = (y_fi F a0 16).toInt + 1 ∧ ((y_fi F a0 16).toInt = 80 → ¬ (y_fi G a0 5).toInt = 0))) (fun (G : Nat → va_E) (t : State) => va_P (dC, dI) vwCl (va_pl L G) t.heap ∧ va_K (dC, dI) vwCl [(cs 0, .int), (cs 1, .byte), (cs 2, .long), (cs 3, .object RX5), (cs 4, .object RX4), (cs 5, .array .int), (cs 6, .char), (cs 7, .boolean)] t) (fun q => q ∈ L)) 0 0 (fun q => q ∈ L) := by
  refine Met.ofW (cc := cX7_statementTold) (maxL := 5) (ret := none) (by decide) rfl ?_
  intro p e s m args below meth c s₁ B hml hv
  obtain ⟨rfl, hsz, hP, hK, hD, hN⟩ := hv
  have hx := B.exec
  have hb := B.bytes
  have hr := B.returns
  have hts : ∀ w ∈ T0, w.before _ s = true := fun w h => atoms_spec (ws := Cond.code yX7_statementTold cX7_statementTold 5 none :: T0) B.pre w (List.mem_cons_of_mem _ h)
  have hown : s.vm.findClass RX7 = some m.cls := findClass_of_methodNamed B.named
  have hlocks := B.notSynchronized
  have hS : va_S (fun q => q ∈ L) s.heap s.heap [] := va_S.rf
  have hfr : ∀ b, K b ∉ [9, 62, 64] → F b = F b := fun _ _ => rfl
  have hl := lv_entry ([.ref a0]) (n := 5) (Nat.le_of_ble_eq_true rfl)
  rw [lg_entry_eq]
  generalize (lg_sl ([.ref a0]) ++ List.replicate (5 - (lg_sl ([.ref a0])).length) Slot.unset).toArray = ls at hl ⊢
  have hl : lv_has ls 5 [(0, .ref a0)] := hl
  refine s_gen hP hS (fun H locs hP hS => ?_)
  obtain ⟨z0, q0, oY0, bz0, bq0⟩ := y_opY hI ha0
  have hz0 : ∀ k, k ∈ ([1, 3, 7, 8, 15, 19, 25, 26, 27, 31, 32] : List Nat) → z0 k = z0 k := fun _ _ => rfl
  obtain ⟨f1, o2, b3⟩ := y_op12 hI
  obtain ⟨v4, ev4⟩ : ∃ y : Int32, y = z0 5 := ⟨_, rfl⟩
  have eF_5 := ev4
  obtain ⟨v5, ev5⟩ : ∃ y : Int32, y = z0 16 := ⟨_, rfl⟩
  have eF_16 := ev5
  have hst : (0 ≤ v5.toInt ∧ v5.toInt ≤ 80) := by have q9 := hst; rw [y_fiZ oY0 (k := 16) (by decide), ← ev5] at q9; exact q9
  have hnb : 0 ≤ (y_c f1 387).toInt ∧ (y_c f1 387).toInt ≤ 40 := b3
  have e0_v4 := ev4
  have e0_v5 := ev5
  refine th_join (fun g H locs => ∃ (G : Nat → va_E) (ls : Array Slot), g = F0 m 214 ls [] ∧ lv_has ls 5 [(0, .ref a0)] ∧ va_P (dC, dI) vwCl (va_pl L G) H ∧ va_S (fun q => q ∈ L) s.heap H locs ∧ y_I K cs A G ∧ (∀ b, K b ∉ [9, 62, 64] → G b = F b) ∧ (∀ k, k ∈ ([1, 3, 7, 8, 15, 19, 25, 26, 27, 31, 32] : List Nat) → y_fi G a0 k = z0 k) ∧ ((v4.toInt = 0 → y_DS f1) → (y_fi G a0 5).toInt = 0 → y_DS (y_at G (A 12))) ∧ ((v4.toInt = 0 ∨ ¬ (y_fi G a0 5).toInt = 0) ∧ (v5.toInt = 80 → ¬ (y_fi G a0 5).toInt = 0))) (fun K214 => ?_) ?_
  refine th_join (fun g H locs => ∃ (G : Nat → va_E) (ls : Array Slot) (w6 : Int32), g = F0 m 208 ls [] ∧ lv_has ls 5 [(0, .ref a0), (1, .int w6)] ∧ va_P (dC, dI) vwCl (va_pl L G) H ∧ va_S (fun q => q ∈ L) s.heap H locs ∧ y_I K cs A G ∧ (∀ b, K b ∉ [9, 62, 64] → G b = F b) ∧ (∀ k, k ∈ ([1, 3, 7, 8, 15, 19, 25, 26, 27, 31, 32] : List Nat) → y_fi G a0 k = z0 k) ∧ (0 ≤ w6.toInt ∧ w6.toInt ≤ 1600) ∧ (y_at G (A 12)) = f1 ∧ ((v4.toInt = 0 ∨ ¬ (y_fi G a0 5).toInt = 0) ∧ (v5.toInt = 80 → ¬ (y_fi G a0 5).toInt = 0))) (fun K208 => ?_) ?_
  refine th_join (fun g H locs => ∃ (G : Nat → va_E) (ls : Array Slot) (w7 : Int32) (w8 : Int32), g = F0 m 190 ls [] ∧ lv_has ls 5 [(0, .ref a0), (1, .int w7), (2, .int w8)] ∧ va_P (dC, dI) vwCl (va_pl L G) H ∧ va_S (fun q => q ∈ L) s.heap H locs ∧ y_I K cs A G ∧ (∀ b, K b ∉ [9, 62, 64] → G b = F b) ∧ (∀ k, k ∈ ([1, 3, 7, 8, 15, 19, 25, 26, 27, 31, 32] : List Nat) → y_fi G a0 k = z0 k) ∧ (0 ≤ w7.toInt ∧ w7.toInt ≤ 1600) ∧ True ∧ (y_at G (A 12)) = f1 ∧ ((v4.toInt = 0 ∨ ¬ (y_fi G a0 5).toInt = 0) ∧ (v5.toInt = 80 → ¬ (y_fi G a0 5).toInt = 0))) (fun K190 => ?_) ?_
  refine th_join (fun g H locs => ∃ (G : Nat → va_E) (ls : Array Slot) (w9 : Int32), g = F0 m 20 ls [] ∧ lv_has ls 5 [(0, .ref a0), (1, .int w9)] ∧ va_P (dC, dI) vwCl (va_pl L G) H ∧ va_S (fun q => q ∈ L) s.heap H locs ∧ y_I K cs A G ∧ (∀ b, K b ∉ [9, 62, 64] → G b = F b) ∧ (∀ k, k ∈ ([1, 3, 7, 8, 15, 19, 25, 26, 27, 31, 32] : List Nat) → y_fi G a0 k = z0 k) ∧ (0 ≤ w9.toInt ∧ w9.toInt ≤ 1600) ∧ (y_at G (A 12)) = f1 ∧ ((v4.toInt = 0 ∨ ¬ (y_fi G a0 5).toInt = 0) ∧ (v5.toInt = 80 → ¬ (y_fi G a0 5).toInt = 0))) (fun K20 => ?_) ?_
  · refine lv_aload_n hx hb dX7_statementTold_0 rfl (lv_at hl 0 rfl) ?_
    refine th_get (D := (dC, dI)) (ci := 7) (v := .int (z0 2)) (C := RX7) (T := TX7) (N := 34) hx hb hts inX7 hown hK hP (hLK _ ha0 (by decide)) oY0 rfl 2 (by decide) (hts _ T_272) (fun _ h9 => h9) rfl dX7_statementTold_1 ?_
    refine lv_topi (fun v10 ev10 => ?_)
    have qv10 : 0 ≤ v10.toInt ∧ v10.toInt ≤ 1600 := by rw [ev10]; exact y_bY2 bz0
    refine lv_istore_n (lv' := [(1, .int v10), (0, .ref a0)]) hx hb dX7_statementTold_4 rfl hl (by decide) rfl (fun ls hl => ?_)
    refine lv_aload_n hx hb dX7_statementTold_5 rfl (lv_at hl 1 rfl) ?_
    refine th_get (D := (dC, dI)) (ci := 7) (v := .int (z0 16)) (C := RX7) (T := TX7) (N := 34) hx hb hts inX7 hown hK hP (hLK _ ha0 (by decide)) oY0 rfl 16 (by decide) (hts _ T_306) (fun _ h9 => h9) rfl dX7_statementTold_6 ?_
    refine ax_eqi (y := v5) ev5.symm ?_
    refine lv_bipush (v := 80) hx hb dX7_statementTold_9 (by decide) ?_
    refine lv_icmp_ne (tgt := 20) hx hb dX7_statementTold_11 (by decide) (fun c11 => ?_) (fun c11 => ?_)
    · have c11 := mt (ax_eq (n := 80) (by decide)).mpr c11
      exact K20 _ _ _ ⟨F, _, v10, rfl, lv_sub hl [1, 0] rfl, hP, hS, hI, hfr, (fun k hk => (y_fiZ oY0 (s_sub (by decide) hk)).trans (hz0 k hk)), ⟨by omega, by omega⟩, (by first | (rw [y_atE o2]; exact rfl) | rw [y_atE o2]), (by first | (rw [y_fiZ oY0 (k := 5) (by decide), ← ev4]; omega) | rw [y_fiZ oY0 (k := 5) (by decide), ← ev4])⟩
    · have c11 := (ax_eq (n := 80) (by decide)).mp c11
      refine lv_aload_n hx hb dX7_statementTold_14 rfl (lv_at hl 1 rfl) ?_
      refine lv_iconst (v := 5) hx hb dX7_statementTold_15 (by decide) ?_
      refine lv_iload_n hx hb dX7_statementTold_16 rfl (lv_at hl 0 rfl) ?_
      refine va_callv (va_runV (As := [.int 5, .int v10]) (rest := []) ⟨hx, hb, hml, hown, hts⟩ (y_X7_fail l dC dI H.size hLK A hA F a0 5 v10 ha0 (by decide) hI) (cwV 2 hts (ax_gV T_290 T_291 T_292 T_265 T_27) rfl rfl rfl (by decide +kernel) ⟨Nat.le_of_ble_eq_true rfl, Nat.le_of_ble_eq_true rfl⟩) ⟨fun a U g mk q => ⟨q.1, s_pc rfl rfl q.2⟩, s_recv hK hP (hLK _ ha0 (by decide)) (ci := 7) rfl oY0, fun U hU hW => ⟨rfl, s_pw hU hW hP hK hD hN⟩⟩ rfl rfl hl.1 rfl (lv_room (Nat.le_of_ble_eq_true rfl)) dX7_statementTold_17 ⟨Nat.zero_le _, Nat.zero_le _⟩) hS (fun q _ h => h) (fun q h => h) (fun F13 t H1 locs ht hvm hw hB hz1 hk1 hS => ?_)
      obtain ⟨hP, hK1⟩ := hB
      rw [ht] at hP
      generalize H1 = H at hP hS ⊢
      obtain ⟨h14, h16, hI, hfr1, hzf, h15⟩ := hw
      have o17 : F13 (A 12) = .inl (cs 0, 400, .inl f1) := (hfr1 _ (by rw [(y_k12 hA)]; decide)).trans o2
      obtain ⟨z18, q19, oY20, bz21, bq22⟩ := y_opY hI ha0
      have hzf : ∀ k, k ∈ ([1, 2, 3, 4, 7, 8, 11, 15, 16, 19, 25, 26, 27, 31, 32] : List Nat) → z18 k = z0 k := fun k hk => by have q9 := hzf k hk; rw [y_fiZ oY20 (s_sub (by decide) hk), y_fiZ oY0 (s_sub (by decide) hk)] at q9; exact q9
      have hz0 : ∀ k, k ∈ ([1, 3, 7, 8, 15, 19, 25, 26, 27, 31, 32] : List Nat) → z18 k = z0 k := fun k hk => (hzf k (s_sub (by decide) hk)).trans (hz0 k hk)
      have ev5 : v5 = z18 16 := ev5.trans (hzf 16 (by decide)).symm
      have ev10 : v10 = z18 2 := ev10.trans (hzf 2 (by decide)).symm
      have hfr : ∀ b, K b ∉ [9, 62, 64] → F13 b = F b := fun b hb9 => (hfr1 b (fun q => hb9 (s_sub (by decide) q))).trans (hfr b hb9)
      obtain ⟨v23, ev23⟩ : ∃ y : Int32, y = z18 5 := ⟨_, rfl⟩
      have h15 : (¬ v23.toInt = 0) := by have q9 := h15; rw [y_fiZ oY20 (k := 5) (by decide), ← ev23] at q9; exact q9
      exact K20 _ _ _ ⟨F13, _, v10, rfl, lv_sub hl [1, 0] rfl, hP, hS, hI, hfr, (fun k hk => (y_fiZ oY20 (s_sub (by decide) hk)).trans (hz0 k hk)), ⟨by omega, by omega⟩, (by first | (rw [y_atE o17]; exact rfl) | rw [y_atE o17]), (by first | (rw [y_fiZ oY20 (k := 5) (by decide), ← ev23]; omega) | rw [y_fiZ oY20 (k := 5) (by decide), ← ev23])⟩
  · intro g H locs hq
    obtain ⟨F27, ls, w9, rfl, hl, hP, hS, hI, hfr, hz0, h24, h25, h26⟩ := hq
    obtain ⟨z28, q29, oY30, bz31, bq32⟩ := y_opY hI ha0
    have hz0 : ∀ k, k ∈ ([1, 3, 7, 8, 15, 19, 25, 26, 27, 31, 32] : List Nat) → z28 k = z0 k := fun k hk => (y_fiZ oY30 (s_sub (by decide) hk)).symm.trans (hz0 k hk)
    obtain ⟨f33, o34, b35⟩ := y_op12 hI
    have h25 : f33 = f1 := by have q9 := h25; rw [y_atE o34] at q9; exact q9
    obtain ⟨v36, ev36⟩ : ∃ y : Int32, y = z28 5 := ⟨_, rfl⟩
    have h26 : ((v4.toInt = 0 ∨ ¬ v36.toInt = 0) ∧ (v5.toInt = 80 → ¬ v36.toInt = 0)) := by have q9 := h26; rw [y_fiZ oY30 (k := 5) (by decide), ← ev36] at q9; exact q9
    refine lv_aload_n hx hb dX7_statementTold_20 rfl (lv_at hl 0 rfl) ?_
    refine va_calli (va_runV (As := []) (rest := []) ⟨hx, hb, hml, hown, hts⟩ (y_X7_ownHere l dC dI H.size hLK A hA F27 a0 ha0 hI) (cwV 0 hts (ax_gV T_283 T_284 T_285 T_265 T_25) rfl rfl rfl (by decide +kernel) ⟨Nat.le_of_ble_eq_true rfl, Nat.le_of_ble_eq_true rfl⟩) ⟨fun a U g mk q => ⟨q.1, s_pc rfl rfl q.2⟩, s_recv hK hP (hLK _ ha0 (by decide)) (ci := 7) rfl oY30, fun U hU hW => ⟨rfl, s_pw hU hW hP hK hD hN⟩⟩ rfl rfl hl.1 rfl (lv_room (Nat.le_of_ble_eq_true rfl)) dX7_statementTold_21 ⟨Nat.zero_le _, Nat.zero_le _⟩) hS (fun q _ h => h) (fun q h => h) (fun r38 F39 t H1 locs ht hvm hw hB hz1 hk1 hS => ?_)
    obtain ⟨hP, hK1⟩ := hB
    rw [ht] at hP
    generalize H1 = H at hP hS ⊢
    obtain ⟨h40, h42, hI, hfr1, hzf, h41⟩ := hw
    have o43 : F39 (A 12) = .inl (cs 0, 400, .inl f33) := (hfr1 _ (by rw [(y_k12 hA)]; decide)).trans o34
    obtain ⟨z44, q45, oY46, bz47, bq48⟩ := y_opY hI ha0
    have hzf : ∀ k, k ∈ ([1, 3, 4, 5, 6, 7, 8, 11, 15, 16, 19, 25, 26, 27, 31, 32] : List Nat) → z44 k = z28 k := fun k hk => by have q9 := hzf k hk; rw [y_fiZ oY46 (s_sub (by decide) hk), y_fiZ oY30 (s_sub (by decide) hk)] at q9; exact q9
    have hz0 : ∀ k, k ∈ ([1, 3, 7, 8, 15, 19, 25, 26, 27, 31, 32] : List Nat) → z44 k = z0 k := fun k hk => (hzf k (s_sub (by decide) hk)).trans (hz0 k hk)
    have ev36 : v36 = z44 5 := ev36.trans (hzf 5 (by decide)).symm
    have hfr : ∀ b, K b ∉ [9, 62, 64] → F39 b = F b := fun b hb9 => (hfr1 b (fun q => hb9 (s_sub (by decide) q))).trans (hfr b hb9)
    refine lv_istore_n (lv' := [(2, .int r38), (0, .ref a0), (1, .int w9)]) hx hb dX7_statementTold_24 rfl hl (by decide) rfl (fun ls hl => ?_)
    refine lv_aload_n hx hb dX7_statementTold_25 rfl (lv_at hl 1 rfl) ?_
    refine lv_bipush (v := 21) hx hb dX7_statementTold_26 (by decide) ?_
    refine va_calli (va_runV (As := [.int 21]) (rest := []) ⟨hx, hb, hml, hown, hts⟩ (y_X7_takes l dC dI H.size hLK A hA F39 a0 21 ha0 hI) (cwV 1 hts (ax_gV T_287 T_288 T_289 T_265 T_26) rfl rfl rfl (by decide +kernel) ⟨Nat.le_of_ble_eq_true rfl, Nat.le_of_ble_eq_true rfl⟩) ⟨fun a U g mk q => ⟨q.1, s_pc rfl rfl q.2⟩, s_recv hK hP (hLK _ ha0 (by decide)) (ci := 7) rfl oY46, fun U hU hW => ⟨rfl, s_pw hU hW hP hK hD hN⟩⟩ rfl rfl hl.1 rfl (lv_room (Nat.le_of_ble_eq_true rfl)) dX7_statementTold_28 ⟨Nat.zero_le _, Nat.zero_le _⟩) hS (fun q _ h => h) (fun q h => h) (fun r50 F51 t H1 locs ht hvm hw hB hz1 hk1 hS => ?_)
    obtain ⟨hP, hK1⟩ := hB
    rw [ht] at hP
    generalize H1 = H at hP hS ⊢
    obtain ⟨h52, h54, hI, hfr1, hzf, h53⟩ := hw
    have o55 : F51 (A 12) = .inl (cs 0, 400, .inl f33) := (hfr1 _ (by rw [(y_k12 hA)]; decide)).trans o43
    obtain ⟨z56, q57, oY58, bz59, bq60⟩ := y_opY hI ha0
    have hzf : ∀ k, k ∈ ([1, 3, 5, 6, 7, 8, 11, 15, 16, 19, 25, 26, 27, 31, 32] : List Nat) → z56 k = z44 k := fun k hk => by have q9 := hzf k hk; rw [y_fiZ oY58 (s_sub (by decide) hk), y_fiZ oY46 (s_sub (by decide) hk)] at q9; exact q9
    have hz0 : ∀ k, k ∈ ([1, 3, 7, 8, 15, 19, 25, 26, 27, 31, 32] : List Nat) → z56 k = z0 k := fun k hk => (hzf k (s_sub (by decide) hk)).trans (hz0 k hk)
    have ev36 : v36 = z56 5 := ev36.trans (hzf 5 (by decide)).symm
    have hfr : ∀ b, K b ∉ [9, 62, 64] → F51 b = F b := fun b hb9 => (hfr1 b (fun q => hb9 (s_sub (by decide) q))).trans (hfr b hb9)
    refine lv_if_eq (tgt := 74) hx hb dX7_statementTold_31 (by decide) (fun c61 => ?_) (fun c61 => ?_)
    · have c61 := (ax_eq (n := 0) (by decide)).mp c61
      refine lv_aload_n hx hb dX7_statementTold_74 rfl (lv_at hl 1 rfl) ?_
      refine lv_bipush (v := 22) hx hb dX7_statementTold_75 (by decide) ?_
      refine va_calli (va_runV (As := [.int 22]) (rest := []) ⟨hx, hb, hml, hown, hts⟩ (y_X7_takes l dC dI H.size hLK A hA F51 a0 22 ha0 hI) (cwV 1 hts (ax_gV T_287 T_288 T_289 T_265 T_26) rfl rfl rfl (by decide +kernel) ⟨Nat.le_of_ble_eq_true rfl, Nat.le_of_ble_eq_true rfl⟩) ⟨fun a U g mk q => ⟨q.1, s_pc rfl rfl q.2⟩, s_recv hK hP (hLK _ ha0 (by decide)) (ci := 7) rfl oY58, fun U hU hW => ⟨rfl, s_pw hU hW hP hK hD hN⟩⟩ rfl rfl hl.1 rfl (lv_room (Nat.le_of_ble_eq_true rfl)) dX7_statementTold_77 ⟨Nat.zero_le _, Nat.zero_le _⟩) hS (fun q _ h => h) (fun q h => h) (fun r63 F64 t H1 locs ht hvm hw hB hz1 hk1 hS => ?_)
      obtain ⟨hP, hK1⟩ := hB
      rw [ht] at hP
      generalize H1 = H at hP hS ⊢
      obtain ⟨h65, h67, hI, hfr1, hzf, h66⟩ := hw
      have o68 : F64 (A 12) = .inl (cs 0, 400, .inl f33) := (hfr1 _ (by rw [(y_k12 hA)]; decide)).trans o55
      obtain ⟨z69, q70, oY71, bz72, bq73⟩ := y_opY hI ha0
      have hzf : ∀ k, k ∈ ([1, 3, 5, 6, 7, 8, 11, 15, 16, 19, 25, 26, 27, 31, 32] : List Nat) → z69 k = z56 k := fun k hk => by have q9 := hzf k hk; rw [y_fiZ oY71 (s_sub (by decide) hk), y_fiZ oY58 (s_sub (by decide) hk)] at q9; exact q9
      have hz0 : ∀ k, k ∈ ([1, 3, 7, 8, 15, 19, 25, 26, 27, 31, 32] : List Nat) → z69 k = z0 k := fun k hk => (hzf k (s_sub (by decide) hk)).trans (hz0 k hk)
      have ev36 : v36 = z69 5 := ev36.trans (hzf 5 (by decide)).symm
      have hfr : ∀ b, K b ∉ [9, 62, 64] → F64 b = F b := fun b hb9 => (hfr1 b (fun q => hb9 (s_sub (by decide) q))).trans (hfr b hb9)
      refine lv_if_eq (tgt := 120) hx hb dX7_statementTold_80 (by decide) (fun c74 => ?_) (fun c74 => ?_)
      · have c74 := (ax_eq (n := 0) (by decide)).mp c74
        refine lv_aload_n hx hb dX7_statementTold_120 rfl (lv_at hl 1 rfl) ?_
        refine lv_bipush (v := 25) hx hb dX7_statementTold_121 (by decide) ?_
        refine va_calli (va_runV (As := [.int 25]) (rest := []) ⟨hx, hb, hml, hown, hts⟩ (y_X7_takes l dC dI H.size hLK A hA F64 a0 25 ha0 hI) (cwV 1 hts (ax_gV T_287 T_288 T_289 T_265 T_26) rfl rfl rfl (by decide +kernel) ⟨Nat.le_of_ble_eq_true rfl, Nat.le_of_ble_eq_true rfl⟩) ⟨fun a U g mk q => ⟨q.1, s_pc rfl rfl q.2⟩, s_recv hK hP (hLK _ ha0 (by decide)) (ci := 7) rfl oY71, fun U hU hW => ⟨rfl, s_pw hU hW hP hK hD hN⟩⟩ rfl rfl hl.1 rfl (lv_room (Nat.le_of_ble_eq_true rfl)) dX7_statementTold_123 ⟨Nat.zero_le _, Nat.zero_le _⟩) hS (fun q _ h => h) (fun q h => h) (fun r76 F77 t H1 locs ht hvm hw hB hz1 hk1 hS => ?_)
        obtain ⟨hP, hK1⟩ := hB
        rw [ht] at hP
        generalize H1 = H at hP hS ⊢
        obtain ⟨h78, h80, hI, hfr1, hzf, h79⟩ := hw
        have o81 : F77 (A 12) = .inl (cs 0, 400, .inl f33) := (hfr1 _ (by rw [(y_k12 hA)]; decide)).trans o68
        obtain ⟨z82, q83, oY84, bz85, bq86⟩ := y_opY hI ha0
        have hzf : ∀ k, k ∈ ([1, 3, 5, 6, 7, 8, 11, 15, 16, 19, 25, 26, 27, 31, 32] : List Nat) → z82 k = z69 k := fun k hk => by have q9 := hzf k hk; rw [y_fiZ oY84 (s_sub (by decide) hk), y_fiZ oY71 (s_sub (by decide) hk)] at q9; exact q9
        have hz0 : ∀ k, k ∈ ([1, 3, 7, 8, 15, 19, 25, 26, 27, 31, 32] : List Nat) → z82 k = z0 k := fun k hk => (hzf k (s_sub (by decide) hk)).trans (hz0 k hk)
        have ev36 : v36 = z82 5 := ev36.trans (hzf 5 (by decide)).symm
        have hfr : ∀ b, K b ∉ [9, 62, 64] → F77 b = F b := fun b hb9 => (hfr1 b (fun q => hb9 (s_sub (by decide) q))).trans (hfr b hb9)
        refine lv_if_eq (tgt := 166) hx hb dX7_statementTold_126 (by decide) (fun c87 => ?_) (fun c87 => ?_)
        · have c87 := (ax_eq (n := 0) (by decide)).mp c87
          refine lv_iload_n hx hb dX7_statementTold_166 rfl (lv_at hl 0 rfl) ?_
          refine lv_i2l hx hb dX7_statementTold_167 rfl ?_
          refine lv_topl (fun v88 ev88 => ?_)
          have qv88 : v88.toInt = r38.toInt := y_i2l ev88
          refine lv_lconst (v := 0) hx hb dX7_statementTold_168 (by decide) ?_
          refine lv_ldc2 hx hb hown (hts _ T_1256) dX7_statementTold_169 ?_
          refine va_calli (va_runS (As := [.long v88, .long 0, .long 15]) (rest := []) ⟨hx, hb, hml, hown, hts⟩ (y_X7_isIn l dC dI H.size F77 v88 0 15) (cwS 3 hts (ax_gS T_267 T_268 T_265 T_21) rfl rfl rfl (by decide +kernel) ⟨Nat.le_of_ble_eq_true rfl, Nat.le_of_ble_eq_true rfl⟩) ⟨fun a U g mk q => ⟨q.1, s_pc rfl rfl q.2⟩, fun U hU hW => ⟨rfl, s_pw hU hW hP hK hD hN⟩⟩ rfl rfl hl.1 rfl (lv_room (Nat.le_of_ble_eq_true rfl)) dX7_statementTold_172 ⟨Nat.zero_le _, Nat.zero_le _⟩) hS (fun q _ h => h) (fun q h => h) (fun r90 F91 t H1 locs ht hvm hw hB hz1 hk1 hS => ?_)
          obtain ⟨hP, hK1⟩ := hB
          rw [ht] at hP
          generalize H1 = H at hP hS ⊢
          obtain ⟨h92, h94, hG9, h93⟩ := hw
          rw [hG9] at hP
          have h93 : ((r90.toInt = 0 ∧ (v88.toInt < 0 ∨ 15 < v88.toInt)) ∨ (r90.toInt = 1 ∧ 0 ≤ v88.toInt ∧ v88.toInt ≤ 15)) := by have q9 := h93; exact q9
          refine lv_if_ne (tgt := 190) hx hb dX7_statementTold_175 (by decide) (fun c95 => ?_) (fun c95 => ?_)
          · have c95 := mt (ax_eq (n := 0) (by decide)).mpr c95
            exact K190 _ _ _ ⟨F77, _, w9, r38, rfl, lv_sub hl [1, 2, 0] rfl, hP, hS, hI, hfr, (fun k hk => (y_fiZ oY84 (s_sub (by decide) hk)).trans (hz0 k hk)), ⟨by omega, by omega⟩, trivial, (by rw [y_atE o81]; exact h25), (by first | (rw [y_fiZ oY84 (k := 5) (by decide), ← ev36]; omega) | rw [y_fiZ oY84 (k := 5) (by decide), ← ev36])⟩
          · have c95 := (ax_eq (n := 0) (by decide)).mp c95
            refine lv_aload_n hx hb dX7_statementTold_178 rfl (lv_at hl 1 rfl) ?_
            refine va_calli (va_runV (As := []) (rest := []) ⟨hx, hb, hml, hown, hts⟩ (y_X7_isWordHere l dC dI H.size hLK A hA F77 a0 ha0 hI) (cwV 0 hts (ax_gV T_280 T_281 T_282 T_265 T_24) rfl rfl rfl (by decide +kernel) ⟨Nat.le_of_ble_eq_true rfl, Nat.le_of_ble_eq_true rfl⟩) ⟨fun a U g mk q => ⟨q.1, s_pc rfl rfl q.2⟩, s_recv hK hP (hLK _ ha0 (by decide)) (ci := 7) rfl oY84, fun U hU hW => ⟨rfl, s_pw hU hW hP hK hD hN⟩⟩ rfl rfl hl.1 rfl (lv_room (Nat.le_of_ble_eq_true rfl)) dX7_statementTold_179 ⟨Nat.zero_le _, Nat.zero_le _⟩) hS (fun q _ h => h) (fun q h => h) (fun r97 F98 t H1 locs ht hvm hw hB hz1 hk1 hS => ?_)
            obtain ⟨hP, hK1⟩ := hB
            rw [ht] at hP
            generalize H1 = H at hP hS ⊢
            obtain ⟨h99, h101, hI, hfr1, hzf, h100⟩ := hw
            have o102 : F98 (A 12) = .inl (cs 0, 400, .inl f33) := (hfr1 _ (by rw [(y_k12 hA)]; decide)).trans o81
            obtain ⟨z103, q104, oY105, bz106, bq107⟩ := y_opY hI ha0
            have hzf : ∀ k, k ∈ ([1, 3, 4, 5, 6, 7, 8, 11, 15, 16, 19, 25, 26, 27, 31, 32] : List Nat) → z103 k = z82 k := fun k hk => by have q9 := hzf k hk; rw [y_fiZ oY105 (s_sub (by decide) hk), y_fiZ oY84 (s_sub (by decide) hk)] at q9; exact q9
            have hz0 : ∀ k, k ∈ ([1, 3, 7, 8, 15, 19, 25, 26, 27, 31, 32] : List Nat) → z103 k = z0 k := fun k hk => (hzf k (s_sub (by decide) hk)).trans (hz0 k hk)
            have ev36 : v36 = z103 5 := ev36.trans (hzf 5 (by decide)).symm
            have hfr : ∀ b, K b ∉ [9, 62, 64] → F98 b = F b := fun b hb9 => (hfr1 b (fun q => hb9 (s_sub (by decide) q))).trans (hfr b hb9)
            obtain ⟨v108, ev108⟩ : ∃ y : Int32, y = z103 2 := ⟨_, rfl⟩
            have qv108 : 0 ≤ v108.toInt ∧ v108.toInt ≤ 1600 := by rw [ev108]; exact y_bY2 bz106
            obtain ⟨v109, ev109⟩ : ∃ y : Int32, y = z103 3 := ⟨_, rfl⟩
            have qv109 : 0 ≤ v109.toInt ∧ v109.toInt ≤ 1600 := by rw [ev109]; exact y_bY3 bz106
            have h100 : (r97.toInt = 0 ∨ v108.toInt < v109.toInt) := by have q9 := h100; rw [y_fiZ oY105 (k := 2) (by decide), ← ev108, y_fiZ oY105 (k := 3) (by decide), ← ev109] at q9; exact q9
            refine lv_if_eq (tgt := 208) hx hb dX7_statementTold_182 (by decide) (fun c110 => ?_) (fun c110 => ?_)
            · have c110 := (ax_eq (n := 0) (by decide)).mp c110
              exact K208 _ _ _ ⟨F98, _, w9, rfl, lv_sub hl [1, 2] rfl, hP, hS, hI, hfr, (fun k hk => (y_fiZ oY105 (s_sub (by decide) hk)).trans (hz0 k hk)), ⟨by omega, by omega⟩, (by rw [y_atE o102]; exact h25), (by first | (rw [y_fiZ oY105 (k := 5) (by decide), ← ev36]; omega) | rw [y_fiZ oY105 (k := 5) (by decide), ← ev36])⟩
            · have c110 := mt (ax_eq (n := 0) (by decide)).mpr c110
              refine lv_iload_n hx hb dX7_statementTold_185 rfl (lv_at hl 0 rfl) ?_
              refine lv_iconst (v := (-1)) hx hb dX7_statementTold_186 (by decide) ?_
              refine lv_icmp_ne (tgt := 208) hx hb dX7_statementTold_187 (by decide) (fun c111 => ?_) (fun c111 => ?_)
              · have c111 := mt (ax_eq (n := (-1)) (by decide)).mpr c111
                exact K208 _ _ _ ⟨F98, _, w9, rfl, lv_sub hl [1, 2] rfl, hP, hS, hI, hfr, (fun k hk => (y_fiZ oY105 (s_sub (by decide) hk)).trans (hz0 k hk)), ⟨by omega, by omega⟩, (by rw [y_atE o102]; exact h25), (by first | (rw [y_fiZ oY105 (k := 5) (by decide), ← ev36]; omega) | rw [y_fiZ oY105 (k := 5) (by decide), ← ev36])⟩
              · have c111 := (ax_eq (n := (-1)) (by decide)).mp c111
                exact K190 _ _ _ ⟨F98, _, w9, r38, rfl, lv_sub hl [1, 2, 0] rfl, hP, hS, hI, hfr, (fun k hk => (y_fiZ oY105 (s_sub (by decide) hk)).trans (hz0 k hk)), ⟨by omega, by omega⟩, trivial, (by rw [y_atE o102]; exact h25), (by first | (rw [y_fiZ oY105 (k := 5) (by decide), ← ev36]; omega) | rw [y_fiZ oY105 (k := 5) (by decide), ← ev36])⟩
        · have c87 := mt (ax_eq (n := 0) (by decide)).mpr c87
          refine lv_aload_n hx hb dX7_statementTold_129 rfl (lv_at hl 1 rfl) ?_
          refine th_get (D := (dC, dI)) (ci := 7) (v := .ref (A 12)) (C := RX7) (T := TX7) (N := 34) hx hb hts inX7 hown hK hP (hLK _ ha0 (by decide)) oY84 rfl 12 (by decide) (hts _ T_245) (fun _ h9 => h9) rfl dX7_statementTold_130 ?_
          refine lv_sipush (v := 386) hx hb dX7_statementTold_133 (by decide) ?_
          refine lv_aload_n hx hb dX7_statementTold_136 rfl (lv_at hl 1 rfl) ?_
          refine lv_bipush (v := 27) hx hb dX7_statementTold_137 (by decide) ?_
          refine va_calli (va_runV (As := [.int 27]) (rest := [.int 386, .ref (A 12)]) ⟨hx, hb, hml, hown, hts⟩ (y_X7_takes l dC dI H.size hLK A hA F77 a0 27 ha0 hI) (cwV 1 hts (ax_gV T_287 T_288 T_289 T_265 T_26) rfl rfl rfl (by decide +kernel) ⟨Nat.le_of_ble_eq_true rfl, Nat.le_of_ble_eq_true rfl⟩) ⟨fun a U g mk q => ⟨q.1, s_pc rfl rfl q.2⟩, s_recv hK hP (hLK _ ha0 (by decide)) (ci := 7) rfl oY84, fun U hU hW => ⟨rfl, s_pw hU hW hP hK hD hN⟩⟩ rfl rfl hl.1 rfl (lv_room (Nat.le_of_ble_eq_true rfl)) dX7_statementTold_139 ⟨Nat.zero_le _, Nat.zero_le _⟩) hS (fun q _ h => h) (fun q h => h) (fun r113 F114 t H1 locs ht hvm hw hB hz1 hk1 hS => ?_)
          obtain ⟨hP, hK1⟩ := hB
          rw [ht] at hP
          generalize H1 = H at hP hS ⊢
          obtain ⟨h115, h117, hI, hfr1, hzf, h116⟩ := hw
          have o118 : F114 (A 12) = .inl (cs 0, 400, .inl f33) := (hfr1 _ (by rw [(y_k12 hA)]; decide)).trans o81
          obtain ⟨z119, q120, oY121, bz122, bq123⟩ := y_opY hI ha0
          have hzf : ∀ k, k ∈ ([1, 3, 5, 6, 7, 8, 11, 15, 16, 19, 25, 26, 27, 31, 32] : List Nat) → z119 k = z82 k := fun k hk => by have q9 := hzf k hk; rw [y_fiZ oY121 (s_sub (by decide) hk), y_fiZ oY84 (s_sub (by decide) hk)] at q9; exact q9
          have hz0 : ∀ k, k ∈ ([1, 3, 7, 8, 15, 19, 25, 26, 27, 31, 32] : List Nat) → z119 k = z0 k := fun k hk => (hzf k (s_sub (by decide) hk)).trans (hz0 k hk)
          have ev36 : v36 = z119 5 := ev36.trans (hzf 5 (by decide)).symm
          have hfr : ∀ b, K b ∉ [9, 62, 64] → F114 b = F b := fun b hb9 => (hfr1 b (fun q => hb9 (s_sub (by decide) q))).trans (hfr b hb9)
          refine va_calli (va_runS (As := [.int r113]) (rest := [.int 386, .ref (A 12)]) ⟨hx, hb, hml, hown, hts⟩ (y_X7_flag l dC dI H.size F114 r113 (⟨by omega, by omega⟩)) (cwS 1 hts (ax_gS T_1001 T_1003 T_265 T_1002) rfl rfl rfl (by decide +kernel) ⟨Nat.le_of_ble_eq_true rfl, Nat.le_of_ble_eq_true rfl⟩) ⟨fun a U g mk q => ⟨q.1, s_pc rfl rfl q.2⟩, fun U hU hW => ⟨rfl, s_pw hU hW hP hK hD hN⟩⟩ rfl rfl hl.1 rfl (lv_room (Nat.le_of_ble_eq_true rfl)) dX7_statementTold_142 ⟨Nat.zero_le _, Nat.zero_le _⟩) hS (fun q _ h => h) (fun q h => h) (fun r125 F126 t H1 locs ht hvm hw hB hz1 hk1 hS => ?_)
          obtain ⟨hP, hK1⟩ := hB
          rw [ht] at hP
          generalize H1 = H at hP hS ⊢
          obtain ⟨h127, h129, hG9, h128⟩ := hw
          rw [hG9] at hP
          refine th_iast hx hb hK hP hD hS (hLK _ (y_k12 hA) (by decide)) 0 o118 rfl (ax_in (by decide)) dX7_statementTold_145 (fun H locs hP hS => ?_)
          obtain ⟨f130, u131⟩ : ∃ g : Nat → Int32, g = upd f33 (386 : Int32).toNatClampNeg r125 := ⟨_, rfl⟩
          rw [← u131] at hP
          have b132 : y_bd 12 f130 := by rw [u131]; exact th_updJ (P := fun y => 0 ≤ y.toInt ∧ y.toInt ≤ 40) b35 (fun q => absurd q (by decide))
          have hP : va_P (dC, dI) vwCl (va_pl L (va_up F114 (A 12) (.inl (cs 0, 400, .inl f130)))) H := hP
          obtain ⟨F133, hF134⟩ : ∃ G : Nat → va_E, G = va_up F114 (A 12) (.inl (cs 0, 400, .inl f130)) := ⟨_, rfl⟩
          rw [← hF134] at hP
          have hI : y_I K cs A F133 := by rw [hF134]; exact y_clA (i := 12) hA hI (by decide) b132
          have hfr : ∀ b, K b ∉ [9, 62, 64] → F133 b = F b := by rw [hF134]; exact s_fr hfr (y_k12 hA) (by decide)
          have oY135 : F133 a0 = .inr (7, y_fl A z119 q120) := by rw [hF134]; exact th_ne (th_kd ha0 (y_k12 hA) (by decide)) oY121
          have o136 : F133 (A 12) = .inl (cs 0, 400, .inl f130) := by rw [hF134]; exact th_up
          have u137 : ∀ j : Int, 0 ≤ j → y_c f130 j = if j = 386 then r125 else y_c f33 j := by rw [u131]; exact y_cu (by decide) (by decide)
          refine lv_aload_n hx hb dX7_statementTold_146 rfl (lv_at hl 1 rfl) ?_
          refine th_get (D := (dC, dI)) (ci := 7) (v := .ref (A 12)) (C := RX7) (T := TX7) (N := 34) hx hb hts inX7 hown hK hP (hLK _ ha0 (by decide)) oY135 rfl 12 (by decide) (hts _ T_245) (fun _ h9 => h9) rfl dX7_statementTold_147 ?_
          refine lv_sipush (v := 386) hx hb dX7_statementTold_150 (by decide) ?_
          refine th_iald hx hb hK hP (hLK _ (y_k12 hA) (by decide)) 0 o136 rfl (ax_in (by decide)) dX7_statementTold_153 ?_
          refine lv_topi (fun v138 ev138 => ?_)
          refine lv_if_ne (tgt := 214) hx hb dX7_statementTold_154 (by decide) (fun c139 => ?_) (fun c139 => ?_)
          · have c139 := mt (ax_eq (n := 0) (by decide)).mpr c139
            exact K214 _ _ _ ⟨F133, _, rfl, lv_sub hl [1] rfl, hP, hS, hI, hfr, (fun k hk => (y_fiZ oY135 (s_sub (by decide) hk)).trans (hz0 k hk)), (by rw [y_fiZ oY135 (k := 5) (by decide), ← ev36, y_atE o136]; exact (fun hd hg => y_DSp u137 (by omega) ⟨by omega, by omega⟩ (by rw [h25]; omega) (by rw [h25]; exact hd (by omega)))), (by first | (rw [y_fiZ oY135 (k := 5) (by decide), ← ev36]; omega) | rw [y_fiZ oY135 (k := 5) (by decide), ← ev36])⟩
          · have c139 := (ax_eq (n := 0) (by decide)).mp c139
            refine lv_aload_n hx hb dX7_statementTold_157 rfl (lv_at hl 1 rfl) ?_
            refine lv_bipush (v := 26) hx hb dX7_statementTold_158 (by decide) ?_
            have ep140_5 := ev36
            refine va_callv (va_runV (As := [.int 26]) (rest := []) ⟨hx, hb, hml, hown, hts⟩ (y_X7_asks l dC dI H.size hLK A hA F133 a0 26 ha0 hI) (cwV 1 hts (ax_gV T_297 T_298 T_299 T_265 T_29) rfl rfl rfl (by decide +kernel) ⟨Nat.le_of_ble_eq_true rfl, Nat.le_of_ble_eq_true rfl⟩) ⟨fun a U g mk q => ⟨q.1, s_pc rfl rfl q.2⟩, s_recv hK hP (hLK _ ha0 (by decide)) (ci := 7) rfl oY135, fun U hU hW => ⟨rfl, s_pw hU hW hP hK hD hN⟩⟩ rfl rfl hl.1 rfl (lv_room (Nat.le_of_ble_eq_true rfl)) dX7_statementTold_160 ⟨Nat.zero_le _, Nat.zero_le _⟩) hS (fun q _ h => h) (fun q h => h) (fun F141 t H1 locs ht hvm hw hB hz1 hk1 hS => ?_)
            obtain ⟨hP, hK1⟩ := hB
            rw [ht] at hP
            generalize H1 = H at hP hS ⊢
            obtain ⟨h142, h144, hI, hfr1, hzf, h143⟩ := hw
            have o145 : F141 (A 12) = .inl (cs 0, 400, .inl f130) := (hfr1 _ (by rw [(y_k12 hA)]; decide)).trans o136
            obtain ⟨z146, q147, oY148, bz149, bq150⟩ := y_opY hI ha0
            have hzf : ∀ k, k ∈ ([1, 3, 7, 8, 11, 15, 16, 19, 25, 26, 27, 31, 32] : List Nat) → z146 k = z119 k := fun k hk => by have q9 := hzf k hk; rw [y_fiZ oY148 (s_sub (by decide) hk), y_fiZ oY135 (s_sub (by decide) hk)] at q9; exact q9
            have hz0 : ∀ k, k ∈ ([1, 3, 7, 8, 15, 19, 25, 26, 27, 31, 32] : List Nat) → z146 k = z0 k := fun k hk => (hzf k (s_sub (by decide) hk)).trans (hz0 k hk)
            have hfr : ∀ b, K b ∉ [9, 62, 64] → F141 b = F b := fun b hb9 => (hfr1 b (fun q => hb9 (s_sub (by decide) q))).trans (hfr b hb9)
            obtain ⟨v151, ev151⟩ : ∃ y : Int32, y = z146 5 := ⟨_, rfl⟩
            have h143 : (v36.toInt = 0 ∨ ¬ v151.toInt = 0) := by have q9 := h143; rw [y_fiZ oY135 (k := 5) (by decide), ← ep140_5, y_fiZ oY148 (k := 5) (by decide), ← ev151] at q9; exact q9
            refine lv_goto (tgt := 214) hx hb dX7_statementTold_163 (by decide) ?_
            exact K214 _ _ _ ⟨F141, _, rfl, lv_sub hl [1] rfl, hP, hS, hI, hfr, (fun k hk => (y_fiZ oY148 (s_sub (by decide) hk)).trans (hz0 k hk)), (by rw [y_fiZ oY148 (k := 5) (by decide), ← ev151, y_atE o145]; exact (fun hd hg => y_DSp u137 (by omega) ⟨by omega, by omega⟩ (by rw [h25]; omega) (by rw [h25]; exact hd (by omega)))), (by first | (rw [y_fiZ oY148 (k := 5) (by decide), ← ev151]; omega) | rw [y_fiZ oY148 (k := 5) (by decide), ← ev151])⟩
      · have c74 := mt (ax_eq (n := 0) (by decide)).mpr c74
        refine lv_aload_n hx hb dX7_statementTold_83 rfl (lv_at hl 1 rfl) ?_
        refine th_get (D := (dC, dI)) (ci := 7) (v := .ref (A 12)) (C := RX7) (T := TX7) (N := 34) hx hb hts inX7 hown hK hP (hLK _ ha0 (by decide)) oY71 rfl 12 (by decide) (hts _ T_245) (fun _ h9 => h9) rfl dX7_statementTold_84 ?_
        refine lv_sipush (v := 385) hx hb dX7_statementTold_87 (by decide) ?_
        refine lv_aload_n hx hb dX7_statementTold_90 rfl (lv_at hl 1 rfl) ?_
        refine lv_bipush (v := 24) hx hb dX7_statementTold_91 (by decide) ?_
        refine va_calli (va_runV (As := [.int 24]) (rest := [.int 385, .ref (A 12)]) ⟨hx, hb, hml, hown, hts⟩ (y_X7_takes l dC dI H.size hLK A hA F64 a0 24 ha0 hI) (cwV 1 hts (ax_gV T_287 T_288 T_289 T_265 T_26) rfl rfl rfl (by decide +kernel) ⟨Nat.le_of_ble_eq_true rfl, Nat.le_of_ble_eq_true rfl⟩) ⟨fun a U g mk q => ⟨q.1, s_pc rfl rfl q.2⟩, s_recv hK hP (hLK _ ha0 (by decide)) (ci := 7) rfl oY71, fun U hU hW => ⟨rfl, s_pw hU hW hP hK hD hN⟩⟩ rfl rfl hl.1 rfl (lv_room (Nat.le_of_ble_eq_true rfl)) dX7_statementTold_93 ⟨Nat.zero_le _, Nat.zero_le _⟩) hS (fun q _ h => h) (fun q h => h) (fun r153 F154 t H1 locs ht hvm hw hB hz1 hk1 hS => ?_)
        obtain ⟨hP, hK1⟩ := hB
        rw [ht] at hP
        generalize H1 = H at hP hS ⊢
        obtain ⟨h155, h157, hI, hfr1, hzf, h156⟩ := hw
        have o158 : F154 (A 12) = .inl (cs 0, 400, .inl f33) := (hfr1 _ (by rw [(y_k12 hA)]; decide)).trans o68
        obtain ⟨z159, q160, oY161, bz162, bq163⟩ := y_opY hI ha0
        have hzf : ∀ k, k ∈ ([1, 3, 5, 6, 7, 8, 11, 15, 16, 19, 25, 26, 27, 31, 32] : List Nat) → z159 k = z69 k := fun k hk => by have q9 := hzf k hk; rw [y_fiZ oY161 (s_sub (by decide) hk), y_fiZ oY71 (s_sub (by decide) hk)] at q9; exact q9
        have hz0 : ∀ k, k ∈ ([1, 3, 7, 8, 15, 19, 25, 26, 27, 31, 32] : List Nat) → z159 k = z0 k := fun k hk => (hzf k (s_sub (by decide) hk)).trans (hz0 k hk)
        have ev36 : v36 = z159 5 := ev36.trans (hzf 5 (by decide)).symm
        have hfr : ∀ b, K b ∉ [9, 62, 64] → F154 b = F b := fun b hb9 => (hfr1 b (fun q => hb9 (s_sub (by decide) q))).trans (hfr b hb9)
        refine va_calli (va_runS (As := [.int r153]) (rest := [.int 385, .ref (A 12)]) ⟨hx, hb, hml, hown, hts⟩ (y_X7_flag l dC dI H.size F154 r153 (⟨by omega, by omega⟩)) (cwS 1 hts (ax_gS T_1001 T_1003 T_265 T_1002) rfl rfl rfl (by decide +kernel) ⟨Nat.le_of_ble_eq_true rfl, Nat.le_of_ble_eq_true rfl⟩) ⟨fun a U g mk q => ⟨q.1, s_pc rfl rfl q.2⟩, fun U hU hW => ⟨rfl, s_pw hU hW hP hK hD hN⟩⟩ rfl rfl hl.1 rfl (lv_room (Nat.le_of_ble_eq_true rfl)) dX7_statementTold_96 ⟨Nat.zero_le _, Nat.zero_le _⟩) hS (fun q _ h => h) (fun q h => h) (fun r165 F166 t H1 locs ht hvm hw hB hz1 hk1 hS => ?_)
        obtain ⟨hP, hK1⟩ := hB
        rw [ht] at hP
        generalize H1 = H at hP hS ⊢
        obtain ⟨h167, h169, hG9, h168⟩ := hw
        rw [hG9] at hP
        refine th_iast hx hb hK hP hD hS (hLK _ (y_k12 hA) (by decide)) 0 o158 rfl (ax_in (by decide)) dX7_statementTold_99 (fun H locs hP hS => ?_)
        obtain ⟨f170, u171⟩ : ∃ g : Nat → Int32, g = upd f33 (385 : Int32).toNatClampNeg r165 := ⟨_, rfl⟩
        rw [← u171] at hP
        have b172 : y_bd 12 f170 := by rw [u171]; exact th_updJ (P := fun y => 0 ≤ y.toInt ∧ y.toInt ≤ 40) b35 (fun q => absurd q (by decide))
        have hP : va_P (dC, dI) vwCl (va_pl L (va_up F154 (A 12) (.inl (cs 0, 400, .inl f170)))) H := hP
        obtain ⟨F173, hF174⟩ : ∃ G : Nat → va_E, G = va_up F154 (A 12) (.inl (cs 0, 400, .inl f170)) := ⟨_, rfl⟩
        rw [← hF174] at hP
        have hI : y_I K cs A F173 := by rw [hF174]; exact y_clA (i := 12) hA hI (by decide) b172
        have hfr : ∀ b, K b ∉ [9, 62, 64] → F173 b = F b := by rw [hF174]; exact s_fr hfr (y_k12 hA) (by decide)
        have oY175 : F173 a0 = .inr (7, y_fl A z159 q160) := by rw [hF174]; exact th_ne (th_kd ha0 (y_k12 hA) (by decide)) oY161
        have o176 : F173 (A 12) = .inl (cs 0, 400, .inl f170) := by rw [hF174]; exact th_up
        have u177 : ∀ j : Int, 0 ≤ j → y_c f170 j = if j = 385 then r165 else y_c f33 j := by rw [u171]; exact y_cu (by decide) (by decide)
        refine lv_aload_n hx hb dX7_statementTold_100 rfl (lv_at hl 1 rfl) ?_
        refine th_get (D := (dC, dI)) (ci := 7) (v := .ref (A 12)) (C := RX7) (T := TX7) (N := 34) hx hb hts inX7 hown hK hP (hLK _ ha0 (by decide)) oY175 rfl 12 (by decide) (hts _ T_245) (fun _ h9 => h9) rfl dX7_statementTold_101 ?_
        refine lv_sipush (v := 385) hx hb dX7_statementTold_104 (by decide) ?_
        refine th_iald hx hb hK hP (hLK _ (y_k12 hA) (by decide)) 0 o176 rfl (ax_in (by decide)) dX7_statementTold_107 ?_
        refine lv_topi (fun v178 ev178 => ?_)
        refine lv_if_ne (tgt := 214) hx hb dX7_statementTold_108 (by decide) (fun c179 => ?_) (fun c179 => ?_)
        · have c179 := mt (ax_eq (n := 0) (by decide)).mpr c179
          exact K214 _ _ _ ⟨F173, _, rfl, lv_sub hl [1] rfl, hP, hS, hI, hfr, (fun k hk => (y_fiZ oY175 (s_sub (by decide) hk)).trans (hz0 k hk)), (by rw [y_fiZ oY175 (k := 5) (by decide), ← ev36, y_atE o176]; exact (fun hd hg => y_DSp u177 (by omega) ⟨by omega, by omega⟩ (by rw [h25]; omega) (by rw [h25]; exact hd (by omega)))), (by first | (rw [y_fiZ oY175 (k := 5) (by decide), ← ev36]; omega) | rw [y_fiZ oY175 (k := 5) (by decide), ← ev36])⟩
        · have c179 := (ax_eq (n := 0) (by decide)).mp c179
          refine lv_aload_n hx hb dX7_statementTold_111 rfl (lv_at hl 1 rfl) ?_
          refine lv_bipush (v := 23) hx hb dX7_statementTold_112 (by decide) ?_
          have ep180_5 := ev36
          refine va_callv (va_runV (As := [.int 23]) (rest := []) ⟨hx, hb, hml, hown, hts⟩ (y_X7_asks l dC dI H.size hLK A hA F173 a0 23 ha0 hI) (cwV 1 hts (ax_gV T_297 T_298 T_299 T_265 T_29) rfl rfl rfl (by decide +kernel) ⟨Nat.le_of_ble_eq_true rfl, Nat.le_of_ble_eq_true rfl⟩) ⟨fun a U g mk q => ⟨q.1, s_pc rfl rfl q.2⟩, s_recv hK hP (hLK _ ha0 (by decide)) (ci := 7) rfl oY175, fun U hU hW => ⟨rfl, s_pw hU hW hP hK hD hN⟩⟩ rfl rfl hl.1 rfl (lv_room (Nat.le_of_ble_eq_true rfl)) dX7_statementTold_114 ⟨Nat.zero_le _, Nat.zero_le _⟩) hS (fun q _ h => h) (fun q h => h) (fun F181 t H1 locs ht hvm hw hB hz1 hk1 hS => ?_)
          obtain ⟨hP, hK1⟩ := hB
          rw [ht] at hP
          generalize H1 = H at hP hS ⊢
          obtain ⟨h182, h184, hI, hfr1, hzf, h183⟩ := hw
          have o185 : F181 (A 12) = .inl (cs 0, 400, .inl f170) := (hfr1 _ (by rw [(y_k12 hA)]; decide)).trans o176
          obtain ⟨z186, q187, oY188, bz189, bq190⟩ := y_opY hI ha0
          have hzf : ∀ k, k ∈ ([1, 3, 7, 8, 11, 15, 16, 19, 25, 26, 27, 31, 32] : List Nat) → z186 k = z159 k := fun k hk => by have q9 := hzf k hk; rw [y_fiZ oY188 (s_sub (by decide) hk), y_fiZ oY175 (s_sub (by decide) hk)] at q9; exact q9
          have hz0 : ∀ k, k ∈ ([1, 3, 7, 8, 15, 19, 25, 26, 27, 31, 32] : List Nat) → z186 k = z0 k := fun k hk => (hzf k (s_sub (by decide) hk)).trans (hz0 k hk)
          have hfr : ∀ b, K b ∉ [9, 62, 64] → F181 b = F b := fun b hb9 => (hfr1 b (fun q => hb9 (s_sub (by decide) q))).trans (hfr b hb9)
          obtain ⟨v191, ev191⟩ : ∃ y : Int32, y = z186 5 := ⟨_, rfl⟩
          have h183 : (v36.toInt = 0 ∨ ¬ v191.toInt = 0) := by have q9 := h183; rw [y_fiZ oY175 (k := 5) (by decide), ← ep180_5, y_fiZ oY188 (k := 5) (by decide), ← ev191] at q9; exact q9
          refine lv_goto (tgt := 214) hx hb dX7_statementTold_117 (by decide) ?_
          exact K214 _ _ _ ⟨F181, _, rfl, lv_sub hl [1] rfl, hP, hS, hI, hfr, (fun k hk => (y_fiZ oY188 (s_sub (by decide) hk)).trans (hz0 k hk)), (by rw [y_fiZ oY188 (k := 5) (by decide), ← ev191, y_atE o185]; exact (fun hd hg => y_DSp u177 (by omega) ⟨by omega, by omega⟩ (by rw [h25]; omega) (by rw [h25]; exact hd (by omega)))), (by first | (rw [y_fiZ oY188 (k := 5) (by decide), ← ev191]; omega) | rw [y_fiZ oY188 (k := 5) (by decide), ← ev191])⟩
    · have c61 := mt (ax_eq (n := 0) (by decide)).mpr c61
      refine lv_aload_n hx hb dX7_statementTold_34 rfl (lv_at hl 1 rfl) ?_
      refine lv_iconst (v := 0) hx hb dX7_statementTold_35 (by decide) ?_
      refine lv_bipush (v := 63) hx hb dX7_statementTold_36 (by decide) ?_
      have ep192_5 := ev36
      refine va_calli (va_runV (As := [.int 0, .int 63]) (rest := []) ⟨hx, hb, hml, hown, hts⟩ (y_X7_number l dC dI H.size hLK A hA F51 a0 0 63 ha0 hI) (cwV 2 hts (ax_gV T_300 T_301 T_302 T_265 T_30) rfl rfl rfl (by decide +kernel) ⟨Nat.le_of_ble_eq_true rfl, Nat.le_of_ble_eq_true rfl⟩) ⟨fun a U g mk q => ⟨q.1, s_pc rfl rfl q.2⟩, s_recv hK hP (hLK _ ha0 (by decide)) (ci := 7) rfl oY58, fun U hU hW => ⟨rfl, s_pw hU hW hP hK hD hN⟩⟩ rfl rfl hl.1 rfl (lv_room (Nat.le_of_ble_eq_true rfl)) dX7_statementTold_38 ⟨Nat.zero_le _, Nat.zero_le _⟩) hS (fun q _ h => h) (fun q h => h) (fun r193 F194 t H1 locs ht hvm hw hB hz1 hk1 hS => ?_)
      obtain ⟨hP, hK1⟩ := hB
      rw [ht] at hP
      generalize H1 = H at hP hS ⊢
      obtain ⟨h195, h197, hI, hfr1, hzf, h196⟩ := hw
      have o198 : F194 (A 12) = .inl (cs 0, 400, .inl f33) := (hfr1 _ (by rw [(y_k12 hA)]; decide)).trans o55
      obtain ⟨z199, q200, oY201, bz202, bq203⟩ := y_opY hI ha0
      have hzf : ∀ k, k ∈ ([1, 3, 7, 8, 11, 15, 16, 19, 25, 26, 27, 31, 32] : List Nat) → z199 k = z56 k := fun k hk => by have q9 := hzf k hk; rw [y_fiZ oY201 (s_sub (by decide) hk), y_fiZ oY58 (s_sub (by decide) hk)] at q9; exact q9
      have hz0 : ∀ k, k ∈ ([1, 3, 7, 8, 15, 19, 25, 26, 27, 31, 32] : List Nat) → z199 k = z0 k := fun k hk => (hzf k (s_sub (by decide) hk)).trans (hz0 k hk)
      have hfr : ∀ b, K b ∉ [9, 62, 64] → F194 b = F b := fun b hb9 => (hfr1 b (fun q => hb9 (s_sub (by decide) q))).trans (hfr b hb9)
      obtain ⟨v204, ev204⟩ : ∃ y : Int32, y = z199 5 := ⟨_, rfl⟩
      have h196 : ((v36.toInt = 0 ∨ ¬ v204.toInt = 0) ∧ (v204.toInt = 0 → 0 ≤ r193.toInt ∧ r193.toInt ≤ 63)) := by have q9 := h196; rw [y_fiZ oY58 (k := 5) (by decide), ← ep192_5, y_fiZ oY201 (k := 5) (by decide), ← ev204] at q9; exact q9
      refine lv_istore_n (lv' := [(3, .int r193), (2, .int r38), (0, .ref a0), (1, .int w9)]) hx hb dX7_statementTold_41 rfl hl (by decide) rfl (fun ls hl => ?_)
      refine lv_aload_n hx hb dX7_statementTold_42 rfl (lv_at hl 2 rfl) ?_
      refine lv_iconst (v := 0) hx hb dX7_statementTold_43 (by decide) ?_
      refine lv_sipush (v := 999) hx hb dX7_statementTold_44 (by decide) ?_
      have ep205_5 := ev204
      refine va_calli (va_runV (As := [.int 0, .int 999]) (rest := []) ⟨hx, hb, hml, hown, hts⟩ (y_X7_number l dC dI H.size hLK A hA F194 a0 0 999 ha0 hI) (cwV 2 hts (ax_gV T_300 T_301 T_302 T_265 T_30) rfl rfl rfl (by decide +kernel) ⟨Nat.le_of_ble_eq_true rfl, Nat.le_of_ble_eq_true rfl⟩) ⟨fun a U g mk q => ⟨q.1, s_pc rfl rfl q.2⟩, s_recv hK hP (hLK _ ha0 (by decide)) (ci := 7) rfl oY201, fun U hU hW => ⟨rfl, s_pw hU hW hP hK hD hN⟩⟩ rfl rfl hl.1 rfl (lv_room (Nat.le_of_ble_eq_true rfl)) dX7_statementTold_47 ⟨Nat.zero_le _, Nat.zero_le _⟩) hS (fun q _ h => h) (fun q h => h) (fun r206 F207 t H1 locs ht hvm hw hB hz1 hk1 hS => ?_)
      obtain ⟨hP, hK1⟩ := hB
      rw [ht] at hP
      generalize H1 = H at hP hS ⊢
      obtain ⟨h208, h210, hI, hfr1, hzf, h209⟩ := hw
      have o211 : F207 (A 12) = .inl (cs 0, 400, .inl f33) := (hfr1 _ (by rw [(y_k12 hA)]; decide)).trans o198
      obtain ⟨z212, q213, oY214, bz215, bq216⟩ := y_opY hI ha0
      have hzf : ∀ k, k ∈ ([1, 3, 7, 8, 11, 15, 16, 19, 25, 26, 27, 31, 32] : List Nat) → z212 k = z199 k := fun k hk => by have q9 := hzf k hk; rw [y_fiZ oY214 (s_sub (by decide) hk), y_fiZ oY201 (s_sub (by decide) hk)] at q9; exact q9
      have hz0 : ∀ k, k ∈ ([1, 3, 7, 8, 15, 19, 25, 26, 27, 31, 32] : List Nat) → z212 k = z0 k := fun k hk => (hzf k (s_sub (by decide) hk)).trans (hz0 k hk)
      have hfr : ∀ b, K b ∉ [9, 62, 64] → F207 b = F b := fun b hb9 => (hfr1 b (fun q => hb9 (s_sub (by decide) q))).trans (hfr b hb9)
      obtain ⟨v217, ev217⟩ : ∃ y : Int32, y = z212 5 := ⟨_, rfl⟩
      have h209 : ((v204.toInt = 0 ∨ ¬ v217.toInt = 0) ∧ (v217.toInt = 0 → 0 ≤ r206.toInt ∧ r206.toInt ≤ 999)) := by have q9 := h209; rw [y_fiZ oY201 (k := 5) (by decide), ← ep205_5, y_fiZ oY214 (k := 5) (by decide), ← ev217] at q9; exact q9
      refine lv_istore (lv' := [(4, .int r206), (3, .int r193), (2, .int r38), (0, .ref a0), (1, .int w9)]) hx hb dX7_statementTold_50 hl (by decide) rfl (fun ls hl => ?_)
      refine lv_aload_n hx hb dX7_statementTold_52 rfl (lv_at hl 3 rfl) ?_
      refine th_get (D := (dC, dI)) (ci := 7) (v := .int (z212 5)) (C := RX7) (T := TX7) (N := 34) hx hb hts inX7 hown hK hP (hLK _ ha0 (by decide)) oY214 rfl 5 (by decide) (hts _ T_274) (fun _ h9 => h9) rfl dX7_statementTold_53 ?_
      refine ax_eqi (y := v217) ev217.symm ?_
      refine lv_if_ne (tgt := 71) hx hb dX7_statementTold_56 (by decide) (fun c218 => ?_) (fun c218 => ?_)
      · have c218 := mt (ax_eq (n := 0) (by decide)).mpr c218
        refine lv_goto (tgt := 214) hx hb dX7_statementTold_71 (by decide) ?_
        exact K214 _ _ _ ⟨F207, _, rfl, lv_sub hl [3] rfl, hP, hS, hI, hfr, (fun k hk => (y_fiZ oY214 (s_sub (by decide) hk)).trans (hz0 k hk)), (by rw [y_fiZ oY214 (k := 5) (by decide), ← ev217, y_atE o211]; exact (fun hd hg => (by rw [h25]; exact hd (by omega)))), (by first | (rw [y_fiZ oY214 (k := 5) (by decide), ← ev217]; omega) | rw [y_fiZ oY214 (k := 5) (by decide), ← ev217])⟩
      · have c218 := (ax_eq (n := 0) (by decide)).mp c218
        refine lv_aload_n hx hb dX7_statementTold_59 rfl (lv_at hl 3 rfl) ?_
        refine th_get (D := (dC, dI)) (ci := 7) (v := .ref (A 12)) (C := RX7) (T := TX7) (N := 34) hx hb hts inX7 hown hK hP (hLK _ ha0 (by decide)) oY214 rfl 12 (by decide) (hts _ T_245) (fun _ h9 => h9) rfl dX7_statementTold_60 ?_
        refine lv_sipush (v := 320) hx hb dX7_statementTold_63 (by decide) ?_
        refine lv_iload_n hx hb dX7_statementTold_66 rfl (lv_at hl 1 rfl) ?_
        have h219 : 0 ≤ r193.toInt ∧ r193.toInt ≤ 63 := ⟨by omega, by omega⟩
        refine lv_iadd hx hb dX7_statementTold_67 ?_
        refine lv_topi (fun v220 ev220 => ?_)
        have qv220 : v220.toInt = 320 + r193.toInt := by rw [ev220]; exact th_add (by decide) rfl ⟨by omega, by omega⟩
        refine lv_iload hx hb dX7_statementTold_68 (lv_at hl 0 rfl) ?_
        refine th_iast hx hb hK hP hD hS (hLK _ (y_k12 hA) (by decide)) 0 o211 rfl (th_in ⟨by omega, by omega⟩) dX7_statementTold_70 (fun H locs hP hS => ?_)
        obtain ⟨f221, u222⟩ : ∃ g : Nat → Int32, g = upd f33 (v220 : Int32).toNatClampNeg r206 := ⟨_, rfl⟩
        rw [← u222] at hP
        have b223 : y_bd 12 f221 := by rw [u222]; exact th_updJ (P := fun y => 0 ≤ y.toInt ∧ y.toInt ≤ 40) b35 (fun q => by have q2 := th_tn (by omega) q; omega)
        have hP : va_P (dC, dI) vwCl (va_pl L (va_up F207 (A 12) (.inl (cs 0, 400, .inl f221)))) H := hP
        obtain ⟨F224, hF225⟩ : ∃ G : Nat → va_E, G = va_up F207 (A 12) (.inl (cs 0, 400, .inl f221)) := ⟨_, rfl⟩
        rw [← hF225] at hP
        have hI : y_I K cs A F224 := by rw [hF225]; exact y_clA (i := 12) hA hI (by decide) b223
        have hfr : ∀ b, K b ∉ [9, 62, 64] → F224 b = F b := by rw [hF225]; exact s_fr hfr (y_k12 hA) (by decide)
        have oY226 : F224 a0 = .inr (7, y_fl A z212 q213) := by rw [hF225]; exact th_ne (th_kd ha0 (y_k12 hA) (by decide)) oY214
        have o227 : F224 (A 12) = .inl (cs 0, 400, .inl f221) := by rw [hF225]; exact th_up
        have u228 : ∀ j : Int, 0 ≤ j → y_c f221 j = if j = v220.toInt then r206 else y_c f33 j := by rw [u222]; exact y_cu rfl (by omega)
        refine lv_goto (tgt := 214) hx hb dX7_statementTold_71 (by decide) ?_
        exact K214 _ _ _ ⟨F224, _, rfl, lv_sub hl [3] rfl, hP, hS, hI, hfr, (fun k hk => (y_fiZ oY226 (s_sub (by decide) hk)).trans (hz0 k hk)), (by rw [y_fiZ oY226 (k := 5) (by decide), ← ev217, y_atE o227]; exact (fun hd hg => y_DSC (fun j h0 h1 => by rw [u228 j h0, if_neg (by omega)]) (by rw [h25]; omega) (by rw [h25]; exact hd (by omega)))), (by first | (rw [y_fiZ oY226 (k := 5) (by decide), ← ev217]; omega) | rw [y_fiZ oY226 (k := 5) (by decide), ← ev217])⟩
  · intro g H locs hq
    obtain ⟨F233, ls, w7, w8, rfl, hl, hP, hS, hI, hfr, hz0, h229, h230, h231, h232⟩ := hq
    obtain ⟨z234, q235, oY236, bz237, bq238⟩ := y_opY hI ha0
    have hz0 : ∀ k, k ∈ ([1, 3, 7, 8, 15, 19, 25, 26, 27, 31, 32] : List Nat) → z234 k = z0 k := fun k hk => (y_fiZ oY236 (s_sub (by decide) hk)).symm.trans (hz0 k hk)
    obtain ⟨f239, o240, b241⟩ := y_op12 hI
    have h231 : f239 = f1 := by have q9 := h231; rw [y_atE o240] at q9; exact q9
    obtain ⟨v242, ev242⟩ : ∃ y : Int32, y = z234 5 := ⟨_, rfl⟩
    have h232 : ((v4.toInt = 0 ∨ ¬ v242.toInt = 0) ∧ (v5.toInt = 80 → ¬ v242.toInt = 0)) := by have q9 := h232; rw [y_fiZ oY236 (k := 5) (by decide), ← ev242] at q9; exact q9
    refine lv_aload_n hx hb dX7_statementTold_190 rfl (lv_at hl 0 rfl) ?_
    refine lv_iload_n hx hb dX7_statementTold_191 rfl (lv_at hl 1 rfl) ?_
    refine lv_iload_n hx hb dX7_statementTold_192 rfl (lv_at hl 2 rfl) ?_
    refine lv_iconst (v := (-1)) hx hb dX7_statementTold_193 (by decide) ?_
    refine lv_icmp_ne (tgt := 201) hx hb dX7_statementTold_194 (by decide) (fun c243 => ?_) (fun c243 => ?_)
    · have c243 := mt (ax_eq (n := (-1)) (by decide)).mpr c243
      refine lv_iconst (v := 0) hx hb dX7_statementTold_201 (by decide) ?_
      have ep244_5 := ev242
      refine va_callv (va_runV (As := [.int w7, .int 0]) (rest := []) ⟨hx, hb, hml, hown, hts⟩ (y_X7_lineBegins l dC dI H.size hLK A hA F233 a0 w7 0 ha0 (by decide) hI) (cwV 2 hts (ax_gV T_1311 T_1313 T_1314 T_265 T_1312) rfl rfl rfl (by decide +kernel) ⟨Nat.le_of_ble_eq_true rfl, Nat.le_of_ble_eq_true rfl⟩) ⟨fun a U g mk q => ⟨q.1, s_pc rfl rfl q.2⟩, s_recv hK hP (hLK _ ha0 (by decide)) (ci := 7) rfl oY236, fun U hU hW => ⟨rfl, s_pw hU hW hP hK hD hN⟩⟩ rfl rfl hl.1 rfl (lv_room (Nat.le_of_ble_eq_true rfl)) dX7_statementTold_202 ⟨Nat.zero_le _, Nat.zero_le _⟩) hS (fun q _ h => h) (fun q h => h) (fun F245 t H1 locs ht hvm hw hB hz1 hk1 hS => ?_)
      obtain ⟨hP, hK1⟩ := hB
      rw [ht] at hP
      generalize H1 = H at hP hS ⊢
      obtain ⟨h246, h248, hI, hfr1, hzf, h247⟩ := hw
      obtain ⟨z249, q250, oY251, bz252, bq253⟩ := y_opY hI ha0
      have hzf : ∀ k, k ∈ ([1, 3, 7, 8, 15, 16, 19, 25, 26, 27, 31, 32] : List Nat) → z249 k = z234 k := fun k hk => by have q9 := hzf k hk; rw [y_fiZ oY251 (s_sub (by decide) hk), y_fiZ oY236 (s_sub (by decide) hk)] at q9; exact q9
      have hz0 : ∀ k, k ∈ ([1, 3, 7, 8, 15, 19, 25, 26, 27, 31, 32] : List Nat) → z249 k = z0 k := fun k hk => (hzf k (s_sub (by decide) hk)).trans (hz0 k hk)
      have hfr : ∀ b, K b ∉ [9, 62, 64] → F245 b = F b := fun b hb9 => (hfr1 b (fun q => hb9 (s_sub (by decide) q))).trans (hfr b hb9)
      obtain ⟨v254, ev254⟩ : ∃ y : Int32, y = z249 5 := ⟨_, rfl⟩
      obtain ⟨f255, o256, b257⟩ := y_op12 hI
      have h247 : ((v242.toInt = 0 ∨ ¬ v254.toInt = 0) ∧ ((v242.toInt = 0 → y_DS f239) → v254.toInt = 0 → y_DS f255)) := by have q9 := h247; rw [y_fiZ oY236 (k := 5) (by decide), ← ep244_5, y_fiZ oY251 (k := 5) (by decide), ← ev254, y_atE o240, y_atE o256] at q9; exact q9
      refine lv_goto (tgt := 214) hx hb dX7_statementTold_205 (by decide) ?_
      exact K214 _ _ _ ⟨F245, _, rfl, lv_sub hl [0] rfl, hP, hS, hI, hfr, (fun k hk => (y_fiZ oY251 (s_sub (by decide) hk)).trans (hz0 k hk)), (by rw [y_fiZ oY251 (k := 5) (by decide), ← ev254, y_atE o256]; exact (fun hd hg => h247.2 (fun hb => (by rw [h231]; exact hd (by omega))) hg)), (by first | (rw [y_fiZ oY251 (k := 5) (by decide), ← ev254]; omega) | rw [y_fiZ oY251 (k := 5) (by decide), ← ev254])⟩
    · have c243 := (ax_eq (n := (-1)) (by decide)).mp c243
      refine lv_iconst (v := 1) hx hb dX7_statementTold_197 (by decide) ?_
      refine lv_goto (tgt := 202) hx hb dX7_statementTold_198 (by decide) ?_
      have ep258_5 := ev242
      refine va_callv (va_runV (As := [.int w7, .int 1]) (rest := []) ⟨hx, hb, hml, hown, hts⟩ (y_X7_lineBegins l dC dI H.size hLK A hA F233 a0 w7 1 ha0 (by decide) hI) (cwV 2 hts (ax_gV T_1311 T_1313 T_1314 T_265 T_1312) rfl rfl rfl (by decide +kernel) ⟨Nat.le_of_ble_eq_true rfl, Nat.le_of_ble_eq_true rfl⟩) ⟨fun a U g mk q => ⟨q.1, s_pc rfl rfl q.2⟩, s_recv hK hP (hLK _ ha0 (by decide)) (ci := 7) rfl oY236, fun U hU hW => ⟨rfl, s_pw hU hW hP hK hD hN⟩⟩ rfl rfl hl.1 rfl (lv_room (Nat.le_of_ble_eq_true rfl)) dX7_statementTold_202 ⟨Nat.zero_le _, Nat.zero_le _⟩) hS (fun q _ h => h) (fun q h => h) (fun F259 t H1 locs ht hvm hw hB hz1 hk1 hS => ?_)
      obtain ⟨hP, hK1⟩ := hB
      rw [ht] at hP
      generalize H1 = H at hP hS ⊢
      obtain ⟨h260, h262, hI, hfr1, hzf, h261⟩ := hw
      obtain ⟨z263, q264, oY265, bz266, bq267⟩ := y_opY hI ha0
      have hzf : ∀ k, k ∈ ([1, 3, 7, 8, 15, 16, 19, 25, 26, 27, 31, 32] : List Nat) → z263 k = z234 k := fun k hk => by have q9 := hzf k hk; rw [y_fiZ oY265 (s_sub (by decide) hk), y_fiZ oY236 (s_sub (by decide) hk)] at q9; exact q9
      have hz0 : ∀ k, k ∈ ([1, 3, 7, 8, 15, 19, 25, 26, 27, 31, 32] : List Nat) → z263 k = z0 k := fun k hk => (hzf k (s_sub (by decide) hk)).trans (hz0 k hk)
      have hfr : ∀ b, K b ∉ [9, 62, 64] → F259 b = F b := fun b hb9 => (hfr1 b (fun q => hb9 (s_sub (by decide) q))).trans (hfr b hb9)
      obtain ⟨v268, ev268⟩ : ∃ y : Int32, y = z263 5 := ⟨_, rfl⟩
      obtain ⟨f269, o270, b271⟩ := y_op12 hI
      have h261 : ((v242.toInt = 0 ∨ ¬ v268.toInt = 0) ∧ ((v242.toInt = 0 → y_DS f239) → v268.toInt = 0 → y_DS f269)) := by have q9 := h261; rw [y_fiZ oY236 (k := 5) (by decide), ← ep258_5, y_fiZ oY265 (k := 5) (by decide), ← ev268, y_atE o240, y_atE o270] at q9; exact q9
      refine lv_goto (tgt := 214) hx hb dX7_statementTold_205 (by decide) ?_
      exact K214 _ _ _ ⟨F259, _, rfl, lv_sub hl [0] rfl, hP, hS, hI, hfr, (fun k hk => (y_fiZ oY265 (s_sub (by decide) hk)).trans (hz0 k hk)), (by rw [y_fiZ oY265 (k := 5) (by decide), ← ev268, y_atE o270]; exact (fun hd hg => h261.2 (fun hb => (by rw [h231]; exact hd (by omega))) hg)), (by first | (rw [y_fiZ oY265 (k := 5) (by decide), ← ev268]; omega) | rw [y_fiZ oY265 (k := 5) (by decide), ← ev268])⟩
  · intro g H locs hq
    obtain ⟨F275, ls, w6, rfl, hl, hP, hS, hI, hfr, hz0, h272, h273, h274⟩ := hq
    obtain ⟨z276, q277, oY278, bz279, bq280⟩ := y_opY hI ha0
    have hz0 : ∀ k, k ∈ ([1, 3, 7, 8, 15, 19, 25, 26, 27, 31, 32] : List Nat) → z276 k = z0 k := fun k hk => (y_fiZ oY278 (s_sub (by decide) hk)).symm.trans (hz0 k hk)
    obtain ⟨f281, o282, b283⟩ := y_op12 hI
    have h273 : f281 = f1 := by have q9 := h273; rw [y_atE o282] at q9; exact q9
    obtain ⟨v284, ev284⟩ : ∃ y : Int32, y = z276 5 := ⟨_, rfl⟩
    have h274 : ((v4.toInt = 0 ∨ ¬ v284.toInt = 0) ∧ (v5.toInt = 80 → ¬ v284.toInt = 0)) := by have q9 := h274; rw [y_fiZ oY278 (k := 5) (by decide), ← ev284] at q9; exact q9
    refine lv_aload_n hx hb dX7_statementTold_208 rfl (lv_at hl 0 rfl) ?_
    refine lv_iconst (v := 1) hx hb dX7_statementTold_209 (by decide) ?_
    refine lv_iload_n hx hb dX7_statementTold_210 rfl (lv_at hl 1 rfl) ?_
    refine va_callv (va_runV (As := [.int 1, .int w6]) (rest := []) ⟨hx, hb, hml, hown, hts⟩ (y_X7_fail l dC dI H.size hLK A hA F275 a0 1 w6 ha0 (by decide) hI) (cwV 2 hts (ax_gV T_290 T_291 T_292 T_265 T_27) rfl rfl rfl (by decide +kernel) ⟨Nat.le_of_ble_eq_true rfl, Nat.le_of_ble_eq_true rfl⟩) ⟨fun a U g mk q => ⟨q.1, s_pc rfl rfl q.2⟩, s_recv hK hP (hLK _ ha0 (by decide)) (ci := 7) rfl oY278, fun U hU hW => ⟨rfl, s_pw hU hW hP hK hD hN⟩⟩ rfl rfl hl.1 rfl (lv_room (Nat.le_of_ble_eq_true rfl)) dX7_statementTold_211 ⟨Nat.zero_le _, Nat.zero_le _⟩) hS (fun q _ h => h) (fun q h => h) (fun F286 t H1 locs ht hvm hw hB hz1 hk1 hS => ?_)
    obtain ⟨hP, hK1⟩ := hB
    rw [ht] at hP
    generalize H1 = H at hP hS ⊢
    obtain ⟨h287, h289, hI, hfr1, hzf, h288⟩ := hw
    have o290 : F286 (A 12) = .inl (cs 0, 400, .inl f281) := (hfr1 _ (by rw [(y_k12 hA)]; decide)).trans o282
    obtain ⟨z291, q292, oY293, bz294, bq295⟩ := y_opY hI ha0
    have hzf : ∀ k, k ∈ ([1, 2, 3, 4, 7, 8, 11, 15, 16, 19, 25, 26, 27, 31, 32] : List Nat) → z291 k = z276 k := fun k hk => by have q9 := hzf k hk; rw [y_fiZ oY293 (s_sub (by decide) hk), y_fiZ oY278 (s_sub (by decide) hk)] at q9; exact q9
    have hz0 : ∀ k, k ∈ ([1, 3, 7, 8, 15, 19, 25, 26, 27, 31, 32] : List Nat) → z291 k = z0 k := fun k hk => (hzf k (s_sub (by decide) hk)).trans (hz0 k hk)
    have hfr : ∀ b, K b ∉ [9, 62, 64] → F286 b = F b := fun b hb9 => (hfr1 b (fun q => hb9 (s_sub (by decide) q))).trans (hfr b hb9)
    obtain ⟨v296, ev296⟩ : ∃ y : Int32, y = z291 5 := ⟨_, rfl⟩
    have h288 : (¬ v296.toInt = 0) := by have q9 := h288; rw [y_fiZ oY293 (k := 5) (by decide), ← ev296] at q9; exact q9
    exact K214 _ _ _ ⟨F286, _, rfl, lv_sub hl [0] rfl, hP, hS, hI, hfr, (fun k hk => (y_fiZ oY293 (s_sub (by decide) hk)).trans (hz0 k hk)), (by rw [y_fiZ oY293 (k := 5) (by decide), ← ev296, y_atE o290]; exact (fun hd hg => (by rw [h273]; exact hd (by omega)))), (by first | (rw [y_fiZ oY293 (k := 5) (by decide), ← ev296]; omega) | rw [y_fiZ oY293 (k := 5) (by decide), ← ev296])⟩
  · intro g H locs hq
    obtain ⟨F299, ls, rfl, hl, hP, hS, hI, hfr, hz0, h297, h298⟩ := hq
    obtain ⟨z300, q301, oY302, bz303, bq304⟩ := y_opY hI ha0
    have hz0 : ∀ k, k ∈ ([1, 3, 7, 8, 15, 19, 25, 26, 27, 31, 32] : List Nat) → z300 k = z0 k := fun k hk => (y_fiZ oY302 (s_sub (by decide) hk)).symm.trans (hz0 k hk)
    obtain ⟨v305, ev305⟩ : ∃ y : Int32, y = z300 5 := ⟨_, rfl⟩
    obtain ⟨f306, o307, b308⟩ := y_op12 hI
    have h297 : ((v4.toInt = 0 → y_DS f1) → v305.toInt = 0 → y_DS f306) := by have q9 := h297; rw [y_fiZ oY302 (k := 5) (by decide), ← ev305, y_atE o307] at q9; exact q9
    have h298 : ((v4.toInt = 0 ∨ ¬ v305.toInt = 0) ∧ (v5.toInt = 80 → ¬ v305.toInt = 0)) := by have q9 := h298; rw [y_fiZ oY302 (k := 5) (by decide), ← ev305] at q9; exact q9
    refine lv_aload_n hx hb dX7_statementTold_214 rfl (lv_at hl 0 rfl) ?_
    refine lv_bipush (v := 59) hx hb dX7_statementTold_215 (by decide) ?_
    have ep309_5 := ev305
    refine va_callv (va_runV (As := [.int 59]) (rest := []) ⟨hx, hb, hml, hown, hts⟩ (y_X7_asksSign l dC dI H.size hLK A hA F299 a0 59 ha0 (by decide) hI) (cwV 1 hts (ax_gV T_303 T_304 T_305 T_265 T_31) rfl rfl rfl (by decide +kernel) ⟨Nat.le_of_ble_eq_true rfl, Nat.le_of_ble_eq_true rfl⟩) ⟨fun a U g mk q => ⟨q.1, s_pc rfl rfl q.2⟩, s_recv hK hP (hLK _ ha0 (by decide)) (ci := 7) rfl oY302, fun U hU hW => ⟨rfl, s_pw hU hW hP hK hD hN⟩⟩ rfl rfl hl.1 rfl (lv_room (Nat.le_of_ble_eq_true rfl)) dX7_statementTold_217 ⟨Nat.zero_le _, Nat.zero_le _⟩) hS (fun q _ h => h) (fun q h => h) (fun F310 t H1 locs ht hvm hw hB hz1 hk1 hS => ?_)
    obtain ⟨hP, hK1⟩ := hB
    rw [ht] at hP
    generalize H1 = H at hP hS ⊢
    obtain ⟨h311, h313, hI, hfr1, hzf, h312⟩ := hw
    have o314 : F310 (A 12) = .inl (cs 0, 400, .inl f306) := (hfr1 _ (by rw [(y_k12 hA)]; decide)).trans o307
    obtain ⟨z315, q316, oY317, bz318, bq319⟩ := y_opY hI ha0
    have hzf : ∀ k, k ∈ ([1, 3, 4, 7, 8, 11, 15, 16, 19, 25, 26, 27, 31, 32] : List Nat) → z315 k = z300 k := fun k hk => by have q9 := hzf k hk; rw [y_fiZ oY317 (s_sub (by decide) hk), y_fiZ oY302 (s_sub (by decide) hk)] at q9; exact q9
    have hz0 : ∀ k, k ∈ ([1, 3, 7, 8, 15, 19, 25, 26, 27, 31, 32] : List Nat) → z315 k = z0 k := fun k hk => (hzf k (s_sub (by decide) hk)).trans (hz0 k hk)
    have hfr : ∀ b, K b ∉ [9, 62, 64] → F310 b = F b := fun b hb9 => (hfr1 b (fun q => hb9 (s_sub (by decide) q))).trans (hfr b hb9)
    obtain ⟨v320, ev320⟩ : ∃ y : Int32, y = z315 5 := ⟨_, rfl⟩
    have h312 : (v305.toInt = 0 ∨ ¬ v320.toInt = 0) := by have q9 := h312; rw [y_fiZ oY302 (k := 5) (by decide), ← ep309_5, y_fiZ oY317 (k := 5) (by decide), ← ev320] at q9; exact q9
    refine lv_aload_n hx hb dX7_statementTold_220 rfl (lv_at hl 0 rfl) ?_
    refine lv_dup hx hb dX7_statementTold_221 rfl ?_
    refine th_get (D := (dC, dI)) (ci := 7) (v := .int (z315 16)) (C := RX7) (T := TX7) (N := 34) hx hb hts inX7 hown hK hP (hLK _ ha0 (by decide)) oY317 rfl 16 (by decide) (hts _ T_306) (fun _ h9 => h9) rfl dX7_statementTold_222 ?_
    refine lv_topi (fun v321 ev321 => ?_)
    refine lv_iconst (v := 1) hx hb dX7_statementTold_225 (by decide) ?_
    refine lv_iadd hx hb dX7_statementTold_226 ?_
    refine lv_topi (fun v322 ev322 => ?_)
    refine th_put (D := (dC, dI)) (ci := 7) (v := .int v322) (ty := .int) (C := RX7) (T := TX7) (N := 34) hx hb hts inX7 tyX7 tyX7_ok nmX7 hown hK hP hD hS (hLK _ ha0 (by decide)) oY317 rfl 16 (by decide) (hts _ T_306) (fun _ h9 => h9) rfl (by decide +kernel) rfl rfl (Nat.le_of_ble_eq_true rfl) dX7_statementTold_227 (fun H locs hP hS => ?_)
    rw [y_fs16] at hP
    obtain ⟨z323, hz324⟩ : ∃ g : Nat → Int32, g = upd z315 16 v322 := ⟨_, rfl⟩
    rw [← hz324] at hP
    have bz325 : y_bY z323 := by rw [hz324]; exact y_bp16 bz318
    have hP : va_P (dC, dI) vwCl (va_pl L (va_up F310 a0 (.inr (7, y_fl A z323 q316)))) H := hP
    obtain ⟨F326, hF327⟩ : ∃ G : Nat → va_E, G = va_up F310 a0 (.inr (7, y_fl A z323 q316)) := ⟨_, rfl⟩
    rw [← hF327] at hP
    have hI : y_I K cs A F326 := by rw [hF327]; exact y_clY hA hI ha0 bz325 bq319
    have hfr : ∀ b, K b ∉ [9, 62, 64] → F326 b = F b := by rw [hF327]; exact s_fr hfr ha0 (by decide)
    have o328 : F326 (A 12) = .inl (cs 0, 400, .inl f306) := by rw [hF327]; exact th_ne (th_kd (y_k12 hA) ha0 (by decide)) o314
    have oY329 : F326 a0 = .inr (7, y_fl A z323 q316) := by rw [hF327]; exact th_up
    have hz0 : ∀ k, k ∈ ([1, 3, 7, 8, 15, 19, 25, 26, 27, 31, 32] : List Nat) → z323 k = z0 k := fun k hk => by rw [hz324]; exact (y_un (fun q => absurd hk (by rw [q]; decide))).trans (hz0 k hk)
    have ev320 : v320 = z323 5 := by rw [hz324]; exact ev320.trans (y_un (by decide)).symm
    obtain ⟨v330, ev330⟩ : ∃ y : Int32, y = z323 16 := ⟨_, rfl⟩
    have qv330 : v330.toInt = v322.toInt := by rw [ev330, hz324, y_ue]
    exact W.vret hx hb hr (fun t ht hW => ⟨⟨F326, rfl, ⟨trivial, trivial, hI, hfr, fun k hk => (y_fiZ oY329 (s_sub (by decide) hk)).trans ((hz0 k hk).trans (y_fiZ oY0 (s_sub (by decide) hk)).symm), (by rw [y_fiZ oY0 (k := 5) (by decide), ← eF_5, y_fiZ oY329 (k := 5) (by decide), ← ev320, y_atE o2, y_atE o328, y_fiZ oY329 (k := 16) (by decide), ← ev330, y_fiZ oY0 (k := 16) (by decide), ← eF_16]; exact ⟨by omega, fun hd hg => h297 hd (by omega), by omega, by omega⟩)⟩, by rw [ht]; exact hP, va_K.moved hW.alike hK⟩, hS.F ht⟩) hS.2.2 dX7_statementTold_230
