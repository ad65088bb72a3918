set_option maxHeartbeats 4000000 in
set_option maxRecDepth 100000 in
theorem y_X7_lineBegins (l : Launch) (dC : Nat → ClassId) (dI : Nat → Nat → Nat) (sz : Nat) {L : List Nat} {K : Nat → Nat} {cs : Nat → ClassId} (hLK : ∀ a {k : Nat}, K a = k → k ≠ 0 → a ∈ L) (A : Nat → Nat) (hA : y_A K A) (F : Nat → va_E) (a0 : Nat) (x1 : Int32) (x2 : Int32) (ha0 : K a0 = 9) (hx2 : 0 ≤ x2.toInt ∧ x2.toInt ≤ 1) (hI : y_I K cs A F) : Met l yX7_lineBegins (Cond.code yX7_lineBegins cX7_lineBegins 4 none :: T0) ({ frames := 7, cells := 0, slots := 0, locals := 151 }) (va_Pc [.ref a0, .int x1, .int x2] (s_W dC dI sz L F [(cs 0, .int), (cs 1, .byte), (cs 2, .long), (cs 3, .object RX5), (cs 4, .object RX4), (cs 5, .array .int), (cs 6, .char), (cs 7, .boolean)])) (va_Qv (fun (G : Nat → va_E) => True ∧ True ∧ y_I K cs A G ∧ (∀ b, K b ∉ [9, 62, 64] → G b = F b) ∧ (∀ k, k ∈ ([1, 3, 7, 8, 15, 16, 19, 25, 26, 27, 31, 32] : List Nat) → y_fi G a0 k = y_fi F a0 k) ∧ (((y_fi F a0 5).toInt = 0 ∨ ¬ (y_fi G a0 5).toInt = 0) ∧ (((y_fi F a0 5).toInt = 0 → y_DS (y_at F (A 12))) → (y_fi G a0 5).toInt = 0 → y_DS (y_at G (A 12))))) (fun (G : Nat → va_E) (t : State) => va_P (dC, dI) vwCl (va_pl L G) t.heap ∧ va_K (dC, dI) vwCl [(cs 0, .int), (cs 1, .byte), (cs 2, .long), (cs 3, .object RX5), (cs 4, .object RX4), (cs 5, .array .int), (cs 6, .char), (cs 7, .boolean)] t) (fun q => q ∈ L)) 0 0 (fun q => q ∈ L) := by
  refine Met.ofW (cc := cX7_lineBegins) (maxL := 4) (ret := none) (by decide) rfl ?_
  intro p e s m args below meth c s₁ B hml hv
  obtain ⟨rfl, hsz, hP, hK, hD, hN⟩ := hv
  have hx := B.exec
  have hb := B.bytes
  have hr := B.returns
  have hts : ∀ w ∈ T0, w.before _ s = true := fun w h => atoms_spec (ws := Cond.code yX7_lineBegins cX7_lineBegins 4 none :: T0) B.pre w (List.mem_cons_of_mem _ h)
  have hown : s.vm.findClass RX7 = some m.cls := findClass_of_methodNamed B.named
  have hlocks := B.notSynchronized
  have hS : va_S (fun q => q ∈ L) s.heap s.heap [] := va_S.rf
  have hfr : ∀ b, K b ∉ [9, 62, 64] → F b = F b := fun _ _ => rfl
  have hl := lv_entry ([.ref a0, .int x1, .int x2]) (n := 4) (Nat.le_of_ble_eq_true rfl)
  rw [lg_entry_eq]
  generalize (lg_sl ([.ref a0, .int x1, .int x2]) ++ List.replicate (4 - (lg_sl ([.ref a0, .int x1, .int x2])).length) Slot.unset).toArray = ls at hl ⊢
  have hl : lv_has ls 4 [(0, .ref a0), (1, .int x1), (2, .int x2)] := hl
  refine s_gen hP hS (fun H locs hP hS => ?_)
  obtain ⟨z0, q0, oY0, bz0, bq0⟩ := y_opY hI ha0
  have hz0 : ∀ k, k ∈ ([1, 3, 7, 8, 15, 16, 19, 25, 26, 27, 31, 32] : List Nat) → z0 k = z0 k := fun _ _ => rfl
  obtain ⟨f1, o2, b3⟩ := y_op12 hI
  obtain ⟨v4, ev4⟩ : ∃ y : Int32, y = z0 5 := ⟨_, rfl⟩
  have eF_5 := ev4
  have hnb : 0 ≤ (y_c f1 387).toInt ∧ (y_c f1 387).toInt ≤ 40 := b3
  have e0_v4 := ev4
  refine th_join (fun g H locs => ∃ (G : Nat → va_E) (ls : Array Slot) (w5 : Int32), g = F0 m 56 ls [] ∧ lv_has ls 4 [(0, .ref a0), (3, .int w5)] ∧ va_P (dC, dI) vwCl (va_pl L G) H ∧ va_S (fun q => q ∈ L) s.heap H locs ∧ y_I K cs A G ∧ (∀ b, K b ∉ [9, 62, 64] → G b = F b) ∧ (∀ k, k ∈ ([1, 3, 7, 8, 15, 16, 19, 25, 26, 27, 31, 32] : List Nat) → y_fi G a0 k = z0 k) ∧ True ∧ (y_at G (A 12)) = f1 ∧ ((v4.toInt = 0 ∨ ¬ (y_fi G a0 5).toInt = 0) ∧ ((y_fi G a0 5).toInt = 0 → (y_c f1 387).toInt ≤ 39))) (fun K56 => ?_) ?_
  refine th_join (fun g H locs => ∃ (G : Nat → va_E) (ls : Array Slot) (w6 : Int32), g = F0 m 50 ls [] ∧ lv_has ls 4 [(0, .ref a0), (3, .int w6)] ∧ va_P (dC, dI) vwCl (va_pl L G) H ∧ va_S (fun q => q ∈ L) s.heap H locs ∧ y_I K cs A G ∧ (∀ b, K b ∉ [9, 62, 64] → G b = F b) ∧ (∀ k, k ∈ ([1, 3, 7, 8, 15, 16, 19, 25, 26, 27, 31, 32] : List Nat) → y_fi G a0 k = z0 k) ∧ True ∧ (y_at G (A 12)) = f1 ∧ ((v4.toInt = 0 ∨ ¬ (y_fi G a0 5).toInt = 0) ∧ ((y_fi G a0 5).toInt = 0 → (y_c f1 387).toInt ≤ 39))) (fun K50 => ?_) ?_
  refine th_join (fun g H locs => ∃ (G : Nat → va_E) (ls : Array Slot) (w7 : Int32), g = F0 m 17 ls [] ∧ lv_has ls 4 [(0, .ref a0), (2, .int x2), (3, .int w7)] ∧ va_P (dC, dI) vwCl (va_pl L G) H ∧ va_S (fun q => q ∈ L) s.heap H locs ∧ y_I K cs A G ∧ (∀ b, K b ∉ [9, 62, 64] → G b = F b) ∧ (∀ k, k ∈ ([1, 3, 7, 8, 15, 16, 19, 25, 26, 27, 31, 32] : List Nat) → y_fi G a0 k = z0 k) ∧ (0 ≤ w7.toInt ∧ w7.toInt ≤ 0) ∧ (0 ≤ x2.toInt ∧ x2.toInt ≤ 1) ∧ (y_at G (A 12)) = f1 ∧ ((v4.toInt = 0 ∨ ¬ (y_fi G a0 5).toInt = 0) ∧ ((y_fi G a0 5).toInt = 0 → (y_c f1 387).toInt ≤ 39))) (fun K17 => ?_) ?_
  · refine lv_iconst (v := 0) hx hb dX7_lineBegins_0 (by decide) ?_
    refine lv_istore_n (lv' := [(3, .int 0), (0, .ref a0), (1, .int x1), (2, .int x2)]) hx hb dX7_lineBegins_1 rfl hl (by decide) rfl (fun ls hl => ?_)
    refine lv_aload_n hx hb dX7_lineBegins_2 rfl (lv_at hl 1 rfl) ?_
    refine va_calli (va_runV (As := []) (rest := []) ⟨hx, hb, hml, hown, hts⟩ (y_X7_drafted l dC dI H.size hLK A hA F a0 ha0 hI) (cwV 0 hts (ax_gV T_293 T_294 T_295 T_265 T_28) rfl rfl rfl (by decide +kernel) ⟨Nat.le_of_ble_eq_true rfl, Nat.le_of_ble_eq_true rfl⟩) ⟨fun a U g mk q => ⟨q.1, s_pc (U := U) rfl rfl q.2⟩, s_recv hK hP (hLK _ ha0 (by decide)) (ci := 7) rfl oY0, fun U hU hW => ⟨rfl, s_pw hU hW hP hK hD hN⟩⟩ rfl rfl hl.1 rfl (lv_room (Nat.le_of_ble_eq_true rfl)) dX7_lineBegins_3 ⟨Nat.zero_le _, Nat.zero_le _⟩) hS (fun q _ h => h) (fun q h => h) (fun r9 F10 t H1 locs ht hvm hw hB hz1 hk1 hS => ?_)
    obtain ⟨hP, hK1⟩ := hB
    rw [ht] at hP
    generalize H1 = H at hP hS ⊢
    clear hz1 hk1 hvm hK1
    obtain ⟨h11, h13, hI, hfr1, hzf, h12⟩ := hw
    have o14 : F10 (A 12) = .inl (cs 0, 400, .inl f1) := (hfr1 _ (by rw [(y_k12 hA)]; decide)).trans o2
    have oY15 : F10 a0 = .inr (7, y_fl A z0 q0) := (hfr1 _ (by rw [ha0]; decide)).trans oY0
    have hfr : ∀ b, K b ∉ [9, 62, 64] → F10 b = F b := fun b hb9 => (hfr1 b (fun q => hb9 (s_sub (by decide) q))).trans (hfr b hb9)
    replace h12 : (r9 = y_c f1 387) := by have q9 := h12; rw [y_atE o2] at q9; exact q9
    have h16 := congrArg Int32.toInt h12
    refine lv_bipush (v := 40) hx hb dX7_lineBegins_6 (by decide) ?_
    refine lv_icmp_ne (tgt := 17) hx hb dX7_lineBegins_8 (by decide) (fun c17 => ?_) (fun c17 => ?_)
    · have c17 := mt (ax_eq (n := 40) (by decide)).mpr c17
      have h18 : (0 : Int32).toInt = 0 := by decide
      exact K17 _ _ _ ⟨F10, _, 0, rfl, lv_sub hl [1, 3, 0] rfl, hP, hS, hI, hfr, (fun k hk => (y_fiZ oY15 (s_sub (by decide) hk)).trans (hz0 k hk)), (by decide), ⟨by omega, by omega⟩, (by first | (rw [y_atE o14]; exact rfl) | rw [y_atE o14]), (by first | (rw [y_fiZ oY15 (k := 5) (by decide), ← ev4]; omega) | rw [y_fiZ oY15 (k := 5) (by decide), ← ev4])⟩
    · have c17 := (ax_eq (n := 40) (by decide)).mp c17
      refine lv_aload_n hx hb dX7_lineBegins_11 rfl (lv_at hl 1 rfl) ?_
      refine lv_iconst (v := 5) hx hb dX7_lineBegins_12 (by decide) ?_
      refine lv_iload_n hx hb dX7_lineBegins_13 rfl (lv_at hl 2 rfl) ?_
      refine va_callv (va_runV (As := [.int 5, .int x1]) (rest := []) ⟨hx, hb, hml, hown, hts⟩ (y_X7_fail l dC dI H.size hLK A hA F10 a0 5 x1 ha0 (by decide) hI) (cwV 2 hts (ax_gV T_290 T_291 T_292 T_265 T_27) rfl rfl rfl (by decide +kernel) ⟨Nat.le_of_ble_eq_true rfl, Nat.le_of_ble_eq_true rfl⟩) ⟨fun a U g mk q => ⟨q.1, s_pc (U := U) rfl rfl q.2⟩, s_recv hK hP (hLK _ ha0 (by decide)) (ci := 7) rfl oY15, fun U hU hW => ⟨rfl, s_pw hU hW hP hK hD hN⟩⟩ rfl rfl hl.1 rfl (lv_room (Nat.le_of_ble_eq_true rfl)) dX7_lineBegins_14 ⟨Nat.zero_le _, Nat.zero_le _⟩) hS (fun q _ h => h) (fun q h => h) (fun F20 t H1 locs ht hvm hw hB hz1 hk1 hS => ?_)
      obtain ⟨hP, hK1⟩ := hB
      rw [ht] at hP
      generalize H1 = H at hP hS ⊢
      clear hz1 hk1 hvm hK1
      obtain ⟨h21, h23, hI, hfr1, hzf, h22⟩ := hw
      have o24 : F20 (A 12) = .inl (cs 0, 400, .inl f1) := (hfr1 _ (by rw [(y_k12 hA)]; decide)).trans o14
      obtain ⟨z25, q26, oY27, bz28, bq29⟩ := y_opY hI ha0
      have hzf : ∀ k, k ∈ ([1, 2, 3, 4, 7, 8, 11, 15, 16, 19, 25, 26, 27, 31, 32] : List Nat) → z25 k = z0 k := fun k hk => by have q9 := hzf k hk; rw [y_fiZ oY27 (s_sub (by decide) hk), y_fiZ oY15 (s_sub (by decide) hk)] at q9; exact q9
      have hz0 : ∀ k, k ∈ ([1, 3, 7, 8, 15, 16, 19, 25, 26, 27, 31, 32] : List Nat) → z25 k = z0 k := fun k hk => (hzf k (s_sub (by decide) hk)).trans (hz0 k hk)
      have hfr : ∀ b, K b ∉ [9, 62, 64] → F20 b = F b := fun b hb9 => (hfr1 b (fun q => hb9 (s_sub (by decide) q))).trans (hfr b hb9)
      obtain ⟨v30, ev30⟩ : ∃ y : Int32, y = z25 5 := ⟨_, rfl⟩
      replace h22 : (¬ v30.toInt = 0) := by have q9 := h22; rw [y_fiZ oY27 (k := 5) (by decide), ← ev30] at q9; exact q9
      have h31 : (0 : Int32).toInt = 0 := by decide
      exact K17 _ _ _ ⟨F20, _, 0, rfl, lv_sub hl [1, 3, 0] rfl, hP, hS, hI, hfr, (fun k hk => (y_fiZ oY27 (s_sub (by decide) hk)).trans (hz0 k hk)), (by decide), ⟨by omega, by omega⟩, (by first | (rw [y_atE o24]; exact rfl) | rw [y_atE o24]), (by first | (rw [y_fiZ oY27 (k := 5) (by decide), ← ev30]; omega) | rw [y_fiZ oY27 (k := 5) (by decide), ← ev30])⟩
  · intro g H locs hq
    obtain ⟨F36, ls, w7, rfl, hl, hP, hS, hI, hfr, hz0, h32, h33, h34, h35⟩ := hq
    obtain ⟨z37, q38, oY39, bz40, bq41⟩ := y_opY hI ha0
    have hz0 : ∀ k, k ∈ ([1, 3, 7, 8, 15, 16, 19, 25, 26, 27, 31, 32] : List Nat) → z37 k = z0 k := fun k hk => (y_fiZ oY39 (s_sub (by decide) hk)).symm.trans (hz0 k hk)
    obtain ⟨f42, o43, b44⟩ := y_op12 hI
    replace h34 : f42 = f1 := by have q9 := h34; rw [y_atE o43] at q9; exact q9
    obtain ⟨v45, ev45⟩ : ∃ y : Int32, y = z37 5 := ⟨_, rfl⟩
    replace h35 : ((v4.toInt = 0 ∨ ¬ v45.toInt = 0) ∧ (v45.toInt = 0 → (y_c f1 387).toInt ≤ 39)) := by have q9 := h35; rw [y_fiZ oY39 (k := 5) (by decide), ← ev45] at q9; exact q9
    refine lv_iload_n hx hb dX7_lineBegins_17 rfl (lv_at hl 1 rfl) ?_
    refine lv_if_eq (tgt := 56) hx hb dX7_lineBegins_18 (by decide) (fun c46 => ?_) (fun c46 => ?_)
    · have c46 := (ax_eq (n := 0) (by decide)).mp c46
      exact K56 _ _ _ ⟨F36, _, w7, rfl, lv_sub hl [0, 2] rfl, hP, hS, hI, hfr, (fun k hk => (y_fiZ oY39 (s_sub (by decide) hk)).trans (hz0 k hk)), trivial, (by rw [y_atE o43]; exact h34), (by first | (rw [y_fiZ oY39 (k := 5) (by decide), ← ev45]; omega) | rw [y_fiZ oY39 (k := 5) (by decide), ← ev45])⟩
    · have c46 := mt (ax_eq (n := 0) (by decide)).mpr c46
      refine lv_aload_n hx hb dX7_lineBegins_21 rfl (lv_at hl 0 rfl) ?_
      have ep47_5 := ev45
      refine va_calli (va_runV (As := []) (rest := []) ⟨hx, hb, hml, hown, hts⟩ (y_X7_name l dC dI H.size hLK A hA F36 a0 ha0 hI) (cwV 0 hts (ax_gV T_1110 T_1112 T_1113 T_265 T_1111) rfl rfl rfl (by decide +kernel) ⟨Nat.le_of_ble_eq_true rfl, Nat.le_of_ble_eq_true rfl⟩) ⟨fun a U g mk q => ⟨q.1, s_pc (U := U) rfl rfl q.2⟩, s_recv hK hP (hLK _ ha0 (by decide)) (ci := 7) rfl oY39, fun U hU hW => ⟨rfl, s_pw hU hW hP hK hD hN⟩⟩ rfl rfl hl.1 rfl (lv_room (Nat.le_of_ble_eq_true rfl)) dX7_lineBegins_22 ⟨Nat.zero_le _, Nat.zero_le _⟩) hS (fun q _ h => h) (fun q h => h) (fun r48 F49 t H1 locs ht hvm hw hB hz1 hk1 hS => ?_)
      obtain ⟨hP, hK1⟩ := hB
      rw [ht] at hP
      generalize H1 = H at hP hS ⊢
      clear hz1 hk1 hvm hK1
      obtain ⟨h50, h52, hI, hfr1, hzf, h51⟩ := hw
      have o53 : F49 (A 12) = .inl (cs 0, 400, .inl f42) := (hfr1 _ (by rw [(y_k12 hA)]; decide)).trans o43
      obtain ⟨z54, q55, oY56, bz57, bq58⟩ := y_opY hI ha0
      have hzf : ∀ k, k ∈ ([1, 3, 7, 8, 15, 16, 19, 25, 26, 27, 31, 32] : List Nat) → z54 k = z37 k := fun k hk => by have q9 := hzf k hk; rw [y_fiZ oY56 (s_sub (by decide) hk), y_fiZ oY39 (s_sub (by decide) hk)] at q9; exact q9
      have hz0 : ∀ k, k ∈ ([1, 3, 7, 8, 15, 16, 19, 25, 26, 27, 31, 32] : List Nat) → z54 k = z0 k := fun k hk => (hzf k (s_sub (by decide) hk)).trans (hz0 k hk)
      have hfr : ∀ b, K b ∉ [9, 62, 64] → F49 b = F b := fun b hb9 => (hfr1 b (fun q => hb9 (s_sub (by decide) q))).trans (hfr b hb9)
      obtain ⟨v59, ev59⟩ : ∃ y : Int32, y = z54 5 := ⟨_, rfl⟩
      replace h51 : (v45.toInt = 0 ∨ ¬ v59.toInt = 0) := by have q9 := h51; rw [y_fiZ oY39 (k := 5) (by decide), ← ep47_5, y_fiZ oY56 (k := 5) (by decide), ← ev59] at q9; exact q9
      refine lv_istore_n (lv' := [(3, .int r48), (0, .ref a0), (2, .int x2)]) hx hb dX7_lineBegins_25 rfl hl (by decide) rfl (fun ls hl => ?_)
      refine lv_aload_n hx hb dX7_lineBegins_26 rfl (lv_at hl 1 rfl) ?_
      refine th_get (D := (dC, dI)) (ci := 7) (v := .int (z54 5)) (C := RX7) (T := TX7) (N := 34) hx hb hts inX7 hown hK hP (hLK _ ha0 (by decide)) oY56 rfl 5 (by decide) (hts _ T_274) (fun _ h9 => h9) rfl dX7_lineBegins_27 ?_
      refine ax_eqi (y := v59) ev59.symm ?_
      refine lv_if_ne (tgt := 50) hx hb dX7_lineBegins_30 (by decide) (fun c60 => ?_) (fun c60 => ?_)
      · have c60 := mt (ax_eq (n := 0) (by decide)).mpr c60
        exact K50 _ _ _ ⟨F49, _, r48, rfl, lv_sub hl [1, 0] rfl, hP, hS, hI, hfr, (fun k hk => (y_fiZ oY56 (s_sub (by decide) hk)).trans (hz0 k hk)), trivial, (by rw [y_atE o53]; exact h34), (by first | (rw [y_fiZ oY56 (k := 5) (by decide), ← ev59]; omega) | rw [y_fiZ oY56 (k := 5) (by decide), ← ev59])⟩
      · have c60 := (ax_eq (n := 0) (by decide)).mp c60
        refine lv_aload_n hx hb dX7_lineBegins_33 rfl (lv_at hl 1 rfl) ?_
        refine lv_iload_n hx hb dX7_lineBegins_34 rfl (lv_at hl 0 rfl) ?_
        refine va_calli (va_runV (As := [.int r48]) (rest := []) ⟨hx, hb, hml, hown, hts⟩ (y_X7_isNamed l dC dI H.size hLK A hA F49 a0 r48 ha0 hI) (cwV 1 hts (ax_gV T_1248 T_1250 T_1251 T_265 T_1249) rfl rfl rfl (by decide +kernel) ⟨Nat.le_of_ble_eq_true rfl, Nat.le_of_ble_eq_true rfl⟩) ⟨fun a U g mk q => ⟨q.1, s_pc (U := U) rfl rfl q.2⟩, s_recv hK hP (hLK _ ha0 (by decide)) (ci := 7) rfl oY56, fun U hU hW => ⟨rfl, s_pw hU hW hP hK hD hN⟩⟩ rfl rfl hl.1 rfl (lv_room (Nat.le_of_ble_eq_true rfl)) dX7_lineBegins_35 ⟨Nat.zero_le _, Nat.zero_le _⟩) hS (fun q _ h => h) (fun q h => h) (fun r62 F63 t H1 locs ht hvm hw hB hz1 hk1 hS => ?_)
        obtain ⟨hP, hK1⟩ := hB
        rw [ht] at hP
        generalize H1 = H at hP hS ⊢
        clear hz1 hk1 hvm hK1
        obtain ⟨h64, h66, hI, hfr1, hzf, h65⟩ := hw
        have o67 : F63 (A 12) = .inl (cs 0, 400, .inl f42) := (hfr1 _ (by rw [(y_k12 hA)]; decide)).trans o53
        have oY68 : F63 a0 = .inr (7, y_fl A z54 q55) := (hfr1 _ (by rw [ha0]; decide)).trans oY56
        have hfr : ∀ b, K b ∉ [9, 62, 64] → F63 b = F b := fun b hb9 => (hfr1 b (fun q => hb9 (s_sub (by decide) q))).trans (hfr b hb9)
        refine lv_if_eq (tgt := 50) hx hb dX7_lineBegins_38 (by decide) (fun c69 => ?_) (fun c69 => ?_)
        · have c69 := (ax_eq (n := 0) (by decide)).mp c69
          exact K50 _ _ _ ⟨F63, _, r48, rfl, lv_sub hl [1, 0] rfl, hP, hS, hI, hfr, (fun k hk => (y_fiZ oY68 (s_sub (by decide) hk)).trans (hz0 k hk)), trivial, (by rw [y_atE o67]; exact h34), (by first | (rw [y_fiZ oY68 (k := 5) (by decide), ← ev59]; omega) | rw [y_fiZ oY68 (k := 5) (by decide), ← ev59])⟩
        · have c69 := mt (ax_eq (n := 0) (by decide)).mpr c69
          refine lv_aload_n hx hb dX7_lineBegins_41 rfl (lv_at hl 1 rfl) ?_
          refine lv_iconst (v := 3) hx hb dX7_lineBegins_42 (by decide) ?_
          refine lv_aload_n hx hb dX7_lineBegins_43 rfl (lv_at hl 1 rfl) ?_
          refine th_get (D := (dC, dI)) (ci := 7) (v := .int (z54 11)) (C := RX7) (T := TX7) (N := 34) hx hb hts inX7 hown hK hP (hLK _ ha0 (by decide)) oY68 rfl 11 (by decide) (hts _ T_1114) (fun _ h9 => h9) rfl dX7_lineBegins_44 ?_
          refine lv_topi (fun v70 ev70 => ?_)
          refine va_callv (va_runV (As := [.int 3, .int v70]) (rest := []) ⟨hx, hb, hml, hown, hts⟩ (y_X7_fail l dC dI H.size hLK A hA F63 a0 3 v70 ha0 (by decide) hI) (cwV 2 hts (ax_gV T_290 T_291 T_292 T_265 T_27) rfl rfl rfl (by decide +kernel) ⟨Nat.le_of_ble_eq_true rfl, Nat.le_of_ble_eq_true rfl⟩) ⟨fun a U g mk q => ⟨q.1, s_pc (U := U) rfl rfl q.2⟩, s_recv hK hP (hLK _ ha0 (by decide)) (ci := 7) rfl oY68, fun U hU hW => ⟨rfl, s_pw hU hW hP hK hD hN⟩⟩ rfl rfl hl.1 rfl (lv_room (Nat.le_of_ble_eq_true rfl)) dX7_lineBegins_47 ⟨Nat.zero_le _, Nat.zero_le _⟩) hS (fun q _ h => h) (fun q h => h) (fun F72 t H1 locs ht hvm hw hB hz1 hk1 hS => ?_)
          obtain ⟨hP, hK1⟩ := hB
          rw [ht] at hP
          generalize H1 = H at hP hS ⊢
          clear hz1 hk1 hvm hK1
          obtain ⟨h73, h75, hI, hfr1, hzf, h74⟩ := hw
          have o76 : F72 (A 12) = .inl (cs 0, 400, .inl f42) := (hfr1 _ (by rw [(y_k12 hA)]; decide)).trans o67
          obtain ⟨z77, q78, oY79, bz80, bq81⟩ := y_opY hI ha0
          have hzf : ∀ k, k ∈ ([1, 2, 3, 4, 7, 8, 11, 15, 16, 19, 25, 26, 27, 31, 32] : List Nat) → z77 k = z54 k := fun k hk => by have q9 := hzf k hk; rw [y_fiZ oY79 (s_sub (by decide) hk), y_fiZ oY68 (s_sub (by decide) hk)] at q9; exact q9
          have hz0 : ∀ k, k ∈ ([1, 3, 7, 8, 15, 16, 19, 25, 26, 27, 31, 32] : List Nat) → z77 k = z0 k := fun k hk => (hzf k (s_sub (by decide) hk)).trans (hz0 k hk)
          have ev70 : v70 = z77 11 := ev70.trans (hzf 11 (by decide)).symm
          have hfr : ∀ b, K b ∉ [9, 62, 64] → F72 b = F b := fun b hb9 => (hfr1 b (fun q => hb9 (s_sub (by decide) q))).trans (hfr b hb9)
          obtain ⟨v82, ev82⟩ : ∃ y : Int32, y = z77 5 := ⟨_, rfl⟩
          replace h74 : (¬ v82.toInt = 0) := by have q9 := h74; rw [y_fiZ oY79 (k := 5) (by decide), ← ev82] at q9; exact q9
          exact K50 _ _ _ ⟨F72, _, r48, rfl, lv_sub hl [1, 0] rfl, hP, hS, hI, hfr, (fun k hk => (y_fiZ oY79 (s_sub (by decide) hk)).trans (hz0 k hk)), trivial, (by rw [y_atE o76]; exact h34), (by first | (rw [y_fiZ oY79 (k := 5) (by decide), ← ev82]; omega) | rw [y_fiZ oY79 (k := 5) (by decide), ← ev82])⟩
  · intro g H locs hq
    obtain ⟨F86, ls, w6, rfl, hl, hP, hS, hI, hfr, hz0, h83, h84, h85⟩ := hq
    obtain ⟨z87, q88, oY89, bz90, bq91⟩ := y_opY hI ha0
    have hz0 : ∀ k, k ∈ ([1, 3, 7, 8, 15, 16, 19, 25, 26, 27, 31, 32] : List Nat) → z87 k = z0 k := fun k hk => (y_fiZ oY89 (s_sub (by decide) hk)).symm.trans (hz0 k hk)
    obtain ⟨f92, o93, b94⟩ := y_op12 hI
    replace h84 : f92 = f1 := by have q9 := h84; rw [y_atE o93] at q9; exact q9
    obtain ⟨v95, ev95⟩ : ∃ y : Int32, y = z87 5 := ⟨_, rfl⟩
    replace h85 : ((v4.toInt = 0 ∨ ¬ v95.toInt = 0) ∧ (v95.toInt = 0 → (y_c f1 387).toInt ≤ 39)) := by have q9 := h85; rw [y_fiZ oY89 (k := 5) (by decide), ← ev95] at q9; exact q9
    refine lv_aload_n hx hb dX7_lineBegins_50 rfl (lv_at hl 0 rfl) ?_
    refine lv_bipush (v := 58) hx hb dX7_lineBegins_51 (by decide) ?_
    have ep96_5 := ev95
    refine va_callv (va_runV (As := [.int 58]) (rest := []) ⟨hx, hb, hml, hown, hts⟩ (y_X7_asksSign l dC dI H.size hLK A hA F86 a0 58 ha0 (by decide) hI) (cwV 1 hts (ax_gV T_303 T_304 T_305 T_265 T_31) rfl rfl rfl (by decide +kernel) ⟨Nat.le_of_ble_eq_true rfl, Nat.le_of_ble_eq_true rfl⟩) ⟨fun a U g mk q => ⟨q.1, s_pc (U := U) rfl rfl q.2⟩, s_recv hK hP (hLK _ ha0 (by decide)) (ci := 7) rfl oY89, fun U hU hW => ⟨rfl, s_pw hU hW hP hK hD hN⟩⟩ rfl rfl hl.1 rfl (lv_room (Nat.le_of_ble_eq_true rfl)) dX7_lineBegins_53 ⟨Nat.zero_le _, Nat.zero_le _⟩) hS (fun q _ h => h) (fun q h => h) (fun F97 t H1 locs ht hvm hw hB hz1 hk1 hS => ?_)
    obtain ⟨hP, hK1⟩ := hB
    rw [ht] at hP
    generalize H1 = H at hP hS ⊢
    clear hz1 hk1 hvm hK1
    obtain ⟨h98, h100, hI, hfr1, hzf, h99⟩ := hw
    have o101 : F97 (A 12) = .inl (cs 0, 400, .inl f92) := (hfr1 _ (by rw [(y_k12 hA)]; decide)).trans o93
    obtain ⟨z102, q103, oY104, bz105, bq106⟩ := y_opY hI ha0
    have hzf : ∀ k, k ∈ ([1, 3, 4, 7, 8, 11, 15, 16, 19, 25, 26, 27, 31, 32] : List Nat) → z102 k = z87 k := fun k hk => by have q9 := hzf k hk; rw [y_fiZ oY104 (s_sub (by decide) hk), y_fiZ oY89 (s_sub (by decide) hk)] at q9; exact q9
    have hz0 : ∀ k, k ∈ ([1, 3, 7, 8, 15, 16, 19, 25, 26, 27, 31, 32] : List Nat) → z102 k = z0 k := fun k hk => (hzf k (s_sub (by decide) hk)).trans (hz0 k hk)
    have hfr : ∀ b, K b ∉ [9, 62, 64] → F97 b = F b := fun b hb9 => (hfr1 b (fun q => hb9 (s_sub (by decide) q))).trans (hfr b hb9)
    obtain ⟨v107, ev107⟩ : ∃ y : Int32, y = z102 5 := ⟨_, rfl⟩
    replace h99 : (v95.toInt = 0 ∨ ¬ v107.toInt = 0) := by have q9 := h99; rw [y_fiZ oY89 (k := 5) (by decide), ← ep96_5, y_fiZ oY104 (k := 5) (by decide), ← ev107] at q9; exact q9
    exact K56 _ _ _ ⟨F97, _, w6, rfl, lv_sub hl [0, 1] rfl, hP, hS, hI, hfr, (fun k hk => (y_fiZ oY104 (s_sub (by decide) hk)).trans (hz0 k hk)), trivial, (by rw [y_atE o101]; exact h84), (by first | (rw [y_fiZ oY104 (k := 5) (by decide), ← ev107]; omega) | rw [y_fiZ oY104 (k := 5) (by decide), ← ev107])⟩
  · intro g H locs hq
    obtain ⟨F111, ls, w5, rfl, hl, hP, hS, hI, hfr, hz0, h108, h109, h110⟩ := hq
    obtain ⟨z112, q113, oY114, bz115, bq116⟩ := y_opY hI ha0
    have hz0 : ∀ k, k ∈ ([1, 3, 7, 8, 15, 16, 19, 25, 26, 27, 31, 32] : List Nat) → z112 k = z0 k := fun k hk => (y_fiZ oY114 (s_sub (by decide) hk)).symm.trans (hz0 k hk)
    obtain ⟨f117, o118, b119⟩ := y_op12 hI
    replace h109 : f117 = f1 := by have q9 := h109; rw [y_atE o118] at q9; exact q9
    obtain ⟨v120, ev120⟩ : ∃ y : Int32, y = z112 5 := ⟨_, rfl⟩
    replace h110 : ((v4.toInt = 0 ∨ ¬ v120.toInt = 0) ∧ (v120.toInt = 0 → (y_c f1 387).toInt ≤ 39)) := by have q9 := h110; rw [y_fiZ oY114 (k := 5) (by decide), ← ev120] at q9; exact q9
    refine lv_aload_n hx hb dX7_lineBegins_56 rfl (lv_at hl 0 rfl) ?_
    refine th_get (D := (dC, dI)) (ci := 7) (v := .int (z112 5)) (C := RX7) (T := TX7) (N := 34) hx hb hts inX7 hown hK hP (hLK _ ha0 (by decide)) oY114 rfl 5 (by decide) (hts _ T_274) (fun _ h9 => h9) rfl dX7_lineBegins_57 ?_
    refine ax_eqi (y := v120) ev120.symm ?_
    refine lv_if_ne (tgt := 68) hx hb dX7_lineBegins_60 (by decide) (fun c121 => ?_) (fun c121 => ?_)
    · have c121 := mt (ax_eq (n := 0) (by decide)).mpr c121
      exact W.vret hx hb hr (fun t ht hW => ⟨⟨F111, rfl, ⟨trivial, trivial, hI, hfr, fun k hk => (y_fiZ oY114 (s_sub (by decide) hk)).trans ((hz0 k hk).trans (y_fiZ oY0 (s_sub (by decide) hk)).symm), (by rw [y_fiZ oY0 (k := 5) (by decide), ← eF_5, y_fiZ oY114 (k := 5) (by decide), ← ev120, y_atE o2, y_atE o118]; exact ⟨by omega, fun _ hg => absurd hg (by omega)⟩)⟩, by rw [ht]; exact hP, va_K.moved hW.alike hK⟩, hS.F ht⟩) hS.2.2 dX7_lineBegins_68
    · have c121 := (ax_eq (n := 0) (by decide)).mp c121
      refine lv_aload_n hx hb dX7_lineBegins_63 rfl (lv_at hl 0 rfl) ?_
      refine lv_iload_n hx hb dX7_lineBegins_64 rfl (lv_at hl 1 rfl) ?_
      have ep122_5 := ev120
      refine va_callv (va_runV (As := [.int w5]) (rest := []) ⟨hx, hb, hml, hown, hts⟩ (y_X7_lineTold l dC dI H.size hLK A hA F111 a0 w5 ha0 hI (by rw [y_atE o118, y_fiZ oY114 (k := 5) (by decide), ← ev120]; rw [h109]; exact ⟨by omega, by omega⟩)) (cwV 1 hts (ax_gV T_1252 T_1254 T_1255 T_265 T_1253) rfl rfl rfl (by decide +kernel) ⟨Nat.le_of_ble_eq_true rfl, Nat.le_of_ble_eq_true rfl⟩) ⟨fun a U g mk q => ⟨q.1, s_pc (U := U) rfl rfl q.2⟩, s_recv hK hP (hLK _ ha0 (by decide)) (ci := 7) rfl oY114, fun U hU hW => ⟨rfl, s_pw hU hW hP hK hD hN⟩⟩ rfl rfl hl.1 rfl (lv_room (Nat.le_of_ble_eq_true rfl)) dX7_lineBegins_65 ⟨Nat.zero_le _, Nat.zero_le _⟩) hS (fun q _ h => h) (fun q h => h) (fun F123 t H1 locs ht hvm hw hB hz1 hk1 hS => ?_)
      obtain ⟨hP, hK1⟩ := hB
      rw [ht] at hP
      generalize H1 = H at hP hS ⊢
      clear hz1 hk1 hvm hK1
      obtain ⟨h124, h126, hI, hfr1, hzf, h125⟩ := hw
      obtain ⟨z127, q128, oY129, bz130, bq131⟩ := y_opY hI ha0
      have hzf : ∀ k, k ∈ ([1, 3, 7, 8, 15, 16, 19, 25, 26, 27, 31, 32] : List Nat) → z127 k = z112 k := fun k hk => by have q9 := hzf k hk; rw [y_fiZ oY129 (s_sub (by decide) hk), y_fiZ oY114 (s_sub (by decide) hk)] at q9; exact q9
      have hz0 : ∀ k, k ∈ ([1, 3, 7, 8, 15, 16, 19, 25, 26, 27, 31, 32] : List Nat) → z127 k = z0 k := fun k hk => (hzf k (s_sub (by decide) hk)).trans (hz0 k hk)
      have hfr : ∀ b, K b ∉ [9, 62, 64] → F123 b = F b := fun b hb9 => (hfr1 b (fun q => hb9 (s_sub (by decide) q))).trans (hfr b hb9)
      obtain ⟨v132, ev132⟩ : ∃ y : Int32, y = z127 5 := ⟨_, rfl⟩
      obtain ⟨f133, o134, b135⟩ := y_op12 hI
      replace h125 : ((v120.toInt = 0 ∨ ¬ v132.toInt = 0) ∧ (∀ j : Int, 0 ≤ j → j < 8 * (y_c f117 387).toInt → y_c f133 j = y_c f117 j) ∧ (∀ j : Int, 8 * (y_c f117 387).toInt + 8 ≤ j → j ≠ 387 → y_c f133 j = y_c f117 j) ∧ (v132.toInt = 0 → (y_c f133 387).toInt = (y_c f117 387).toInt + 1 ∧ y_rg f133 (y_c f117 387).toInt)) := by have q9 := h125; rw [y_fiZ oY114 (k := 5) (by decide), ← ep122_5, y_fiZ oY129 (k := 5) (by decide), ← ev132, y_atE o118, y_atE o134] at q9; exact q9
      rw [h109] at h125
      exact W.vret hx hb hr (fun t ht hW => ⟨⟨F123, rfl, ⟨trivial, trivial, hI, hfr, fun k hk => (y_fiZ oY129 (s_sub (by decide) hk)).trans ((hz0 k hk).trans (y_fiZ oY0 (s_sub (by decide) hk)).symm), (by rw [y_fiZ oY0 (k := 5) (by decide), ← eF_5, y_fiZ oY129 (k := 5) (by decide), ← ev132, y_atE o2, y_atE o134]; exact ⟨by have q9 := h125.1; omega, fun hd hg => y_DSl rfl ⟨by omega, by omega⟩ h125.2.1 h125.2.2.1 (h125.2.2.2 hg).1 (h125.2.2.2 hg).2 (hd (by omega))⟩)⟩, by rw [ht]; exact hP, va_K.moved hW.alike hK⟩, hS.F ht⟩) hS.2.2 dX7_lineBegins_68
