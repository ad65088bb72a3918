set_option maxHeartbeats 4000000 in
set_option maxRecDepth 100000 in
theorem y_X7_lineBegins (l : Launch) (dC : Nat → ClassId) (dI : Nat → Nat → Nat) (sz : Nat) {L : List Nat} {K : Nat → Nat} {cs : Nat → ClassId} (hLK : ∀ a {k : Nat}, K a = k → k ≠ 0 → a ∈ L) (A : Nat → Nat) (hA : y_A K A) (F : Nat → va_E) (a0 : Nat) (x1 : Int32) (x2 : Int32) (ha0 : K a0 = 9) (hx2 : 0 ≤ x2.toInt ∧ x2.toInt ≤ 1) (hI : y_I K cs A F) : Met l yX7_lineBegins (Cond.code yX7_lineBegins cX7_lineBegins 4 none :: T0) ({ frames := 7, cells := 0, slots := 0, locals := 151 }) (va_Pc [.ref a0, .int x1, .int x2] (s_W dC dI sz L F [(cs 0, .int), (cs 1, .byte), (cs 2, .long), (cs 3, .object RX5), (cs 4, .object RX4), (cs 5, .array .int), (cs 6, .char), (cs 7, .boolean)])) (va_Qv (fun (G : Nat → va_E) => True ∧ True ∧ y_I K cs A G ∧ (∀ b, K b ∉ [9, 62, 64] → G b = F b) ∧ (∀ k, k ∈ ([1, 3, 7, 8, 15, 16, 19, 25, 26, 27, 31, 32] : List Nat) → y_fi G a0 k = y_fi F a0 k) ∧ (((y_fi F a0 5).toInt = 0 ∨ ¬ (y_fi G a0 5).toInt = 0) ∧ (((y_fi F a0 5).toInt = 0 → y_DS (y_at F (A 12))) → (y_fi G a0 5).toInt = 0 → y_DS (y_at G (A 12))))) (fun (G : Nat → va_E) (t : State) => va_P (dC, dI) vwCl (va_pl L G) t.heap ∧ va_K (dC, dI) vwCl [(cs 0, .int), (cs 1, .byte), (cs 2, .long), (cs 3, .object RX5), (cs 4, .object RX4), (cs 5, .array .int), (cs 6, .char), (cs 7, .boolean)] t) (fun q => q ∈ L)) 0 0 (fun q => q ∈ L) := by
  refine Met.ofW (cc := cX7_lineBegins) (maxL := 4) (ret := none) (by decide) rfl ?_
  intro p e s m args below meth c s₁ B hml hv
  obtain ⟨rfl, hsz, hP, hK, hD, hN⟩ := hv
  have hx := B.exec
  have hb := B.bytes
  have hr := B.returns
  have hts : ∀ w ∈ T0, w.before _ s = true := fun w h => atoms_spec (ws := Cond.code yX7_lineBegins cX7_lineBegins 4 none :: T0) B.pre w (List.mem_cons_of_mem _ h)
  have hown : s.vm.findClass RX7 = some m.cls := findClass_of_methodNamed B.named
  have hlocks := B.notSynchronized
  have hS : va_S (fun q => q ∈ L) s.heap s.heap [] := va_S.rf
  have hfr : ∀ b, K b ∉ [9, 62, 64] → F b = F b := fun _ _ => rfl
  have hl := lv_entry ([.ref a0, .int x1, .int x2]) (n := 4) (Nat.le_of_ble_eq_true rfl)
  rw [lg_entry_eq]
  generalize (lg_sl ([.ref a0, .int x1, .int x2]) ++ List.replicate (4 - (lg_sl ([.ref a0, .int x1, .int x2])).length) Slot.unset).toArray = ls at hl ⊢
  have hl : lv_has ls 4 [(0, .ref a0), (1, .int x1), (2, .int x2)] := hl
  refine s_gen hP hS (fun H locs hP hS => ?_)
  obtain ⟨z0, q0, oY0, bz0⟩ := y_opY hI ha0
  have hz0 : ∀ k, k ∈ ([1, 3, 7, 8, 15, 16, 19, 25, 26, 27, 31, 32] : List Nat) → z0 k = z0 k := fun _ _ => rfl
  obtain ⟨f1, o2, b3⟩ := y_op12 hI
  obtain ⟨v4, ev4⟩ : ∃ y : Int32, y = z0 5 := ⟨_, rfl⟩
  have eF_5 := ev4
  have hnb : 0 ≤ (y_c f1 387).toInt ∧ (y_c f1 387).toInt ≤ 40 := b3
  have e0_v4 := ev4
  refine th_join (fun g H locs => ∃ (G : Nat → va_E) (ls : Array Slot) (w5 : Int32), g = F0 m 56 ls [] ∧ lv_has ls 4 [(0, .ref a0), (3, .int w5)] ∧ va_P (dC, dI) vwCl (va_pl L G) H ∧ va_S (fun q => q ∈ L) s.heap H locs ∧ y_I K cs A G ∧ (∀ b, K b ∉ [9, 62, 64] → G b = F b) ∧ (∀ k, k ∈ ([1, 3, 7, 8, 15, 16, 19, 25, 26, 27, 31, 32] : List Nat) → y_fi G a0 k = z0 k) ∧ True ∧ (y_at G (A 12)) = f1 ∧ ((v4.toInt = 0 ∨ ¬ (y_fi G a0 5).toInt = 0) ∧ ((y_fi G a0 5).toInt = 0 → (y_c f1 387).toInt ≤ 39))) (fun K56 => ?_) ?_
  refine th_join (fun g H locs => ∃ (G : Nat → va_E) (ls : Array Slot) (w6 : Int32), g = F0 m 50 ls [] ∧ lv_has ls 4 [(0, .ref a0), (3, .int w6)] ∧ va_P (dC, dI) vwCl (va_pl L G) H ∧ va_S (fun q => q ∈ L) s.heap H locs ∧ y_I K cs A G ∧ (∀ b, K b ∉ [9, 62, 64] → G b = F b) ∧ (∀ k, k ∈ ([1, 3, 7, 8, 15, 16, 19, 25, 26, 27, 31, 32] : List Nat) → y_fi G a0 k = z0 k) ∧ True ∧ (y_at G (A 12)) = f1 ∧ ((v4.toInt = 0 ∨ ¬ (y_fi G a0 5).toInt = 0) ∧ ((y_fi G a0 5).toInt = 0 → (y_c f1 387).toInt ≤ 39))) (fun K50 => ?_) ?_
  refine th_join (fun g H locs => ∃ (G : Nat → va_E) (ls : Array Slot) (w7 : Int32), g = F0 m 17 ls [] ∧ lv_has ls 4 [(0, .ref a0), (2, .int x2), (3, .int w7)] ∧ va_P (dC, dI) vwCl (va_pl L G) H ∧ va_S (fun q => q ∈ L) s.heap H locs ∧ y_I K cs A G ∧ (∀ b, K b ∉ [9, 62, 64] → G b = F b) ∧ (∀ k, k ∈ ([1, 3, 7, 8, 15, 16, 19, 25, 26, 27, 31, 32] : List Nat) → y_fi G a0 k = z0 k) ∧ (0 ≤ w7.toInt ∧ w7.toInt ≤ 0) ∧ (0 ≤ x2.toInt ∧ x2.toInt ≤ 1) ∧ (y_at G (A 12)) = f1 ∧ ((v4.toInt = 0 ∨ ¬ (y_fi G a0 5).toInt = 0) ∧ ((y_fi G a0 5).toInt = 0 → (y_c f1 387).toInt ≤ 39))) (fun K17 => ?_) ?_
  · refine lv_iconst (v := 0) hx hb dX7_lineBegins_0 (by decide) ?_
    refine lv_istore_n (lv' := [(3, .int 0), (0, .ref a0), (1, .int x1), (2, .int x2)]) hx hb dX7_lineBegins_1 rfl hl (by decide) rfl (fun ls hl => ?_)
    refine lv_aload_n hx hb dX7_lineBegins_2 rfl (lv_at hl 1 rfl) ?_
    refine va_calli (va_runV (As := []) (rest := []) ⟨hx, hb, hml, hown, hts⟩ (y_X7_drafted l dC dI H.size hLK A hA F a0 ha0 hI) (cwV 0 hts (ax_gV T_293 T_294 T_295 T_265 T_28) rfl rfl rfl (by decide +kernel) ⟨Nat.le_of_ble_eq_true rfl, Nat.le_of_ble_eq_true rfl⟩) ⟨fun a U g mk q => ⟨q.1, s_pc rfl rfl q.2⟩, s_recv hK hP (hLK _ ha0 (by decide)) (ci := 7) rfl oY0, fun U hU hW => ⟨rfl, s_pw hU hW hP hK hD hN⟩⟩ rfl rfl hl.1 rfl (lv_room (Nat.le_of_ble_eq_true rfl)) dX7_lineBegins_3 ⟨Nat.zero_le _, Nat.zero_le _⟩) hS (fun q _ h => h) (fun q h => h) (fun r9 F10 t H1 locs ht hvm hw hB hz1 hk1 hS => ?_)
    obtain ⟨hP, hK1⟩ := hB
    rw [ht] at hP
    generalize H1 = H at hP hS ⊢
    obtain ⟨h11, h13, hI, hfr1, hzf, h12⟩ := hw
    have o14 : F10 (A 12) = .inl (cs 0, 400, .inl f1) := (hfr1 _ (by rw [(y_k12 hA)]; decide)).trans o2
    have oY15 : F10 a0 = .inr (7, y_fl A z0 q0) := (hfr1 _ (by rw [ha0]; decide)).trans oY0
    have hfr : ∀ b, K b ∉ [9, 62, 64] → F10 b = F b := fun b hb9 => (hfr1 b (fun q => hb9 (s_sub (by decide) q))).trans (hfr b hb9)
    have h12 : (r9 = y_c f1 387) := by have q9 := h12; rw [y_atE o2] at q9; exact q9
    have h16 := congrArg Int32.toInt h12
    refine lv_bipush (v := 40) hx hb dX7_lineBegins_6 (by decide) ?_
    refine lv_icmp_ne (tgt := 17) hx hb dX7_lineBegins_8 (by decide) (fun c17 => ?_) (fun c17 => ?_)
    · have c17 := mt (ax_eq (n := 40) (by decide)).mpr c17
      have h18 : (0 : Int32).toInt = 0 := by decide
      exact K17 _ _ _ ⟨F10, _, 0, rfl, lv_sub hl [1, 3, 0] rfl, hP, hS, hI, hfr, (fun k hk => (y_fiZ oY15 (s_sub (by decide) hk)).trans (hz0 k hk)), (by decide), ⟨by omega, by omega⟩, (by rw [y_atE o14]; exact rfl), (by rw [y_fiZ oY15 (k := 5) (by decide), ← ev4]; omega)⟩
    · have c17 := (ax_eq (n := 40) (by decide)).mp c17
      refine lv_aload_n hx hb dX7_lineBegins_11 rfl (lv_at hl 1 rfl) ?_
      refine lv_iconst (v := 5) hx hb dX7_lineBegins_12 (by decide) ?_
      refine lv_iload_n hx hb dX7_lineBegins_13 rfl (lv_at hl 2 rfl) ?_
      refine va_callv (va_runV (As := [.int 5, .int x1]) (rest := []) ⟨hx, hb, hml, hown, hts⟩ (y_X7_fail l dC dI H.size hLK A hA F10 a0 5 x1 ha0 (by decide) hI) (cwV 2 hts (ax_gV T_290 T_291 T_292 T_265 T_27) rfl rfl rfl (by decide +kernel) ⟨Nat.le_of_ble_eq_true rfl, Nat.le_of_ble_eq_true rfl⟩) ⟨fun a U g mk q => ⟨q.1, s_pc rfl rfl q.2⟩, s_recv hK hP (hLK _ ha0 (by decide)) (ci := 7) rfl oY15, fun U hU hW => ⟨rfl, s_pw hU hW hP hK hD hN⟩⟩ rfl rfl hl.1 rfl (lv_room (Nat.le_of_ble_eq_true rfl)) dX7_lineBegins_14 ⟨Nat.zero_le _, Nat.zero_le _⟩) hS (fun q _ h => h) (fun q h => h) (fun F20 t H1 locs ht hvm hw hB hz1 hk1 hS => ?_)
      obtain ⟨hP, hK1⟩ := hB
      rw [ht] at hP
      generalize H1 = H at hP hS ⊢
      obtain ⟨h21, h23, hI, hfr1, hzf, h22⟩ := hw
      have o24 : F20 (A 12) = .inl (cs 0, 400, .inl f1) := (hfr1 _ (by rw [(y_k12 hA)]; decide)).trans o14
      obtain ⟨z25, q26, oY27, bz28⟩ := y_opY hI ha0
      have hzf : ∀ k, k ∈ ([1, 2, 3, 4, 7, 8, 11, 15, 16, 19, 25, 26, 27, 31, 32] : List Nat) → z25 k = z0 k := fun k hk => by have q9 := hzf k hk; rw [y_fiZ oY27 (s_sub (by decide) hk), y_fiZ oY15 (s_sub (by decide) hk)] at q9; exact q9
      have hz0 : ∀ k, k ∈ ([1, 3, 7, 8, 15, 16, 19, 25, 26, 27, 31, 32] : List Nat) → z25 k = z0 k := fun k hk => (hzf k (s_sub (by decide) hk)).trans (hz0 k hk)
      have hfr : ∀ b, K b ∉ [9, 62, 64] → F20 b = F b := fun b hb9 => (hfr1 b (fun q => hb9 (s_sub (by decide) q))).trans (hfr b hb9)
      obtain ⟨v29, ev29⟩ : ∃ y : Int32, y = z25 5 := ⟨_, rfl⟩
      have h22 : (¬ v29.toInt = 0) := by have q9 := h22; rw [y_fiZ oY27 (k := 5) (by decide), ← ev29] at q9; exact q9
      have h30 : (0 : Int32).toInt = 0 := by decide
      exact K17 _ _ _ ⟨F20, _, 0, rfl, lv_sub hl [1, 3, 0] rfl, hP, hS, hI, hfr, (fun k hk => (y_fiZ oY27 (s_sub (by decide) hk)).trans (hz0 k hk)), (by decide), ⟨by omega, by omega⟩, (by rw [y_atE o24]; exact rfl), (by rw [y_fiZ oY27 (k := 5) (by decide), ← ev29]; omega)⟩
  · intro g H locs hq
    obtain ⟨F35, ls, w7, rfl, hl, hP, hS, hI, hfr, hz0, h31, h32, h33, h34⟩ := hq
    obtain ⟨z36, q37, oY38, bz39⟩ := y_opY hI ha0
    have hz0 : ∀ k, k ∈ ([1, 3, 7, 8, 15, 16, 19, 25, 26, 27, 31, 32] : List Nat) → z36 k = z0 k := fun k hk => (y_fiZ oY38 (s_sub (by decide) hk)).symm.trans (hz0 k hk)
    obtain ⟨f40, o41, b42⟩ := y_op12 hI
    have h33 : f40 = f1 := by have q9 := h33; rw [y_atE o41] at q9; exact q9
    obtain ⟨v43, ev43⟩ : ∃ y : Int32, y = z36 5 := ⟨_, rfl⟩
    have h34 : ((v4.toInt = 0 ∨ ¬ v43.toInt = 0) ∧ (v43.toInt = 0 → (y_c f1 387).toInt ≤ 39)) := by have q9 := h34; rw [y_fiZ oY38 (k := 5) (by decide), ← ev43] at q9; exact q9
    refine lv_iload_n hx hb dX7_lineBegins_17 rfl (lv_at hl 1 rfl) ?_
    refine lv_if_eq (tgt := 56) hx hb dX7_lineBegins_18 (by decide) (fun c44 => ?_) (fun c44 => ?_)
    · have c44 := (ax_eq (n := 0) (by decide)).mp c44
      exact K56 _ _ _ ⟨F35, _, w7, rfl, lv_sub hl [0, 2] rfl, hP, hS, hI, hfr, (fun k hk => (y_fiZ oY38 (s_sub (by decide) hk)).trans (hz0 k hk)), trivial, (by rw [y_atE o41]; exact h33), (by rw [y_fiZ oY38 (k := 5) (by decide), ← ev43]; omega)⟩
    · have c44 := mt (ax_eq (n := 0) (by decide)).mpr c44
      refine lv_aload_n hx hb dX7_lineBegins_21 rfl (lv_at hl 0 rfl) ?_
      have ep45_5 := ev43
      refine va_calli (va_runV (As := []) (rest := []) ⟨hx, hb, hml, hown, hts⟩ (y_X7_name l dC dI H.size hLK A hA F35 a0 ha0 hI) (cwV 0 hts (ax_gV T_1110 T_1112 T_1113 T_265 T_1111) rfl rfl rfl (by decide +kernel) ⟨Nat.le_of_ble_eq_true rfl, Nat.le_of_ble_eq_true rfl⟩) ⟨fun a U g mk q => ⟨q.1, s_pc rfl rfl q.2⟩, s_recv hK hP (hLK _ ha0 (by decide)) (ci := 7) rfl oY38, fun U hU hW => ⟨rfl, s_pw hU hW hP hK hD hN⟩⟩ rfl rfl hl.1 rfl (lv_room (Nat.le_of_ble_eq_true rfl)) dX7_lineBegins_22 ⟨Nat.zero_le _, Nat.zero_le _⟩) hS (fun q _ h => h) (fun q h => h) (fun r46 F47 t H1 locs ht hvm hw hB hz1 hk1 hS => ?_)
      obtain ⟨hP, hK1⟩ := hB
      rw [ht] at hP
      generalize H1 = H at hP hS ⊢
      obtain ⟨h48, h50, hI, hfr1, hzf, h49⟩ := hw
      have o51 : F47 (A 12) = .inl (cs 0, 400, .inl f40) := (hfr1 _ (by rw [(y_k12 hA)]; decide)).trans o41
      obtain ⟨z52, q53, oY54, bz55⟩ := y_opY hI ha0
      have hzf : ∀ k, k ∈ ([1, 3, 7, 8, 15, 16, 19, 25, 26, 27, 31, 32] : List Nat) → z52 k = z36 k := fun k hk => by have q9 := hzf k hk; rw [y_fiZ oY54 (s_sub (by decide) hk), y_fiZ oY38 (s_sub (by decide) hk)] at q9; exact q9
      have hz0 : ∀ k, k ∈ ([1, 3, 7, 8, 15, 16, 19, 25, 26, 27, 31, 32] : List Nat) → z52 k = z0 k := fun k hk => (hzf k (s_sub (by decide) hk)).trans (hz0 k hk)
      have hfr : ∀ b, K b ∉ [9, 62, 64] → F47 b = F b := fun b hb9 => (hfr1 b (fun q => hb9 (s_sub (by decide) q))).trans (hfr b hb9)
      obtain ⟨v56, ev56⟩ : ∃ y : Int32, y = z52 5 := ⟨_, rfl⟩
      have h49 : (v43.toInt = 0 ∨ ¬ v56.toInt = 0) := by have q9 := h49; rw [y_fiZ oY38 (k := 5) (by decide), ← ep45_5, y_fiZ oY54 (k := 5) (by decide), ← ev56] at q9; exact q9
      refine lv_istore_n (lv' := [(3, .int r46), (0, .ref a0), (2, .int x2)]) hx hb dX7_lineBegins_25 rfl hl (by decide) rfl (fun ls hl => ?_)
      refine lv_aload_n hx hb dX7_lineBegins_26 rfl (lv_at hl 1 rfl) ?_
      refine th_get (D := (dC, dI)) (ci := 7) (v := .int (z52 5)) (C := RX7) (T := TX7) (N := 34) hx hb hts inX7 hown hK hP (hLK _ ha0 (by decide)) oY54 rfl 5 (by decide) (hts _ T_274) (fun _ h9 => h9) rfl dX7_lineBegins_27 ?_
      refine ax_eqi (y := v56) ev56.symm ?_
      refine lv_if_ne (tgt := 50) hx hb dX7_lineBegins_30 (by decide) (fun c57 => ?_) (fun c57 => ?_)
      · have c57 := mt (ax_eq (n := 0) (by decide)).mpr c57
        exact K50 _ _ _ ⟨F47, _, r46, rfl, lv_sub hl [1, 0] rfl, hP, hS, hI, hfr, (fun k hk => (y_fiZ oY54 (s_sub (by decide) hk)).trans (hz0 k hk)), trivial, (by rw [y_atE o51]; exact h33), (by rw [y_fiZ oY54 (k := 5) (by decide), ← ev56]; omega)⟩
      · have c57 := (ax_eq (n := 0) (by decide)).mp c57
        refine lv_aload_n hx hb dX7_lineBegins_33 rfl (lv_at hl 1 rfl) ?_
        refine lv_iload_n hx hb dX7_lineBegins_34 rfl (lv_at hl 0 rfl) ?_
        refine va_calli (va_runV (As := [.int r46]) (rest := []) ⟨hx, hb, hml, hown, hts⟩ (y_X7_isNamed l dC dI H.size hLK A hA F47 a0 r46 ha0 hI) (cwV 1 hts (ax_gV T_1248 T_1250 T_1251 T_265 T_1249) rfl rfl rfl (by decide +kernel) ⟨Nat.le_of_ble_eq_true rfl, Nat.le_of_ble_eq_true rfl⟩) ⟨fun a U g mk q => ⟨q.1, s_pc rfl rfl q.2⟩, s_recv hK hP (hLK _ ha0 (by decide)) (ci := 7) rfl oY54, fun U hU hW => ⟨rfl, s_pw hU hW hP hK hD hN⟩⟩ rfl rfl hl.1 rfl (lv_room (Nat.le_of_ble_eq_true rfl)) dX7_lineBegins_35 ⟨Nat.zero_le _, Nat.zero_le _⟩) hS (fun q _ h => h) (fun q h => h) (fun r59 F60 t H1 locs ht hvm hw hB hz1 hk1 hS => ?_)
        obtain ⟨hP, hK1⟩ := hB
        rw [ht] at hP
        generalize H1 = H at hP hS ⊢
        obtain ⟨h61, h63, hI, hfr1, hzf, h62⟩ := hw
        have o64 : F60 (A 12) = .inl (cs 0, 400, .inl f40) := (hfr1 _ (by rw [(y_k12 hA)]; decide)).trans o51
        have oY65 : F60 a0 = .inr (7, y_fl A z52 q53) := (hfr1 _ (by rw [ha0]; decide)).trans oY54
        have hfr : ∀ b, K b ∉ [9, 62, 64] → F60 b = F b := fun b hb9 => (hfr1 b (fun q => hb9 (s_sub (by decide) q))).trans (hfr b hb9)
        refine lv_if_eq (tgt := 50) hx hb dX7_lineBegins_38 (by decide) (fun c66 => ?_) (fun c66 => ?_)
        · have c66 := (ax_eq (n := 0) (by decide)).mp c66
          exact K50 _ _ _ ⟨F60, _, r46, rfl, lv_sub hl [1, 0] rfl, hP, hS, hI, hfr, (fun k hk => (y_fiZ oY65 (s_sub (by decide) hk)).trans (hz0 k hk)), trivial, (by rw [y_atE o64]; exact h33), (by rw [y_fiZ oY65 (k := 5) (by decide), ← ev56]; omega)⟩
        · have c66 := mt (ax_eq (n := 0) (by decide)).mpr c66
          refine lv_aload_n hx hb dX7_lineBegins_41 rfl (lv_at hl 1 rfl) ?_
          refine lv_iconst (v := 3) hx hb dX7_lineBegins_42 (by decide) ?_
          refine lv_aload_n hx hb dX7_lineBegins_43 rfl (lv_at hl 1 rfl) ?_
          refine th_get (D := (dC, dI)) (ci := 7) (v := .int (z52 11)) (C := RX7) (T := TX7) (N := 34) hx hb hts inX7 hown hK hP (hLK _ ha0 (by decide)) oY65 rfl 11 (by decide) (hts _ T_1114) (fun _ h9 => h9) rfl dX7_lineBegins_44 ?_
          refine lv_topi (fun v67 ev67 => ?_)
          refine va_callv (va_runV (As := [.int 3, .int v67]) (rest := []) ⟨hx, hb, hml, hown, hts⟩ (y_X7_fail l dC dI H.size hLK A hA F60 a0 3 v67 ha0 (by decide) hI) (cwV 2 hts (ax_gV T_290 T_291 T_292 T_265 T_27) rfl rfl rfl (by decide +kernel) ⟨Nat.le_of_ble_eq_true rfl, Nat.le_of_ble_eq_true rfl⟩) ⟨fun a U g mk q => ⟨q.1, s_pc rfl rfl q.2⟩, s_recv hK hP (hLK _ ha0 (by decide)) (ci := 7) rfl oY65, fun U hU hW => ⟨rfl, s_pw hU hW hP hK hD hN⟩⟩ rfl rfl hl.1 rfl (lv_room (Nat.le_of_ble_eq_true rfl)) dX7_lineBegins_47 ⟨Nat.zero_le _, Nat.zero_le _⟩) hS (fun q _ h => h) (fun q h => h) (fun F69 t H1 locs ht hvm hw hB hz1 hk1 hS => ?_)
          obtain ⟨hP, hK1⟩ := hB
          rw [ht] at hP
          generalize H1 = H at hP hS ⊢
          obtain ⟨h70, h72, hI, hfr1, hzf, h71⟩ := hw
          have o73 : F69 (A 12) = .inl (cs 0, 400, .inl f40) := (hfr1 _ (by rw [(y_k12 hA)]; decide)).trans o64
          obtain ⟨z74, q75, oY76, bz77⟩ := y_opY hI ha0
          have hzf : ∀ k, k ∈ ([1, 2, 3, 4, 7, 8, 11, 15, 16, 19, 25, 26, 27, 31, 32] : List Nat) → z74 k = z52 k := fun k hk => by have q9 := hzf k hk; rw [y_fiZ oY76 (s_sub (by decide) hk), y_fiZ oY65 (s_sub (by decide) hk)] at q9; exact q9
          have hz0 : ∀ k, k ∈ ([1, 3, 7, 8, 15, 16, 19, 25, 26, 27, 31, 32] : List Nat) → z74 k = z0 k := fun k hk => (hzf k (s_sub (by decide) hk)).trans (hz0 k hk)
          have ev67 : v67 = z74 11 := ev67.trans (hzf 11 (by decide)).symm
          have hfr : ∀ b, K b ∉ [9, 62, 64] → F69 b = F b := fun b hb9 => (hfr1 b (fun q => hb9 (s_sub (by decide) q))).trans (hfr b hb9)
          obtain ⟨v78, ev78⟩ : ∃ y : Int32, y = z74 5 := ⟨_, rfl⟩
          have h71 : (¬ v78.toInt = 0) := by have q9 := h71; rw [y_fiZ oY76 (k := 5) (by decide), ← ev78] at q9; exact q9
          exact K50 _ _ _ ⟨F69, _, r46, rfl, lv_sub hl [1, 0] rfl, hP, hS, hI, hfr, (fun k hk => (y_fiZ oY76 (s_sub (by decide) hk)).trans (hz0 k hk)), trivial, (by rw [y_atE o73]; exact h33), (by rw [y_fiZ oY76 (k := 5) (by decide), ← ev78]; omega)⟩
  · intro g H locs hq
    obtain ⟨F82, ls, w6, rfl, hl, hP, hS, hI, hfr, hz0, h79, h80, h81⟩ := hq
    obtain ⟨z83, q84, oY85, bz86⟩ := y_opY hI ha0
    have hz0 : ∀ k, k ∈ ([1, 3, 7, 8, 15, 16, 19, 25, 26, 27, 31, 32] : List Nat) → z83 k = z0 k := fun k hk => (y_fiZ oY85 (s_sub (by decide) hk)).symm.trans (hz0 k hk)
    obtain ⟨f87, o88, b89⟩ := y_op12 hI
    have h80 : f87 = f1 := by have q9 := h80; rw [y_atE o88] at q9; exact q9
    obtain ⟨v90, ev90⟩ : ∃ y : Int32, y = z83 5 := ⟨_, rfl⟩
    have h81 : ((v4.toInt = 0 ∨ ¬ v90.toInt = 0) ∧ (v90.toInt = 0 → (y_c f1 387).toInt ≤ 39)) := by have q9 := h81; rw [y_fiZ oY85 (k := 5) (by decide), ← ev90] at q9; exact q9
    refine lv_aload_n hx hb dX7_lineBegins_50 rfl (lv_at hl 0 rfl) ?_
    refine lv_bipush (v := 58) hx hb dX7_lineBegins_51 (by decide) ?_
    have ep91_5 := ev90
    refine va_callv (va_runV (As := [.int 58]) (rest := []) ⟨hx, hb, hml, hown, hts⟩ (y_X7_asksSign l dC dI H.size hLK A hA F82 a0 58 ha0 (by decide) hI) (cwV 1 hts (ax_gV T_303 T_304 T_305 T_265 T_31) rfl rfl rfl (by decide +kernel) ⟨Nat.le_of_ble_eq_true rfl, Nat.le_of_ble_eq_true rfl⟩) ⟨fun a U g mk q => ⟨q.1, s_pc rfl rfl q.2⟩, s_recv hK hP (hLK _ ha0 (by decide)) (ci := 7) rfl oY85, fun U hU hW => ⟨rfl, s_pw hU hW hP hK hD hN⟩⟩ rfl rfl hl.1 rfl (lv_room (Nat.le_of_ble_eq_true rfl)) dX7_lineBegins_53 ⟨Nat.zero_le _, Nat.zero_le _⟩) hS (fun q _ h => h) (fun q h => h) (fun F92 t H1 locs ht hvm hw hB hz1 hk1 hS => ?_)
    obtain ⟨hP, hK1⟩ := hB
    rw [ht] at hP
    generalize H1 = H at hP hS ⊢
    obtain ⟨h93, h95, hI, hfr1, hzf, h94⟩ := hw
    have o96 : F92 (A 12) = .inl (cs 0, 400, .inl f87) := (hfr1 _ (by rw [(y_k12 hA)]; decide)).trans o88
    obtain ⟨z97, q98, oY99, bz100⟩ := y_opY hI ha0
    have hzf : ∀ k, k ∈ ([1, 3, 4, 7, 8, 11, 15, 16, 19, 25, 26, 27, 31, 32] : List Nat) → z97 k = z83 k := fun k hk => by have q9 := hzf k hk; rw [y_fiZ oY99 (s_sub (by decide) hk), y_fiZ oY85 (s_sub (by decide) hk)] at q9; exact q9
    have hz0 : ∀ k, k ∈ ([1, 3, 7, 8, 15, 16, 19, 25, 26, 27, 31, 32] : List Nat) → z97 k = z0 k := fun k hk => (hzf k (s_sub (by decide) hk)).trans (hz0 k hk)
    have hfr : ∀ b, K b ∉ [9, 62, 64] → F92 b = F b := fun b hb9 => (hfr1 b (fun q => hb9 (s_sub (by decide) q))).trans (hfr b hb9)
    obtain ⟨v101, ev101⟩ : ∃ y : Int32, y = z97 5 := ⟨_, rfl⟩
    have h94 : (v90.toInt = 0 ∨ ¬ v101.toInt = 0) := by have q9 := h94; rw [y_fiZ oY85 (k := 5) (by decide), ← ep91_5, y_fiZ oY99 (k := 5) (by decide), ← ev101] at q9; exact q9
    exact K56 _ _ _ ⟨F92, _, w6, rfl, lv_sub hl [0, 1] rfl, hP, hS, hI, hfr, (fun k hk => (y_fiZ oY99 (s_sub (by decide) hk)).trans (hz0 k hk)), trivial, (by rw [y_atE o96]; exact h80), (by rw [y_fiZ oY99 (k := 5) (by decide), ← ev101]; omega)⟩
  · intro g H locs hq
    obtain ⟨F105, ls, w5, rfl, hl, hP, hS, hI, hfr, hz0, h102, h103, h104⟩ := hq
    obtain ⟨z106, q107, oY108, bz109⟩ := y_opY hI ha0
    have hz0 : ∀ k, k ∈ ([1, 3, 7, 8, 15, 16, 19, 25, 26, 27, 31, 32] : List Nat) → z106 k = z0 k := fun k hk => (y_fiZ oY108 (s_sub (by decide) hk)).symm.trans (hz0 k hk)
    obtain ⟨f110, o111, b112⟩ := y_op12 hI
    have h103 : f110 = f1 := by have q9 := h103; rw [y_atE o111] at q9; exact q9
    obtain ⟨v113, ev113⟩ : ∃ y : Int32, y = z106 5 := ⟨_, rfl⟩
    have h104 : ((v4.toInt = 0 ∨ ¬ v113.toInt = 0) ∧ (v113.toInt = 0 → (y_c f1 387).toInt ≤ 39)) := by have q9 := h104; rw [y_fiZ oY108 (k := 5) (by decide), ← ev113] at q9; exact q9
    refine lv_aload_n hx hb dX7_lineBegins_56 rfl (lv_at hl 0 rfl) ?_
    refine th_get (D := (dC, dI)) (ci := 7) (v := .int (z106 5)) (C := RX7) (T := TX7) (N := 34) hx hb hts inX7 hown hK hP (hLK _ ha0 (by decide)) oY108 rfl 5 (by decide) (hts _ T_274) (fun _ h9 => h9) rfl dX7_lineBegins_57 ?_
    refine ax_eqi (y := v113) ev113.symm ?_
    refine lv_if_ne (tgt := 68) hx hb dX7_lineBegins_60 (by decide) (fun c114 => ?_) (fun c114 => ?_)
    · have c114 := mt (ax_eq (n := 0) (by decide)).mpr c114
      exact W.vret hx hb hr (fun t ht hW => ⟨⟨F105, rfl, ⟨trivial, trivial, hI, hfr, fun k hk => (y_fiZ oY108 (s_sub (by decide) hk)).trans ((hz0 k hk).trans (y_fiZ oY0 (s_sub (by decide) hk)).symm), (by rw [y_fiZ oY0 (k := 5) (by decide), ← eF_5, y_fiZ oY108 (k := 5) (by decide), ← ev113, y_atE o2, y_atE o111]; exact ⟨by omega, fun _ hg => absurd hg (by omega)⟩)⟩, by rw [ht]; exact hP, va_K.moved hW.alike hK⟩, hS.F ht⟩) hS.2.2 dX7_lineBegins_68
    · have c114 := (ax_eq (n := 0) (by decide)).mp c114
      refine lv_aload_n hx hb dX7_lineBegins_63 rfl (lv_at hl 0 rfl) ?_
      refine lv_iload_n hx hb dX7_lineBegins_64 rfl (lv_at hl 1 rfl) ?_
      have ep115_5 := ev113
      refine va_callv (va_runV (As := [.int w5]) (rest := []) ⟨hx, hb, hml, hown, hts⟩ (y_X7_lineTold l dC dI H.size hLK A hA F105 a0 w5 ha0 hI (by rw [y_atE o111, y_fiZ oY108 (k := 5) (by decide), ← ev113]; rw [h103]; exact ⟨by omega, by omega⟩)) (cwV 1 hts (ax_gV T_1252 T_1254 T_1255 T_265 T_1253) rfl rfl rfl (by decide +kernel) ⟨Nat.le_of_ble_eq_true rfl, Nat.le_of_ble_eq_true rfl⟩) ⟨fun a U g mk q => ⟨q.1, s_pc rfl rfl q.2⟩, s_recv hK hP (hLK _ ha0 (by decide)) (ci := 7) rfl oY108, fun U hU hW => ⟨rfl, s_pw hU hW hP hK hD hN⟩⟩ rfl rfl hl.1 rfl (lv_room (Nat.le_of_ble_eq_true rfl)) dX7_lineBegins_65 ⟨Nat.zero_le _, Nat.zero_le _⟩) hS (fun q _ h => h) (fun q h => h) (fun F116 t H1 locs ht hvm hw hB hz1 hk1 hS => ?_)
      obtain ⟨hP, hK1⟩ := hB
      rw [ht] at hP
      generalize H1 = H at hP hS ⊢
      obtain ⟨h117, h119, hI, hfr1, hzf, h118⟩ := hw
      obtain ⟨z120, q121, oY122, bz123⟩ := y_opY hI ha0
      have hzf : ∀ k, k ∈ ([1, 3, 7, 8, 15, 16, 19, 25, 26, 27, 31, 32] : List Nat) → z120 k = z106 k := fun k hk => by have q9 := hzf k hk; rw [y_fiZ oY122 (s_sub (by decide) hk), y_fiZ oY108 (s_sub (by decide) hk)] at q9; exact q9
      have hz0 : ∀ k, k ∈ ([1, 3, 7, 8, 15, 16, 19, 25, 26, 27, 31, 32] : List Nat) → z120 k = z0 k := fun k hk => (hzf k (s_sub (by decide) hk)).trans (hz0 k hk)
      have hfr : ∀ b, K b ∉ [9, 62, 64] → F116 b = F b := fun b hb9 => (hfr1 b (fun q => hb9 (s_sub (by decide) q))).trans (hfr b hb9)
      obtain ⟨v124, ev124⟩ : ∃ y : Int32, y = z120 5 := ⟨_, rfl⟩
      obtain ⟨f125, o126, b127⟩ := y_op12 hI
      have h118 : ((v113.toInt = 0 ∨ ¬ v124.toInt = 0) ∧ (∀ j : Int, 0 ≤ j → j < 8 * (y_c f110 387).toInt → y_c f125 j = y_c f110 j) ∧ (∀ j : Int, 8 * (y_c f110 387).toInt + 8 ≤ j → j ≠ 387 → y_c f125 j = y_c f110 j) ∧ (v124.toInt = 0 → (y_c f125 387).toInt = (y_c f110 387).toInt + 1 ∧ y_rg f125 (y_c f110 387).toInt)) := by have q9 := h118; rw [y_fiZ oY108 (k := 5) (by decide), ← ep115_5, y_fiZ oY122 (k := 5) (by decide), ← ev124, y_atE o111, y_atE o126] at q9; exact q9
      rw [h103] at h118
      exact W.vret hx hb hr (fun t ht hW => ⟨⟨F116, rfl, ⟨trivial, trivial, hI, hfr, fun k hk => (y_fiZ oY122 (s_sub (by decide) hk)).trans ((hz0 k hk).trans (y_fiZ oY0 (s_sub (by decide) hk)).symm), (by rw [y_fiZ oY0 (k := 5) (by decide), ← eF_5, y_fiZ oY122 (k := 5) (by decide), ← ev124, y_atE o2, y_atE o126]; exact ⟨by have q9 := h118.1; omega, fun hd hg => y_DSl rfl ⟨by omega, by omega⟩ h118.2.1 h118.2.2.1 (h118.2.2.2 hg).1 (h118.2.2.2 hg).2 (hd (by omega))⟩)⟩, by rw [ht]; exact hP, va_K.moved hW.alike hK⟩, hS.F ht⟩) hS.2.2 dX7_lineBegins_68
