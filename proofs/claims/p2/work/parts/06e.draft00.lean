set_option maxHeartbeats 4000000 in
set_option maxRecDepth 100000 in
theorem y_X7_lineAt (l : Launch) (dC : Nat → ClassId) (dI : Nat → Nat → Nat) (sz : Nat) {L : List Nat} {cs : Nat → ClassId} (F : Nat → va_E) (x0 : Int32) (x1 : Int32) (hx0 : 0 ≤ x0.toInt ∧ x0.toInt ≤ 40) (hx1 : 0 ≤ x1.toInt ∧ x1.toInt ≤ 7) : Met l yX7_lineAt (Cond.code yX7_lineAt cX7_lineAt 2 (some .int) :: T0) ({ frames := 0, cells := 0, slots := 0, locals := 0 }) (va_Pc [.int x0, .int x1] (s_W dC dI sz L F [(cs 0, .int), (cs 1, .byte), (cs 2, .long), (cs 3, .object RX5), (cs 4, .object RX4), (cs 5, .array .int), (cs 6, .char), (cs 7, .boolean)])) (va_Qi (fun (r : Int32) (G : Nat → va_E) => (0 ≤ r.toInt ∧ r.toInt ≤ 327) ∧ True ∧ G = F ∧ (r.toInt = 8 * x0.toInt + x1.toInt)) (fun (G : Nat → va_E) (t : State) => va_P (dC, dI) vwCl (va_pl L G) t.heap ∧ va_K (dC, dI) vwCl [(cs 0, .int), (cs 1, .byte), (cs 2, .long), (cs 3, .object RX5), (cs 4, .object RX4), (cs 5, .array .int), (cs 6, .char), (cs 7, .boolean)] t) (fun q => q ∈ L)) 0 0 (fun q => q ∈ L) := by
  refine Met.ofW (cc := cX7_lineAt) (maxL := 2) (ret := (some .int)) (by decide) rfl ?_
  intro p e s m args below meth c s₁ B hml hv
  obtain ⟨rfl, hsz, hP, hK, hD, hN⟩ := hv
  have hx := B.exec
  have hb := B.bytes
  have hr := B.returns
  have hts : ∀ w ∈ T0, w.before _ s = true := fun w h => atoms_spec (ws := Cond.code yX7_lineAt cX7_lineAt 2 (some .int) :: T0) B.pre w (List.mem_cons_of_mem _ h)
  have hown : s.vm.findClass RX7 = some m.cls := findClass_of_methodNamed B.named
  have hlocks := B.notSynchronized
  have hS : va_S (fun q => q ∈ L) s.heap s.heap [] := va_S.rf
  have hl := lv_entry ([.int x0, .int x1]) (n := 2) (Nat.le_of_ble_eq_true rfl)
  rw [lg_entry_eq]
  generalize (lg_sl ([.int x0, .int x1]) ++ List.replicate (2 - (lg_sl ([.int x0, .int x1])).length) Slot.unset).toArray = ls at hl ⊢
  have hl : lv_has ls 2 [(0, .int x0), (1, .int x1)] := hl
  refine s_gen hP hS (fun H locs hP hS => ?_)
  refine lv_bipush (v := 8) hx hb dX7_lineAt_0 (by decide) ?_
  refine lv_iload_n hx hb dX7_lineAt_2 rfl (lv_at hl 0 rfl) ?_
  refine lv_imul hx hb dX7_lineAt_3 ?_
  refine lv_topi (fun v1 ev1 => ?_)
  have qv1 : v1.toInt = 8 * x0.toInt := by rw [ev1]; exact th_mul (by decide) rfl ⟨by omega, by omega⟩
  refine lv_iload_n hx hb dX7_lineAt_4 rfl (lv_at hl 1 rfl) ?_
  refine lv_iadd hx hb dX7_lineAt_5 ?_
  refine lv_topi (fun v2 ev2 => ?_)
  have qv2 : v2.toInt = v1.toInt + x1.toInt := by rw [ev2]; exact th_add rfl rfl ⟨by omega, by omega⟩
  exact W.iret (v := v2) hx hb hr (fun t ht hW => ⟨⟨v2, F, rfl, ⟨⟨by omega, by omega⟩, trivial, rfl, (by omega)⟩, by rw [ht]; exact hP, va_K.moved hW.alike hK⟩, hS.F ht⟩) hS.2.2 dX7_lineAt_6

set_option maxHeartbeats 4000000 in
set_option maxRecDepth 100000 in
theorem y_X7_drafted (l : Launch) (dC : Nat → ClassId) (dI : Nat → Nat → Nat) (sz : Nat) {L : List Nat} {K : Nat → Nat} {cs : Nat → ClassId} (hLK : ∀ a {k : Nat}, K a = k → k ≠ 0 → a ∈ L) (A : Nat → Nat) (hA : y_A K A) (F : Nat → va_E) (a0 : Nat) (ha0 : K a0 = 9) (hI : y_I K cs A F) : Met l yX7_drafted (Cond.code yX7_drafted cX7_drafted 1 (some .int) :: T0) ({ frames := 0, cells := 0, slots := 0, locals := 0 }) (va_Pc [.ref a0] (s_W dC dI sz L F [(cs 0, .int), (cs 1, .byte), (cs 2, .long), (cs 3, .object RX5), (cs 4, .object RX4), (cs 5, .array .int), (cs 6, .char), (cs 7, .boolean)])) (va_Qi (fun (r : Int32) (G : Nat → va_E) => (0 ≤ r.toInt ∧ r.toInt ≤ 40) ∧ True ∧ y_I K cs A G ∧ (∀ b, K b ∉ ([] : List Nat) → G b = F b) ∧ (∀ k, k ∈ ([1, 2, 3, 4, 5, 6, 7, 8, 11, 15, 16, 19, 25, 26, 27, 31, 32] : List Nat) → y_fi G a0 k = y_fi F a0 k) ∧ (r = y_c (y_at F (A 12)) 387)) (fun (G : Nat → va_E) (t : State) => va_P (dC, dI) vwCl (va_pl L G) t.heap ∧ va_K (dC, dI) vwCl [(cs 0, .int), (cs 1, .byte), (cs 2, .long), (cs 3, .object RX5), (cs 4, .object RX4), (cs 5, .array .int), (cs 6, .char), (cs 7, .boolean)] t) (fun q => q ∈ L)) 0 0 (fun q => q ∈ L) := by
  refine Met.ofW (cc := cX7_drafted) (maxL := 1) (ret := (some .int)) (by decide) rfl ?_
  intro p e s m args below meth c s₁ B hml hv
  obtain ⟨rfl, hsz, hP, hK, hD, hN⟩ := hv
  have hx := B.exec
  have hb := B.bytes
  have hr := B.returns
  have hts : ∀ w ∈ T0, w.before _ s = true := fun w h => atoms_spec (ws := Cond.code yX7_drafted cX7_drafted 1 (some .int) :: T0) B.pre w (List.mem_cons_of_mem _ h)
  have hown : s.vm.findClass RX7 = some m.cls := findClass_of_methodNamed B.named
  have hlocks := B.notSynchronized
  have hS : va_S (fun q => q ∈ L) s.heap s.heap [] := va_S.rf
  have hfr : ∀ b, K b ∉ ([] : List Nat) → F b = F b := fun _ _ => rfl
  have hl := lv_entry ([.ref a0]) (n := 1) (Nat.le_of_ble_eq_true rfl)
  rw [lg_entry_eq]
  generalize (lg_sl ([.ref a0]) ++ List.replicate (1 - (lg_sl ([.ref a0])).length) Slot.unset).toArray = ls at hl ⊢
  have hl : lv_has ls 1 [(0, .ref a0)] := hl
  refine s_gen hP hS (fun H locs hP hS => ?_)
  obtain ⟨z0, q0, oY0, bz0, bq0⟩ := y_opY hI ha0
  have hz0 : ∀ k, k ∈ ([1, 2, 3, 4, 5, 6, 7, 8, 11, 15, 16, 19, 25, 26, 27, 31, 32] : List Nat) → z0 k = z0 k := fun _ _ => rfl
  obtain ⟨f1, o2, b3⟩ := y_op12 hI
  refine lv_aload_n hx hb dX7_drafted_0 rfl (lv_at hl 0 rfl) ?_
  refine th_get (D := (dC, dI)) (ci := 7) (v := .ref (A 12)) (C := RX7) (T := TX7) (N := 34) hx hb hts inX7 hown hK hP (hLK _ ha0 (by decide)) oY0 rfl 12 (by decide) (hts _ T_245) (fun _ h9 => h9) rfl dX7_drafted_1 ?_
  refine lv_sipush (v := 387) hx hb dX7_drafted_4 (by decide) ?_
  refine th_iald hx hb hK hP (hLK _ (y_k12 hA) (by decide)) 0 o2 rfl (ax_in (by decide)) dX7_drafted_7 ?_
  refine lv_topi (fun v4 ev4 => ?_)
  have qv4 : 0 ≤ v4.toInt ∧ v4.toInt ≤ 40 := by rw [ev4]; exact b3
  exact W.iret (v := v4) hx hb hr (fun t ht hW => ⟨⟨v4, F, rfl, ⟨⟨by omega, by omega⟩, trivial, hI, hfr, fun k hk => (y_fiZ oY0 (s_sub (by decide) hk)).trans ((hz0 k hk).trans (y_fiZ oY0 (s_sub (by decide) hk)).symm), (by rw [y_atE o2]; exact ev4)⟩, by rw [ht]; exact hP, va_K.moved hW.alike hK⟩, hS.F ht⟩) hS.2.2 dX7_drafted_8

set_option maxHeartbeats 4000000 in
set_option maxRecDepth 100000 in
theorem y_X7_lays (l : Launch) (dC : Nat → ClassId) (dI : Nat → Nat → Nat) (sz : Nat) {L : List Nat} {K : Nat → Nat} {cs : Nat → ClassId} (hLK : ∀ a {k : Nat}, K a = k → k ≠ 0 → a ∈ L) (A : Nat → Nat) (hA : y_A K A) (F : Nat → va_E) (a0 : Nat) (x1 : Int32) (x2 : Int32) (ha0 : K a0 = 9) (hx1 : 0 ≤ x1.toInt ∧ x1.toInt ≤ 7) (hI : y_I K cs A F) : Met l yX7_lays (Cond.code yX7_lays cX7_lays 3 none :: T0) ({ frames := 1, cells := 0, slots := 0, locals := 21 }) (va_Pc [.ref a0, .int x1, .int x2] (s_W dC dI sz L F [(cs 0, .int), (cs 1, .byte), (cs 2, .long), (cs 3, .object RX5), (cs 4, .object RX4), (cs 5, .array .int), (cs 6, .char), (cs 7, .boolean)])) (va_Qv (fun (G : Nat → va_E) => True ∧ True ∧ y_I K cs A G ∧ (∀ b, K b ∉ [62] → G b = F b) ∧ (∀ k, k ∈ ([1, 2, 3, 4, 5, 6, 7, 8, 11, 15, 16, 19, 25, 26, 27, 31, 32] : List Nat) → y_fi G a0 k = y_fi F a0 k) ∧ ((∀ j : Int, 0 ≤ j → j ≠ 8 * (y_c (y_at F (A 12)) 387).toInt + x1.toInt → y_c (y_at G (A 12)) j = y_c (y_at F (A 12)) j) ∧ ((y_fi F a0 5).toInt = 0 → y_c (y_at G (A 12)) (8 * (y_c (y_at F (A 12)) 387).toInt + x1.toInt) = x2))) (fun (G : Nat → va_E) (t : State) => va_P (dC, dI) vwCl (va_pl L G) t.heap ∧ va_K (dC, dI) vwCl [(cs 0, .int), (cs 1, .byte), (cs 2, .long), (cs 3, .object RX5), (cs 4, .object RX4), (cs 5, .array .int), (cs 6, .char), (cs 7, .boolean)] t) (fun q => q ∈ L)) 0 0 (fun q => q ∈ L) := by
  refine Met.ofW (cc := cX7_lays) (maxL := 3) (ret := none) (by decide) rfl ?_
  intro p e s m args below meth c s₁ B hml hv
  obtain ⟨rfl, hsz, hP, hK, hD, hN⟩ := hv
  have hx := B.exec
  have hb := B.bytes
  have hr := B.returns
  have hts : ∀ w ∈ T0, w.before _ s = true := fun w h => atoms_spec (ws := Cond.code yX7_lays cX7_lays 3 none :: T0) B.pre w (List.mem_cons_of_mem _ h)
  have hown : s.vm.findClass RX7 = some m.cls := findClass_of_methodNamed B.named
  have hlocks := B.notSynchronized
  have hS : va_S (fun q => q ∈ L) s.heap s.heap [] := va_S.rf
  have hfr : ∀ b, K b ∉ [62] → F b = F b := fun _ _ => rfl
  have hl := lv_entry ([.ref a0, .int x1, .int x2]) (n := 3) (Nat.le_of_ble_eq_true rfl)
  rw [lg_entry_eq]
  generalize (lg_sl ([.ref a0, .int x1, .int x2]) ++ List.replicate (3 - (lg_sl ([.ref a0, .int x1, .int x2])).length) Slot.unset).toArray = ls at hl ⊢
  have hl : lv_has ls 3 [(0, .ref a0), (1, .int x1), (2, .int x2)] := hl
  refine s_gen hP hS (fun H locs hP hS => ?_)
  obtain ⟨z0, q0, oY0, bz0, bq0⟩ := y_opY hI ha0
  have hz0 : ∀ k, k ∈ ([1, 2, 3, 4, 5, 6, 7, 8, 11, 15, 16, 19, 25, 26, 27, 31, 32] : List Nat) → z0 k = z0 k := fun _ _ => rfl
  obtain ⟨f1, o2, b3⟩ := y_op12 hI
  obtain ⟨v4, ev4⟩ : ∃ y : Int32, y = z0 5 := ⟨_, rfl⟩
  have eF_5 := ev4
  have e0_v4 := ev4
  refine lv_aload_n hx hb dX7_lays_0 rfl (lv_at hl 0 rfl) ?_
  refine th_get (D := (dC, dI)) (ci := 7) (v := .int (z0 5)) (C := RX7) (T := TX7) (N := 34) hx hb hts inX7 hown hK hP (hLK _ ha0 (by decide)) oY0 rfl 5 (by decide) (hts _ T_274) (fun _ h9 => h9) rfl dX7_lays_1 ?_
  refine ax_eqi (y := v4) ev4.symm ?_
  refine lv_if_ne (tgt := 21) hx hb dX7_lays_4 (by decide) (fun c5 => ?_) (fun c5 => ?_)
  · have c5 := mt (ax_eq (n := 0) (by decide)).mpr c5
    exact W.vret hx hb hr (fun t ht hW => ⟨⟨F, rfl, ⟨trivial, trivial, hI, hfr, fun k hk => (y_fiZ oY0 (s_sub (by decide) hk)).trans ((hz0 k hk).trans (y_fiZ oY0 (s_sub (by decide) hk)).symm), (by rw [y_atE o2, y_fiZ oY0 (k := 5) (by decide), ← eF_5]; exact ⟨fun j _ _ => rfl, fun q => absurd q c5⟩)⟩, by rw [ht]; exact hP, va_K.moved hW.alike hK⟩, hS.F ht⟩) hS.2.2 dX7_lays_21
  · have c5 := (ax_eq (n := 0) (by decide)).mp c5
    refine lv_aload_n hx hb dX7_lays_7 rfl (lv_at hl 0 rfl) ?_
    refine th_get (D := (dC, dI)) (ci := 7) (v := .ref (A 12)) (C := RX7) (T := TX7) (N := 34) hx hb hts inX7 hown hK hP (hLK _ ha0 (by decide)) oY0 rfl 12 (by decide) (hts _ T_245) (fun _ h9 => h9) rfl dX7_lays_8 ?_
    refine lv_aload_n hx hb dX7_lays_11 rfl (lv_at hl 0 rfl) ?_
    refine va_calli (va_runV (As := []) (rest := [.ref (A 12)]) ⟨hx, hb, hml, hown, hts⟩ (y_X7_drafted l dC dI H.size hLK A hA F a0 ha0 hI) (cwV 0 hts (ax_gV T_293 T_294 T_295 T_265 T_28) rfl rfl rfl (by decide +kernel) ⟨Nat.le_of_ble_eq_true rfl, Nat.le_of_ble_eq_true rfl⟩) ⟨fun a U g mk q => ⟨q.1, s_pc (U := U) rfl rfl q.2⟩, s_recv hK hP (hLK _ ha0 (by decide)) (ci := 7) rfl oY0, fun U hU hW => ⟨rfl, s_pw hU hW hP hK hD hN⟩⟩ rfl rfl hl.1 rfl (lv_room (Nat.le_of_ble_eq_true rfl)) dX7_lays_12 ⟨Nat.zero_le _, Nat.zero_le _⟩) hS (fun q _ h => h) (fun q h => h) (fun r7 F8 t H1 locs ht hvm hw hB hz1 hk1 hS => ?_)
    obtain ⟨hP, hK1⟩ := hB
    rw [ht] at hP
    generalize H1 = H at hP hS ⊢
    clear hz1 hk1 hvm hK1
    obtain ⟨h9, h11, hI, hfr1, hzf, h10⟩ := hw
    have o12 : F8 (A 12) = .inl (cs 0, 400, .inl f1) := (hfr1 _ (by rw [(y_k12 hA)]; decide)).trans o2
    have oY13 : F8 a0 = .inr (7, y_fl A z0 q0) := (hfr1 _ (by rw [ha0]; decide)).trans oY0
    have hfr : ∀ b, K b ∉ [62] → F8 b = F b := fun b hb9 => (hfr1 b (fun q => hb9 (s_sub (by decide) q))).trans (hfr b hb9)
    replace h10 : (r7 = y_c f1 387) := by have q9 := h10; rw [y_atE o2] at q9; exact q9
    have h14 := congrArg Int32.toInt h10
    refine lv_iload_n hx hb dX7_lays_15 rfl (lv_at hl 1 rfl) ?_
    have rg15 : 0 ≤ r7.toInt ∧ r7.toInt ≤ 40 := ⟨by omega, by omega⟩
    have rg16 : 0 ≤ x1.toInt ∧ x1.toInt ≤ 7 := ⟨by omega, by omega⟩
    refine va_calli (va_runS (As := [.int r7, .int x1]) (rest := [.ref (A 12)]) ⟨hx, hb, hml, hown, hts⟩ (y_X7_lineAt l dC dI H.size F8 r7 x1 rg15 rg16) (cwS 2 hts (ax_gS T_1216 T_1218 T_265 T_1217) rfl rfl rfl (by decide +kernel) ⟨Nat.le_of_ble_eq_true rfl, Nat.le_of_ble_eq_true rfl⟩) ⟨fun a U g mk q => ⟨q.1, s_pc (U := U) rfl rfl q.2⟩, fun U hU hW => ⟨rfl, s_pw hU hW hP hK hD hN⟩⟩ rfl rfl hl.1 rfl (lv_room (Nat.le_of_ble_eq_true rfl)) dX7_lays_16 ⟨Nat.zero_le _, Nat.zero_le _⟩) hS (fun q _ h => h) (fun q h => h) (fun r18 F19 t H1 locs ht hvm hw hB hz1 hk1 hS => ?_)
    obtain ⟨hP, hK1⟩ := hB
    rw [ht] at hP
    generalize H1 = H at hP hS ⊢
    clear hz1 hk1 hvm hK1
    obtain ⟨h20, h22, hG9, h21⟩ := hw
    rw [hG9] at hP
    replace h21 : (r18.toInt = 8 * r7.toInt + x1.toInt) := by have q9 := h21; exact q9
    refine lv_iload_n hx hb dX7_lays_19 rfl (lv_at hl 2 rfl) ?_
    refine th_iast hx hb hK hP hD hS (hLK _ (y_k12 hA) (by decide)) 0 o12 rfl (th_in ⟨by omega, by omega⟩) dX7_lays_20 (fun H locs hP hS => ?_)
    obtain ⟨f23, u24⟩ : ∃ g : Nat → Int32, g = upd f1 (r18 : Int32).toNatClampNeg x2 := ⟨_, rfl⟩
    rw [← u24] at hP
    have b25 : y_bd 12 f23 := by rw [u24]; exact th_updJ (P := fun y => 0 ≤ y.toInt ∧ y.toInt ≤ 40) b3 (fun q => by have q2 := th_tn (by omega) q; omega)
    have hP : va_P (dC, dI) vwCl (va_pl L (va_up F8 (A 12) (.inl (cs 0, 400, .inl f23)))) H := hP
    obtain ⟨F26, hF27⟩ : ∃ G : Nat → va_E, G = va_up F8 (A 12) (.inl (cs 0, 400, .inl f23)) := ⟨_, rfl⟩
    rw [← hF27] at hP
    have hI : y_I K cs A F26 := by rw [hF27]; exact y_clA (i := 12) hA hI (by decide) b25
    have hfr : ∀ b, K b ∉ [62] → F26 b = F b := by rw [hF27]; exact s_fr hfr (y_k12 hA) (by decide)
    have oY28 : F26 a0 = .inr (7, y_fl A z0 q0) := by rw [hF27]; exact th_ne (th_kd ha0 (y_k12 hA) (by decide)) oY13
    have o29 : F26 (A 12) = .inl (cs 0, 400, .inl f23) := by rw [hF27]; exact th_up
    have u30 : ∀ j : Int, 0 ≤ j → y_c f23 j = if j = r18.toInt then x2 else y_c f1 j := by rw [u24]; exact y_cu rfl (by omega)
    exact W.vret hx hb hr (fun t ht hW => ⟨⟨F26, rfl, ⟨trivial, trivial, hI, hfr, fun k hk => (y_fiZ oY28 (s_sub (by decide) hk)).trans ((hz0 k hk).trans (y_fiZ oY0 (s_sub (by decide) hk)).symm), (by rw [y_atE o2, y_atE o29, y_fiZ oY0 (k := 5) (by decide), ← eF_5]; exact ⟨fun j h0 h1 => by rw [u30 j h0, if_neg (by rw [h10] at h21; omega)], fun _ => by rw [u30 _ (by rw [h10] at h21; omega), if_pos (by rw [h10] at h21; omega)]⟩)⟩, by rw [ht]; exact hP, va_K.moved hW.alike hK⟩, hS.F ht⟩) hS.2.2 dX7_lays_21

set_option maxHeartbeats 4000000 in
set_option maxRecDepth 100000 in
theorem y_X7_registerTold (l : Launch) (dC : Nat → ClassId) (dI : Nat → Nat → Nat) (sz : Nat) {L : List Nat} {K : Nat → Nat} {cs : Nat → ClassId} (hLK : ∀ a {k : Nat}, K a = k → k ≠ 0 → a ∈ L) (A : Nat → Nat) (hA : y_A K A) (F : Nat → va_E) (a0 : Nat) (ha0 : K a0 = 9) (hI : y_I K cs A F) : Met l yX7_registerTold (Cond.code yX7_registerTold cX7_registerTold 2 (some .int) :: T0) ({ frames := 3, cells := 0, slots := 0, locals := 64 }) (va_Pc [.ref a0] (s_W dC dI sz L F [(cs 0, .int), (cs 1, .byte), (cs 2, .long), (cs 3, .object RX5), (cs 4, .object RX4), (cs 5, .array .int), (cs 6, .char), (cs 7, .boolean)])) (va_Qi (fun (r : Int32) (G : Nat → va_E) => (0 ≤ r.toInt ∧ r.toInt ≤ 3) ∧ True ∧ y_I K cs A G ∧ (∀ b, K b ∉ [9] → G b = F b) ∧ (∀ k, k ∈ ([1, 3, 7, 8, 11, 15, 16, 19, 25, 26, 27, 31, 32] : List Nat) → y_fi G a0 k = y_fi F a0 k) ∧ (((y_fi F a0 5).toInt = 0 ∨ ¬ (y_fi G a0 5).toInt = 0) ∧ ((y_fi G a0 5).toInt = 0 → 0 ≤ r.toInt ∧ r.toInt ≤ 3))) (fun (G : Nat → va_E) (t : State) => va_P (dC, dI) vwCl (va_pl L G) t.heap ∧ va_K (dC, dI) vwCl [(cs 0, .int), (cs 1, .byte), (cs 2, .long), (cs 3, .object RX5), (cs 4, .object RX4), (cs 5, .array .int), (cs 6, .char), (cs 7, .boolean)] t) (fun q => q ∈ L)) 0 0 (fun q => q ∈ L) := by
  refine Met.ofW (cc := cX7_registerTold) (maxL := 2) (ret := (some .int)) (by decide) rfl ?_
  intro p e s m args below meth c s₁ B hml hv
  obtain ⟨rfl, hsz, hP, hK, hD, hN⟩ := hv
  have hx := B.exec
  have hb := B.bytes
  have hr := B.returns
  have hts : ∀ w ∈ T0, w.before _ s = true := fun w h => atoms_spec (ws := Cond.code yX7_registerTold cX7_registerTold 2 (some .int) :: T0) B.pre w (List.mem_cons_of_mem _ h)
  have hown : s.vm.findClass RX7 = some m.cls := findClass_of_methodNamed B.named
  have hlocks := B.notSynchronized
  have hS : va_S (fun q => q ∈ L) s.heap s.heap [] := va_S.rf
  have hfr : ∀ b, K b ∉ [9] → F b = F b := fun _ _ => rfl
  have hl := lv_entry ([.ref a0]) (n := 2) (Nat.le_of_ble_eq_true rfl)
  rw [lg_entry_eq]
  generalize (lg_sl ([.ref a0]) ++ List.replicate (2 - (lg_sl ([.ref a0])).length) Slot.unset).toArray = ls at hl ⊢
  have hl : lv_has ls 2 [(0, .ref a0)] := hl
  refine s_gen hP hS (fun H locs hP hS => ?_)
  obtain ⟨z0, q0, oY0, bz0, bq0⟩ := y_opY hI ha0
  have hz0 : ∀ k, k ∈ ([1, 3, 7, 8, 11, 15, 16, 19, 25, 26, 27, 31, 32] : List Nat) → z0 k = z0 k := fun _ _ => rfl
  obtain ⟨v1, ev1⟩ : ∃ y : Int32, y = z0 5 := ⟨_, rfl⟩
  have eF_5 := ev1
  have e0_v1 := ev1
  refine th_join (fun g H locs => ∃ (G : Nat → va_E) (ls : Array Slot) (w2 : Int32), g = F0 m 50 ls [] ∧ lv_has ls 2 [(0, .ref a0), (1, .int w2)] ∧ va_P (dC, dI) vwCl (va_pl L G) H ∧ va_S (fun q => q ∈ L) s.heap H locs ∧ y_I K cs A G ∧ (∀ b, K b ∉ [9] → G b = F b) ∧ (∀ k, k ∈ ([1, 3, 7, 8, 11, 15, 16, 19, 25, 26, 27, 31, 32] : List Nat) → y_fi G a0 k = z0 k) ∧ True ∧ ((v1.toInt = 0 ∨ ¬ (y_fi G a0 5).toInt = 0) ∧ ((y_fi G a0 5).toInt = 0 → 16 ≤ w2.toInt ∧ w2.toInt ≤ 19))) (fun K50 => ?_) ?_
  refine th_join (fun g H locs => ∃ (G : Nat → va_E) (ls : Array Slot) (w3 : Int32) (w4 : Int32), g = F0 m 47 ls [.int w4, .int 1, .ref a0] ∧ lv_has ls 2 [(0, .ref a0), (1, .int w3)] ∧ va_P (dC, dI) vwCl (va_pl L G) H ∧ va_S (fun q => q ∈ L) s.heap H locs ∧ y_I K cs A G ∧ (∀ b, K b ∉ [9] → G b = F b) ∧ (∀ k, k ∈ ([1, 3, 7, 8, 11, 15, 16, 19, 25, 26, 27, 31, 32] : List Nat) → y_fi G a0 k = z0 k) ∧ True ∧ (0 ≤ w4.toInt ∧ w4.toInt ≤ 1600) ∧ (v1.toInt = (y_fi G a0 5).toInt)) (fun K47 => ?_) ?_
  · refine lv_aload_n hx hb dX7_registerTold_0 rfl (lv_at hl 0 rfl) ?_
    refine va_calli (va_runV (As := []) (rest := []) ⟨hx, hb, hml, hown, hts⟩ (y_X7_ownHere l dC dI H.size hLK A hA F a0 ha0 hI) (cwV 0 hts (ax_gV T_283 T_284 T_285 T_265 T_25) rfl rfl rfl (by decide +kernel) ⟨Nat.le_of_ble_eq_true rfl, Nat.le_of_ble_eq_true rfl⟩) ⟨fun a U g mk q => ⟨q.1, s_pc (U := U) rfl rfl q.2⟩, s_recv hK hP (hLK _ ha0 (by decide)) (ci := 7) rfl oY0, fun U hU hW => ⟨rfl, s_pw hU hW hP hK hD hN⟩⟩ rfl rfl hl.1 rfl (lv_room (Nat.le_of_ble_eq_true rfl)) dX7_registerTold_1 ⟨Nat.zero_le _, Nat.zero_le _⟩) hS (fun q _ h => h) (fun q h => h) (fun r6 F7 t H1 locs ht hvm hw hB hz1 hk1 hS => ?_)
    obtain ⟨hP, hK1⟩ := hB
    rw [ht] at hP
    generalize H1 = H at hP hS ⊢
    clear hz1 hk1 hvm hK1
    obtain ⟨h8, h10, hI, hfr1, hzf, h9⟩ := hw
    obtain ⟨z11, q12, oY13, bz14, bq15⟩ := y_opY hI ha0
    have hzf : ∀ k, k ∈ ([1, 3, 4, 5, 6, 7, 8, 11, 15, 16, 19, 25, 26, 27, 31, 32] : List Nat) → z11 k = z0 k := fun k hk => by have q9 := hzf k hk; rw [y_fiZ oY13 (s_sub (by decide) hk), y_fiZ oY0 (s_sub (by decide) hk)] at q9; exact q9
    have hz0 : ∀ k, k ∈ ([1, 3, 7, 8, 11, 15, 16, 19, 25, 26, 27, 31, 32] : List Nat) → z11 k = z0 k := fun k hk => (hzf k (s_sub (by decide) hk)).trans (hz0 k hk)
    have ev1 : v1 = z11 5 := ev1.trans (hzf 5 (by decide)).symm
    have hfr : ∀ b, K b ∉ [9] → F7 b = F b := fun b hb9 => (hfr1 b (fun q => hb9 (s_sub (by decide) q))).trans (hfr b hb9)
    refine lv_istore_n (lv' := [(1, .int r6), (0, .ref a0)]) hx hb dX7_registerTold_4 rfl hl (by decide) rfl (fun ls hl => ?_)
    refine lv_aload_n hx hb dX7_registerTold_5 rfl (lv_at hl 1 rfl) ?_
    refine th_get (D := (dC, dI)) (ci := 7) (v := .int (z11 5)) (C := RX7) (T := TX7) (N := 34) hx hb hts inX7 hown hK hP (hLK _ ha0 (by decide)) oY13 rfl 5 (by decide) (hts _ T_274) (fun _ h9 => h9) rfl dX7_registerTold_6 ?_
    refine ax_eqi (y := v1) ev1.symm ?_
    refine lv_if_ne (tgt := 50) hx hb dX7_registerTold_9 (by decide) (fun c16 => ?_) (fun c16 => ?_)
    · have c16 := mt (ax_eq (n := 0) (by decide)).mpr c16
      exact K50 _ _ _ ⟨F7, _, r6, rfl, lv_sub hl [1, 0] rfl, hP, hS, hI, hfr, (fun k hk => (y_fiZ oY13 (s_sub (by decide) hk)).trans (hz0 k hk)), trivial, (by first | (rw [y_fiZ oY13 (k := 5) (by decide), ← ev1]; omega) | rw [y_fiZ oY13 (k := 5) (by decide), ← ev1])⟩
    · have c16 := (ax_eq (n := 0) (by decide)).mp c16
      refine lv_iload_n hx hb dX7_registerTold_12 rfl (lv_at hl 0 rfl) ?_
      refine lv_i2l hx hb dX7_registerTold_13 rfl ?_
      refine lv_topl (fun v17 ev17 => ?_)
      have qv17 : v17.toInt = r6.toInt := y_i2l ev17
      refine lv_ldc2 hx hb hown (hts _ T_1305) dX7_registerTold_14 ?_
      refine lv_ldc2 hx hb hown (hts _ T_1306) dX7_registerTold_17 ?_
      refine va_calli (va_runS (As := [.long v17, .long 16, .long 19]) (rest := []) ⟨hx, hb, hml, hown, hts⟩ (y_X7_isIn l dC dI H.size F7 v17 16 19) (cwS 3 hts (ax_gS T_267 T_268 T_265 T_21) rfl rfl rfl (by decide +kernel) ⟨Nat.le_of_ble_eq_true rfl, Nat.le_of_ble_eq_true rfl⟩) ⟨fun a U g mk q => ⟨q.1, s_pc (U := U) rfl rfl q.2⟩, fun U hU hW => ⟨rfl, s_pw hU hW hP hK hD hN⟩⟩ rfl rfl hl.1 rfl (lv_room (Nat.le_of_ble_eq_true rfl)) dX7_registerTold_20 ⟨Nat.zero_le _, Nat.zero_le _⟩) hS (fun q _ h => h) (fun q h => h) (fun r19 F20 t H1 locs ht hvm hw hB hz1 hk1 hS => ?_)
      obtain ⟨hP, hK1⟩ := hB
      rw [ht] at hP
      generalize H1 = H at hP hS ⊢
      clear hz1 hk1 hvm hK1
      obtain ⟨h21, h23, hG9, h22⟩ := hw
      rw [hG9] at hP
      replace h22 : ((r19.toInt = 0 ∧ (v17.toInt < 16 ∨ 19 < v17.toInt)) ∨ (r19.toInt = 1 ∧ 16 ≤ v17.toInt ∧ v17.toInt ≤ 19)) := by have q9 := h22; exact q9
      refine lv_if_ne (tgt := 50) hx hb dX7_registerTold_23 (by decide) (fun c24 => ?_) (fun c24 => ?_)
      · have c24 := mt (ax_eq (n := 0) (by decide)).mpr c24
        exact K50 _ _ _ ⟨F7, _, r6, rfl, lv_sub hl [1, 0] rfl, hP, hS, hI, hfr, (fun k hk => (y_fiZ oY13 (s_sub (by decide) hk)).trans (hz0 k hk)), trivial, (by first | (rw [y_fiZ oY13 (k := 5) (by decide), ← ev1]; omega) | rw [y_fiZ oY13 (k := 5) (by decide), ← ev1])⟩
      · have c24 := (ax_eq (n := 0) (by decide)).mp c24
        refine lv_aload_n hx hb dX7_registerTold_26 rfl (lv_at hl 1 rfl) ?_
        refine lv_iconst (v := 1) hx hb dX7_registerTold_27 (by decide) ?_
        refine lv_aload_n hx hb dX7_registerTold_28 rfl (lv_at hl 1 rfl) ?_
        refine va_calli (va_runV (As := []) (rest := [.int 1, .ref a0]) ⟨hx, hb, hml, hown, hts⟩ (y_X7_look l dC dI H.size hLK A hA F7 a0 ha0 hI) (cwV 0 hts (ax_gV T_275 T_276 T_277 T_265 T_22) rfl rfl rfl (by decide +kernel) ⟨Nat.le_of_ble_eq_true rfl, Nat.le_of_ble_eq_true rfl⟩) ⟨fun a U g mk q => ⟨q.1, s_pc (U := U) rfl rfl q.2⟩, s_recv hK hP (hLK _ ha0 (by decide)) (ci := 7) rfl oY13, fun U hU hW => ⟨rfl, s_pw hU hW hP hK hD hN⟩⟩ rfl rfl hl.1 rfl (lv_room (Nat.le_of_ble_eq_true rfl)) dX7_registerTold_29 ⟨Nat.zero_le _, Nat.zero_le _⟩) hS (fun q _ h => h) (fun q h => h) (fun r26 F27 t H1 locs ht hvm hw hB hz1 hk1 hS => ?_)
        obtain ⟨hP, hK1⟩ := hB
        rw [ht] at hP
        generalize H1 = H at hP hS ⊢
        clear hz1 hk1 hvm hK1
        obtain ⟨h28, h30, hI, hfr1, hzf, h29⟩ := hw
        obtain ⟨z31, q32, oY33, bz34, bq35⟩ := y_opY hI ha0
        have hzf : ∀ k, k ∈ ([1, 3, 4, 5, 6, 7, 8, 11, 15, 16, 19, 25, 26, 27, 31, 32] : List Nat) → z31 k = z11 k := fun k hk => by have q9 := hzf k hk; rw [y_fiZ oY33 (s_sub (by decide) hk), y_fiZ oY13 (s_sub (by decide) hk)] at q9; exact q9
        have hz0 : ∀ k, k ∈ ([1, 3, 7, 8, 11, 15, 16, 19, 25, 26, 27, 31, 32] : List Nat) → z31 k = z0 k := fun k hk => (hzf k (s_sub (by decide) hk)).trans (hz0 k hk)
        have ev1 : v1 = z31 5 := ev1.trans (hzf 5 (by decide)).symm
        have hfr : ∀ b, K b ∉ [9] → F27 b = F b := fun b hb9 => (hfr1 b (fun q => hb9 (s_sub (by decide) q))).trans (hfr b hb9)
        obtain ⟨v36, ev36⟩ : ∃ y : Int32, y = z31 2 := ⟨_, rfl⟩
        have qv36 : 0 ≤ v36.toInt ∧ v36.toInt ≤ 1600 := by rw [ev36]; exact y_bY2 bz34
        obtain ⟨v37, ev37⟩ : ∃ y : Int32, y = z31 3 := ⟨_, rfl⟩
        have qv37 : 0 ≤ v37.toInt ∧ v37.toInt ≤ 1600 := by rw [ev37]; exact y_bY3 bz34
        replace h29 : (r26.toInt = -1 ∨ v36.toInt < v37.toInt) := by have q9 := h29; rw [y_fiZ oY33 (k := 2) (by decide), ← ev36, y_fiZ oY33 (k := 3) (by decide), ← ev37] at q9; exact q9
        refine lv_iconst (v := (-1)) hx hb dX7_registerTold_32 (by decide) ?_
        refine lv_icmp_ne (tgt := 43) hx hb dX7_registerTold_33 (by decide) (fun c38 => ?_) (fun c38 => ?_)
        · have c38 := mt (ax_eq (n := (-1)) (by decide)).mpr c38
          refine lv_aload_n hx hb dX7_registerTold_43 rfl (lv_at hl 1 rfl) ?_
          refine th_get (D := (dC, dI)) (ci := 7) (v := .int (z31 2)) (C := RX7) (T := TX7) (N := 34) hx hb hts inX7 hown hK hP (hLK _ ha0 (by decide)) oY33 rfl 2 (by decide) (hts _ T_272) (fun _ h9 => h9) rfl dX7_registerTold_44 ?_
          refine ax_eqi (y := v36) ev36.symm ?_
          exact K47 _ _ _ ⟨F27, _, r6, v36, rfl, lv_sub hl [1, 0] rfl, hP, hS, hI, hfr, (fun k hk => (y_fiZ oY33 (s_sub (by decide) hk)).trans (hz0 k hk)), trivial, ⟨by omega, by omega⟩, (by first | (rw [y_fiZ oY33 (k := 5) (by decide), ← ev1]; omega) | rw [y_fiZ oY33 (k := 5) (by decide), ← ev1])⟩
        · have c38 := (ax_eq (n := (-1)) (by decide)).mp c38
          refine lv_aload_n hx hb dX7_registerTold_36 rfl (lv_at hl 1 rfl) ?_
          refine th_get (D := (dC, dI)) (ci := 7) (v := .int (z31 3)) (C := RX7) (T := TX7) (N := 34) hx hb hts inX7 hown hK hP (hLK _ ha0 (by decide)) oY33 rfl 3 (by decide) (hts _ T_273) (fun _ h9 => h9) rfl dX7_registerTold_37 ?_
          refine ax_eqi (y := v37) ev37.symm ?_
          refine lv_goto (tgt := 47) hx hb dX7_registerTold_40 (by decide) ?_
          exact K47 _ _ _ ⟨F27, _, r6, v37, rfl, lv_sub hl [1, 0] rfl, hP, hS, hI, hfr, (fun k hk => (y_fiZ oY33 (s_sub (by decide) hk)).trans (hz0 k hk)), trivial, ⟨by omega, by omega⟩, (by first | (rw [y_fiZ oY33 (k := 5) (by decide), ← ev1]; omega) | rw [y_fiZ oY33 (k := 5) (by decide), ← ev1])⟩
  · intro g H locs hq
    obtain ⟨F42, ls, w3, w4, rfl, hl, hP, hS, hI, hfr, hz0, h39, h40, h41⟩ := hq
    obtain ⟨z43, q44, oY45, bz46, bq47⟩ := y_opY hI ha0
    have hz0 : ∀ k, k ∈ ([1, 3, 7, 8, 11, 15, 16, 19, 25, 26, 27, 31, 32] : List Nat) → z43 k = z0 k := fun k hk => (y_fiZ oY45 (s_sub (by decide) hk)).symm.trans (hz0 k hk)
    obtain ⟨v48, ev48⟩ : ∃ y : Int32, y = z43 5 := ⟨_, rfl⟩
    replace h41 : (v1.toInt = v48.toInt) := by have q9 := h41; rw [y_fiZ oY45 (k := 5) (by decide), ← ev48] at q9; exact q9
    refine va_callv (va_runV (As := [.int 1, .int w4]) (rest := []) ⟨hx, hb, hml, hown, hts⟩ (y_X7_fail l dC dI H.size hLK A hA F42 a0 1 w4 ha0 (by decide) hI) (cwV 2 hts (ax_gV T_290 T_291 T_292 T_265 T_27) rfl rfl rfl (by decide +kernel) ⟨Nat.le_of_ble_eq_true rfl, Nat.le_of_ble_eq_true rfl⟩) ⟨fun a U g mk q => ⟨q.1, s_pc (U := U) rfl rfl q.2⟩, s_recv hK hP (hLK _ ha0 (by decide)) (ci := 7) rfl oY45, fun U hU hW => ⟨rfl, s_pw hU hW hP hK hD hN⟩⟩ rfl rfl hl.1 rfl (lv_room (Nat.le_of_ble_eq_true rfl)) dX7_registerTold_47 ⟨Nat.zero_le _, Nat.zero_le _⟩) hS (fun q _ h => h) (fun q h => h) (fun F50 t H1 locs ht hvm hw hB hz1 hk1 hS => ?_)
    obtain ⟨hP, hK1⟩ := hB
    rw [ht] at hP
    generalize H1 = H at hP hS ⊢
    clear hz1 hk1 hvm hK1
    obtain ⟨h51, h53, hI, hfr1, hzf, h52⟩ := hw
    obtain ⟨z54, q55, oY56, bz57, bq58⟩ := y_opY hI ha0
    have hzf : ∀ k, k ∈ ([1, 2, 3, 4, 7, 8, 11, 15, 16, 19, 25, 26, 27, 31, 32] : List Nat) → z54 k = z43 k := fun k hk => by have q9 := hzf k hk; rw [y_fiZ oY56 (s_sub (by decide) hk), y_fiZ oY45 (s_sub (by decide) hk)] at q9; exact q9
    have hz0 : ∀ k, k ∈ ([1, 3, 7, 8, 11, 15, 16, 19, 25, 26, 27, 31, 32] : List Nat) → z54 k = z0 k := fun k hk => (hzf k (s_sub (by decide) hk)).trans (hz0 k hk)
    have hfr : ∀ b, K b ∉ [9] → F50 b = F b := fun b hb9 => (hfr1 b (fun q => hb9 (s_sub (by decide) q))).trans (hfr b hb9)
    obtain ⟨v59, ev59⟩ : ∃ y : Int32, y = z54 5 := ⟨_, rfl⟩
    replace h52 : (¬ v59.toInt = 0) := by have q9 := h52; rw [y_fiZ oY56 (k := 5) (by decide), ← ev59] at q9; exact q9
    exact K50 _ _ _ ⟨F50, _, w3, rfl, lv_sub hl [0, 1] rfl, hP, hS, hI, hfr, (fun k hk => (y_fiZ oY56 (s_sub (by decide) hk)).trans (hz0 k hk)), trivial, (by first | (rw [y_fiZ oY56 (k := 5) (by decide), ← ev59]; omega) | rw [y_fiZ oY56 (k := 5) (by decide), ← ev59])⟩
  · intro g H locs hq
    obtain ⟨F62, ls, w2, rfl, hl, hP, hS, hI, hfr, hz0, h60, h61⟩ := hq
    obtain ⟨z63, q64, oY65, bz66, bq67⟩ := y_opY hI ha0
    have hz0 : ∀ k, k ∈ ([1, 3, 7, 8, 11, 15, 16, 19, 25, 26, 27, 31, 32] : List Nat) → z63 k = z0 k := fun k hk => (y_fiZ oY65 (s_sub (by decide) hk)).symm.trans (hz0 k hk)
    obtain ⟨v68, ev68⟩ : ∃ y : Int32, y = z63 5 := ⟨_, rfl⟩
    replace h61 : ((v1.toInt = 0 ∨ ¬ v68.toInt = 0) ∧ (v68.toInt = 0 → 16 ≤ w2.toInt ∧ w2.toInt ≤ 19)) := by have q9 := h61; rw [y_fiZ oY65 (k := 5) (by decide), ← ev68] at q9; exact q9
    refine lv_aload_n hx hb dX7_registerTold_50 rfl (lv_at hl 0 rfl) ?_
    refine th_get (D := (dC, dI)) (ci := 7) (v := .int (z63 5)) (C := RX7) (T := TX7) (N := 34) hx hb hts inX7 hown hK hP (hLK _ ha0 (by decide)) oY65 rfl 5 (by decide) (hts _ T_274) (fun _ h9 => h9) rfl dX7_registerTold_51 ?_
    refine ax_eqi (y := v68) ev68.symm ?_
    refine lv_if_eq (tgt := 59) hx hb dX7_registerTold_54 (by decide) (fun c69 => ?_) (fun c69 => ?_)
    · have c69 := (ax_eq (n := 0) (by decide)).mp c69
      refine lv_aload_n hx hb dX7_registerTold_59 rfl (lv_at hl 0 rfl) ?_
      refine va_callv (va_runV (As := []) (rest := []) ⟨hx, hb, hml, hown, hts⟩ (y_X7_passes l dC dI H.size hLK A hA F62 a0 ha0 hI) (cwV 0 hts (ax_gV T_1257 T_1259 T_1260 T_265 T_1258) rfl rfl rfl (by decide +kernel) ⟨Nat.le_of_ble_eq_true rfl, Nat.le_of_ble_eq_true rfl⟩) ⟨fun a U g mk q => ⟨q.1, s_pc (U := U) rfl rfl q.2⟩, s_recv hK hP (hLK _ ha0 (by decide)) (ci := 7) rfl oY65, fun U hU hW => ⟨rfl, s_pw hU hW hP hK hD hN⟩⟩ rfl rfl hl.1 rfl (lv_room (Nat.le_of_ble_eq_true rfl)) dX7_registerTold_60 ⟨Nat.zero_le _, Nat.zero_le _⟩) hS (fun q _ h => h) (fun q h => h) (fun F71 t H1 locs ht hvm hw hB hz1 hk1 hS => ?_)
      obtain ⟨hP, hK1⟩ := hB
      rw [ht] at hP
      generalize H1 = H at hP hS ⊢
      clear hz1 hk1 hvm hK1
      obtain ⟨h72, h74, hI, hfr1, hzf, h73⟩ := hw
      obtain ⟨z75, q76, oY77, bz78, bq79⟩ := y_opY hI ha0
      have hzf : ∀ k, k ∈ ([1, 3, 5, 6, 7, 8, 11, 15, 16, 19, 25, 26, 27, 31, 32] : List Nat) → z75 k = z63 k := fun k hk => by have q9 := hzf k hk; rw [y_fiZ oY77 (s_sub (by decide) hk), y_fiZ oY65 (s_sub (by decide) hk)] at q9; exact q9
      have hz0 : ∀ k, k ∈ ([1, 3, 7, 8, 11, 15, 16, 19, 25, 26, 27, 31, 32] : List Nat) → z75 k = z0 k := fun k hk => (hzf k (s_sub (by decide) hk)).trans (hz0 k hk)
      have ev68 : v68 = z75 5 := ev68.trans (hzf 5 (by decide)).symm
      have hfr : ∀ b, K b ∉ [9] → F71 b = F b := fun b hb9 => (hfr1 b (fun q => hb9 (s_sub (by decide) q))).trans (hfr b hb9)
      refine lv_iload_n hx hb dX7_registerTold_63 rfl (lv_at hl 1 rfl) ?_
      have h80 : 16 ≤ w2.toInt ∧ w2.toInt ≤ 19 := ⟨by omega, by omega⟩
      refine lv_bipush (v := 16) hx hb dX7_registerTold_64 (by decide) ?_
      refine lv_isub hx hb dX7_registerTold_66 ?_
      refine lv_topi (fun v81 ev81 => ?_)
      have qv81 : v81.toInt = w2.toInt - 16 := by rw [ev81]; exact th_sub rfl (by decide) ⟨by omega, by omega⟩
      exact W.iret (v := v81) hx hb hr (fun t ht hW => ⟨⟨v81, F71, rfl, ⟨⟨by omega, by omega⟩, trivial, hI, hfr, fun k hk => (y_fiZ oY77 (s_sub (by decide) hk)).trans ((hz0 k hk).trans (y_fiZ oY0 (s_sub (by decide) hk)).symm), (by first | (rw [y_fiZ oY0 (k := 5) (by decide), ← eF_5, y_fiZ oY77 (k := 5) (by decide), ← ev68]; omega) | rw [y_fiZ oY0 (k := 5) (by decide), ← eF_5, y_fiZ oY77 (k := 5) (by decide), ← ev68])⟩, by rw [ht]; exact hP, va_K.moved hW.alike hK⟩, hS.F ht⟩) hS.2.2 dX7_registerTold_67
    · have c69 := mt (ax_eq (n := 0) (by decide)).mpr c69
      refine lv_iconst (v := 0) hx hb dX7_registerTold_57 (by decide) ?_
      have h82 : (0 : Int32).toInt = 0 := by decide
      exact W.iret (v := 0) hx hb hr (fun t ht hW => ⟨⟨0, F62, rfl, ⟨(by decide), trivial, hI, hfr, fun k hk => (y_fiZ oY65 (s_sub (by decide) hk)).trans ((hz0 k hk).trans (y_fiZ oY0 (s_sub (by decide) hk)).symm), (by first | (rw [y_fiZ oY0 (k := 5) (by decide), ← eF_5, y_fiZ oY65 (k := 5) (by decide), ← ev68]; omega) | rw [y_fiZ oY0 (k := 5) (by decide), ← eF_5, y_fiZ oY65 (k := 5) (by decide), ← ev68])⟩, by rw [ht]; exact hP, va_K.moved hW.alike hK⟩, hS.F ht⟩) hS.2.2 dX7_registerTold_58

set_option maxHeartbeats 4000000 in
set_option maxRecDepth 100000 in
theorem y_X7_partTold (l : Launch) (dC : Nat → ClassId) (dI : Nat → Nat → Nat) (sz : Nat) {L : List Nat} {K : Nat → Nat} {cs : Nat → ClassId} (hLK : ∀ a {k : Nat}, K a = k → k ≠ 0 → a ∈ L) (A : Nat → Nat) (hA : y_A K A) (F : Nat → va_E) (a0 : Nat) (ha0 : K a0 = 9) (hI : y_I K cs A F) : Met l yX7_partTold (Cond.code yX7_partTold cX7_partTold 2 (some .int) :: T0) ({ frames := 4, cells := 0, slots := 0, locals := 85 }) (va_Pc [.ref a0] (s_W dC dI sz L F [(cs 0, .int), (cs 1, .byte), (cs 2, .long), (cs 3, .object RX5), (cs 4, .object RX4), (cs 5, .array .int), (cs 6, .char), (cs 7, .boolean)])) (va_Qi (fun (r : Int32) (G : Nat → va_E) => True ∧ True ∧ y_I K cs A G ∧ (∀ b, K b ∉ [9] → G b = F b) ∧ (∀ k, k ∈ ([1, 3, 7, 8, 11, 15, 16, 19, 25, 26, 27, 31, 32] : List Nat) → y_fi G a0 k = y_fi F a0 k) ∧ (((y_fi F a0 5).toInt = 0 ∨ ¬ (y_fi G a0 5).toInt = 0) ∧ ((y_fi G a0 5).toInt = 0 → -4 ≤ r.toInt ∧ r.toInt ≤ 999))) (fun (G : Nat → va_E) (t : State) => va_P (dC, dI) vwCl (va_pl L G) t.heap ∧ va_K (dC, dI) vwCl [(cs 0, .int), (cs 1, .byte), (cs 2, .long), (cs 3, .object RX5), (cs 4, .object RX4), (cs 5, .array .int), (cs 6, .char), (cs 7, .boolean)] t) (fun q => q ∈ L)) 0 0 (fun q => q ∈ L) := by
  refine Met.ofW (cc := cX7_partTold) (maxL := 2) (ret := (some .int)) (by decide) rfl ?_
  intro p e s m args below meth c s₁ B hml hv
  obtain ⟨rfl, hsz, hP, hK, hD, hN⟩ := hv
  have hx := B.exec
  have hb := B.bytes
  have hr := B.returns
  have hts : ∀ w ∈ T0, w.before _ s = true := fun w h => atoms_spec (ws := Cond.code yX7_partTold cX7_partTold 2 (some .int) :: T0) B.pre w (List.mem_cons_of_mem _ h)
  have hown : s.vm.findClass RX7 = some m.cls := findClass_of_methodNamed B.named
  have hlocks := B.notSynchronized
  have hS : va_S (fun q => q ∈ L) s.heap s.heap [] := va_S.rf
  have hfr : ∀ b, K b ∉ [9] → F b = F b := fun _ _ => rfl
  have hl := lv_entry ([.ref a0]) (n := 2) (Nat.le_of_ble_eq_true rfl)
  rw [lg_entry_eq]
  generalize (lg_sl ([.ref a0]) ++ List.replicate (2 - (lg_sl ([.ref a0])).length) Slot.unset).toArray = ls at hl ⊢
  have hl : lv_has ls 2 [(0, .ref a0)] := hl
  refine s_gen hP hS (fun H locs hP hS => ?_)
  obtain ⟨z0, q0, oY0, bz0, bq0⟩ := y_opY hI ha0
  have hz0 : ∀ k, k ∈ ([1, 3, 7, 8, 11, 15, 16, 19, 25, 26, 27, 31, 32] : List Nat) → z0 k = z0 k := fun _ _ => rfl
  obtain ⟨v1, ev1⟩ : ∃ y : Int32, y = z0 5 := ⟨_, rfl⟩
  have eF_5 := ev1
  have e0_v1 := ev1
  refine th_join (fun g H locs => ∃ (G : Nat → va_E) (ls : Array Slot), g = F0 m 39 ls [] ∧ lv_has ls 2 [(0, .ref a0)] ∧ va_P (dC, dI) vwCl (va_pl L G) H ∧ va_S (fun q => q ∈ L) s.heap H locs ∧ y_I K cs A G ∧ (∀ b, K b ∉ [9] → G b = F b) ∧ (∀ k, k ∈ ([1, 3, 7, 8, 11, 15, 16, 19, 25, 26, 27, 31, 32] : List Nat) → y_fi G a0 k = z0 k) ∧ (v1.toInt = (y_fi G a0 5).toInt)) (fun K39 => ?_) ?_
  · refine lv_aload_n hx hb dX7_partTold_0 rfl (lv_at hl 0 rfl) ?_
    refine va_calli (va_runV (As := []) (rest := []) ⟨hx, hb, hml, hown, hts⟩ (y_X7_look l dC dI H.size hLK A hA F a0 ha0 hI) (cwV 0 hts (ax_gV T_275 T_276 T_277 T_265 T_22) rfl rfl rfl (by decide +kernel) ⟨Nat.le_of_ble_eq_true rfl, Nat.le_of_ble_eq_true rfl⟩) ⟨fun a U g mk q => ⟨q.1, s_pc (U := U) rfl rfl q.2⟩, s_recv hK hP (hLK _ ha0 (by decide)) (ci := 7) rfl oY0, fun U hU hW => ⟨rfl, s_pw hU hW hP hK hD hN⟩⟩ rfl rfl hl.1 rfl (lv_room (Nat.le_of_ble_eq_true rfl)) dX7_partTold_1 ⟨Nat.zero_le _, Nat.zero_le _⟩) hS (fun q _ h => h) (fun q h => h) (fun r3 F4 t H1 locs ht hvm hw hB hz1 hk1 hS => ?_)
    obtain ⟨hP, hK1⟩ := hB
    rw [ht] at hP
    generalize H1 = H at hP hS ⊢
    clear hz1 hk1 hvm hK1
    obtain ⟨h5, h7, hI, hfr1, hzf, h6⟩ := hw
    obtain ⟨z8, q9, oY10, bz11, bq12⟩ := y_opY hI ha0
    have hzf : ∀ k, k ∈ ([1, 3, 4, 5, 6, 7, 8, 11, 15, 16, 19, 25, 26, 27, 31, 32] : List Nat) → z8 k = z0 k := fun k hk => by have q9 := hzf k hk; rw [y_fiZ oY10 (s_sub (by decide) hk), y_fiZ oY0 (s_sub (by decide) hk)] at q9; exact q9
    have hz0 : ∀ k, k ∈ ([1, 3, 7, 8, 11, 15, 16, 19, 25, 26, 27, 31, 32] : List Nat) → z8 k = z0 k := fun k hk => (hzf k (s_sub (by decide) hk)).trans (hz0 k hk)
    have ev1 : v1 = z8 5 := ev1.trans (hzf 5 (by decide)).symm
    have hfr : ∀ b, K b ∉ [9] → F4 b = F b := fun b hb9 => (hfr1 b (fun q => hb9 (s_sub (by decide) q))).trans (hfr b hb9)
    obtain ⟨v13, ev13⟩ : ∃ y : Int32, y = z8 2 := ⟨_, rfl⟩
    have qv13 : 0 ≤ v13.toInt ∧ v13.toInt ≤ 1600 := by rw [ev13]; exact y_bY2 bz11
    obtain ⟨v14, ev14⟩ : ∃ y : Int32, y = z8 3 := ⟨_, rfl⟩
    have qv14 : 0 ≤ v14.toInt ∧ v14.toInt ≤ 1600 := by rw [ev14]; exact y_bY3 bz11
    replace h6 : (r3.toInt = -1 ∨ v13.toInt < v14.toInt) := by have q9 := h6; rw [y_fiZ oY10 (k := 2) (by decide), ← ev13, y_fiZ oY10 (k := 3) (by decide), ← ev14] at q9; exact q9
    refine lv_istore_n (lv' := [(1, .int r3), (0, .ref a0)]) hx hb dX7_partTold_4 rfl hl (by decide) rfl (fun ls hl => ?_)
    refine lv_aload_n hx hb dX7_partTold_5 rfl (lv_at hl 1 rfl) ?_
    refine th_get (D := (dC, dI)) (ci := 7) (v := .int (z8 5)) (C := RX7) (T := TX7) (N := 34) hx hb hts inX7 hown hK hP (hLK _ ha0 (by decide)) oY10 rfl 5 (by decide) (hts _ T_274) (fun _ h9 => h9) rfl dX7_partTold_6 ?_
    refine ax_eqi (y := v1) ev1.symm ?_
    refine lv_if_ne (tgt := 39) hx hb dX7_partTold_9 (by decide) (fun c15 => ?_) (fun c15 => ?_)
    · have c15 := mt (ax_eq (n := 0) (by decide)).mpr c15
      exact K39 _ _ _ ⟨F4, _, rfl, lv_sub hl [1] rfl, hP, hS, hI, hfr, (fun k hk => (y_fiZ oY10 (s_sub (by decide) hk)).trans (hz0 k hk)), (by first | (rw [y_fiZ oY10 (k := 5) (by decide), ← ev1]; omega) | rw [y_fiZ oY10 (k := 5) (by decide), ← ev1])⟩
    · have c15 := (ax_eq (n := 0) (by decide)).mp c15
      refine lv_iload_n hx hb dX7_partTold_12 rfl (lv_at hl 0 rfl) ?_
      refine va_calli (va_runS (As := [.int r3]) (rest := []) ⟨hx, hb, hml, hown, hts⟩ (y_X7_isDigit l dC dI H.size F4 r3) (cwS 1 hts (ax_gS T_1279 T_1281 T_265 T_1280) rfl rfl rfl (by decide +kernel) ⟨Nat.le_of_ble_eq_true rfl, Nat.le_of_ble_eq_true rfl⟩) ⟨fun a U g mk q => ⟨q.1, s_pc (U := U) rfl rfl q.2⟩, fun U hU hW => ⟨rfl, s_pw hU hW hP hK hD hN⟩⟩ rfl rfl hl.1 rfl (lv_room (Nat.le_of_ble_eq_true rfl)) dX7_partTold_13 ⟨Nat.zero_le _, Nat.zero_le _⟩) hS (fun q _ h => h) (fun q h => h) (fun r17 F18 t H1 locs ht hvm hw hB hz1 hk1 hS => ?_)
      obtain ⟨hP, hK1⟩ := hB
      rw [ht] at hP
      generalize H1 = H at hP hS ⊢
      clear hz1 hk1 hvm hK1
      obtain ⟨h19, h21, hG9, h20⟩ := hw
      rw [hG9] at hP
      refine lv_if_eq (tgt := 39) hx hb dX7_partTold_16 (by decide) (fun c22 => ?_) (fun c22 => ?_)
      · have c22 := (ax_eq (n := 0) (by decide)).mp c22
        exact K39 _ _ _ ⟨F4, _, rfl, lv_sub hl [1] rfl, hP, hS, hI, hfr, (fun k hk => (y_fiZ oY10 (s_sub (by decide) hk)).trans (hz0 k hk)), (by first | (rw [y_fiZ oY10 (k := 5) (by decide), ← ev1]; omega) | rw [y_fiZ oY10 (k := 5) (by decide), ← ev1])⟩
      · have c22 := mt (ax_eq (n := 0) (by decide)).mpr c22
        have h23 := h21 (fun q => c22 (by rw [q]; decide))
        refine lv_aload_n hx hb dX7_partTold_19 rfl (lv_at hl 1 rfl) ?_
        refine th_get (D := (dC, dI)) (ci := 7) (v := .int (z8 2)) (C := RX7) (T := TX7) (N := 34) hx hb hts inX7 hown hK hP (hLK _ ha0 (by decide)) oY10 rfl 2 (by decide) (hts _ T_272) (fun _ h9 => h9) rfl dX7_partTold_20 ?_
        refine ax_eqi (y := v13) ev13.symm ?_
        refine lv_aload_n hx hb dX7_partTold_23 rfl (lv_at hl 1 rfl) ?_
        refine th_get (D := (dC, dI)) (ci := 7) (v := .int (z8 4)) (C := RX7) (T := TX7) (N := 34) hx hb hts inX7 hown hK hP (hLK _ ha0 (by decide)) oY10 rfl 4 (by decide) (hts _ T_296) (fun _ h9 => h9) rfl dX7_partTold_24 ?_
        refine lv_topi (fun v24 ev24 => ?_)
        refine lv_icmp_eq (tgt := 39) hx hb dX7_partTold_27 (by decide) (fun c25 => ?_) (fun c25 => ?_)
        · have c25 := Int32.toInt_inj.symm.mp c25
          exact K39 _ _ _ ⟨F4, _, rfl, lv_sub hl [1] rfl, hP, hS, hI, hfr, (fun k hk => (y_fiZ oY10 (s_sub (by decide) hk)).trans (hz0 k hk)), (by first | (rw [y_fiZ oY10 (k := 5) (by decide), ← ev1]; omega) | rw [y_fiZ oY10 (k := 5) (by decide), ← ev1])⟩
        · have c25 := mt Int32.toInt_inj.symm.mpr c25
          refine lv_aload_n hx hb dX7_partTold_30 rfl (lv_at hl 1 rfl) ?_
          refine lv_iconst (v := 0) hx hb dX7_partTold_31 (by decide) ?_
          refine lv_sipush (v := 999) hx hb dX7_partTold_32 (by decide) ?_
          have ep26_5 := ev1
          refine va_calli (va_runV (As := [.int 0, .int 999]) (rest := []) ⟨hx, hb, hml, hown, hts⟩ (y_X7_number l dC dI H.size hLK A hA F4 a0 0 999 ha0 hI) (cwV 2 hts (ax_gV T_300 T_301 T_302 T_265 T_30) rfl rfl rfl (by decide +kernel) ⟨Nat.le_of_ble_eq_true rfl, Nat.le_of_ble_eq_true rfl⟩) ⟨fun a U g mk q => ⟨q.1, s_pc (U := U) rfl rfl q.2⟩, s_recv hK hP (hLK _ ha0 (by decide)) (ci := 7) rfl oY10, fun U hU hW => ⟨rfl, s_pw hU hW hP hK hD hN⟩⟩ rfl rfl hl.1 rfl (lv_room (Nat.le_of_ble_eq_true rfl)) dX7_partTold_35 ⟨Nat.zero_le _, Nat.zero_le _⟩) hS (fun q _ h => h) (fun q h => h) (fun r27 F28 t H1 locs ht hvm hw hB hz1 hk1 hS => ?_)
          obtain ⟨hP, hK1⟩ := hB
          rw [ht] at hP
          generalize H1 = H at hP hS ⊢
          clear hz1 hk1 hvm hK1
          obtain ⟨h29, h31, hI, hfr1, hzf, h30⟩ := hw
          obtain ⟨z32, q33, oY34, bz35, bq36⟩ := y_opY hI ha0
          have hzf : ∀ k, k ∈ ([1, 3, 7, 8, 11, 15, 16, 19, 25, 26, 27, 31, 32] : List Nat) → z32 k = z8 k := fun k hk => by have q9 := hzf k hk; rw [y_fiZ oY34 (s_sub (by decide) hk), y_fiZ oY10 (s_sub (by decide) hk)] at q9; exact q9
          have hz0 : ∀ k, k ∈ ([1, 3, 7, 8, 11, 15, 16, 19, 25, 26, 27, 31, 32] : List Nat) → z32 k = z0 k := fun k hk => (hzf k (s_sub (by decide) hk)).trans (hz0 k hk)
          have ev14 : v14 = z32 3 := ev14.trans (hzf 3 (by decide)).symm
          have hfr : ∀ b, K b ∉ [9] → F28 b = F b := fun b hb9 => (hfr1 b (fun q => hb9 (s_sub (by decide) q))).trans (hfr b hb9)
          obtain ⟨v37, ev37⟩ : ∃ y : Int32, y = z32 5 := ⟨_, rfl⟩
          replace h30 : ((v1.toInt = 0 ∨ ¬ v37.toInt = 0) ∧ (v37.toInt = 0 → 0 ≤ r27.toInt ∧ r27.toInt ≤ 999)) := by have q9 := h30; rw [y_fiZ oY10 (k := 5) (by decide), ← ep26_5, y_fiZ oY34 (k := 5) (by decide), ← ev37] at q9; exact q9
          exact W.iret (v := r27) hx hb hr (fun t ht hW => ⟨⟨r27, F28, rfl, ⟨trivial, trivial, hI, hfr, fun k hk => (y_fiZ oY34 (s_sub (by decide) hk)).trans ((hz0 k hk).trans (y_fiZ oY0 (s_sub (by decide) hk)).symm), (by first | (rw [y_fiZ oY0 (k := 5) (by decide), ← eF_5, y_fiZ oY34 (k := 5) (by decide), ← ev37]; omega) | rw [y_fiZ oY0 (k := 5) (by decide), ← eF_5, y_fiZ oY34 (k := 5) (by decide), ← ev37])⟩, by rw [ht]; exact hP, va_K.moved hW.alike hK⟩, hS.F ht⟩) hS.2.2 dX7_partTold_38
  · intro g H locs hq
    obtain ⟨F39, ls, rfl, hl, hP, hS, hI, hfr, hz0, h38⟩ := hq
    obtain ⟨z40, q41, oY42, bz43, bq44⟩ := y_opY hI ha0
    have hz0 : ∀ k, k ∈ ([1, 3, 7, 8, 11, 15, 16, 19, 25, 26, 27, 31, 32] : List Nat) → z40 k = z0 k := fun k hk => (y_fiZ oY42 (s_sub (by decide) hk)).symm.trans (hz0 k hk)
    obtain ⟨v45, ev45⟩ : ∃ y : Int32, y = z40 5 := ⟨_, rfl⟩
    replace h38 : (v1.toInt = v45.toInt) := by have q9 := h38; rw [y_fiZ oY42 (k := 5) (by decide), ← ev45] at q9; exact q9
    refine lv_iconst (v := (-1)) hx hb dX7_partTold_39 (by decide) ?_
    refine lv_aload_n hx hb dX7_partTold_40 rfl (lv_at hl 0 rfl) ?_
    have ep46_5 := ev45
    refine va_calli (va_runV (As := []) (rest := [.int (-1)]) ⟨hx, hb, hml, hown, hts⟩ (y_X7_registerTold l dC dI H.size hLK A hA F39 a0 ha0 hI) (cwV 0 hts (ax_gV T_1264 T_1266 T_1267 T_265 T_1265) rfl rfl rfl (by decide +kernel) ⟨Nat.le_of_ble_eq_true rfl, Nat.le_of_ble_eq_true rfl⟩) ⟨fun a U g mk q => ⟨q.1, s_pc (U := U) rfl rfl q.2⟩, s_recv hK hP (hLK _ ha0 (by decide)) (ci := 7) rfl oY42, fun U hU hW => ⟨rfl, s_pw hU hW hP hK hD hN⟩⟩ rfl rfl hl.1 rfl (lv_room (Nat.le_of_ble_eq_true rfl)) dX7_partTold_41 ⟨Nat.zero_le _, Nat.zero_le _⟩) hS (fun q _ h => h) (fun q h => h) (fun r47 F48 t H1 locs ht hvm hw hB hz1 hk1 hS => ?_)
    obtain ⟨hP, hK1⟩ := hB
    rw [ht] at hP
    generalize H1 = H at hP hS ⊢
    clear hz1 hk1 hvm hK1
    obtain ⟨h49, h51, hI, hfr1, hzf, h50⟩ := hw
    obtain ⟨z52, q53, oY54, bz55, bq56⟩ := y_opY hI ha0
    have hzf : ∀ k, k ∈ ([1, 3, 7, 8, 11, 15, 16, 19, 25, 26, 27, 31, 32] : List Nat) → z52 k = z40 k := fun k hk => by have q9 := hzf k hk; rw [y_fiZ oY54 (s_sub (by decide) hk), y_fiZ oY42 (s_sub (by decide) hk)] at q9; exact q9
    have hz0 : ∀ k, k ∈ ([1, 3, 7, 8, 11, 15, 16, 19, 25, 26, 27, 31, 32] : List Nat) → z52 k = z0 k := fun k hk => (hzf k (s_sub (by decide) hk)).trans (hz0 k hk)
    have hfr : ∀ b, K b ∉ [9] → F48 b = F b := fun b hb9 => (hfr1 b (fun q => hb9 (s_sub (by decide) q))).trans (hfr b hb9)
    obtain ⟨v57, ev57⟩ : ∃ y : Int32, y = z52 5 := ⟨_, rfl⟩
    replace h50 : ((v45.toInt = 0 ∨ ¬ v57.toInt = 0) ∧ (v57.toInt = 0 → 0 ≤ r47.toInt ∧ r47.toInt ≤ 3)) := by have q9 := h50; rw [y_fiZ oY42 (k := 5) (by decide), ← ep46_5, y_fiZ oY54 (k := 5) (by decide), ← ev57] at q9; exact q9
    refine lv_isub hx hb dX7_partTold_44 ?_
    refine lv_topi (fun v58 ev58 => ?_)
    have qv58 : v58.toInt = (-1) - r47.toInt := by rw [ev58]; exact th_sub (by decide) rfl ⟨by omega, by omega⟩
    exact W.iret (v := v58) hx hb hr (fun t ht hW => ⟨⟨v58, F48, rfl, ⟨trivial, trivial, hI, hfr, fun k hk => (y_fiZ oY54 (s_sub (by decide) hk)).trans ((hz0 k hk).trans (y_fiZ oY0 (s_sub (by decide) hk)).symm), (by first | (rw [y_fiZ oY0 (k := 5) (by decide), ← eF_5, y_fiZ oY54 (k := 5) (by decide), ← ev57]; omega) | rw [y_fiZ oY0 (k := 5) (by decide), ← eF_5, y_fiZ oY54 (k := 5) (by decide), ← ev57])⟩, by rw [ht]; exact hP, va_K.moved hW.alike hK⟩, hS.F ht⟩) hS.2.2 dX7_partTold_45

set_option maxHeartbeats 4000000 in
set_option maxRecDepth 100000 in
theorem y_X7_hasRegister (l : Launch) (dC : Nat → ClassId) (dI : Nat → Nat → Nat) (sz : Nat) {L : List Nat} {cs : Nat → ClassId} (F : Nat → va_E) (x0 : Int32) (hx0 : 0 ≤ x0.toInt ∧ x0.toInt ≤ 15) : Met l yX7_hasRegister (Cond.code yX7_hasRegister cX7_hasRegister 1 (some .boolean) :: T0) ({ frames := 0, cells := 0, slots := 0, locals := 0 }) (va_Pc [.int x0] (s_W dC dI sz L F [(cs 0, .int), (cs 1, .byte), (cs 2, .long), (cs 3, .object RX5), (cs 4, .object RX4), (cs 5, .array .int), (cs 6, .char), (cs 7, .boolean)])) (va_Qi (fun (r : Int32) (G : Nat → va_E) => (0 ≤ r.toInt ∧ r.toInt ≤ 1) ∧ (¬ r = 0 → 0 ≤ x0.toInt ∧ x0.toInt ≤ 11) ∧ G = F ∧ True) (fun (G : Nat → va_E) (t : State) => va_P (dC, dI) vwCl (va_pl L G) t.heap ∧ va_K (dC, dI) vwCl [(cs 0, .int), (cs 1, .byte), (cs 2, .long), (cs 3, .object RX5), (cs 4, .object RX4), (cs 5, .array .int), (cs 6, .char), (cs 7, .boolean)] t) (fun q => q ∈ L)) 0 0 (fun q => q ∈ L) := by
  refine Met.ofW (cc := cX7_hasRegister) (maxL := 1) (ret := (some .boolean)) (by decide) rfl ?_
  intro p e s m args below meth c s₁ B hml hv
  obtain ⟨rfl, hsz, hP, hK, hD, hN⟩ := hv
  have hx := B.exec
  have hb := B.bytes
  have hr := B.returns
  have hts : ∀ w ∈ T0, w.before _ s = true := fun w h => atoms_spec (ws := Cond.code yX7_hasRegister cX7_hasRegister 1 (some .boolean) :: T0) B.pre w (List.mem_cons_of_mem _ h)
  have hown : s.vm.findClass RX7 = some m.cls := findClass_of_methodNamed B.named
  have hlocks := B.notSynchronized
  have hS : va_S (fun q => q ∈ L) s.heap s.heap [] := va_S.rf
  have hl := lv_entry ([.int x0]) (n := 1) (Nat.le_of_ble_eq_true rfl)
  rw [lg_entry_eq]
  generalize (lg_sl ([.int x0]) ++ List.replicate (1 - (lg_sl ([.int x0])).length) Slot.unset).toArray = ls at hl ⊢
  have hl : lv_has ls 1 [(0, .int x0)] := hl
  refine s_gen hP hS (fun H locs hP hS => ?_)
  refine lv_iload_n hx hb dX7_hasRegister_0 rfl (lv_at hl 0 rfl) ?_
  refine lv_bipush (v := 7) hx hb dX7_hasRegister_1 (by decide) ?_
  refine lv_icmp_le (tgt := 18) hx hb dX7_hasRegister_3 (by decide) (fun c1 => ?_) (fun c1 => ?_)
  · have c1 := (ax_le (n := 7) (by decide)).mp c1
    refine lv_iconst (v := 1) hx hb dX7_hasRegister_18 (by decide) ?_
    refine lv_goto (tgt := 23) hx hb dX7_hasRegister_19 (by decide) ?_
    have h2 : (1 : Int32).toInt = 1 := by decide
    exact W.zret (v := 1) (ty := .boolean) hx hb hr (by decide) (fun t ht hW => ⟨⟨1, F, rfl, ⟨(by decide), (fun q => ⟨by omega, by omega⟩), rfl, trivial⟩, by rw [ht]; exact hP, va_K.moved hW.alike hK⟩, hS.F ht⟩) hS.2.2 dX7_hasRegister_23
  · have c1 := mt (ax_le (n := 7) (by decide)).mpr c1
    refine lv_iload_n hx hb dX7_hasRegister_6 rfl (lv_at hl 0 rfl) ?_
    refine lv_bipush (v := 9) hx hb dX7_hasRegister_7 (by decide) ?_
    refine lv_icmp_eq (tgt := 18) hx hb dX7_hasRegister_9 (by decide) (fun c3 => ?_) (fun c3 => ?_)
    · have c3 := (ax_eq (n := 9) (by decide)).mp c3
      refine lv_iconst (v := 1) hx hb dX7_hasRegister_18 (by decide) ?_
      refine lv_goto (tgt := 23) hx hb dX7_hasRegister_19 (by decide) ?_
      have h4 : (1 : Int32).toInt = 1 := by decide
      exact W.zret (v := 1) (ty := .boolean) hx hb hr (by decide) (fun t ht hW => ⟨⟨1, F, rfl, ⟨(by decide), (fun q => ⟨by omega, by omega⟩), rfl, trivial⟩, by rw [ht]; exact hP, va_K.moved hW.alike hK⟩, hS.F ht⟩) hS.2.2 dX7_hasRegister_23
    · have c3 := mt (ax_eq (n := 9) (by decide)).mpr c3
      refine lv_iload_n hx hb dX7_hasRegister_12 rfl (lv_at hl 0 rfl) ?_
      refine lv_bipush (v := 11) hx hb dX7_hasRegister_13 (by decide) ?_
      refine lv_icmp_ne (tgt := 22) hx hb dX7_hasRegister_15 (by decide) (fun c5 => ?_) (fun c5 => ?_)
      · have c5 := mt (ax_eq (n := 11) (by decide)).mpr c5
        refine lv_iconst (v := 0) hx hb dX7_hasRegister_22 (by decide) ?_
        have h6 : (0 : Int32).toInt = 0 := by decide
        exact W.zret (v := 0) (ty := .boolean) hx hb hr (by decide) (fun t ht hW => ⟨⟨0, F, rfl, ⟨(by decide), (fun q => absurd (by decide) q), rfl, trivial⟩, by rw [ht]; exact hP, va_K.moved hW.alike hK⟩, hS.F ht⟩) hS.2.2 dX7_hasRegister_23
      · have c5 := (ax_eq (n := 11) (by decide)).mp c5
        refine lv_iconst (v := 1) hx hb dX7_hasRegister_18 (by decide) ?_
        refine lv_goto (tgt := 23) hx hb dX7_hasRegister_19 (by decide) ?_
        have h7 : (1 : Int32).toInt = 1 := by decide
        exact W.zret (v := 1) (ty := .boolean) hx hb hr (by decide) (fun t ht hW => ⟨⟨1, F, rfl, ⟨(by decide), (fun q => ⟨by omega, by omega⟩), rfl, trivial⟩, by rw [ht]; exact hP, va_K.moved hW.alike hK⟩, hS.F ht⟩) hS.2.2 dX7_hasRegister_23

set_option maxHeartbeats 4000000 in
set_option maxRecDepth 100000 in
theorem y_X7_partsOf (l : Launch) (dC : Nat → ClassId) (dI : Nat → Nat → Nat) (sz : Nat) {L : List Nat} {cs : Nat → ClassId} (F : Nat → va_E) (x0 : Int32) (hx0 : 0 ≤ x0.toInt ∧ x0.toInt ≤ 15) : Met l yX7_partsOf (Cond.code yX7_partsOf cX7_partsOf 1 (some .int) :: T0) ({ frames := 0, cells := 0, slots := 0, locals := 0 }) (va_Pc [.int x0] (s_W dC dI sz L F [(cs 0, .int), (cs 1, .byte), (cs 2, .long), (cs 3, .object RX5), (cs 4, .object RX4), (cs 5, .array .int), (cs 6, .char), (cs 7, .boolean)])) (va_Qi (fun (r : Int32) (G : Nat → va_E) => (0 ≤ r.toInt ∧ r.toInt ≤ 2) ∧ True ∧ G = F ∧ ((r.toInt = 0 ∧ (x0.toInt = 5 ∨ x0.toInt = 6 ∨ 12 ≤ x0.toInt)) ∨ (r.toInt = 1 ∧ (x0.toInt = 0 ∨ x0.toInt = 7 ∨ x0.toInt = 9 ∨ x0.toInt = 11)) ∨ (r.toInt = 2 ∧ ((1 ≤ x0.toInt ∧ x0.toInt ≤ 4) ∨ x0.toInt = 8 ∨ x0.toInt = 10)))) (fun (G : Nat → va_E) (t : State) => va_P (dC, dI) vwCl (va_pl L G) t.heap ∧ va_K (dC, dI) vwCl [(cs 0, .int), (cs 1, .byte), (cs 2, .long), (cs 3, .object RX5), (cs 4, .object RX4), (cs 5, .array .int), (cs 6, .char), (cs 7, .boolean)] t) (fun q => q ∈ L)) 0 0 (fun q => q ∈ L) := by
  refine Met.ofW (cc := cX7_partsOf) (maxL := 1) (ret := (some .int)) (by decide) rfl ?_
  intro p e s m args below meth c s₁ B hml hv
  obtain ⟨rfl, hsz, hP, hK, hD, hN⟩ := hv
  have hx := B.exec
  have hb := B.bytes
  have hr := B.returns
  have hts : ∀ w ∈ T0, w.before _ s = true := fun w h => atoms_spec (ws := Cond.code yX7_partsOf cX7_partsOf 1 (some .int) :: T0) B.pre w (List.mem_cons_of_mem _ h)
  have hown : s.vm.findClass RX7 = some m.cls := findClass_of_methodNamed B.named
  have hlocks := B.notSynchronized
  have hS : va_S (fun q => q ∈ L) s.heap s.heap [] := va_S.rf
  have hl := lv_entry ([.int x0]) (n := 1) (Nat.le_of_ble_eq_true rfl)
  rw [lg_entry_eq]
  generalize (lg_sl ([.int x0]) ++ List.replicate (1 - (lg_sl ([.int x0])).length) Slot.unset).toArray = ls at hl ⊢
  have hl : lv_has ls 1 [(0, .int x0)] := hl
  refine s_gen hP hS (fun H locs hP hS => ?_)
  refine lv_iload_n hx hb dX7_partsOf_0 rfl (lv_at hl 0 rfl) ?_
  refine lv_iconst (v := 5) hx hb dX7_partsOf_1 (by decide) ?_
  refine lv_icmp_eq (tgt := 17) hx hb dX7_partsOf_2 (by decide) (fun c1 => ?_) (fun c1 => ?_)
  · have c1 := (ax_eq (n := 5) (by decide)).mp c1
    refine lv_iconst (v := 0) hx hb dX7_partsOf_17 (by decide) ?_
    refine lv_goto (tgt := 48) hx hb dX7_partsOf_18 (by decide) ?_
    have h2 : (0 : Int32).toInt = 0 := by decide
    exact W.iret (v := 0) hx hb hr (fun t ht hW => ⟨⟨0, F, rfl, ⟨(by decide), trivial, rfl, (by omega)⟩, by rw [ht]; exact hP, va_K.moved hW.alike hK⟩, hS.F ht⟩) hS.2.2 dX7_partsOf_48
  · have c1 := mt (ax_eq (n := 5) (by decide)).mpr c1
    refine lv_iload_n hx hb dX7_partsOf_5 rfl (lv_at hl 0 rfl) ?_
    refine lv_bipush (v := 6) hx hb dX7_partsOf_6 (by decide) ?_
    refine lv_icmp_eq (tgt := 17) hx hb dX7_partsOf_8 (by decide) (fun c3 => ?_) (fun c3 => ?_)
    · have c3 := (ax_eq (n := 6) (by decide)).mp c3
      refine lv_iconst (v := 0) hx hb dX7_partsOf_17 (by decide) ?_
      refine lv_goto (tgt := 48) hx hb dX7_partsOf_18 (by decide) ?_
      have h4 : (0 : Int32).toInt = 0 := by decide
      exact W.iret (v := 0) hx hb hr (fun t ht hW => ⟨⟨0, F, rfl, ⟨(by decide), trivial, rfl, (by omega)⟩, by rw [ht]; exact hP, va_K.moved hW.alike hK⟩, hS.F ht⟩) hS.2.2 dX7_partsOf_48
    · have c3 := mt (ax_eq (n := 6) (by decide)).mpr c3
      refine lv_iload_n hx hb dX7_partsOf_11 rfl (lv_at hl 0 rfl) ?_
      refine lv_bipush (v := 11) hx hb dX7_partsOf_12 (by decide) ?_
      refine lv_icmp_le (tgt := 21) hx hb dX7_partsOf_14 (by decide) (fun c5 => ?_) (fun c5 => ?_)
      · have c5 := (ax_le (n := 11) (by decide)).mp c5
        refine lv_iload_n hx hb dX7_partsOf_21 rfl (lv_at hl 0 rfl) ?_
        refine lv_if_eq (tgt := 43) hx hb dX7_partsOf_22 (by decide) (fun c6 => ?_) (fun c6 => ?_)
        · have c6 := (ax_eq (n := 0) (by decide)).mp c6
          refine lv_iconst (v := 1) hx hb dX7_partsOf_43 (by decide) ?_
          refine lv_goto (tgt := 48) hx hb dX7_partsOf_44 (by decide) ?_
          have h7 : (1 : Int32).toInt = 1 := by decide
          exact W.iret (v := 1) hx hb hr (fun t ht hW => ⟨⟨1, F, rfl, ⟨(by decide), trivial, rfl, (by omega)⟩, by rw [ht]; exact hP, va_K.moved hW.alike hK⟩, hS.F ht⟩) hS.2.2 dX7_partsOf_48
        · have c6 := mt (ax_eq (n := 0) (by decide)).mpr c6
          refine lv_iload_n hx hb dX7_partsOf_25 rfl (lv_at hl 0 rfl) ?_
          refine lv_bipush (v := 7) hx hb dX7_partsOf_26 (by decide) ?_
          refine lv_icmp_eq (tgt := 43) hx hb dX7_partsOf_28 (by decide) (fun c8 => ?_) (fun c8 => ?_)
          · have c8 := (ax_eq (n := 7) (by decide)).mp c8
            refine lv_iconst (v := 1) hx hb dX7_partsOf_43 (by decide) ?_
            refine lv_goto (tgt := 48) hx hb dX7_partsOf_44 (by decide) ?_
            have h9 : (1 : Int32).toInt = 1 := by decide
            exact W.iret (v := 1) hx hb hr (fun t ht hW => ⟨⟨1, F, rfl, ⟨(by decide), trivial, rfl, (by omega)⟩, by rw [ht]; exact hP, va_K.moved hW.alike hK⟩, hS.F ht⟩) hS.2.2 dX7_partsOf_48
          · have c8 := mt (ax_eq (n := 7) (by decide)).mpr c8
            refine lv_iload_n hx hb dX7_partsOf_31 rfl (lv_at hl 0 rfl) ?_
            refine lv_bipush (v := 9) hx hb dX7_partsOf_32 (by decide) ?_
            refine lv_icmp_eq (tgt := 43) hx hb dX7_partsOf_34 (by decide) (fun c10 => ?_) (fun c10 => ?_)
            · have c10 := (ax_eq (n := 9) (by decide)).mp c10
              refine lv_iconst (v := 1) hx hb dX7_partsOf_43 (by decide) ?_
              refine lv_goto (tgt := 48) hx hb dX7_partsOf_44 (by decide) ?_
              have h11 : (1 : Int32).toInt = 1 := by decide
              exact W.iret (v := 1) hx hb hr (fun t ht hW => ⟨⟨1, F, rfl, ⟨(by decide), trivial, rfl, (by omega)⟩, by rw [ht]; exact hP, va_K.moved hW.alike hK⟩, hS.F ht⟩) hS.2.2 dX7_partsOf_48
            · have c10 := mt (ax_eq (n := 9) (by decide)).mpr c10
              refine lv_iload_n hx hb dX7_partsOf_37 rfl (lv_at hl 0 rfl) ?_
              refine lv_bipush (v := 11) hx hb dX7_partsOf_38 (by decide) ?_
              refine lv_icmp_ne (tgt := 47) hx hb dX7_partsOf_40 (by decide) (fun c12 => ?_) (fun c12 => ?_)
              · have c12 := mt (ax_eq (n := 11) (by decide)).mpr c12
                refine lv_iconst (v := 2) hx hb dX7_partsOf_47 (by decide) ?_
                have h13 : (2 : Int32).toInt = 2 := by decide
                exact W.iret (v := 2) hx hb hr (fun t ht hW => ⟨⟨2, F, rfl, ⟨(by decide), trivial, rfl, (by omega)⟩, by rw [ht]; exact hP, va_K.moved hW.alike hK⟩, hS.F ht⟩) hS.2.2 dX7_partsOf_48
              · have c12 := (ax_eq (n := 11) (by decide)).mp c12
                refine lv_iconst (v := 1) hx hb dX7_partsOf_43 (by decide) ?_
                refine lv_goto (tgt := 48) hx hb dX7_partsOf_44 (by decide) ?_
                have h14 : (1 : Int32).toInt = 1 := by decide
                exact W.iret (v := 1) hx hb hr (fun t ht hW => ⟨⟨1, F, rfl, ⟨(by decide), trivial, rfl, (by omega)⟩, by rw [ht]; exact hP, va_K.moved hW.alike hK⟩, hS.F ht⟩) hS.2.2 dX7_partsOf_48
      · have c5 := mt (ax_le (n := 11) (by decide)).mpr c5
        refine lv_iconst (v := 0) hx hb dX7_partsOf_17 (by decide) ?_
        refine lv_goto (tgt := 48) hx hb dX7_partsOf_18 (by decide) ?_
        have h15 : (0 : Int32).toInt = 0 := by decide
        exact W.iret (v := 0) hx hb hr (fun t ht hW => ⟨⟨0, F, rfl, ⟨(by decide), trivial, rfl, (by omega)⟩, by rw [ht]; exact hP, va_K.moved hW.alike hK⟩, hS.F ht⟩) hS.2.2 dX7_partsOf_48
