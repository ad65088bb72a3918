set_option maxHeartbeats 4000000 in
set_option maxRecDepth 100000 in
theorem y_X7_lineAt (l : Launch) (dC : Nat → ClassId) (dI : Nat → Nat → Nat) (sz : Nat) {L : List Nat} {cs : Nat → ClassId} (F : Nat → va_E) (x0 : Int32) (x1 : Int32) (hx0 : 0 ≤ x0.toInt ∧ x0.toInt ≤ 40) (hx1 : 0 ≤ x1.toInt ∧ x1.toInt ≤ 7) : Met l yX7_lineAt (Cond.code yX7_lineAt cX7_lineAt 2 (some .int) :: T0) ({ frames := 0, cells := 0, slots := 0, locals := 0 }) (va_Pc [.int x0, .int x1] (s_W dC dI sz L F [(cs 0, .int), (cs 1, .byte), (cs 2, .long), (cs 3, .object RX5), (cs 4, .object RX4), (cs 5, .array .int), (cs 6, .char), (cs 7, .boolean)])) (va_Qi (fun (r : Int32) (G : Nat → va_E) => (0 ≤ r.toInt ∧ r.toInt ≤ 327) ∧ True ∧ G = F ∧ (r.toInt = 8 * x0.toInt + x1.toInt)) (fun (G : Nat → va_E) (t : State) => va_P (dC, dI) vwCl (va_pl L G) t.heap ∧ va_K (dC, dI) vwCl [(cs 0, .int), (cs 1, .byte), (cs 2, .long), (cs 3, .object RX5), (cs 4, .object RX4), (cs 5, .array .int), (cs 6, .char), (cs 7, .boolean)] t) (fun q => q ∈ L)) 0 0 (fun q => q ∈ L) := by
  refine Met.ofW (cc := cX7_lineAt) (maxL := 2) (ret := (some .int)) (by decide) rfl ?_
  intro p e s m args below meth c s₁ B hml hv
  obtain ⟨rfl, hsz, hP, hK, hD, hN⟩ := hv
  have hx := B.exec
  have hb := B.bytes
  have hr := B.returns
  have hts : ∀ w ∈ T0, w.before _ s = true := fun w h => atoms_spec (ws := Cond.code yX7_lineAt cX7_lineAt 2 (some .int) :: T0) B.pre w (List.mem_cons_of_mem _ h)
  have hown : s.vm.findClass RX7 = some m.cls := findClass_of_methodNamed B.named
  have hlocks := B.notSynchronized
  have hS : va_S (fun q => q ∈ L) s.heap s.heap [] := va_S.rf
  have hl := lv_entry ([.int x0, .int x1]) (n := 2) (Nat.le_of_ble_eq_true rfl)
  rw [lg_entry_eq]
  generalize (lg_sl ([.int x0, .int x1]) ++ List.replicate (2 - (lg_sl ([.int x0, .int x1])).length) Slot.unset).toArray = ls at hl ⊢
  have hl : lv_has ls 2 [(0, .int x0), (1, .int x1)] := hl
  refine s_gen hP hS (fun H locs hP hS => ?_)
  refine lv_bipush (v := 8) hx hb dX7_lineAt_0 (by decide) ?_
  refine lv_iload_n hx hb dX7_lineAt_2 rfl (lv_at hl 0 rfl) ?_
  refine lv_imul hx hb dX7_lineAt_3 ?_
  refine lv_topi (fun v1 ev1 => ?_)
  have qv1 : v1.toInt = 8 * x0.toInt := by rw [ev1]; exact th_mul (by decide) rfl ⟨by omega, by omega⟩
  refine lv_iload_n hx hb dX7_lineAt_4 rfl (lv_at hl 1 rfl) ?_
  refine lv_iadd hx hb dX7_lineAt_5 ?_
  refine lv_topi (fun v2 ev2 => ?_)
  have qv2 : v2.toInt = v1.toInt + x1.toInt := by rw [ev2]; exact th_add rfl rfl ⟨by omega, by omega⟩
  exact W.iret (v := v2) hx hb hr (fun t ht hW => ⟨⟨v2, F, rfl, ⟨⟨by omega, by omega⟩, trivial, rfl, (by omega)⟩, by rw [ht]; exact hP, va_K.moved hW.alike hK⟩, hS.F ht⟩) hS.2.2 dX7_lineAt_6

set_option maxHeartbeats 4000000 in
set_option maxRecDepth 100000 in
theorem y_X7_drafted (l : Launch) (dC : Nat → ClassId) (dI : Nat → Nat → Nat) (sz : Nat) {L : List Nat} {K : Nat → Nat} {cs : Nat → ClassId} (hLK : ∀ a {k : Nat}, K a = k → k ≠ 0 → a ∈ L) (A : Nat → Nat) (hA : y_A K A) (F : Nat → va_E) (a0 : Nat) (ha0 : K a0 = 9) (hI : y_I K cs A F) : Met l yX7_drafted (Cond.code yX7_drafted cX7_drafted 1 (some .int) :: T0) ({ frames := 0, cells := 0, slots := 0, locals := 0 }) (va_Pc [.ref a0] (s_W dC dI sz L F [(cs 0, .int), (cs 1, .byte), (cs 2, .long), (cs 3, .object RX5), (cs 4, .object RX4), (cs 5, .array .int), (cs 6, .char), (cs 7, .boolean)])) (va_Qi (fun (r : Int32) (G : Nat → va_E) => (0 ≤ r.toInt ∧ r.toInt ≤ 40) ∧ True ∧ y_I K cs A G ∧ (∀ b, K b ∉ ([] : List Nat) → G b = F b) ∧ (∀ k, k ∈ ([1, 2, 3, 4, 5, 6, 7, 8, 11, 15, 16, 19, 25, 26, 27, 31, 32] : List Nat) → y_fi G a0 k = y_fi F a0 k) ∧ (r = y_c (y_at F (A 12)) 387)) (fun (G : Nat → va_E) (t : State) => va_P (dC, dI) vwCl (va_pl L G) t.heap ∧ va_K (dC, dI) vwCl [(cs 0, .int), (cs 1, .byte), (cs 2, .long), (cs 3, .object RX5), (cs 4, .object RX4), (cs 5, .array .int), (cs 6, .char), (cs 7, .boolean)] t) (fun q => q ∈ L)) 0 0 (fun q => q ∈ L) := by
  refine Met.ofW (cc := cX7_drafted) (maxL := 1) (ret := (some .int)) (by decide) rfl ?_
  intro p e s m args below meth c s₁ B hml hv
  obtain ⟨rfl, hsz, hP, hK, hD, hN⟩ := hv
  have hx := B.exec
  have hb := B.bytes
  have hr := B.returns
  have hts : ∀ w ∈ T0, w.before _ s = true := fun w h => atoms_spec (ws := Cond.code yX7_drafted cX7_drafted 1 (some .int) :: T0) B.pre w (List.mem_cons_of_mem _ h)
  have hown : s.vm.findClass RX7 = some m.cls := findClass_of_methodNamed B.named
  have hlocks := B.notSynchronized
  have hS : va_S (fun q => q ∈ L) s.heap s.heap [] := va_S.rf
  have hfr : ∀ b, K b ∉ ([] : List Nat) → F b = F b := fun _ _ => rfl
  have hl := lv_entry ([.ref a0]) (n := 1) (Nat.le_of_ble_eq_true rfl)
  rw [lg_entry_eq]
  generalize (lg_sl ([.ref a0]) ++ List.replicate (1 - (lg_sl ([.ref a0])).length) Slot.unset).toArray = ls at hl ⊢
  have hl : lv_has ls 1 [(0, .ref a0)] := hl
  refine s_gen hP hS (fun H locs hP hS => ?_)
  obtain ⟨z0, q0, oY0, bz0⟩ := y_opY hI ha0
  have hz0 : ∀ k, k ∈ ([1, 2, 3, 4, 5, 6, 7, 8, 11, 15, 16, 19, 25, 26, 27, 31, 32] : List Nat) → z0 k = z0 k := fun _ _ => rfl
  obtain ⟨f1, o2, b3⟩ := y_op12 hI
  refine lv_aload_n hx hb dX7_drafted_0 rfl (lv_at hl 0 rfl) ?_
  refine th_get (D := (dC, dI)) (ci := 7) (v := .ref (A 12)) (C := RX7) (T := TX7) (N := 34) hx hb hts inX7 hown hK hP (hLK _ ha0 (by decide)) oY0 rfl 12 (by decide) (hts _ T_245) (fun _ h9 => h9) rfl dX7_drafted_1 ?_
  refine lv_sipush (v := 387) hx hb dX7_drafted_4 (by decide) ?_
  refine th_iald hx hb hK hP (hLK _ (y_k12 hA) (by decide)) 0 o2 rfl (ax_in (by decide)) dX7_drafted_7 ?_
  refine lv_topi (fun v4 ev4 => ?_)
  have qv4 : 0 ≤ v4.toInt ∧ v4.toInt ≤ 40 := by rw [ev4]; exact b3
  exact W.iret (v := v4) hx hb hr (fun t ht hW => ⟨⟨v4, F, rfl, ⟨⟨by omega, by omega⟩, trivial, hI, hfr, fun k hk => (y_fiZ oY0 (s_sub (by decide) hk)).trans ((hz0 k hk).trans (y_fiZ oY0 (s_sub (by decide) hk)).symm), (by rw [y_atE o2]; exact ev4)⟩, by rw [ht]; exact hP, va_K.moved hW.alike hK⟩, hS.F ht⟩) hS.2.2 dX7_drafted_8

set_option maxHeartbeats 4000000 in
set_option maxRecDepth 100000 in
theorem y_X7_lays (l : Launch) (dC : Nat → ClassId) (dI : Nat → Nat → Nat) (sz : Nat) {L : List Nat} {K : Nat → Nat} {cs : Nat → ClassId} (hLK : ∀ a {k : Nat}, K a = k → k ≠ 0 → a ∈ L) (A : Nat → Nat) (hA : y_A K A) (F : Nat → va_E) (a0 : Nat) (x1 : Int32) (x2 : Int32) (ha0 : K a0 = 9) (hx1 : 0 ≤ x1.toInt ∧ x1.toInt ≤ 7) (hI : y_I K cs A F) : Met l yX7_lays (Cond.code yX7_lays cX7_lays 3 none :: T0) ({ frames := 1, cells := 0, slots := 0, locals := 21 }) (va_Pc [.ref a0, .int x1, .int x2] (s_W dC dI sz L F [(cs 0, .int), (cs 1, .byte), (cs 2, .long), (cs 3, .object RX5), (cs 4, .object RX4), (cs 5, .array .int), (cs 6, .char), (cs 7, .boolean)])) (va_Qv (fun (G : Nat → va_E) => True ∧ True ∧ y_I K cs A G ∧ (∀ b, K b ∉ [62] → G b = F b) ∧ (∀ k, k ∈ ([1, 2, 3, 4, 5, 6, 7, 8, 11, 15, 16, 19, 25, 26, 27, 31, 32] : List Nat) → y_fi G a0 k = y_fi F a0 k) ∧ ((∀ j : Int, 0 ≤ j → j ≠ 8 * (y_c (y_at F (A 12)) 387).toInt + x1.toInt → y_c (y_at G (A 12)) j = y_c (y_at F (A 12)) j) ∧ ((y_fi F a0 5).toInt = 0 → y_c (y_at G (A 12)) (8 * (y_c (y_at F (A 12)) 387).toInt + x1.toInt) = x2))) (fun (G : Nat → va_E) (t : State) => va_P (dC, dI) vwCl (va_pl L G) t.heap ∧ va_K (dC, dI) vwCl [(cs 0, .int), (cs 1, .byte), (cs 2, .long), (cs 3, .object RX5), (cs 4, .object RX4), (cs 5, .array .int), (cs 6, .char), (cs 7, .boolean)] t) (fun q => q ∈ L)) 0 0 (fun q => q ∈ L) := by
  refine Met.ofW (cc := cX7_lays) (maxL := 3) (ret := none) (by decide) rfl ?_
  intro p e s m args below meth c s₁ B hml hv
  obtain ⟨rfl, hsz, hP, hK, hD, hN⟩ := hv
  have hx := B.exec
  have hb := B.bytes
  have hr := B.returns
  have hts : ∀ w ∈ T0, w.before _ s = true := fun w h => atoms_spec (ws := Cond.code yX7_lays cX7_lays 3 none :: T0) B.pre w (List.mem_cons_of_mem _ h)
  have hown : s.vm.findClass RX7 = some m.cls := findClass_of_methodNamed B.named
  have hlocks := B.notSynchronized
  have hS : va_S (fun q => q ∈ L) s.heap s.heap [] := va_S.rf
  have hfr : ∀ b, K b ∉ [62] → F b = F b := fun _ _ => rfl
  have hl := lv_entry ([.ref a0, .int x1, .int x2]) (n := 3) (Nat.le_of_ble_eq_true rfl)
  rw [lg_entry_eq]
  generalize (lg_sl ([.ref a0, .int x1, .int x2]) ++ List.replicate (3 - (lg_sl ([.ref a0, .int x1, .int x2])).length) Slot.unset).toArray = ls at hl ⊢
  have hl : lv_has ls 3 [(0, .ref a0), (1, .int x1), (2, .int x2)] := hl
  refine s_gen hP hS (fun H locs hP hS => ?_)
  obtain ⟨z0, q0, oY0, bz0⟩ := y_opY hI ha0
  have hz0 : ∀ k, k ∈ ([1, 2, 3, 4, 5, 6, 7, 8, 11, 15, 16, 19, 25, 26, 27, 31, 32] : List Nat) → z0 k = z0 k := fun _ _ => rfl
  obtain ⟨f1, o2, b3⟩ := y_op12 hI
  obtain ⟨v4, ev4⟩ : ∃ y : Int32, y = z0 5 := ⟨_, rfl⟩
  have eF_5 := ev4
  have e0_v4 := ev4
  refine lv_aload_n hx hb dX7_lays_0 rfl (lv_at hl 0 rfl) ?_
  refine th_get (D := (dC, dI)) (ci := 7) (v := .int (z0 5)) (C := RX7) (T := TX7) (N := 34) hx hb hts inX7 hown hK hP (hLK _ ha0 (by decide)) oY0 rfl 5 (by decide) (hts _ T_274) (fun _ h9 => h9) rfl dX7_lays_1 ?_
  refine ax_eqi (y := v4) ev4.symm ?_
  refine lv_if_ne (tgt := 21) hx hb dX7_lays_4 (by decide) (fun c5 => ?_) (fun c5 => ?_)
  · have c5 := mt (ax_eq (n := 0) (by decide)).mpr c5
    exact W.vret hx hb hr (fun t ht hW => ⟨⟨F, rfl, ⟨trivial, trivial, hI, hfr, fun k hk => (y_fiZ oY0 (s_sub (by decide) hk)).trans ((hz0 k hk).trans (y_fiZ oY0 (s_sub (by decide) hk)).symm), (by rw [y_atE o2, y_fiZ oY0 (k := 5) (by decide), ← eF_5]; exact ⟨fun j _ _ => rfl, fun q => absurd q c5⟩)⟩, by rw [ht]; exact hP, va_K.moved hW.alike hK⟩, hS.F ht⟩) hS.2.2 dX7_lays_21
  · have c5 := (ax_eq (n := 0) (by decide)).mp c5
    refine lv_aload_n hx hb dX7_lays_7 rfl (lv_at hl 0 rfl) ?_
    refine th_get (D := (dC, dI)) (ci := 7) (v := .ref (A 12)) (C := RX7) (T := TX7) (N := 34) hx hb hts inX7 hown hK hP (hLK _ ha0 (by decide)) oY0 rfl 12 (by decide) (hts _ T_245) (fun _ h9 => h9) rfl dX7_lays_8 ?_
    refine lv_aload_n hx hb dX7_lays_11 rfl (lv_at hl 0 rfl) ?_
    refine va_calli (va_runV (As := []) (rest := [.ref (A 12)]) ⟨hx, hb, hml, hown, hts⟩ (y_X7_drafted l dC dI H.size hLK A hA F a0 ha0 hI) (cwV 0 hts (ax_gV T_293 T_294 T_295 T_265 T_28) rfl rfl rfl (by decide +kernel) ⟨Nat.le_of_ble_eq_true rfl, Nat.le_of_ble_eq_true rfl⟩) ⟨fun a U g mk q => ⟨q.1, s_pc rfl rfl q.2⟩, s_recv hK hP (hLK _ ha0 (by decide)) (ci := 7) rfl oY0, fun U hU hW => ⟨rfl, s_pw hU hW hP hK hD hN⟩⟩ rfl rfl hl.1 rfl (lv_room (Nat.le_of_ble_eq_true rfl)) dX7_lays_12 ⟨Nat.zero_le _, Nat.zero_le _⟩) hS (fun q _ h => h) (fun q h => h) (fun r7 F8 t H1 locs ht hvm hw hB hz1 hk1 hS => ?_)
    obtain ⟨hP, hK1⟩ := hB
    rw [ht] at hP
    generalize H1 = H at hP hS ⊢
    obtain ⟨h9, h11, hI, hfr1, hzf, h10⟩ := hw
    have o12 : F8 (A 12) = .inl (cs 0, 400, .inl f1) := (hfr1 _ (by rw [(y_k12 hA)]; decide)).trans o2
    have oY13 : F8 a0 = .inr (7, y_fl A z0 q0) := (hfr1 _ (by rw [ha0]; decide)).trans oY0
    have hfr : ∀ b, K b ∉ [62] → F8 b = F b := fun b hb9 => (hfr1 b (fun q => hb9 (s_sub (by decide) q))).trans (hfr b hb9)
    have h10 : (r7 = y_c f1 387) := by have q9 := h10; rw [y_atE o2] at q9; exact q9
    have h14 := congrArg Int32.toInt h10
    refine lv_iload_n hx hb dX7_lays_15 rfl (lv_at hl 1 rfl) ?_
    refine va_calli (va_runS (As := [.int r7, .int x1]) (rest := [.ref (A 12)]) ⟨hx, hb, hml, hown, hts⟩ (y_X7_lineAt l dC dI H.size F8 r7 x1 (⟨by omega, by omega⟩) (⟨by omega, by omega⟩)) (cwS 2 hts (ax_gS T_1216 T_1218 T_265 T_1217) rfl rfl rfl (by decide +kernel) ⟨Nat.le_of_ble_eq_true rfl, Nat.le_of_ble_eq_true rfl⟩) ⟨fun a U g mk q => ⟨q.1, s_pc rfl rfl q.2⟩, fun U hU hW => ⟨rfl, s_pw hU hW hP hK hD hN⟩⟩ rfl rfl hl.1 rfl (lv_room (Nat.le_of_ble_eq_true rfl)) dX7_lays_16 ⟨Nat.zero_le _, Nat.zero_le _⟩) hS (fun q _ h => h) (fun q h => h) (fun r16 F17 t H1 locs ht hvm hw hB hz1 hk1 hS => ?_)
    obtain ⟨hP, hK1⟩ := hB
    rw [ht] at hP
    generalize H1 = H at hP hS ⊢
    obtain ⟨h18, h20, hG9, h19⟩ := hw
    rw [hG9] at hP
    have h19 : (r16.toInt = 8 * r7.toInt + x1.toInt) := by have q9 := h19; exact q9
    refine lv_iload_n hx hb dX7_lays_19 rfl (lv_at hl 2 rfl) ?_
    refine th_iast hx hb hK hP hD hS (hLK _ (y_k12 hA) (by decide)) 0 o12 rfl (th_in ⟨by omega, by omega⟩) dX7_lays_20 (fun H locs hP hS => ?_)
    obtain ⟨f21, u22⟩ : ∃ g : Nat → Int32, g = upd f1 (r16 : Int32).toNatClampNeg x2 := ⟨_, rfl⟩
    rw [← u22] at hP
    have b23 : y_bd 12 f21 := by rw [u22]; exact th_updJ (P := fun y => 0 ≤ y.toInt ∧ y.toInt ≤ 40) b3 (fun q => by have q2 := th_tn (by omega) q; omega)
    have hP : va_P (dC, dI) vwCl (va_pl L (va_up F8 (A 12) (.inl (cs 0, 400, .inl f21)))) H := hP
    obtain ⟨F24, hF25⟩ : ∃ G : Nat → va_E, G = va_up F8 (A 12) (.inl (cs 0, 400, .inl f21)) := ⟨_, rfl⟩
    rw [← hF25] at hP
    have hI : y_I K cs A F24 := by rw [hF25]; exact y_clA (i := 12) hA hI (by decide) b23
    have hfr : ∀ b, K b ∉ [62] → F24 b = F b := by rw [hF25]; exact s_fr hfr (y_k12 hA) (by decide)
    have oY26 : F24 a0 = .inr (7, y_fl A z0 q0) := by rw [hF25]; exact th_ne (th_kd ha0 (y_k12 hA) (by decide)) oY13
    have o27 : F24 (A 12) = .inl (cs 0, 400, .inl f21) := by rw [hF25]; exact th_up
    have u28 : ∀ j : Int, 0 ≤ j → y_c f21 j = if j = r16.toInt then x2 else y_c f1 j := by rw [u22]; exact y_cu rfl (by omega)
    exact W.vret hx hb hr (fun t ht hW => ⟨⟨F24, rfl, ⟨trivial, trivial, hI, hfr, fun k hk => (y_fiZ oY26 (s_sub (by decide) hk)).trans ((hz0 k hk).trans (y_fiZ oY0 (s_sub (by decide) hk)).symm), (by rw [y_atE o2, y_atE o27, y_fiZ oY0 (k := 5) (by decide), ← eF_5]; exact ⟨fun j h0 h1 => by rw [u28 j h0, if_neg (by rw [h10] at h19; omega)], fun _ => by rw [u28 _ (by rw [h10] at h19; omega), if_pos (by rw [h10] at h19; omega)]⟩)⟩, by rw [ht]; exact hP, va_K.moved hW.alike hK⟩, hS.F ht⟩) hS.2.2 dX7_lays_21

set_option maxHeartbeats 4000000 in
set_option maxRecDepth 100000 in
theorem y_X7_registerTold (l : Launch) (dC : Nat → ClassId) (dI : Nat → Nat → Nat) (sz : Nat) {L : List Nat} {K : Nat → Nat} {cs : Nat → ClassId} (hLK : ∀ a {k : Nat}, K a = k → k ≠ 0 → a ∈ L) (A : Nat → Nat) (hA : y_A K A) (F : Nat → va_E) (a0 : Nat) (ha0 : K a0 = 9) (hI : y_I K cs A F) : Met l yX7_registerTold (Cond.code yX7_registerTold cX7_registerTold 2 (some .int) :: T0) ({ frames := 3, cells := 0, slots := 0, locals := 64 }) (va_Pc [.ref a0] (s_W dC dI sz L F [(cs 0, .int), (cs 1, .byte), (cs 2, .long), (cs 3, .object RX5), (cs 4, .object RX4), (cs 5, .array .int), (cs 6, .char), (cs 7, .boolean)])) (va_Qi (fun (r : Int32) (G : Nat → va_E) => (0 ≤ r.toInt ∧ r.toInt ≤ 3) ∧ True ∧ y_I K cs A G ∧ (∀ b, K b ∉ [9] → G b = F b) ∧ (∀ k, k ∈ ([1, 3, 7, 8, 11, 15, 16, 19, 25, 26, 27, 31, 32] : List Nat) → y_fi G a0 k = y_fi F a0 k) ∧ (((y_fi F a0 5).toInt = 0 ∨ ¬ (y_fi G a0 5).toInt = 0) ∧ ((y_fi G a0 5).toInt = 0 → 0 ≤ r.toInt ∧ r.toInt ≤ 3))) (fun (G : Nat → va_E) (t : State) => va_P (dC, dI) vwCl (va_pl L G) t.heap ∧ va_K (dC, dI) vwCl [(cs 0, .int), (cs 1, .byte), (cs 2, .long), (cs 3, .object RX5), (cs 4, .object RX4), (cs 5, .array .int), (cs 6, .char), (cs 7, .boolean)] t) (fun q => q ∈ L)) 0 0 (fun q => q ∈ L) := by
  refine Met.ofW (cc := cX7_registerTold) (maxL := 2) (ret := (some .int)) (by decide) rfl ?_
  intro p e s m args below meth c s₁ B hml hv
  obtain ⟨rfl, hsz, hP, hK, hD, hN⟩ := hv
  have hx := B.exec
  have hb := B.bytes
  have hr := B.returns
  have hts : ∀ w ∈ T0, w.before _ s = true := fun w h => atoms_spec (ws := Cond.code yX7_registerTold cX7_registerTold 2 (some .int) :: T0) B.pre w (List.mem_cons_of_mem _ h)
  have hown : s.vm.findClass RX7 = some m.cls := findClass_of_methodNamed B.named
  have hlocks := B.notSynchronized
  have hS : va_S (fun q => q ∈ L) s.heap s.heap [] := va_S.rf
  have hfr : ∀ b, K b ∉ [9] → F b = F b := fun _ _ => rfl
  have hl := lv_entry ([.ref a0]) (n := 2) (Nat.le_of_ble_eq_true rfl)
  rw [lg_entry_eq]
  generalize (lg_sl ([.ref a0]) ++ List.replicate (2 - (lg_sl ([.ref a0])).length) Slot.unset).toArray = ls at hl ⊢
  have hl : lv_has ls 2 [(0, .ref a0)] := hl
  refine s_gen hP hS (fun H locs hP hS => ?_)
  obtain ⟨z0, q0, oY0, bz0⟩ := y_opY hI ha0
  have hz0 : ∀ k, k ∈ ([1, 3, 7, 8, 11, 15, 16, 19, 25, 26, 27, 31, 32] : List Nat) → z0 k = z0 k := fun _ _ => rfl
  obtain ⟨v1, ev1⟩ : ∃ y : Int32, y = z0 5 := ⟨_, rfl⟩
  have eF_5 := ev1
  have e0_v1 := ev1
  refine th_join (fun g H locs => ∃ (G : Nat → va_E) (ls : Array Slot) (w2 : Int32), g = F0 m 50 ls [] ∧ lv_has ls 2 [(0, .ref a0), (1, .int w2)] ∧ va_P (dC, dI) vwCl (va_pl L G) H ∧ va_S (fun q => q ∈ L) s.heap H locs ∧ y_I K cs A G ∧ (∀ b, K b ∉ [9] → G b = F b) ∧ (∀ k, k ∈ ([1, 3, 7, 8, 11, 15, 16, 19, 25, 26, 27, 31, 32] : List Nat) → y_fi G a0 k = z0 k) ∧ True ∧ ((v1.toInt = 0 ∨ ¬ (y_fi G a0 5).toInt = 0) ∧ ((y_fi G a0 5).toInt = 0 → 16 ≤ w2.toInt ∧ w2.toInt ≤ 19))) (fun K50 => ?_) ?_
  refine th_join (fun g H locs => ∃ (G : Nat → va_E) (ls : Array Slot) (w3 : Int32) (w4 : Int32), g = F0 m 47 ls [.int w4, .int 1, .ref a0] ∧ lv_has ls 2 [(0, .ref a0), (1, .int w3)] ∧ va_P (dC, dI) vwCl (va_pl L G) H ∧ va_S (fun q => q ∈ L) s.heap H locs ∧ y_I K cs A G ∧ (∀ b, K b ∉ [9] → G b = F b) ∧ (∀ k, k ∈ ([1, 3, 7, 8, 11, 15, 16, 19, 25, 26, 27, 31, 32] : List Nat) → y_fi G a0 k = z0 k) ∧ True ∧ (0 ≤ w4.toInt ∧ w4.toInt ≤ 1600) ∧ (v1.toInt = (y_fi G a0 5).toInt)) (fun K47 => ?_) ?_
  · refine lv_aload_n hx hb dX7_registerTold_0 rfl (lv_at hl 0 rfl) ?_
    refine va_calli (va_runV (As := []) (rest := []) ⟨hx, hb, hml, hown, hts⟩ (y_X7_ownHere l dC dI H.size hLK A hA F a0 ha0 hI) (cwV 0 hts (ax_gV T_283 T_284 T_285 T_265 T_25) rfl rfl rfl (by decide +kernel) ⟨Nat.le_of_ble_eq_true rfl, Nat.le_of_ble_eq_true rfl⟩) ⟨fun a U g mk q => ⟨q.1, s_pc rfl rfl q.2⟩, s_recv hK hP (hLK _ ha0 (by decide)) (ci := 7) rfl oY0, fun U hU hW => ⟨rfl, s_pw hU hW hP hK hD hN⟩⟩ rfl rfl hl.1 rfl (lv_room (Nat.le_of_ble_eq_true rfl)) dX7_registerTold_1 ⟨Nat.zero_le _, Nat.zero_le _⟩) hS (fun q _ h => h) (fun q h => h) (fun r6 F7 t H1 locs ht hvm hw hB hz1 hk1 hS => ?_)
    obtain ⟨hP, hK1⟩ := hB
    rw [ht] at hP
    generalize H1 = H at hP hS ⊢
    obtain ⟨h8, h10, hI, hfr1, hzf, h9⟩ := hw
    obtain ⟨z11, q12, oY13, bz14⟩ := y_opY hI ha0
    have hzf : ∀ k, k ∈ ([1, 3, 4, 5, 6, 7, 8, 11, 15, 16, 19, 25, 26, 27, 31, 32] : List Nat) → z11 k = z0 k := fun k hk => by have q9 := hzf k hk; rw [y_fiZ oY13 (s_sub (by decide) hk), y_fiZ oY0 (s_sub (by decide) hk)] at q9; exact q9
    have hz0 : ∀ k, k ∈ ([1, 3, 7, 8, 11, 15, 16, 19, 25, 26, 27, 31, 32] : List Nat) → z11 k = z0 k := fun k hk => (hzf k (s_sub (by decide) hk)).trans (hz0 k hk)
    have ev1 : v1 = z11 5 := ev1.trans (hzf 5 (by decide)).symm
    have hfr : ∀ b, K b ∉ [9] → F7 b = F b := fun b hb9 => (hfr1 b (fun q => hb9 (s_sub (by decide) q))).trans (hfr b hb9)
    refine lv_istore_n (lv' := [(1, .int r6), (0, .ref a0)]) hx hb dX7_registerTold_4 rfl hl (by decide) rfl (fun ls hl => ?_)
    refine lv_aload_n hx hb dX7_registerTold_5 rfl (lv_at hl 1 rfl) ?_
    refine th_get (D := (dC, dI)) (ci := 7) (v := .int (z11 5)) (C := RX7) (T := TX7) (N := 34) hx hb hts inX7 hown hK hP (hLK _ ha0 (by decide)) oY13 rfl 5 (by decide) (hts _ T_274) (fun _ h9 => h9) rfl dX7_registerTold_6 ?_
    refine ax_eqi (y := v1) ev1.symm ?_
    refine lv_if_ne (tgt := 50) hx hb dX7_registerTold_9 (by decide) (fun c15 => ?_) (fun c15 => ?_)
    · have c15 := mt (ax_eq (n := 0) (by decide)).mpr c15
      exact K50 _ _ _ ⟨F7, _, r6, rfl, lv_sub hl [1, 0] rfl, hP, hS, hI, hfr, (fun k hk => (y_fiZ oY13 (s_sub (by decide) hk)).trans (hz0 k hk)), trivial, (by rw [y_fiZ oY13 (k := 5) (by decide), ← ev1]; omega)⟩
    · have c15 := (ax_eq (n := 0) (by decide)).mp c15
      refine lv_iload_n hx hb dX7_registerTold_12 rfl (lv_at hl 0 rfl) ?_
      refine lv_i2l hx hb dX7_registerTold_13 rfl ?_
      refine lv_topl (fun v16 ev16 => ?_)
      have qv16 : v16.toInt = r6.toInt := y_i2l ev16
      refine lv_ldc2 hx hb hown (hts _ T_1305) dX7_registerTold_14 ?_
      refine lv_ldc2 hx hb hown (hts _ T_1306) dX7_registerTold_17 ?_
      refine va_calli (va_runS (As := [.long v16, .long 16, .long 19]) (rest := []) ⟨hx, hb, hml, hown, hts⟩ (y_X7_isIn l dC dI H.size F7 v16 16 19) (cwS 3 hts (ax_gS T_267 T_268 T_265 T_21) rfl rfl rfl (by decide +kernel) ⟨Nat.le_of_ble_eq_true rfl, Nat.le_of_ble_eq_true rfl⟩) ⟨fun a U g mk q => ⟨q.1, s_pc rfl rfl q.2⟩, fun U hU hW => ⟨rfl, s_pw hU hW hP hK hD hN⟩⟩ rfl rfl hl.1 rfl (lv_room (Nat.le_of_ble_eq_true rfl)) dX7_registerTold_20 ⟨Nat.zero_le _, Nat.zero_le _⟩) hS (fun q _ h => h) (fun q h => h) (fun r18 F19 t H1 locs ht hvm hw hB hz1 hk1 hS => ?_)
      obtain ⟨hP, hK1⟩ := hB
      rw [ht] at hP
      generalize H1 = H at hP hS ⊢
      obtain ⟨h20, h22, hG9, h21⟩ := hw
      rw [hG9] at hP
      have h21 : ((r18.toInt = 0 ∧ (v16.toInt < 16 ∨ 19 < v16.toInt)) ∨ (r18.toInt = 1 ∧ 16 ≤ v16.toInt ∧ v16.toInt ≤ 19)) := by have q9 := h21; exact q9
      refine lv_if_ne (tgt := 50) hx hb dX7_registerTold_23 (by decide) (fun c23 => ?_) (fun c23 => ?_)
      · have c23 := mt (ax_eq (n := 0) (by decide)).mpr c23
        exact K50 _ _ _ ⟨F7, _, r6, rfl, lv_sub hl [1, 0] rfl, hP, hS, hI, hfr, (fun k hk => (y_fiZ oY13 (s_sub (by decide) hk)).trans (hz0 k hk)), trivial, (by rw [y_fiZ oY13 (k := 5) (by decide), ← ev1]; omega)⟩
      · have c23 := (ax_eq (n := 0) (by decide)).mp c23
        refine lv_aload_n hx hb dX7_registerTold_26 rfl (lv_at hl 1 rfl) ?_
        refine lv_iconst (v := 1) hx hb dX7_registerTold_27 (by decide) ?_
        refine lv_aload_n hx hb dX7_registerTold_28 rfl (lv_at hl 1 rfl) ?_
        refine va_calli (va_runV (As := []) (rest := [.int 1, .ref a0]) ⟨hx, hb, hml, hown, hts⟩ (y_X7_look l dC dI H.size hLK A hA F7 a0 ha0 hI) (cwV 0 hts (ax_gV T_275 T_276 T_277 T_265 T_22) rfl rfl rfl (by decide +kernel) ⟨Nat.le_of_ble_eq_true rfl, Nat.le_of_ble_eq_true rfl⟩) ⟨fun a U g mk q => ⟨q.1, s_pc rfl rfl q.2⟩, s_recv hK hP (hLK _ ha0 (by decide)) (ci := 7) rfl oY13, fun U hU hW => ⟨rfl, s_pw hU hW hP hK hD hN⟩⟩ rfl rfl hl.1 rfl (lv_room (Nat.le_of_ble_eq_true rfl)) dX7_registerTold_29 ⟨Nat.zero_le _, Nat.zero_le _⟩) hS (fun q _ h => h) (fun q h => h) (fun r25 F26 t H1 locs ht hvm hw hB hz1 hk1 hS => ?_)
        obtain ⟨hP, hK1⟩ := hB
        rw [ht] at hP
        generalize H1 = H at hP hS ⊢
        obtain ⟨h27, h29, hI, hfr1, hzf, h28⟩ := hw
        obtain ⟨z30, q31, oY32, bz33⟩ := y_opY hI ha0
        have hzf : ∀ k, k ∈ ([1, 3, 4, 5, 6, 7, 8, 11, 15, 16, 19, 25, 26, 27, 31, 32] : List Nat) → z30 k = z11 k := fun k hk => by have q9 := hzf k hk; rw [y_fiZ oY32 (s_sub (by decide) hk), y_fiZ oY13 (s_sub (by decide) hk)] at q9; exact q9
        have hz0 : ∀ k, k ∈ ([1, 3, 7, 8, 11, 15, 16, 19, 25, 26, 27, 31, 32] : List Nat) → z30 k = z0 k := fun k hk => (hzf k (s_sub (by decide) hk)).trans (hz0 k hk)
        have ev1 : v1 = z30 5 := ev1.trans (hzf 5 (by decide)).symm
        have hfr : ∀ b, K b ∉ [9] → F26 b = F b := fun b hb9 => (hfr1 b (fun q => hb9 (s_sub (by decide) q))).trans (hfr b hb9)
        obtain ⟨v34, ev34⟩ : ∃ y : Int32, y = z30 2 := ⟨_, rfl⟩
        have qv34 : 0 ≤ v34.toInt ∧ v34.toInt ≤ 1600 := by rw [ev34]; exact y_bY2 bz33
        obtain ⟨v35, ev35⟩ : ∃ y : Int32, y = z30 3 := ⟨_, rfl⟩
        have qv35 : 0 ≤ v35.toInt ∧ v35.toInt ≤ 1600 := by rw [ev35]; exact y_bY3 bz33
        have h28 : (r25.toInt = -1 ∨ v34.toInt < v35.toInt) := by have q9 := h28; rw [y_fiZ oY32 (k := 2) (by decide), ← ev34, y_fiZ oY32 (k := 3) (by decide), ← ev35] at q9; exact q9
        refine lv_iconst (v := (-1)) hx hb dX7_registerTold_32 (by decide) ?_
        refine lv_icmp_ne (tgt := 43) hx hb dX7_registerTold_33 (by decide) (fun c36 => ?_) (fun c36 => ?_)
        · have c36 := mt (ax_eq (n := (-1)) (by decide)).mpr c36
          refine lv_aload_n hx hb dX7_registerTold_43 rfl (lv_at hl 1 rfl) ?_
          refine th_get (D := (dC, dI)) (ci := 7) (v := .int (z30 2)) (C := RX7) (T := TX7) (N := 34) hx hb hts inX7 hown hK hP (hLK _ ha0 (by decide)) oY32 rfl 2 (by decide) (hts _ T_272) (fun _ h9 => h9) rfl dX7_registerTold_44 ?_
          refine ax_eqi (y := v34) ev34.symm ?_
          exact K47 _ _ _ ⟨F26, _, r6, v34, rfl, lv_sub hl [1, 0] rfl, hP, hS, hI, hfr, (fun k hk => (y_fiZ oY32 (s_sub (by decide) hk)).trans (hz0 k hk)), trivial, ⟨by omega, by omega⟩, (by rw [y_fiZ oY32 (k := 5) (by decide), ← ev1]; omega)⟩
        · have c36 := (ax_eq (n := (-1)) (by decide)).mp c36
          refine lv_aload_n hx hb dX7_registerTold_36 rfl (lv_at hl 1 rfl) ?_
          refine th_get (D := (dC, dI)) (ci := 7) (v := .int (z30 3)) (C := RX7) (T := TX7) (N := 34) hx hb hts inX7 hown hK hP (hLK _ ha0 (by decide)) oY32 rfl 3 (by decide) (hts _ T_273) (fun _ h9 => h9) rfl dX7_registerTold_37 ?_
          refine ax_eqi (y := v35) ev35.symm ?_
          refine lv_goto (tgt := 47) hx hb dX7_registerTold_40 (by decide) ?_
          exact K47 _ _ _ ⟨F26, _, r6, v35, rfl, lv_sub hl [1, 0] rfl, hP, hS, hI, hfr, (fun k hk => (y_fiZ oY32 (s_sub (by decide) hk)).trans (hz0 k hk)), trivial, ⟨by omega, by omega⟩, (by rw [y_fiZ oY32 (k := 5) (by decide), ← ev1]; omega)⟩
  · intro g H locs hq
    obtain ⟨F40, ls, w3, w4, rfl, hl, hP, hS, hI, hfr, hz0, h37, h38, h39⟩ := hq
    obtain ⟨z41, q42, oY43, bz44⟩ := y_opY hI ha0
    have hz0 : ∀ k, k ∈ ([1, 3, 7, 8, 11, 15, 16, 19, 25, 26, 27, 31, 32] : List Nat) → z41 k = z0 k := fun k hk => (y_fiZ oY43 (s_sub (by decide) hk)).symm.trans (hz0 k hk)
    obtain ⟨v45, ev45⟩ : ∃ y : Int32, y = z41 5 := ⟨_, rfl⟩
    have h39 : (v1.toInt = v45.toInt) := by have q9 := h39; rw [y_fiZ oY43 (k := 5) (by decide), ← ev45] at q9; exact q9
    refine va_callv (va_runV (As := [.int 1, .int w4]) (rest := []) ⟨hx, hb, hml, hown, hts⟩ (y_X7_fail l dC dI H.size hLK A hA F40 a0 1 w4 ha0 (by decide) hI) (cwV 2 hts (ax_gV T_290 T_291 T_292 T_265 T_27) rfl rfl rfl (by decide +kernel) ⟨Nat.le_of_ble_eq_true rfl, Nat.le_of_ble_eq_true rfl⟩) ⟨fun a U g mk q => ⟨q.1, s_pc rfl rfl q.2⟩, s_recv hK hP (hLK _ ha0 (by decide)) (ci := 7) rfl oY43, fun U hU hW => ⟨rfl, s_pw hU hW hP hK hD hN⟩⟩ rfl rfl hl.1 rfl (lv_room (Nat.le_of_ble_eq_true rfl)) dX7_registerTold_47 ⟨Nat.zero_le _, Nat.zero_le _⟩) hS (fun q _ h => h) (fun q h => h) (fun F47 t H1 locs ht hvm hw hB hz1 hk1 hS => ?_)
    obtain ⟨hP, hK1⟩ := hB
    rw [ht] at hP
    generalize H1 = H at hP hS ⊢
    obtain ⟨h48, h50, hI, hfr1, hzf, h49⟩ := hw
    obtain ⟨z51, q52, oY53, bz54⟩ := y_opY hI ha0
    have hzf : ∀ k, k ∈ ([1, 2, 3, 4, 7, 8, 11, 15, 16, 19, 25, 26, 27, 31, 32] : List Nat) → z51 k = z41 k := fun k hk => by have q9 := hzf k hk; rw [y_fiZ oY53 (s_sub (by decide) hk), y_fiZ oY43 (s_sub (by decide) hk)] at q9; exact q9
    have hz0 : ∀ k, k ∈ ([1, 3, 7, 8, 11, 15, 16, 19, 25, 26, 27, 31, 32] : List Nat) → z51 k = z0 k := fun k hk => (hzf k (s_sub (by decide) hk)).trans (hz0 k hk)
    have hfr : ∀ b, K b ∉ [9] → F47 b = F b := fun b hb9 => (hfr1 b (fun q => hb9 (s_sub (by decide) q))).trans (hfr b hb9)
    obtain ⟨v55, ev55⟩ : ∃ y : Int32, y = z51 5 := ⟨_, rfl⟩
    have h49 : (¬ v55.toInt = 0) := by have q9 := h49; rw [y_fiZ oY53 (k := 5) (by decide), ← ev55] at q9; exact q9
    exact K50 _ _ _ ⟨F47, _, w3, rfl, lv_sub hl [0, 1] rfl, hP, hS, hI, hfr, (fun k hk => (y_fiZ oY53 (s_sub (by decide) hk)).trans (hz0 k hk)), trivial, (by rw [y_fiZ oY53 (k := 5) (by decide), ← ev55]; omega)⟩
  · intro g H locs hq
    obtain ⟨F58, ls, w2, rfl, hl, hP, hS, hI, hfr, hz0, h56, h57⟩ := hq
    obtain ⟨z59, q60, oY61, bz62⟩ := y_opY hI ha0
    have hz0 : ∀ k, k ∈ ([1, 3, 7, 8, 11, 15, 16, 19, 25, 26, 27, 31, 32] : List Nat) → z59 k = z0 k := fun k hk => (y_fiZ oY61 (s_sub (by decide) hk)).symm.trans (hz0 k hk)
    obtain ⟨v63, ev63⟩ : ∃ y : Int32, y = z59 5 := ⟨_, rfl⟩
    have h57 : ((v1.toInt = 0 ∨ ¬ v63.toInt = 0) ∧ (v63.toInt = 0 → 16 ≤ w2.toInt ∧ w2.toInt ≤ 19)) := by have q9 := h57; rw [y_fiZ oY61 (k := 5) (by decide), ← ev63] at q9; exact q9
    refine lv_aload_n hx hb dX7_registerTold_50 rfl (lv_at hl 0 rfl) ?_
    refine th_get (D := (dC, dI)) (ci := 7) (v := .int (z59 5)) (C := RX7) (T := TX7) (N := 34) hx hb hts inX7 hown hK hP (hLK _ ha0 (by decide)) oY61 rfl 5 (by decide) (hts _ T_274) (fun _ h9 => h9) rfl dX7_registerTold_51 ?_
    refine ax_eqi (y := v63) ev63.symm ?_
    refine lv_if_eq (tgt := 59) hx hb dX7_registerTold_54 (by decide) (fun c64 => ?_) (fun c64 => ?_)
    · have c64 := (ax_eq (n := 0) (by decide)).mp c64
      refine lv_aload_n hx hb dX7_registerTold_59 rfl (lv_at hl 0 rfl) ?_
      refine va_callv (va_runV (As := []) (rest := []) ⟨hx, hb, hml, hown, hts⟩ (y_X7_passes l dC dI H.size hLK A hA F58 a0 ha0 hI) (cwV 0 hts (ax_gV T_1257 T_1259 T_1260 T_265 T_1258) rfl rfl rfl (by decide +kernel) ⟨Nat.le_of_ble_eq_true rfl, Nat.le_of_ble_eq_true rfl⟩) ⟨fun a U g mk q => ⟨q.1, s_pc rfl rfl q.2⟩, s_recv hK hP (hLK _ ha0 (by decide)) (ci := 7) rfl oY61, fun U hU hW => ⟨rfl, s_pw hU hW hP hK hD hN⟩⟩ rfl rfl hl.1 rfl (lv_room (Nat.le_of_ble_eq_true rfl)) dX7_registerTold_60 ⟨Nat.zero_le _, Nat.zero_le _⟩) hS (fun q _ h => h) (fun q h => h) (fun F66 t H1 locs ht hvm hw hB hz1 hk1 hS => ?_)
      obtain ⟨hP, hK1⟩ := hB
      rw [ht] at hP
      generalize H1 = H at hP hS ⊢
      obtain ⟨h67, h69, hI, hfr1, hzf, h68⟩ := hw
      obtain ⟨z70, q71, oY72, bz73⟩ := y_opY hI ha0
      have hzf : ∀ k, k ∈ ([1, 3, 5, 6, 7, 8, 11, 15, 16, 19, 25, 26, 27, 31, 32] : List Nat) → z70 k = z59 k := fun k hk => by have q9 := hzf k hk; rw [y_fiZ oY72 (s_sub (by decide) hk), y_fiZ oY61 (s_sub (by decide) hk)] at q9; exact q9
      have hz0 : ∀ k, k ∈ ([1, 3, 7, 8, 11, 15, 16, 19, 25, 26, 27, 31, 32] : List Nat) → z70 k = z0 k := fun k hk => (hzf k (s_sub (by decide) hk)).trans (hz0 k hk)
      have ev63 : v63 = z70 5 := ev63.trans (hzf 5 (by decide)).symm
      have hfr : ∀ b, K b ∉ [9] → F66 b = F b := fun b hb9 => (hfr1 b (fun q => hb9 (s_sub (by decide) q))).trans (hfr b hb9)
      refine lv_iload_n hx hb dX7_registerTold_63 rfl (lv_at hl 1 rfl) ?_
      have h74 : 16 ≤ w2.toInt ∧ w2.toInt ≤ 19 := ⟨by omega, by omega⟩
      refine lv_bipush (v := 16) hx hb dX7_registerTold_64 (by decide) ?_
      refine lv_isub hx hb dX7_registerTold_66 ?_
      refine lv_topi (fun v75 ev75 => ?_)
      have qv75 : v75.toInt = w2.toInt - 16 := by rw [ev75]; exact th_sub rfl (by decide) ⟨by omega, by omega⟩
      exact W.iret (v := v75) hx hb hr (fun t ht hW => ⟨⟨v75, F66, rfl, ⟨⟨by omega, by omega⟩, trivial, hI, hfr, fun k hk => (y_fiZ oY72 (s_sub (by decide) hk)).trans ((hz0 k hk).trans (y_fiZ oY0 (s_sub (by decide) hk)).symm), (by rw [y_fiZ oY0 (k := 5) (by decide), ← eF_5, y_fiZ oY72 (k := 5) (by decide), ← ev63]; omega)⟩, by rw [ht]; exact hP, va_K.moved hW.alike hK⟩, hS.F ht⟩) hS.2.2 dX7_registerTold_67
    · have c64 := mt (ax_eq (n := 0) (by decide)).mpr c64
      refine lv_iconst (v := 0) hx hb dX7_registerTold_57 (by decide) ?_
      exact W.iret (v := 0) hx hb hr (fun t ht hW => ⟨⟨0, F58, rfl, ⟨(by decide), trivial, hI, hfr, fun k hk => (y_fiZ oY61 (s_sub (by decide) hk)).trans ((hz0 k hk).trans (y_fiZ oY0 (s_sub (by decide) hk)).symm), (by rw [y_fiZ oY0 (k := 5) (by decide), ← eF_5, y_fiZ oY61 (k := 5) (by decide), ← ev63]; omega)⟩, by rw [ht]; exact hP, va_K.moved hW.alike hK⟩, hS.F ht⟩) hS.2.2 dX7_registerTold_58

set_option maxHeartbeats 4000000 in
set_option maxRecDepth 100000 in
theorem y_X7_partTold (l : Launch) (dC : Nat → ClassId) (dI : Nat → Nat → Nat) (sz : Nat) {L : List Nat} {K : Nat → Nat} {cs : Nat → ClassId} (hLK : ∀ a {k : Nat}, K a = k → k ≠ 0 → a ∈ L) (A : Nat → Nat) (hA : y_A K A) (F : Nat → va_E) (a0 : Nat) (ha0 : K a0 = 9) (hI : y_I K cs A F) : Met l yX7_partTold (Cond.code yX7_partTold cX7_partTold 2 (some .int) :: T0) ({ frames := 4, cells := 0, slots := 0, locals := 85 }) (va_Pc [.ref a0] (s_W dC dI sz L F [(cs 0, .int), (cs 1, .byte), (cs 2, .long), (cs 3, .object RX5), (cs 4, .object RX4), (cs 5, .array .int), (cs 6, .char), (cs 7, .boolean)])) (va_Qi (fun (r : Int32) (G : Nat → va_E) => True ∧ True ∧ y_I K cs A G ∧ (∀ b, K b ∉ [9] → G b = F b) ∧ (∀ k, k ∈ ([1, 3, 7, 8, 11, 15, 16, 19, 25, 26, 27, 31, 32] : List Nat) → y_fi G a0 k = y_fi F a0 k) ∧ (((y_fi F a0 5).toInt = 0 ∨ ¬ (y_fi G a0 5).toInt = 0) ∧ ((y_fi G a0 5).toInt = 0 → -4 ≤ r.toInt ∧ r.toInt ≤ 999))) (fun (G : Nat → va_E) (t : State) => va_P (dC, dI) vwCl (va_pl L G) t.heap ∧ va_K (dC, dI) vwCl [(cs 0, .int), (cs 1, .byte), (cs 2, .long), (cs 3, .object RX5), (cs 4, .object RX4), (cs 5, .array .int), (cs 6, .char), (cs 7, .boolean)] t) (fun q => q ∈ L)) 0 0 (fun q => q ∈ L) := by
  refine Met.ofW (cc := cX7_partTold) (maxL := 2) (ret := (some .int)) (by decide) rfl ?_
  intro p e s m args below meth c s₁ B hml hv
  obtain ⟨rfl, hsz, hP, hK, hD, hN⟩ := hv
  have hx := B.exec
  have hb := B.bytes
  have hr := B.returns
  have hts : ∀ w ∈ T0, w.before _ s = true := fun w h => atoms_spec (ws := Cond.code yX7_partTold cX7_partTold 2 (some .int) :: T0) B.pre w (List.mem_cons_of_mem _ h)
  have hown : s.vm.findClass RX7 = some m.cls := findClass_of_methodNamed B.named
  have hlocks := B.notSynchronized
  have hS : va_S (fun q => q ∈ L) s.heap s.heap [] := va_S.rf
  have hfr : ∀ b, K b ∉ [9] → F b = F b := fun _ _ => rfl
  have hl := lv_entry ([.ref a0]) (n := 2) (Nat.le_of_ble_eq_true rfl)
  rw [lg_entry_eq]
  generalize (lg_sl ([.ref a0]) ++ List.replicate (2 - (lg_sl ([.ref a0])).length) Slot.unset).toArray = ls at hl ⊢
  have hl : lv_has ls 2 [(0, .ref a0)] := hl
  refine s_gen hP hS (fun H locs hP hS => ?_)
  obtain ⟨z0, q0, oY0, bz0⟩ := y_opY hI ha0
  have hz0 : ∀ k, k ∈ ([1, 3, 7, 8, 11, 15, 16, 19, 25, 26, 27, 31, 32] : List Nat) → z0 k = z0 k := fun _ _ => rfl
  obtain ⟨v1, ev1⟩ : ∃ y : Int32, y = z0 5 := ⟨_, rfl⟩
  have eF_5 := ev1
  have e0_v1 := ev1
  refine th_join (fun g H locs => ∃ (G : Nat → va_E) (ls : Array Slot), g = F0 m 39 ls [] ∧ lv_has ls 2 [(0, .ref a0)] ∧ va_P (dC, dI) vwCl (va_pl L G) H ∧ va_S (fun q => q ∈ L) s.heap H locs ∧ y_I K cs A G ∧ (∀ b, K b ∉ [9] → G b = F b) ∧ (∀ k, k ∈ ([1, 3, 7, 8, 11, 15, 16, 19, 25, 26, 27, 31, 32] : List Nat) → y_fi G a0 k = z0 k) ∧ (v1.toInt = (y_fi G a0 5).toInt)) (fun K39 => ?_) ?_
  · refine lv_aload_n hx hb dX7_partTold_0 rfl (lv_at hl 0 rfl) ?_
    refine va_calli (va_runV (As := []) (rest := []) ⟨hx, hb, hml, hown, hts⟩ (y_X7_look l dC dI H.size hLK A hA F a0 ha0 hI) (cwV 0 hts (ax_gV T_275 T_276 T_277 T_265 T_22) rfl rfl rfl (by decide +kernel) ⟨Nat.le_of_ble_eq_true rfl, Nat.le_of_ble_eq_true rfl⟩) ⟨fun a U g mk q => ⟨q.1, s_pc rfl rfl q.2⟩, s_recv hK hP (hLK _ ha0 (by decide)) (ci := 7) rfl oY0, fun U hU hW => ⟨rfl, s_pw hU hW hP hK hD hN⟩⟩ rfl rfl hl.1 rfl (lv_room (Nat.le_of_ble_eq_true rfl)) dX7_partTold_1 ⟨Nat.zero_le _, Nat.zero_le _⟩) hS (fun q _ h => h) (fun q h => h) (fun r3 F4 t H1 locs ht hvm hw hB hz1 hk1 hS => ?_)
    obtain ⟨hP, hK1⟩ := hB
    rw [ht] at hP
    generalize H1 = H at hP hS ⊢
    obtain ⟨h5, h7, hI, hfr1, hzf, h6⟩ := hw
    obtain ⟨z8, q9, oY10, bz11⟩ := y_opY hI ha0
    have hzf : ∀ k, k ∈ ([1, 3, 4, 5, 6, 7, 8, 11, 15, 16, 19, 25, 26, 27, 31, 32] : List Nat) → z8 k = z0 k := fun k hk => by have q9 := hzf k hk; rw [y_fiZ oY10 (s_sub (by decide) hk), y_fiZ oY0 (s_sub (by decide) hk)] at q9; exact q9
    have hz0 : ∀ k, k ∈ ([1, 3, 7, 8, 11, 15, 16, 19, 25, 26, 27, 31, 32] : List Nat) → z8 k = z0 k := fun k hk => (hzf k (s_sub (by decide) hk)).trans (hz0 k hk)
    have ev1 : v1 = z8 5 := ev1.trans (hzf 5 (by decide)).symm
    have hfr : ∀ b, K b ∉ [9] → F4 b = F b := fun b hb9 => (hfr1 b (fun q => hb9 (s_sub (by decide) q))).trans (hfr b hb9)
    obtain ⟨v12, ev12⟩ : ∃ y : Int32, y = z8 2 := ⟨_, rfl⟩
    have qv12 : 0 ≤ v12.toInt ∧ v12.toInt ≤ 1600 := by rw [ev12]; exact y_bY2 bz11
    obtain ⟨v13, ev13⟩ : ∃ y : Int32, y = z8 3 := ⟨_, rfl⟩
    have qv13 : 0 ≤ v13.toInt ∧ v13.toInt ≤ 1600 := by rw [ev13]; exact y_bY3 bz11
    have h6 : (r3.toInt = -1 ∨ v12.toInt < v13.toInt) := by have q9 := h6; rw [y_fiZ oY10 (k := 2) (by decide), ← ev12, y_fiZ oY10 (k := 3) (by decide), ← ev13] at q9; exact q9
    refine lv_istore_n (lv' := [(1, .int r3), (0, .ref a0)]) hx hb dX7_partTold_4 rfl hl (by decide) rfl (fun ls hl => ?_)
    refine lv_aload_n hx hb dX7_partTold_5 rfl (lv_at hl 1 rfl) ?_
    refine th_get (D := (dC, dI)) (ci := 7) (v := .int (z8 5)) (C := RX7) (T := TX7) (N := 34) hx hb hts inX7 hown hK hP (hLK _ ha0 (by decide)) oY10 rfl 5 (by decide) (hts _ T_274) (fun _ h9 => h9) rfl dX7_partTold_6 ?_
    refine ax_eqi (y := v1) ev1.symm ?_
    refine lv_if_ne (tgt := 39) hx hb dX7_partTold_9 (by decide) (fun c14 => ?_) (fun c14 => ?_)
    · have c14 := mt (ax_eq (n := 0) (by decide)).mpr c14
      exact K39 _ _ _ ⟨F4, _, rfl, lv_sub hl [1] rfl, hP, hS, hI, hfr, (fun k hk => (y_fiZ oY10 (s_sub (by decide) hk)).trans (hz0 k hk)), (by rw [y_fiZ oY10 (k := 5) (by decide), ← ev1]; omega)⟩
    · have c14 := (ax_eq (n := 0) (by decide)).mp c14
      refine lv_iload_n hx hb dX7_partTold_12 rfl (lv_at hl 0 rfl) ?_
      refine va_calli (va_runS (As := [.int r3]) (rest := []) ⟨hx, hb, hml, hown, hts⟩ (y_X7_isDigit l dC dI H.size F4 r3) (cwS 1 hts (ax_gS T_1279 T_1281 T_265 T_1280) rfl rfl rfl (by decide +kernel) ⟨Nat.le_of_ble_eq_true rfl, Nat.le_of_ble_eq_true rfl⟩) ⟨fun a U g mk q => ⟨q.1, s_pc rfl rfl q.2⟩, fun U hU hW => ⟨rfl, s_pw hU hW hP hK hD hN⟩⟩ rfl rfl hl.1 rfl (lv_room (Nat.le_of_ble_eq_true rfl)) dX7_partTold_13 ⟨Nat.zero_le _, Nat.zero_le _⟩) hS (fun q _ h => h) (fun q h => h) (fun r16 F17 t H1 locs ht hvm hw hB hz1 hk1 hS => ?_)
      obtain ⟨hP, hK1⟩ := hB
      rw [ht] at hP
      generalize H1 = H at hP hS ⊢
      obtain ⟨h18, h20, hG9, h19⟩ := hw
      rw [hG9] at hP
      refine lv_if_eq (tgt := 39) hx hb dX7_partTold_16 (by decide) (fun c21 => ?_) (fun c21 => ?_)
      · have c21 := (ax_eq (n := 0) (by decide)).mp c21
        exact K39 _ _ _ ⟨F4, _, rfl, lv_sub hl [1] rfl, hP, hS, hI, hfr, (fun k hk => (y_fiZ oY10 (s_sub (by decide) hk)).trans (hz0 k hk)), (by rw [y_fiZ oY10 (k := 5) (by decide), ← ev1]; omega)⟩
      · have c21 := mt (ax_eq (n := 0) (by decide)).mpr c21
        have h22 := h20 (fun q => c21 (by rw [q]; decide))
        refine lv_aload_n hx hb dX7_partTold_19 rfl (lv_at hl 1 rfl) ?_
        refine th_get (D := (dC, dI)) (ci := 7) (v := .int (z8 2)) (C := RX7) (T := TX7) (N := 34) hx hb hts inX7 hown hK hP (hLK _ ha0 (by decide)) oY10 rfl 2 (by decide) (hts _ T_272) (fun _ h9 => h9) rfl dX7_partTold_20 ?_
        refine ax_eqi (y := v12) ev12.symm ?_
        refine lv_aload_n hx hb dX7_partTold_23 rfl (lv_at hl 1 rfl) ?_
        refine th_get (D := (dC, dI)) (ci := 7) (v := .int (z8 4)) (C := RX7) (T := TX7) (N := 34) hx hb hts inX7 hown hK hP (hLK _ ha0 (by decide)) oY10 rfl 4 (by decide) (hts _ T_296) (fun _ h9 => h9) rfl dX7_partTold_24 ?_
        refine lv_topi (fun v23 ev23 => ?_)
        refine lv_icmp_eq (tgt := 39) hx hb dX7_partTold_27 (by decide) (fun c24 => ?_) (fun c24 => ?_)
        · have c24 := Int32.toInt_inj.symm.mp c24
          exact K39 _ _ _ ⟨F4, _, rfl, lv_sub hl [1] rfl, hP, hS, hI, hfr, (fun k hk => (y_fiZ oY10 (s_sub (by decide) hk)).trans (hz0 k hk)), (by rw [y_fiZ oY10 (k := 5) (by decide), ← ev1]; omega)⟩
        · have c24 := mt Int32.toInt_inj.symm.mpr c24
          refine lv_aload_n hx hb dX7_partTold_30 rfl (lv_at hl 1 rfl) ?_
          refine lv_iconst (v := 0) hx hb dX7_partTold_31 (by decide) ?_
          refine lv_sipush (v := 999) hx hb dX7_partTold_32 (by decide) ?_
          have ep25_5 := ev1
          refine va_calli (va_runV (As := [.int 0, .int 999]) (rest := []) ⟨hx, hb, hml, hown, hts⟩ (y_X7_number l dC dI H.size hLK A hA F4 a0 0 999 ha0 hI) (cwV 2 hts (ax_gV T_300 T_301 T_302 T_265 T_30) rfl rfl rfl (by decide +kernel) ⟨Nat.le_of_ble_eq_true rfl, Nat.le_of_ble_eq_true rfl⟩) ⟨fun a U g mk q => ⟨q.1, s_pc rfl rfl q.2⟩, s_recv hK hP (hLK _ ha0 (by decide)) (ci := 7) rfl oY10, fun U hU hW => ⟨rfl, s_pw hU hW hP hK hD hN⟩⟩ rfl rfl hl.1 rfl (lv_room (Nat.le_of_ble_eq_true rfl)) dX7_partTold_35 ⟨Nat.zero_le _, Nat.zero_le _⟩) hS (fun q _ h => h) (fun q h => h) (fun r26 F27 t H1 locs ht hvm hw hB hz1 hk1 hS => ?_)
          obtain ⟨hP, hK1⟩ := hB
          rw [ht] at hP
          generalize H1 = H at hP hS ⊢
          obtain ⟨h28, h30, hI, hfr1, hzf, h29⟩ := hw
          obtain ⟨z31, q32, oY33, bz34⟩ := y_opY hI ha0
          have hzf : ∀ k, k ∈ ([1, 3, 7, 8, 11, 15, 16, 19, 25, 26, 27, 31, 32] : List Nat) → z31 k = z8 k := fun k hk => by have q9 := hzf k hk; rw [y_fiZ oY33 (s_sub (by decide) hk), y_fiZ oY10 (s_sub (by decide) hk)] at q9; exact q9
          have hz0 : ∀ k, k ∈ ([1, 3, 7, 8, 11, 15, 16, 19, 25, 26, 27, 31, 32] : List Nat) → z31 k = z0 k := fun k hk => (hzf k (s_sub (by decide) hk)).trans (hz0 k hk)
          have ev13 : v13 = z31 3 := ev13.trans (hzf 3 (by decide)).symm
          have hfr : ∀ b, K b ∉ [9] → F27 b = F b := fun b hb9 => (hfr1 b (fun q => hb9 (s_sub (by decide) q))).trans (hfr b hb9)
          obtain ⟨v35, ev35⟩ : ∃ y : Int32, y = z31 5 := ⟨_, rfl⟩
          have h29 : ((v1.toInt = 0 ∨ ¬ v35.toInt = 0) ∧ (v35.toInt = 0 → 0 ≤ r26.toInt ∧ r26.toInt ≤ 999)) := by have q9 := h29; rw [y_fiZ oY10 (k := 5) (by decide), ← ep25_5, y_fiZ oY33 (k := 5) (by decide), ← ev35] at q9; exact q9
          exact W.iret (v := r26) hx hb hr (fun t ht hW => ⟨⟨r26, F27, rfl, ⟨trivial, trivial, hI, hfr, fun k hk => (y_fiZ oY33 (s_sub (by decide) hk)).trans ((hz0 k hk).trans (y_fiZ oY0 (s_sub (by decide) hk)).symm), (by rw [y_fiZ oY0 (k := 5) (by decide), ← eF_5, y_fiZ oY33 (k := 5) (by decide), ← ev35]; omega)⟩, by rw [ht]; exact hP, va_K.moved hW.alike hK⟩, hS.F ht⟩) hS.2.2 dX7_partTold_38
  · intro g H locs hq
    obtain ⟨F37, ls, rfl, hl, hP, hS, hI, hfr, hz0, h36⟩ := hq
    obtain ⟨z38, q39, oY40, bz41⟩ := y_opY hI ha0
    have hz0 : ∀ k, k ∈ ([1, 3, 7, 8, 11, 15, 16, 19, 25, 26, 27, 31, 32] : List Nat) → z38 k = z0 k := fun k hk => (y_fiZ oY40 (s_sub (by decide) hk)).symm.trans (hz0 k hk)
    obtain ⟨v42, ev42⟩ : ∃ y : Int32, y = z38 5 := ⟨_, rfl⟩
    have h36 : (v1.toInt = v42.toInt) := by have q9 := h36; rw [y_fiZ oY40 (k := 5) (by decide), ← ev42] at q9; exact q9
    refine lv_iconst (v := (-1)) hx hb dX7_partTold_39 (by decide) ?_
    refine lv_aload_n hx hb dX7_partTold_40 rfl (lv_at hl 0 rfl) ?_
    have ep43_5 := ev42
    refine va_calli (va_runV (As := []) (rest := [.int (-1)]) ⟨hx, hb, hml, hown, hts⟩ (y_X7_registerTold l dC dI H.size hLK A hA F37 a0 ha0 hI) (cwV 0 hts (ax_gV T_1264 T_1266 T_1267 T_265 T_1265) rfl rfl rfl (by decide +kernel) ⟨Nat.le_of_ble_eq_true rfl, Nat.le_of_ble_eq_true rfl⟩) ⟨fun a U g mk q => ⟨q.1, s_pc rfl rfl q.2⟩, s_recv hK hP (hLK _ ha0 (by decide)) (ci := 7) rfl oY40, fun U hU hW => ⟨rfl, s_pw hU hW hP hK hD hN⟩⟩ rfl rfl hl.1 rfl (lv_room (Nat.le_of_ble_eq_true rfl)) dX7_partTold_41 ⟨Nat.zero_le _, Nat.zero_le _⟩) hS (fun q _ h => h) (fun q h => h) (fun r44 F45 t H1 locs ht hvm hw hB hz1 hk1 hS => ?_)
    obtain ⟨hP, hK1⟩ := hB
    rw [ht] at hP
    generalize H1 = H at hP hS ⊢
    obtain ⟨h46, h48, hI, hfr1, hzf, h47⟩ := hw
    obtain ⟨z49, q50, oY51, bz52⟩ := y_opY hI ha0
    have hzf : ∀ k, k ∈ ([1, 3, 7, 8, 11, 15, 16, 19, 25, 26, 27, 31, 32] : List Nat) → z49 k = z38 k := fun k hk => by have q9 := hzf k hk; rw [y_fiZ oY51 (s_sub (by decide) hk), y_fiZ oY40 (s_sub (by decide) hk)] at q9; exact q9
    have hz0 : ∀ k, k ∈ ([1, 3, 7, 8, 11, 15, 16, 19, 25, 26, 27, 31, 32] : List Nat) → z49 k = z0 k := fun k hk => (hzf k (s_sub (by decide) hk)).trans (hz0 k hk)
    have hfr : ∀ b, K b ∉ [9] → F45 b = F b := fun b hb9 => (hfr1 b (fun q => hb9 (s_sub (by decide) q))).trans (hfr b hb9)
    obtain ⟨v53, ev53⟩ : ∃ y : Int32, y = z49 5 := ⟨_, rfl⟩
    have h47 : ((v42.toInt = 0 ∨ ¬ v53.toInt = 0) ∧ (v53.toInt = 0 → 0 ≤ r44.toInt ∧ r44.toInt ≤ 3)) := by have q9 := h47; rw [y_fiZ oY40 (k := 5) (by decide), ← ep43_5, y_fiZ oY51 (k := 5) (by decide), ← ev53] at q9; exact q9
    refine lv_isub hx hb dX7_partTold_44 ?_
    refine lv_topi (fun v54 ev54 => ?_)
    have qv54 : v54.toInt = (-1) - r44.toInt := by rw [ev54]; exact th_sub (by decide) rfl ⟨by omega, by omega⟩
    exact W.iret (v := v54) hx hb hr (fun t ht hW => ⟨⟨v54, F45, rfl, ⟨trivial, trivial, hI, hfr, fun k hk => (y_fiZ oY51 (s_sub (by decide) hk)).trans ((hz0 k hk).trans (y_fiZ oY0 (s_sub (by decide) hk)).symm), (by rw [y_fiZ oY0 (k := 5) (by decide), ← eF_5, y_fiZ oY51 (k := 5) (by decide), ← ev53]; omega)⟩, by rw [ht]; exact hP, va_K.moved hW.alike hK⟩, hS.F ht⟩) hS.2.2 dX7_partTold_45

set_option maxHeartbeats 4000000 in
set_option maxRecDepth 100000 in
theorem y_X7_hasRegister (l : Launch) (dC : Nat → ClassId) (dI : Nat → Nat → Nat) (sz : Nat) {L : List Nat} {cs : Nat → ClassId} (F : Nat → va_E) (x0 : Int32) (hx0 : 0 ≤ x0.toInt ∧ x0.toInt ≤ 15) : Met l yX7_hasRegister (Cond.code yX7_hasRegister cX7_hasRegister 1 (some .boolean) :: T0) ({ frames := 0, cells := 0, slots := 0, locals := 0 }) (va_Pc [.int x0] (s_W dC dI sz L F [(cs 0, .int), (cs 1, .byte), (cs 2, .long), (cs 3, .object RX5), (cs 4, .object RX4), (cs 5, .array .int), (cs 6, .char), (cs 7, .boolean)])) (va_Qi (fun (r : Int32) (G : Nat → va_E) => (0 ≤ r.toInt ∧ r.toInt ≤ 1) ∧ (¬ r = 0 → 0 ≤ x0.toInt ∧ x0.toInt ≤ 11) ∧ G = F ∧ True) (fun (G : Nat → va_E) (t : State) => va_P (dC, dI) vwCl (va_pl L G) t.heap ∧ va_K (dC, dI) vwCl [(cs 0, .int), (cs 1, .byte), (cs 2, .long), (cs 3, .object RX5), (cs 4, .object RX4), (cs 5, .array .int), (cs 6, .char), (cs 7, .boolean)] t) (fun q => q ∈ L)) 0 0 (fun q => q ∈ L) := by
  refine Met.ofW (cc := cX7_hasRegister) (maxL := 1) (ret := (some .boolean)) (by decide) rfl ?_
  intro p e s m args below meth c s₁ B hml hv
  obtain ⟨rfl, hsz, hP, hK, hD, hN⟩ := hv
  have hx := B.exec
  have hb := B.bytes
  have hr := B.returns
  have hts : ∀ w ∈ T0, w.before _ s = true := fun w h => atoms_spec (ws := Cond.code yX7_hasRegister cX7_hasRegister 1 (some .boolean) :: T0) B.pre w (List.mem_cons_of_mem _ h)
  have hown : s.vm.findClass RX7 = some m.cls := findClass_of_methodNamed B.named
  have hlocks := B.notSynchronized
  have hS : va_S (fun q => q ∈ L) s.heap s.heap [] := va_S.rf
  have hl := lv_entry ([.int x0]) (n := 1) (Nat.le_of_ble_eq_true rfl)
  rw [lg_entry_eq]
  generalize (lg_sl ([.int x0]) ++ List.replicate (1 - (lg_sl ([.int x0])).length) Slot.unset).toArray = ls at hl ⊢
  have hl : lv_has ls 1 [(0, .int x0)] := hl
  refine s_gen hP hS (fun H locs hP hS => ?_)
  refine th_join (fun g H locs => ∃ (G : Nat → va_E) (ls : Array Slot), g = F0 m 18 ls [] ∧ lv_has ls 1 [] ∧ va_P (dC, dI) vwCl (va_pl L G) H ∧ va_S (fun q => q ∈ L) s.heap H locs ∧ G = F) (fun K18 => ?_) ?_
  · refine lv_iload_n hx hb dX7_hasRegister_0 rfl (lv_at hl 0 rfl) ?_
    refine lv_bipush (v := 7) hx hb dX7_hasRegister_1 (by decide) ?_
    refine lv_icmp_le (tgt := 18) hx hb dX7_hasRegister_3 (by decide) (fun c1 => ?_) (fun c1 => ?_)
    · have c1 := (ax_le (n := 7) (by decide)).mp c1
      exact K18 _ _ _ ⟨F, _, rfl, lv_sub hl [] rfl, hP, hS, rfl⟩
    · have c1 := mt (ax_le (n := 7) (by decide)).mpr c1
      refine lv_iload_n hx hb dX7_hasRegister_6 rfl (lv_at hl 0 rfl) ?_
      refine lv_bipush (v := 9) hx hb dX7_hasRegister_7 (by decide) ?_
      refine lv_icmp_eq (tgt := 18) hx hb dX7_hasRegister_9 (by decide) (fun c2 => ?_) (fun c2 => ?_)
      · have c2 := (ax_eq (n := 9) (by decide)).mp c2
        exact K18 _ _ _ ⟨F, _, rfl, lv_sub hl [] rfl, hP, hS, rfl⟩
      · have c2 := mt (ax_eq (n := 9) (by decide)).mpr c2
        refine lv_iload_n hx hb dX7_hasRegister_12 rfl (lv_at hl 0 rfl) ?_
        refine lv_bipush (v := 11) hx hb dX7_hasRegister_13 (by decide) ?_
        refine lv_icmp_ne (tgt := 22) hx hb dX7_hasRegister_15 (by decide) (fun c3 => ?_) (fun c3 => ?_)
        · have c3 := mt (ax_eq (n := 11) (by decide)).mpr c3
          refine lv_iconst (v := 0) hx hb dX7_hasRegister_22 (by decide) ?_
          exact W.zret (v := 0) (ty := .boolean) hx hb hr (by decide) (fun t ht hW => ⟨⟨0, F, rfl, ⟨(by decide), (fun q => absurd (by decide) q), rfl, trivial⟩, by rw [ht]; exact hP, va_K.moved hW.alike hK⟩, hS.F ht⟩) hS.2.2 dX7_hasRegister_23
        · have c3 := (ax_eq (n := 11) (by decide)).mp c3
          exact K18 _ _ _ ⟨F, _, rfl, lv_sub hl [] rfl, hP, hS, rfl⟩
  · intro g H locs hq
    obtain ⟨F4, ls, rfl, hl, hP, hS, hG9⟩ := hq
    rw [hG9] at hP
    refine lv_iconst (v := 1) hx hb dX7_hasRegister_18 (by decide) ?_
    refine lv_goto (tgt := 23) hx hb dX7_hasRegister_19 (by decide) ?_
    exact W.zret (v := 1) (ty := .boolean) hx hb hr (by decide) (fun t ht hW => ⟨⟨1, F, rfl, ⟨(by decide), (fun q => ⟨by omega, by omega⟩), rfl, trivial⟩, by rw [ht]; exact hP, va_K.moved hW.alike hK⟩, hS.F ht⟩) hS.2.2 dX7_hasRegister_23

set_option maxHeartbeats 4000000 in
set_option maxRecDepth 100000 in
theorem y_X7_partsOf (l : Launch) (dC : Nat → ClassId) (dI : Nat → Nat → Nat) (sz : Nat) {L : List Nat} {cs : Nat → ClassId} (F : Nat → va_E) (x0 : Int32) (hx0 : 0 ≤ x0.toInt ∧ x0.toInt ≤ 15) : Met l yX7_partsOf (Cond.code yX7_partsOf cX7_partsOf 1 (some .int) :: T0) ({ frames := 0, cells := 0, slots := 0, locals := 0 }) (va_Pc [.int x0] (s_W dC dI sz L F [(cs 0, .int), (cs 1, .byte), (cs 2, .long), (cs 3, .object RX5), (cs 4, .object RX4), (cs 5, .array .int), (cs 6, .char), (cs 7, .boolean)])) (va_Qi (fun (r : Int32) (G : Nat → va_E) => (0 ≤ r.toInt ∧ r.toInt ≤ 2) ∧ True ∧ G = F ∧ ((r.toInt = 0 ∧ (x0.toInt = 5 ∨ x0.toInt = 6 ∨ 12 ≤ x0.toInt)) ∨ (r.toInt = 1 ∧ (x0.toInt = 0 ∨ x0.toInt = 7 ∨ x0.toInt = 9 ∨ x0.toInt = 11)) ∨ (r.toInt = 2 ∧ ((1 ≤ x0.toInt ∧ x0.toInt ≤ 4) ∨ x0.toInt = 8 ∨ x0.toInt = 10)))) (fun (G : Nat → va_E) (t : State) => va_P (dC, dI) vwCl (va_pl L G) t.heap ∧ va_K (dC, dI) vwCl [(cs 0, .int), (cs 1, .byte), (cs 2, .long), (cs 3, .object RX5), (cs 4, .object RX4), (cs 5, .array .int), (cs 6, .char), (cs 7, .boolean)] t) (fun q => q ∈ L)) 0 0 (fun q => q ∈ L) := by
  refine Met.ofW (cc := cX7_partsOf) (maxL := 1) (ret := (some .int)) (by decide) rfl ?_
  intro p e s m args below meth c s₁ B hml hv
  obtain ⟨rfl, hsz, hP, hK, hD, hN⟩ := hv
  have hx := B.exec
  have hb := B.bytes
  have hr := B.returns
  have hts : ∀ w ∈ T0, w.before _ s = true := fun w h => atoms_spec (ws := Cond.code yX7_partsOf cX7_partsOf 1 (some .int) :: T0) B.pre w (List.mem_cons_of_mem _ h)
  have hown : s.vm.findClass RX7 = some m.cls := findClass_of_methodNamed B.named
  have hlocks := B.notSynchronized
  have hS : va_S (fun q => q ∈ L) s.heap s.heap [] := va_S.rf
  have hl := lv_entry ([.int x0]) (n := 1) (Nat.le_of_ble_eq_true rfl)
  rw [lg_entry_eq]
  generalize (lg_sl ([.int x0]) ++ List.replicate (1 - (lg_sl ([.int x0])).length) Slot.unset).toArray = ls at hl ⊢
  have hl : lv_has ls 1 [(0, .int x0)] := hl
  refine s_gen hP hS (fun H locs hP hS => ?_)
  refine lv_iload_n hx hb dX7_partsOf_0 rfl (lv_at hl 0 rfl) ?_
  refine lv_iconst (v := 5) hx hb dX7_partsOf_1 (by decide) ?_
  refine lv_icmp_eq (tgt := 17) hx hb dX7_partsOf_2 (by decide) (fun c1 => ?_) (fun c1 => ?_)
  · have c1 := (ax_eq (n := 5) (by decide)).mp c1
    refine lv_iconst (v := 0) hx hb dX7_partsOf_17 (by decide) ?_
    refine lv_goto (tgt := 48) hx hb dX7_partsOf_18 (by decide) ?_
    exact W.iret (v := 0) hx hb hr (fun t ht hW => ⟨⟨0, F, rfl, ⟨(by decide), trivial, rfl, (by omega)⟩, by rw [ht]; exact hP, va_K.moved hW.alike hK⟩, hS.F ht⟩) hS.2.2 dX7_partsOf_48
  · have c1 := mt (ax_eq (n := 5) (by decide)).mpr c1
    refine lv_iload_n hx hb dX7_partsOf_5 rfl (lv_at hl 0 rfl) ?_
    refine lv_bipush (v := 6) hx hb dX7_partsOf_6 (by decide) ?_
    refine lv_icmp_eq (tgt := 17) hx hb dX7_partsOf_8 (by decide) (fun c2 => ?_) (fun c2 => ?_)
    · have c2 := (ax_eq (n := 6) (by decide)).mp c2
      refine lv_iconst (v := 0) hx hb dX7_partsOf_17 (by decide) ?_
      refine lv_goto (tgt := 48) hx hb dX7_partsOf_18 (by decide) ?_
      exact W.iret (v := 0) hx hb hr (fun t ht hW => ⟨⟨0, F, rfl, ⟨(by decide), trivial, rfl, (by omega)⟩, by rw [ht]; exact hP, va_K.moved hW.alike hK⟩, hS.F ht⟩) hS.2.2 dX7_partsOf_48
    · have c2 := mt (ax_eq (n := 6) (by decide)).mpr c2
      refine lv_iload_n hx hb dX7_partsOf_11 rfl (lv_at hl 0 rfl) ?_
      refine lv_bipush (v := 11) hx hb dX7_partsOf_12 (by decide) ?_
      refine lv_icmp_le (tgt := 21) hx hb dX7_partsOf_14 (by decide) (fun c3 => ?_) (fun c3 => ?_)
      · have c3 := (ax_le (n := 11) (by decide)).mp c3
        refine lv_iload_n hx hb dX7_partsOf_21 rfl (lv_at hl 0 rfl) ?_
        refine lv_if_eq (tgt := 43) hx hb dX7_partsOf_22 (by decide) (fun c4 => ?_) (fun c4 => ?_)
        · have c4 := (ax_eq (n := 0) (by decide)).mp c4
          refine lv_iconst (v := 1) hx hb dX7_partsOf_43 (by decide) ?_
          refine lv_goto (tgt := 48) hx hb dX7_partsOf_44 (by decide) ?_
          exact W.iret (v := 1) hx hb hr (fun t ht hW => ⟨⟨1, F, rfl, ⟨(by decide), trivial, rfl, (by omega)⟩, by rw [ht]; exact hP, va_K.moved hW.alike hK⟩, hS.F ht⟩) hS.2.2 dX7_partsOf_48
        · have c4 := mt (ax_eq (n := 0) (by decide)).mpr c4
          refine lv_iload_n hx hb dX7_partsOf_25 rfl (lv_at hl 0 rfl) ?_
          refine lv_bipush (v := 7) hx hb dX7_partsOf_26 (by decide) ?_
          refine lv_icmp_eq (tgt := 43) hx hb dX7_partsOf_28 (by decide) (fun c5 => ?_) (fun c5 => ?_)
          · have c5 := (ax_eq (n := 7) (by decide)).mp c5
            refine lv_iconst (v := 1) hx hb dX7_partsOf_43 (by decide) ?_
            refine lv_goto (tgt := 48) hx hb dX7_partsOf_44 (by decide) ?_
            exact W.iret (v := 1) hx hb hr (fun t ht hW => ⟨⟨1, F, rfl, ⟨(by decide), trivial, rfl, (by omega)⟩, by rw [ht]; exact hP, va_K.moved hW.alike hK⟩, hS.F ht⟩) hS.2.2 dX7_partsOf_48
          · have c5 := mt (ax_eq (n := 7) (by decide)).mpr c5
            refine lv_iload_n hx hb dX7_partsOf_31 rfl (lv_at hl 0 rfl) ?_
            refine lv_bipush (v := 9) hx hb dX7_partsOf_32 (by decide) ?_
            refine lv_icmp_eq (tgt := 43) hx hb dX7_partsOf_34 (by decide) (fun c6 => ?_) (fun c6 => ?_)
            · have c6 := (ax_eq (n := 9) (by decide)).mp c6
              refine lv_iconst (v := 1) hx hb dX7_partsOf_43 (by decide) ?_
              refine lv_goto (tgt := 48) hx hb dX7_partsOf_44 (by decide) ?_
              exact W.iret (v := 1) hx hb hr (fun t ht hW => ⟨⟨1, F, rfl, ⟨(by decide), trivial, rfl, (by omega)⟩, by rw [ht]; exact hP, va_K.moved hW.alike hK⟩, hS.F ht⟩) hS.2.2 dX7_partsOf_48
            · have c6 := mt (ax_eq (n := 9) (by decide)).mpr c6
              refine lv_iload_n hx hb dX7_partsOf_37 rfl (lv_at hl 0 rfl) ?_
              refine lv_bipush (v := 11) hx hb dX7_partsOf_38 (by decide) ?_
              refine lv_icmp_ne (tgt := 47) hx hb dX7_partsOf_40 (by decide) (fun c7 => ?_) (fun c7 => ?_)
              · have c7 := mt (ax_eq (n := 11) (by decide)).mpr c7
                refine lv_iconst (v := 2) hx hb dX7_partsOf_47 (by decide) ?_
                exact W.iret (v := 2) hx hb hr (fun t ht hW => ⟨⟨2, F, rfl, ⟨(by decide), trivial, rfl, (by omega)⟩, by rw [ht]; exact hP, va_K.moved hW.alike hK⟩, hS.F ht⟩) hS.2.2 dX7_partsOf_48
              · have c7 := (ax_eq (n := 11) (by decide)).mp c7
                refine lv_iconst (v := 1) hx hb dX7_partsOf_43 (by decide) ?_
                refine lv_goto (tgt := 48) hx hb dX7_partsOf_44 (by decide) ?_
                exact W.iret (v := 1) hx hb hr (fun t ht hW => ⟨⟨1, F, rfl, ⟨(by decide), trivial, rfl, (by omega)⟩, by rw [ht]; exact hP, va_K.moved hW.alike hK⟩, hS.F ht⟩) hS.2.2 dX7_partsOf_48
      · have c3 := mt (ax_le (n := 11) (by decide)).mpr c3
        refine lv_iconst (v := 0) hx hb dX7_partsOf_17 (by decide) ?_
        refine lv_goto (tgt := 48) hx hb dX7_partsOf_18 (by decide) ?_
        exact W.iret (v := 0) hx hb hr (fun t ht hW => ⟨⟨0, F, rfl, ⟨(by decide), trivial, rfl, (by omega)⟩, by rw [ht]; exact hP, va_K.moved hW.alike hK⟩, hS.F ht⟩) hS.2.2 dX7_partsOf_48

set_option maxHeartbeats 4000000 in
set_option maxRecDepth 100000 in
theorem y_X7_goTold (l : Launch) (dC : Nat → ClassId) (dI : Nat → Nat → Nat) (sz : Nat) {L : List Nat} {K : Nat → Nat} {cs : Nat → ClassId} (hLK : ∀ a {k : Nat}, K a = k → k ≠ 0 → a ∈ L) (A : Nat → Nat) (hA : y_A K A) (F : Nat → va_E) (a0 : Nat) (ha0 : K a0 = 9) (hI : y_I K cs A F) (hg9 : ((y_c (y_at F (A 12)) 387).toInt ≤ 39 ∧ (y_c (y_at F (A 12)) (8 * (y_c (y_at F (A 12)) 387).toInt + 5)).toInt = -1000000)) : Met l yX7_goTold (Cond.code yX7_goTold cX7_goTold 3 none :: T0) ({ frames := 5, cells := 0, slots := 0, locals := 106 }) (va_Pc [.ref a0] (s_W dC dI sz L F [(cs 0, .int), (cs 1, .byte), (cs 2, .long), (cs 3, .object RX5), (cs 4, .object RX4), (cs 5, .array .int), (cs 6, .char), (cs 7, .boolean)])) (va_Qv (fun (G : Nat → va_E) => True ∧ True ∧ y_I K cs A G ∧ (∀ b, K b ∉ [9, 62, 64] → G b = F b) ∧ (∀ k, k ∈ ([1, 3, 7, 8, 15, 16, 19, 25, 26, 27, 31, 32] : List Nat) → y_fi G a0 k = y_fi F a0 k) ∧ (((y_fi F a0 5).toInt = 0 ∨ ¬ (y_fi G a0 5).toInt = 0) ∧ (∀ j : Int, 0 ≤ j → (j < 8 * (y_c (y_at F (A 12)) 387).toInt ∨ 8 * (y_c (y_at F (A 12)) 387).toInt + 8 ≤ j) → y_c (y_at G (A 12)) j = y_c (y_at F (A 12)) j) ∧ (y_c (y_at G (A 12)) (8 * (y_c (y_at F (A 12)) 387).toInt)).toInt = (y_c (y_at F (A 12)) (8 * (y_c (y_at F (A 12)) 387).toInt)).toInt ∧ ((y_fi G a0 5).toInt = 0 → (y_c (y_at G (A 12)) (8 * (y_c (y_at F (A 12)) 387).toInt + 5)).toInt = -1000000 ∨ (-4 ≤ (y_c (y_at G (A 12)) (8 * (y_c (y_at F (A 12)) 387).toInt + 2)).toInt ∧ -4 ≤ (y_c (y_at G (A 12)) (8 * (y_c (y_at F (A 12)) 387).toInt + 3)).toInt)))) (fun (G : Nat → va_E) (t : State) => va_P (dC, dI) vwCl (va_pl L G) t.heap ∧ va_K (dC, dI) vwCl [(cs 0, .int), (cs 1, .byte), (cs 2, .long), (cs 3, .object RX5), (cs 4, .object RX4), (cs 5, .array .int), (cs 6, .char), (cs 7, .boolean)] t) (fun q => q ∈ L)) 0 0 (fun q => q ∈ L) := by
  refine Met.ofW (cc := cX7_goTold) (maxL := 3) (ret := none) (by decide) rfl ?_
  intro p e s m args below meth c s₁ B hml hv
  obtain ⟨rfl, hsz, hP, hK, hD, hN⟩ := hv
  have hx := B.exec
  have hb := B.bytes
  have hr := B.returns
  have hts : ∀ w ∈ T0, w.before _ s = true := fun w h => atoms_spec (ws := Cond.code yX7_goTold cX7_goTold 3 none :: T0) B.pre w (List.mem_cons_of_mem _ h)
  have hown : s.vm.findClass RX7 = some m.cls := findClass_of_methodNamed B.named
  have hlocks := B.notSynchronized
  have hS : va_S (fun q => q ∈ L) s.heap s.heap [] := va_S.rf
  have hfr : ∀ b, K b ∉ [9, 62, 64] → F b = F b := fun _ _ => rfl
  have hl := lv_entry ([.ref a0]) (n := 3) (Nat.le_of_ble_eq_true rfl)
  rw [lg_entry_eq]
  generalize (lg_sl ([.ref a0]) ++ List.replicate (3 - (lg_sl ([.ref a0])).length) Slot.unset).toArray = ls at hl ⊢
  have hl : lv_has ls 3 [(0, .ref a0)] := hl
  refine s_gen hP hS (fun H locs hP hS => ?_)
  obtain ⟨z0, q0, oY0, bz0⟩ := y_opY hI ha0
  have hz0 : ∀ k, k ∈ ([1, 3, 7, 8, 15, 16, 19, 25, 26, 27, 31, 32] : List Nat) → z0 k = z0 k := fun _ _ => rfl
  obtain ⟨f1, o2, b3⟩ := y_op12 hI
  obtain ⟨v4, ev4⟩ : ∃ y : Int32, y = z0 5 := ⟨_, rfl⟩
  have eF_5 := ev4
  have hg9 : ((y_c f1 387).toInt ≤ 39 ∧ (y_c f1 (8 * (y_c f1 387).toInt + 5)).toInt = -1000000) := by have q9 := hg9; rw [y_atE o2] at q9; exact q9
  obtain ⟨nn, hnn⟩ : ∃ n : Int, n = (y_c f1 387).toInt := ⟨_, rfl⟩
  have hnb : 0 ≤ (y_c f1 387).toInt ∧ (y_c f1 387).toInt ≤ 40 := b3
  rw [← hnn] at hnb
  rw [← hnn] at hg9
  have e0_v4 := ev4
  refine th_join (fun g H locs => ∃ (G : Nat → va_E) (ls : Array Slot) (w5 : Int32), g = F0 m 99 ls [] ∧ lv_has ls 3 [(0, .ref a0), (2, .int w5)] ∧ va_P (dC, dI) vwCl (va_pl L G) H ∧ va_S (fun q => q ∈ L) s.heap H locs ∧ y_I K cs A G ∧ (∀ b, K b ∉ [9, 62, 64] → G b = F b) ∧ (∀ k, k ∈ ([1, 3, 7, 8, 15, 16, 19, 25, 26, 27, 31, 32] : List Nat) → y_fi G a0 k = z0 k) ∧ True ∧ (y_c (y_at G (A 12)) 387).toInt = nn ∧ (∀ j : Int, 0 ≤ j → (j < 8 * nn ∨ 8 * nn + 8 ≤ j) → y_c (y_at G (A 12)) j = y_c f1 j) ∧ ((y_c (y_at G (A 12)) (8 * nn)).toInt = (y_c f1 (8 * nn)).toInt ∧ (y_c (y_at G (A 12)) (8 * nn + 5)).toInt = -1000000 ∧ (v4.toInt = 0 ∨ ¬ (y_fi G a0 5).toInt = 0)) ∧ ((y_fi G a0 5).toInt = 0 → (y_fi G a0 2).toInt < 1600) ∧ ((y_fi G a0 5).toInt = 0 → -4 ≤ (y_c (y_at G (A 12)) (8 * nn + 2)).toInt)) (fun K99 => ?_) ?_
  refine th_join (fun g H locs => ∃ (G : Nat → va_E) (ls : Array Slot) (w6 : Int32), g = F0 m 35 ls [] ∧ lv_has ls 3 [(0, .ref a0), (1, .int w6)] ∧ va_P (dC, dI) vwCl (va_pl L G) H ∧ va_S (fun q => q ∈ L) s.heap H locs ∧ y_I K cs A G ∧ (∀ b, K b ∉ [9, 62, 64] → G b = F b) ∧ (∀ k, k ∈ ([1, 3, 7, 8, 15, 16, 19, 25, 26, 27, 31, 32] : List Nat) → y_fi G a0 k = z0 k) ∧ True ∧ (y_c (y_at G (A 12)) 387).toInt = nn ∧ (∀ j : Int, 0 ≤ j → (j < 8 * nn ∨ 8 * nn + 8 ≤ j) → y_c (y_at G (A 12)) j = y_c f1 j) ∧ ((y_c (y_at G (A 12)) (8 * nn)).toInt = (y_c f1 (8 * nn)).toInt ∧ (y_c (y_at G (A 12)) (8 * nn + 5)).toInt = -1000000 ∧ (v4.toInt = 0 ∨ ¬ (y_fi G a0 5).toInt = 0))) (fun K35 => ?_) ?_
  · refine lv_aload_n hx hb dX7_goTold_0 rfl (lv_at hl 0 rfl) ?_
    refine th_get (D := (dC, dI)) (ci := 7) (v := .ref (A 14)) (C := RX7) (T := TX7) (N := 34) hx hb hts inX7 hown hK hP (hLK _ ha0 (by decide)) oY0 rfl 14 (by decide) (hts _ T_247) (fun _ h9 => h9) rfl dX7_goTold_1 ?_
    refine lv_aload_n hx hb dX7_goTold_4 rfl (lv_at hl 0 rfl) ?_
    refine va_calli (va_runV (As := []) (rest := [.ref (A 14)]) ⟨hx, hb, hml, hown, hts⟩ (y_X7_drafted l dC dI H.size hLK A hA F a0 ha0 hI) (cwV 0 hts (ax_gV T_293 T_294 T_295 T_265 T_28) rfl rfl rfl (by decide +kernel) ⟨Nat.le_of_ble_eq_true rfl, Nat.le_of_ble_eq_true rfl⟩) ⟨fun a U g mk q => ⟨q.1, s_pc rfl rfl q.2⟩, s_recv hK hP (hLK _ ha0 (by decide)) (ci := 7) rfl oY0, fun U hU hW => ⟨rfl, s_pw hU hW hP hK hD hN⟩⟩ rfl rfl hl.1 rfl (lv_room (Nat.le_of_ble_eq_true rfl)) dX7_goTold_5 ⟨Nat.zero_le _, Nat.zero_le _⟩) hS (fun q _ h => h) (fun q h => h) (fun r8 F9 t H1 locs ht hvm hw hB hz1 hk1 hS => ?_)
    obtain ⟨hP, hK1⟩ := hB
    rw [ht] at hP
    generalize H1 = H at hP hS ⊢
    obtain ⟨h10, h12, hI, hfr1, hzf, h11⟩ := hw
    have o13 : F9 (A 12) = .inl (cs 0, 400, .inl f1) := (hfr1 _ (by rw [(y_k12 hA)]; decide)).trans o2
    have oY14 : F9 a0 = .inr (7, y_fl A z0 q0) := (hfr1 _ (by rw [ha0]; decide)).trans oY0
    have hfr : ∀ b, K b ∉ [9, 62, 64] → F9 b = F b := fun b hb9 => (hfr1 b (fun q => hb9 (s_sub (by decide) q))).trans (hfr b hb9)
    have h11 : (r8 = y_c f1 387) := by have q9 := h11; rw [y_atE o2] at q9; exact q9
    have h15 := congrArg Int32.toInt h11
    have h16 : 0 ≤ r8.toInt ∧ r8.toInt ≤ 39 := by have q9 := congrArg Int32.toInt h11; omega
    refine lv_iconst (v := (-1)) hx hb dX7_goTold_8 (by decide) ?_
    obtain ⟨f17, o18, b19⟩ := y_op14 hI
    refine th_iast hx hb hK hP hD hS (hLK _ (y_k14 hA) (by decide)) 0 o18 rfl (th_in ⟨by omega, by omega⟩) dX7_goTold_9 (fun H locs hP hS => ?_)
    obtain ⟨f20, u21⟩ : ∃ g : Nat → Int32, g = upd f17 (r8 : Int32).toNatClampNeg (-1) := ⟨_, rfl⟩
    rw [← u21] at hP
    have b22 : y_bd 14 f20 := trivial
    have hP : va_P (dC, dI) vwCl (va_pl L (va_up F9 (A 14) (.inl (cs 0, 40, .inl f20)))) H := hP
    obtain ⟨F23, hF24⟩ : ∃ G : Nat → va_E, G = va_up F9 (A 14) (.inl (cs 0, 40, .inl f20)) := ⟨_, rfl⟩
    rw [← hF24] at hP
    have hI : y_I K cs A F23 := by rw [hF24]; exact y_clA (i := 14) hA hI (by decide) b22
    have hfr : ∀ b, K b ∉ [9, 62, 64] → F23 b = F b := by rw [hF24]; exact s_fr hfr (y_k14 hA) (by decide)
    have o25 : F23 (A 12) = .inl (cs 0, 400, .inl f1) := by rw [hF24]; exact th_ne (th_kd (y_k12 hA) (y_k14 hA) (by decide)) o13
    have oY26 : F23 a0 = .inr (7, y_fl A z0 q0) := by rw [hF24]; exact th_ne (th_kd ha0 (y_k14 hA) (by decide)) oY14
    have o27 : F23 (A 14) = .inl (cs 0, 40, .inl f20) := by rw [hF24]; exact th_up
    have u28 : ∀ j : Int, 0 ≤ j → y_c f20 j = if j = r8.toInt then (-1) else y_c f17 j := by rw [u21]; exact y_cu rfl (by omega)
    refine lv_aload_n hx hb dX7_goTold_10 rfl (lv_at hl 0 rfl) ?_
    have ep29_5 := ev4
    refine va_calli (va_runV (As := []) (rest := []) ⟨hx, hb, hml, hown, hts⟩ (y_X7_name l dC dI H.size hLK A hA F23 a0 ha0 hI) (cwV 0 hts (ax_gV T_1110 T_1112 T_1113 T_265 T_1111) rfl rfl rfl (by decide +kernel) ⟨Nat.le_of_ble_eq_true rfl, Nat.le_of_ble_eq_true rfl⟩) ⟨fun a U g mk q => ⟨q.1, s_pc rfl rfl q.2⟩, s_recv hK hP (hLK _ ha0 (by decide)) (ci := 7) rfl oY26, fun U hU hW => ⟨rfl, s_pw hU hW hP hK hD hN⟩⟩ rfl rfl hl.1 rfl (lv_room (Nat.le_of_ble_eq_true rfl)) dX7_goTold_11 ⟨Nat.zero_le _, Nat.zero_le _⟩) hS (fun q _ h => h) (fun q h => h) (fun r30 F31 t H1 locs ht hvm hw hB hz1 hk1 hS => ?_)
    obtain ⟨hP, hK1⟩ := hB
    rw [ht] at hP
    generalize H1 = H at hP hS ⊢
    obtain ⟨h32, h34, hI, hfr1, hzf, h33⟩ := hw
    have o35 : F31 (A 12) = .inl (cs 0, 400, .inl f1) := (hfr1 _ (by rw [(y_k12 hA)]; decide)).trans o25
    have o36 : F31 (A 14) = .inl (cs 0, 40, .inl f20) := (hfr1 _ (by rw [(y_k14 hA)]; decide)).trans o27
    obtain ⟨z37, q38, oY39, bz40⟩ := y_opY hI ha0
    have hzf : ∀ k, k ∈ ([1, 3, 7, 8, 15, 16, 19, 25, 26, 27, 31, 32] : List Nat) → z37 k = z0 k := fun k hk => by have q9 := hzf k hk; rw [y_fiZ oY39 (s_sub (by decide) hk), y_fiZ oY26 (s_sub (by decide) hk)] at q9; exact q9
    have hz0 : ∀ k, k ∈ ([1, 3, 7, 8, 15, 16, 19, 25, 26, 27, 31, 32] : List Nat) → z37 k = z0 k := fun k hk => (hzf k (s_sub (by decide) hk)).trans (hz0 k hk)
    have hfr : ∀ b, K b ∉ [9, 62, 64] → F31 b = F b := fun b hb9 => (hfr1 b (fun q => hb9 (s_sub (by decide) q))).trans (hfr b hb9)
    obtain ⟨v41, ev41⟩ : ∃ y : Int32, y = z37 5 := ⟨_, rfl⟩
    have h33 : (v4.toInt = 0 ∨ ¬ v41.toInt = 0) := by have q9 := h33; rw [y_fiZ oY26 (k := 5) (by decide), ← ep29_5, y_fiZ oY39 (k := 5) (by decide), ← ev41] at q9; exact q9
    refine lv_istore_n (lv' := [(1, .int r30), (0, .ref a0)]) hx hb dX7_goTold_14 rfl hl (by decide) rfl (fun ls hl => ?_)
    refine lv_aload_n hx hb dX7_goTold_15 rfl (lv_at hl 1 rfl) ?_
    refine th_get (D := (dC, dI)) (ci := 7) (v := .int (z37 5)) (C := RX7) (T := TX7) (N := 34) hx hb hts inX7 hown hK hP (hLK _ ha0 (by decide)) oY39 rfl 5 (by decide) (hts _ T_274) (fun _ h9 => h9) rfl dX7_goTold_16 ?_
    refine ax_eqi (y := v41) ev41.symm ?_
    refine lv_if_ne (tgt := 35) hx hb dX7_goTold_19 (by decide) (fun c42 => ?_) (fun c42 => ?_)
    · have c42 := mt (ax_eq (n := 0) (by decide)).mpr c42
      exact K35 _ _ _ ⟨F31, _, r30, rfl, lv_sub hl [1, 0] rfl, hP, hS, hI, hfr, (fun k hk => (y_fiZ oY39 (s_sub (by decide) hk)).trans (hz0 k hk)), trivial, (by rw [y_atE o35]; exact hnn.symm), (by rw [y_atE o35]; exact (fun j _ _ => rfl)), (by rw [y_atE o35, y_fiZ oY39 (k := 5) (by decide), ← ev41]; omega)⟩
    · have c42 := (ax_eq (n := 0) (by decide)).mp c42
      refine lv_aload_n hx hb dX7_goTold_22 rfl (lv_at hl 1 rfl) ?_
      refine th_get (D := (dC, dI)) (ci := 7) (v := .ref (A 14)) (C := RX7) (T := TX7) (N := 34) hx hb hts inX7 hown hK hP (hLK _ ha0 (by decide)) oY39 rfl 14 (by decide) (hts _ T_247) (fun _ h9 => h9) rfl dX7_goTold_23 ?_
      refine lv_aload_n hx hb dX7_goTold_26 rfl (lv_at hl 1 rfl) ?_
      refine va_calli (va_runV (As := []) (rest := [.ref (A 14)]) ⟨hx, hb, hml, hown, hts⟩ (y_X7_drafted l dC dI H.size hLK A hA F31 a0 ha0 hI) (cwV 0 hts (ax_gV T_293 T_294 T_295 T_265 T_28) rfl rfl rfl (by decide +kernel) ⟨Nat.le_of_ble_eq_true rfl, Nat.le_of_ble_eq_true rfl⟩) ⟨fun a U g mk q => ⟨q.1, s_pc rfl rfl q.2⟩, s_recv hK hP (hLK _ ha0 (by decide)) (ci := 7) rfl oY39, fun U hU hW => ⟨rfl, s_pw hU hW hP hK hD hN⟩⟩ rfl rfl hl.1 rfl (lv_room (Nat.le_of_ble_eq_true rfl)) dX7_goTold_27 ⟨Nat.zero_le _, Nat.zero_le _⟩) hS (fun q _ h => h) (fun q h => h) (fun r44 F45 t H1 locs ht hvm hw hB hz1 hk1 hS => ?_)
      obtain ⟨hP, hK1⟩ := hB
      rw [ht] at hP
      generalize H1 = H at hP hS ⊢
      obtain ⟨h46, h48, hI, hfr1, hzf, h47⟩ := hw
      have o49 : F45 (A 12) = .inl (cs 0, 400, .inl f1) := (hfr1 _ (by rw [(y_k12 hA)]; decide)).trans o35
      have o50 : F45 (A 14) = .inl (cs 0, 40, .inl f20) := (hfr1 _ (by rw [(y_k14 hA)]; decide)).trans o36
      have oY51 : F45 a0 = .inr (7, y_fl A z37 q38) := (hfr1 _ (by rw [ha0]; decide)).trans oY39
      have hfr : ∀ b, K b ∉ [9, 62, 64] → F45 b = F b := fun b hb9 => (hfr1 b (fun q => hb9 (s_sub (by decide) q))).trans (hfr b hb9)
      have h47 : (r44 = y_c f1 387) := by have q9 := h47; rw [y_atE o35] at q9; exact q9
      have h52 := congrArg Int32.toInt h47
      have h53 : 0 ≤ r44.toInt ∧ r44.toInt ≤ 39 := by have q9 := congrArg Int32.toInt h47; omega
      refine lv_aload_n hx hb dX7_goTold_30 rfl (lv_at hl 1 rfl) ?_
      refine th_get (D := (dC, dI)) (ci := 7) (v := .int (z37 11)) (C := RX7) (T := TX7) (N := 34) hx hb hts inX7 hown hK hP (hLK _ ha0 (by decide)) oY51 rfl 11 (by decide) (hts _ T_1114) (fun _ h9 => h9) rfl dX7_goTold_31 ?_
      refine lv_topi (fun v54 ev54 => ?_)
      refine th_iast hx hb hK hP hD hS (hLK _ (y_k14 hA) (by decide)) 0 o50 rfl (th_in ⟨by omega, by omega⟩) dX7_goTold_34 (fun H locs hP hS => ?_)
      obtain ⟨f55, u56⟩ : ∃ g : Nat → Int32, g = upd f20 (r44 : Int32).toNatClampNeg v54 := ⟨_, rfl⟩
      rw [← u56] at hP
      have b57 : y_bd 14 f55 := trivial
      have hP : va_P (dC, dI) vwCl (va_pl L (va_up F45 (A 14) (.inl (cs 0, 40, .inl f55)))) H := hP
      obtain ⟨F58, hF59⟩ : ∃ G : Nat → va_E, G = va_up F45 (A 14) (.inl (cs 0, 40, .inl f55)) := ⟨_, rfl⟩
      rw [← hF59] at hP
      have hI : y_I K cs A F58 := by rw [hF59]; exact y_clA (i := 14) hA hI (by decide) b57
      have hfr : ∀ b, K b ∉ [9, 62, 64] → F58 b = F b := by rw [hF59]; exact s_fr hfr (y_k14 hA) (by decide)
      have o60 : F58 (A 12) = .inl (cs 0, 400, .inl f1) := by rw [hF59]; exact th_ne (th_kd (y_k12 hA) (y_k14 hA) (by decide)) o49
      have oY61 : F58 a0 = .inr (7, y_fl A z37 q38) := by rw [hF59]; exact th_ne (th_kd ha0 (y_k14 hA) (by decide)) oY51
      have o62 : F58 (A 14) = .inl (cs 0, 40, .inl f55) := by rw [hF59]; exact th_up
      have u63 : ∀ j : Int, 0 ≤ j → y_c f55 j = if j = r44.toInt then v54 else y_c f20 j := by rw [u56]; exact y_cu rfl (by omega)
      exact K35 _ _ _ ⟨F58, _, r30, rfl, lv_sub hl [1, 0] rfl, hP, hS, hI, hfr, (fun k hk => (y_fiZ oY61 (s_sub (by decide) hk)).trans (hz0 k hk)), trivial, (by rw [y_atE o60]; exact hnn.symm), (by rw [y_atE o60]; exact (fun j _ _ => rfl)), (by rw [y_atE o60, y_fiZ oY61 (k := 5) (by decide), ← ev41]; omega)⟩
  · intro g H locs hq
    obtain ⟨F68, ls, w6, rfl, hl, hP, hS, hI, hfr, hz0, h64, h65, h66, h67⟩ := hq
    obtain ⟨z69, q70, oY71, bz72⟩ := y_opY hI ha0
    have hz0 : ∀ k, k ∈ ([1, 3, 7, 8, 15, 16, 19, 25, 26, 27, 31, 32] : List Nat) → z69 k = z0 k := fun k hk => (y_fiZ oY71 (s_sub (by decide) hk)).symm.trans (hz0 k hk)
    obtain ⟨f73, o74, b75⟩ := y_op12 hI
    have h65 : (y_c f73 387).toInt = nn := by have q9 := h65; rw [y_atE o74] at q9; exact q9
    have h66 : (∀ j : Int, 0 ≤ j → (j < 8 * nn ∨ 8 * nn + 8 ≤ j) → y_c f73 j = y_c f1 j) := by have q9 := h66; rw [y_atE o74] at q9; exact q9
    obtain ⟨v76, ev76⟩ : ∃ y : Int32, y = z69 5 := ⟨_, rfl⟩
    have h67 : ((y_c f73 (8 * nn)).toInt = (y_c f1 (8 * nn)).toInt ∧ (y_c f73 (8 * nn + 5)).toInt = -1000000 ∧ (v4.toInt = 0 ∨ ¬ v76.toInt = 0)) := by have q9 := h67; rw [y_atE o74, y_fiZ oY71 (k := 5) (by decide), ← ev76] at q9; exact q9
    refine lv_aload_n hx hb dX7_goTold_35 rfl (lv_at hl 0 rfl) ?_
    refine lv_iconst (v := 4) hx hb dX7_goTold_36 (by decide) ?_
    refine lv_iload_n hx hb dX7_goTold_37 rfl (lv_at hl 1 rfl) ?_
    have ep77_5 := ev76
    refine va_callv (va_runV (As := [.int 4, .int w6]) (rest := []) ⟨hx, hb, hml, hown, hts⟩ (y_X7_lays l dC dI H.size hLK A hA F68 a0 4 w6 ha0 (by decide) hI) (cwV 2 hts (ax_gV T_1115 T_1117 T_1118 T_265 T_1116) rfl rfl rfl (by decide +kernel) ⟨Nat.le_of_ble_eq_true rfl, Nat.le_of_ble_eq_true rfl⟩) ⟨fun a U g mk q => ⟨q.1, s_pc rfl rfl q.2⟩, s_recv hK hP (hLK _ ha0 (by decide)) (ci := 7) rfl oY71, fun U hU hW => ⟨rfl, s_pw hU hW hP hK hD hN⟩⟩ rfl rfl hl.1 rfl (lv_room (Nat.le_of_ble_eq_true rfl)) dX7_goTold_38 ⟨Nat.zero_le _, Nat.zero_le _⟩) hS (fun q _ h => h) (fun q h => h) (fun F78 t H1 locs ht hvm hw hB hz1 hk1 hS => ?_)
    obtain ⟨hP, hK1⟩ := hB
    rw [ht] at hP
    generalize H1 = H at hP hS ⊢
    obtain ⟨h79, h81, hI, hfr1, hzf, h80⟩ := hw
    have oY82 : F78 a0 = .inr (7, y_fl A z69 q70) := (hfr1 _ (by rw [ha0]; decide)).trans oY71
    have hfr : ∀ b, K b ∉ [9, 62, 64] → F78 b = F b := fun b hb9 => (hfr1 b (fun q => hb9 (s_sub (by decide) q))).trans (hfr b hb9)
    obtain ⟨f83, o84, b85⟩ := y_op12 hI
    have h80 : ((∀ j : Int, 0 ≤ j → j ≠ 8 * (y_c f73 387).toInt + 4 → y_c f83 j = y_c f73 j) ∧ (v76.toInt = 0 → y_c f83 (8 * (y_c f73 387).toInt + 4) = w6)) := by have q9 := h80; rw [y_atE o74, y_atE o84, y_fiZ oY71 (k := 5) (by decide), ← ep77_5] at q9; exact q9
    rw [h65] at h80
    have hn86 : (y_c f83 387).toInt = nn := by rw [h80.1 387 (by omega) (by omega)]; exact h65
    have hfr87 : ∀ j : Int, 0 ≤ j → (j < 8 * nn ∨ 8 * nn + 8 ≤ j) → y_c f83 j = y_c f1 j := fun j h0 h1 => (h80.1 j h0 (by omega)).trans (h66 j h0 h1)
    have h88 : (y_c f83 (8 * nn)).toInt = (y_c f73 (8 * nn)).toInt := (congrArg Int32.toInt (h80.1 _ (by omega) (by omega)))
    have h89 : (y_c f83 (8 * nn + 2)).toInt = (y_c f73 (8 * nn + 2)).toInt := (congrArg Int32.toInt (h80.1 _ (by omega) (by omega)))
    have h90 : (y_c f83 (8 * nn + 3)).toInt = (y_c f73 (8 * nn + 3)).toInt := (congrArg Int32.toInt (h80.1 _ (by omega) (by omega)))
    have h91 : (y_c f83 (8 * nn + 5)).toInt = (y_c f73 (8 * nn + 5)).toInt := (congrArg Int32.toInt (h80.1 _ (by omega) (by omega)))
    refine lv_aload_n hx hb dX7_goTold_41 rfl (lv_at hl 0 rfl) ?_
    refine lv_bipush (v := 28) hx hb dX7_goTold_42 (by decide) ?_
    refine va_calli (va_runV (As := [.int 28]) (rest := []) ⟨hx, hb, hml, hown, hts⟩ (y_X7_takes l dC dI H.size hLK A hA F78 a0 28 ha0 hI) (cwV 1 hts (ax_gV T_287 T_288 T_289 T_265 T_26) rfl rfl rfl (by decide +kernel) ⟨Nat.le_of_ble_eq_true rfl, Nat.le_of_ble_eq_true rfl⟩) ⟨fun a U g mk q => ⟨q.1, s_pc rfl rfl q.2⟩, s_recv hK hP (hLK _ ha0 (by decide)) (ci := 7) rfl oY82, fun U hU hW => ⟨rfl, s_pw hU hW hP hK hD hN⟩⟩ rfl rfl hl.1 rfl (lv_room (Nat.le_of_ble_eq_true rfl)) dX7_goTold_44 ⟨Nat.zero_le _, Nat.zero_le _⟩) hS (fun q _ h => h) (fun q h => h) (fun r93 F94 t H1 locs ht hvm hw hB hz1 hk1 hS => ?_)
    obtain ⟨hP, hK1⟩ := hB
    rw [ht] at hP
    generalize H1 = H at hP hS ⊢
    obtain ⟨h95, h97, hI, hfr1, hzf, h96⟩ := hw
    have o98 : F94 (A 12) = .inl (cs 0, 400, .inl f83) := (hfr1 _ (by rw [(y_k12 hA)]; decide)).trans o84
    obtain ⟨z99, q100, oY101, bz102⟩ := y_opY hI ha0
    have hzf : ∀ k, k ∈ ([1, 3, 5, 6, 7, 8, 11, 15, 16, 19, 25, 26, 27, 31, 32] : List Nat) → z99 k = z69 k := fun k hk => by have q9 := hzf k hk; rw [y_fiZ oY101 (s_sub (by decide) hk), y_fiZ oY82 (s_sub (by decide) hk)] at q9; exact q9
    have hz0 : ∀ k, k ∈ ([1, 3, 7, 8, 15, 16, 19, 25, 26, 27, 31, 32] : List Nat) → z99 k = z0 k := fun k hk => (hzf k (s_sub (by decide) hk)).trans (hz0 k hk)
    have ev76 : v76 = z99 5 := ev76.trans (hzf 5 (by decide)).symm
    have hfr : ∀ b, K b ∉ [9, 62, 64] → F94 b = F b := fun b hb9 => (hfr1 b (fun q => hb9 (s_sub (by decide) q))).trans (hfr b hb9)
    refine lv_if_ne (tgt := 51) hx hb dX7_goTold_47 (by decide) (fun c103 => ?_) (fun c103 => ?_)
    · have c103 := mt (ax_eq (n := 0) (by decide)).mpr c103
      refine lv_aload_n hx hb dX7_goTold_51 rfl (lv_at hl 0 rfl) ?_
      refine lv_iconst (v := 2) hx hb dX7_goTold_52 (by decide) ?_
      refine lv_aload_n hx hb dX7_goTold_53 rfl (lv_at hl 0 rfl) ?_
      have ep104_5 := ev76
      refine va_calli (va_runV (As := []) (rest := [.int 2, .ref a0]) ⟨hx, hb, hml, hown, hts⟩ (y_X7_partTold l dC dI H.size hLK A hA F94 a0 ha0 hI) (cwV 0 hts (ax_gV T_1119 T_1121 T_1122 T_265 T_1120) rfl rfl rfl (by decide +kernel) ⟨Nat.le_of_ble_eq_true rfl, Nat.le_of_ble_eq_true rfl⟩) ⟨fun a U g mk q => ⟨q.1, s_pc rfl rfl q.2⟩, s_recv hK hP (hLK _ ha0 (by decide)) (ci := 7) rfl oY101, fun U hU hW => ⟨rfl, s_pw hU hW hP hK hD hN⟩⟩ rfl rfl hl.1 rfl (lv_room (Nat.le_of_ble_eq_true rfl)) dX7_goTold_54 ⟨Nat.zero_le _, Nat.zero_le _⟩) hS (fun q _ h => h) (fun q h => h) (fun r105 F106 t H1 locs ht hvm hw hB hz1 hk1 hS => ?_)
      obtain ⟨hP, hK1⟩ := hB
      rw [ht] at hP
      generalize H1 = H at hP hS ⊢
      obtain ⟨h107, h109, hI, hfr1, hzf, h108⟩ := hw
      have o110 : F106 (A 12) = .inl (cs 0, 400, .inl f83) := (hfr1 _ (by rw [(y_k12 hA)]; decide)).trans o98
      obtain ⟨z111, q112, oY113, bz114⟩ := y_opY hI ha0
      have hzf : ∀ k, k ∈ ([1, 3, 7, 8, 11, 15, 16, 19, 25, 26, 27, 31, 32] : List Nat) → z111 k = z99 k := fun k hk => by have q9 := hzf k hk; rw [y_fiZ oY113 (s_sub (by decide) hk), y_fiZ oY101 (s_sub (by decide) hk)] at q9; exact q9
      have hz0 : ∀ k, k ∈ ([1, 3, 7, 8, 15, 16, 19, 25, 26, 27, 31, 32] : List Nat) → z111 k = z0 k := fun k hk => (hzf k (s_sub (by decide) hk)).trans (hz0 k hk)
      have hfr : ∀ b, K b ∉ [9, 62, 64] → F106 b = F b := fun b hb9 => (hfr1 b (fun q => hb9 (s_sub (by decide) q))).trans (hfr b hb9)
      obtain ⟨v115, ev115⟩ : ∃ y : Int32, y = z111 5 := ⟨_, rfl⟩
      have h108 : ((v76.toInt = 0 ∨ ¬ v115.toInt = 0) ∧ (v115.toInt = 0 → -4 ≤ r105.toInt ∧ r105.toInt ≤ 999)) := by have q9 := h108; rw [y_fiZ oY101 (k := 5) (by decide), ← ep104_5, y_fiZ oY113 (k := 5) (by decide), ← ev115] at q9; exact q9
      have ep116_5 := ev115
      refine va_callv (va_runV (As := [.int 2, .int r105]) (rest := []) ⟨hx, hb, hml, hown, hts⟩ (y_X7_lays l dC dI H.size hLK A hA F106 a0 2 r105 ha0 (by decide) hI) (cwV 2 hts (ax_gV T_1115 T_1117 T_1118 T_265 T_1116) rfl rfl rfl (by decide +kernel) ⟨Nat.le_of_ble_eq_true rfl, Nat.le_of_ble_eq_true rfl⟩) ⟨fun a U g mk q => ⟨q.1, s_pc rfl rfl q.2⟩, s_recv hK hP (hLK _ ha0 (by decide)) (ci := 7) rfl oY113, fun U hU hW => ⟨rfl, s_pw hU hW hP hK hD hN⟩⟩ rfl rfl hl.1 rfl (lv_room (Nat.le_of_ble_eq_true rfl)) dX7_goTold_57 ⟨Nat.zero_le _, Nat.zero_le _⟩) hS (fun q _ h => h) (fun q h => h) (fun F117 t H1 locs ht hvm hw hB hz1 hk1 hS => ?_)
      obtain ⟨hP, hK1⟩ := hB
      rw [ht] at hP
      generalize H1 = H at hP hS ⊢
      obtain ⟨h118, h120, hI, hfr1, hzf, h119⟩ := hw
      have oY121 : F117 a0 = .inr (7, y_fl A z111 q112) := (hfr1 _ (by rw [ha0]; decide)).trans oY113
      have hfr : ∀ b, K b ∉ [9, 62, 64] → F117 b = F b := fun b hb9 => (hfr1 b (fun q => hb9 (s_sub (by decide) q))).trans (hfr b hb9)
      obtain ⟨f122, o123, b124⟩ := y_op12 hI
      have h119 : ((∀ j : Int, 0 ≤ j → j ≠ 8 * (y_c f83 387).toInt + 2 → y_c f122 j = y_c f83 j) ∧ (v115.toInt = 0 → y_c f122 (8 * (y_c f83 387).toInt + 2) = r105)) := by have q9 := h119; rw [y_atE o110, y_atE o123, y_fiZ oY113 (k := 5) (by decide), ← ep116_5] at q9; exact q9
      rw [hn86] at h119
      have hn125 : (y_c f122 387).toInt = nn := by rw [h119.1 387 (by omega) (by omega)]; exact hn86
      have hfr126 : ∀ j : Int, 0 ≤ j → (j < 8 * nn ∨ 8 * nn + 8 ≤ j) → y_c f122 j = y_c f1 j := fun j h0 h1 => (h119.1 j h0 (by omega)).trans (hfr87 j h0 h1)
      have h127 : (y_c f122 (8 * nn)).toInt = (y_c f83 (8 * nn)).toInt := (congrArg Int32.toInt (h119.1 _ (by omega) (by omega)))
      have h128 : v115.toInt = 0 → (y_c f122 (8 * nn + 2)).toInt = r105.toInt := (fun h9 => (congrArg (fun i => (y_c f122 i).toInt) (show 8 * nn + 2 = 8 * nn + 2 by omega)).trans ((congrArg Int32.toInt (h119.2 h9)).trans rfl))
      have h129 : (y_c f122 (8 * nn + 3)).toInt = (y_c f83 (8 * nn + 3)).toInt := (congrArg Int32.toInt (h119.1 _ (by omega) (by omega)))
      have h130 : (y_c f122 (8 * nn + 5)).toInt = (y_c f83 (8 * nn + 5)).toInt := (congrArg Int32.toInt (h119.1 _ (by omega) (by omega)))
      refine lv_aload_n hx hb dX7_goTold_60 rfl (lv_at hl 0 rfl) ?_
      refine va_calli (va_runV (As := []) (rest := []) ⟨hx, hb, hml, hown, hts⟩ (y_X7_look l dC dI H.size hLK A hA F117 a0 ha0 hI) (cwV 0 hts (ax_gV T_275 T_276 T_277 T_265 T_22) rfl rfl rfl (by decide +kernel) ⟨Nat.le_of_ble_eq_true rfl, Nat.le_of_ble_eq_true rfl⟩) ⟨fun a U g mk q => ⟨q.1, s_pc rfl rfl q.2⟩, s_recv hK hP (hLK _ ha0 (by decide)) (ci := 7) rfl oY121, fun U hU hW => ⟨rfl, s_pw hU hW hP hK hD hN⟩⟩ rfl rfl hl.1 rfl (lv_room (Nat.le_of_ble_eq_true rfl)) dX7_goTold_61 ⟨Nat.zero_le _, Nat.zero_le _⟩) hS (fun q _ h => h) (fun q h => h) (fun r132 F133 t H1 locs ht hvm hw hB hz1 hk1 hS => ?_)
      obtain ⟨hP, hK1⟩ := hB
      rw [ht] at hP
      generalize H1 = H at hP hS ⊢
      obtain ⟨h134, h136, hI, hfr1, hzf, h135⟩ := hw
      have o137 : F133 (A 12) = .inl (cs 0, 400, .inl f122) := (hfr1 _ (by rw [(y_k12 hA)]; decide)).trans o123
      obtain ⟨z138, q139, oY140, bz141⟩ := y_opY hI ha0
      have hzf : ∀ k, k ∈ ([1, 3, 4, 5, 6, 7, 8, 11, 15, 16, 19, 25, 26, 27, 31, 32] : List Nat) → z138 k = z111 k := fun k hk => by have q9 := hzf k hk; rw [y_fiZ oY140 (s_sub (by decide) hk), y_fiZ oY121 (s_sub (by decide) hk)] at q9; exact q9
      have hz0 : ∀ k, k ∈ ([1, 3, 7, 8, 15, 16, 19, 25, 26, 27, 31, 32] : List Nat) → z138 k = z0 k := fun k hk => (hzf k (s_sub (by decide) hk)).trans (hz0 k hk)
      have ev115 : v115 = z138 5 := ev115.trans (hzf 5 (by decide)).symm
      have hfr : ∀ b, K b ∉ [9, 62, 64] → F133 b = F b := fun b hb9 => (hfr1 b (fun q => hb9 (s_sub (by decide) q))).trans (hfr b hb9)
      obtain ⟨v142, ev142⟩ : ∃ y : Int32, y = z138 2 := ⟨_, rfl⟩
      have qv142 : 0 ≤ v142.toInt ∧ v142.toInt ≤ 1600 := by rw [ev142]; exact y_bY2 bz141
      obtain ⟨v143, ev143⟩ : ∃ y : Int32, y = z138 3 := ⟨_, rfl⟩
      have qv143 : 0 ≤ v143.toInt ∧ v143.toInt ≤ 1600 := by rw [ev143]; exact y_bY3 bz141
      have h135 : (r132.toInt = -1 ∨ v142.toInt < v143.toInt) := by have q9 := h135; rw [y_fiZ oY140 (k := 2) (by decide), ← ev142, y_fiZ oY140 (k := 3) (by decide), ← ev143] at q9; exact q9
      refine lv_istore_n (lv' := [(2, .int r132), (0, .ref a0), (1, .int w6)]) hx hb dX7_goTold_64 rfl hl (by decide) rfl (fun ls hl => ?_)
      refine lv_aload_n hx hb dX7_goTold_65 rfl (lv_at hl 1 rfl) ?_
      refine th_get (D := (dC, dI)) (ci := 7) (v := .int (z138 5)) (C := RX7) (T := TX7) (N := 34) hx hb hts inX7 hown hK hP (hLK _ ha0 (by decide)) oY140 rfl 5 (by decide) (hts _ T_274) (fun _ h9 => h9) rfl dX7_goTold_66 ?_
      refine ax_eqi (y := v115) ev115.symm ?_
      refine lv_if_ne (tgt := 99) hx hb dX7_goTold_69 (by decide) (fun c144 => ?_) (fun c144 => ?_)
      · have c144 := mt (ax_eq (n := 0) (by decide)).mpr c144
        exact K99 _ _ _ ⟨F133, _, r132, rfl, lv_sub hl [1, 0] rfl, hP, hS, hI, hfr, (fun k hk => (y_fiZ oY140 (s_sub (by decide) hk)).trans (hz0 k hk)), trivial, (by rw [y_atE o137]; exact hn125), (by rw [y_atE o137]; exact hfr126), (by rw [y_atE o137, y_fiZ oY140 (k := 5) (by decide), ← ev115]; omega), (by rw [y_fiZ oY140 (k := 5) (by decide), ← ev115, y_fiZ oY140 (k := 2) (by decide), ← ev142]; omega), (by rw [y_fiZ oY140 (k := 5) (by decide), ← ev115, y_atE o137]; omega)⟩
      · have c144 := (ax_eq (n := 0) (by decide)).mp c144
        refine lv_iload_n hx hb dX7_goTold_72 rfl (lv_at hl 0 rfl) ?_
        refine lv_bipush (v := 60) hx hb dX7_goTold_73 (by decide) ?_
        refine lv_icmp_eq (tgt := 99) hx hb dX7_goTold_75 (by decide) (fun c145 => ?_) (fun c145 => ?_)
        · have c145 := (ax_eq (n := 60) (by decide)).mp c145
          exact K99 _ _ _ ⟨F133, _, r132, rfl, lv_sub hl [1, 0] rfl, hP, hS, hI, hfr, (fun k hk => (y_fiZ oY140 (s_sub (by decide) hk)).trans (hz0 k hk)), trivial, (by rw [y_atE o137]; exact hn125), (by rw [y_atE o137]; exact hfr126), (by rw [y_atE o137, y_fiZ oY140 (k := 5) (by decide), ← ev115]; omega), (by rw [y_fiZ oY140 (k := 5) (by decide), ← ev115, y_fiZ oY140 (k := 2) (by decide), ← ev142]; omega), (by rw [y_fiZ oY140 (k := 5) (by decide), ← ev115, y_atE o137]; omega)⟩
        · have c145 := mt (ax_eq (n := 60) (by decide)).mpr c145
          refine lv_iload_n hx hb dX7_goTold_78 rfl (lv_at hl 0 rfl) ?_
          refine lv_bipush (v := 61) hx hb dX7_goTold_79 (by decide) ?_
          refine lv_icmp_eq (tgt := 99) hx hb dX7_goTold_81 (by decide) (fun c146 => ?_) (fun c146 => ?_)
          · have c146 := (ax_eq (n := 61) (by decide)).mp c146
            exact K99 _ _ _ ⟨F133, _, r132, rfl, lv_sub hl [1, 0] rfl, hP, hS, hI, hfr, (fun k hk => (y_fiZ oY140 (s_sub (by decide) hk)).trans (hz0 k hk)), trivial, (by rw [y_atE o137]; exact hn125), (by rw [y_atE o137]; exact hfr126), (by rw [y_atE o137, y_fiZ oY140 (k := 5) (by decide), ← ev115]; omega), (by rw [y_fiZ oY140 (k := 5) (by decide), ← ev115, y_fiZ oY140 (k := 2) (by decide), ← ev142]; omega), (by rw [y_fiZ oY140 (k := 5) (by decide), ← ev115, y_atE o137]; omega)⟩
          · have c146 := mt (ax_eq (n := 61) (by decide)).mpr c146
            refine lv_iload_n hx hb dX7_goTold_84 rfl (lv_at hl 0 rfl) ?_
            refine lv_bipush (v := 62) hx hb dX7_goTold_85 (by decide) ?_
            refine lv_icmp_eq (tgt := 99) hx hb dX7_goTold_87 (by decide) (fun c147 => ?_) (fun c147 => ?_)
            · have c147 := (ax_eq (n := 62) (by decide)).mp c147
              exact K99 _ _ _ ⟨F133, _, r132, rfl, lv_sub hl [1, 0] rfl, hP, hS, hI, hfr, (fun k hk => (y_fiZ oY140 (s_sub (by decide) hk)).trans (hz0 k hk)), trivial, (by rw [y_atE o137]; exact hn125), (by rw [y_atE o137]; exact hfr126), (by rw [y_atE o137, y_fiZ oY140 (k := 5) (by decide), ← ev115]; omega), (by rw [y_fiZ oY140 (k := 5) (by decide), ← ev115, y_fiZ oY140 (k := 2) (by decide), ← ev142]; omega), (by rw [y_fiZ oY140 (k := 5) (by decide), ← ev115, y_atE o137]; omega)⟩
            · have c147 := mt (ax_eq (n := 62) (by decide)).mpr c147
              refine lv_aload_n hx hb dX7_goTold_90 rfl (lv_at hl 1 rfl) ?_
              refine lv_iconst (v := 1) hx hb dX7_goTold_91 (by decide) ?_
              refine lv_aload_n hx hb dX7_goTold_92 rfl (lv_at hl 1 rfl) ?_
              refine th_get (D := (dC, dI)) (ci := 7) (v := .int (z138 2)) (C := RX7) (T := TX7) (N := 34) hx hb hts inX7 hown hK hP (hLK _ ha0 (by decide)) oY140 rfl 2 (by decide) (hts _ T_272) (fun _ h9 => h9) rfl dX7_goTold_93 ?_
              refine ax_eqi (y := v142) ev142.symm ?_
              refine va_callv (va_runV (As := [.int 1, .int v142]) (rest := []) ⟨hx, hb, hml, hown, hts⟩ (y_X7_fail l dC dI H.size hLK A hA F133 a0 1 v142 ha0 (by decide) hI) (cwV 2 hts (ax_gV T_290 T_291 T_292 T_265 T_27) rfl rfl rfl (by decide +kernel) ⟨Nat.le_of_ble_eq_true rfl, Nat.le_of_ble_eq_true rfl⟩) ⟨fun a U g mk q => ⟨q.1, s_pc rfl rfl q.2⟩, s_recv hK hP (hLK _ ha0 (by decide)) (ci := 7) rfl oY140, fun U hU hW => ⟨rfl, s_pw hU hW hP hK hD hN⟩⟩ rfl rfl hl.1 rfl (lv_room (Nat.le_of_ble_eq_true rfl)) dX7_goTold_96 ⟨Nat.zero_le _, Nat.zero_le _⟩) hS (fun q _ h => h) (fun q h => h) (fun F149 t H1 locs ht hvm hw hB hz1 hk1 hS => ?_)
              obtain ⟨hP, hK1⟩ := hB
              rw [ht] at hP
              generalize H1 = H at hP hS ⊢
              obtain ⟨h150, h152, hI, hfr1, hzf, h151⟩ := hw
              have o153 : F149 (A 12) = .inl (cs 0, 400, .inl f122) := (hfr1 _ (by rw [(y_k12 hA)]; decide)).trans o137
              obtain ⟨z154, q155, oY156, bz157⟩ := y_opY hI ha0
              have hzf : ∀ k, k ∈ ([1, 2, 3, 4, 7, 8, 11, 15, 16, 19, 25, 26, 27, 31, 32] : List Nat) → z154 k = z138 k := fun k hk => by have q9 := hzf k hk; rw [y_fiZ oY156 (s_sub (by decide) hk), y_fiZ oY140 (s_sub (by decide) hk)] at q9; exact q9
              have hz0 : ∀ k, k ∈ ([1, 3, 7, 8, 15, 16, 19, 25, 26, 27, 31, 32] : List Nat) → z154 k = z0 k := fun k hk => (hzf k (s_sub (by decide) hk)).trans (hz0 k hk)
              have ev142 : v142 = z154 2 := ev142.trans (hzf 2 (by decide)).symm
              have ev143 : v143 = z154 3 := ev143.trans (hzf 3 (by decide)).symm
              have hfr : ∀ b, K b ∉ [9, 62, 64] → F149 b = F b := fun b hb9 => (hfr1 b (fun q => hb9 (s_sub (by decide) q))).trans (hfr b hb9)
              obtain ⟨v158, ev158⟩ : ∃ y : Int32, y = z154 5 := ⟨_, rfl⟩
              have h151 : (¬ v158.toInt = 0) := by have q9 := h151; rw [y_fiZ oY156 (k := 5) (by decide), ← ev158] at q9; exact q9
              exact K99 _ _ _ ⟨F149, _, r132, rfl, lv_sub hl [1, 0] rfl, hP, hS, hI, hfr, (fun k hk => (y_fiZ oY156 (s_sub (by decide) hk)).trans (hz0 k hk)), trivial, (by rw [y_atE o153]; exact hn125), (by rw [y_atE o153]; exact hfr126), (by rw [y_atE o153, y_fiZ oY156 (k := 5) (by decide), ← ev158]; omega), (by rw [y_fiZ oY156 (k := 5) (by decide), ← ev158, y_fiZ oY156 (k := 2) (by decide), ← ev142]; omega), (by rw [y_fiZ oY156 (k := 5) (by decide), ← ev158, y_atE o153]; omega)⟩
    · have c103 := (ax_eq (n := 0) (by decide)).mp c103
      exact W.vret hx hb hr (fun t ht hW => ⟨⟨F94, rfl, ⟨trivial, trivial, hI, hfr, fun k hk => (y_fiZ oY101 (s_sub (by decide) hk)).trans ((hz0 k hk).trans (y_fiZ oY0 (s_sub (by decide) hk)).symm), (by rw [y_fiZ oY0 (k := 5) (by decide), ← eF_5, y_fiZ oY101 (k := 5) (by decide), ← ev76, y_atE o2, y_atE o98]; rw [← hnn]; exact ⟨by omega, hfr87, by omega, by omega⟩)⟩, by rw [ht]; exact hP, va_K.moved hW.alike hK⟩, hS.F ht⟩) hS.2.2 dX7_goTold_50
  · intro g H locs hq
    obtain ⟨F165, ls, w5, rfl, hl, hP, hS, hI, hfr, hz0, h159, h160, h161, h162, h163, h164⟩ := hq
    obtain ⟨z166, q167, oY168, bz169⟩ := y_opY hI ha0
    have hz0 : ∀ k, k ∈ ([1, 3, 7, 8, 15, 16, 19, 25, 26, 27, 31, 32] : List Nat) → z166 k = z0 k := fun k hk => (y_fiZ oY168 (s_sub (by decide) hk)).symm.trans (hz0 k hk)
    obtain ⟨f170, o171, b172⟩ := y_op12 hI
    have h160 : (y_c f170 387).toInt = nn := by have q9 := h160; rw [y_atE o171] at q9; exact q9
    have h161 : (∀ j : Int, 0 ≤ j → (j < 8 * nn ∨ 8 * nn + 8 ≤ j) → y_c f170 j = y_c f1 j) := by have q9 := h161; rw [y_atE o171] at q9; exact q9
    obtain ⟨v173, ev173⟩ : ∃ y : Int32, y = z166 5 := ⟨_, rfl⟩
    have h162 : ((y_c f170 (8 * nn)).toInt = (y_c f1 (8 * nn)).toInt ∧ (y_c f170 (8 * nn + 5)).toInt = -1000000 ∧ (v4.toInt = 0 ∨ ¬ v173.toInt = 0)) := by have q9 := h162; rw [y_atE o171, y_fiZ oY168 (k := 5) (by decide), ← ev173] at q9; exact q9
    obtain ⟨v174, ev174⟩ : ∃ y : Int32, y = z166 2 := ⟨_, rfl⟩
    have qv174 : 0 ≤ v174.toInt ∧ v174.toInt ≤ 1600 := by rw [ev174]; exact y_bY2 bz169
    have h163 : (v173.toInt = 0 → v174.toInt < 1600) := by have q9 := h163; rw [y_fiZ oY168 (k := 5) (by decide), ← ev173, y_fiZ oY168 (k := 2) (by decide), ← ev174] at q9; exact q9
    have h164 : (v173.toInt = 0 → -4 ≤ (y_c f170 (8 * nn + 2)).toInt) := by have q9 := h164; rw [y_fiZ oY168 (k := 5) (by decide), ← ev173, y_atE o171] at q9; exact q9
    refine lv_aload_n hx hb dX7_goTold_99 rfl (lv_at hl 0 rfl) ?_
    refine th_get (D := (dC, dI)) (ci := 7) (v := .int (z166 5)) (C := RX7) (T := TX7) (N := 34) hx hb hts inX7 hown hK hP (hLK _ ha0 (by decide)) oY168 rfl 5 (by decide) (hts _ T_274) (fun _ h9 => h9) rfl dX7_goTold_100 ?_
    refine ax_eqi (y := v173) ev173.symm ?_
    refine lv_if_eq (tgt := 107) hx hb dX7_goTold_103 (by decide) (fun c175 => ?_) (fun c175 => ?_)
    · have c175 := (ax_eq (n := 0) (by decide)).mp c175
      refine lv_aload_n hx hb dX7_goTold_107 rfl (lv_at hl 0 rfl) ?_
      refine lv_dup hx hb dX7_goTold_108 rfl ?_
      refine th_get (D := (dC, dI)) (ci := 7) (v := .int (z166 2)) (C := RX7) (T := TX7) (N := 34) hx hb hts inX7 hown hK hP (hLK _ ha0 (by decide)) oY168 rfl 2 (by decide) (hts _ T_272) (fun _ h9 => h9) rfl dX7_goTold_109 ?_
      refine ax_eqi (y := v174) ev174.symm ?_
      refine lv_iconst (v := 1) hx hb dX7_goTold_112 (by decide) ?_
      refine lv_iadd hx hb dX7_goTold_113 ?_
      refine lv_topi (fun v176 ev176 => ?_)
      have qv176 : v176.toInt = v174.toInt + 1 := by rw [ev176]; exact th_add rfl (by decide) ⟨by omega, by omega⟩
      refine th_put (D := (dC, dI)) (ci := 7) (v := .int v176) (ty := .int) (C := RX7) (T := TX7) (N := 34) hx hb hts inX7 tyX7 tyX7_ok nmX7 hown hK hP hD hS (hLK _ ha0 (by decide)) oY168 rfl 2 (by decide) (hts _ T_272) (fun _ h9 => h9) rfl (by decide +kernel) rfl rfl (Nat.le_of_ble_eq_true rfl) dX7_goTold_114 (fun H locs hP hS => ?_)
      rw [y_fs2] at hP
      obtain ⟨z177, hz178⟩ : ∃ g : Nat → Int32, g = upd z166 2 v176 := ⟨_, rfl⟩
      rw [← hz178] at hP
      have bz179 : y_bY z177 := by rw [hz178]; exact y_bp2 bz169 ⟨by omega, by omega⟩
      have hP : va_P (dC, dI) vwCl (va_pl L (va_up F165 a0 (.inr (7, y_fl A z177 q167)))) H := hP
      obtain ⟨F180, hF181⟩ : ∃ G : Nat → va_E, G = va_up F165 a0 (.inr (7, y_fl A z177 q167)) := ⟨_, rfl⟩
      rw [← hF181] at hP
      have hI : y_I K cs A F180 := by rw [hF181]; exact y_clY hA hI ha0 bz179
      have hfr : ∀ b, K b ∉ [9, 62, 64] → F180 b = F b := by rw [hF181]; exact s_fr hfr ha0 (by decide)
      have o182 : F180 (A 12) = .inl (cs 0, 400, .inl f170) := by rw [hF181]; exact th_ne (th_kd (y_k12 hA) ha0 (by decide)) o171
      have oY183 : F180 a0 = .inr (7, y_fl A z177 q167) := by rw [hF181]; exact th_up
      have hz0 : ∀ k, k ∈ ([1, 3, 7, 8, 15, 16, 19, 25, 26, 27, 31, 32] : List Nat) → z177 k = z0 k := fun k hk => by rw [hz178]; exact (y_un (fun q => absurd hk (by rw [q]; decide))).trans (hz0 k hk)
      have ev173 : v173 = z177 5 := by rw [hz178]; exact ev173.trans (y_un (by decide)).symm
      obtain ⟨v184, ev184⟩ : ∃ y : Int32, y = z177 2 := ⟨_, rfl⟩
      have qv184 : v184.toInt = v176.toInt := by rw [ev184, hz178, y_ue]
      refine lv_aload_n hx hb dX7_goTold_117 rfl (lv_at hl 0 rfl) ?_
      refine lv_iconst (v := 5) hx hb dX7_goTold_118 (by decide) ?_
      refine lv_iload_n hx hb dX7_goTold_119 rfl (lv_at hl 1 rfl) ?_
      refine lv_bipush (v := 60) hx hb dX7_goTold_120 (by decide) ?_
      refine lv_icmp_ne (tgt := 129) hx hb dX7_goTold_122 (by decide) (fun c185 => ?_) (fun c185 => ?_)
      · have c185 := mt (ax_eq (n := 60) (by decide)).mpr c185
        refine lv_iload_n hx hb dX7_goTold_129 rfl (lv_at hl 1 rfl) ?_
        refine lv_bipush (v := 61) hx hb dX7_goTold_130 (by decide) ?_
        refine lv_icmp_ne (tgt := 139) hx hb dX7_goTold_132 (by decide) (fun c186 => ?_) (fun c186 => ?_)
        · have c186 := mt (ax_eq (n := 61) (by decide)).mpr c186
          refine lv_iconst (v := 2) hx hb dX7_goTold_139 (by decide) ?_
          have ep187_5 := ev173
          refine va_callv (va_runV (As := [.int 5, .int 2]) (rest := []) ⟨hx, hb, hml, hown, hts⟩ (y_X7_lays l dC dI H.size hLK A hA F180 a0 5 2 ha0 (by decide) hI) (cwV 2 hts (ax_gV T_1115 T_1117 T_1118 T_265 T_1116) rfl rfl rfl (by decide +kernel) ⟨Nat.le_of_ble_eq_true rfl, Nat.le_of_ble_eq_true rfl⟩) ⟨fun a U g mk q => ⟨q.1, s_pc rfl rfl q.2⟩, s_recv hK hP (hLK _ ha0 (by decide)) (ci := 7) rfl oY183, fun U hU hW => ⟨rfl, s_pw hU hW hP hK hD hN⟩⟩ rfl rfl hl.1 rfl (lv_room (Nat.le_of_ble_eq_true rfl)) dX7_goTold_140 ⟨Nat.zero_le _, Nat.zero_le _⟩) hS (fun q _ h => h) (fun q h => h) (fun F188 t H1 locs ht hvm hw hB hz1 hk1 hS => ?_)
          obtain ⟨hP, hK1⟩ := hB
          rw [ht] at hP
          generalize H1 = H at hP hS ⊢
          obtain ⟨h189, h191, hI, hfr1, hzf, h190⟩ := hw
          have oY192 : F188 a0 = .inr (7, y_fl A z177 q167) := (hfr1 _ (by rw [ha0]; decide)).trans oY183
          have hfr : ∀ b, K b ∉ [9, 62, 64] → F188 b = F b := fun b hb9 => (hfr1 b (fun q => hb9 (s_sub (by decide) q))).trans (hfr b hb9)
          obtain ⟨f193, o194, b195⟩ := y_op12 hI
          have h190 : ((∀ j : Int, 0 ≤ j → j ≠ 8 * (y_c f170 387).toInt + 5 → y_c f193 j = y_c f170 j) ∧ (v173.toInt = 0 → y_c f193 (8 * (y_c f170 387).toInt + 5) = 2)) := by have q9 := h190; rw [y_atE o182, y_atE o194, y_fiZ oY183 (k := 5) (by decide), ← ep187_5] at q9; exact q9
          rw [h160] at h190
          have hn196 : (y_c f193 387).toInt = nn := by rw [h190.1 387 (by omega) (by omega)]; exact h160
          have hfr197 : ∀ j : Int, 0 ≤ j → (j < 8 * nn ∨ 8 * nn + 8 ≤ j) → y_c f193 j = y_c f1 j := fun j h0 h1 => (h190.1 j h0 (by omega)).trans (h161 j h0 h1)
          have h198 : (y_c f193 (8 * nn)).toInt = (y_c f170 (8 * nn)).toInt := (congrArg Int32.toInt (h190.1 _ (by omega) (by omega)))
          have h199 : (y_c f193 (8 * nn + 2)).toInt = (y_c f170 (8 * nn + 2)).toInt := (congrArg Int32.toInt (h190.1 _ (by omega) (by omega)))
          have h200 : (y_c f193 (8 * nn + 3)).toInt = (y_c f170 (8 * nn + 3)).toInt := (congrArg Int32.toInt (h190.1 _ (by omega) (by omega)))
          have h201 : v173.toInt = 0 → (y_c f193 (8 * nn + 5)).toInt = 2 := (fun h9 => (congrArg (fun i => (y_c f193 i).toInt) (show 8 * nn + 5 = 8 * nn + 5 by omega)).trans ((congrArg Int32.toInt (h190.2 h9)).trans (by decide)))
          refine lv_aload_n hx hb dX7_goTold_143 rfl (lv_at hl 0 rfl) ?_
          refine lv_iconst (v := 3) hx hb dX7_goTold_144 (by decide) ?_
          refine lv_aload_n hx hb dX7_goTold_145 rfl (lv_at hl 0 rfl) ?_
          have ep202_5 := ev173
          refine va_calli (va_runV (As := []) (rest := [.int 3, .ref a0]) ⟨hx, hb, hml, hown, hts⟩ (y_X7_partTold l dC dI H.size hLK A hA F188 a0 ha0 hI) (cwV 0 hts (ax_gV T_1119 T_1121 T_1122 T_265 T_1120) rfl rfl rfl (by decide +kernel) ⟨Nat.le_of_ble_eq_true rfl, Nat.le_of_ble_eq_true rfl⟩) ⟨fun a U g mk q => ⟨q.1, s_pc rfl rfl q.2⟩, s_recv hK hP (hLK _ ha0 (by decide)) (ci := 7) rfl oY192, fun U hU hW => ⟨rfl, s_pw hU hW hP hK hD hN⟩⟩ rfl rfl hl.1 rfl (lv_room (Nat.le_of_ble_eq_true rfl)) dX7_goTold_146 ⟨Nat.zero_le _, Nat.zero_le _⟩) hS (fun q _ h => h) (fun q h => h) (fun r203 F204 t H1 locs ht hvm hw hB hz1 hk1 hS => ?_)
          obtain ⟨hP, hK1⟩ := hB
          rw [ht] at hP
          generalize H1 = H at hP hS ⊢
          obtain ⟨h205, h207, hI, hfr1, hzf, h206⟩ := hw
          have o208 : F204 (A 12) = .inl (cs 0, 400, .inl f193) := (hfr1 _ (by rw [(y_k12 hA)]; decide)).trans o194
          obtain ⟨z209, q210, oY211, bz212⟩ := y_opY hI ha0
          have hzf : ∀ k, k ∈ ([1, 3, 7, 8, 11, 15, 16, 19, 25, 26, 27, 31, 32] : List Nat) → z209 k = z177 k := fun k hk => by have q9 := hzf k hk; rw [y_fiZ oY211 (s_sub (by decide) hk), y_fiZ oY192 (s_sub (by decide) hk)] at q9; exact q9
          have hz0 : ∀ k, k ∈ ([1, 3, 7, 8, 15, 16, 19, 25, 26, 27, 31, 32] : List Nat) → z209 k = z0 k := fun k hk => (hzf k (s_sub (by decide) hk)).trans (hz0 k hk)
          have hfr : ∀ b, K b ∉ [9, 62, 64] → F204 b = F b := fun b hb9 => (hfr1 b (fun q => hb9 (s_sub (by decide) q))).trans (hfr b hb9)
          obtain ⟨v213, ev213⟩ : ∃ y : Int32, y = z209 5 := ⟨_, rfl⟩
          have h206 : ((v173.toInt = 0 ∨ ¬ v213.toInt = 0) ∧ (v213.toInt = 0 → -4 ≤ r203.toInt ∧ r203.toInt ≤ 999)) := by have q9 := h206; rw [y_fiZ oY192 (k := 5) (by decide), ← ep202_5, y_fiZ oY211 (k := 5) (by decide), ← ev213] at q9; exact q9
          have ep214_5 := ev213
          refine va_callv (va_runV (As := [.int 3, .int r203]) (rest := []) ⟨hx, hb, hml, hown, hts⟩ (y_X7_lays l dC dI H.size hLK A hA F204 a0 3 r203 ha0 (by decide) hI) (cwV 2 hts (ax_gV T_1115 T_1117 T_1118 T_265 T_1116) rfl rfl rfl (by decide +kernel) ⟨Nat.le_of_ble_eq_true rfl, Nat.le_of_ble_eq_true rfl⟩) ⟨fun a U g mk q => ⟨q.1, s_pc rfl rfl q.2⟩, s_recv hK hP (hLK _ ha0 (by decide)) (ci := 7) rfl oY211, fun U hU hW => ⟨rfl, s_pw hU hW hP hK hD hN⟩⟩ rfl rfl hl.1 rfl (lv_room (Nat.le_of_ble_eq_true rfl)) dX7_goTold_149 ⟨Nat.zero_le _, Nat.zero_le _⟩) hS (fun q _ h => h) (fun q h => h) (fun F215 t H1 locs ht hvm hw hB hz1 hk1 hS => ?_)
          obtain ⟨hP, hK1⟩ := hB
          rw [ht] at hP
          generalize H1 = H at hP hS ⊢
          obtain ⟨h216, h218, hI, hfr1, hzf, h217⟩ := hw
          have oY219 : F215 a0 = .inr (7, y_fl A z209 q210) := (hfr1 _ (by rw [ha0]; decide)).trans oY211
          have hfr : ∀ b, K b ∉ [9, 62, 64] → F215 b = F b := fun b hb9 => (hfr1 b (fun q => hb9 (s_sub (by decide) q))).trans (hfr b hb9)
          obtain ⟨f220, o221, b222⟩ := y_op12 hI
          have h217 : ((∀ j : Int, 0 ≤ j → j ≠ 8 * (y_c f193 387).toInt + 3 → y_c f220 j = y_c f193 j) ∧ (v213.toInt = 0 → y_c f220 (8 * (y_c f193 387).toInt + 3) = r203)) := by have q9 := h217; rw [y_atE o208, y_atE o221, y_fiZ oY211 (k := 5) (by decide), ← ep214_5] at q9; exact q9
          rw [hn196] at h217
          have hn223 : (y_c f220 387).toInt = nn := by rw [h217.1 387 (by omega) (by omega)]; exact hn196
          have hfr224 : ∀ j : Int, 0 ≤ j → (j < 8 * nn ∨ 8 * nn + 8 ≤ j) → y_c f220 j = y_c f1 j := fun j h0 h1 => (h217.1 j h0 (by omega)).trans (hfr197 j h0 h1)
          have h225 : (y_c f220 (8 * nn)).toInt = (y_c f193 (8 * nn)).toInt := (congrArg Int32.toInt (h217.1 _ (by omega) (by omega)))
          have h226 : (y_c f220 (8 * nn + 2)).toInt = (y_c f193 (8 * nn + 2)).toInt := (congrArg Int32.toInt (h217.1 _ (by omega) (by omega)))
          have h227 : v213.toInt = 0 → (y_c f220 (8 * nn + 3)).toInt = r203.toInt := (fun h9 => (congrArg (fun i => (y_c f220 i).toInt) (show 8 * nn + 3 = 8 * nn + 3 by omega)).trans ((congrArg Int32.toInt (h217.2 h9)).trans rfl))
          have h228 : (y_c f220 (8 * nn + 5)).toInt = (y_c f193 (8 * nn + 5)).toInt := (congrArg Int32.toInt (h217.1 _ (by omega) (by omega)))
          exact W.vret hx hb hr (fun t ht hW => ⟨⟨F215, rfl, ⟨trivial, trivial, hI, hfr, fun k hk => (y_fiZ oY219 (s_sub (by decide) hk)).trans ((hz0 k hk).trans (y_fiZ oY0 (s_sub (by decide) hk)).symm), (by rw [y_fiZ oY0 (k := 5) (by decide), ← eF_5, y_fiZ oY219 (k := 5) (by decide), ← ev213, y_atE o2, y_atE o221]; rw [← hnn]; exact ⟨by omega, hfr224, by omega, by omega⟩)⟩, by rw [ht]; exact hP, va_K.moved hW.alike hK⟩, hS.F ht⟩) hS.2.2 dX7_goTold_152
        · have c186 := (ax_eq (n := 61) (by decide)).mp c186
          refine lv_iconst (v := 1) hx hb dX7_goTold_135 (by decide) ?_
          refine lv_goto (tgt := 140) hx hb dX7_goTold_136 (by decide) ?_
          have ep229_5 := ev173
          refine va_callv (va_runV (As := [.int 5, .int 1]) (rest := []) ⟨hx, hb, hml, hown, hts⟩ (y_X7_lays l dC dI H.size hLK A hA F180 a0 5 1 ha0 (by decide) hI) (cwV 2 hts (ax_gV T_1115 T_1117 T_1118 T_265 T_1116) rfl rfl rfl (by decide +kernel) ⟨Nat.le_of_ble_eq_true rfl, Nat.le_of_ble_eq_true rfl⟩) ⟨fun a U g mk q => ⟨q.1, s_pc rfl rfl q.2⟩, s_recv hK hP (hLK _ ha0 (by decide)) (ci := 7) rfl oY183, fun U hU hW => ⟨rfl, s_pw hU hW hP hK hD hN⟩⟩ rfl rfl hl.1 rfl (lv_room (Nat.le_of_ble_eq_true rfl)) dX7_goTold_140 ⟨Nat.zero_le _, Nat.zero_le _⟩) hS (fun q _ h => h) (fun q h => h) (fun F230 t H1 locs ht hvm hw hB hz1 hk1 hS => ?_)
          obtain ⟨hP, hK1⟩ := hB
          rw [ht] at hP
          generalize H1 = H at hP hS ⊢
          obtain ⟨h231, h233, hI, hfr1, hzf, h232⟩ := hw
          have oY234 : F230 a0 = .inr (7, y_fl A z177 q167) := (hfr1 _ (by rw [ha0]; decide)).trans oY183
          have hfr : ∀ b, K b ∉ [9, 62, 64] → F230 b = F b := fun b hb9 => (hfr1 b (fun q => hb9 (s_sub (by decide) q))).trans (hfr b hb9)
          obtain ⟨f235, o236, b237⟩ := y_op12 hI
          have h232 : ((∀ j : Int, 0 ≤ j → j ≠ 8 * (y_c f170 387).toInt + 5 → y_c f235 j = y_c f170 j) ∧ (v173.toInt = 0 → y_c f235 (8 * (y_c f170 387).toInt + 5) = 1)) := by have q9 := h232; rw [y_atE o182, y_atE o236, y_fiZ oY183 (k := 5) (by decide), ← ep229_5] at q9; exact q9
          rw [h160] at h232
          have hn238 : (y_c f235 387).toInt = nn := by rw [h232.1 387 (by omega) (by omega)]; exact h160
          have hfr239 : ∀ j : Int, 0 ≤ j → (j < 8 * nn ∨ 8 * nn + 8 ≤ j) → y_c f235 j = y_c f1 j := fun j h0 h1 => (h232.1 j h0 (by omega)).trans (h161 j h0 h1)
          have h240 : (y_c f235 (8 * nn)).toInt = (y_c f170 (8 * nn)).toInt := (congrArg Int32.toInt (h232.1 _ (by omega) (by omega)))
          have h241 : (y_c f235 (8 * nn + 2)).toInt = (y_c f170 (8 * nn + 2)).toInt := (congrArg Int32.toInt (h232.1 _ (by omega) (by omega)))
          have h242 : (y_c f235 (8 * nn + 3)).toInt = (y_c f170 (8 * nn + 3)).toInt := (congrArg Int32.toInt (h232.1 _ (by omega) (by omega)))
          have h243 : v173.toInt = 0 → (y_c f235 (8 * nn + 5)).toInt = 1 := (fun h9 => (congrArg (fun i => (y_c f235 i).toInt) (show 8 * nn + 5 = 8 * nn + 5 by omega)).trans ((congrArg Int32.toInt (h232.2 h9)).trans (by decide)))
          refine lv_aload_n hx hb dX7_goTold_143 rfl (lv_at hl 0 rfl) ?_
          refine lv_iconst (v := 3) hx hb dX7_goTold_144 (by decide) ?_
          refine lv_aload_n hx hb dX7_goTold_145 rfl (lv_at hl 0 rfl) ?_
          have ep244_5 := ev173
          refine va_calli (va_runV (As := []) (rest := [.int 3, .ref a0]) ⟨hx, hb, hml, hown, hts⟩ (y_X7_partTold l dC dI H.size hLK A hA F230 a0 ha0 hI) (cwV 0 hts (ax_gV T_1119 T_1121 T_1122 T_265 T_1120) rfl rfl rfl (by decide +kernel) ⟨Nat.le_of_ble_eq_true rfl, Nat.le_of_ble_eq_true rfl⟩) ⟨fun a U g mk q => ⟨q.1, s_pc rfl rfl q.2⟩, s_recv hK hP (hLK _ ha0 (by decide)) (ci := 7) rfl oY234, fun U hU hW => ⟨rfl, s_pw hU hW hP hK hD hN⟩⟩ rfl rfl hl.1 rfl (lv_room (Nat.le_of_ble_eq_true rfl)) dX7_goTold_146 ⟨Nat.zero_le _, Nat.zero_le _⟩) hS (fun q _ h => h) (fun q h => h) (fun r245 F246 t H1 locs ht hvm hw hB hz1 hk1 hS => ?_)
          obtain ⟨hP, hK1⟩ := hB
          rw [ht] at hP
          generalize H1 = H at hP hS ⊢
          obtain ⟨h247, h249, hI, hfr1, hzf, h248⟩ := hw
          have o250 : F246 (A 12) = .inl (cs 0, 400, .inl f235) := (hfr1 _ (by rw [(y_k12 hA)]; decide)).trans o236
          obtain ⟨z251, q252, oY253, bz254⟩ := y_opY hI ha0
          have hzf : ∀ k, k ∈ ([1, 3, 7, 8, 11, 15, 16, 19, 25, 26, 27, 31, 32] : List Nat) → z251 k = z177 k := fun k hk => by have q9 := hzf k hk; rw [y_fiZ oY253 (s_sub (by decide) hk), y_fiZ oY234 (s_sub (by decide) hk)] at q9; exact q9
          have hz0 : ∀ k, k ∈ ([1, 3, 7, 8, 15, 16, 19, 25, 26, 27, 31, 32] : List Nat) → z251 k = z0 k := fun k hk => (hzf k (s_sub (by decide) hk)).trans (hz0 k hk)
          have hfr : ∀ b, K b ∉ [9, 62, 64] → F246 b = F b := fun b hb9 => (hfr1 b (fun q => hb9 (s_sub (by decide) q))).trans (hfr b hb9)
          obtain ⟨v255, ev255⟩ : ∃ y : Int32, y = z251 5 := ⟨_, rfl⟩
          have h248 : ((v173.toInt = 0 ∨ ¬ v255.toInt = 0) ∧ (v255.toInt = 0 → -4 ≤ r245.toInt ∧ r245.toInt ≤ 999)) := by have q9 := h248; rw [y_fiZ oY234 (k := 5) (by decide), ← ep244_5, y_fiZ oY253 (k := 5) (by decide), ← ev255] at q9; exact q9
          have ep256_5 := ev255
          refine va_callv (va_runV (As := [.int 3, .int r245]) (rest := []) ⟨hx, hb, hml, hown, hts⟩ (y_X7_lays l dC dI H.size hLK A hA F246 a0 3 r245 ha0 (by decide) hI) (cwV 2 hts (ax_gV T_1115 T_1117 T_1118 T_265 T_1116) rfl rfl rfl (by decide +kernel) ⟨Nat.le_of_ble_eq_true rfl, Nat.le_of_ble_eq_true rfl⟩) ⟨fun a U g mk q => ⟨q.1, s_pc rfl rfl q.2⟩, s_recv hK hP (hLK _ ha0 (by decide)) (ci := 7) rfl oY253, fun U hU hW => ⟨rfl, s_pw hU hW hP hK hD hN⟩⟩ rfl rfl hl.1 rfl (lv_room (Nat.le_of_ble_eq_true rfl)) dX7_goTold_149 ⟨Nat.zero_le _, Nat.zero_le _⟩) hS (fun q _ h => h) (fun q h => h) (fun F257 t H1 locs ht hvm hw hB hz1 hk1 hS => ?_)
          obtain ⟨hP, hK1⟩ := hB
          rw [ht] at hP
          generalize H1 = H at hP hS ⊢
          obtain ⟨h258, h260, hI, hfr1, hzf, h259⟩ := hw
          have oY261 : F257 a0 = .inr (7, y_fl A z251 q252) := (hfr1 _ (by rw [ha0]; decide)).trans oY253
          have hfr : ∀ b, K b ∉ [9, 62, 64] → F257 b = F b := fun b hb9 => (hfr1 b (fun q => hb9 (s_sub (by decide) q))).trans (hfr b hb9)
          obtain ⟨f262, o263, b264⟩ := y_op12 hI
          have h259 : ((∀ j : Int, 0 ≤ j → j ≠ 8 * (y_c f235 387).toInt + 3 → y_c f262 j = y_c f235 j) ∧ (v255.toInt = 0 → y_c f262 (8 * (y_c f235 387).toInt + 3) = r245)) := by have q9 := h259; rw [y_atE o250, y_atE o263, y_fiZ oY253 (k := 5) (by decide), ← ep256_5] at q9; exact q9
          rw [hn238] at h259
          have hn265 : (y_c f262 387).toInt = nn := by rw [h259.1 387 (by omega) (by omega)]; exact hn238
          have hfr266 : ∀ j : Int, 0 ≤ j → (j < 8 * nn ∨ 8 * nn + 8 ≤ j) → y_c f262 j = y_c f1 j := fun j h0 h1 => (h259.1 j h0 (by omega)).trans (hfr239 j h0 h1)
          have h267 : (y_c f262 (8 * nn)).toInt = (y_c f235 (8 * nn)).toInt := (congrArg Int32.toInt (h259.1 _ (by omega) (by omega)))
          have h268 : (y_c f262 (8 * nn + 2)).toInt = (y_c f235 (8 * nn + 2)).toInt := (congrArg Int32.toInt (h259.1 _ (by omega) (by omega)))
          have h269 : v255.toInt = 0 → (y_c f262 (8 * nn + 3)).toInt = r245.toInt := (fun h9 => (congrArg (fun i => (y_c f262 i).toInt) (show 8 * nn + 3 = 8 * nn + 3 by omega)).trans ((congrArg Int32.toInt (h259.2 h9)).trans rfl))
          have h270 : (y_c f262 (8 * nn + 5)).toInt = (y_c f235 (8 * nn + 5)).toInt := (congrArg Int32.toInt (h259.1 _ (by omega) (by omega)))
          exact W.vret hx hb hr (fun t ht hW => ⟨⟨F257, rfl, ⟨trivial, trivial, hI, hfr, fun k hk => (y_fiZ oY261 (s_sub (by decide) hk)).trans ((hz0 k hk).trans (y_fiZ oY0 (s_sub (by decide) hk)).symm), (by rw [y_fiZ oY0 (k := 5) (by decide), ← eF_5, y_fiZ oY261 (k := 5) (by decide), ← ev255, y_atE o2, y_atE o263]; rw [← hnn]; exact ⟨by omega, hfr266, by omega, by omega⟩)⟩, by rw [ht]; exact hP, va_K.moved hW.alike hK⟩, hS.F ht⟩) hS.2.2 dX7_goTold_152
      · have c185 := (ax_eq (n := 60) (by decide)).mp c185
        refine lv_iconst (v := 0) hx hb dX7_goTold_125 (by decide) ?_
        refine lv_goto (tgt := 140) hx hb dX7_goTold_126 (by decide) ?_
        have ep271_5 := ev173
        refine va_callv (va_runV (As := [.int 5, .int 0]) (rest := []) ⟨hx, hb, hml, hown, hts⟩ (y_X7_lays l dC dI H.size hLK A hA F180 a0 5 0 ha0 (by decide) hI) (cwV 2 hts (ax_gV T_1115 T_1117 T_1118 T_265 T_1116) rfl rfl rfl (by decide +kernel) ⟨Nat.le_of_ble_eq_true rfl, Nat.le_of_ble_eq_true rfl⟩) ⟨fun a U g mk q => ⟨q.1, s_pc rfl rfl q.2⟩, s_recv hK hP (hLK _ ha0 (by decide)) (ci := 7) rfl oY183, fun U hU hW => ⟨rfl, s_pw hU hW hP hK hD hN⟩⟩ rfl rfl hl.1 rfl (lv_room (Nat.le_of_ble_eq_true rfl)) dX7_goTold_140 ⟨Nat.zero_le _, Nat.zero_le _⟩) hS (fun q _ h => h) (fun q h => h) (fun F272 t H1 locs ht hvm hw hB hz1 hk1 hS => ?_)
        obtain ⟨hP, hK1⟩ := hB
        rw [ht] at hP
        generalize H1 = H at hP hS ⊢
        obtain ⟨h273, h275, hI, hfr1, hzf, h274⟩ := hw
        have oY276 : F272 a0 = .inr (7, y_fl A z177 q167) := (hfr1 _ (by rw [ha0]; decide)).trans oY183
        have hfr : ∀ b, K b ∉ [9, 62, 64] → F272 b = F b := fun b hb9 => (hfr1 b (fun q => hb9 (s_sub (by decide) q))).trans (hfr b hb9)
        obtain ⟨f277, o278, b279⟩ := y_op12 hI
        have h274 : ((∀ j : Int, 0 ≤ j → j ≠ 8 * (y_c f170 387).toInt + 5 → y_c f277 j = y_c f170 j) ∧ (v173.toInt = 0 → y_c f277 (8 * (y_c f170 387).toInt + 5) = 0)) := by have q9 := h274; rw [y_atE o182, y_atE o278, y_fiZ oY183 (k := 5) (by decide), ← ep271_5] at q9; exact q9
        rw [h160] at h274
        have hn280 : (y_c f277 387).toInt = nn := by rw [h274.1 387 (by omega) (by omega)]; exact h160
        have hfr281 : ∀ j : Int, 0 ≤ j → (j < 8 * nn ∨ 8 * nn + 8 ≤ j) → y_c f277 j = y_c f1 j := fun j h0 h1 => (h274.1 j h0 (by omega)).trans (h161 j h0 h1)
        have h282 : (y_c f277 (8 * nn)).toInt = (y_c f170 (8 * nn)).toInt := (congrArg Int32.toInt (h274.1 _ (by omega) (by omega)))
        have h283 : (y_c f277 (8 * nn + 2)).toInt = (y_c f170 (8 * nn + 2)).toInt := (congrArg Int32.toInt (h274.1 _ (by omega) (by omega)))
        have h284 : (y_c f277 (8 * nn + 3)).toInt = (y_c f170 (8 * nn + 3)).toInt := (congrArg Int32.toInt (h274.1 _ (by omega) (by omega)))
        have h285 : v173.toInt = 0 → (y_c f277 (8 * nn + 5)).toInt = 0 := (fun h9 => (congrArg (fun i => (y_c f277 i).toInt) (show 8 * nn + 5 = 8 * nn + 5 by omega)).trans ((congrArg Int32.toInt (h274.2 h9)).trans (by decide)))
        refine lv_aload_n hx hb dX7_goTold_143 rfl (lv_at hl 0 rfl) ?_
        refine lv_iconst (v := 3) hx hb dX7_goTold_144 (by decide) ?_
        refine lv_aload_n hx hb dX7_goTold_145 rfl (lv_at hl 0 rfl) ?_
        have ep286_5 := ev173
        refine va_calli (va_runV (As := []) (rest := [.int 3, .ref a0]) ⟨hx, hb, hml, hown, hts⟩ (y_X7_partTold l dC dI H.size hLK A hA F272 a0 ha0 hI) (cwV 0 hts (ax_gV T_1119 T_1121 T_1122 T_265 T_1120) rfl rfl rfl (by decide +kernel) ⟨Nat.le_of_ble_eq_true rfl, Nat.le_of_ble_eq_true rfl⟩) ⟨fun a U g mk q => ⟨q.1, s_pc rfl rfl q.2⟩, s_recv hK hP (hLK _ ha0 (by decide)) (ci := 7) rfl oY276, fun U hU hW => ⟨rfl, s_pw hU hW hP hK hD hN⟩⟩ rfl rfl hl.1 rfl (lv_room (Nat.le_of_ble_eq_true rfl)) dX7_goTold_146 ⟨Nat.zero_le _, Nat.zero_le _⟩) hS (fun q _ h => h) (fun q h => h) (fun r287 F288 t H1 locs ht hvm hw hB hz1 hk1 hS => ?_)
        obtain ⟨hP, hK1⟩ := hB
        rw [ht] at hP
        generalize H1 = H at hP hS ⊢
        obtain ⟨h289, h291, hI, hfr1, hzf, h290⟩ := hw
        have o292 : F288 (A 12) = .inl (cs 0, 400, .inl f277) := (hfr1 _ (by rw [(y_k12 hA)]; decide)).trans o278
        obtain ⟨z293, q294, oY295, bz296⟩ := y_opY hI ha0
        have hzf : ∀ k, k ∈ ([1, 3, 7, 8, 11, 15, 16, 19, 25, 26, 27, 31, 32] : List Nat) → z293 k = z177 k := fun k hk => by have q9 := hzf k hk; rw [y_fiZ oY295 (s_sub (by decide) hk), y_fiZ oY276 (s_sub (by decide) hk)] at q9; exact q9
        have hz0 : ∀ k, k ∈ ([1, 3, 7, 8, 15, 16, 19, 25, 26, 27, 31, 32] : List Nat) → z293 k = z0 k := fun k hk => (hzf k (s_sub (by decide) hk)).trans (hz0 k hk)
        have hfr : ∀ b, K b ∉ [9, 62, 64] → F288 b = F b := fun b hb9 => (hfr1 b (fun q => hb9 (s_sub (by decide) q))).trans (hfr b hb9)
        obtain ⟨v297, ev297⟩ : ∃ y : Int32, y = z293 5 := ⟨_, rfl⟩
        have h290 : ((v173.toInt = 0 ∨ ¬ v297.toInt = 0) ∧ (v297.toInt = 0 → -4 ≤ r287.toInt ∧ r287.toInt ≤ 999)) := by have q9 := h290; rw [y_fiZ oY276 (k := 5) (by decide), ← ep286_5, y_fiZ oY295 (k := 5) (by decide), ← ev297] at q9; exact q9
        have ep298_5 := ev297
        refine va_callv (va_runV (As := [.int 3, .int r287]) (rest := []) ⟨hx, hb, hml, hown, hts⟩ (y_X7_lays l dC dI H.size hLK A hA F288 a0 3 r287 ha0 (by decide) hI) (cwV 2 hts (ax_gV T_1115 T_1117 T_1118 T_265 T_1116) rfl rfl rfl (by decide +kernel) ⟨Nat.le_of_ble_eq_true rfl, Nat.le_of_ble_eq_true rfl⟩) ⟨fun a U g mk q => ⟨q.1, s_pc rfl rfl q.2⟩, s_recv hK hP (hLK _ ha0 (by decide)) (ci := 7) rfl oY295, fun U hU hW => ⟨rfl, s_pw hU hW hP hK hD hN⟩⟩ rfl rfl hl.1 rfl (lv_room (Nat.le_of_ble_eq_true rfl)) dX7_goTold_149 ⟨Nat.zero_le _, Nat.zero_le _⟩) hS (fun q _ h => h) (fun q h => h) (fun F299 t H1 locs ht hvm hw hB hz1 hk1 hS => ?_)
        obtain ⟨hP, hK1⟩ := hB
        rw [ht] at hP
        generalize H1 = H at hP hS ⊢
        obtain ⟨h300, h302, hI, hfr1, hzf, h301⟩ := hw
        have oY303 : F299 a0 = .inr (7, y_fl A z293 q294) := (hfr1 _ (by rw [ha0]; decide)).trans oY295
        have hfr : ∀ b, K b ∉ [9, 62, 64] → F299 b = F b := fun b hb9 => (hfr1 b (fun q => hb9 (s_sub (by decide) q))).trans (hfr b hb9)
        obtain ⟨f304, o305, b306⟩ := y_op12 hI
        have h301 : ((∀ j : Int, 0 ≤ j → j ≠ 8 * (y_c f277 387).toInt + 3 → y_c f304 j = y_c f277 j) ∧ (v297.toInt = 0 → y_c f304 (8 * (y_c f277 387).toInt + 3) = r287)) := by have q9 := h301; rw [y_atE o292, y_atE o305, y_fiZ oY295 (k := 5) (by decide), ← ep298_5] at q9; exact q9
        rw [hn280] at h301
        have hn307 : (y_c f304 387).toInt = nn := by rw [h301.1 387 (by omega) (by omega)]; exact hn280
        have hfr308 : ∀ j : Int, 0 ≤ j → (j < 8 * nn ∨ 8 * nn + 8 ≤ j) → y_c f304 j = y_c f1 j := fun j h0 h1 => (h301.1 j h0 (by omega)).trans (hfr281 j h0 h1)
        have h309 : (y_c f304 (8 * nn)).toInt = (y_c f277 (8 * nn)).toInt := (congrArg Int32.toInt (h301.1 _ (by omega) (by omega)))
        have h310 : (y_c f304 (8 * nn + 2)).toInt = (y_c f277 (8 * nn + 2)).toInt := (congrArg Int32.toInt (h301.1 _ (by omega) (by omega)))
        have h311 : v297.toInt = 0 → (y_c f304 (8 * nn + 3)).toInt = r287.toInt := (fun h9 => (congrArg (fun i => (y_c f304 i).toInt) (show 8 * nn + 3 = 8 * nn + 3 by omega)).trans ((congrArg Int32.toInt (h301.2 h9)).trans rfl))
        have h312 : (y_c f304 (8 * nn + 5)).toInt = (y_c f277 (8 * nn + 5)).toInt := (congrArg Int32.toInt (h301.1 _ (by omega) (by omega)))
        exact W.vret hx hb hr (fun t ht hW => ⟨⟨F299, rfl, ⟨trivial, trivial, hI, hfr, fun k hk => (y_fiZ oY303 (s_sub (by decide) hk)).trans ((hz0 k hk).trans (y_fiZ oY0 (s_sub (by decide) hk)).symm), (by rw [y_fiZ oY0 (k := 5) (by decide), ← eF_5, y_fiZ oY303 (k := 5) (by decide), ← ev297, y_atE o2, y_atE o305]; rw [← hnn]; exact ⟨by omega, hfr308, by omega, by omega⟩)⟩, by rw [ht]; exact hP, va_K.moved hW.alike hK⟩, hS.F ht⟩) hS.2.2 dX7_goTold_152
    · have c175 := mt (ax_eq (n := 0) (by decide)).mpr c175
      exact W.vret hx hb hr (fun t ht hW => ⟨⟨F165, rfl, ⟨trivial, trivial, hI, hfr, fun k hk => (y_fiZ oY168 (s_sub (by decide) hk)).trans ((hz0 k hk).trans (y_fiZ oY0 (s_sub (by decide) hk)).symm), (by rw [y_fiZ oY0 (k := 5) (by decide), ← eF_5, y_fiZ oY168 (k := 5) (by decide), ← ev173, y_atE o2, y_atE o171]; rw [← hnn]; exact ⟨by omega, h161, by omega, by omega⟩)⟩, by rw [ht]; exact hP, va_K.moved hW.alike hK⟩, hS.F ht⟩) hS.2.2 dX7_goTold_106

set_option maxHeartbeats 4000000 in
set_option maxRecDepth 100000 in
theorem y_X7_lineTold (l : Launch) (dC : Nat → ClassId) (dI : Nat → Nat → Nat) (sz : Nat) {L : List Nat} {K : Nat → Nat} {cs : Nat → ClassId} (hLK : ∀ a {k : Nat}, K a = k → k ≠ 0 → a ∈ L) (A : Nat → Nat) (hA : y_A K A) (F : Nat → va_E) (a0 : Nat) (x1 : Int32) (ha0 : K a0 = 9) (hI : y_I K cs A F) (hg9 : ((y_c (y_at F (A 12)) 387).toInt ≤ 39 ∧ (y_fi F a0 5).toInt = 0)) : Met l yX7_lineTold (Cond.code yX7_lineTold cX7_lineTold 4 none :: T0) ({ frames := 6, cells := 0, slots := 0, locals := 128 }) (va_Pc [.ref a0, .int x1] (s_W dC dI sz L F [(cs 0, .int), (cs 1, .byte), (cs 2, .long), (cs 3, .object RX5), (cs 4, .object RX4), (cs 5, .array .int), (cs 6, .char), (cs 7, .boolean)])) (va_Qv (fun (G : Nat → va_E) => True ∧ True ∧ y_I K cs A G ∧ (∀ b, K b ∉ [9, 62, 64] → G b = F b) ∧ (∀ k, k ∈ ([1, 3, 7, 8, 15, 16, 19, 25, 26, 27, 31, 32] : List Nat) → y_fi G a0 k = y_fi F a0 k) ∧ (((y_fi F a0 5).toInt = 0 ∨ ¬ (y_fi G a0 5).toInt = 0) ∧ (∀ j : Int, 0 ≤ j → j < 8 * (y_c (y_at F (A 12)) 387).toInt → y_c (y_at G (A 12)) j = y_c (y_at F (A 12)) j) ∧ (∀ j : Int, 8 * (y_c (y_at F (A 12)) 387).toInt + 8 ≤ j → j ≠ 387 → y_c (y_at G (A 12)) j = y_c (y_at F (A 12)) j) ∧ ((y_fi G a0 5).toInt = 0 → (y_c (y_at G (A 12)) 387).toInt = (y_c (y_at F (A 12)) 387).toInt + 1 ∧ y_rg (y_at G (A 12)) (y_c (y_at F (A 12)) 387).toInt))) (fun (G : Nat → va_E) (t : State) => va_P (dC, dI) vwCl (va_pl L G) t.heap ∧ va_K (dC, dI) vwCl [(cs 0, .int), (cs 1, .byte), (cs 2, .long), (cs 3, .object RX5), (cs 4, .object RX4), (cs 5, .array .int), (cs 6, .char), (cs 7, .boolean)] t) (fun q => q ∈ L)) 0 0 (fun q => q ∈ L) := by
  refine Met.ofW (cc := cX7_lineTold) (maxL := 4) (ret := none) (by decide) rfl ?_
  intro p e s m args below meth c s₁ B hml hv
  obtain ⟨rfl, hsz, hP, hK, hD, hN⟩ := hv
  have hx := B.exec
  have hb := B.bytes
  have hr := B.returns
  have hts : ∀ w ∈ T0, w.before _ s = true := fun w h => atoms_spec (ws := Cond.code yX7_lineTold cX7_lineTold 4 none :: T0) B.pre w (List.mem_cons_of_mem _ h)
  have hown : s.vm.findClass RX7 = some m.cls := findClass_of_methodNamed B.named
  have hlocks := B.notSynchronized
  have hS : va_S (fun q => q ∈ L) s.heap s.heap [] := va_S.rf
  have hfr : ∀ b, K b ∉ [9, 62, 64] → F b = F b := fun _ _ => rfl
  have hl := lv_entry ([.ref a0, .int x1]) (n := 4) (Nat.le_of_ble_eq_true rfl)
  rw [lg_entry_eq]
  generalize (lg_sl ([.ref a0, .int x1]) ++ List.replicate (4 - (lg_sl ([.ref a0, .int x1])).length) Slot.unset).toArray = ls at hl ⊢
  have hl : lv_has ls 4 [(0, .ref a0), (1, .int x1)] := hl
  refine s_gen hP hS (fun H locs hP hS => ?_)
  obtain ⟨z0, q0, oY0, bz0⟩ := y_opY hI ha0
  have hz0 : ∀ k, k ∈ ([1, 3, 7, 8, 15, 16, 19, 25, 26, 27, 31, 32] : List Nat) → z0 k = z0 k := fun _ _ => rfl
  obtain ⟨f1, o2, b3⟩ := y_op12 hI
  obtain ⟨v4, ev4⟩ : ∃ y : Int32, y = z0 5 := ⟨_, rfl⟩
  have eF_5 := ev4
  have hg9 : ((y_c f1 387).toInt ≤ 39 ∧ v4.toInt = 0) := by have q9 := hg9; rw [y_atE o2, y_fiZ oY0 (k := 5) (by decide), ← ev4] at q9; exact q9
  obtain ⟨nn, hnn⟩ : ∃ n : Int, n = (y_c f1 387).toInt := ⟨_, rfl⟩
  have hnb : 0 ≤ (y_c f1 387).toInt ∧ (y_c f1 387).toInt ≤ 40 := b3
  rw [← hnn] at hnb
  rw [← hnn] at hg9
  have e0_v4 := ev4
  refine th_join (fun g H locs => ∃ (G : Nat → va_E) (ls : Array Slot), g = F0 m 147 ls [] ∧ lv_has ls 4 [(0, .ref a0)] ∧ va_P (dC, dI) vwCl (va_pl L G) H ∧ va_S (fun q => q ∈ L) s.heap H locs ∧ y_I K cs A G ∧ (∀ b, K b ∉ [9, 62, 64] → G b = F b) ∧ (∀ k, k ∈ ([1, 3, 7, 8, 15, 16, 19, 25, 26, 27, 31, 32] : List Nat) → y_fi G a0 k = z0 k) ∧ (y_c (y_at G (A 12)) 387).toInt = nn ∧ (∀ j : Int, 0 ≤ j → (j < 8 * nn ∨ 8 * nn + 8 ≤ j) → y_c (y_at G (A 12)) j = y_c f1 j) ∧ ((y_fi G a0 5).toInt = 0 → (0 ≤ (y_c (y_at G (A 12)) (8 * nn)).toInt ∧ (y_c (y_at G (A 12)) (8 * nn)).toInt ≤ 15) ∧ (((y_c (y_at G (A 12)) (8 * nn)).toInt = 5 ∨ (y_c (y_at G (A 12)) (8 * nn)).toInt = 6 ∨ 12 ≤ (y_c (y_at G (A 12)) (8 * nn)).toInt) ∨ -4 ≤ (y_c (y_at G (A 12)) (8 * nn + 2)).toInt) ∧ (((y_c (y_at G (A 12)) (8 * nn)).toInt = 5 ∨ (y_c (y_at G (A 12)) (8 * nn)).toInt = 6 ∨ 12 ≤ (y_c (y_at G (A 12)) (8 * nn)).toInt ∨ (y_c (y_at G (A 12)) (8 * nn)).toInt = 0 ∨ (y_c (y_at G (A 12)) (8 * nn)).toInt = 7 ∨ (y_c (y_at G (A 12)) (8 * nn)).toInt = 9 ∨ (y_c (y_at G (A 12)) (8 * nn)).toInt = 11) ∨ -4 ≤ (y_c (y_at G (A 12)) (8 * nn + 3)).toInt) ∧ ((y_c (y_at G (A 12)) (8 * nn)).toInt ≠ 12 ∨ (y_c (y_at G (A 12)) (8 * nn + 5)).toInt = -1000000 ∨ (-4 ≤ (y_c (y_at G (A 12)) (8 * nn + 2)).toInt ∧ -4 ≤ (y_c (y_at G (A 12)) (8 * nn + 3)).toInt))) ∧ v4.toInt = 0) (fun K147 => ?_) ?_
  refine th_join (fun g H locs => ∃ (G : Nat → va_E) (ls : Array Slot) (w5 : Int32), g = F0 m 110 ls [] ∧ lv_has ls 4 [(0, .ref a0), (2, .int w5)] ∧ va_P (dC, dI) vwCl (va_pl L G) H ∧ va_S (fun q => q ∈ L) s.heap H locs ∧ y_I K cs A G ∧ (∀ b, K b ∉ [9, 62, 64] → G b = F b) ∧ (∀ k, k ∈ ([1, 3, 7, 8, 15, 16, 19, 25, 26, 27, 31, 32] : List Nat) → y_fi G a0 k = z0 k) ∧ True ∧ (y_c (y_at G (A 12)) 387).toInt = nn ∧ (∀ j : Int, 0 ≤ j → (j < 8 * nn ∨ 8 * nn + 8 ≤ j) → y_c (y_at G (A 12)) j = y_c f1 j) ∧ ((v4.toInt = 0 ∧ 0 ≤ w5.toInt ∧ w5.toInt ≤ 15) ∧ (y_c (y_at G (A 12)) (8 * nn + 5)).toInt = -1000000 ∧ ((y_fi G a0 5).toInt = 0 → (y_c (y_at G (A 12)) (8 * nn)).toInt = w5.toInt))) (fun K110 => ?_) ?_
  refine th_join (fun g H locs => ∃ (G : Nat → va_E) (ls : Array Slot) (w6 : Int32), g = F0 m 76 ls [] ∧ lv_has ls 4 [(0, .ref a0), (2, .int w6)] ∧ va_P (dC, dI) vwCl (va_pl L G) H ∧ va_S (fun q => q ∈ L) s.heap H locs ∧ y_I K cs A G ∧ (∀ b, K b ∉ [9, 62, 64] → G b = F b) ∧ (∀ k, k ∈ ([1, 3, 7, 8, 15, 16, 19, 25, 26, 27, 31, 32] : List Nat) → y_fi G a0 k = z0 k) ∧ True ∧ (y_c (y_at G (A 12)) 387).toInt = nn ∧ (∀ j : Int, 0 ≤ j → (j < 8 * nn ∨ 8 * nn + 8 ≤ j) → y_c (y_at G (A 12)) j = y_c f1 j) ∧ (v4.toInt = 0 ∧ (y_c (y_at G (A 12)) (8 * nn + 5)).toInt = -1000000 ∧ ((y_fi G a0 5).toInt = 0 → 0 ≤ w6.toInt ∧ w6.toInt ≤ 15))) (fun K76 => ?_) ?_
  · refine lv_iconst (v := 1) hx hb dX7_lineTold_0 (by decide) ?_
    refine lv_istore_n (lv' := [(2, .int 1), (0, .ref a0), (1, .int x1)]) hx hb dX7_lineTold_1 rfl hl (by decide) rfl (fun ls hl => ?_)
    have h8 : (1 : Int32).toInt = 1 := by decide
    refine th_loop (fun n g H locs => ∃ (G : Nat → va_E) (ls : Array Slot) (w7 : Int32), g = F0 m 2 ls [] ∧ lv_has ls 4 [(0, .ref a0), (1, .int x1), (2, .int w7)] ∧ va_P (dC, dI) vwCl (va_pl L G) H ∧ va_S (fun q => q ∈ L) s.heap H locs ∧ y_I K cs A G ∧ (∀ b, K b ∉ [9, 62, 64] → G b = F b) ∧ (∀ k, k ∈ ([1, 3, 7, 8, 15, 16, 19, 25, 26, 27, 31, 32] : List Nat) → y_fi G a0 k = z0 k) ∧ (1 ≤ w7.toInt ∧ w7.toInt ≤ 7) ∧ (y_c (y_at G (A 12)) 387).toInt = nn ∧ (∀ j : Int, 0 ≤ j → (j < 8 * nn ∨ 8 * nn + 8 ≤ j) → y_c (y_at G (A 12)) j = y_c f1 j) ∧ ((v4.toInt = 0 ∧ (y_fi G a0 5).toInt = 0) ∧ (6 ≤ w7.toInt → (y_c (y_at G (A 12)) (8 * nn + 5)).toInt = -1000000)) ∧ n = (8 - w7.toInt).toNat) _ ⟨F, _, 1, rfl, lv_sub hl [1, 2, 0] rfl, hP, hS, hI, hfr, (fun k hk => (y_fiZ oY0 (s_sub (by decide) hk)).trans (hz0 k hk)), (by decide), (by rw [y_atE o2]; exact hnn.symm), (by rw [y_atE o2]; exact (fun j _ _ => rfl)), (by rw [y_fiZ oY0 (k := 5) (by decide), ← ev4, y_atE o2]; omega), rfl⟩ (fun n ih2 g H locs hq => ?_)
    obtain ⟨F13, ls, w7, rfl, hl, hP, hS, hI, hfr, hz0, h9, h10, h11, h12, hn⟩ := hq
    obtain ⟨z14, q15, oY16, bz17⟩ := y_opY hI ha0
    have hz0 : ∀ k, k ∈ ([1, 3, 7, 8, 15, 16, 19, 25, 26, 27, 31, 32] : List Nat) → z14 k = z0 k := fun k hk => (y_fiZ oY16 (s_sub (by decide) hk)).symm.trans (hz0 k hk)
    obtain ⟨f18, o19, b20⟩ := y_op12 hI
    have h10 : (y_c f18 387).toInt = nn := by have q9 := h10; rw [y_atE o19] at q9; exact q9
    have h11 : (∀ j : Int, 0 ≤ j → (j < 8 * nn ∨ 8 * nn + 8 ≤ j) → y_c f18 j = y_c f1 j) := by have q9 := h11; rw [y_atE o19] at q9; exact q9
    obtain ⟨v21, ev21⟩ : ∃ y : Int32, y = z14 5 := ⟨_, rfl⟩
    have h12 : ((v4.toInt = 0 ∧ v21.toInt = 0) ∧ (6 ≤ w7.toInt → (y_c f18 (8 * nn + 5)).toInt = -1000000)) := by have q9 := h12; rw [y_fiZ oY16 (k := 5) (by decide), ← ev21, y_atE o19] at q9; exact q9
    have hn_21 := hn
    refine lv_iload_n hx hb dX7_lineTold_2 rfl (lv_at hl 2 rfl) ?_
    refine lv_bipush (v := 7) hx hb dX7_lineTold_3 (by decide) ?_
    refine lv_icmp_ge (tgt := 21) hx hb dX7_lineTold_5 (by decide) (fun c22 => ?_) (fun c22 => ?_)
    · have c22 := (ax_ge (n := 7) (by decide)).mp c22
      refine lv_aload_n hx hb dX7_lineTold_21 rfl (lv_at hl 0 rfl) ?_
      refine lv_bipush (v := 7) hx hb dX7_lineTold_22 (by decide) ?_
      refine lv_iload_n hx hb dX7_lineTold_24 rfl (lv_at hl 1 rfl) ?_
      have ep23_5 := ev21
      refine va_callv (va_runV (As := [.int 7, .int x1]) (rest := []) ⟨hx, hb, hml, hown, hts⟩ (y_X7_lays l dC dI H.size hLK A hA F13 a0 7 x1 ha0 (by decide) hI) (cwV 2 hts (ax_gV T_1115 T_1117 T_1118 T_265 T_1116) rfl rfl rfl (by decide +kernel) ⟨Nat.le_of_ble_eq_true rfl, Nat.le_of_ble_eq_true rfl⟩) ⟨fun a U g mk q => ⟨q.1, s_pc rfl rfl q.2⟩, s_recv hK hP (hLK _ ha0 (by decide)) (ci := 7) rfl oY16, fun U hU hW => ⟨rfl, s_pw hU hW hP hK hD hN⟩⟩ rfl rfl hl.1 rfl (lv_room (Nat.le_of_ble_eq_true rfl)) dX7_lineTold_25 ⟨Nat.zero_le _, Nat.zero_le _⟩) hS (fun q _ h => h) (fun q h => h) (fun F24 t H1 locs ht hvm hw hB hz1 hk1 hS => ?_)
      obtain ⟨hP, hK1⟩ := hB
      rw [ht] at hP
      generalize H1 = H at hP hS ⊢
      obtain ⟨h25, h27, hI, hfr1, hzf, h26⟩ := hw
      have oY28 : F24 a0 = .inr (7, y_fl A z14 q15) := (hfr1 _ (by rw [ha0]; decide)).trans oY16
      have hfr : ∀ b, K b ∉ [9, 62, 64] → F24 b = F b := fun b hb9 => (hfr1 b (fun q => hb9 (s_sub (by decide) q))).trans (hfr b hb9)
      obtain ⟨f29, o30, b31⟩ := y_op12 hI
      have h26 : ((∀ j : Int, 0 ≤ j → j ≠ 8 * (y_c f18 387).toInt + 7 → y_c f29 j = y_c f18 j) ∧ (v21.toInt = 0 → y_c f29 (8 * (y_c f18 387).toInt + 7) = x1)) := by have q9 := h26; rw [y_atE o19, y_atE o30, y_fiZ oY16 (k := 5) (by decide), ← ep23_5] at q9; exact q9
      rw [h10] at h26
      have hn32 : (y_c f29 387).toInt = nn := by rw [h26.1 387 (by omega) (by omega)]; exact h10
      have hfr33 : ∀ j : Int, 0 ≤ j → (j < 8 * nn ∨ 8 * nn + 8 ≤ j) → y_c f29 j = y_c f1 j := fun j h0 h1 => (h26.1 j h0 (by omega)).trans (h11 j h0 h1)
      have h34 : (y_c f29 (8 * nn)).toInt = (y_c f18 (8 * nn)).toInt := (congrArg Int32.toInt (h26.1 _ (by omega) (by omega)))
      have h35 : (y_c f29 (8 * nn + 2)).toInt = (y_c f18 (8 * nn + 2)).toInt := (congrArg Int32.toInt (h26.1 _ (by omega) (by omega)))
      have h36 : (y_c f29 (8 * nn + 3)).toInt = (y_c f18 (8 * nn + 3)).toInt := (congrArg Int32.toInt (h26.1 _ (by omega) (by omega)))
      have h37 : (y_c f29 (8 * nn + 5)).toInt = (y_c f18 (8 * nn + 5)).toInt := (congrArg Int32.toInt (h26.1 _ (by omega) (by omega)))
      refine lv_aload_n hx hb dX7_lineTold_28 rfl (lv_at hl 0 rfl) ?_
      refine va_calli (va_runV (As := []) (rest := []) ⟨hx, hb, hml, hown, hts⟩ (y_X7_ownHere l dC dI H.size hLK A hA F24 a0 ha0 hI) (cwV 0 hts (ax_gV T_283 T_284 T_285 T_265 T_25) rfl rfl rfl (by decide +kernel) ⟨Nat.le_of_ble_eq_true rfl, Nat.le_of_ble_eq_true rfl⟩) ⟨fun a U g mk q => ⟨q.1, s_pc rfl rfl q.2⟩, s_recv hK hP (hLK _ ha0 (by decide)) (ci := 7) rfl oY28, fun U hU hW => ⟨rfl, s_pw hU hW hP hK hD hN⟩⟩ rfl rfl hl.1 rfl (lv_room (Nat.le_of_ble_eq_true rfl)) dX7_lineTold_29 ⟨Nat.zero_le _, Nat.zero_le _⟩) hS (fun q _ h => h) (fun q h => h) (fun r39 F40 t H1 locs ht hvm hw hB hz1 hk1 hS => ?_)
      obtain ⟨hP, hK1⟩ := hB
      rw [ht] at hP
      generalize H1 = H at hP hS ⊢
      obtain ⟨h41, h43, hI, hfr1, hzf, h42⟩ := hw
      have o44 : F40 (A 12) = .inl (cs 0, 400, .inl f29) := (hfr1 _ (by rw [(y_k12 hA)]; decide)).trans o30
      obtain ⟨z45, q46, oY47, bz48⟩ := y_opY hI ha0
      have hzf : ∀ k, k ∈ ([1, 3, 4, 5, 6, 7, 8, 11, 15, 16, 19, 25, 26, 27, 31, 32] : List Nat) → z45 k = z14 k := fun k hk => by have q9 := hzf k hk; rw [y_fiZ oY47 (s_sub (by decide) hk), y_fiZ oY28 (s_sub (by decide) hk)] at q9; exact q9
      have hz0 : ∀ k, k ∈ ([1, 3, 7, 8, 15, 16, 19, 25, 26, 27, 31, 32] : List Nat) → z45 k = z0 k := fun k hk => (hzf k (s_sub (by decide) hk)).trans (hz0 k hk)
      have ev21 : v21 = z45 5 := ev21.trans (hzf 5 (by decide)).symm
      have hfr : ∀ b, K b ∉ [9, 62, 64] → F40 b = F b := fun b hb9 => (hfr1 b (fun q => hb9 (s_sub (by decide) q))).trans (hfr b hb9)
      refine lv_istore_n (lv' := [(2, .int r39), (0, .ref a0), (1, .int x1)]) hx hb dX7_lineTold_32 rfl hl (by decide) rfl (fun ls hl => ?_)
      refine lv_aload_n hx hb dX7_lineTold_33 rfl (lv_at hl 1 rfl) ?_
      refine th_get (D := (dC, dI)) (ci := 7) (v := .int (z45 5)) (C := RX7) (T := TX7) (N := 34) hx hb hts inX7 hown hK hP (hLK _ ha0 (by decide)) oY47 rfl 5 (by decide) (hts _ T_274) (fun _ h9 => h9) rfl dX7_lineTold_34 ?_
      refine ax_eqi (y := v21) ev21.symm ?_
      refine lv_if_ne (tgt := 76) hx hb dX7_lineTold_37 (by decide) (fun c49 => ?_) (fun c49 => ?_)
      · have c49 := mt (ax_eq (n := 0) (by decide)).mpr c49
        exact K76 _ _ _ ⟨F40, _, r39, rfl, lv_sub hl [1, 0] rfl, hP, hS, hI, hfr, (fun k hk => (y_fiZ oY47 (s_sub (by decide) hk)).trans (hz0 k hk)), trivial, (by rw [y_atE o44]; exact hn32), (by rw [y_atE o44]; exact hfr33), (by rw [y_atE o44, y_fiZ oY47 (k := 5) (by decide), ← ev21]; omega)⟩
      · have c49 := (ax_eq (n := 0) (by decide)).mp c49
        refine lv_iload_n hx hb dX7_lineTold_40 rfl (lv_at hl 0 rfl) ?_
        refine lv_i2l hx hb dX7_lineTold_41 rfl ?_
        refine lv_topl (fun v50 ev50 => ?_)
        have qv50 : v50.toInt = r39.toInt := y_i2l ev50
        refine lv_lconst (v := 0) hx hb dX7_lineTold_42 (by decide) ?_
        refine lv_ldc2 hx hb hown (hts _ T_1256) dX7_lineTold_43 ?_
        refine va_calli (va_runS (As := [.long v50, .long 0, .long 15]) (rest := []) ⟨hx, hb, hml, hown, hts⟩ (y_X7_isIn l dC dI H.size F40 v50 0 15) (cwS 3 hts (ax_gS T_267 T_268 T_265 T_21) rfl rfl rfl (by decide +kernel) ⟨Nat.le_of_ble_eq_true rfl, Nat.le_of_ble_eq_true rfl⟩) ⟨fun a U g mk q => ⟨q.1, s_pc rfl rfl q.2⟩, fun U hU hW => ⟨rfl, s_pw hU hW hP hK hD hN⟩⟩ rfl rfl hl.1 rfl (lv_room (Nat.le_of_ble_eq_true rfl)) dX7_lineTold_46 ⟨Nat.zero_le _, Nat.zero_le _⟩) hS (fun q _ h => h) (fun q h => h) (fun r52 F53 t H1 locs ht hvm hw hB hz1 hk1 hS => ?_)
        obtain ⟨hP, hK1⟩ := hB
        rw [ht] at hP
        generalize H1 = H at hP hS ⊢
        obtain ⟨h54, h56, hG9, h55⟩ := hw
        rw [hG9] at hP
        have h55 : ((r52.toInt = 0 ∧ (v50.toInt < 0 ∨ 15 < v50.toInt)) ∨ (r52.toInt = 1 ∧ 0 ≤ v50.toInt ∧ v50.toInt ≤ 15)) := by have q9 := h55; exact q9
        refine lv_if_ne (tgt := 76) hx hb dX7_lineTold_49 (by decide) (fun c57 => ?_) (fun c57 => ?_)
        · have c57 := mt (ax_eq (n := 0) (by decide)).mpr c57
          exact K76 _ _ _ ⟨F40, _, r39, rfl, lv_sub hl [1, 0] rfl, hP, hS, hI, hfr, (fun k hk => (y_fiZ oY47 (s_sub (by decide) hk)).trans (hz0 k hk)), trivial, (by rw [y_atE o44]; exact hn32), (by rw [y_atE o44]; exact hfr33), (by rw [y_atE o44, y_fiZ oY47 (k := 5) (by decide), ← ev21]; omega)⟩
        · have c57 := (ax_eq (n := 0) (by decide)).mp c57
          refine lv_aload_n hx hb dX7_lineTold_52 rfl (lv_at hl 1 rfl) ?_
          refine lv_iconst (v := 1) hx hb dX7_lineTold_53 (by decide) ?_
          refine lv_aload_n hx hb dX7_lineTold_54 rfl (lv_at hl 1 rfl) ?_
          refine va_calli (va_runV (As := []) (rest := [.int 1, .ref a0]) ⟨hx, hb, hml, hown, hts⟩ (y_X7_look l dC dI H.size hLK A hA F40 a0 ha0 hI) (cwV 0 hts (ax_gV T_275 T_276 T_277 T_265 T_22) rfl rfl rfl (by decide +kernel) ⟨Nat.le_of_ble_eq_true rfl, Nat.le_of_ble_eq_true rfl⟩) ⟨fun a U g mk q => ⟨q.1, s_pc rfl rfl q.2⟩, s_recv hK hP (hLK _ ha0 (by decide)) (ci := 7) rfl oY47, fun U hU hW => ⟨rfl, s_pw hU hW hP hK hD hN⟩⟩ rfl rfl hl.1 rfl (lv_room (Nat.le_of_ble_eq_true rfl)) dX7_lineTold_55 ⟨Nat.zero_le _, Nat.zero_le _⟩) hS (fun q _ h => h) (fun q h => h) (fun r59 F60 t H1 locs ht hvm hw hB hz1 hk1 hS => ?_)
          obtain ⟨hP, hK1⟩ := hB
          rw [ht] at hP
          generalize H1 = H at hP hS ⊢
          obtain ⟨h61, h63, hI, hfr1, hzf, h62⟩ := hw
          have o64 : F60 (A 12) = .inl (cs 0, 400, .inl f29) := (hfr1 _ (by rw [(y_k12 hA)]; decide)).trans o44
          obtain ⟨z65, q66, oY67, bz68⟩ := y_opY hI ha0
          have hzf : ∀ k, k ∈ ([1, 3, 4, 5, 6, 7, 8, 11, 15, 16, 19, 25, 26, 27, 31, 32] : List Nat) → z65 k = z45 k := fun k hk => by have q9 := hzf k hk; rw [y_fiZ oY67 (s_sub (by decide) hk), y_fiZ oY47 (s_sub (by decide) hk)] at q9; exact q9
          have hz0 : ∀ k, k ∈ ([1, 3, 7, 8, 15, 16, 19, 25, 26, 27, 31, 32] : List Nat) → z65 k = z0 k := fun k hk => (hzf k (s_sub (by decide) hk)).trans (hz0 k hk)
          have ev21 : v21 = z65 5 := ev21.trans (hzf 5 (by decide)).symm
          have hfr : ∀ b, K b ∉ [9, 62, 64] → F60 b = F b := fun b hb9 => (hfr1 b (fun q => hb9 (s_sub (by decide) q))).trans (hfr b hb9)
          obtain ⟨v69, ev69⟩ : ∃ y : Int32, y = z65 2 := ⟨_, rfl⟩
          have qv69 : 0 ≤ v69.toInt ∧ v69.toInt ≤ 1600 := by rw [ev69]; exact y_bY2 bz68
          obtain ⟨v70, ev70⟩ : ∃ y : Int32, y = z65 3 := ⟨_, rfl⟩
          have qv70 : 0 ≤ v70.toInt ∧ v70.toInt ≤ 1600 := by rw [ev70]; exact y_bY3 bz68
          have h62 : (r59.toInt = -1 ∨ v69.toInt < v70.toInt) := by have q9 := h62; rw [y_fiZ oY67 (k := 2) (by decide), ← ev69, y_fiZ oY67 (k := 3) (by decide), ← ev70] at q9; exact q9
          refine lv_iconst (v := (-1)) hx hb dX7_lineTold_58 (by decide) ?_
          refine lv_icmp_ne (tgt := 69) hx hb dX7_lineTold_59 (by decide) (fun c71 => ?_) (fun c71 => ?_)
          · have c71 := mt (ax_eq (n := (-1)) (by decide)).mpr c71
            refine lv_aload_n hx hb dX7_lineTold_69 rfl (lv_at hl 1 rfl) ?_
            refine th_get (D := (dC, dI)) (ci := 7) (v := .int (z65 2)) (C := RX7) (T := TX7) (N := 34) hx hb hts inX7 hown hK hP (hLK _ ha0 (by decide)) oY67 rfl 2 (by decide) (hts _ T_272) (fun _ h9 => h9) rfl dX7_lineTold_70 ?_
            refine ax_eqi (y := v69) ev69.symm ?_
            refine va_callv (va_runV (As := [.int 1, .int v69]) (rest := []) ⟨hx, hb, hml, hown, hts⟩ (y_X7_fail l dC dI H.size hLK A hA F60 a0 1 v69 ha0 (by decide) hI) (cwV 2 hts (ax_gV T_290 T_291 T_292 T_265 T_27) rfl rfl rfl (by decide +kernel) ⟨Nat.le_of_ble_eq_true rfl, Nat.le_of_ble_eq_true rfl⟩) ⟨fun a U g mk q => ⟨q.1, s_pc rfl rfl q.2⟩, s_recv hK hP (hLK _ ha0 (by decide)) (ci := 7) rfl oY67, fun U hU hW => ⟨rfl, s_pw hU hW hP hK hD hN⟩⟩ rfl rfl hl.1 rfl (lv_room (Nat.le_of_ble_eq_true rfl)) dX7_lineTold_73 ⟨Nat.zero_le _, Nat.zero_le _⟩) hS (fun q _ h => h) (fun q h => h) (fun F73 t H1 locs ht hvm hw hB hz1 hk1 hS => ?_)
            obtain ⟨hP, hK1⟩ := hB
            rw [ht] at hP
            generalize H1 = H at hP hS ⊢
            obtain ⟨h74, h76, hI, hfr1, hzf, h75⟩ := hw
            have o77 : F73 (A 12) = .inl (cs 0, 400, .inl f29) := (hfr1 _ (by rw [(y_k12 hA)]; decide)).trans o64
            obtain ⟨z78, q79, oY80, bz81⟩ := y_opY hI ha0
            have hzf : ∀ k, k ∈ ([1, 2, 3, 4, 7, 8, 11, 15, 16, 19, 25, 26, 27, 31, 32] : List Nat) → z78 k = z65 k := fun k hk => by have q9 := hzf k hk; rw [y_fiZ oY80 (s_sub (by decide) hk), y_fiZ oY67 (s_sub (by decide) hk)] at q9; exact q9
            have hz0 : ∀ k, k ∈ ([1, 3, 7, 8, 15, 16, 19, 25, 26, 27, 31, 32] : List Nat) → z78 k = z0 k := fun k hk => (hzf k (s_sub (by decide) hk)).trans (hz0 k hk)
            have ev69 : v69 = z78 2 := ev69.trans (hzf 2 (by decide)).symm
            have ev70 : v70 = z78 3 := ev70.trans (hzf 3 (by decide)).symm
            have hfr : ∀ b, K b ∉ [9, 62, 64] → F73 b = F b := fun b hb9 => (hfr1 b (fun q => hb9 (s_sub (by decide) q))).trans (hfr b hb9)
            obtain ⟨v82, ev82⟩ : ∃ y : Int32, y = z78 5 := ⟨_, rfl⟩
            have h75 : (¬ v82.toInt = 0) := by have q9 := h75; rw [y_fiZ oY80 (k := 5) (by decide), ← ev82] at q9; exact q9
            exact K76 _ _ _ ⟨F73, _, r39, rfl, lv_sub hl [1, 0] rfl, hP, hS, hI, hfr, (fun k hk => (y_fiZ oY80 (s_sub (by decide) hk)).trans (hz0 k hk)), trivial, (by rw [y_atE o77]; exact hn32), (by rw [y_atE o77]; exact hfr33), (by rw [y_atE o77, y_fiZ oY80 (k := 5) (by decide), ← ev82]; omega)⟩
          · have c71 := (ax_eq (n := (-1)) (by decide)).mp c71
            refine lv_aload_n hx hb dX7_lineTold_62 rfl (lv_at hl 1 rfl) ?_
            refine th_get (D := (dC, dI)) (ci := 7) (v := .int (z65 3)) (C := RX7) (T := TX7) (N := 34) hx hb hts inX7 hown hK hP (hLK _ ha0 (by decide)) oY67 rfl 3 (by decide) (hts _ T_273) (fun _ h9 => h9) rfl dX7_lineTold_63 ?_
            refine ax_eqi (y := v70) ev70.symm ?_
            refine lv_goto (tgt := 73) hx hb dX7_lineTold_66 (by decide) ?_
            refine va_callv (va_runV (As := [.int 1, .int v70]) (rest := []) ⟨hx, hb, hml, hown, hts⟩ (y_X7_fail l dC dI H.size hLK A hA F60 a0 1 v70 ha0 (by decide) hI) (cwV 2 hts (ax_gV T_290 T_291 T_292 T_265 T_27) rfl rfl rfl (by decide +kernel) ⟨Nat.le_of_ble_eq_true rfl, Nat.le_of_ble_eq_true rfl⟩) ⟨fun a U g mk q => ⟨q.1, s_pc rfl rfl q.2⟩, s_recv hK hP (hLK _ ha0 (by decide)) (ci := 7) rfl oY67, fun U hU hW => ⟨rfl, s_pw hU hW hP hK hD hN⟩⟩ rfl rfl hl.1 rfl (lv_room (Nat.le_of_ble_eq_true rfl)) dX7_lineTold_73 ⟨Nat.zero_le _, Nat.zero_le _⟩) hS (fun q _ h => h) (fun q h => h) (fun F84 t H1 locs ht hvm hw hB hz1 hk1 hS => ?_)
            obtain ⟨hP, hK1⟩ := hB
            rw [ht] at hP
            generalize H1 = H at hP hS ⊢
            obtain ⟨h85, h87, hI, hfr1, hzf, h86⟩ := hw
            have o88 : F84 (A 12) = .inl (cs 0, 400, .inl f29) := (hfr1 _ (by rw [(y_k12 hA)]; decide)).trans o64
            obtain ⟨z89, q90, oY91, bz92⟩ := y_opY hI ha0
            have hzf : ∀ k, k ∈ ([1, 2, 3, 4, 7, 8, 11, 15, 16, 19, 25, 26, 27, 31, 32] : List Nat) → z89 k = z65 k := fun k hk => by have q9 := hzf k hk; rw [y_fiZ oY91 (s_sub (by decide) hk), y_fiZ oY67 (s_sub (by decide) hk)] at q9; exact q9
            have hz0 : ∀ k, k ∈ ([1, 3, 7, 8, 15, 16, 19, 25, 26, 27, 31, 32] : List Nat) → z89 k = z0 k := fun k hk => (hzf k (s_sub (by decide) hk)).trans (hz0 k hk)
            have ev69 : v69 = z89 2 := ev69.trans (hzf 2 (by decide)).symm
            have ev70 : v70 = z89 3 := ev70.trans (hzf 3 (by decide)).symm
            have hfr : ∀ b, K b ∉ [9, 62, 64] → F84 b = F b := fun b hb9 => (hfr1 b (fun q => hb9 (s_sub (by decide) q))).trans (hfr b hb9)
            obtain ⟨v93, ev93⟩ : ∃ y : Int32, y = z89 5 := ⟨_, rfl⟩
            have h86 : (¬ v93.toInt = 0) := by have q9 := h86; rw [y_fiZ oY91 (k := 5) (by decide), ← ev93] at q9; exact q9
            exact K76 _ _ _ ⟨F84, _, r39, rfl, lv_sub hl [1, 0] rfl, hP, hS, hI, hfr, (fun k hk => (y_fiZ oY91 (s_sub (by decide) hk)).trans (hz0 k hk)), trivial, (by rw [y_atE o88]; exact hn32), (by rw [y_atE o88]; exact hfr33), (by rw [y_atE o88, y_fiZ oY91 (k := 5) (by decide), ← ev93]; omega)⟩
    · have c22 := mt (ax_ge (n := 7) (by decide)).mpr c22
      refine lv_aload_n hx hb dX7_lineTold_8 rfl (lv_at hl 0 rfl) ?_
      refine lv_iload_n hx hb dX7_lineTold_9 rfl (lv_at hl 2 rfl) ?_
      refine lv_ldc (v := (-1000000)) hx hb hown (hts _ T_316) dX7_lineTold_10 ?_
      have ep94_5 := ev21
      refine va_callv (va_runV (As := [.int w7, .int (-1000000)]) (rest := []) ⟨hx, hb, hml, hown, hts⟩ (y_X7_lays l dC dI H.size hLK A hA F13 a0 w7 (-1000000) ha0 (⟨by omega, by omega⟩) hI) (cwV 2 hts (ax_gV T_1115 T_1117 T_1118 T_265 T_1116) rfl rfl rfl (by decide +kernel) ⟨Nat.le_of_ble_eq_true rfl, Nat.le_of_ble_eq_true rfl⟩) ⟨fun a U g mk q => ⟨q.1, s_pc rfl rfl q.2⟩, s_recv hK hP (hLK _ ha0 (by decide)) (ci := 7) rfl oY16, fun U hU hW => ⟨rfl, s_pw hU hW hP hK hD hN⟩⟩ rfl rfl hl.1 rfl (lv_room (Nat.le_of_ble_eq_true rfl)) dX7_lineTold_12 ⟨Nat.zero_le _, Nat.zero_le _⟩) hS (fun q _ h => h) (fun q h => h) (fun F95 t H1 locs ht hvm hw hB hz1 hk1 hS => ?_)
      obtain ⟨hP, hK1⟩ := hB
      rw [ht] at hP
      generalize H1 = H at hP hS ⊢
      obtain ⟨h96, h98, hI, hfr1, hzf, h97⟩ := hw
      have oY99 : F95 a0 = .inr (7, y_fl A z14 q15) := (hfr1 _ (by rw [ha0]; decide)).trans oY16
      have hfr : ∀ b, K b ∉ [9, 62, 64] → F95 b = F b := fun b hb9 => (hfr1 b (fun q => hb9 (s_sub (by decide) q))).trans (hfr b hb9)
      obtain ⟨f100, o101, b102⟩ := y_op12 hI
      have h97 : ((∀ j : Int, 0 ≤ j → j ≠ 8 * (y_c f18 387).toInt + w7.toInt → y_c f100 j = y_c f18 j) ∧ (v21.toInt = 0 → y_c f100 (8 * (y_c f18 387).toInt + w7.toInt) = (-1000000))) := by have q9 := h97; rw [y_atE o19, y_atE o101, y_fiZ oY16 (k := 5) (by decide), ← ep94_5] at q9; exact q9
      rw [h10] at h97
      have hn103 : (y_c f100 387).toInt = nn := by rw [h97.1 387 (by omega) (by omega)]; exact h10
      have hfr104 : ∀ j : Int, 0 ≤ j → (j < 8 * nn ∨ 8 * nn + 8 ≤ j) → y_c f100 j = y_c f1 j := fun j h0 h1 => (h97.1 j h0 (by omega)).trans (h11 j h0 h1)
      have h105 : w7.toInt = 0 → v21.toInt = 0 → (y_c f100 (8 * nn)).toInt = (-1000000) := fun h8 => (fun h9 => (congrArg (fun i => (y_c f100 i).toInt) (show 8 * nn = 8 * nn + w7.toInt by omega)).trans ((congrArg Int32.toInt (h97.2 h9)).trans (by decide)))
      have h106 : w7.toInt ≠ 0 → (y_c f100 (8 * nn)).toInt = (y_c f18 (8 * nn)).toInt := fun h8 => (congrArg Int32.toInt (h97.1 _ (by omega) (by omega)))
      have h107 : w7.toInt = 2 → v21.toInt = 0 → (y_c f100 (8 * nn + 2)).toInt = (-1000000) := fun h8 => (fun h9 => (congrArg (fun i => (y_c f100 i).toInt) (show 8 * nn + 2 = 8 * nn + w7.toInt by omega)).trans ((congrArg Int32.toInt (h97.2 h9)).trans (by decide)))
      have h108 : w7.toInt ≠ 2 → (y_c f100 (8 * nn + 2)).toInt = (y_c f18 (8 * nn + 2)).toInt := fun h8 => (congrArg Int32.toInt (h97.1 _ (by omega) (by omega)))
      have h109 : w7.toInt = 3 → v21.toInt = 0 → (y_c f100 (8 * nn + 3)).toInt = (-1000000) := fun h8 => (fun h9 => (congrArg (fun i => (y_c f100 i).toInt) (show 8 * nn + 3 = 8 * nn + w7.toInt by omega)).trans ((congrArg Int32.toInt (h97.2 h9)).trans (by decide)))
      have h110 : w7.toInt ≠ 3 → (y_c f100 (8 * nn + 3)).toInt = (y_c f18 (8 * nn + 3)).toInt := fun h8 => (congrArg Int32.toInt (h97.1 _ (by omega) (by omega)))
      have h111 : w7.toInt = 5 → v21.toInt = 0 → (y_c f100 (8 * nn + 5)).toInt = (-1000000) := fun h8 => (fun h9 => (congrArg (fun i => (y_c f100 i).toInt) (show 8 * nn + 5 = 8 * nn + w7.toInt by omega)).trans ((congrArg Int32.toInt (h97.2 h9)).trans (by decide)))
      have h112 : w7.toInt ≠ 5 → (y_c f100 (8 * nn + 5)).toInt = (y_c f18 (8 * nn + 5)).toInt := fun h8 => (congrArg Int32.toInt (h97.1 _ (by omega) (by omega)))
      obtain ⟨v113, ev113⟩ : ∃ y : Int32, w7 + 1 = y := ⟨_, rfl⟩
      have qv113 : v113.toInt = w7.toInt + 1 := by rw [← ev113]; exact th_add rfl (by decide) ⟨by omega, by omega⟩
      refine lv_iinc (v := v113) (lv' := [(2, .int v113), (0, .ref a0), (1, .int x1)]) hx hb dX7_lineTold_15 hl (k := 2) rfl ev113 (by decide) rfl (fun ls hl => ?_)
      refine lv_goto (tgt := 2) hx hb dX7_lineTold_18 (by decide) ?_
      exact ih2 _ _ _ _ (by omega) ⟨F95, _, v113, rfl, lv_sub hl [1, 2, 0] rfl, hP, hS, hI, hfr, (fun k hk => (y_fiZ oY99 (s_sub (by decide) hk)).trans (hz0 k hk)), ⟨by omega, by omega⟩, (by rw [y_atE o101]; exact hn103), (by rw [y_atE o101]; exact hfr104), (by rw [y_fiZ oY99 (k := 5) (by decide), ← ev21, y_atE o101]; omega), rfl⟩
  · intro g H locs hq
    obtain ⟨F118, ls, w6, rfl, hl, hP, hS, hI, hfr, hz0, h114, h115, h116, h117⟩ := hq
    obtain ⟨z119, q120, oY121, bz122⟩ := y_opY hI ha0
    have hz0 : ∀ k, k ∈ ([1, 3, 7, 8, 15, 16, 19, 25, 26, 27, 31, 32] : List Nat) → z119 k = z0 k := fun k hk => (y_fiZ oY121 (s_sub (by decide) hk)).symm.trans (hz0 k hk)
    obtain ⟨f123, o124, b125⟩ := y_op12 hI
    have h115 : (y_c f123 387).toInt = nn := by have q9 := h115; rw [y_atE o124] at q9; exact q9
    have h116 : (∀ j : Int, 0 ≤ j → (j < 8 * nn ∨ 8 * nn + 8 ≤ j) → y_c f123 j = y_c f1 j) := by have q9 := h116; rw [y_atE o124] at q9; exact q9
    obtain ⟨v126, ev126⟩ : ∃ y : Int32, y = z119 5 := ⟨_, rfl⟩
    have h117 : (v4.toInt = 0 ∧ (y_c f123 (8 * nn + 5)).toInt = -1000000 ∧ (v126.toInt = 0 → 0 ≤ w6.toInt ∧ w6.toInt ≤ 15)) := by have q9 := h117; rw [y_atE o124, y_fiZ oY121 (k := 5) (by decide), ← ev126] at q9; exact q9
    refine lv_aload_n hx hb dX7_lineTold_76 rfl (lv_at hl 0 rfl) ?_
    refine th_get (D := (dC, dI)) (ci := 7) (v := .int (z119 5)) (C := RX7) (T := TX7) (N := 34) hx hb hts inX7 hown hK hP (hLK _ ha0 (by decide)) oY121 rfl 5 (by decide) (hts _ T_274) (fun _ h9 => h9) rfl dX7_lineTold_77 ?_
    refine ax_eqi (y := v126) ev126.symm ?_
    refine lv_if_eq (tgt := 84) hx hb dX7_lineTold_80 (by decide) (fun c127 => ?_) (fun c127 => ?_)
    · have c127 := (ax_eq (n := 0) (by decide)).mp c127
      refine lv_aload_n hx hb dX7_lineTold_84 rfl (lv_at hl 0 rfl) ?_
      refine va_callv (va_runV (As := []) (rest := []) ⟨hx, hb, hml, hown, hts⟩ (y_X7_passes l dC dI H.size hLK A hA F118 a0 ha0 hI) (cwV 0 hts (ax_gV T_1257 T_1259 T_1260 T_265 T_1258) rfl rfl rfl (by decide +kernel) ⟨Nat.le_of_ble_eq_true rfl, Nat.le_of_ble_eq_true rfl⟩) ⟨fun a U g mk q => ⟨q.1, s_pc rfl rfl q.2⟩, s_recv hK hP (hLK _ ha0 (by decide)) (ci := 7) rfl oY121, fun U hU hW => ⟨rfl, s_pw hU hW hP hK hD hN⟩⟩ rfl rfl hl.1 rfl (lv_room (Nat.le_of_ble_eq_true rfl)) dX7_lineTold_85 ⟨Nat.zero_le _, Nat.zero_le _⟩) hS (fun q _ h => h) (fun q h => h) (fun F129 t H1 locs ht hvm hw hB hz1 hk1 hS => ?_)
      obtain ⟨hP, hK1⟩ := hB
      rw [ht] at hP
      generalize H1 = H at hP hS ⊢
      obtain ⟨h130, h132, hI, hfr1, hzf, h131⟩ := hw
      have o133 : F129 (A 12) = .inl (cs 0, 400, .inl f123) := (hfr1 _ (by rw [(y_k12 hA)]; decide)).trans o124
      obtain ⟨z134, q135, oY136, bz137⟩ := y_opY hI ha0
      have hzf : ∀ k, k ∈ ([1, 3, 5, 6, 7, 8, 11, 15, 16, 19, 25, 26, 27, 31, 32] : List Nat) → z134 k = z119 k := fun k hk => by have q9 := hzf k hk; rw [y_fiZ oY136 (s_sub (by decide) hk), y_fiZ oY121 (s_sub (by decide) hk)] at q9; exact q9
      have hz0 : ∀ k, k ∈ ([1, 3, 7, 8, 15, 16, 19, 25, 26, 27, 31, 32] : List Nat) → z134 k = z0 k := fun k hk => (hzf k (s_sub (by decide) hk)).trans (hz0 k hk)
      have ev126 : v126 = z134 5 := ev126.trans (hzf 5 (by decide)).symm
      have hfr : ∀ b, K b ∉ [9, 62, 64] → F129 b = F b := fun b hb9 => (hfr1 b (fun q => hb9 (s_sub (by decide) q))).trans (hfr b hb9)
      refine lv_aload_n hx hb dX7_lineTold_88 rfl (lv_at hl 0 rfl) ?_
      refine lv_iconst (v := 0) hx hb dX7_lineTold_89 (by decide) ?_
      refine lv_iload_n hx hb dX7_lineTold_90 rfl (lv_at hl 1 rfl) ?_
      have ep138_5 := ev126
      refine va_callv (va_runV (As := [.int 0, .int w6]) (rest := []) ⟨hx, hb, hml, hown, hts⟩ (y_X7_lays l dC dI H.size hLK A hA F129 a0 0 w6 ha0 (by decide) hI) (cwV 2 hts (ax_gV T_1115 T_1117 T_1118 T_265 T_1116) rfl rfl rfl (by decide +kernel) ⟨Nat.le_of_ble_eq_true rfl, Nat.le_of_ble_eq_true rfl⟩) ⟨fun a U g mk q => ⟨q.1, s_pc rfl rfl q.2⟩, s_recv hK hP (hLK _ ha0 (by decide)) (ci := 7) rfl oY136, fun U hU hW => ⟨rfl, s_pw hU hW hP hK hD hN⟩⟩ rfl rfl hl.1 rfl (lv_room (Nat.le_of_ble_eq_true rfl)) dX7_lineTold_91 ⟨Nat.zero_le _, Nat.zero_le _⟩) hS (fun q _ h => h) (fun q h => h) (fun F139 t H1 locs ht hvm hw hB hz1 hk1 hS => ?_)
      obtain ⟨hP, hK1⟩ := hB
      rw [ht] at hP
      generalize H1 = H at hP hS ⊢
      obtain ⟨h140, h142, hI, hfr1, hzf, h141⟩ := hw
      have oY143 : F139 a0 = .inr (7, y_fl A z134 q135) := (hfr1 _ (by rw [ha0]; decide)).trans oY136
      have hfr : ∀ b, K b ∉ [9, 62, 64] → F139 b = F b := fun b hb9 => (hfr1 b (fun q => hb9 (s_sub (by decide) q))).trans (hfr b hb9)
      obtain ⟨f144, o145, b146⟩ := y_op12 hI
      have h141 : ((∀ j : Int, 0 ≤ j → j ≠ 8 * (y_c f123 387).toInt + 0 → y_c f144 j = y_c f123 j) ∧ (v126.toInt = 0 → y_c f144 (8 * (y_c f123 387).toInt + 0) = w6)) := by have q9 := h141; rw [y_atE o133, y_atE o145, y_fiZ oY136 (k := 5) (by decide), ← ep138_5] at q9; exact q9
      rw [h115] at h141
      have hn147 : (y_c f144 387).toInt = nn := by rw [h141.1 387 (by omega) (by omega)]; exact h115
      have hfr148 : ∀ j : Int, 0 ≤ j → (j < 8 * nn ∨ 8 * nn + 8 ≤ j) → y_c f144 j = y_c f1 j := fun j h0 h1 => (h141.1 j h0 (by omega)).trans (h116 j h0 h1)
      have h149 : v126.toInt = 0 → (y_c f144 (8 * nn)).toInt = w6.toInt := (fun h9 => (congrArg (fun i => (y_c f144 i).toInt) (show 8 * nn = 8 * nn + 0 by omega)).trans ((congrArg Int32.toInt (h141.2 h9)).trans rfl))
      have h150 : (y_c f144 (8 * nn + 2)).toInt = (y_c f123 (8 * nn + 2)).toInt := (congrArg Int32.toInt (h141.1 _ (by omega) (by omega)))
      have h151 : (y_c f144 (8 * nn + 3)).toInt = (y_c f123 (8 * nn + 3)).toInt := (congrArg Int32.toInt (h141.1 _ (by omega) (by omega)))
      have h152 : (y_c f144 (8 * nn + 5)).toInt = (y_c f123 (8 * nn + 5)).toInt := (congrArg Int32.toInt (h141.1 _ (by omega) (by omega)))
      refine lv_iload_n hx hb dX7_lineTold_94 rfl (lv_at hl 1 rfl) ?_
      have h153 : 0 ≤ w6.toInt ∧ w6.toInt ≤ 15 := ⟨by omega, by omega⟩
      refine va_calli (va_runS (As := [.int w6]) (rest := []) ⟨hx, hb, hml, hown, hts⟩ (y_X7_hasRegister l dC dI H.size F139 w6 (⟨by omega, by omega⟩)) (cwS 1 hts (ax_gS T_1261 T_1263 T_265 T_1262) rfl rfl rfl (by decide +kernel) ⟨Nat.le_of_ble_eq_true rfl, Nat.le_of_ble_eq_true rfl⟩) ⟨fun a U g mk q => ⟨q.1, s_pc rfl rfl q.2⟩, fun U hU hW => ⟨rfl, s_pw hU hW hP hK hD hN⟩⟩ rfl rfl hl.1 rfl (lv_room (Nat.le_of_ble_eq_true rfl)) dX7_lineTold_95 ⟨Nat.zero_le _, Nat.zero_le _⟩) hS (fun q _ h => h) (fun q h => h) (fun r155 F156 t H1 locs ht hvm hw hB hz1 hk1 hS => ?_)
      obtain ⟨hP, hK1⟩ := hB
      rw [ht] at hP
      generalize H1 = H at hP hS ⊢
      obtain ⟨h157, h159, hG9, h158⟩ := hw
      rw [hG9] at hP
      refine lv_if_eq (tgt := 110) hx hb dX7_lineTold_98 (by decide) (fun c160 => ?_) (fun c160 => ?_)
      · have c160 := (ax_eq (n := 0) (by decide)).mp c160
        exact K110 _ _ _ ⟨F139, _, w6, rfl, lv_sub hl [0, 1] rfl, hP, hS, hI, hfr, (fun k hk => (y_fiZ oY143 (s_sub (by decide) hk)).trans (hz0 k hk)), trivial, (by rw [y_atE o145]; exact hn147), (by rw [y_atE o145]; exact hfr148), (by rw [y_atE o145, y_fiZ oY143 (k := 5) (by decide), ← ev126]; omega)⟩
      · have c160 := mt (ax_eq (n := 0) (by decide)).mpr c160
        have h161 := h159 (fun q => c160 (by rw [q]; decide))
        refine lv_aload_n hx hb dX7_lineTold_101 rfl (lv_at hl 0 rfl) ?_
        refine lv_iconst (v := 1) hx hb dX7_lineTold_102 (by decide) ?_
        refine lv_aload_n hx hb dX7_lineTold_103 rfl (lv_at hl 0 rfl) ?_
        have ep162_5 := ev126
        refine va_calli (va_runV (As := []) (rest := [.int 1, .ref a0]) ⟨hx, hb, hml, hown, hts⟩ (y_X7_registerTold l dC dI H.size hLK A hA F139 a0 ha0 hI) (cwV 0 hts (ax_gV T_1264 T_1266 T_1267 T_265 T_1265) rfl rfl rfl (by decide +kernel) ⟨Nat.le_of_ble_eq_true rfl, Nat.le_of_ble_eq_true rfl⟩) ⟨fun a U g mk q => ⟨q.1, s_pc rfl rfl q.2⟩, s_recv hK hP (hLK _ ha0 (by decide)) (ci := 7) rfl oY143, fun U hU hW => ⟨rfl, s_pw hU hW hP hK hD hN⟩⟩ rfl rfl hl.1 rfl (lv_room (Nat.le_of_ble_eq_true rfl)) dX7_lineTold_104 ⟨Nat.zero_le _, Nat.zero_le _⟩) hS (fun q _ h => h) (fun q h => h) (fun r163 F164 t H1 locs ht hvm hw hB hz1 hk1 hS => ?_)
        obtain ⟨hP, hK1⟩ := hB
        rw [ht] at hP
        generalize H1 = H at hP hS ⊢
        obtain ⟨h165, h167, hI, hfr1, hzf, h166⟩ := hw
        have o168 : F164 (A 12) = .inl (cs 0, 400, .inl f144) := (hfr1 _ (by rw [(y_k12 hA)]; decide)).trans o145
        obtain ⟨z169, q170, oY171, bz172⟩ := y_opY hI ha0
        have hzf : ∀ k, k ∈ ([1, 3, 7, 8, 11, 15, 16, 19, 25, 26, 27, 31, 32] : List Nat) → z169 k = z134 k := fun k hk => by have q9 := hzf k hk; rw [y_fiZ oY171 (s_sub (by decide) hk), y_fiZ oY143 (s_sub (by decide) hk)] at q9; exact q9
        have hz0 : ∀ k, k ∈ ([1, 3, 7, 8, 15, 16, 19, 25, 26, 27, 31, 32] : List Nat) → z169 k = z0 k := fun k hk => (hzf k (s_sub (by decide) hk)).trans (hz0 k hk)
        have hfr : ∀ b, K b ∉ [9, 62, 64] → F164 b = F b := fun b hb9 => (hfr1 b (fun q => hb9 (s_sub (by decide) q))).trans (hfr b hb9)
        obtain ⟨v173, ev173⟩ : ∃ y : Int32, y = z169 5 := ⟨_, rfl⟩
        have h166 : ((v126.toInt = 0 ∨ ¬ v173.toInt = 0) ∧ (v173.toInt = 0 → 0 ≤ r163.toInt ∧ r163.toInt ≤ 3)) := by have q9 := h166; rw [y_fiZ oY143 (k := 5) (by decide), ← ep162_5, y_fiZ oY171 (k := 5) (by decide), ← ev173] at q9; exact q9
        have ep174_5 := ev173
        refine va_callv (va_runV (As := [.int 1, .int r163]) (rest := []) ⟨hx, hb, hml, hown, hts⟩ (y_X7_lays l dC dI H.size hLK A hA F164 a0 1 r163 ha0 (by decide) hI) (cwV 2 hts (ax_gV T_1115 T_1117 T_1118 T_265 T_1116) rfl rfl rfl (by decide +kernel) ⟨Nat.le_of_ble_eq_true rfl, Nat.le_of_ble_eq_true rfl⟩) ⟨fun a U g mk q => ⟨q.1, s_pc rfl rfl q.2⟩, s_recv hK hP (hLK _ ha0 (by decide)) (ci := 7) rfl oY171, fun U hU hW => ⟨rfl, s_pw hU hW hP hK hD hN⟩⟩ rfl rfl hl.1 rfl (lv_room (Nat.le_of_ble_eq_true rfl)) dX7_lineTold_107 ⟨Nat.zero_le _, Nat.zero_le _⟩) hS (fun q _ h => h) (fun q h => h) (fun F175 t H1 locs ht hvm hw hB hz1 hk1 hS => ?_)
        obtain ⟨hP, hK1⟩ := hB
        rw [ht] at hP
        generalize H1 = H at hP hS ⊢
        obtain ⟨h176, h178, hI, hfr1, hzf, h177⟩ := hw
        have oY179 : F175 a0 = .inr (7, y_fl A z169 q170) := (hfr1 _ (by rw [ha0]; decide)).trans oY171
        have hfr : ∀ b, K b ∉ [9, 62, 64] → F175 b = F b := fun b hb9 => (hfr1 b (fun q => hb9 (s_sub (by decide) q))).trans (hfr b hb9)
        obtain ⟨f180, o181, b182⟩ := y_op12 hI
        have h177 : ((∀ j : Int, 0 ≤ j → j ≠ 8 * (y_c f144 387).toInt + 1 → y_c f180 j = y_c f144 j) ∧ (v173.toInt = 0 → y_c f180 (8 * (y_c f144 387).toInt + 1) = r163)) := by have q9 := h177; rw [y_atE o168, y_atE o181, y_fiZ oY171 (k := 5) (by decide), ← ep174_5] at q9; exact q9
        rw [hn147] at h177
        have hn183 : (y_c f180 387).toInt = nn := by rw [h177.1 387 (by omega) (by omega)]; exact hn147
        have hfr184 : ∀ j : Int, 0 ≤ j → (j < 8 * nn ∨ 8 * nn + 8 ≤ j) → y_c f180 j = y_c f1 j := fun j h0 h1 => (h177.1 j h0 (by omega)).trans (hfr148 j h0 h1)
        have h185 : (y_c f180 (8 * nn)).toInt = (y_c f144 (8 * nn)).toInt := (congrArg Int32.toInt (h177.1 _ (by omega) (by omega)))
        have h186 : (y_c f180 (8 * nn + 2)).toInt = (y_c f144 (8 * nn + 2)).toInt := (congrArg Int32.toInt (h177.1 _ (by omega) (by omega)))
        have h187 : (y_c f180 (8 * nn + 3)).toInt = (y_c f144 (8 * nn + 3)).toInt := (congrArg Int32.toInt (h177.1 _ (by omega) (by omega)))
        have h188 : (y_c f180 (8 * nn + 5)).toInt = (y_c f144 (8 * nn + 5)).toInt := (congrArg Int32.toInt (h177.1 _ (by omega) (by omega)))
        exact K110 _ _ _ ⟨F175, _, w6, rfl, lv_sub hl [0, 1] rfl, hP, hS, hI, hfr, (fun k hk => (y_fiZ oY179 (s_sub (by decide) hk)).trans (hz0 k hk)), trivial, (by rw [y_atE o181]; exact hn183), (by rw [y_atE o181]; exact hfr184), (by rw [y_atE o181, y_fiZ oY179 (k := 5) (by decide), ← ev173]; omega)⟩
    · have c127 := mt (ax_eq (n := 0) (by decide)).mpr c127
      exact W.vret hx hb hr (fun t ht hW => ⟨⟨F118, rfl, ⟨trivial, trivial, hI, hfr, fun k hk => (y_fiZ oY121 (s_sub (by decide) hk)).trans ((hz0 k hk).trans (y_fiZ oY0 (s_sub (by decide) hk)).symm), (by rw [y_fiZ oY0 (k := 5) (by decide), ← eF_5, y_fiZ oY121 (k := 5) (by decide), ← ev126, y_atE o2, y_atE o124]; rw [← hnn]; exact ⟨by omega, (fun j h0 h1 => h116 j h0 (by omega)), (fun j h0 h1 => h116 j (by omega) (by omega)), fun q => absurd q (by omega)⟩)⟩, by rw [ht]; exact hP, va_K.moved hW.alike hK⟩, hS.F ht⟩) hS.2.2 dX7_lineTold_83
  · intro g H locs hq
    obtain ⟨F193, ls, w5, rfl, hl, hP, hS, hI, hfr, hz0, h189, h190, h191, h192⟩ := hq
    obtain ⟨z194, q195, oY196, bz197⟩ := y_opY hI ha0
    have hz0 : ∀ k, k ∈ ([1, 3, 7, 8, 15, 16, 19, 25, 26, 27, 31, 32] : List Nat) → z194 k = z0 k := fun k hk => (y_fiZ oY196 (s_sub (by decide) hk)).symm.trans (hz0 k hk)
    obtain ⟨f198, o199, b200⟩ := y_op12 hI
    have h190 : (y_c f198 387).toInt = nn := by have q9 := h190; rw [y_atE o199] at q9; exact q9
    have h191 : (∀ j : Int, 0 ≤ j → (j < 8 * nn ∨ 8 * nn + 8 ≤ j) → y_c f198 j = y_c f1 j) := by have q9 := h191; rw [y_atE o199] at q9; exact q9
    obtain ⟨v201, ev201⟩ : ∃ y : Int32, y = z194 5 := ⟨_, rfl⟩
    have h192 : ((v4.toInt = 0 ∧ 0 ≤ w5.toInt ∧ w5.toInt ≤ 15) ∧ (y_c f198 (8 * nn + 5)).toInt = -1000000 ∧ (v201.toInt = 0 → (y_c f198 (8 * nn)).toInt = w5.toInt)) := by have q9 := h192; rw [y_atE o199, y_fiZ oY196 (k := 5) (by decide), ← ev201] at q9; exact q9
    refine lv_iconst (v := 0) hx hb dX7_lineTold_110 (by decide) ?_
    refine lv_istore_n (lv' := [(3, .int 0), (0, .ref a0), (2, .int w5)]) hx hb dX7_lineTold_111 rfl hl (by decide) rfl (fun ls hl => ?_)
    have h203 : (0 : Int32).toInt = 0 := by decide
    refine th_loop (fun n g H locs => ∃ (G : Nat → va_E) (ls : Array Slot) (w202 : Int32), g = F0 m 112 ls [] ∧ lv_has ls 4 [(0, .ref a0), (2, .int w5), (3, .int w202)] ∧ va_P (dC, dI) vwCl (va_pl L G) H ∧ va_S (fun q => q ∈ L) s.heap H locs ∧ y_I K cs A G ∧ (∀ b, K b ∉ [9, 62, 64] → G b = F b) ∧ (∀ k, k ∈ ([1, 3, 7, 8, 15, 16, 19, 25, 26, 27, 31, 32] : List Nat) → y_fi G a0 k = z0 k) ∧ (0 ≤ w202.toInt ∧ w202.toInt ≤ 2) ∧ (y_c (y_at G (A 12)) 387).toInt = nn ∧ (∀ j : Int, 0 ≤ j → (j < 8 * nn ∨ 8 * nn + 8 ≤ j) → y_c (y_at G (A 12)) j = y_c f1 j) ∧ ((v4.toInt = 0 ∧ 0 ≤ w5.toInt ∧ w5.toInt ≤ 15) ∧ (y_c (y_at G (A 12)) (8 * nn + 5)).toInt = -1000000 ∧ ((y_fi G a0 5).toInt = 0 → (y_c (y_at G (A 12)) (8 * nn)).toInt = w5.toInt ∧ (w202.toInt = 0 ∨ -4 ≤ (y_c (y_at G (A 12)) (8 * nn + 2)).toInt) ∧ (w202.toInt ≤ 1 ∨ -4 ≤ (y_c (y_at G (A 12)) (8 * nn + 3)).toInt))) ∧ n = (3 - w202.toInt).toNat) _ ⟨F193, _, 0, rfl, lv_sub hl [1, 2, 0] rfl, hP, hS, hI, hfr, (fun k hk => (y_fiZ oY196 (s_sub (by decide) hk)).trans (hz0 k hk)), (by decide), (by rw [y_atE o199]; exact h190), (by rw [y_atE o199]; exact h191), (by rw [y_atE o199, y_fiZ oY196 (k := 5) (by decide), ← ev201]; omega), rfl⟩ (fun n ih112 g H locs hq => ?_)
    obtain ⟨F208, ls, w202, rfl, hl, hP, hS, hI, hfr, hz0, h204, h205, h206, h207, hn⟩ := hq
    obtain ⟨z209, q210, oY211, bz212⟩ := y_opY hI ha0
    have hz0 : ∀ k, k ∈ ([1, 3, 7, 8, 15, 16, 19, 25, 26, 27, 31, 32] : List Nat) → z209 k = z0 k := fun k hk => (y_fiZ oY211 (s_sub (by decide) hk)).symm.trans (hz0 k hk)
    obtain ⟨f213, o214, b215⟩ := y_op12 hI
    have h205 : (y_c f213 387).toInt = nn := by have q9 := h205; rw [y_atE o214] at q9; exact q9
    have h206 : (∀ j : Int, 0 ≤ j → (j < 8 * nn ∨ 8 * nn + 8 ≤ j) → y_c f213 j = y_c f1 j) := by have q9 := h206; rw [y_atE o214] at q9; exact q9
    obtain ⟨v216, ev216⟩ : ∃ y : Int32, y = z209 5 := ⟨_, rfl⟩
    have h207 : ((v4.toInt = 0 ∧ 0 ≤ w5.toInt ∧ w5.toInt ≤ 15) ∧ (y_c f213 (8 * nn + 5)).toInt = -1000000 ∧ (v216.toInt = 0 → (y_c f213 (8 * nn)).toInt = w5.toInt ∧ (w202.toInt = 0 ∨ -4 ≤ (y_c f213 (8 * nn + 2)).toInt) ∧ (w202.toInt ≤ 1 ∨ -4 ≤ (y_c f213 (8 * nn + 3)).toInt))) := by have q9 := h207; rw [y_atE o214, y_fiZ oY211 (k := 5) (by decide), ← ev216] at q9; exact q9
    have hn_216 := hn
    refine lv_iload_n hx hb dX7_lineTold_112 rfl (lv_at hl 2 rfl) ?_
    refine lv_iload_n hx hb dX7_lineTold_113 rfl (lv_at hl 1 rfl) ?_
    have h217 : 0 ≤ w5.toInt ∧ w5.toInt ≤ 15 := ⟨by omega, by omega⟩
    refine va_calli (va_runS (As := [.int w5]) (rest := [.int w202]) ⟨hx, hb, hml, hown, hts⟩ (y_X7_partsOf l dC dI H.size F208 w5 (⟨by omega, by omega⟩)) (cwS 1 hts (ax_gS T_1197 T_1199 T_265 T_1198) rfl rfl rfl (by decide +kernel) ⟨Nat.le_of_ble_eq_true rfl, Nat.le_of_ble_eq_true rfl⟩) ⟨fun a U g mk q => ⟨q.1, s_pc rfl rfl q.2⟩, fun U hU hW => ⟨rfl, s_pw hU hW hP hK hD hN⟩⟩ rfl rfl hl.1 rfl (lv_room (Nat.le_of_ble_eq_true rfl)) dX7_lineTold_114 ⟨Nat.zero_le _, Nat.zero_le _⟩) hS (fun q _ h => h) (fun q h => h) (fun r219 F220 t H1 locs ht hvm hw hB hz1 hk1 hS => ?_)
    obtain ⟨hP, hK1⟩ := hB
    rw [ht] at hP
    generalize H1 = H at hP hS ⊢
    obtain ⟨h221, h223, hG9, h222⟩ := hw
    rw [hG9] at hP
    have h222 : ((r219.toInt = 0 ∧ (w5.toInt = 5 ∨ w5.toInt = 6 ∨ 12 ≤ w5.toInt)) ∨ (r219.toInt = 1 ∧ (w5.toInt = 0 ∨ w5.toInt = 7 ∨ w5.toInt = 9 ∨ w5.toInt = 11)) ∨ (r219.toInt = 2 ∧ ((1 ≤ w5.toInt ∧ w5.toInt ≤ 4) ∨ w5.toInt = 8 ∨ w5.toInt = 10))) := by have q9 := h222; exact q9
    refine lv_icmp_ge (tgt := 137) hx hb dX7_lineTold_117 (by decide) (fun c224 => ?_) (fun c224 => ?_)
    · have c224 := Int32.le_iff_toInt_le.mp c224
      refine lv_iload_n hx hb dX7_lineTold_137 rfl (lv_at hl 1 rfl) ?_
      refine lv_bipush (v := 12) hx hb dX7_lineTold_138 (by decide) ?_
      refine lv_icmp_ne (tgt := 147) hx hb dX7_lineTold_140 (by decide) (fun c225 => ?_) (fun c225 => ?_)
      · have c225 := mt (ax_eq (n := 12) (by decide)).mpr c225
        exact K147 _ _ _ ⟨F208, _, rfl, lv_sub hl [0] rfl, hP, hS, hI, hfr, (fun k hk => (y_fiZ oY211 (s_sub (by decide) hk)).trans (hz0 k hk)), (by rw [y_atE o214]; exact h205), (by rw [y_atE o214]; exact h206), (by rw [y_fiZ oY211 (k := 5) (by decide), ← ev216, y_atE o214]; omega), (by omega)⟩
      · have c225 := (ax_eq (n := 12) (by decide)).mp c225
        refine lv_aload_n hx hb dX7_lineTold_143 rfl (lv_at hl 0 rfl) ?_
        have ep226_5 := ev216
        refine va_callv (va_runV (As := []) (rest := []) ⟨hx, hb, hml, hown, hts⟩ (y_X7_goTold l dC dI H.size hLK A hA F208 a0 ha0 hI (by rw [y_atE o214]; rw [h205]; exact ⟨by omega, by omega⟩)) (cwV 0 hts (ax_gV T_1268 T_1270 T_1271 T_265 T_1269) rfl rfl rfl (by decide +kernel) ⟨Nat.le_of_ble_eq_true rfl, Nat.le_of_ble_eq_true rfl⟩) ⟨fun a U g mk q => ⟨q.1, s_pc rfl rfl q.2⟩, s_recv hK hP (hLK _ ha0 (by decide)) (ci := 7) rfl oY211, fun U hU hW => ⟨rfl, s_pw hU hW hP hK hD hN⟩⟩ rfl rfl hl.1 rfl (lv_room (Nat.le_of_ble_eq_true rfl)) dX7_lineTold_144 ⟨Nat.zero_le _, Nat.zero_le _⟩) hS (fun q _ h => h) (fun q h => h) (fun F227 t H1 locs ht hvm hw hB hz1 hk1 hS => ?_)
        obtain ⟨hP, hK1⟩ := hB
        rw [ht] at hP
        generalize H1 = H at hP hS ⊢
        obtain ⟨h228, h230, hI, hfr1, hzf, h229⟩ := hw
        obtain ⟨z231, q232, oY233, bz234⟩ := y_opY hI ha0
        have hzf : ∀ k, k ∈ ([1, 3, 7, 8, 15, 16, 19, 25, 26, 27, 31, 32] : List Nat) → z231 k = z209 k := fun k hk => by have q9 := hzf k hk; rw [y_fiZ oY233 (s_sub (by decide) hk), y_fiZ oY211 (s_sub (by decide) hk)] at q9; exact q9
        have hz0 : ∀ k, k ∈ ([1, 3, 7, 8, 15, 16, 19, 25, 26, 27, 31, 32] : List Nat) → z231 k = z0 k := fun k hk => (hzf k (s_sub (by decide) hk)).trans (hz0 k hk)
        have hfr : ∀ b, K b ∉ [9, 62, 64] → F227 b = F b := fun b hb9 => (hfr1 b (fun q => hb9 (s_sub (by decide) q))).trans (hfr b hb9)
        obtain ⟨v235, ev235⟩ : ∃ y : Int32, y = z231 5 := ⟨_, rfl⟩
        obtain ⟨f236, o237, b238⟩ := y_op12 hI
        have h229 : ((v216.toInt = 0 ∨ ¬ v235.toInt = 0) ∧ (∀ j : Int, 0 ≤ j → (j < 8 * (y_c f213 387).toInt ∨ 8 * (y_c f213 387).toInt + 8 ≤ j) → y_c f236 j = y_c f213 j) ∧ (y_c f236 (8 * (y_c f213 387).toInt)).toInt = (y_c f213 (8 * (y_c f213 387).toInt)).toInt ∧ (v235.toInt = 0 → (y_c f236 (8 * (y_c f213 387).toInt + 5)).toInt = -1000000 ∨ (-4 ≤ (y_c f236 (8 * (y_c f213 387).toInt + 2)).toInt ∧ -4 ≤ (y_c f236 (8 * (y_c f213 387).toInt + 3)).toInt))) := by have q9 := h229; rw [y_fiZ oY211 (k := 5) (by decide), ← ep226_5, y_fiZ oY233 (k := 5) (by decide), ← ev235, y_atE o214, y_atE o237] at q9; exact q9
        rw [h205] at h229
        obtain ⟨hg1, hg2, hg3, hg4⟩ := h229
        have hn239 : (y_c f236 387).toInt = nn := by rw [hg2 387 (by omega) (by omega)]; exact h205
        have hfr240 : ∀ j : Int, 0 ≤ j → (j < 8 * nn ∨ 8 * nn + 8 ≤ j) → y_c f236 j = y_c f1 j := fun j h0 h1 => (hg2 j h0 h1).trans (h206 j h0 h1)
        exact K147 _ _ _ ⟨F227, _, rfl, lv_sub hl [0] rfl, hP, hS, hI, hfr, (fun k hk => (y_fiZ oY233 (s_sub (by decide) hk)).trans (hz0 k hk)), (by rw [y_atE o237]; exact hn239), (by rw [y_atE o237]; exact hfr240), (by rw [y_fiZ oY233 (k := 5) (by decide), ← ev235, y_atE o237]; omega), (by omega)⟩
    · have c224 := mt Int32.le_iff_toInt_le.mpr c224
      refine lv_aload_n hx hb dX7_lineTold_120 rfl (lv_at hl 0 rfl) ?_
      refine lv_iconst (v := 2) hx hb dX7_lineTold_121 (by decide) ?_
      refine lv_iload_n hx hb dX7_lineTold_122 rfl (lv_at hl 2 rfl) ?_
      refine lv_iadd hx hb dX7_lineTold_123 ?_
      refine lv_topi (fun v241 ev241 => ?_)
      have qv241 : v241.toInt = 2 + w202.toInt := by rw [ev241]; exact th_add (by decide) rfl ⟨by omega, by omega⟩
      refine lv_aload_n hx hb dX7_lineTold_124 rfl (lv_at hl 0 rfl) ?_
      have ep242_5 := ev216
      refine va_calli (va_runV (As := []) (rest := [.int v241, .ref a0]) ⟨hx, hb, hml, hown, hts⟩ (y_X7_partTold l dC dI H.size hLK A hA F208 a0 ha0 hI) (cwV 0 hts (ax_gV T_1119 T_1121 T_1122 T_265 T_1120) rfl rfl rfl (by decide +kernel) ⟨Nat.le_of_ble_eq_true rfl, Nat.le_of_ble_eq_true rfl⟩) ⟨fun a U g mk q => ⟨q.1, s_pc rfl rfl q.2⟩, s_recv hK hP (hLK _ ha0 (by decide)) (ci := 7) rfl oY211, fun U hU hW => ⟨rfl, s_pw hU hW hP hK hD hN⟩⟩ rfl rfl hl.1 rfl (lv_room (Nat.le_of_ble_eq_true rfl)) dX7_lineTold_125 ⟨Nat.zero_le _, Nat.zero_le _⟩) hS (fun q _ h => h) (fun q h => h) (fun r243 F244 t H1 locs ht hvm hw hB hz1 hk1 hS => ?_)
      obtain ⟨hP, hK1⟩ := hB
      rw [ht] at hP
      generalize H1 = H at hP hS ⊢
      obtain ⟨h245, h247, hI, hfr1, hzf, h246⟩ := hw
      have o248 : F244 (A 12) = .inl (cs 0, 400, .inl f213) := (hfr1 _ (by rw [(y_k12 hA)]; decide)).trans o214
      obtain ⟨z249, q250, oY251, bz252⟩ := y_opY hI ha0
      have hzf : ∀ k, k ∈ ([1, 3, 7, 8, 11, 15, 16, 19, 25, 26, 27, 31, 32] : List Nat) → z249 k = z209 k := fun k hk => by have q9 := hzf k hk; rw [y_fiZ oY251 (s_sub (by decide) hk), y_fiZ oY211 (s_sub (by decide) hk)] at q9; exact q9
      have hz0 : ∀ k, k ∈ ([1, 3, 7, 8, 15, 16, 19, 25, 26, 27, 31, 32] : List Nat) → z249 k = z0 k := fun k hk => (hzf k (s_sub (by decide) hk)).trans (hz0 k hk)
      have hfr : ∀ b, K b ∉ [9, 62, 64] → F244 b = F b := fun b hb9 => (hfr1 b (fun q => hb9 (s_sub (by decide) q))).trans (hfr b hb9)
      obtain ⟨v253, ev253⟩ : ∃ y : Int32, y = z249 5 := ⟨_, rfl⟩
      have h246 : ((v216.toInt = 0 ∨ ¬ v253.toInt = 0) ∧ (v253.toInt = 0 → -4 ≤ r243.toInt ∧ r243.toInt ≤ 999)) := by have q9 := h246; rw [y_fiZ oY211 (k := 5) (by decide), ← ep242_5, y_fiZ oY251 (k := 5) (by decide), ← ev253] at q9; exact q9
      have ep254_5 := ev253
      refine va_callv (va_runV (As := [.int v241, .int r243]) (rest := []) ⟨hx, hb, hml, hown, hts⟩ (y_X7_lays l dC dI H.size hLK A hA F244 a0 v241 r243 ha0 (⟨by omega, by omega⟩) hI) (cwV 2 hts (ax_gV T_1115 T_1117 T_1118 T_265 T_1116) rfl rfl rfl (by decide +kernel) ⟨Nat.le_of_ble_eq_true rfl, Nat.le_of_ble_eq_true rfl⟩) ⟨fun a U g mk q => ⟨q.1, s_pc rfl rfl q.2⟩, s_recv hK hP (hLK _ ha0 (by decide)) (ci := 7) rfl oY251, fun U hU hW => ⟨rfl, s_pw hU hW hP hK hD hN⟩⟩ rfl rfl hl.1 rfl (lv_room (Nat.le_of_ble_eq_true rfl)) dX7_lineTold_128 ⟨Nat.zero_le _, Nat.zero_le _⟩) hS (fun q _ h => h) (fun q h => h) (fun F255 t H1 locs ht hvm hw hB hz1 hk1 hS => ?_)
      obtain ⟨hP, hK1⟩ := hB
      rw [ht] at hP
      generalize H1 = H at hP hS ⊢
      obtain ⟨h256, h258, hI, hfr1, hzf, h257⟩ := hw
      have oY259 : F255 a0 = .inr (7, y_fl A z249 q250) := (hfr1 _ (by rw [ha0]; decide)).trans oY251
      have hfr : ∀ b, K b ∉ [9, 62, 64] → F255 b = F b := fun b hb9 => (hfr1 b (fun q => hb9 (s_sub (by decide) q))).trans (hfr b hb9)
      obtain ⟨f260, o261, b262⟩ := y_op12 hI
      have h257 : ((∀ j : Int, 0 ≤ j → j ≠ 8 * (y_c f213 387).toInt + v241.toInt → y_c f260 j = y_c f213 j) ∧ (v253.toInt = 0 → y_c f260 (8 * (y_c f213 387).toInt + v241.toInt) = r243)) := by have q9 := h257; rw [y_atE o248, y_atE o261, y_fiZ oY251 (k := 5) (by decide), ← ep254_5] at q9; exact q9
      rw [h205] at h257
      have hn263 : (y_c f260 387).toInt = nn := by rw [h257.1 387 (by omega) (by omega)]; exact h205
      have hfr264 : ∀ j : Int, 0 ≤ j → (j < 8 * nn ∨ 8 * nn + 8 ≤ j) → y_c f260 j = y_c f1 j := fun j h0 h1 => (h257.1 j h0 (by omega)).trans (h206 j h0 h1)
      have h265 : v241.toInt = 0 → v253.toInt = 0 → (y_c f260 (8 * nn)).toInt = r243.toInt := fun h8 => (fun h9 => (congrArg (fun i => (y_c f260 i).toInt) (show 8 * nn = 8 * nn + v241.toInt by omega)).trans ((congrArg Int32.toInt (h257.2 h9)).trans rfl))
      have h266 : v241.toInt ≠ 0 → (y_c f260 (8 * nn)).toInt = (y_c f213 (8 * nn)).toInt := fun h8 => (congrArg Int32.toInt (h257.1 _ (by omega) (by omega)))
      have h267 : v241.toInt = 2 → v253.toInt = 0 → (y_c f260 (8 * nn + 2)).toInt = r243.toInt := fun h8 => (fun h9 => (congrArg (fun i => (y_c f260 i).toInt) (show 8 * nn + 2 = 8 * nn + v241.toInt by omega)).trans ((congrArg Int32.toInt (h257.2 h9)).trans rfl))
      have h268 : v241.toInt ≠ 2 → (y_c f260 (8 * nn + 2)).toInt = (y_c f213 (8 * nn + 2)).toInt := fun h8 => (congrArg Int32.toInt (h257.1 _ (by omega) (by omega)))
      have h269 : v241.toInt = 3 → v253.toInt = 0 → (y_c f260 (8 * nn + 3)).toInt = r243.toInt := fun h8 => (fun h9 => (congrArg (fun i => (y_c f260 i).toInt) (show 8 * nn + 3 = 8 * nn + v241.toInt by omega)).trans ((congrArg Int32.toInt (h257.2 h9)).trans rfl))
      have h270 : v241.toInt ≠ 3 → (y_c f260 (8 * nn + 3)).toInt = (y_c f213 (8 * nn + 3)).toInt := fun h8 => (congrArg Int32.toInt (h257.1 _ (by omega) (by omega)))
      have h271 : v241.toInt = 5 → v253.toInt = 0 → (y_c f260 (8 * nn + 5)).toInt = r243.toInt := fun h8 => (fun h9 => (congrArg (fun i => (y_c f260 i).toInt) (show 8 * nn + 5 = 8 * nn + v241.toInt by omega)).trans ((congrArg Int32.toInt (h257.2 h9)).trans rfl))
      have h272 : v241.toInt ≠ 5 → (y_c f260 (8 * nn + 5)).toInt = (y_c f213 (8 * nn + 5)).toInt := fun h8 => (congrArg Int32.toInt (h257.1 _ (by omega) (by omega)))
      obtain ⟨v273, ev273⟩ : ∃ y : Int32, w202 + 1 = y := ⟨_, rfl⟩
      have qv273 : v273.toInt = w202.toInt + 1 := by rw [← ev273]; exact th_add rfl (by decide) ⟨by omega, by omega⟩
      refine lv_iinc (v := v273) (lv' := [(3, .int v273), (0, .ref a0), (2, .int w5)]) hx hb dX7_lineTold_131 hl (k := 2) rfl ev273 (by decide) rfl (fun ls hl => ?_)
      refine lv_goto (tgt := 112) hx hb dX7_lineTold_134 (by decide) ?_
      exact ih112 _ _ _ _ (by omega) ⟨F255, _, v273, rfl, lv_sub hl [1, 2, 0] rfl, hP, hS, hI, hfr, (fun k hk => (y_fiZ oY259 (s_sub (by decide) hk)).trans (hz0 k hk)), ⟨by omega, by omega⟩, (by rw [y_atE o261]; exact hn263), (by rw [y_atE o261]; exact hfr264), (by rw [y_atE o261, y_fiZ oY259 (k := 5) (by decide), ← ev253]; omega), rfl⟩
  · intro g H locs hq
    obtain ⟨F278, ls, rfl, hl, hP, hS, hI, hfr, hz0, h274, h275, h276, h277⟩ := hq
    obtain ⟨z279, q280, oY281, bz282⟩ := y_opY hI ha0
    have hz0 : ∀ k, k ∈ ([1, 3, 7, 8, 15, 16, 19, 25, 26, 27, 31, 32] : List Nat) → z279 k = z0 k := fun k hk => (y_fiZ oY281 (s_sub (by decide) hk)).symm.trans (hz0 k hk)
    obtain ⟨f283, o284, b285⟩ := y_op12 hI
    have h274 : (y_c f283 387).toInt = nn := by have q9 := h274; rw [y_atE o284] at q9; exact q9
    have h275 : (∀ j : Int, 0 ≤ j → (j < 8 * nn ∨ 8 * nn + 8 ≤ j) → y_c f283 j = y_c f1 j) := by have q9 := h275; rw [y_atE o284] at q9; exact q9
    obtain ⟨v286, ev286⟩ : ∃ y : Int32, y = z279 5 := ⟨_, rfl⟩
    have h276 : (v286.toInt = 0 → (0 ≤ (y_c f283 (8 * nn)).toInt ∧ (y_c f283 (8 * nn)).toInt ≤ 15) ∧ (((y_c f283 (8 * nn)).toInt = 5 ∨ (y_c f283 (8 * nn)).toInt = 6 ∨ 12 ≤ (y_c f283 (8 * nn)).toInt) ∨ -4 ≤ (y_c f283 (8 * nn + 2)).toInt) ∧ (((y_c f283 (8 * nn)).toInt = 5 ∨ (y_c f283 (8 * nn)).toInt = 6 ∨ 12 ≤ (y_c f283 (8 * nn)).toInt ∨ (y_c f283 (8 * nn)).toInt = 0 ∨ (y_c f283 (8 * nn)).toInt = 7 ∨ (y_c f283 (8 * nn)).toInt = 9 ∨ (y_c f283 (8 * nn)).toInt = 11) ∨ -4 ≤ (y_c f283 (8 * nn + 3)).toInt) ∧ ((y_c f283 (8 * nn)).toInt ≠ 12 ∨ (y_c f283 (8 * nn + 5)).toInt = -1000000 ∨ (-4 ≤ (y_c f283 (8 * nn + 2)).toInt ∧ -4 ≤ (y_c f283 (8 * nn + 3)).toInt))) := by have q9 := h276; rw [y_fiZ oY281 (k := 5) (by decide), ← ev286, y_atE o284] at q9; exact q9
    refine lv_aload_n hx hb dX7_lineTold_147 rfl (lv_at hl 0 rfl) ?_
    refine th_get (D := (dC, dI)) (ci := 7) (v := .ref (A 12)) (C := RX7) (T := TX7) (N := 34) hx hb hts inX7 hown hK hP (hLK _ ha0 (by decide)) oY281 rfl 12 (by decide) (hts _ T_245) (fun _ h9 => h9) rfl dX7_lineTold_148 ?_
    refine lv_sipush (v := 387) hx hb dX7_lineTold_151 (by decide) ?_
    refine lv_dup2_11 hx hb dX7_lineTold_154 rfl rfl ?_
    refine th_iald hx hb hK hP (hLK _ (y_k12 hA) (by decide)) 0 o284 rfl (ax_in (by decide)) dX7_lineTold_155 ?_
    refine lv_topi (fun v287 ev287 => ?_)
    have qv287 : 0 ≤ v287.toInt ∧ v287.toInt ≤ 40 := by rw [ev287]; exact b285
    have h288 : 0 ≤ v287.toInt ∧ v287.toInt ≤ 39 := ⟨by omega, by have q9 : v287 = (y_c f283 387) := ev287; rw [q9]; have q8 := h274; omega⟩
    have h289 : v287.toInt = nn := by rw [show v287 = y_c f283 387 from ev287]; exact h274
    refine lv_iconst (v := 1) hx hb dX7_lineTold_156 (by decide) ?_
    refine lv_iadd hx hb dX7_lineTold_157 ?_
    refine lv_topi (fun v290 ev290 => ?_)
    have qv290 : v290.toInt = v287.toInt + 1 := by rw [ev290]; exact th_add rfl (by decide) ⟨by omega, by omega⟩
    refine th_iast hx hb hK hP hD hS (hLK _ (y_k12 hA) (by decide)) 0 o284 rfl (ax_in (by decide)) dX7_lineTold_158 (fun H locs hP hS => ?_)
    obtain ⟨f291, u292⟩ : ∃ g : Nat → Int32, g = upd f283 (387 : Int32).toNatClampNeg v290 := ⟨_, rfl⟩
    rw [← u292] at hP
    have b293 : y_bd 12 f291 := by rw [u292]; exact th_updJ (P := fun y => 0 ≤ y.toInt ∧ y.toInt ≤ 40) b285 (fun q => ⟨by omega, by omega⟩)
    have hP : va_P (dC, dI) vwCl (va_pl L (va_up F278 (A 12) (.inl (cs 0, 400, .inl f291)))) H := hP
    obtain ⟨F294, hF295⟩ : ∃ G : Nat → va_E, G = va_up F278 (A 12) (.inl (cs 0, 400, .inl f291)) := ⟨_, rfl⟩
    rw [← hF295] at hP
    have hI : y_I K cs A F294 := by rw [hF295]; exact y_clA (i := 12) hA hI (by decide) b293
    have hfr : ∀ b, K b ∉ [9, 62, 64] → F294 b = F b := by rw [hF295]; exact s_fr hfr (y_k12 hA) (by decide)
    have oY296 : F294 a0 = .inr (7, y_fl A z279 q280) := by rw [hF295]; exact th_ne (th_kd ha0 (y_k12 hA) (by decide)) oY281
    have o297 : F294 (A 12) = .inl (cs 0, 400, .inl f291) := by rw [hF295]; exact th_up
    have u298 : ∀ j : Int, 0 ≤ j → y_c f291 j = if j = 387 then v290 else y_c f283 j := by rw [u292]; exact y_cu (by decide) (by decide)
    exact W.vret hx hb hr (fun t ht hW => ⟨⟨F294, rfl, ⟨trivial, trivial, hI, hfr, fun k hk => (y_fiZ oY296 (s_sub (by decide) hk)).trans ((hz0 k hk).trans (y_fiZ oY0 (s_sub (by decide) hk)).symm), (by rw [y_fiZ oY0 (k := 5) (by decide), ← eF_5, y_fiZ oY296 (k := 5) (by decide), ← ev286, y_atE o2, y_atE o297]; rw [← hnn]; exact ⟨by omega, (fun j h0 h1 => by rw [u298 j h0, if_neg (by omega)]; exact h275 j h0 (by omega)), (fun j h0 h1 => by rw [u298 j (by omega), if_neg h1]; exact h275 j (by omega) (by omega)), fun q => ⟨by rw [u298 387 (by omega), if_pos rfl]; omega, y_rgC ⟨by rw [u298 _ (by omega), if_neg (by omega)], by rw [u298 _ (by omega), if_neg (by omega)], by rw [u298 _ (by omega), if_neg (by omega)], by rw [u298 _ (by omega), if_neg (by omega)]⟩ (by unfold y_rg; exact ⟨by omega, by omega, by omega, by omega⟩)⟩⟩)⟩, by rw [ht]; exact hP, va_K.moved hW.alike hK⟩, hS.F ht⟩) hS.2.2 dX7_lineTold_159

set_option maxHeartbeats 4000000 in
set_option maxRecDepth 100000 in
theorem y_X7_isNamed (l : Launch) (dC : Nat → ClassId) (dI : Nat → Nat → Nat) (sz : Nat) {L : List Nat} {K : Nat → Nat} {cs : Nat → ClassId} (hLK : ∀ a {k : Nat}, K a = k → k ≠ 0 → a ∈ L) (A : Nat → Nat) (hA : y_A K A) (F : Nat → va_E) (a0 : Nat) (x1 : Int32) (ha0 : K a0 = 9) (hI : y_I K cs A F) : Met l yX7_isNamed (Cond.code yX7_isNamed cX7_isNamed 3 (some .boolean) :: T0) ({ frames := 1, cells := 0, slots := 0, locals := 21 }) (va_Pc [.ref a0, .int x1] (s_W dC dI sz L F [(cs 0, .int), (cs 1, .byte), (cs 2, .long), (cs 3, .object RX5), (cs 4, .object RX4), (cs 5, .array .int), (cs 6, .char), (cs 7, .boolean)])) (va_Qi (fun (r : Int32) (G : Nat → va_E) => (0 ≤ r.toInt ∧ r.toInt ≤ 1) ∧ True ∧ y_I K cs A G ∧ (∀ b, K b ∉ ([] : List Nat) → G b = F b) ∧ (∀ k, k ∈ ([1, 2, 3, 4, 5, 6, 7, 8, 11, 15, 16, 19, 25, 26, 27, 31, 32] : List Nat) → y_fi G a0 k = y_fi F a0 k) ∧ True) (fun (G : Nat → va_E) (t : State) => va_P (dC, dI) vwCl (va_pl L G) t.heap ∧ va_K (dC, dI) vwCl [(cs 0, .int), (cs 1, .byte), (cs 2, .long), (cs 3, .object RX5), (cs 4, .object RX4), (cs 5, .array .int), (cs 6, .char), (cs 7, .boolean)] t) (fun q => q ∈ L)) 0 0 (fun q => q ∈ L) := by
  refine Met.ofW (cc := cX7_isNamed) (maxL := 3) (ret := (some .boolean)) (by decide) rfl ?_
  intro p e s m args below meth c s₁ B hml hv
  obtain ⟨rfl, hsz, hP, hK, hD, hN⟩ := hv
  have hx := B.exec
  have hb := B.bytes
  have hr := B.returns
  have hts : ∀ w ∈ T0, w.before _ s = true := fun w h => atoms_spec (ws := Cond.code yX7_isNamed cX7_isNamed 3 (some .boolean) :: T0) B.pre w (List.mem_cons_of_mem _ h)
  have hown : s.vm.findClass RX7 = some m.cls := findClass_of_methodNamed B.named
  have hlocks := B.notSynchronized
  have hS : va_S (fun q => q ∈ L) s.heap s.heap [] := va_S.rf
  have hfr : ∀ b, K b ∉ ([] : List Nat) → F b = F b := fun _ _ => rfl
  have hl := lv_entry ([.ref a0, .int x1]) (n := 3) (Nat.le_of_ble_eq_true rfl)
  rw [lg_entry_eq]
  generalize (lg_sl ([.ref a0, .int x1]) ++ List.replicate (3 - (lg_sl ([.ref a0, .int x1])).length) Slot.unset).toArray = ls at hl ⊢
  have hl : lv_has ls 3 [(0, .ref a0), (1, .int x1)] := hl
  refine s_gen hP hS (fun H locs hP hS => ?_)
  obtain ⟨z0, q0, oY0, bz0⟩ := y_opY hI ha0
  have hz0 : ∀ k, k ∈ ([1, 2, 3, 4, 5, 6, 7, 8, 11, 15, 16, 19, 25, 26, 27, 31, 32] : List Nat) → z0 k = z0 k := fun _ _ => rfl
  refine lv_iconst (v := 0) hx hb dX7_isNamed_0 (by decide) ?_
  refine lv_istore_n (lv' := [(2, .int 0), (0, .ref a0), (1, .int x1)]) hx hb dX7_isNamed_1 rfl hl (by decide) rfl (fun ls hl => ?_)
  have h2 : (0 : Int32).toInt = 0 := by decide
  refine th_loop (fun n g H locs => ∃ (G : Nat → va_E) (ls : Array Slot) (w1 : Int32), g = F0 m 2 ls [] ∧ lv_has ls 3 [(0, .ref a0), (1, .int x1), (2, .int w1)] ∧ va_P (dC, dI) vwCl (va_pl L G) H ∧ va_S (fun q => q ∈ L) s.heap H locs ∧ y_I K cs A G ∧ (∀ b, K b ∉ ([] : List Nat) → G b = F b) ∧ (∀ k, k ∈ ([1, 2, 3, 4, 5, 6, 7, 8, 11, 15, 16, 19, 25, 26, 27, 31, 32] : List Nat) → y_fi G a0 k = z0 k) ∧ (0 ≤ w1.toInt ∧ w1.toInt ≤ 40) ∧ n = (41 - w1.toInt).toNat) _ ⟨F, _, 0, rfl, lv_sub hl [1, 2, 0] rfl, hP, hS, hI, hfr, (fun k hk => (y_fiZ oY0 (s_sub (by decide) hk)).trans (hz0 k hk)), (by decide), rfl⟩ (fun n ih2 g H locs hq => ?_)
  obtain ⟨F4, ls, w1, rfl, hl, hP, hS, hI, hfr, hz0, h3, hn⟩ := hq
  have oY5 : F4 a0 = .inr (7, y_fl A z0 q0) := (hfr _ (by rw [ha0]; decide)).trans oY0
  have hz0 : ∀ k, k ∈ ([1, 2, 3, 4, 5, 6, 7, 8, 11, 15, 16, 19, 25, 26, 27, 31, 32] : List Nat) → z0 k = z0 k := fun _ _ => rfl
  have hn_5 := hn
  refine lv_iload_n hx hb dX7_isNamed_2 rfl (lv_at hl 2 rfl) ?_
  refine lv_aload_n hx hb dX7_isNamed_3 rfl (lv_at hl 0 rfl) ?_
  obtain ⟨f6, o7, b8⟩ := y_op12 hI
  refine va_calli (va_runV (As := []) (rest := [.int w1]) ⟨hx, hb, hml, hown, hts⟩ (y_X7_drafted l dC dI H.size hLK A hA F4 a0 ha0 hI) (cwV 0 hts (ax_gV T_293 T_294 T_295 T_265 T_28) rfl rfl rfl (by decide +kernel) ⟨Nat.le_of_ble_eq_true rfl, Nat.le_of_ble_eq_true rfl⟩) ⟨fun a U g mk q => ⟨q.1, s_pc rfl rfl q.2⟩, s_recv hK hP (hLK _ ha0 (by decide)) (ci := 7) rfl oY5, fun U hU hW => ⟨rfl, s_pw hU hW hP hK hD hN⟩⟩ rfl rfl hl.1 rfl (lv_room (Nat.le_of_ble_eq_true rfl)) dX7_isNamed_4 ⟨Nat.zero_le _, Nat.zero_le _⟩) hS (fun q _ h => h) (fun q h => h) (fun r10 F11 t H1 locs ht hvm hw hB hz1 hk1 hS => ?_)
  obtain ⟨hP, hK1⟩ := hB
  rw [ht] at hP
  generalize H1 = H at hP hS ⊢
  obtain ⟨h12, h14, hI, hfr1, hzf, h13⟩ := hw
  have o15 : F11 (A 12) = .inl (cs 0, 400, .inl f6) := (hfr1 _ (by rw [(y_k12 hA)]; decide)).trans o7
  have oY16 : F11 a0 = .inr (7, y_fl A z0 q0) := (hfr1 _ (by rw [ha0]; decide)).trans oY5
  have hfr : ∀ b, K b ∉ ([] : List Nat) → F11 b = F b := fun b hb9 => (hfr1 b (fun q => hb9 (s_sub (by decide) q))).trans (hfr b hb9)
  have h13 : (r10 = y_c f6 387) := by have q9 := h13; rw [y_atE o7] at q9; exact q9
  have h17 := congrArg Int32.toInt h13
  refine lv_icmp_ge (tgt := 33) hx hb dX7_isNamed_7 (by decide) (fun c18 => ?_) (fun c18 => ?_)
  · have c18 := Int32.le_iff_toInt_le.mp c18
    refine lv_iconst (v := 0) hx hb dX7_isNamed_33 (by decide) ?_
    exact W.zret (v := 0) (ty := .boolean) hx hb hr (by decide) (fun t ht hW => ⟨⟨0, F11, rfl, ⟨(by decide), trivial, hI, hfr, fun k hk => (y_fiZ oY16 (s_sub (by decide) hk)).trans ((hz0 k hk).trans (y_fiZ oY0 (s_sub (by decide) hk)).symm), trivial⟩, by rw [ht]; exact hP, va_K.moved hW.alike hK⟩, hS.F ht⟩) hS.2.2 dX7_isNamed_34
  · have c18 := mt Int32.le_iff_toInt_le.mpr c18
    refine lv_aload_n hx hb dX7_isNamed_10 rfl (lv_at hl 0 rfl) ?_
    refine th_get (D := (dC, dI)) (ci := 7) (v := .ref (A 12)) (C := RX7) (T := TX7) (N := 34) hx hb hts inX7 hown hK hP (hLK _ ha0 (by decide)) oY16 rfl 12 (by decide) (hts _ T_245) (fun _ h9 => h9) rfl dX7_isNamed_11 ?_
    refine lv_iload_n hx hb dX7_isNamed_14 rfl (lv_at hl 2 rfl) ?_
    refine lv_bipush (v := 7) hx hb dX7_isNamed_15 (by decide) ?_
    refine va_calli (va_runS (As := [.int w1, .int 7]) (rest := [.ref (A 12)]) ⟨hx, hb, hml, hown, hts⟩ (y_X7_lineAt l dC dI H.size F11 w1 7 (⟨by omega, by omega⟩) (by decide)) (cwS 2 hts (ax_gS T_1216 T_1218 T_265 T_1217) rfl rfl rfl (by decide +kernel) ⟨Nat.le_of_ble_eq_true rfl, Nat.le_of_ble_eq_true rfl⟩) ⟨fun a U g mk q => ⟨q.1, s_pc rfl rfl q.2⟩, fun U hU hW => ⟨rfl, s_pw hU hW hP hK hD hN⟩⟩ rfl rfl hl.1 rfl (lv_room (Nat.le_of_ble_eq_true rfl)) dX7_isNamed_17 ⟨Nat.zero_le _, Nat.zero_le _⟩) hS (fun q _ h => h) (fun q h => h) (fun r20 F21 t H1 locs ht hvm hw hB hz1 hk1 hS => ?_)
    obtain ⟨hP, hK1⟩ := hB
    rw [ht] at hP
    generalize H1 = H at hP hS ⊢
    obtain ⟨h22, h24, hG9, h23⟩ := hw
    rw [hG9] at hP
    have h23 : (r20.toInt = 8 * w1.toInt + 7) := by have q9 := h23; exact q9
    refine th_iald hx hb hK hP (hLK _ (y_k12 hA) (by decide)) 0 o15 rfl (th_in ⟨by omega, by omega⟩) dX7_isNamed_20 ?_
    refine lv_topi (fun v25 ev25 => ?_)
    refine lv_iload_n hx hb dX7_isNamed_21 rfl (lv_at hl 1 rfl) ?_
    refine lv_icmp_ne (tgt := 27) hx hb dX7_isNamed_22 (by decide) (fun c26 => ?_) (fun c26 => ?_)
    · have c26 := mt Int32.toInt_inj.symm.mpr c26
      obtain ⟨v27, ev27⟩ : ∃ y : Int32, w1 + 1 = y := ⟨_, rfl⟩
      have qv27 : v27.toInt = w1.toInt + 1 := by rw [← ev27]; exact th_add rfl (by decide) ⟨by omega, by omega⟩
      refine lv_iinc (v := v27) (lv' := [(2, .int v27), (0, .ref a0), (1, .int x1)]) hx hb dX7_isNamed_27 hl (k := 2) rfl ev27 (by decide) rfl (fun ls hl => ?_)
      refine lv_goto (tgt := 2) hx hb dX7_isNamed_30 (by decide) ?_
      exact ih2 _ _ _ _ (by omega) ⟨F11, _, v27, rfl, lv_sub hl [1, 2, 0] rfl, hP, hS, hI, hfr, (fun k hk => (y_fiZ oY16 (s_sub (by decide) hk)).trans (hz0 k hk)), ⟨by omega, by omega⟩, rfl⟩
    · have c26 := Int32.toInt_inj.symm.mp c26
      refine lv_iconst (v := 1) hx hb dX7_isNamed_25 (by decide) ?_
      exact W.zret (v := 1) (ty := .boolean) hx hb hr (by decide) (fun t ht hW => ⟨⟨1, F11, rfl, ⟨(by decide), trivial, hI, hfr, fun k hk => (y_fiZ oY16 (s_sub (by decide) hk)).trans ((hz0 k hk).trans (y_fiZ oY0 (s_sub (by decide) hk)).symm), trivial⟩, by rw [ht]; exact hP, va_K.moved hW.alike hK⟩, hS.F ht⟩) hS.2.2 dX7_isNamed_26

set_option maxHeartbeats 4000000 in
set_option maxRecDepth 100000 in
theorem y_X7_lineBegins (l : Launch) (dC : Nat → ClassId) (dI : Nat → Nat → Nat) (sz : Nat) {L : List Nat} {K : Nat → Nat} {cs : Nat → ClassId} (hLK : ∀ a {k : Nat}, K a = k → k ≠ 0 → a ∈ L) (A : Nat → Nat) (hA : y_A K A) (F : Nat → va_E) (a0 : Nat) (x1 : Int32) (x2 : Int32) (ha0 : K a0 = 9) (hx2 : 0 ≤ x2.toInt ∧ x2.toInt ≤ 1) (hI : y_I K cs A F) : Met l yX7_lineBegins (Cond.code yX7_lineBegins cX7_lineBegins 4 none :: T0) ({ frames := 7, cells := 0, slots := 0, locals := 151 }) (va_Pc [.ref a0, .int x1, .int x2] (s_W dC dI sz L F [(cs 0, .int), (cs 1, .byte), (cs 2, .long), (cs 3, .object RX5), (cs 4, .object RX4), (cs 5, .array .int), (cs 6, .char), (cs 7, .boolean)])) (va_Qv (fun (G : Nat → va_E) => True ∧ True ∧ y_I K cs A G ∧ (∀ b, K b ∉ [9, 62, 64] → G b = F b) ∧ (∀ k, k ∈ ([1, 3, 7, 8, 15, 16, 19, 25, 26, 27, 31, 32] : List Nat) → y_fi G a0 k = y_fi F a0 k) ∧ (((y_fi F a0 5).toInt = 0 ∨ ¬ (y_fi G a0 5).toInt = 0) ∧ (((y_fi F a0 5).toInt = 0 → y_DS (y_at F (A 12))) → (y_fi G a0 5).toInt = 0 → y_DS (y_at G (A 12))))) (fun (G : Nat → va_E) (t : State) => va_P (dC, dI) vwCl (va_pl L G) t.heap ∧ va_K (dC, dI) vwCl [(cs 0, .int), (cs 1, .byte), (cs 2, .long), (cs 3, .object RX5), (cs 4, .object RX4), (cs 5, .array .int), (cs 6, .char), (cs 7, .boolean)] t) (fun q => q ∈ L)) 0 0 (fun q => q ∈ L) := by
  refine Met.ofW (cc := cX7_lineBegins) (maxL := 4) (ret := none) (by decide) rfl ?_
  intro p e s m args below meth c s₁ B hml hv
  obtain ⟨rfl, hsz, hP, hK, hD, hN⟩ := hv
  have hx := B.exec
  have hb := B.bytes
  have hr := B.returns
  have hts : ∀ w ∈ T0, w.before _ s = true := fun w h => atoms_spec (ws := Cond.code yX7_lineBegins cX7_lineBegins 4 none :: T0) B.pre w (List.mem_cons_of_mem _ h)
  have hown : s.vm.findClass RX7 = some m.cls := findClass_of_methodNamed B.named
  have hlocks := B.notSynchronized
  have hS : va_S (fun q => q ∈ L) s.heap s.heap [] := va_S.rf
  have hfr : ∀ b, K b ∉ [9, 62, 64] → F b = F b := fun _ _ => rfl
  have hl := lv_entry ([.ref a0, .int x1, .int x2]) (n := 4) (Nat.le_of_ble_eq_true rfl)
  rw [lg_entry_eq]
  generalize (lg_sl ([.ref a0, .int x1, .int x2]) ++ List.replicate (4 - (lg_sl ([.ref a0, .int x1, .int x2])).length) Slot.unset).toArray = ls at hl ⊢
  have hl : lv_has ls 4 [(0, .ref a0), (1, .int x1), (2, .int x2)] := hl
  refine s_gen hP hS (fun H locs hP hS => ?_)
  obtain ⟨z0, q0, oY0, bz0⟩ := y_opY hI ha0
  have hz0 : ∀ k, k ∈ ([1, 3, 7, 8, 15, 16, 19, 25, 26, 27, 31, 32] : List Nat) → z0 k = z0 k := fun _ _ => rfl
  obtain ⟨f1, o2, b3⟩ := y_op12 hI
  obtain ⟨v4, ev4⟩ : ∃ y : Int32, y = z0 5 := ⟨_, rfl⟩
  have eF_5 := ev4
  have hnb : 0 ≤ (y_c f1 387).toInt ∧ (y_c f1 387).toInt ≤ 40 := b3
  have e0_v4 := ev4
  refine th_join (fun g H locs => ∃ (G : Nat → va_E) (ls : Array Slot) (w5 : Int32), g = F0 m 56 ls [] ∧ lv_has ls 4 [(0, .ref a0), (3, .int w5)] ∧ va_P (dC, dI) vwCl (va_pl L G) H ∧ va_S (fun q => q ∈ L) s.heap H locs ∧ y_I K cs A G ∧ (∀ b, K b ∉ [9, 62, 64] → G b = F b) ∧ (∀ k, k ∈ ([1, 3, 7, 8, 15, 16, 19, 25, 26, 27, 31, 32] : List Nat) → y_fi G a0 k = z0 k) ∧ True ∧ (y_at G (A 12)) = f1 ∧ ((v4.toInt = 0 ∨ ¬ (y_fi G a0 5).toInt = 0) ∧ ((y_fi G a0 5).toInt = 0 → (y_c f1 387).toInt ≤ 39))) (fun K56 => ?_) ?_
  refine th_join (fun g H locs => ∃ (G : Nat → va_E) (ls : Array Slot) (w6 : Int32), g = F0 m 50 ls [] ∧ lv_has ls 4 [(0, .ref a0), (3, .int w6)] ∧ va_P (dC, dI) vwCl (va_pl L G) H ∧ va_S (fun q => q ∈ L) s.heap H locs ∧ y_I K cs A G ∧ (∀ b, K b ∉ [9, 62, 64] → G b = F b) ∧ (∀ k, k ∈ ([1, 3, 7, 8, 15, 16, 19, 25, 26, 27, 31, 32] : List Nat) → y_fi G a0 k = z0 k) ∧ True ∧ (y_at G (A 12)) = f1 ∧ ((v4.toInt = 0 ∨ ¬ (y_fi G a0 5).toInt = 0) ∧ ((y_fi G a0 5).toInt = 0 → (y_c f1 387).toInt ≤ 39))) (fun K50 => ?_) ?_
  refine th_join (fun g H locs => ∃ (G : Nat → va_E) (ls : Array Slot) (w7 : Int32), g = F0 m 17 ls [] ∧ lv_has ls 4 [(0, .ref a0), (2, .int x2), (3, .int w7)] ∧ va_P (dC, dI) vwCl (va_pl L G) H ∧ va_S (fun q => q ∈ L) s.heap H locs ∧ y_I K cs A G ∧ (∀ b, K b ∉ [9, 62, 64] → G b = F b) ∧ (∀ k, k ∈ ([1, 3, 7, 8, 15, 16, 19, 25, 26, 27, 31, 32] : List Nat) → y_fi G a0 k = z0 k) ∧ (0 ≤ w7.toInt ∧ w7.toInt ≤ 0) ∧ (0 ≤ x2.toInt ∧ x2.toInt ≤ 1) ∧ (y_at G (A 12)) = f1 ∧ ((v4.toInt = 0 ∨ ¬ (y_fi G a0 5).toInt = 0) ∧ ((y_fi G a0 5).toInt = 0 → (y_c f1 387).toInt ≤ 39))) (fun K17 => ?_) ?_
  · refine lv_iconst (v := 0) hx hb dX7_lineBegins_0 (by decide) ?_
    refine lv_istore_n (lv' := [(3, .int 0), (0, .ref a0), (1, .int x1), (2, .int x2)]) hx hb dX7_lineBegins_1 rfl hl (by decide) rfl (fun ls hl => ?_)
    refine lv_aload_n hx hb dX7_lineBegins_2 rfl (lv_at hl 1 rfl) ?_
    refine va_calli (va_runV (As := []) (rest := []) ⟨hx, hb, hml, hown, hts⟩ (y_X7_drafted l dC dI H.size hLK A hA F a0 ha0 hI) (cwV 0 hts (ax_gV T_293 T_294 T_295 T_265 T_28) rfl rfl rfl (by decide +kernel) ⟨Nat.le_of_ble_eq_true rfl, Nat.le_of_ble_eq_true rfl⟩) ⟨fun a U g mk q => ⟨q.1, s_pc rfl rfl q.2⟩, s_recv hK hP (hLK _ ha0 (by decide)) (ci := 7) rfl oY0, fun U hU hW => ⟨rfl, s_pw hU hW hP hK hD hN⟩⟩ rfl rfl hl.1 rfl (lv_room (Nat.le_of_ble_eq_true rfl)) dX7_lineBegins_3 ⟨Nat.zero_le _, Nat.zero_le _⟩) hS (fun q _ h => h) (fun q h => h) (fun r9 F10 t H1 locs ht hvm hw hB hz1 hk1 hS => ?_)
    obtain ⟨hP, hK1⟩ := hB
    rw [ht] at hP
    generalize H1 = H at hP hS ⊢
    obtain ⟨h11, h13, hI, hfr1, hzf, h12⟩ := hw
    have o14 : F10 (A 12) = .inl (cs 0, 400, .inl f1) := (hfr1 _ (by rw [(y_k12 hA)]; decide)).trans o2
    have oY15 : F10 a0 = .inr (7, y_fl A z0 q0) := (hfr1 _ (by rw [ha0]; decide)).trans oY0
    have hfr : ∀ b, K b ∉ [9, 62, 64] → F10 b = F b := fun b hb9 => (hfr1 b (fun q => hb9 (s_sub (by decide) q))).trans (hfr b hb9)
    have h12 : (r9 = y_c f1 387) := by have q9 := h12; rw [y_atE o2] at q9; exact q9
    have h16 := congrArg Int32.toInt h12
    refine lv_bipush (v := 40) hx hb dX7_lineBegins_6 (by decide) ?_
    refine lv_icmp_ne (tgt := 17) hx hb dX7_lineBegins_8 (by decide) (fun c17 => ?_) (fun c17 => ?_)
    · have c17 := mt (ax_eq (n := 40) (by decide)).mpr c17
      have h18 : (0 : Int32).toInt = 0 := by decide
      exact K17 _ _ _ ⟨F10, _, 0, rfl, lv_sub hl [1, 3, 0] rfl, hP, hS, hI, hfr, (fun k hk => (y_fiZ oY15 (s_sub (by decide) hk)).trans (hz0 k hk)), (by decide), ⟨by omega, by omega⟩, (by rw [y_atE o14]; exact rfl), (by rw [y_fiZ oY15 (k := 5) (by decide), ← ev4]; omega)⟩
    · have c17 := (ax_eq (n := 40) (by decide)).mp c17
      refine lv_aload_n hx hb dX7_lineBegins_11 rfl (lv_at hl 1 rfl) ?_
      refine lv_iconst (v := 5) hx hb dX7_lineBegins_12 (by decide) ?_
      refine lv_iload_n hx hb dX7_lineBegins_13 rfl (lv_at hl 2 rfl) ?_
      refine va_callv (va_runV (As := [.int 5, .int x1]) (rest := []) ⟨hx, hb, hml, hown, hts⟩ (y_X7_fail l dC dI H.size hLK A hA F10 a0 5 x1 ha0 (by decide) hI) (cwV 2 hts (ax_gV T_290 T_291 T_292 T_265 T_27) rfl rfl rfl (by decide +kernel) ⟨Nat.le_of_ble_eq_true rfl, Nat.le_of_ble_eq_true rfl⟩) ⟨fun a U g mk q => ⟨q.1, s_pc rfl rfl q.2⟩, s_recv hK hP (hLK _ ha0 (by decide)) (ci := 7) rfl oY15, fun U hU hW => ⟨rfl, s_pw hU hW hP hK hD hN⟩⟩ rfl rfl hl.1 rfl (lv_room (Nat.le_of_ble_eq_true rfl)) dX7_lineBegins_14 ⟨Nat.zero_le _, Nat.zero_le _⟩) hS (fun q _ h => h) (fun q h => h) (fun F20 t H1 locs ht hvm hw hB hz1 hk1 hS => ?_)
      obtain ⟨hP, hK1⟩ := hB
      rw [ht] at hP
      generalize H1 = H at hP hS ⊢
      obtain ⟨h21, h23, hI, hfr1, hzf, h22⟩ := hw
      have o24 : F20 (A 12) = .inl (cs 0, 400, .inl f1) := (hfr1 _ (by rw [(y_k12 hA)]; decide)).trans o14
      obtain ⟨z25, q26, oY27, bz28⟩ := y_opY hI ha0
      have hzf : ∀ k, k ∈ ([1, 2, 3, 4, 7, 8, 11, 15, 16, 19, 25, 26, 27, 31, 32] : List Nat) → z25 k = z0 k := fun k hk => by have q9 := hzf k hk; rw [y_fiZ oY27 (s_sub (by decide) hk), y_fiZ oY15 (s_sub (by decide) hk)] at q9; exact q9
      have hz0 : ∀ k, k ∈ ([1, 3, 7, 8, 15, 16, 19, 25, 26, 27, 31, 32] : List Nat) → z25 k = z0 k := fun k hk => (hzf k (s_sub (by decide) hk)).trans (hz0 k hk)
      have hfr : ∀ b, K b ∉ [9, 62, 64] → F20 b = F b := fun b hb9 => (hfr1 b (fun q => hb9 (s_sub (by decide) q))).trans (hfr b hb9)
      obtain ⟨v29, ev29⟩ : ∃ y : Int32, y = z25 5 := ⟨_, rfl⟩
      have h22 : (¬ v29.toInt = 0) := by have q9 := h22; rw [y_fiZ oY27 (k := 5) (by decide), ← ev29] at q9; exact q9
      have h30 : (0 : Int32).toInt = 0 := by decide
      exact K17 _ _ _ ⟨F20, _, 0, rfl, lv_sub hl [1, 3, 0] rfl, hP, hS, hI, hfr, (fun k hk => (y_fiZ oY27 (s_sub (by decide) hk)).trans (hz0 k hk)), (by decide), ⟨by omega, by omega⟩, (by rw [y_atE o24]; exact rfl), (by rw [y_fiZ oY27 (k := 5) (by decide), ← ev29]; omega)⟩
  · intro g H locs hq
    obtain ⟨F35, ls, w7, rfl, hl, hP, hS, hI, hfr, hz0, h31, h32, h33, h34⟩ := hq
    obtain ⟨z36, q37, oY38, bz39⟩ := y_opY hI ha0
    have hz0 : ∀ k, k ∈ ([1, 3, 7, 8, 15, 16, 19, 25, 26, 27, 31, 32] : List Nat) → z36 k = z0 k := fun k hk => (y_fiZ oY38 (s_sub (by decide) hk)).symm.trans (hz0 k hk)
    obtain ⟨f40, o41, b42⟩ := y_op12 hI
    have h33 : f40 = f1 := by have q9 := h33; rw [y_atE o41] at q9; exact q9
    obtain ⟨v43, ev43⟩ : ∃ y : Int32, y = z36 5 := ⟨_, rfl⟩
    have h34 : ((v4.toInt = 0 ∨ ¬ v43.toInt = 0) ∧ (v43.toInt = 0 → (y_c f1 387).toInt ≤ 39)) := by have q9 := h34; rw [y_fiZ oY38 (k := 5) (by decide), ← ev43] at q9; exact q9
    refine lv_iload_n hx hb dX7_lineBegins_17 rfl (lv_at hl 1 rfl) ?_
    refine lv_if_eq (tgt := 56) hx hb dX7_lineBegins_18 (by decide) (fun c44 => ?_) (fun c44 => ?_)
    · have c44 := (ax_eq (n := 0) (by decide)).mp c44
      exact K56 _ _ _ ⟨F35, _, w7, rfl, lv_sub hl [0, 2] rfl, hP, hS, hI, hfr, (fun k hk => (y_fiZ oY38 (s_sub (by decide) hk)).trans (hz0 k hk)), trivial, (by rw [y_atE o41]; exact h33), (by rw [y_fiZ oY38 (k := 5) (by decide), ← ev43]; omega)⟩
    · have c44 := mt (ax_eq (n := 0) (by decide)).mpr c44
      refine lv_aload_n hx hb dX7_lineBegins_21 rfl (lv_at hl 0 rfl) ?_
      have ep45_5 := ev43
      refine va_calli (va_runV (As := []) (rest := []) ⟨hx, hb, hml, hown, hts⟩ (y_X7_name l dC dI H.size hLK A hA F35 a0 ha0 hI) (cwV 0 hts (ax_gV T_1110 T_1112 T_1113 T_265 T_1111) rfl rfl rfl (by decide +kernel) ⟨Nat.le_of_ble_eq_true rfl, Nat.le_of_ble_eq_true rfl⟩) ⟨fun a U g mk q => ⟨q.1, s_pc rfl rfl q.2⟩, s_recv hK hP (hLK _ ha0 (by decide)) (ci := 7) rfl oY38, fun U hU hW => ⟨rfl, s_pw hU hW hP hK hD hN⟩⟩ rfl rfl hl.1 rfl (lv_room (Nat.le_of_ble_eq_true rfl)) dX7_lineBegins_22 ⟨Nat.zero_le _, Nat.zero_le _⟩) hS (fun q _ h => h) (fun q h => h) (fun r46 F47 t H1 locs ht hvm hw hB hz1 hk1 hS => ?_)
      obtain ⟨hP, hK1⟩ := hB
      rw [ht] at hP
      generalize H1 = H at hP hS ⊢
      obtain ⟨h48, h50, hI, hfr1, hzf, h49⟩ := hw
      have o51 : F47 (A 12) = .inl (cs 0, 400, .inl f40) := (hfr1 _ (by rw [(y_k12 hA)]; decide)).trans o41
      obtain ⟨z52, q53, oY54, bz55⟩ := y_opY hI ha0
      have hzf : ∀ k, k ∈ ([1, 3, 7, 8, 15, 16, 19, 25, 26, 27, 31, 32] : List Nat) → z52 k = z36 k := fun k hk => by have q9 := hzf k hk; rw [y_fiZ oY54 (s_sub (by decide) hk), y_fiZ oY38 (s_sub (by decide) hk)] at q9; exact q9
      have hz0 : ∀ k, k ∈ ([1, 3, 7, 8, 15, 16, 19, 25, 26, 27, 31, 32] : List Nat) → z52 k = z0 k := fun k hk => (hzf k (s_sub (by decide) hk)).trans (hz0 k hk)
      have hfr : ∀ b, K b ∉ [9, 62, 64] → F47 b = F b := fun b hb9 => (hfr1 b (fun q => hb9 (s_sub (by decide) q))).trans (hfr b hb9)
      obtain ⟨v56, ev56⟩ : ∃ y : Int32, y = z52 5 := ⟨_, rfl⟩
      have h49 : (v43.toInt = 0 ∨ ¬ v56.toInt = 0) := by have q9 := h49; rw [y_fiZ oY38 (k := 5) (by decide), ← ep45_5, y_fiZ oY54 (k := 5) (by decide), ← ev56] at q9; exact q9
      refine lv_istore_n (lv' := [(3, .int r46), (0, .ref a0), (2, .int x2)]) hx hb dX7_lineBegins_25 rfl hl (by decide) rfl (fun ls hl => ?_)
      refine lv_aload_n hx hb dX7_lineBegins_26 rfl (lv_at hl 1 rfl) ?_
      refine th_get (D := (dC, dI)) (ci := 7) (v := .int (z52 5)) (C := RX7) (T := TX7) (N := 34) hx hb hts inX7 hown hK hP (hLK _ ha0 (by decide)) oY54 rfl 5 (by decide) (hts _ T_274) (fun _ h9 => h9) rfl dX7_lineBegins_27 ?_
      refine ax_eqi (y := v56) ev56.symm ?_
      refine lv_if_ne (tgt := 50) hx hb dX7_lineBegins_30 (by decide) (fun c57 => ?_) (fun c57 => ?_)
      · have c57 := mt (ax_eq (n := 0) (by decide)).mpr c57
        exact K50 _ _ _ ⟨F47, _, r46, rfl, lv_sub hl [1, 0] rfl, hP, hS, hI, hfr, (fun k hk => (y_fiZ oY54 (s_sub (by decide) hk)).trans (hz0 k hk)), trivial, (by rw [y_atE o51]; exact h33), (by rw [y_fiZ oY54 (k := 5) (by decide), ← ev56]; omega)⟩
      · have c57 := (ax_eq (n := 0) (by decide)).mp c57
        refine lv_aload_n hx hb dX7_lineBegins_33 rfl (lv_at hl 1 rfl) ?_
        refine lv_iload_n hx hb dX7_lineBegins_34 rfl (lv_at hl 0 rfl) ?_
        refine va_calli (va_runV (As := [.int r46]) (rest := []) ⟨hx, hb, hml, hown, hts⟩ (y_X7_isNamed l dC dI H.size hLK A hA F47 a0 r46 ha0 hI) (cwV 1 hts (ax_gV T_1248 T_1250 T_1251 T_265 T_1249) rfl rfl rfl (by decide +kernel) ⟨Nat.le_of_ble_eq_true rfl, Nat.le_of_ble_eq_true rfl⟩) ⟨fun a U g mk q => ⟨q.1, s_pc rfl rfl q.2⟩, s_recv hK hP (hLK _ ha0 (by decide)) (ci := 7) rfl oY54, fun U hU hW => ⟨rfl, s_pw hU hW hP hK hD hN⟩⟩ rfl rfl hl.1 rfl (lv_room (Nat.le_of_ble_eq_true rfl)) dX7_lineBegins_35 ⟨Nat.zero_le _, Nat.zero_le _⟩) hS (fun q _ h => h) (fun q h => h) (fun r59 F60 t H1 locs ht hvm hw hB hz1 hk1 hS => ?_)
        obtain ⟨hP, hK1⟩ := hB
        rw [ht] at hP
        generalize H1 = H at hP hS ⊢
        obtain ⟨h61, h63, hI, hfr1, hzf, h62⟩ := hw
        have o64 : F60 (A 12) = .inl (cs 0, 400, .inl f40) := (hfr1 _ (by rw [(y_k12 hA)]; decide)).trans o51
        have oY65 : F60 a0 = .inr (7, y_fl A z52 q53) := (hfr1 _ (by rw [ha0]; decide)).trans oY54
        have hfr : ∀ b, K b ∉ [9, 62, 64] → F60 b = F b := fun b hb9 => (hfr1 b (fun q => hb9 (s_sub (by decide) q))).trans (hfr b hb9)
        refine lv_if_eq (tgt := 50) hx hb dX7_lineBegins_38 (by decide) (fun c66 => ?_) (fun c66 => ?_)
        · have c66 := (ax_eq (n := 0) (by decide)).mp c66
          exact K50 _ _ _ ⟨F60, _, r46, rfl, lv_sub hl [1, 0] rfl, hP, hS, hI, hfr, (fun k hk => (y_fiZ oY65 (s_sub (by decide) hk)).trans (hz0 k hk)), trivial, (by rw [y_atE o64]; exact h33), (by rw [y_fiZ oY65 (k := 5) (by decide), ← ev56]; omega)⟩
        · have c66 := mt (ax_eq (n := 0) (by decide)).mpr c66
          refine lv_aload_n hx hb dX7_lineBegins_41 rfl (lv_at hl 1 rfl) ?_
          refine lv_iconst (v := 3) hx hb dX7_lineBegins_42 (by decide) ?_
          refine lv_aload_n hx hb dX7_lineBegins_43 rfl (lv_at hl 1 rfl) ?_
          refine th_get (D := (dC, dI)) (ci := 7) (v := .int (z52 11)) (C := RX7) (T := TX7) (N := 34) hx hb hts inX7 hown hK hP (hLK _ ha0 (by decide)) oY65 rfl 11 (by decide) (hts _ T_1114) (fun _ h9 => h9) rfl dX7_lineBegins_44 ?_
          refine lv_topi (fun v67 ev67 => ?_)
          refine va_callv (va_runV (As := [.int 3, .int v67]) (rest := []) ⟨hx, hb, hml, hown, hts⟩ (y_X7_fail l dC dI H.size hLK A hA F60 a0 3 v67 ha0 (by decide) hI) (cwV 2 hts (ax_gV T_290 T_291 T_292 T_265 T_27) rfl rfl rfl (by decide +kernel) ⟨Nat.le_of_ble_eq_true rfl, Nat.le_of_ble_eq_true rfl⟩) ⟨fun a U g mk q => ⟨q.1, s_pc rfl rfl q.2⟩, s_recv hK hP (hLK _ ha0 (by decide)) (ci := 7) rfl oY65, fun U hU hW => ⟨rfl, s_pw hU hW hP hK hD hN⟩⟩ rfl rfl hl.1 rfl (lv_room (Nat.le_of_ble_eq_true rfl)) dX7_lineBegins_47 ⟨Nat.zero_le _, Nat.zero_le _⟩) hS (fun q _ h => h) (fun q h => h) (fun F69 t H1 locs ht hvm hw hB hz1 hk1 hS => ?_)
          obtain ⟨hP, hK1⟩ := hB
          rw [ht] at hP
          generalize H1 = H at hP hS ⊢
          obtain ⟨h70, h72, hI, hfr1, hzf, h71⟩ := hw
          have o73 : F69 (A 12) = .inl (cs 0, 400, .inl f40) := (hfr1 _ (by rw [(y_k12 hA)]; decide)).trans o64
          obtain ⟨z74, q75, oY76, bz77⟩ := y_opY hI ha0
          have hzf : ∀ k, k ∈ ([1, 2, 3, 4, 7, 8, 11, 15, 16, 19, 25, 26, 27, 31, 32] : List Nat) → z74 k = z52 k := fun k hk => by have q9 := hzf k hk; rw [y_fiZ oY76 (s_sub (by decide) hk), y_fiZ oY65 (s_sub (by decide) hk)] at q9; exact q9
          have hz0 : ∀ k, k ∈ ([1, 3, 7, 8, 15, 16, 19, 25, 26, 27, 31, 32] : List Nat) → z74 k = z0 k := fun k hk => (hzf k (s_sub (by decide) hk)).trans (hz0 k hk)
          have ev67 : v67 = z74 11 := ev67.trans (hzf 11 (by decide)).symm
          have hfr : ∀ b, K b ∉ [9, 62, 64] → F69 b = F b := fun b hb9 => (hfr1 b (fun q => hb9 (s_sub (by decide) q))).trans (hfr b hb9)
          obtain ⟨v78, ev78⟩ : ∃ y : Int32, y = z74 5 := ⟨_, rfl⟩
          have h71 : (¬ v78.toInt = 0) := by have q9 := h71; rw [y_fiZ oY76 (k := 5) (by decide), ← ev78] at q9; exact q9
          exact K50 _ _ _ ⟨F69, _, r46, rfl, lv_sub hl [1, 0] rfl, hP, hS, hI, hfr, (fun k hk => (y_fiZ oY76 (s_sub (by decide) hk)).trans (hz0 k hk)), trivial, (by rw [y_atE o73]; exact h33), (by rw [y_fiZ oY76 (k := 5) (by decide), ← ev78]; omega)⟩
  · intro g H locs hq
    obtain ⟨F82, ls, w6, rfl, hl, hP, hS, hI, hfr, hz0, h79, h80, h81⟩ := hq
    obtain ⟨z83, q84, oY85, bz86⟩ := y_opY hI ha0
    have hz0 : ∀ k, k ∈ ([1, 3, 7, 8, 15, 16, 19, 25, 26, 27, 31, 32] : List Nat) → z83 k = z0 k := fun k hk => (y_fiZ oY85 (s_sub (by decide) hk)).symm.trans (hz0 k hk)
    obtain ⟨f87, o88, b89⟩ := y_op12 hI
    have h80 : f87 = f1 := by have q9 := h80; rw [y_atE o88] at q9; exact q9
    obtain ⟨v90, ev90⟩ : ∃ y : Int32, y = z83 5 := ⟨_, rfl⟩
    have h81 : ((v4.toInt = 0 ∨ ¬ v90.toInt = 0) ∧ (v90.toInt = 0 → (y_c f1 387).toInt ≤ 39)) := by have q9 := h81; rw [y_fiZ oY85 (k := 5) (by decide), ← ev90] at q9; exact q9
    refine lv_aload_n hx hb dX7_lineBegins_50 rfl (lv_at hl 0 rfl) ?_
    refine lv_bipush (v := 58) hx hb dX7_lineBegins_51 (by decide) ?_
    have ep91_5 := ev90
    refine va_callv (va_runV (As := [.int 58]) (rest := []) ⟨hx, hb, hml, hown, hts⟩ (y_X7_asksSign l dC dI H.size hLK A hA F82 a0 58 ha0 (by decide) hI) (cwV 1 hts (ax_gV T_303 T_304 T_305 T_265 T_31) rfl rfl rfl (by decide +kernel) ⟨Nat.le_of_ble_eq_true rfl, Nat.le_of_ble_eq_true rfl⟩) ⟨fun a U g mk q => ⟨q.1, s_pc rfl rfl q.2⟩, s_recv hK hP (hLK _ ha0 (by decide)) (ci := 7) rfl oY85, fun U hU hW => ⟨rfl, s_pw hU hW hP hK hD hN⟩⟩ rfl rfl hl.1 rfl (lv_room (Nat.le_of_ble_eq_true rfl)) dX7_lineBegins_53 ⟨Nat.zero_le _, Nat.zero_le _⟩) hS (fun q _ h => h) (fun q h => h) (fun F92 t H1 locs ht hvm hw hB hz1 hk1 hS => ?_)
    obtain ⟨hP, hK1⟩ := hB
    rw [ht] at hP
    generalize H1 = H at hP hS ⊢
    obtain ⟨h93, h95, hI, hfr1, hzf, h94⟩ := hw
    have o96 : F92 (A 12) = .inl (cs 0, 400, .inl f87) := (hfr1 _ (by rw [(y_k12 hA)]; decide)).trans o88
    obtain ⟨z97, q98, oY99, bz100⟩ := y_opY hI ha0
    have hzf : ∀ k, k ∈ ([1, 3, 4, 7, 8, 11, 15, 16, 19, 25, 26, 27, 31, 32] : List Nat) → z97 k = z83 k := fun k hk => by have q9 := hzf k hk; rw [y_fiZ oY99 (s_sub (by decide) hk), y_fiZ oY85 (s_sub (by decide) hk)] at q9; exact q9
    have hz0 : ∀ k, k ∈ ([1, 3, 7, 8, 15, 16, 19, 25, 26, 27, 31, 32] : List Nat) → z97 k = z0 k := fun k hk => (hzf k (s_sub (by decide) hk)).trans (hz0 k hk)
    have hfr : ∀ b, K b ∉ [9, 62, 64] → F92 b = F b := fun b hb9 => (hfr1 b (fun q => hb9 (s_sub (by decide) q))).trans (hfr b hb9)
    obtain ⟨v101, ev101⟩ : ∃ y : Int32, y = z97 5 := ⟨_, rfl⟩
    have h94 : (v90.toInt = 0 ∨ ¬ v101.toInt = 0) := by have q9 := h94; rw [y_fiZ oY85 (k := 5) (by decide), ← ep91_5, y_fiZ oY99 (k := 5) (by decide), ← ev101] at q9; exact q9
    exact K56 _ _ _ ⟨F92, _, w6, rfl, lv_sub hl [0, 1] rfl, hP, hS, hI, hfr, (fun k hk => (y_fiZ oY99 (s_sub (by decide) hk)).trans (hz0 k hk)), trivial, (by rw [y_atE o96]; exact h80), (by rw [y_fiZ oY99 (k := 5) (by decide), ← ev101]; omega)⟩
  · intro g H locs hq
    obtain ⟨F105, ls, w5, rfl, hl, hP, hS, hI, hfr, hz0, h102, h103, h104⟩ := hq
    obtain ⟨z106, q107, oY108, bz109⟩ := y_opY hI ha0
    have hz0 : ∀ k, k ∈ ([1, 3, 7, 8, 15, 16, 19, 25, 26, 27, 31, 32] : List Nat) → z106 k = z0 k := fun k hk => (y_fiZ oY108 (s_sub (by decide) hk)).symm.trans (hz0 k hk)
    obtain ⟨f110, o111, b112⟩ := y_op12 hI
    have h103 : f110 = f1 := by have q9 := h103; rw [y_atE o111] at q9; exact q9
    obtain ⟨v113, ev113⟩ : ∃ y : Int32, y = z106 5 := ⟨_, rfl⟩
    have h104 : ((v4.toInt = 0 ∨ ¬ v113.toInt = 0) ∧ (v113.toInt = 0 → (y_c f1 387).toInt ≤ 39)) := by have q9 := h104; rw [y_fiZ oY108 (k := 5) (by decide), ← ev113] at q9; exact q9
    refine lv_aload_n hx hb dX7_lineBegins_56 rfl (lv_at hl 0 rfl) ?_
    refine th_get (D := (dC, dI)) (ci := 7) (v := .int (z106 5)) (C := RX7) (T := TX7) (N := 34) hx hb hts inX7 hown hK hP (hLK _ ha0 (by decide)) oY108 rfl 5 (by decide) (hts _ T_274) (fun _ h9 => h9) rfl dX7_lineBegins_57 ?_
    refine ax_eqi (y := v113) ev113.symm ?_
    refine lv_if_ne (tgt := 68) hx hb dX7_lineBegins_60 (by decide) (fun c114 => ?_) (fun c114 => ?_)
    · have c114 := mt (ax_eq (n := 0) (by decide)).mpr c114
      exact W.vret hx hb hr (fun t ht hW => ⟨⟨F105, rfl, ⟨trivial, trivial, hI, hfr, fun k hk => (y_fiZ oY108 (s_sub (by decide) hk)).trans ((hz0 k hk).trans (y_fiZ oY0 (s_sub (by decide) hk)).symm), (by rw [y_fiZ oY0 (k := 5) (by decide), ← eF_5, y_fiZ oY108 (k := 5) (by decide), ← ev113, y_atE o2, y_atE o111]; exact ⟨by omega, fun _ hg => absurd hg (by omega)⟩)⟩, by rw [ht]; exact hP, va_K.moved hW.alike hK⟩, hS.F ht⟩) hS.2.2 dX7_lineBegins_68
    · have c114 := (ax_eq (n := 0) (by decide)).mp c114
      refine lv_aload_n hx hb dX7_lineBegins_63 rfl (lv_at hl 0 rfl) ?_
      refine lv_iload_n hx hb dX7_lineBegins_64 rfl (lv_at hl 1 rfl) ?_
      have ep115_5 := ev113
      refine va_callv (va_runV (As := [.int w5]) (rest := []) ⟨hx, hb, hml, hown, hts⟩ (y_X7_lineTold l dC dI H.size hLK A hA F105 a0 w5 ha0 hI (by rw [y_atE o111, y_fiZ oY108 (k := 5) (by decide), ← ev113]; rw [h103]; exact ⟨by omega, by omega⟩)) (cwV 1 hts (ax_gV T_1252 T_1254 T_1255 T_265 T_1253) rfl rfl rfl (by decide +kernel) ⟨Nat.le_of_ble_eq_true rfl, Nat.le_of_ble_eq_true rfl⟩) ⟨fun a U g mk q => ⟨q.1, s_pc rfl rfl q.2⟩, s_recv hK hP (hLK _ ha0 (by decide)) (ci := 7) rfl oY108, fun U hU hW => ⟨rfl, s_pw hU hW hP hK hD hN⟩⟩ rfl rfl hl.1 rfl (lv_room (Nat.le_of_ble_eq_true rfl)) dX7_lineBegins_65 ⟨Nat.zero_le _, Nat.zero_le _⟩) hS (fun q _ h => h) (fun q h => h) (fun F116 t H1 locs ht hvm hw hB hz1 hk1 hS => ?_)
      obtain ⟨hP, hK1⟩ := hB
      rw [ht] at hP
      generalize H1 = H at hP hS ⊢
      obtain ⟨h117, h119, hI, hfr1, hzf, h118⟩ := hw
      obtain ⟨z120, q121, oY122, bz123⟩ := y_opY hI ha0
      have hzf : ∀ k, k ∈ ([1, 3, 7, 8, 15, 16, 19, 25, 26, 27, 31, 32] : List Nat) → z120 k = z106 k := fun k hk => by have q9 := hzf k hk; rw [y_fiZ oY122 (s_sub (by decide) hk), y_fiZ oY108 (s_sub (by decide) hk)] at q9; exact q9
      have hz0 : ∀ k, k ∈ ([1, 3, 7, 8, 15, 16, 19, 25, 26, 27, 31, 32] : List Nat) → z120 k = z0 k := fun k hk => (hzf k (s_sub (by decide) hk)).trans (hz0 k hk)
      have hfr : ∀ b, K b ∉ [9, 62, 64] → F116 b = F b := fun b hb9 => (hfr1 b (fun q => hb9 (s_sub (by decide) q))).trans (hfr b hb9)
      obtain ⟨v124, ev124⟩ : ∃ y : Int32, y = z120 5 := ⟨_, rfl⟩
      obtain ⟨f125, o126, b127⟩ := y_op12 hI
      have h118 : ((v113.toInt = 0 ∨ ¬ v124.toInt = 0) ∧ (∀ j : Int, 0 ≤ j → j < 8 * (y_c f110 387).toInt → y_c f125 j = y_c f110 j) ∧ (∀ j : Int, 8 * (y_c f110 387).toInt + 8 ≤ j → j ≠ 387 → y_c f125 j = y_c f110 j) ∧ (v124.toInt = 0 → (y_c f125 387).toInt = (y_c f110 387).toInt + 1 ∧ y_rg f125 (y_c f110 387).toInt)) := by have q9 := h118; rw [y_fiZ oY108 (k := 5) (by decide), ← ep115_5, y_fiZ oY122 (k := 5) (by decide), ← ev124, y_atE o111, y_atE o126] at q9; exact q9
      rw [h103] at h118
      exact W.vret hx hb hr (fun t ht hW => ⟨⟨F116, rfl, ⟨trivial, trivial, hI, hfr, fun k hk => (y_fiZ oY122 (s_sub (by decide) hk)).trans ((hz0 k hk).trans (y_fiZ oY0 (s_sub (by decide) hk)).symm), (by rw [y_fiZ oY0 (k := 5) (by decide), ← eF_5, y_fiZ oY122 (k := 5) (by decide), ← ev124, y_atE o2, y_atE o126]; exact ⟨by have q9 := h118.1; omega, fun hd hg => y_DSl rfl ⟨by omega, by omega⟩ h118.2.1 h118.2.2.1 (h118.2.2.2 hg).1 (h118.2.2.2 hg).2 (hd (by omega))⟩)⟩, by rw [ht]; exact hP, va_K.moved hW.alike hK⟩, hS.F ht⟩) hS.2.2 dX7_lineBegins_68

set_option maxHeartbeats 4000000 in
set_option maxRecDepth 100000 in
theorem y_X7_statementTold (l : Launch) (dC : Nat → ClassId) (dI : Nat → Nat → Nat) (sz : Nat) {L : List Nat} {K : Nat → Nat} {cs : Nat → ClassId} (hLK : ∀ a {k : Nat}, K a = k → k ≠ 0 → a ∈ L) (A : Nat → Nat) (hA : y_A K A) (F : Nat → va_E) (a0 : Nat) (ha0 : K a0 = 9) (hI : y_I K cs A F) (hst : (0 ≤ (y_fi F a0 16).toInt ∧ (y_fi F a0 16).toInt ≤ 80)) : Met l yX7_statementTold (Cond.code yX7_statementTold cX7_statementTold 5 none :: T0) ({ frames := 8, cells := 0, slots := 0, locals := 174 }) (va_Pc [.ref a0] (s_W dC dI sz L F [(cs 0, .int), (cs 1, .byte), (cs 2, .long), (cs 3, .object RX5), (cs 4, .object RX4), (cs 5, .array .int), (cs 6, .char), (cs 7, .boolean)])) (va_Qv (fun (G : Nat → va_E) => True ∧ True ∧ y_I K cs A G ∧ (∀ b, K b ∉ [9, 62, 64] → G b = F b) ∧ (∀ k, k ∈ ([1, 3, 7, 8, 15, 19, 25, 26, 27, 31, 32] : List Nat) → y_fi G a0 k = y_fi F a0 k) ∧ (((y_fi F a0 5).toInt = 0 ∨ ¬ (y_fi G a0 5).toInt = 0) ∧ (((y_fi F a0 5).toInt = 0 → y_DS (y_at F (A 12))) → (y_fi G a0 5).toInt = 0 → y_DS (y_at G (A 12))) ∧ (y_fi G a0 16).toInt = (y_fi F a0 16).toInt + 1 ∧ ((y_fi F a0 16).toInt = 80 → ¬ (y_fi G a0 5).toInt = 0))) (fun (G : Nat → va_E) (t : State) => va_P (dC, dI) vwCl (va_pl L G) t.heap ∧ va_K (dC, dI) vwCl [(cs 0, .int), (cs 1, .byte), (cs 2, .long), (cs 3, .object RX5), (cs 4, .object RX4), (cs 5, .array .int), (cs 6, .char), (cs 7, .boolean)] t) (fun q => q ∈ L)) 0 0 (fun q => q ∈ L) := by
  refine Met.ofW (cc := cX7_statementTold) (maxL := 5) (ret := none) (by decide) rfl ?_
  intro p e s m args below meth c s₁ B hml hv
  obtain ⟨rfl, hsz, hP, hK, hD, hN⟩ := hv
  have hx := B.exec
  have hb := B.bytes
  have hr := B.returns
  have hts : ∀ w ∈ T0, w.before _ s = true := fun w h => atoms_spec (ws := Cond.code yX7_statementTold cX7_statementTold 5 none :: T0) B.pre w (List.mem_cons_of_mem _ h)
  have hown : s.vm.findClass RX7 = some m.cls := findClass_of_methodNamed B.named
  have hlocks := B.notSynchronized
  have hS : va_S (fun q => q ∈ L) s.heap s.heap [] := va_S.rf
  have hfr : ∀ b, K b ∉ [9, 62, 64] → F b = F b := fun _ _ => rfl
  have hl := lv_entry ([.ref a0]) (n := 5) (Nat.le_of_ble_eq_true rfl)
  rw [lg_entry_eq]
  generalize (lg_sl ([.ref a0]) ++ List.replicate (5 - (lg_sl ([.ref a0])).length) Slot.unset).toArray = ls at hl ⊢
  have hl : lv_has ls 5 [(0, .ref a0)] := hl
  refine s_gen hP hS (fun H locs hP hS => ?_)
  obtain ⟨z0, q0, oY0, bz0⟩ := y_opY hI ha0
  have hz0 : ∀ k, k ∈ ([1, 3, 7, 8, 15, 19, 25, 26, 27, 31, 32] : List Nat) → z0 k = z0 k := fun _ _ => rfl
  obtain ⟨f1, o2, b3⟩ := y_op12 hI
  obtain ⟨v4, ev4⟩ : ∃ y : Int32, y = z0 5 := ⟨_, rfl⟩
  have eF_5 := ev4
  obtain ⟨v5, ev5⟩ : ∃ y : Int32, y = z0 16 := ⟨_, rfl⟩
  have eF_16 := ev5
  have hst : (0 ≤ v5.toInt ∧ v5.toInt ≤ 80) := by have q9 := hst; rw [y_fiZ oY0 (k := 16) (by decide), ← ev5] at q9; exact q9
  have hnb : 0 ≤ (y_c f1 387).toInt ∧ (y_c f1 387).toInt ≤ 40 := b3
  have e0_v4 := ev4
  have e0_v5 := ev5
  refine th_join (fun g H locs => ∃ (G : Nat → va_E) (ls : Array Slot), g = F0 m 214 ls [] ∧ lv_has ls 5 [(0, .ref a0)] ∧ va_P (dC, dI) vwCl (va_pl L G) H ∧ va_S (fun q => q ∈ L) s.heap H locs ∧ y_I K cs A G ∧ (∀ b, K b ∉ [9, 62, 64] → G b = F b) ∧ (∀ k, k ∈ ([1, 3, 7, 8, 15, 19, 25, 26, 27, 31, 32] : List Nat) → y_fi G a0 k = z0 k) ∧ ((v4.toInt = 0 → y_DS f1) → (y_fi G a0 5).toInt = 0 → y_DS (y_at G (A 12))) ∧ ((v4.toInt = 0 ∨ ¬ (y_fi G a0 5).toInt = 0) ∧ (v5.toInt = 80 → ¬ (y_fi G a0 5).toInt = 0))) (fun K214 => ?_) ?_
  refine th_join (fun g H locs => ∃ (G : Nat → va_E) (ls : Array Slot) (w6 : Int32), g = F0 m 208 ls [] ∧ lv_has ls 5 [(0, .ref a0), (1, .int w6)] ∧ va_P (dC, dI) vwCl (va_pl L G) H ∧ va_S (fun q => q ∈ L) s.heap H locs ∧ y_I K cs A G ∧ (∀ b, K b ∉ [9, 62, 64] → G b = F b) ∧ (∀ k, k ∈ ([1, 3, 7, 8, 15, 19, 25, 26, 27, 31, 32] : List Nat) → y_fi G a0 k = z0 k) ∧ (0 ≤ w6.toInt ∧ w6.toInt ≤ 1600) ∧ (y_at G (A 12)) = f1 ∧ ((v4.toInt = 0 ∨ ¬ (y_fi G a0 5).toInt = 0) ∧ (v5.toInt = 80 → ¬ (y_fi G a0 5).toInt = 0))) (fun K208 => ?_) ?_
  refine th_join (fun g H locs => ∃ (G : Nat → va_E) (ls : Array Slot) (w7 : Int32) (w8 : Int32), g = F0 m 190 ls [] ∧ lv_has ls 5 [(0, .ref a0), (1, .int w7), (2, .int w8)] ∧ va_P (dC, dI) vwCl (va_pl L G) H ∧ va_S (fun q => q ∈ L) s.heap H locs ∧ y_I K cs A G ∧ (∀ b, K b ∉ [9, 62, 64] → G b = F b) ∧ (∀ k, k ∈ ([1, 3, 7, 8, 15, 19, 25, 26, 27, 31, 32] : List Nat) → y_fi G a0 k = z0 k) ∧ (0 ≤ w7.toInt ∧ w7.toInt ≤ 1600) ∧ True ∧ (y_at G (A 12)) = f1 ∧ ((v4.toInt = 0 ∨ ¬ (y_fi G a0 5).toInt = 0) ∧ (v5.toInt = 80 → ¬ (y_fi G a0 5).toInt = 0))) (fun K190 => ?_) ?_
  refine th_join (fun g H locs => ∃ (G : Nat → va_E) (ls : Array Slot) (w9 : Int32), g = F0 m 20 ls [] ∧ lv_has ls 5 [(0, .ref a0), (1, .int w9)] ∧ va_P (dC, dI) vwCl (va_pl L G) H ∧ va_S (fun q => q ∈ L) s.heap H locs ∧ y_I K cs A G ∧ (∀ b, K b ∉ [9, 62, 64] → G b = F b) ∧ (∀ k, k ∈ ([1, 3, 7, 8, 15, 19, 25, 26, 27, 31, 32] : List Nat) → y_fi G a0 k = z0 k) ∧ (0 ≤ w9.toInt ∧ w9.toInt ≤ 1600) ∧ (y_at G (A 12)) = f1 ∧ ((v4.toInt = 0 ∨ ¬ (y_fi G a0 5).toInt = 0) ∧ (v5.toInt = 80 → ¬ (y_fi G a0 5).toInt = 0))) (fun K20 => ?_) ?_
  · refine lv_aload_n hx hb dX7_statementTold_0 rfl (lv_at hl 0 rfl) ?_
    refine th_get (D := (dC, dI)) (ci := 7) (v := .int (z0 2)) (C := RX7) (T := TX7) (N := 34) hx hb hts inX7 hown hK hP (hLK _ ha0 (by decide)) oY0 rfl 2 (by decide) (hts _ T_272) (fun _ h9 => h9) rfl dX7_statementTold_1 ?_
    refine lv_topi (fun v10 ev10 => ?_)
    have qv10 : 0 ≤ v10.toInt ∧ v10.toInt ≤ 1600 := by rw [ev10]; exact y_bY2 bz0
    refine lv_istore_n (lv' := [(1, .int v10), (0, .ref a0)]) hx hb dX7_statementTold_4 rfl hl (by decide) rfl (fun ls hl => ?_)
    refine lv_aload_n hx hb dX7_statementTold_5 rfl (lv_at hl 1 rfl) ?_
    refine th_get (D := (dC, dI)) (ci := 7) (v := .int (z0 16)) (C := RX7) (T := TX7) (N := 34) hx hb hts inX7 hown hK hP (hLK _ ha0 (by decide)) oY0 rfl 16 (by decide) (hts _ T_306) (fun _ h9 => h9) rfl dX7_statementTold_6 ?_
    refine ax_eqi (y := v5) ev5.symm ?_
    refine lv_bipush (v := 80) hx hb dX7_statementTold_9 (by decide) ?_
    refine lv_icmp_ne (tgt := 20) hx hb dX7_statementTold_11 (by decide) (fun c11 => ?_) (fun c11 => ?_)
    · have c11 := mt (ax_eq (n := 80) (by decide)).mpr c11
      exact K20 _ _ _ ⟨F, _, v10, rfl, lv_sub hl [1, 0] rfl, hP, hS, hI, hfr, (fun k hk => (y_fiZ oY0 (s_sub (by decide) hk)).trans (hz0 k hk)), ⟨by omega, by omega⟩, (by rw [y_atE o2]; exact rfl), (by rw [y_fiZ oY0 (k := 5) (by decide), ← ev4]; omega)⟩
    · have c11 := (ax_eq (n := 80) (by decide)).mp c11
      refine lv_aload_n hx hb dX7_statementTold_14 rfl (lv_at hl 1 rfl) ?_
      refine lv_iconst (v := 5) hx hb dX7_statementTold_15 (by decide) ?_
      refine lv_iload_n hx hb dX7_statementTold_16 rfl (lv_at hl 0 rfl) ?_
      refine va_callv (va_runV (As := [.int 5, .int v10]) (rest := []) ⟨hx, hb, hml, hown, hts⟩ (y_X7_fail l dC dI H.size hLK A hA F a0 5 v10 ha0 (by decide) hI) (cwV 2 hts (ax_gV T_290 T_291 T_292 T_265 T_27) rfl rfl rfl (by decide +kernel) ⟨Nat.le_of_ble_eq_true rfl, Nat.le_of_ble_eq_true rfl⟩) ⟨fun a U g mk q => ⟨q.1, s_pc rfl rfl q.2⟩, s_recv hK hP (hLK _ ha0 (by decide)) (ci := 7) rfl oY0, fun U hU hW => ⟨rfl, s_pw hU hW hP hK hD hN⟩⟩ rfl rfl hl.1 rfl (lv_room (Nat.le_of_ble_eq_true rfl)) dX7_statementTold_17 ⟨Nat.zero_le _, Nat.zero_le _⟩) hS (fun q _ h => h) (fun q h => h) (fun F13 t H1 locs ht hvm hw hB hz1 hk1 hS => ?_)
      obtain ⟨hP, hK1⟩ := hB
      rw [ht] at hP
      generalize H1 = H at hP hS ⊢
      obtain ⟨h14, h16, hI, hfr1, hzf, h15⟩ := hw
      have o17 : F13 (A 12) = .inl (cs 0, 400, .inl f1) := (hfr1 _ (by rw [(y_k12 hA)]; decide)).trans o2
      obtain ⟨z18, q19, oY20, bz21⟩ := y_opY hI ha0
      have hzf : ∀ k, k ∈ ([1, 2, 3, 4, 7, 8, 11, 15, 16, 19, 25, 26, 27, 31, 32] : List Nat) → z18 k = z0 k := fun k hk => by have q9 := hzf k hk; rw [y_fiZ oY20 (s_sub (by decide) hk), y_fiZ oY0 (s_sub (by decide) hk)] at q9; exact q9
      have hz0 : ∀ k, k ∈ ([1, 3, 7, 8, 15, 19, 25, 26, 27, 31, 32] : List Nat) → z18 k = z0 k := fun k hk => (hzf k (s_sub (by decide) hk)).trans (hz0 k hk)
      have ev5 : v5 = z18 16 := ev5.trans (hzf 16 (by decide)).symm
      have ev10 : v10 = z18 2 := ev10.trans (hzf 2 (by decide)).symm
      have hfr : ∀ b, K b ∉ [9, 62, 64] → F13 b = F b := fun b hb9 => (hfr1 b (fun q => hb9 (s_sub (by decide) q))).trans (hfr b hb9)
      obtain ⟨v22, ev22⟩ : ∃ y : Int32, y = z18 5 := ⟨_, rfl⟩
      have h15 : (¬ v22.toInt = 0) := by have q9 := h15; rw [y_fiZ oY20 (k := 5) (by decide), ← ev22] at q9; exact q9
      exact K20 _ _ _ ⟨F13, _, v10, rfl, lv_sub hl [1, 0] rfl, hP, hS, hI, hfr, (fun k hk => (y_fiZ oY20 (s_sub (by decide) hk)).trans (hz0 k hk)), ⟨by omega, by omega⟩, (by rw [y_atE o17]; exact rfl), (by rw [y_fiZ oY20 (k := 5) (by decide), ← ev22]; omega)⟩
  · intro g H locs hq
    obtain ⟨F26, ls, w9, rfl, hl, hP, hS, hI, hfr, hz0, h23, h24, h25⟩ := hq
    obtain ⟨z27, q28, oY29, bz30⟩ := y_opY hI ha0
    have hz0 : ∀ k, k ∈ ([1, 3, 7, 8, 15, 19, 25, 26, 27, 31, 32] : List Nat) → z27 k = z0 k := fun k hk => (y_fiZ oY29 (s_sub (by decide) hk)).symm.trans (hz0 k hk)
    obtain ⟨f31, o32, b33⟩ := y_op12 hI
    have h24 : f31 = f1 := by have q9 := h24; rw [y_atE o32] at q9; exact q9
    obtain ⟨v34, ev34⟩ : ∃ y : Int32, y = z27 5 := ⟨_, rfl⟩
    have h25 : ((v4.toInt = 0 ∨ ¬ v34.toInt = 0) ∧ (v5.toInt = 80 → ¬ v34.toInt = 0)) := by have q9 := h25; rw [y_fiZ oY29 (k := 5) (by decide), ← ev34] at q9; exact q9
    refine lv_aload_n hx hb dX7_statementTold_20 rfl (lv_at hl 0 rfl) ?_
    refine va_calli (va_runV (As := []) (rest := []) ⟨hx, hb, hml, hown, hts⟩ (y_X7_ownHere l dC dI H.size hLK A hA F26 a0 ha0 hI) (cwV 0 hts (ax_gV T_283 T_284 T_285 T_265 T_25) rfl rfl rfl (by decide +kernel) ⟨Nat.le_of_ble_eq_true rfl, Nat.le_of_ble_eq_true rfl⟩) ⟨fun a U g mk q => ⟨q.1, s_pc rfl rfl q.2⟩, s_recv hK hP (hLK _ ha0 (by decide)) (ci := 7) rfl oY29, fun U hU hW => ⟨rfl, s_pw hU hW hP hK hD hN⟩⟩ rfl rfl hl.1 rfl (lv_room (Nat.le_of_ble_eq_true rfl)) dX7_statementTold_21 ⟨Nat.zero_le _, Nat.zero_le _⟩) hS (fun q _ h => h) (fun q h => h) (fun r36 F37 t H1 locs ht hvm hw hB hz1 hk1 hS => ?_)
    obtain ⟨hP, hK1⟩ := hB
    rw [ht] at hP
    generalize H1 = H at hP hS ⊢
    obtain ⟨h38, h40, hI, hfr1, hzf, h39⟩ := hw
    have o41 : F37 (A 12) = .inl (cs 0, 400, .inl f31) := (hfr1 _ (by rw [(y_k12 hA)]; decide)).trans o32
    obtain ⟨z42, q43, oY44, bz45⟩ := y_opY hI ha0
    have hzf : ∀ k, k ∈ ([1, 3, 4, 5, 6, 7, 8, 11, 15, 16, 19, 25, 26, 27, 31, 32] : List Nat) → z42 k = z27 k := fun k hk => by have q9 := hzf k hk; rw [y_fiZ oY44 (s_sub (by decide) hk), y_fiZ oY29 (s_sub (by decide) hk)] at q9; exact q9
    have hz0 : ∀ k, k ∈ ([1, 3, 7, 8, 15, 19, 25, 26, 27, 31, 32] : List Nat) → z42 k = z0 k := fun k hk => (hzf k (s_sub (by decide) hk)).trans (hz0 k hk)
    have ev34 : v34 = z42 5 := ev34.trans (hzf 5 (by decide)).symm
    have hfr : ∀ b, K b ∉ [9, 62, 64] → F37 b = F b := fun b hb9 => (hfr1 b (fun q => hb9 (s_sub (by decide) q))).trans (hfr b hb9)
    refine lv_istore_n (lv' := [(2, .int r36), (0, .ref a0), (1, .int w9)]) hx hb dX7_statementTold_24 rfl hl (by decide) rfl (fun ls hl => ?_)
    refine lv_aload_n hx hb dX7_statementTold_25 rfl (lv_at hl 1 rfl) ?_
    refine lv_bipush (v := 21) hx hb dX7_statementTold_26 (by decide) ?_
    refine va_calli (va_runV (As := [.int 21]) (rest := []) ⟨hx, hb, hml, hown, hts⟩ (y_X7_takes l dC dI H.size hLK A hA F37 a0 21 ha0 hI) (cwV 1 hts (ax_gV T_287 T_288 T_289 T_265 T_26) rfl rfl rfl (by decide +kernel) ⟨Nat.le_of_ble_eq_true rfl, Nat.le_of_ble_eq_true rfl⟩) ⟨fun a U g mk q => ⟨q.1, s_pc rfl rfl q.2⟩, s_recv hK hP (hLK _ ha0 (by decide)) (ci := 7) rfl oY44, fun U hU hW => ⟨rfl, s_pw hU hW hP hK hD hN⟩⟩ rfl rfl hl.1 rfl (lv_room (Nat.le_of_ble_eq_true rfl)) dX7_statementTold_28 ⟨Nat.zero_le _, Nat.zero_le _⟩) hS (fun q _ h => h) (fun q h => h) (fun r47 F48 t H1 locs ht hvm hw hB hz1 hk1 hS => ?_)
    obtain ⟨hP, hK1⟩ := hB
    rw [ht] at hP
    generalize H1 = H at hP hS ⊢
    obtain ⟨h49, h51, hI, hfr1, hzf, h50⟩ := hw
    have o52 : F48 (A 12) = .inl (cs 0, 400, .inl f31) := (hfr1 _ (by rw [(y_k12 hA)]; decide)).trans o41
    obtain ⟨z53, q54, oY55, bz56⟩ := y_opY hI ha0
    have hzf : ∀ k, k ∈ ([1, 3, 5, 6, 7, 8, 11, 15, 16, 19, 25, 26, 27, 31, 32] : List Nat) → z53 k = z42 k := fun k hk => by have q9 := hzf k hk; rw [y_fiZ oY55 (s_sub (by decide) hk), y_fiZ oY44 (s_sub (by decide) hk)] at q9; exact q9
    have hz0 : ∀ k, k ∈ ([1, 3, 7, 8, 15, 19, 25, 26, 27, 31, 32] : List Nat) → z53 k = z0 k := fun k hk => (hzf k (s_sub (by decide) hk)).trans (hz0 k hk)
    have ev34 : v34 = z53 5 := ev34.trans (hzf 5 (by decide)).symm
    have hfr : ∀ b, K b ∉ [9, 62, 64] → F48 b = F b := fun b hb9 => (hfr1 b (fun q => hb9 (s_sub (by decide) q))).trans (hfr b hb9)
    refine lv_if_eq (tgt := 74) hx hb dX7_statementTold_31 (by decide) (fun c57 => ?_) (fun c57 => ?_)
    · have c57 := (ax_eq (n := 0) (by decide)).mp c57
      refine lv_aload_n hx hb dX7_statementTold_74 rfl (lv_at hl 1 rfl) ?_
      refine lv_bipush (v := 22) hx hb dX7_statementTold_75 (by decide) ?_
      refine va_calli (va_runV (As := [.int 22]) (rest := []) ⟨hx, hb, hml, hown, hts⟩ (y_X7_takes l dC dI H.size hLK A hA F48 a0 22 ha0 hI) (cwV 1 hts (ax_gV T_287 T_288 T_289 T_265 T_26) rfl rfl rfl (by decide +kernel) ⟨Nat.le_of_ble_eq_true rfl, Nat.le_of_ble_eq_true rfl⟩) ⟨fun a U g mk q => ⟨q.1, s_pc rfl rfl q.2⟩, s_recv hK hP (hLK _ ha0 (by decide)) (ci := 7) rfl oY55, fun U hU hW => ⟨rfl, s_pw hU hW hP hK hD hN⟩⟩ rfl rfl hl.1 rfl (lv_room (Nat.le_of_ble_eq_true rfl)) dX7_statementTold_77 ⟨Nat.zero_le _, Nat.zero_le _⟩) hS (fun q _ h => h) (fun q h => h) (fun r59 F60 t H1 locs ht hvm hw hB hz1 hk1 hS => ?_)
      obtain ⟨hP, hK1⟩ := hB
      rw [ht] at hP
      generalize H1 = H at hP hS ⊢
      obtain ⟨h61, h63, hI, hfr1, hzf, h62⟩ := hw
      have o64 : F60 (A 12) = .inl (cs 0, 400, .inl f31) := (hfr1 _ (by rw [(y_k12 hA)]; decide)).trans o52
      obtain ⟨z65, q66, oY67, bz68⟩ := y_opY hI ha0
      have hzf : ∀ k, k ∈ ([1, 3, 5, 6, 7, 8, 11, 15, 16, 19, 25, 26, 27, 31, 32] : List Nat) → z65 k = z53 k := fun k hk => by have q9 := hzf k hk; rw [y_fiZ oY67 (s_sub (by decide) hk), y_fiZ oY55 (s_sub (by decide) hk)] at q9; exact q9
      have hz0 : ∀ k, k ∈ ([1, 3, 7, 8, 15, 19, 25, 26, 27, 31, 32] : List Nat) → z65 k = z0 k := fun k hk => (hzf k (s_sub (by decide) hk)).trans (hz0 k hk)
      have ev34 : v34 = z65 5 := ev34.trans (hzf 5 (by decide)).symm
      have hfr : ∀ b, K b ∉ [9, 62, 64] → F60 b = F b := fun b hb9 => (hfr1 b (fun q => hb9 (s_sub (by decide) q))).trans (hfr b hb9)
      refine lv_if_eq (tgt := 120) hx hb dX7_statementTold_80 (by decide) (fun c69 => ?_) (fun c69 => ?_)
      · have c69 := (ax_eq (n := 0) (by decide)).mp c69
        refine lv_aload_n hx hb dX7_statementTold_120 rfl (lv_at hl 1 rfl) ?_
        refine lv_bipush (v := 25) hx hb dX7_statementTold_121 (by decide) ?_
        refine va_calli (va_runV (As := [.int 25]) (rest := []) ⟨hx, hb, hml, hown, hts⟩ (y_X7_takes l dC dI H.size hLK A hA F60 a0 25 ha0 hI) (cwV 1 hts (ax_gV T_287 T_288 T_289 T_265 T_26) rfl rfl rfl (by decide +kernel) ⟨Nat.le_of_ble_eq_true rfl, Nat.le_of_ble_eq_true rfl⟩) ⟨fun a U g mk q => ⟨q.1, s_pc rfl rfl q.2⟩, s_recv hK hP (hLK _ ha0 (by decide)) (ci := 7) rfl oY67, fun U hU hW => ⟨rfl, s_pw hU hW hP hK hD hN⟩⟩ rfl rfl hl.1 rfl (lv_room (Nat.le_of_ble_eq_true rfl)) dX7_statementTold_123 ⟨Nat.zero_le _, Nat.zero_le _⟩) hS (fun q _ h => h) (fun q h => h) (fun r71 F72 t H1 locs ht hvm hw hB hz1 hk1 hS => ?_)
        obtain ⟨hP, hK1⟩ := hB
        rw [ht] at hP
        generalize H1 = H at hP hS ⊢
        obtain ⟨h73, h75, hI, hfr1, hzf, h74⟩ := hw
        have o76 : F72 (A 12) = .inl (cs 0, 400, .inl f31) := (hfr1 _ (by rw [(y_k12 hA)]; decide)).trans o64
        obtain ⟨z77, q78, oY79, bz80⟩ := y_opY hI ha0
        have hzf : ∀ k, k ∈ ([1, 3, 5, 6, 7, 8, 11, 15, 16, 19, 25, 26, 27, 31, 32] : List Nat) → z77 k = z65 k := fun k hk => by have q9 := hzf k hk; rw [y_fiZ oY79 (s_sub (by decide) hk), y_fiZ oY67 (s_sub (by decide) hk)] at q9; exact q9
        have hz0 : ∀ k, k ∈ ([1, 3, 7, 8, 15, 19, 25, 26, 27, 31, 32] : List Nat) → z77 k = z0 k := fun k hk => (hzf k (s_sub (by decide) hk)).trans (hz0 k hk)
        have ev34 : v34 = z77 5 := ev34.trans (hzf 5 (by decide)).symm
        have hfr : ∀ b, K b ∉ [9, 62, 64] → F72 b = F b := fun b hb9 => (hfr1 b (fun q => hb9 (s_sub (by decide) q))).trans (hfr b hb9)
        refine lv_if_eq (tgt := 166) hx hb dX7_statementTold_126 (by decide) (fun c81 => ?_) (fun c81 => ?_)
        · have c81 := (ax_eq (n := 0) (by decide)).mp c81
          refine lv_iload_n hx hb dX7_statementTold_166 rfl (lv_at hl 0 rfl) ?_
          refine lv_i2l hx hb dX7_statementTold_167 rfl ?_
          refine lv_topl (fun v82 ev82 => ?_)
          have qv82 : v82.toInt = r36.toInt := y_i2l ev82
          refine lv_lconst (v := 0) hx hb dX7_statementTold_168 (by decide) ?_
          refine lv_ldc2 hx hb hown (hts _ T_1256) dX7_statementTold_169 ?_
          refine va_calli (va_runS (As := [.long v82, .long 0, .long 15]) (rest := []) ⟨hx, hb, hml, hown, hts⟩ (y_X7_isIn l dC dI H.size F72 v82 0 15) (cwS 3 hts (ax_gS T_267 T_268 T_265 T_21) rfl rfl rfl (by decide +kernel) ⟨Nat.le_of_ble_eq_true rfl, Nat.le_of_ble_eq_true rfl⟩) ⟨fun a U g mk q => ⟨q.1, s_pc rfl rfl q.2⟩, fun U hU hW => ⟨rfl, s_pw hU hW hP hK hD hN⟩⟩ rfl rfl hl.1 rfl (lv_room (Nat.le_of_ble_eq_true rfl)) dX7_statementTold_172 ⟨Nat.zero_le _, Nat.zero_le _⟩) hS (fun q _ h => h) (fun q h => h) (fun r84 F85 t H1 locs ht hvm hw hB hz1 hk1 hS => ?_)
          obtain ⟨hP, hK1⟩ := hB
          rw [ht] at hP
          generalize H1 = H at hP hS ⊢
          obtain ⟨h86, h88, hG9, h87⟩ := hw
          rw [hG9] at hP
          have h87 : ((r84.toInt = 0 ∧ (v82.toInt < 0 ∨ 15 < v82.toInt)) ∨ (r84.toInt = 1 ∧ 0 ≤ v82.toInt ∧ v82.toInt ≤ 15)) := by have q9 := h87; exact q9
          refine lv_if_ne (tgt := 190) hx hb dX7_statementTold_175 (by decide) (fun c89 => ?_) (fun c89 => ?_)
          · have c89 := mt (ax_eq (n := 0) (by decide)).mpr c89
            exact K190 _ _ _ ⟨F72, _, w9, r36, rfl, lv_sub hl [1, 2, 0] rfl, hP, hS, hI, hfr, (fun k hk => (y_fiZ oY79 (s_sub (by decide) hk)).trans (hz0 k hk)), ⟨by omega, by omega⟩, trivial, (by rw [y_atE o76]; exact h24), (by rw [y_fiZ oY79 (k := 5) (by decide), ← ev34]; omega)⟩
          · have c89 := (ax_eq (n := 0) (by decide)).mp c89
            refine lv_aload_n hx hb dX7_statementTold_178 rfl (lv_at hl 1 rfl) ?_
            refine va_calli (va_runV (As := []) (rest := []) ⟨hx, hb, hml, hown, hts⟩ (y_X7_isWordHere l dC dI H.size hLK A hA F72 a0 ha0 hI) (cwV 0 hts (ax_gV T_280 T_281 T_282 T_265 T_24) rfl rfl rfl (by decide +kernel) ⟨Nat.le_of_ble_eq_true rfl, Nat.le_of_ble_eq_true rfl⟩) ⟨fun a U g mk q => ⟨q.1, s_pc rfl rfl q.2⟩, s_recv hK hP (hLK _ ha0 (by decide)) (ci := 7) rfl oY79, fun U hU hW => ⟨rfl, s_pw hU hW hP hK hD hN⟩⟩ rfl rfl hl.1 rfl (lv_room (Nat.le_of_ble_eq_true rfl)) dX7_statementTold_179 ⟨Nat.zero_le _, Nat.zero_le _⟩) hS (fun q _ h => h) (fun q h => h) (fun r91 F92 t H1 locs ht hvm hw hB hz1 hk1 hS => ?_)
            obtain ⟨hP, hK1⟩ := hB
            rw [ht] at hP
            generalize H1 = H at hP hS ⊢
            obtain ⟨h93, h95, hI, hfr1, hzf, h94⟩ := hw
            have o96 : F92 (A 12) = .inl (cs 0, 400, .inl f31) := (hfr1 _ (by rw [(y_k12 hA)]; decide)).trans o76
            obtain ⟨z97, q98, oY99, bz100⟩ := y_opY hI ha0
            have hzf : ∀ k, k ∈ ([1, 3, 4, 5, 6, 7, 8, 11, 15, 16, 19, 25, 26, 27, 31, 32] : List Nat) → z97 k = z77 k := fun k hk => by have q9 := hzf k hk; rw [y_fiZ oY99 (s_sub (by decide) hk), y_fiZ oY79 (s_sub (by decide) hk)] at q9; exact q9
            have hz0 : ∀ k, k ∈ ([1, 3, 7, 8, 15, 19, 25, 26, 27, 31, 32] : List Nat) → z97 k = z0 k := fun k hk => (hzf k (s_sub (by decide) hk)).trans (hz0 k hk)
            have ev34 : v34 = z97 5 := ev34.trans (hzf 5 (by decide)).symm
            have hfr : ∀ b, K b ∉ [9, 62, 64] → F92 b = F b := fun b hb9 => (hfr1 b (fun q => hb9 (s_sub (by decide) q))).trans (hfr b hb9)
            obtain ⟨v101, ev101⟩ : ∃ y : Int32, y = z97 2 := ⟨_, rfl⟩
            have qv101 : 0 ≤ v101.toInt ∧ v101.toInt ≤ 1600 := by rw [ev101]; exact y_bY2 bz100
            obtain ⟨v102, ev102⟩ : ∃ y : Int32, y = z97 3 := ⟨_, rfl⟩
            have qv102 : 0 ≤ v102.toInt ∧ v102.toInt ≤ 1600 := by rw [ev102]; exact y_bY3 bz100
            have h94 : (r91.toInt = 0 ∨ v101.toInt < v102.toInt) := by have q9 := h94; rw [y_fiZ oY99 (k := 2) (by decide), ← ev101, y_fiZ oY99 (k := 3) (by decide), ← ev102] at q9; exact q9
            refine lv_if_eq (tgt := 208) hx hb dX7_statementTold_182 (by decide) (fun c103 => ?_) (fun c103 => ?_)
            · have c103 := (ax_eq (n := 0) (by decide)).mp c103
              exact K208 _ _ _ ⟨F92, _, w9, rfl, lv_sub hl [1, 2] rfl, hP, hS, hI, hfr, (fun k hk => (y_fiZ oY99 (s_sub (by decide) hk)).trans (hz0 k hk)), ⟨by omega, by omega⟩, (by rw [y_atE o96]; exact h24), (by rw [y_fiZ oY99 (k := 5) (by decide), ← ev34]; omega)⟩
            · have c103 := mt (ax_eq (n := 0) (by decide)).mpr c103
              refine lv_iload_n hx hb dX7_statementTold_185 rfl (lv_at hl 0 rfl) ?_
              refine lv_iconst (v := (-1)) hx hb dX7_statementTold_186 (by decide) ?_
              refine lv_icmp_ne (tgt := 208) hx hb dX7_statementTold_187 (by decide) (fun c104 => ?_) (fun c104 => ?_)
              · have c104 := mt (ax_eq (n := (-1)) (by decide)).mpr c104
                exact K208 _ _ _ ⟨F92, _, w9, rfl, lv_sub hl [1, 2] rfl, hP, hS, hI, hfr, (fun k hk => (y_fiZ oY99 (s_sub (by decide) hk)).trans (hz0 k hk)), ⟨by omega, by omega⟩, (by rw [y_atE o96]; exact h24), (by rw [y_fiZ oY99 (k := 5) (by decide), ← ev34]; omega)⟩
              · have c104 := (ax_eq (n := (-1)) (by decide)).mp c104
                exact K190 _ _ _ ⟨F92, _, w9, r36, rfl, lv_sub hl [1, 2, 0] rfl, hP, hS, hI, hfr, (fun k hk => (y_fiZ oY99 (s_sub (by decide) hk)).trans (hz0 k hk)), ⟨by omega, by omega⟩, trivial, (by rw [y_atE o96]; exact h24), (by rw [y_fiZ oY99 (k := 5) (by decide), ← ev34]; omega)⟩
        · have c81 := mt (ax_eq (n := 0) (by decide)).mpr c81
          refine lv_aload_n hx hb dX7_statementTold_129 rfl (lv_at hl 1 rfl) ?_
          refine th_get (D := (dC, dI)) (ci := 7) (v := .ref (A 12)) (C := RX7) (T := TX7) (N := 34) hx hb hts inX7 hown hK hP (hLK _ ha0 (by decide)) oY79 rfl 12 (by decide) (hts _ T_245) (fun _ h9 => h9) rfl dX7_statementTold_130 ?_
          refine lv_sipush (v := 386) hx hb dX7_statementTold_133 (by decide) ?_
          refine lv_aload_n hx hb dX7_statementTold_136 rfl (lv_at hl 1 rfl) ?_
          refine lv_bipush (v := 27) hx hb dX7_statementTold_137 (by decide) ?_
          refine va_calli (va_runV (As := [.int 27]) (rest := [.int 386, .ref (A 12)]) ⟨hx, hb, hml, hown, hts⟩ (y_X7_takes l dC dI H.size hLK A hA F72 a0 27 ha0 hI) (cwV 1 hts (ax_gV T_287 T_288 T_289 T_265 T_26) rfl rfl rfl (by decide +kernel) ⟨Nat.le_of_ble_eq_true rfl, Nat.le_of_ble_eq_true rfl⟩) ⟨fun a U g mk q => ⟨q.1, s_pc rfl rfl q.2⟩, s_recv hK hP (hLK _ ha0 (by decide)) (ci := 7) rfl oY79, fun U hU hW => ⟨rfl, s_pw hU hW hP hK hD hN⟩⟩ rfl rfl hl.1 rfl (lv_room (Nat.le_of_ble_eq_true rfl)) dX7_statementTold_139 ⟨Nat.zero_le _, Nat.zero_le _⟩) hS (fun q _ h => h) (fun q h => h) (fun r106 F107 t H1 locs ht hvm hw hB hz1 hk1 hS => ?_)
          obtain ⟨hP, hK1⟩ := hB
          rw [ht] at hP
          generalize H1 = H at hP hS ⊢
          obtain ⟨h108, h110, hI, hfr1, hzf, h109⟩ := hw
          have o111 : F107 (A 12) = .inl (cs 0, 400, .inl f31) := (hfr1 _ (by rw [(y_k12 hA)]; decide)).trans o76
          obtain ⟨z112, q113, oY114, bz115⟩ := y_opY hI ha0
          have hzf : ∀ k, k ∈ ([1, 3, 5, 6, 7, 8, 11, 15, 16, 19, 25, 26, 27, 31, 32] : List Nat) → z112 k = z77 k := fun k hk => by have q9 := hzf k hk; rw [y_fiZ oY114 (s_sub (by decide) hk), y_fiZ oY79 (s_sub (by decide) hk)] at q9; exact q9
          have hz0 : ∀ k, k ∈ ([1, 3, 7, 8, 15, 19, 25, 26, 27, 31, 32] : List Nat) → z112 k = z0 k := fun k hk => (hzf k (s_sub (by decide) hk)).trans (hz0 k hk)
          have ev34 : v34 = z112 5 := ev34.trans (hzf 5 (by decide)).symm
          have hfr : ∀ b, K b ∉ [9, 62, 64] → F107 b = F b := fun b hb9 => (hfr1 b (fun q => hb9 (s_sub (by decide) q))).trans (hfr b hb9)
          refine va_calli (va_runS (As := [.int r106]) (rest := [.int 386, .ref (A 12)]) ⟨hx, hb, hml, hown, hts⟩ (y_X7_flag l dC dI H.size F107 r106 (⟨by omega, by omega⟩)) (cwS 1 hts (ax_gS T_1001 T_1003 T_265 T_1002) rfl rfl rfl (by decide +kernel) ⟨Nat.le_of_ble_eq_true rfl, Nat.le_of_ble_eq_true rfl⟩) ⟨fun a U g mk q => ⟨q.1, s_pc rfl rfl q.2⟩, fun U hU hW => ⟨rfl, s_pw hU hW hP hK hD hN⟩⟩ rfl rfl hl.1 rfl (lv_room (Nat.le_of_ble_eq_true rfl)) dX7_statementTold_142 ⟨Nat.zero_le _, Nat.zero_le _⟩) hS (fun q _ h => h) (fun q h => h) (fun r117 F118 t H1 locs ht hvm hw hB hz1 hk1 hS => ?_)
          obtain ⟨hP, hK1⟩ := hB
          rw [ht] at hP
          generalize H1 = H at hP hS ⊢
          obtain ⟨h119, h121, hG9, h120⟩ := hw
          rw [hG9] at hP
          refine th_iast hx hb hK hP hD hS (hLK _ (y_k12 hA) (by decide)) 0 o111 rfl (ax_in (by decide)) dX7_statementTold_145 (fun H locs hP hS => ?_)
          obtain ⟨f122, u123⟩ : ∃ g : Nat → Int32, g = upd f31 (386 : Int32).toNatClampNeg r117 := ⟨_, rfl⟩
          rw [← u123] at hP
          have b124 : y_bd 12 f122 := by rw [u123]; exact th_updJ (P := fun y => 0 ≤ y.toInt ∧ y.toInt ≤ 40) b33 (fun q => absurd q (by decide))
          have hP : va_P (dC, dI) vwCl (va_pl L (va_up F107 (A 12) (.inl (cs 0, 400, .inl f122)))) H := hP
          obtain ⟨F125, hF126⟩ : ∃ G : Nat → va_E, G = va_up F107 (A 12) (.inl (cs 0, 400, .inl f122)) := ⟨_, rfl⟩
          rw [← hF126] at hP
          have hI : y_I K cs A F125 := by rw [hF126]; exact y_clA (i := 12) hA hI (by decide) b124
          have hfr : ∀ b, K b ∉ [9, 62, 64] → F125 b = F b := by rw [hF126]; exact s_fr hfr (y_k12 hA) (by decide)
          have oY127 : F125 a0 = .inr (7, y_fl A z112 q113) := by rw [hF126]; exact th_ne (th_kd ha0 (y_k12 hA) (by decide)) oY114
          have o128 : F125 (A 12) = .inl (cs 0, 400, .inl f122) := by rw [hF126]; exact th_up
          have u129 : ∀ j : Int, 0 ≤ j → y_c f122 j = if j = 386 then r117 else y_c f31 j := by rw [u123]; exact y_cu (by decide) (by decide)
          refine lv_aload_n hx hb dX7_statementTold_146 rfl (lv_at hl 1 rfl) ?_
          refine th_get (D := (dC, dI)) (ci := 7) (v := .ref (A 12)) (C := RX7) (T := TX7) (N := 34) hx hb hts inX7 hown hK hP (hLK _ ha0 (by decide)) oY127 rfl 12 (by decide) (hts _ T_245) (fun _ h9 => h9) rfl dX7_statementTold_147 ?_
          refine lv_sipush (v := 386) hx hb dX7_statementTold_150 (by decide) ?_
          refine th_iald hx hb hK hP (hLK _ (y_k12 hA) (by decide)) 0 o128 rfl (ax_in (by decide)) dX7_statementTold_153 ?_
          refine lv_topi (fun v130 ev130 => ?_)
          refine lv_if_ne (tgt := 214) hx hb dX7_statementTold_154 (by decide) (fun c131 => ?_) (fun c131 => ?_)
          · have c131 := mt (ax_eq (n := 0) (by decide)).mpr c131
            exact K214 _ _ _ ⟨F125, _, rfl, lv_sub hl [1] rfl, hP, hS, hI, hfr, (fun k hk => (y_fiZ oY127 (s_sub (by decide) hk)).trans (hz0 k hk)), (by rw [y_fiZ oY127 (k := 5) (by decide), ← ev34, y_atE o128]; exact (fun hd hg => y_DSp u129 (by omega) ⟨by omega, by omega⟩ (by rw [h24]; omega) (by rw [h24]; exact hd (by omega)))), (by rw [y_fiZ oY127 (k := 5) (by decide), ← ev34]; omega)⟩
          · have c131 := (ax_eq (n := 0) (by decide)).mp c131
            refine lv_aload_n hx hb dX7_statementTold_157 rfl (lv_at hl 1 rfl) ?_
            refine lv_bipush (v := 26) hx hb dX7_statementTold_158 (by decide) ?_
            have ep132_5 := ev34
            refine va_callv (va_runV (As := [.int 26]) (rest := []) ⟨hx, hb, hml, hown, hts⟩ (y_X7_asks l dC dI H.size hLK A hA F125 a0 26 ha0 hI) (cwV 1 hts (ax_gV T_297 T_298 T_299 T_265 T_29) rfl rfl rfl (by decide +kernel) ⟨Nat.le_of_ble_eq_true rfl, Nat.le_of_ble_eq_true rfl⟩) ⟨fun a U g mk q => ⟨q.1, s_pc rfl rfl q.2⟩, s_recv hK hP (hLK _ ha0 (by decide)) (ci := 7) rfl oY127, fun U hU hW => ⟨rfl, s_pw hU hW hP hK hD hN⟩⟩ rfl rfl hl.1 rfl (lv_room (Nat.le_of_ble_eq_true rfl)) dX7_statementTold_160 ⟨Nat.zero_le _, Nat.zero_le _⟩) hS (fun q _ h => h) (fun q h => h) (fun F133 t H1 locs ht hvm hw hB hz1 hk1 hS => ?_)
            obtain ⟨hP, hK1⟩ := hB
            rw [ht] at hP
            generalize H1 = H at hP hS ⊢
            obtain ⟨h134, h136, hI, hfr1, hzf, h135⟩ := hw
            have o137 : F133 (A 12) = .inl (cs 0, 400, .inl f122) := (hfr1 _ (by rw [(y_k12 hA)]; decide)).trans o128
            obtain ⟨z138, q139, oY140, bz141⟩ := y_opY hI ha0
            have hzf : ∀ k, k ∈ ([1, 3, 7, 8, 11, 15, 16, 19, 25, 26, 27, 31, 32] : List Nat) → z138 k = z112 k := fun k hk => by have q9 := hzf k hk; rw [y_fiZ oY140 (s_sub (by decide) hk), y_fiZ oY127 (s_sub (by decide) hk)] at q9; exact q9
            have hz0 : ∀ k, k ∈ ([1, 3, 7, 8, 15, 19, 25, 26, 27, 31, 32] : List Nat) → z138 k = z0 k := fun k hk => (hzf k (s_sub (by decide) hk)).trans (hz0 k hk)
            have hfr : ∀ b, K b ∉ [9, 62, 64] → F133 b = F b := fun b hb9 => (hfr1 b (fun q => hb9 (s_sub (by decide) q))).trans (hfr b hb9)
            obtain ⟨v142, ev142⟩ : ∃ y : Int32, y = z138 5 := ⟨_, rfl⟩
            have h135 : (v34.toInt = 0 ∨ ¬ v142.toInt = 0) := by have q9 := h135; rw [y_fiZ oY127 (k := 5) (by decide), ← ep132_5, y_fiZ oY140 (k := 5) (by decide), ← ev142] at q9; exact q9
            refine lv_goto (tgt := 214) hx hb dX7_statementTold_163 (by decide) ?_
            exact K214 _ _ _ ⟨F133, _, rfl, lv_sub hl [1] rfl, hP, hS, hI, hfr, (fun k hk => (y_fiZ oY140 (s_sub (by decide) hk)).trans (hz0 k hk)), (by rw [y_fiZ oY140 (k := 5) (by decide), ← ev142, y_atE o137]; exact (fun hd hg => y_DSp u129 (by omega) ⟨by omega, by omega⟩ (by rw [h24]; omega) (by rw [h24]; exact hd (by omega)))), (by rw [y_fiZ oY140 (k := 5) (by decide), ← ev142]; omega)⟩
      · have c69 := mt (ax_eq (n := 0) (by decide)).mpr c69
        refine lv_aload_n hx hb dX7_statementTold_83 rfl (lv_at hl 1 rfl) ?_
        refine th_get (D := (dC, dI)) (ci := 7) (v := .ref (A 12)) (C := RX7) (T := TX7) (N := 34) hx hb hts inX7 hown hK hP (hLK _ ha0 (by decide)) oY67 rfl 12 (by decide) (hts _ T_245) (fun _ h9 => h9) rfl dX7_statementTold_84 ?_
        refine lv_sipush (v := 385) hx hb dX7_statementTold_87 (by decide) ?_
        refine lv_aload_n hx hb dX7_statementTold_90 rfl (lv_at hl 1 rfl) ?_
        refine lv_bipush (v := 24) hx hb dX7_statementTold_91 (by decide) ?_
        refine va_calli (va_runV (As := [.int 24]) (rest := [.int 385, .ref (A 12)]) ⟨hx, hb, hml, hown, hts⟩ (y_X7_takes l dC dI H.size hLK A hA F60 a0 24 ha0 hI) (cwV 1 hts (ax_gV T_287 T_288 T_289 T_265 T_26) rfl rfl rfl (by decide +kernel) ⟨Nat.le_of_ble_eq_true rfl, Nat.le_of_ble_eq_true rfl⟩) ⟨fun a U g mk q => ⟨q.1, s_pc rfl rfl q.2⟩, s_recv hK hP (hLK _ ha0 (by decide)) (ci := 7) rfl oY67, fun U hU hW => ⟨rfl, s_pw hU hW hP hK hD hN⟩⟩ rfl rfl hl.1 rfl (lv_room (Nat.le_of_ble_eq_true rfl)) dX7_statementTold_93 ⟨Nat.zero_le _, Nat.zero_le _⟩) hS (fun q _ h => h) (fun q h => h) (fun r144 F145 t H1 locs ht hvm hw hB hz1 hk1 hS => ?_)
        obtain ⟨hP, hK1⟩ := hB
        rw [ht] at hP
        generalize H1 = H at hP hS ⊢
        obtain ⟨h146, h148, hI, hfr1, hzf, h147⟩ := hw
        have o149 : F145 (A 12) = .inl (cs 0, 400, .inl f31) := (hfr1 _ (by rw [(y_k12 hA)]; decide)).trans o64
        obtain ⟨z150, q151, oY152, bz153⟩ := y_opY hI ha0
        have hzf : ∀ k, k ∈ ([1, 3, 5, 6, 7, 8, 11, 15, 16, 19, 25, 26, 27, 31, 32] : List Nat) → z150 k = z65 k := fun k hk => by have q9 := hzf k hk; rw [y_fiZ oY152 (s_sub (by decide) hk), y_fiZ oY67 (s_sub (by decide) hk)] at q9; exact q9
        have hz0 : ∀ k, k ∈ ([1, 3, 7, 8, 15, 19, 25, 26, 27, 31, 32] : List Nat) → z150 k = z0 k := fun k hk => (hzf k (s_sub (by decide) hk)).trans (hz0 k hk)
        have ev34 : v34 = z150 5 := ev34.trans (hzf 5 (by decide)).symm
        have hfr : ∀ b, K b ∉ [9, 62, 64] → F145 b = F b := fun b hb9 => (hfr1 b (fun q => hb9 (s_sub (by decide) q))).trans (hfr b hb9)
        refine va_calli (va_runS (As := [.int r144]) (rest := [.int 385, .ref (A 12)]) ⟨hx, hb, hml, hown, hts⟩ (y_X7_flag l dC dI H.size F145 r144 (⟨by omega, by omega⟩)) (cwS 1 hts (ax_gS T_1001 T_1003 T_265 T_1002) rfl rfl rfl (by decide +kernel) ⟨Nat.le_of_ble_eq_true rfl, Nat.le_of_ble_eq_true rfl⟩) ⟨fun a U g mk q => ⟨q.1, s_pc rfl rfl q.2⟩, fun U hU hW => ⟨rfl, s_pw hU hW hP hK hD hN⟩⟩ rfl rfl hl.1 rfl (lv_room (Nat.le_of_ble_eq_true rfl)) dX7_statementTold_96 ⟨Nat.zero_le _, Nat.zero_le _⟩) hS (fun q _ h => h) (fun q h => h) (fun r155 F156 t H1 locs ht hvm hw hB hz1 hk1 hS => ?_)
        obtain ⟨hP, hK1⟩ := hB
        rw [ht] at hP
        generalize H1 = H at hP hS ⊢
        obtain ⟨h157, h159, hG9, h158⟩ := hw
        rw [hG9] at hP
        refine th_iast hx hb hK hP hD hS (hLK _ (y_k12 hA) (by decide)) 0 o149 rfl (ax_in (by decide)) dX7_statementTold_99 (fun H locs hP hS => ?_)
        obtain ⟨f160, u161⟩ : ∃ g : Nat → Int32, g = upd f31 (385 : Int32).toNatClampNeg r155 := ⟨_, rfl⟩
        rw [← u161] at hP
        have b162 : y_bd 12 f160 := by rw [u161]; exact th_updJ (P := fun y => 0 ≤ y.toInt ∧ y.toInt ≤ 40) b33 (fun q => absurd q (by decide))
        have hP : va_P (dC, dI) vwCl (va_pl L (va_up F145 (A 12) (.inl (cs 0, 400, .inl f160)))) H := hP
        obtain ⟨F163, hF164⟩ : ∃ G : Nat → va_E, G = va_up F145 (A 12) (.inl (cs 0, 400, .inl f160)) := ⟨_, rfl⟩
        rw [← hF164] at hP
        have hI : y_I K cs A F163 := by rw [hF164]; exact y_clA (i := 12) hA hI (by decide) b162
        have hfr : ∀ b, K b ∉ [9, 62, 64] → F163 b = F b := by rw [hF164]; exact s_fr hfr (y_k12 hA) (by decide)
        have oY165 : F163 a0 = .inr (7, y_fl A z150 q151) := by rw [hF164]; exact th_ne (th_kd ha0 (y_k12 hA) (by decide)) oY152
        have o166 : F163 (A 12) = .inl (cs 0, 400, .inl f160) := by rw [hF164]; exact th_up
        have u167 : ∀ j : Int, 0 ≤ j → y_c f160 j = if j = 385 then r155 else y_c f31 j := by rw [u161]; exact y_cu (by decide) (by decide)
        refine lv_aload_n hx hb dX7_statementTold_100 rfl (lv_at hl 1 rfl) ?_
        refine th_get (D := (dC, dI)) (ci := 7) (v := .ref (A 12)) (C := RX7) (T := TX7) (N := 34) hx hb hts inX7 hown hK hP (hLK _ ha0 (by decide)) oY165 rfl 12 (by decide) (hts _ T_245) (fun _ h9 => h9) rfl dX7_statementTold_101 ?_
        refine lv_sipush (v := 385) hx hb dX7_statementTold_104 (by decide) ?_
        refine th_iald hx hb hK hP (hLK _ (y_k12 hA) (by decide)) 0 o166 rfl (ax_in (by decide)) dX7_statementTold_107 ?_
        refine lv_topi (fun v168 ev168 => ?_)
        refine lv_if_ne (tgt := 214) hx hb dX7_statementTold_108 (by decide) (fun c169 => ?_) (fun c169 => ?_)
        · have c169 := mt (ax_eq (n := 0) (by decide)).mpr c169
          exact K214 _ _ _ ⟨F163, _, rfl, lv_sub hl [1] rfl, hP, hS, hI, hfr, (fun k hk => (y_fiZ oY165 (s_sub (by decide) hk)).trans (hz0 k hk)), (by rw [y_fiZ oY165 (k := 5) (by decide), ← ev34, y_atE o166]; exact (fun hd hg => y_DSp u167 (by omega) ⟨by omega, by omega⟩ (by rw [h24]; omega) (by rw [h24]; exact hd (by omega)))), (by rw [y_fiZ oY165 (k := 5) (by decide), ← ev34]; omega)⟩
        · have c169 := (ax_eq (n := 0) (by decide)).mp c169
          refine lv_aload_n hx hb dX7_statementTold_111 rfl (lv_at hl 1 rfl) ?_
          refine lv_bipush (v := 23) hx hb dX7_statementTold_112 (by decide) ?_
          have ep170_5 := ev34
          refine va_callv (va_runV (As := [.int 23]) (rest := []) ⟨hx, hb, hml, hown, hts⟩ (y_X7_asks l dC dI H.size hLK A hA F163 a0 23 ha0 hI) (cwV 1 hts (ax_gV T_297 T_298 T_299 T_265 T_29) rfl rfl rfl (by decide +kernel) ⟨Nat.le_of_ble_eq_true rfl, Nat.le_of_ble_eq_true rfl⟩) ⟨fun a U g mk q => ⟨q.1, s_pc rfl rfl q.2⟩, s_recv hK hP (hLK _ ha0 (by decide)) (ci := 7) rfl oY165, fun U hU hW => ⟨rfl, s_pw hU hW hP hK hD hN⟩⟩ rfl rfl hl.1 rfl (lv_room (Nat.le_of_ble_eq_true rfl)) dX7_statementTold_114 ⟨Nat.zero_le _, Nat.zero_le _⟩) hS (fun q _ h => h) (fun q h => h) (fun F171 t H1 locs ht hvm hw hB hz1 hk1 hS => ?_)
          obtain ⟨hP, hK1⟩ := hB
          rw [ht] at hP
          generalize H1 = H at hP hS ⊢
          obtain ⟨h172, h174, hI, hfr1, hzf, h173⟩ := hw
          have o175 : F171 (A 12) = .inl (cs 0, 400, .inl f160) := (hfr1 _ (by rw [(y_k12 hA)]; decide)).trans o166
          obtain ⟨z176, q177, oY178, bz179⟩ := y_opY hI ha0
          have hzf : ∀ k, k ∈ ([1, 3, 7, 8, 11, 15, 16, 19, 25, 26, 27, 31, 32] : List Nat) → z176 k = z150 k := fun k hk => by have q9 := hzf k hk; rw [y_fiZ oY178 (s_sub (by decide) hk), y_fiZ oY165 (s_sub (by decide) hk)] at q9; exact q9
          have hz0 : ∀ k, k ∈ ([1, 3, 7, 8, 15, 19, 25, 26, 27, 31, 32] : List Nat) → z176 k = z0 k := fun k hk => (hzf k (s_sub (by decide) hk)).trans (hz0 k hk)
          have hfr : ∀ b, K b ∉ [9, 62, 64] → F171 b = F b := fun b hb9 => (hfr1 b (fun q => hb9 (s_sub (by decide) q))).trans (hfr b hb9)
          obtain ⟨v180, ev180⟩ : ∃ y : Int32, y = z176 5 := ⟨_, rfl⟩
          have h173 : (v34.toInt = 0 ∨ ¬ v180.toInt = 0) := by have q9 := h173; rw [y_fiZ oY165 (k := 5) (by decide), ← ep170_5, y_fiZ oY178 (k := 5) (by decide), ← ev180] at q9; exact q9
          refine lv_goto (tgt := 214) hx hb dX7_statementTold_117 (by decide) ?_
          exact K214 _ _ _ ⟨F171, _, rfl, lv_sub hl [1] rfl, hP, hS, hI, hfr, (fun k hk => (y_fiZ oY178 (s_sub (by decide) hk)).trans (hz0 k hk)), (by rw [y_fiZ oY178 (k := 5) (by decide), ← ev180, y_atE o175]; exact (fun hd hg => y_DSp u167 (by omega) ⟨by omega, by omega⟩ (by rw [h24]; omega) (by rw [h24]; exact hd (by omega)))), (by rw [y_fiZ oY178 (k := 5) (by decide), ← ev180]; omega)⟩
    · have c57 := mt (ax_eq (n := 0) (by decide)).mpr c57
      refine lv_aload_n hx hb dX7_statementTold_34 rfl (lv_at hl 1 rfl) ?_
      refine lv_iconst (v := 0) hx hb dX7_statementTold_35 (by decide) ?_
      refine lv_bipush (v := 63) hx hb dX7_statementTold_36 (by decide) ?_
      have ep181_5 := ev34
      refine va_calli (va_runV (As := [.int 0, .int 63]) (rest := []) ⟨hx, hb, hml, hown, hts⟩ (y_X7_number l dC dI H.size hLK A hA F48 a0 0 63 ha0 hI) (cwV 2 hts (ax_gV T_300 T_301 T_302 T_265 T_30) rfl rfl rfl (by decide +kernel) ⟨Nat.le_of_ble_eq_true rfl, Nat.le_of_ble_eq_true rfl⟩) ⟨fun a U g mk q => ⟨q.1, s_pc rfl rfl q.2⟩, s_recv hK hP (hLK _ ha0 (by decide)) (ci := 7) rfl oY55, fun U hU hW => ⟨rfl, s_pw hU hW hP hK hD hN⟩⟩ rfl rfl hl.1 rfl (lv_room (Nat.le_of_ble_eq_true rfl)) dX7_statementTold_38 ⟨Nat.zero_le _, Nat.zero_le _⟩) hS (fun q _ h => h) (fun q h => h) (fun r182 F183 t H1 locs ht hvm hw hB hz1 hk1 hS => ?_)
      obtain ⟨hP, hK1⟩ := hB
      rw [ht] at hP
      generalize H1 = H at hP hS ⊢
      obtain ⟨h184, h186, hI, hfr1, hzf, h185⟩ := hw
      have o187 : F183 (A 12) = .inl (cs 0, 400, .inl f31) := (hfr1 _ (by rw [(y_k12 hA)]; decide)).trans o52
      obtain ⟨z188, q189, oY190, bz191⟩ := y_opY hI ha0
      have hzf : ∀ k, k ∈ ([1, 3, 7, 8, 11, 15, 16, 19, 25, 26, 27, 31, 32] : List Nat) → z188 k = z53 k := fun k hk => by have q9 := hzf k hk; rw [y_fiZ oY190 (s_sub (by decide) hk), y_fiZ oY55 (s_sub (by decide) hk)] at q9; exact q9
      have hz0 : ∀ k, k ∈ ([1, 3, 7, 8, 15, 19, 25, 26, 27, 31, 32] : List Nat) → z188 k = z0 k := fun k hk => (hzf k (s_sub (by decide) hk)).trans (hz0 k hk)
      have hfr : ∀ b, K b ∉ [9, 62, 64] → F183 b = F b := fun b hb9 => (hfr1 b (fun q => hb9 (s_sub (by decide) q))).trans (hfr b hb9)
      obtain ⟨v192, ev192⟩ : ∃ y : Int32, y = z188 5 := ⟨_, rfl⟩
      have h185 : ((v34.toInt = 0 ∨ ¬ v192.toInt = 0) ∧ (v192.toInt = 0 → 0 ≤ r182.toInt ∧ r182.toInt ≤ 63)) := by have q9 := h185; rw [y_fiZ oY55 (k := 5) (by decide), ← ep181_5, y_fiZ oY190 (k := 5) (by decide), ← ev192] at q9; exact q9
      refine lv_istore_n (lv' := [(3, .int r182), (2, .int r36), (0, .ref a0), (1, .int w9)]) hx hb dX7_statementTold_41 rfl hl (by decide) rfl (fun ls hl => ?_)
      refine lv_aload_n hx hb dX7_statementTold_42 rfl (lv_at hl 2 rfl) ?_
      refine lv_iconst (v := 0) hx hb dX7_statementTold_43 (by decide) ?_
      refine lv_sipush (v := 999) hx hb dX7_statementTold_44 (by decide) ?_
      have ep193_5 := ev192
      refine va_calli (va_runV (As := [.int 0, .int 999]) (rest := []) ⟨hx, hb, hml, hown, hts⟩ (y_X7_number l dC dI H.size hLK A hA F183 a0 0 999 ha0 hI) (cwV 2 hts (ax_gV T_300 T_301 T_302 T_265 T_30) rfl rfl rfl (by decide +kernel) ⟨Nat.le_of_ble_eq_true rfl, Nat.le_of_ble_eq_true rfl⟩) ⟨fun a U g mk q => ⟨q.1, s_pc rfl rfl q.2⟩, s_recv hK hP (hLK _ ha0 (by decide)) (ci := 7) rfl oY190, fun U hU hW => ⟨rfl, s_pw hU hW hP hK hD hN⟩⟩ rfl rfl hl.1 rfl (lv_room (Nat.le_of_ble_eq_true rfl)) dX7_statementTold_47 ⟨Nat.zero_le _, Nat.zero_le _⟩) hS (fun q _ h => h) (fun q h => h) (fun r194 F195 t H1 locs ht hvm hw hB hz1 hk1 hS => ?_)
      obtain ⟨hP, hK1⟩ := hB
      rw [ht] at hP
      generalize H1 = H at hP hS ⊢
      obtain ⟨h196, h198, hI, hfr1, hzf, h197⟩ := hw
      have o199 : F195 (A 12) = .inl (cs 0, 400, .inl f31) := (hfr1 _ (by rw [(y_k12 hA)]; decide)).trans o187
      obtain ⟨z200, q201, oY202, bz203⟩ := y_opY hI ha0
      have hzf : ∀ k, k ∈ ([1, 3, 7, 8, 11, 15, 16, 19, 25, 26, 27, 31, 32] : List Nat) → z200 k = z188 k := fun k hk => by have q9 := hzf k hk; rw [y_fiZ oY202 (s_sub (by decide) hk), y_fiZ oY190 (s_sub (by decide) hk)] at q9; exact q9
      have hz0 : ∀ k, k ∈ ([1, 3, 7, 8, 15, 19, 25, 26, 27, 31, 32] : List Nat) → z200 k = z0 k := fun k hk => (hzf k (s_sub (by decide) hk)).trans (hz0 k hk)
      have hfr : ∀ b, K b ∉ [9, 62, 64] → F195 b = F b := fun b hb9 => (hfr1 b (fun q => hb9 (s_sub (by decide) q))).trans (hfr b hb9)
      obtain ⟨v204, ev204⟩ : ∃ y : Int32, y = z200 5 := ⟨_, rfl⟩
      have h197 : ((v192.toInt = 0 ∨ ¬ v204.toInt = 0) ∧ (v204.toInt = 0 → 0 ≤ r194.toInt ∧ r194.toInt ≤ 999)) := by have q9 := h197; rw [y_fiZ oY190 (k := 5) (by decide), ← ep193_5, y_fiZ oY202 (k := 5) (by decide), ← ev204] at q9; exact q9
      refine lv_istore (lv' := [(4, .int r194), (3, .int r182), (2, .int r36), (0, .ref a0), (1, .int w9)]) hx hb dX7_statementTold_50 hl (by decide) rfl (fun ls hl => ?_)
      refine lv_aload_n hx hb dX7_statementTold_52 rfl (lv_at hl 3 rfl) ?_
      refine th_get (D := (dC, dI)) (ci := 7) (v := .int (z200 5)) (C := RX7) (T := TX7) (N := 34) hx hb hts inX7 hown hK hP (hLK _ ha0 (by decide)) oY202 rfl 5 (by decide) (hts _ T_274) (fun _ h9 => h9) rfl dX7_statementTold_53 ?_
      refine ax_eqi (y := v204) ev204.symm ?_
      refine lv_if_ne (tgt := 71) hx hb dX7_statementTold_56 (by decide) (fun c205 => ?_) (fun c205 => ?_)
      · have c205 := mt (ax_eq (n := 0) (by decide)).mpr c205
        refine lv_goto (tgt := 214) hx hb dX7_statementTold_71 (by decide) ?_
        exact K214 _ _ _ ⟨F195, _, rfl, lv_sub hl [3] rfl, hP, hS, hI, hfr, (fun k hk => (y_fiZ oY202 (s_sub (by decide) hk)).trans (hz0 k hk)), (by rw [y_fiZ oY202 (k := 5) (by decide), ← ev204, y_atE o199]; exact (fun hd hg => (by rw [h24]; exact hd (by omega)))), (by rw [y_fiZ oY202 (k := 5) (by decide), ← ev204]; omega)⟩
      · have c205 := (ax_eq (n := 0) (by decide)).mp c205
        refine lv_aload_n hx hb dX7_statementTold_59 rfl (lv_at hl 3 rfl) ?_
        refine th_get (D := (dC, dI)) (ci := 7) (v := .ref (A 12)) (C := RX7) (T := TX7) (N := 34) hx hb hts inX7 hown hK hP (hLK _ ha0 (by decide)) oY202 rfl 12 (by decide) (hts _ T_245) (fun _ h9 => h9) rfl dX7_statementTold_60 ?_
        refine lv_sipush (v := 320) hx hb dX7_statementTold_63 (by decide) ?_
        refine lv_iload_n hx hb dX7_statementTold_66 rfl (lv_at hl 1 rfl) ?_
        have h206 : 0 ≤ r182.toInt ∧ r182.toInt ≤ 63 := ⟨by omega, by omega⟩
        refine lv_iadd hx hb dX7_statementTold_67 ?_
        refine lv_topi (fun v207 ev207 => ?_)
        have qv207 : v207.toInt = 320 + r182.toInt := by rw [ev207]; exact th_add (by decide) rfl ⟨by omega, by omega⟩
        refine lv_iload hx hb dX7_statementTold_68 (lv_at hl 0 rfl) ?_
        refine th_iast hx hb hK hP hD hS (hLK _ (y_k12 hA) (by decide)) 0 o199 rfl (th_in ⟨by omega, by omega⟩) dX7_statementTold_70 (fun H locs hP hS => ?_)
        obtain ⟨f208, u209⟩ : ∃ g : Nat → Int32, g = upd f31 (v207 : Int32).toNatClampNeg r194 := ⟨_, rfl⟩
        rw [← u209] at hP
        have b210 : y_bd 12 f208 := by rw [u209]; exact th_updJ (P := fun y => 0 ≤ y.toInt ∧ y.toInt ≤ 40) b33 (fun q => by have q2 := th_tn (by omega) q; omega)
        have hP : va_P (dC, dI) vwCl (va_pl L (va_up F195 (A 12) (.inl (cs 0, 400, .inl f208)))) H := hP
        obtain ⟨F211, hF212⟩ : ∃ G : Nat → va_E, G = va_up F195 (A 12) (.inl (cs 0, 400, .inl f208)) := ⟨_, rfl⟩
        rw [← hF212] at hP
        have hI : y_I K cs A F211 := by rw [hF212]; exact y_clA (i := 12) hA hI (by decide) b210
        have hfr : ∀ b, K b ∉ [9, 62, 64] → F211 b = F b := by rw [hF212]; exact s_fr hfr (y_k12 hA) (by decide)
        have oY213 : F211 a0 = .inr (7, y_fl A z200 q201) := by rw [hF212]; exact th_ne (th_kd ha0 (y_k12 hA) (by decide)) oY202
        have o214 : F211 (A 12) = .inl (cs 0, 400, .inl f208) := by rw [hF212]; exact th_up
        have u215 : ∀ j : Int, 0 ≤ j → y_c f208 j = if j = v207.toInt then r194 else y_c f31 j := by rw [u209]; exact y_cu rfl (by omega)
        refine lv_goto (tgt := 214) hx hb dX7_statementTold_71 (by decide) ?_
        exact K214 _ _ _ ⟨F211, _, rfl, lv_sub hl [3] rfl, hP, hS, hI, hfr, (fun k hk => (y_fiZ oY213 (s_sub (by decide) hk)).trans (hz0 k hk)), (by rw [y_fiZ oY213 (k := 5) (by decide), ← ev204, y_atE o214]; exact (fun hd hg => y_DSC (fun j h0 h1 => by rw [u215 j h0, if_neg (by omega)]) (by rw [h24]; omega) (by rw [h24]; exact hd (by omega)))), (by rw [y_fiZ oY213 (k := 5) (by decide), ← ev204]; omega)⟩
  · intro g H locs hq
    obtain ⟨F220, ls, w7, w8, rfl, hl, hP, hS, hI, hfr, hz0, h216, h217, h218, h219⟩ := hq
    obtain ⟨z221, q222, oY223, bz224⟩ := y_opY hI ha0
    have hz0 : ∀ k, k ∈ ([1, 3, 7, 8, 15, 19, 25, 26, 27, 31, 32] : List Nat) → z221 k = z0 k := fun k hk => (y_fiZ oY223 (s_sub (by decide) hk)).symm.trans (hz0 k hk)
    obtain ⟨f225, o226, b227⟩ := y_op12 hI
    have h218 : f225 = f1 := by have q9 := h218; rw [y_atE o226] at q9; exact q9
    obtain ⟨v228, ev228⟩ : ∃ y : Int32, y = z221 5 := ⟨_, rfl⟩
    have h219 : ((v4.toInt = 0 ∨ ¬ v228.toInt = 0) ∧ (v5.toInt = 80 → ¬ v228.toInt = 0)) := by have q9 := h219; rw [y_fiZ oY223 (k := 5) (by decide), ← ev228] at q9; exact q9
    refine lv_aload_n hx hb dX7_statementTold_190 rfl (lv_at hl 0 rfl) ?_
    refine lv_iload_n hx hb dX7_statementTold_191 rfl (lv_at hl 1 rfl) ?_
    refine lv_iload_n hx hb dX7_statementTold_192 rfl (lv_at hl 2 rfl) ?_
    refine lv_iconst (v := (-1)) hx hb dX7_statementTold_193 (by decide) ?_
    refine lv_icmp_ne (tgt := 201) hx hb dX7_statementTold_194 (by decide) (fun c229 => ?_) (fun c229 => ?_)
    · have c229 := mt (ax_eq (n := (-1)) (by decide)).mpr c229
      refine lv_iconst (v := 0) hx hb dX7_statementTold_201 (by decide) ?_
      have ep230_5 := ev228
      refine va_callv (va_runV (As := [.int w7, .int 0]) (rest := []) ⟨hx, hb, hml, hown, hts⟩ (y_X7_lineBegins l dC dI H.size hLK A hA F220 a0 w7 0 ha0 (by decide) hI) (cwV 2 hts (ax_gV T_1311 T_1313 T_1314 T_265 T_1312) rfl rfl rfl (by decide +kernel) ⟨Nat.le_of_ble_eq_true rfl, Nat.le_of_ble_eq_true rfl⟩) ⟨fun a U g mk q => ⟨q.1, s_pc rfl rfl q.2⟩, s_recv hK hP (hLK _ ha0 (by decide)) (ci := 7) rfl oY223, fun U hU hW => ⟨rfl, s_pw hU hW hP hK hD hN⟩⟩ rfl rfl hl.1 rfl (lv_room (Nat.le_of_ble_eq_true rfl)) dX7_statementTold_202 ⟨Nat.zero_le _, Nat.zero_le _⟩) hS (fun q _ h => h) (fun q h => h) (fun F231 t H1 locs ht hvm hw hB hz1 hk1 hS => ?_)
      obtain ⟨hP, hK1⟩ := hB
      rw [ht] at hP
      generalize H1 = H at hP hS ⊢
      obtain ⟨h232, h234, hI, hfr1, hzf, h233⟩ := hw
      obtain ⟨z235, q236, oY237, bz238⟩ := y_opY hI ha0
      have hzf : ∀ k, k ∈ ([1, 3, 7, 8, 15, 16, 19, 25, 26, 27, 31, 32] : List Nat) → z235 k = z221 k := fun k hk => by have q9 := hzf k hk; rw [y_fiZ oY237 (s_sub (by decide) hk), y_fiZ oY223 (s_sub (by decide) hk)] at q9; exact q9
      have hz0 : ∀ k, k ∈ ([1, 3, 7, 8, 15, 19, 25, 26, 27, 31, 32] : List Nat) → z235 k = z0 k := fun k hk => (hzf k (s_sub (by decide) hk)).trans (hz0 k hk)
      have hfr : ∀ b, K b ∉ [9, 62, 64] → F231 b = F b := fun b hb9 => (hfr1 b (fun q => hb9 (s_sub (by decide) q))).trans (hfr b hb9)
      obtain ⟨v239, ev239⟩ : ∃ y : Int32, y = z235 5 := ⟨_, rfl⟩
      obtain ⟨f240, o241, b242⟩ := y_op12 hI
      have h233 : ((v228.toInt = 0 ∨ ¬ v239.toInt = 0) ∧ ((v228.toInt = 0 → y_DS f225) → v239.toInt = 0 → y_DS f240)) := by have q9 := h233; rw [y_fiZ oY223 (k := 5) (by decide), ← ep230_5, y_fiZ oY237 (k := 5) (by decide), ← ev239, y_atE o226, y_atE o241] at q9; exact q9
      refine lv_goto (tgt := 214) hx hb dX7_statementTold_205 (by decide) ?_
      exact K214 _ _ _ ⟨F231, _, rfl, lv_sub hl [0] rfl, hP, hS, hI, hfr, (fun k hk => (y_fiZ oY237 (s_sub (by decide) hk)).trans (hz0 k hk)), (by rw [y_fiZ oY237 (k := 5) (by decide), ← ev239, y_atE o241]; exact (fun hd hg => h233.2 (fun hb => (by rw [h218]; exact hd (by omega))) hg)), (by rw [y_fiZ oY237 (k := 5) (by decide), ← ev239]; omega)⟩
    · have c229 := (ax_eq (n := (-1)) (by decide)).mp c229
      refine lv_iconst (v := 1) hx hb dX7_statementTold_197 (by decide) ?_
      refine lv_goto (tgt := 202) hx hb dX7_statementTold_198 (by decide) ?_
      have ep243_5 := ev228
      refine va_callv (va_runV (As := [.int w7, .int 1]) (rest := []) ⟨hx, hb, hml, hown, hts⟩ (y_X7_lineBegins l dC dI H.size hLK A hA F220 a0 w7 1 ha0 (by decide) hI) (cwV 2 hts (ax_gV T_1311 T_1313 T_1314 T_265 T_1312) rfl rfl rfl (by decide +kernel) ⟨Nat.le_of_ble_eq_true rfl, Nat.le_of_ble_eq_true rfl⟩) ⟨fun a U g mk q => ⟨q.1, s_pc rfl rfl q.2⟩, s_recv hK hP (hLK _ ha0 (by decide)) (ci := 7) rfl oY223, fun U hU hW => ⟨rfl, s_pw hU hW hP hK hD hN⟩⟩ rfl rfl hl.1 rfl (lv_room (Nat.le_of_ble_eq_true rfl)) dX7_statementTold_202 ⟨Nat.zero_le _, Nat.zero_le _⟩) hS (fun q _ h => h) (fun q h => h) (fun F244 t H1 locs ht hvm hw hB hz1 hk1 hS => ?_)
      obtain ⟨hP, hK1⟩ := hB
      rw [ht] at hP
      generalize H1 = H at hP hS ⊢
      obtain ⟨h245, h247, hI, hfr1, hzf, h246⟩ := hw
      obtain ⟨z248, q249, oY250, bz251⟩ := y_opY hI ha0
      have hzf : ∀ k, k ∈ ([1, 3, 7, 8, 15, 16, 19, 25, 26, 27, 31, 32] : List Nat) → z248 k = z221 k := fun k hk => by have q9 := hzf k hk; rw [y_fiZ oY250 (s_sub (by decide) hk), y_fiZ oY223 (s_sub (by decide) hk)] at q9; exact q9
      have hz0 : ∀ k, k ∈ ([1, 3, 7, 8, 15, 19, 25, 26, 27, 31, 32] : List Nat) → z248 k = z0 k := fun k hk => (hzf k (s_sub (by decide) hk)).trans (hz0 k hk)
      have hfr : ∀ b, K b ∉ [9, 62, 64] → F244 b = F b := fun b hb9 => (hfr1 b (fun q => hb9 (s_sub (by decide) q))).trans (hfr b hb9)
      obtain ⟨v252, ev252⟩ : ∃ y : Int32, y = z248 5 := ⟨_, rfl⟩
      obtain ⟨f253, o254, b255⟩ := y_op12 hI
      have h246 : ((v228.toInt = 0 ∨ ¬ v252.toInt = 0) ∧ ((v228.toInt = 0 → y_DS f225) → v252.toInt = 0 → y_DS f253)) := by have q9 := h246; rw [y_fiZ oY223 (k := 5) (by decide), ← ep243_5, y_fiZ oY250 (k := 5) (by decide), ← ev252, y_atE o226, y_atE o254] at q9; exact q9
      refine lv_goto (tgt := 214) hx hb dX7_statementTold_205 (by decide) ?_
      exact K214 _ _ _ ⟨F244, _, rfl, lv_sub hl [0] rfl, hP, hS, hI, hfr, (fun k hk => (y_fiZ oY250 (s_sub (by decide) hk)).trans (hz0 k hk)), (by rw [y_fiZ oY250 (k := 5) (by decide), ← ev252, y_atE o254]; exact (fun hd hg => h246.2 (fun hb => (by rw [h218]; exact hd (by omega))) hg)), (by rw [y_fiZ oY250 (k := 5) (by decide), ← ev252]; omega)⟩
  · intro g H locs hq
    obtain ⟨F259, ls, w6, rfl, hl, hP, hS, hI, hfr, hz0, h256, h257, h258⟩ := hq
    obtain ⟨z260, q261, oY262, bz263⟩ := y_opY hI ha0
    have hz0 : ∀ k, k ∈ ([1, 3, 7, 8, 15, 19, 25, 26, 27, 31, 32] : List Nat) → z260 k = z0 k := fun k hk => (y_fiZ oY262 (s_sub (by decide) hk)).symm.trans (hz0 k hk)
    obtain ⟨f264, o265, b266⟩ := y_op12 hI
    have h257 : f264 = f1 := by have q9 := h257; rw [y_atE o265] at q9; exact q9
    obtain ⟨v267, ev267⟩ : ∃ y : Int32, y = z260 5 := ⟨_, rfl⟩
    have h258 : ((v4.toInt = 0 ∨ ¬ v267.toInt = 0) ∧ (v5.toInt = 80 → ¬ v267.toInt = 0)) := by have q9 := h258; rw [y_fiZ oY262 (k := 5) (by decide), ← ev267] at q9; exact q9
    refine lv_aload_n hx hb dX7_statementTold_208 rfl (lv_at hl 0 rfl) ?_
    refine lv_iconst (v := 1) hx hb dX7_statementTold_209 (by decide) ?_
    refine lv_iload_n hx hb dX7_statementTold_210 rfl (lv_at hl 1 rfl) ?_
    refine va_callv (va_runV (As := [.int 1, .int w6]) (rest := []) ⟨hx, hb, hml, hown, hts⟩ (y_X7_fail l dC dI H.size hLK A hA F259 a0 1 w6 ha0 (by decide) hI) (cwV 2 hts (ax_gV T_290 T_291 T_292 T_265 T_27) rfl rfl rfl (by decide +kernel) ⟨Nat.le_of_ble_eq_true rfl, Nat.le_of_ble_eq_true rfl⟩) ⟨fun a U g mk q => ⟨q.1, s_pc rfl rfl q.2⟩, s_recv hK hP (hLK _ ha0 (by decide)) (ci := 7) rfl oY262, fun U hU hW => ⟨rfl, s_pw hU hW hP hK hD hN⟩⟩ rfl rfl hl.1 rfl (lv_room (Nat.le_of_ble_eq_true rfl)) dX7_statementTold_211 ⟨Nat.zero_le _, Nat.zero_le _⟩) hS (fun q _ h => h) (fun q h => h) (fun F269 t H1 locs ht hvm hw hB hz1 hk1 hS => ?_)
    obtain ⟨hP, hK1⟩ := hB
    rw [ht] at hP
    generalize H1 = H at hP hS ⊢
    obtain ⟨h270, h272, hI, hfr1, hzf, h271⟩ := hw
    have o273 : F269 (A 12) = .inl (cs 0, 400, .inl f264) := (hfr1 _ (by rw [(y_k12 hA)]; decide)).trans o265
    obtain ⟨z274, q275, oY276, bz277⟩ := y_opY hI ha0
    have hzf : ∀ k, k ∈ ([1, 2, 3, 4, 7, 8, 11, 15, 16, 19, 25, 26, 27, 31, 32] : List Nat) → z274 k = z260 k := fun k hk => by have q9 := hzf k hk; rw [y_fiZ oY276 (s_sub (by decide) hk), y_fiZ oY262 (s_sub (by decide) hk)] at q9; exact q9
    have hz0 : ∀ k, k ∈ ([1, 3, 7, 8, 15, 19, 25, 26, 27, 31, 32] : List Nat) → z274 k = z0 k := fun k hk => (hzf k (s_sub (by decide) hk)).trans (hz0 k hk)
    have hfr : ∀ b, K b ∉ [9, 62, 64] → F269 b = F b := fun b hb9 => (hfr1 b (fun q => hb9 (s_sub (by decide) q))).trans (hfr b hb9)
    obtain ⟨v278, ev278⟩ : ∃ y : Int32, y = z274 5 := ⟨_, rfl⟩
    have h271 : (¬ v278.toInt = 0) := by have q9 := h271; rw [y_fiZ oY276 (k := 5) (by decide), ← ev278] at q9; exact q9
    exact K214 _ _ _ ⟨F269, _, rfl, lv_sub hl [0] rfl, hP, hS, hI, hfr, (fun k hk => (y_fiZ oY276 (s_sub (by decide) hk)).trans (hz0 k hk)), (by rw [y_fiZ oY276 (k := 5) (by decide), ← ev278, y_atE o273]; exact (fun hd hg => (by rw [h257]; exact hd (by omega)))), (by rw [y_fiZ oY276 (k := 5) (by decide), ← ev278]; omega)⟩
  · intro g H locs hq
    obtain ⟨F281, ls, rfl, hl, hP, hS, hI, hfr, hz0, h279, h280⟩ := hq
    obtain ⟨z282, q283, oY284, bz285⟩ := y_opY hI ha0
    have hz0 : ∀ k, k ∈ ([1, 3, 7, 8, 15, 19, 25, 26, 27, 31, 32] : List Nat) → z282 k = z0 k := fun k hk => (y_fiZ oY284 (s_sub (by decide) hk)).symm.trans (hz0 k hk)
    obtain ⟨v286, ev286⟩ : ∃ y : Int32, y = z282 5 := ⟨_, rfl⟩
    obtain ⟨f287, o288, b289⟩ := y_op12 hI
    have h279 : ((v4.toInt = 0 → y_DS f1) → v286.toInt = 0 → y_DS f287) := by have q9 := h279; rw [y_fiZ oY284 (k := 5) (by decide), ← ev286, y_atE o288] at q9; exact q9
    have h280 : ((v4.toInt = 0 ∨ ¬ v286.toInt = 0) ∧ (v5.toInt = 80 → ¬ v286.toInt = 0)) := by have q9 := h280; rw [y_fiZ oY284 (k := 5) (by decide), ← ev286] at q9; exact q9
    refine lv_aload_n hx hb dX7_statementTold_214 rfl (lv_at hl 0 rfl) ?_
    refine lv_bipush (v := 59) hx hb dX7_statementTold_215 (by decide) ?_
    have ep290_5 := ev286
    refine va_callv (va_runV (As := [.int 59]) (rest := []) ⟨hx, hb, hml, hown, hts⟩ (y_X7_asksSign l dC dI H.size hLK A hA F281 a0 59 ha0 (by decide) hI) (cwV 1 hts (ax_gV T_303 T_304 T_305 T_265 T_31) rfl rfl rfl (by decide +kernel) ⟨Nat.le_of_ble_eq_true rfl, Nat.le_of_ble_eq_true rfl⟩) ⟨fun a U g mk q => ⟨q.1, s_pc rfl rfl q.2⟩, s_recv hK hP (hLK _ ha0 (by decide)) (ci := 7) rfl oY284, fun U hU hW => ⟨rfl, s_pw hU hW hP hK hD hN⟩⟩ rfl rfl hl.1 rfl (lv_room (Nat.le_of_ble_eq_true rfl)) dX7_statementTold_217 ⟨Nat.zero_le _, Nat.zero_le _⟩) hS (fun q _ h => h) (fun q h => h) (fun F291 t H1 locs ht hvm hw hB hz1 hk1 hS => ?_)
    obtain ⟨hP, hK1⟩ := hB
    rw [ht] at hP
    generalize H1 = H at hP hS ⊢
    obtain ⟨h292, h294, hI, hfr1, hzf, h293⟩ := hw
    have o295 : F291 (A 12) = .inl (cs 0, 400, .inl f287) := (hfr1 _ (by rw [(y_k12 hA)]; decide)).trans o288
    obtain ⟨z296, q297, oY298, bz299⟩ := y_opY hI ha0
    have hzf : ∀ k, k ∈ ([1, 3, 4, 7, 8, 11, 15, 16, 19, 25, 26, 27, 31, 32] : List Nat) → z296 k = z282 k := fun k hk => by have q9 := hzf k hk; rw [y_fiZ oY298 (s_sub (by decide) hk), y_fiZ oY284 (s_sub (by decide) hk)] at q9; exact q9
    have hz0 : ∀ k, k ∈ ([1, 3, 7, 8, 15, 19, 25, 26, 27, 31, 32] : List Nat) → z296 k = z0 k := fun k hk => (hzf k (s_sub (by decide) hk)).trans (hz0 k hk)
    have hfr : ∀ b, K b ∉ [9, 62, 64] → F291 b = F b := fun b hb9 => (hfr1 b (fun q => hb9 (s_sub (by decide) q))).trans (hfr b hb9)
    obtain ⟨v300, ev300⟩ : ∃ y : Int32, y = z296 5 := ⟨_, rfl⟩
    have h293 : (v286.toInt = 0 ∨ ¬ v300.toInt = 0) := by have q9 := h293; rw [y_fiZ oY284 (k := 5) (by decide), ← ep290_5, y_fiZ oY298 (k := 5) (by decide), ← ev300] at q9; exact q9
    refine lv_aload_n hx hb dX7_statementTold_220 rfl (lv_at hl 0 rfl) ?_
    refine lv_dup hx hb dX7_statementTold_221 rfl ?_
    refine th_get (D := (dC, dI)) (ci := 7) (v := .int (z296 16)) (C := RX7) (T := TX7) (N := 34) hx hb hts inX7 hown hK hP (hLK _ ha0 (by decide)) oY298 rfl 16 (by decide) (hts _ T_306) (fun _ h9 => h9) rfl dX7_statementTold_222 ?_
    refine lv_topi (fun v301 ev301 => ?_)
    refine lv_iconst (v := 1) hx hb dX7_statementTold_225 (by decide) ?_
    refine lv_iadd hx hb dX7_statementTold_226 ?_
    refine lv_topi (fun v302 ev302 => ?_)
    refine th_put (D := (dC, dI)) (ci := 7) (v := .int v302) (ty := .int) (C := RX7) (T := TX7) (N := 34) hx hb hts inX7 tyX7 tyX7_ok nmX7 hown hK hP hD hS (hLK _ ha0 (by decide)) oY298 rfl 16 (by decide) (hts _ T_306) (fun _ h9 => h9) rfl (by decide +kernel) rfl rfl (Nat.le_of_ble_eq_true rfl) dX7_statementTold_227 (fun H locs hP hS => ?_)
    rw [y_fs16] at hP
    obtain ⟨z303, hz304⟩ : ∃ g : Nat → Int32, g = upd z296 16 v302 := ⟨_, rfl⟩
    rw [← hz304] at hP
    have bz305 : y_bY z303 := by rw [hz304]; exact y_bp16 bz299
    have hP : va_P (dC, dI) vwCl (va_pl L (va_up F291 a0 (.inr (7, y_fl A z303 q297)))) H := hP
    obtain ⟨F306, hF307⟩ : ∃ G : Nat → va_E, G = va_up F291 a0 (.inr (7, y_fl A z303 q297)) := ⟨_, rfl⟩
    rw [← hF307] at hP
    have hI : y_I K cs A F306 := by rw [hF307]; exact y_clY hA hI ha0 bz305
    have hfr : ∀ b, K b ∉ [9, 62, 64] → F306 b = F b := by rw [hF307]; exact s_fr hfr ha0 (by decide)
    have o308 : F306 (A 12) = .inl (cs 0, 400, .inl f287) := by rw [hF307]; exact th_ne (th_kd (y_k12 hA) ha0 (by decide)) o295
    have oY309 : F306 a0 = .inr (7, y_fl A z303 q297) := by rw [hF307]; exact th_up
    have hz0 : ∀ k, k ∈ ([1, 3, 7, 8, 15, 19, 25, 26, 27, 31, 32] : List Nat) → z303 k = z0 k := fun k hk => by rw [hz304]; exact (y_un (fun q => absurd hk (by rw [q]; decide))).trans (hz0 k hk)
    have ev300 : v300 = z303 5 := by rw [hz304]; exact ev300.trans (y_un (by decide)).symm
    obtain ⟨v310, ev310⟩ : ∃ y : Int32, y = z303 16 := ⟨_, rfl⟩
    have qv310 : v310.toInt = v302.toInt := by rw [ev310, hz304, y_ue]
    exact W.vret hx hb hr (fun t ht hW => ⟨⟨F306, rfl, ⟨trivial, trivial, hI, hfr, fun k hk => (y_fiZ oY309 (s_sub (by decide) hk)).trans ((hz0 k hk).trans (y_fiZ oY0 (s_sub (by decide) hk)).symm), (by rw [y_fiZ oY0 (k := 5) (by decide), ← eF_5, y_fiZ oY309 (k := 5) (by decide), ← ev300, y_atE o2, y_atE o308, y_fiZ oY309 (k := 16) (by decide), ← ev310, y_fiZ oY0 (k := 16) (by decide), ← eF_16]; exact ⟨by omega, fun hd hg => h279 hd (by omega), by omega, by omega⟩)⟩, by rw [ht]; exact hP, va_K.moved hW.alike hK⟩, hS.F ht⟩) hS.2.2 dX7_statementTold_230

set_option maxHeartbeats 4000000 in
set_option maxRecDepth 100000 in
theorem y_X7_joins (l : Launch) (dC : Nat → ClassId) (dI : Nat → Nat → Nat) (sz : Nat) {L : List Nat} {K : Nat → Nat} {cs : Nat → ClassId} (hLK : ∀ a {k : Nat}, K a = k → k ≠ 0 → a ∈ L) (A : Nat → Nat) (hA : y_A K A) (F : Nat → va_E) (a0 : Nat) (ha0 : K a0 = 9) (hI : y_I K cs A F) : Met l yX7_joins (Cond.code yX7_joins cX7_joins 4 none :: T0) ({ frames := 1, cells := 0, slots := 0, locals := 22 }) (va_Pc [.ref a0] (s_W dC dI sz L F [(cs 0, .int), (cs 1, .byte), (cs 2, .long), (cs 3, .object RX5), (cs 4, .object RX4), (cs 5, .array .int), (cs 6, .char), (cs 7, .boolean)])) (va_Qv (fun (G : Nat → va_E) => True ∧ True ∧ y_I K cs A G ∧ (∀ b, K b ∉ [9, 62] → G b = F b) ∧ (∀ k, k ∈ ([1, 2, 3, 4, 7, 8, 11, 15, 16, 19, 25, 26, 27, 31, 32] : List Nat) → y_fi G a0 k = y_fi F a0 k) ∧ (((y_fi F a0 5).toInt = 0 ∨ ¬ (y_fi G a0 5).toInt = 0) ∧ (((y_fi F a0 5).toInt = 0 → y_DS (y_at F (A 12))) → (y_fi G a0 5).toInt = 0 → y_DS (y_at G (A 12))) ∧ (y_c (y_at G (A 12)) 387).toInt = (y_c (y_at F (A 12)) 387).toInt ∧ ((y_fi G a0 5).toInt = 0 → y_JG (y_at G (A 12)) (y_c (y_at F (A 12)) 387).toInt (y_c (y_at F (A 12)) 387).toInt))) (fun (G : Nat → va_E) (t : State) => va_P (dC, dI) vwCl (va_pl L G) t.heap ∧ va_K (dC, dI) vwCl [(cs 0, .int), (cs 1, .byte), (cs 2, .long), (cs 3, .object RX5), (cs 4, .object RX4), (cs 5, .array .int), (cs 6, .char), (cs 7, .boolean)] t) (fun q => q ∈ L)) 0 0 (fun q => q ∈ L) := by
  refine Met.ofW (cc := cX7_joins) (maxL := 4) (ret := none) (by decide) rfl ?_
  intro p e s m args below meth c s₁ B hml hv
  obtain ⟨rfl, hsz, hP, hK, hD, hN⟩ := hv
  have hx := B.exec
  have hb := B.bytes
  have hr := B.returns
  have hts : ∀ w ∈ T0, w.before _ s = true := fun w h => atoms_spec (ws := Cond.code yX7_joins cX7_joins 4 none :: T0) B.pre w (List.mem_cons_of_mem _ h)
  have hown : s.vm.findClass RX7 = some m.cls := findClass_of_methodNamed B.named
  have hlocks := B.notSynchronized
  have hS : va_S (fun q => q ∈ L) s.heap s.heap [] := va_S.rf
  have hfr : ∀ b, K b ∉ [9, 62] → F b = F b := fun _ _ => rfl
  have hl := lv_entry ([.ref a0]) (n := 4) (Nat.le_of_ble_eq_true rfl)
  rw [lg_entry_eq]
  generalize (lg_sl ([.ref a0]) ++ List.replicate (4 - (lg_sl ([.ref a0])).length) Slot.unset).toArray = ls at hl ⊢
  have hl : lv_has ls 4 [(0, .ref a0)] := hl
  refine s_gen hP hS (fun H locs hP hS => ?_)
  obtain ⟨z0, q0, oY0, bz0⟩ := y_opY hI ha0
  have hz0 : ∀ k, k ∈ ([1, 2, 3, 4, 7, 8, 11, 15, 16, 19, 25, 26, 27, 31, 32] : List Nat) → z0 k = z0 k := fun _ _ => rfl
  obtain ⟨f1, o2, b3⟩ := y_op12 hI
  obtain ⟨v4, ev4⟩ : ∃ y : Int32, y = z0 5 := ⟨_, rfl⟩
  have eF_5 := ev4
  have hnb : 0 ≤ (y_c f1 387).toInt ∧ (y_c f1 387).toInt ≤ 40 := b3
  obtain ⟨nn, hnn⟩ : ∃ n : Int, n = (y_c f1 387).toInt := ⟨_, rfl⟩
  rw [← hnn] at hnb
  have e0_v4 := ev4
  refine lv_iconst (v := 0) hx hb dX7_joins_0 (by decide) ?_
  refine lv_istore_n (lv' := [(1, .int 0), (0, .ref a0)]) hx hb dX7_joins_1 rfl hl (by decide) rfl (fun ls hl => ?_)
  have h6 : (0 : Int32).toInt = 0 := by decide
  refine th_loop (fun n g H locs => ∃ (G : Nat → va_E) (ls : Array Slot) (w5 : Int32), g = F0 m 2 ls [] ∧ lv_has ls 4 [(0, .ref a0), (1, .int w5)] ∧ va_P (dC, dI) vwCl (va_pl L G) H ∧ va_S (fun q => q ∈ L) s.heap H locs ∧ y_I K cs A G ∧ (∀ b, K b ∉ [9, 62] → G b = F b) ∧ (∀ k, k ∈ ([1, 2, 3, 4, 7, 8, 11, 15, 16, 19, 25, 26, 27, 31, 32] : List Nat) → y_fi G a0 k = z0 k) ∧ (0 ≤ w5.toInt ∧ w5.toInt ≤ 40) ∧ (y_c (y_at G (A 12)) 387).toInt = nn ∧ ((v4.toInt = 0 → y_DS f1) → (y_fi G a0 5).toInt = 0 → y_DS (y_at G (A 12))) ∧ ((y_fi G a0 5).toInt = 0 → y_JG (y_at G (A 12)) nn w5.toInt) ∧ (v4.toInt = 0 ∨ ¬ (y_fi G a0 5).toInt = 0) ∧ n = (41 - w5.toInt).toNat) _ ⟨F, _, 0, rfl, lv_sub hl [1, 0] rfl, hP, hS, hI, hfr, (fun k hk => (y_fiZ oY0 (s_sub (by decide) hk)).trans (hz0 k hk)), (by decide), (by rw [y_atE o2]; exact hnn.symm), (by rw [y_fiZ oY0 (k := 5) (by decide), ← ev4, y_atE o2]; exact (fun hd hg => hd (by omega))), (by rw [y_fiZ oY0 (k := 5) (by decide), ← ev4, y_atE o2]; exact (fun _ i h0 h1 => absurd h1 (by omega))), (by rw [y_fiZ oY0 (k := 5) (by decide), ← ev4]; omega), rfl⟩ (fun n ih2 g H locs hq => ?_)
  obtain ⟨F12, ls, w5, rfl, hl, hP, hS, hI, hfr, hz0, h7, h8, h9, h10, h11, hn⟩ := hq
  obtain ⟨z13, q14, oY15, bz16⟩ := y_opY hI ha0
  have hz0 : ∀ k, k ∈ ([1, 2, 3, 4, 7, 8, 11, 15, 16, 19, 25, 26, 27, 31, 32] : List Nat) → z13 k = z0 k := fun k hk => (y_fiZ oY15 (s_sub (by decide) hk)).symm.trans (hz0 k hk)
  obtain ⟨f17, o18, b19⟩ := y_op12 hI
  have h8 : (y_c f17 387).toInt = nn := by have q9 := h8; rw [y_atE o18] at q9; exact q9
  obtain ⟨v20, ev20⟩ : ∃ y : Int32, y = z13 5 := ⟨_, rfl⟩
  have h9 : ((v4.toInt = 0 → y_DS f1) → v20.toInt = 0 → y_DS f17) := by have q9 := h9; rw [y_fiZ oY15 (k := 5) (by decide), ← ev20, y_atE o18] at q9; exact q9
  have h10 : (v20.toInt = 0 → y_JG f17 nn w5.toInt) := by have q9 := h10; rw [y_fiZ oY15 (k := 5) (by decide), ← ev20, y_atE o18] at q9; exact q9
  have h11 : (v4.toInt = 0 ∨ ¬ v20.toInt = 0) := by have q9 := h11; rw [y_fiZ oY15 (k := 5) (by decide), ← ev20] at q9; exact q9
  have hn_20 := hn
  refine th_join (fun g H locs => ∃ (G : Nat → va_E) (ls : Array Slot), g = F0 m 106 ls [] ∧ lv_has ls 4 [(0, .ref a0), (1, .int w5)] ∧ va_P (dC, dI) vwCl (va_pl L G) H ∧ va_S (fun q => q ∈ L) s.heap H locs ∧ y_I K cs A G ∧ (∀ b, K b ∉ [9, 62] → G b = F b) ∧ (∀ k, k ∈ ([1, 2, 3, 4, 7, 8, 11, 15, 16, 19, 25, 26, 27, 31, 32] : List Nat) → y_fi G a0 k = z0 k) ∧ (0 ≤ w5.toInt ∧ w5.toInt ≤ 39) ∧ (y_c (y_at G (A 12)) 387).toInt = nn ∧ ((v4.toInt = 0 → y_DS f1) → (y_fi G a0 5).toInt = 0 → y_DS (y_at G (A 12))) ∧ ((y_fi G a0 5).toInt = 0 → y_JG (y_at G (A 12)) nn (w5.toInt + 1)) ∧ (v4.toInt = 0 ∨ ¬ (y_fi G a0 5).toInt = 0)) (fun K106 => ?_) ?_
  refine th_join (fun g H locs => ∃ (G : Nat → va_E) (ls : Array Slot) (w21 : Int32), g = F0 m 95 ls [] ∧ lv_has ls 4 [(0, .ref a0), (1, .int w5), (2, .int w21)] ∧ va_P (dC, dI) vwCl (va_pl L G) H ∧ va_S (fun q => q ∈ L) s.heap H locs ∧ y_I K cs A G ∧ (∀ b, K b ∉ [9, 62] → G b = F b) ∧ (∀ k, k ∈ ([1, 2, 3, 4, 7, 8, 11, 15, 16, 19, 25, 26, 27, 31, 32] : List Nat) → y_fi G a0 k = z0 k) ∧ (-1 ≤ w21.toInt ∧ w21.toInt ≤ 39) ∧ (0 ≤ w5.toInt ∧ w5.toInt ≤ 39) ∧ (y_at G (A 12)) = f17 ∧ ((v4.toInt = 0 ∨ ¬ (y_fi G a0 5).toInt = 0)) ∧ (w21.toInt < nn ∧ ((y_fi G a0 5).toInt = 0 → 0 ≤ w21.toInt))) (fun K95 => ?_) ?_
  · refine lv_iload_n hx hb dX7_joins_2 rfl (lv_at hl 1 rfl) ?_
    refine lv_aload_n hx hb dX7_joins_3 rfl (lv_at hl 0 rfl) ?_
    refine va_calli (va_runV (As := []) (rest := [.int w5]) ⟨hx, hb, hml, hown, hts⟩ (y_X7_drafted l dC dI H.size hLK A hA F12 a0 ha0 hI) (cwV 0 hts (ax_gV T_293 T_294 T_295 T_265 T_28) rfl rfl rfl (by decide +kernel) ⟨Nat.le_of_ble_eq_true rfl, Nat.le_of_ble_eq_true rfl⟩) ⟨fun a U g mk q => ⟨q.1, s_pc rfl rfl q.2⟩, s_recv hK hP (hLK _ ha0 (by decide)) (ci := 7) rfl oY15, fun U hU hW => ⟨rfl, s_pw hU hW hP hK hD hN⟩⟩ rfl rfl hl.1 rfl (lv_room (Nat.le_of_ble_eq_true rfl)) dX7_joins_4 ⟨Nat.zero_le _, Nat.zero_le _⟩) hS (fun q _ h => h) (fun q h => h) (fun r23 F24 t H1 locs ht hvm hw hB hz1 hk1 hS => ?_)
    obtain ⟨hP, hK1⟩ := hB
    rw [ht] at hP
    generalize H1 = H at hP hS ⊢
    obtain ⟨h25, h27, hI, hfr1, hzf, h26⟩ := hw
    have o28 : F24 (A 12) = .inl (cs 0, 400, .inl f17) := (hfr1 _ (by rw [(y_k12 hA)]; decide)).trans o18
    have oY29 : F24 a0 = .inr (7, y_fl A z13 q14) := (hfr1 _ (by rw [ha0]; decide)).trans oY15
    have hfr : ∀ b, K b ∉ [9, 62] → F24 b = F b := fun b hb9 => (hfr1 b (fun q => hb9 (s_sub (by decide) q))).trans (hfr b hb9)
    have h26 : (r23 = y_c f17 387) := by have q9 := h26; rw [y_atE o18] at q9; exact q9
    have h30 := congrArg Int32.toInt h26
    refine lv_icmp_ge (tgt := 112) hx hb dX7_joins_7 (by decide) (fun c31 => ?_) (fun c31 => ?_)
    · have c31 := Int32.le_iff_toInt_le.mp c31
      exact W.vret hx hb hr (fun t ht hW => ⟨⟨F24, rfl, ⟨trivial, trivial, hI, hfr, fun k hk => (y_fiZ oY29 (s_sub (by decide) hk)).trans ((hz0 k hk).trans (y_fiZ oY0 (s_sub (by decide) hk)).symm), (by rw [y_fiZ oY0 (k := 5) (by decide), ← eF_5, y_fiZ oY29 (k := 5) (by decide), ← ev20, y_atE o2, y_atE o28]; rw [← hnn]; exact ⟨by omega, (fun hd hg => h9 hd (by omega)), h8, fun hg => y_JGle (by omega) (h10 hg)⟩)⟩, by rw [ht]; exact hP, va_K.moved hW.alike hK⟩, hS.F ht⟩) hS.2.2 dX7_joins_112
    · have c31 := mt Int32.le_iff_toInt_le.mpr c31
      refine lv_aload_n hx hb dX7_joins_10 rfl (lv_at hl 0 rfl) ?_
      refine th_get (D := (dC, dI)) (ci := 7) (v := .int (z13 5)) (C := RX7) (T := TX7) (N := 34) hx hb hts inX7 hown hK hP (hLK _ ha0 (by decide)) oY29 rfl 5 (by decide) (hts _ T_274) (fun _ h9 => h9) rfl dX7_joins_11 ?_
      refine ax_eqi (y := v20) ev20.symm ?_
      refine lv_if_ne (tgt := 112) hx hb dX7_joins_14 (by decide) (fun c32 => ?_) (fun c32 => ?_)
      · have c32 := mt (ax_eq (n := 0) (by decide)).mpr c32
        exact W.vret hx hb hr (fun t ht hW => ⟨⟨F24, rfl, ⟨trivial, trivial, hI, hfr, fun k hk => (y_fiZ oY29 (s_sub (by decide) hk)).trans ((hz0 k hk).trans (y_fiZ oY0 (s_sub (by decide) hk)).symm), (by rw [y_fiZ oY0 (k := 5) (by decide), ← eF_5, y_fiZ oY29 (k := 5) (by decide), ← ev20, y_atE o2, y_atE o28]; rw [← hnn]; exact ⟨by omega, (fun hd hg => h9 hd (by omega)), h8, fun hg => y_JGle (by omega) (h10 hg)⟩)⟩, by rw [ht]; exact hP, va_K.moved hW.alike hK⟩, hS.F ht⟩) hS.2.2 dX7_joins_112
      · have c32 := (ax_eq (n := 0) (by decide)).mp c32
        refine lv_aload_n hx hb dX7_joins_17 rfl (lv_at hl 0 rfl) ?_
        refine th_get (D := (dC, dI)) (ci := 7) (v := .ref (A 12)) (C := RX7) (T := TX7) (N := 34) hx hb hts inX7 hown hK hP (hLK _ ha0 (by decide)) oY29 rfl 12 (by decide) (hts _ T_245) (fun _ h9 => h9) rfl dX7_joins_18 ?_
        refine lv_iload_n hx hb dX7_joins_21 rfl (lv_at hl 1 rfl) ?_
        refine lv_iconst (v := 0) hx hb dX7_joins_22 (by decide) ?_
        refine va_calli (va_runS (As := [.int w5, .int 0]) (rest := [.ref (A 12)]) ⟨hx, hb, hml, hown, hts⟩ (y_X7_lineAt l dC dI H.size F24 w5 0 (⟨by omega, by omega⟩) (by decide)) (cwS 2 hts (ax_gS T_1216 T_1218 T_265 T_1217) rfl rfl rfl (by decide +kernel) ⟨Nat.le_of_ble_eq_true rfl, Nat.le_of_ble_eq_true rfl⟩) ⟨fun a U g mk q => ⟨q.1, s_pc rfl rfl q.2⟩, fun U hU hW => ⟨rfl, s_pw hU hW hP hK hD hN⟩⟩ rfl rfl hl.1 rfl (lv_room (Nat.le_of_ble_eq_true rfl)) dX7_joins_23 ⟨Nat.zero_le _, Nat.zero_le _⟩) hS (fun q _ h => h) (fun q h => h) (fun r34 F35 t H1 locs ht hvm hw hB hz1 hk1 hS => ?_)
        obtain ⟨hP, hK1⟩ := hB
        rw [ht] at hP
        generalize H1 = H at hP hS ⊢
        obtain ⟨h36, h38, hG9, h37⟩ := hw
        rw [hG9] at hP
        have h37 : (r34.toInt = 8 * w5.toInt + 0) := by have q9 := h37; exact q9
        refine th_iald hx hb hK hP (hLK _ (y_k12 hA) (by decide)) 0 o28 rfl (th_in ⟨by omega, by omega⟩) dX7_joins_26 ?_
        refine lv_topi (fun v39 ev39 => ?_)
        have h40 : v39.toInt = (y_c f17 (8 * w5.toInt)).toInt := congrArg Int32.toInt (ev39.trans (y_ci (by omega)))
        refine lv_bipush (v := 12) hx hb dX7_joins_27 (by decide) ?_
        refine lv_icmp_eq (tgt := 35) hx hb dX7_joins_29 (by decide) (fun c41 => ?_) (fun c41 => ?_)
        · have c41 := (ax_eq (n := 12) (by decide)).mp c41
          refine lv_iconst (v := (-1)) hx hb dX7_joins_35 (by decide) ?_
          refine lv_istore_n (lv' := [(2, .int (-1)), (0, .ref a0), (1, .int w5)]) hx hb dX7_joins_36 rfl hl (by decide) rfl (fun ls hl => ?_)
          refine lv_iconst (v := 0) hx hb dX7_joins_37 (by decide) ?_
          refine lv_istore_n (lv' := [(3, .int 0), (2, .int (-1)), (0, .ref a0), (1, .int w5)]) hx hb dX7_joins_38 rfl hl (by decide) rfl (fun ls hl => ?_)
          have h44 : ((-1) : Int32).toInt = (-1) := by decide
          have h45 : (0 : Int32).toInt = 0 := by decide
          refine th_loop (fun n g H locs => ∃ (G : Nat → va_E) (ls : Array Slot) (w42 : Int32) (w43 : Int32), g = F0 m 39 ls [] ∧ lv_has ls 4 [(0, .ref a0), (1, .int w5), (2, .int w42), (3, .int w43)] ∧ va_P (dC, dI) vwCl (va_pl L G) H ∧ va_S (fun q => q ∈ L) s.heap H locs ∧ y_I K cs A G ∧ (∀ b, K b ∉ [9, 62] → G b = F b) ∧ (∀ k, k ∈ ([1, 2, 3, 4, 7, 8, 11, 15, 16, 19, 25, 26, 27, 31, 32] : List Nat) → y_fi G a0 k = z0 k) ∧ (-1 ≤ w42.toInt ∧ w42.toInt ≤ 39) ∧ (0 ≤ w43.toInt ∧ w43.toInt ≤ 40) ∧ (0 ≤ w5.toInt ∧ w5.toInt ≤ 39) ∧ (y_at G (A 12)) = f17 ∧ ((v4.toInt = 0 ∨ ¬ (y_fi G a0 5).toInt = 0)) ∧ ((y_fi G a0 5).toInt = 0 ∧ w42.toInt < nn) ∧ n = (41 - w43.toInt).toNat) _ ⟨F24, _, (-1), 0, rfl, lv_sub hl [2, 3, 1, 0] rfl, hP, hS, hI, hfr, (fun k hk => (y_fiZ oY29 (s_sub (by decide) hk)).trans (hz0 k hk)), (by decide), (by decide), ⟨by omega, by omega⟩, (by rw [y_atE o28]; exact rfl), (by rw [y_fiZ oY29 (k := 5) (by decide), ← ev20]; omega), (by rw [y_fiZ oY29 (k := 5) (by decide), ← ev20]; omega), rfl⟩ (fun n ih39 g H locs hq => ?_)
          obtain ⟨F52, ls, w42, w43, rfl, hl, hP, hS, hI, hfr, hz0, h46, h47, h48, h49, h50, h51, hn⟩ := hq
          obtain ⟨z53, q54, oY55, bz56⟩ := y_opY hI ha0
          have hz0 : ∀ k, k ∈ ([1, 2, 3, 4, 7, 8, 11, 15, 16, 19, 25, 26, 27, 31, 32] : List Nat) → z53 k = z0 k := fun k hk => (y_fiZ oY55 (s_sub (by decide) hk)).symm.trans (hz0 k hk)
          obtain ⟨f57, o58, b59⟩ := y_op12 hI
          have h49 : f57 = f17 := by have q9 := h49; rw [y_atE o58] at q9; exact q9
          obtain ⟨v60, ev60⟩ : ∃ y : Int32, y = z53 5 := ⟨_, rfl⟩
          have h50 : ((v4.toInt = 0 ∨ ¬ v60.toInt = 0)) := by have q9 := h50; rw [y_fiZ oY55 (k := 5) (by decide), ← ev60] at q9; exact q9
          have h51 : (v60.toInt = 0 ∧ w42.toInt < nn) := by have q9 := h51; rw [y_fiZ oY55 (k := 5) (by decide), ← ev60] at q9; exact q9
          have hn_60 := hn
          refine th_join (fun g H locs => ∃ (G : Nat → va_E) (ls : Array Slot) (w61 : Int32), g = F0 m 73 ls [] ∧ lv_has ls 4 [(0, .ref a0), (1, .int w5), (2, .int w61), (3, .int w43)] ∧ va_P (dC, dI) vwCl (va_pl L G) H ∧ va_S (fun q => q ∈ L) s.heap H locs ∧ y_I K cs A G ∧ (∀ b, K b ∉ [9, 62] → G b = F b) ∧ (∀ k, k ∈ ([1, 2, 3, 4, 7, 8, 11, 15, 16, 19, 25, 26, 27, 31, 32] : List Nat) → y_fi G a0 k = z0 k) ∧ (-1 ≤ w61.toInt ∧ w61.toInt ≤ 39) ∧ (0 ≤ w5.toInt ∧ w5.toInt ≤ 39) ∧ (0 ≤ w43.toInt ∧ w43.toInt ≤ 39) ∧ (y_at G (A 12)) = f17 ∧ ((v4.toInt = 0 ∨ ¬ (y_fi G a0 5).toInt = 0)) ∧ ((y_fi G a0 5).toInt = 0 ∧ w61.toInt < nn)) (fun K73 => ?_) ?_
          · refine lv_iload_n hx hb dX7_joins_39 rfl (lv_at hl 3 rfl) ?_
            refine lv_aload_n hx hb dX7_joins_40 rfl (lv_at hl 0 rfl) ?_
            refine va_calli (va_runV (As := []) (rest := [.int w43]) ⟨hx, hb, hml, hown, hts⟩ (y_X7_drafted l dC dI H.size hLK A hA F52 a0 ha0 hI) (cwV 0 hts (ax_gV T_293 T_294 T_295 T_265 T_28) rfl rfl rfl (by decide +kernel) ⟨Nat.le_of_ble_eq_true rfl, Nat.le_of_ble_eq_true rfl⟩) ⟨fun a U g mk q => ⟨q.1, s_pc rfl rfl q.2⟩, s_recv hK hP (hLK _ ha0 (by decide)) (ci := 7) rfl oY55, fun U hU hW => ⟨rfl, s_pw hU hW hP hK hD hN⟩⟩ rfl rfl hl.1 rfl (lv_room (Nat.le_of_ble_eq_true rfl)) dX7_joins_41 ⟨Nat.zero_le _, Nat.zero_le _⟩) hS (fun q _ h => h) (fun q h => h) (fun r63 F64 t H1 locs ht hvm hw hB hz1 hk1 hS => ?_)
            obtain ⟨hP, hK1⟩ := hB
            rw [ht] at hP
            generalize H1 = H at hP hS ⊢
            obtain ⟨h65, h67, hI, hfr1, hzf, h66⟩ := hw
            have o68 : F64 (A 12) = .inl (cs 0, 400, .inl f57) := (hfr1 _ (by rw [(y_k12 hA)]; decide)).trans o58
            have oY69 : F64 a0 = .inr (7, y_fl A z53 q54) := (hfr1 _ (by rw [ha0]; decide)).trans oY55
            have hfr : ∀ b, K b ∉ [9, 62] → F64 b = F b := fun b hb9 => (hfr1 b (fun q => hb9 (s_sub (by decide) q))).trans (hfr b hb9)
            have h66 : (r63 = y_c f57 387) := by have q9 := h66; rw [y_atE o58] at q9; exact q9
            have h70 := congrArg Int32.toInt h66
            refine lv_icmp_ge (tgt := 79) hx hb dX7_joins_44 (by decide) (fun c71 => ?_) (fun c71 => ?_)
            · have c71 := Int32.le_iff_toInt_le.mp c71
              refine lv_iload_n hx hb dX7_joins_79 rfl (lv_at hl 2 rfl) ?_
              refine lv_iconst (v := (-1)) hx hb dX7_joins_80 (by decide) ?_
              refine lv_icmp_ne (tgt := 95) hx hb dX7_joins_81 (by decide) (fun c72 => ?_) (fun c72 => ?_)
              · have c72 := mt (ax_eq (n := (-1)) (by decide)).mpr c72
                exact K95 _ _ _ ⟨F64, _, w42, rfl, lv_sub hl [0, 1, 2] rfl, hP, hS, hI, hfr, (fun k hk => (y_fiZ oY69 (s_sub (by decide) hk)).trans (hz0 k hk)), ⟨by omega, by omega⟩, ⟨by omega, by omega⟩, (by rw [y_atE o68]; exact h49), (by rw [y_fiZ oY69 (k := 5) (by decide), ← ev60]; omega), (by rw [y_fiZ oY69 (k := 5) (by decide), ← ev60]; omega)⟩
              · have c72 := (ax_eq (n := (-1)) (by decide)).mp c72
                refine lv_aload_n hx hb dX7_joins_84 rfl (lv_at hl 0 rfl) ?_
                refine lv_iconst (v := 3) hx hb dX7_joins_85 (by decide) ?_
                refine lv_aload_n hx hb dX7_joins_86 rfl (lv_at hl 0 rfl) ?_
                refine th_get (D := (dC, dI)) (ci := 7) (v := .ref (A 14)) (C := RX7) (T := TX7) (N := 34) hx hb hts inX7 hown hK hP (hLK _ ha0 (by decide)) oY69 rfl 14 (by decide) (hts _ T_247) (fun _ h9 => h9) rfl dX7_joins_87 ?_
                refine lv_iload_n hx hb dX7_joins_90 rfl (lv_at hl 1 rfl) ?_
                obtain ⟨f73, o74, b75⟩ := y_op14 hI
                refine th_iald hx hb hK hP (hLK _ (y_k14 hA) (by decide)) 0 o74 rfl (th_in ⟨by omega, by omega⟩) dX7_joins_91 ?_
                refine lv_topi (fun v76 ev76 => ?_)
                refine va_callv (va_runV (As := [.int 3, .int v76]) (rest := []) ⟨hx, hb, hml, hown, hts⟩ (y_X7_fail l dC dI H.size hLK A hA F64 a0 3 v76 ha0 (by decide) hI) (cwV 2 hts (ax_gV T_290 T_291 T_292 T_265 T_27) rfl rfl rfl (by decide +kernel) ⟨Nat.le_of_ble_eq_true rfl, Nat.le_of_ble_eq_true rfl⟩) ⟨fun a U g mk q => ⟨q.1, s_pc rfl rfl q.2⟩, s_recv hK hP (hLK _ ha0 (by decide)) (ci := 7) rfl oY69, fun U hU hW => ⟨rfl, s_pw hU hW hP hK hD hN⟩⟩ rfl rfl hl.1 rfl (lv_room (Nat.le_of_ble_eq_true rfl)) dX7_joins_92 ⟨Nat.zero_le _, Nat.zero_le _⟩) hS (fun q _ h => h) (fun q h => h) (fun F78 t H1 locs ht hvm hw hB hz1 hk1 hS => ?_)
                obtain ⟨hP, hK1⟩ := hB
                rw [ht] at hP
                generalize H1 = H at hP hS ⊢
                obtain ⟨h79, h81, hI, hfr1, hzf, h80⟩ := hw
                have o82 : F78 (A 12) = .inl (cs 0, 400, .inl f57) := (hfr1 _ (by rw [(y_k12 hA)]; decide)).trans o68
                have o83 : F78 (A 14) = .inl (cs 0, 40, .inl f73) := (hfr1 _ (by rw [(y_k14 hA)]; decide)).trans o74
                obtain ⟨z84, q85, oY86, bz87⟩ := y_opY hI ha0
                have hzf : ∀ k, k ∈ ([1, 2, 3, 4, 7, 8, 11, 15, 16, 19, 25, 26, 27, 31, 32] : List Nat) → z84 k = z53 k := fun k hk => by have q9 := hzf k hk; rw [y_fiZ oY86 (s_sub (by decide) hk), y_fiZ oY69 (s_sub (by decide) hk)] at q9; exact q9
                have hz0 : ∀ k, k ∈ ([1, 2, 3, 4, 7, 8, 11, 15, 16, 19, 25, 26, 27, 31, 32] : List Nat) → z84 k = z0 k := fun k hk => (hzf k (s_sub (by decide) hk)).trans (hz0 k hk)
                have hfr : ∀ b, K b ∉ [9, 62] → F78 b = F b := fun b hb9 => (hfr1 b (fun q => hb9 (s_sub (by decide) q))).trans (hfr b hb9)
                obtain ⟨v88, ev88⟩ : ∃ y : Int32, y = z84 5 := ⟨_, rfl⟩
                have h80 : (¬ v88.toInt = 0) := by have q9 := h80; rw [y_fiZ oY86 (k := 5) (by decide), ← ev88] at q9; exact q9
                exact K95 _ _ _ ⟨F78, _, w42, rfl, lv_sub hl [0, 1, 2] rfl, hP, hS, hI, hfr, (fun k hk => (y_fiZ oY86 (s_sub (by decide) hk)).trans (hz0 k hk)), ⟨by omega, by omega⟩, ⟨by omega, by omega⟩, (by rw [y_atE o82]; exact h49), (by rw [y_fiZ oY86 (k := 5) (by decide), ← ev88]; omega), (by rw [y_fiZ oY86 (k := 5) (by decide), ← ev88]; omega)⟩
            · have c71 := mt Int32.le_iff_toInt_le.mpr c71
              refine lv_aload_n hx hb dX7_joins_47 rfl (lv_at hl 0 rfl) ?_
              refine th_get (D := (dC, dI)) (ci := 7) (v := .ref (A 12)) (C := RX7) (T := TX7) (N := 34) hx hb hts inX7 hown hK hP (hLK _ ha0 (by decide)) oY69 rfl 12 (by decide) (hts _ T_245) (fun _ h9 => h9) rfl dX7_joins_48 ?_
              refine lv_iload_n hx hb dX7_joins_51 rfl (lv_at hl 3 rfl) ?_
              refine lv_bipush (v := 7) hx hb dX7_joins_52 (by decide) ?_
              refine va_calli (va_runS (As := [.int w43, .int 7]) (rest := [.ref (A 12)]) ⟨hx, hb, hml, hown, hts⟩ (y_X7_lineAt l dC dI H.size F64 w43 7 (⟨by omega, by omega⟩) (by decide)) (cwS 2 hts (ax_gS T_1216 T_1218 T_265 T_1217) rfl rfl rfl (by decide +kernel) ⟨Nat.le_of_ble_eq_true rfl, Nat.le_of_ble_eq_true rfl⟩) ⟨fun a U g mk q => ⟨q.1, s_pc rfl rfl q.2⟩, fun U hU hW => ⟨rfl, s_pw hU hW hP hK hD hN⟩⟩ rfl rfl hl.1 rfl (lv_room (Nat.le_of_ble_eq_true rfl)) dX7_joins_54 ⟨Nat.zero_le _, Nat.zero_le _⟩) hS (fun q _ h => h) (fun q h => h) (fun r90 F91 t H1 locs ht hvm hw hB hz1 hk1 hS => ?_)
              obtain ⟨hP, hK1⟩ := hB
              rw [ht] at hP
              generalize H1 = H at hP hS ⊢
              obtain ⟨h92, h94, hG9, h93⟩ := hw
              rw [hG9] at hP
              have h93 : (r90.toInt = 8 * w43.toInt + 7) := by have q9 := h93; exact q9
              refine th_iald hx hb hK hP (hLK _ (y_k12 hA) (by decide)) 0 o68 rfl (th_in ⟨by omega, by omega⟩) dX7_joins_57 ?_
              refine lv_topi (fun v95 ev95 => ?_)
              refine lv_aload_n hx hb dX7_joins_58 rfl (lv_at hl 0 rfl) ?_
              refine th_get (D := (dC, dI)) (ci := 7) (v := .ref (A 12)) (C := RX7) (T := TX7) (N := 34) hx hb hts inX7 hown hK hP (hLK _ ha0 (by decide)) oY69 rfl 12 (by decide) (hts _ T_245) (fun _ h9 => h9) rfl dX7_joins_59 ?_
              refine lv_iload_n hx hb dX7_joins_62 rfl (lv_at hl 1 rfl) ?_
              refine lv_iconst (v := 4) hx hb dX7_joins_63 (by decide) ?_
              refine va_calli (va_runS (As := [.int w5, .int 4]) (rest := [.ref (A 12), .int v95]) ⟨hx, hb, hml, hown, hts⟩ (y_X7_lineAt l dC dI H.size F64 w5 4 (⟨by omega, by omega⟩) (by decide)) (cwS 2 hts (ax_gS T_1216 T_1218 T_265 T_1217) rfl rfl rfl (by decide +kernel) ⟨Nat.le_of_ble_eq_true rfl, Nat.le_of_ble_eq_true rfl⟩) ⟨fun a U g mk q => ⟨q.1, s_pc rfl rfl q.2⟩, fun U hU hW => ⟨rfl, s_pw hU hW hP hK hD hN⟩⟩ rfl rfl hl.1 rfl (lv_room (Nat.le_of_ble_eq_true rfl)) dX7_joins_64 ⟨Nat.zero_le _, Nat.zero_le _⟩) hS (fun q _ h => h) (fun q h => h) (fun r97 F98 t H1 locs ht hvm hw hB hz1 hk1 hS => ?_)
              obtain ⟨hP, hK1⟩ := hB
              rw [ht] at hP
              generalize H1 = H at hP hS ⊢
              obtain ⟨h99, h101, hG9, h100⟩ := hw
              rw [hG9] at hP
              have h100 : (r97.toInt = 8 * w5.toInt + 4) := by have q9 := h100; exact q9
              refine th_iald hx hb hK hP (hLK _ (y_k12 hA) (by decide)) 0 o68 rfl (th_in ⟨by omega, by omega⟩) dX7_joins_67 ?_
              refine lv_topi (fun v102 ev102 => ?_)
              refine lv_icmp_ne (tgt := 73) hx hb dX7_joins_68 (by decide) (fun c103 => ?_) (fun c103 => ?_)
              · have c103 := mt Int32.toInt_inj.symm.mpr c103
                exact K73 _ _ _ ⟨F64, _, w42, rfl, lv_sub hl [0, 1, 2, 3] rfl, hP, hS, hI, hfr, (fun k hk => (y_fiZ oY69 (s_sub (by decide) hk)).trans (hz0 k hk)), ⟨by omega, by omega⟩, ⟨by omega, by omega⟩, ⟨by omega, by omega⟩, (by rw [y_atE o68]; exact h49), (by rw [y_fiZ oY69 (k := 5) (by decide), ← ev60]; omega), (by rw [y_fiZ oY69 (k := 5) (by decide), ← ev60]; omega)⟩
              · have c103 := Int32.toInt_inj.symm.mp c103
                refine lv_iload_n hx hb dX7_joins_71 rfl (lv_at hl 3 rfl) ?_
                refine lv_istore_n (lv' := [(2, .int w43), (0, .ref a0), (1, .int w5), (3, .int w43)]) hx hb dX7_joins_72 rfl hl (by decide) rfl (fun ls hl => ?_)
                exact K73 _ _ _ ⟨F64, _, w43, rfl, lv_sub hl [1, 2, 0, 3] rfl, hP, hS, hI, hfr, (fun k hk => (y_fiZ oY69 (s_sub (by decide) hk)).trans (hz0 k hk)), ⟨by omega, by omega⟩, ⟨by omega, by omega⟩, ⟨by omega, by omega⟩, (by rw [y_atE o68]; exact h49), (by rw [y_fiZ oY69 (k := 5) (by decide), ← ev60]; omega), (by rw [y_fiZ oY69 (k := 5) (by decide), ← ev60]; omega)⟩
          · intro g H locs hq
            obtain ⟨F110, ls, w61, rfl, hl, hP, hS, hI, hfr, hz0, h104, h105, h106, h107, h108, h109⟩ := hq
            obtain ⟨z111, q112, oY113, bz114⟩ := y_opY hI ha0
            have hz0 : ∀ k, k ∈ ([1, 2, 3, 4, 7, 8, 11, 15, 16, 19, 25, 26, 27, 31, 32] : List Nat) → z111 k = z0 k := fun k hk => (y_fiZ oY113 (s_sub (by decide) hk)).symm.trans (hz0 k hk)
            obtain ⟨f115, o116, b117⟩ := y_op12 hI
            have h107 : f115 = f17 := by have q9 := h107; rw [y_atE o116] at q9; exact q9
            obtain ⟨v118, ev118⟩ : ∃ y : Int32, y = z111 5 := ⟨_, rfl⟩
            have h108 : ((v4.toInt = 0 ∨ ¬ v118.toInt = 0)) := by have q9 := h108; rw [y_fiZ oY113 (k := 5) (by decide), ← ev118] at q9; exact q9
            have h109 : (v118.toInt = 0 ∧ w61.toInt < nn) := by have q9 := h109; rw [y_fiZ oY113 (k := 5) (by decide), ← ev118] at q9; exact q9
            obtain ⟨v119, ev119⟩ : ∃ y : Int32, w43 + 1 = y := ⟨_, rfl⟩
            have qv119 : v119.toInt = w43.toInt + 1 := by rw [← ev119]; exact th_add rfl (by decide) ⟨by omega, by omega⟩
            refine lv_iinc (v := v119) (lv' := [(3, .int v119), (0, .ref a0), (1, .int w5), (2, .int w61)]) hx hb dX7_joins_73 hl (k := 3) rfl ev119 (by decide) rfl (fun ls hl => ?_)
            refine lv_goto (tgt := 39) hx hb dX7_joins_76 (by decide) ?_
            exact ih39 _ _ _ _ (by omega) ⟨F110, _, w61, v119, rfl, lv_sub hl [1, 2, 3, 0] rfl, hP, hS, hI, hfr, (fun k hk => (y_fiZ oY113 (s_sub (by decide) hk)).trans (hz0 k hk)), ⟨by omega, by omega⟩, ⟨by omega, by omega⟩, ⟨by omega, by omega⟩, (by rw [y_atE o116]; exact h107), (by rw [y_fiZ oY113 (k := 5) (by decide), ← ev118]; omega), (by rw [y_fiZ oY113 (k := 5) (by decide), ← ev118]; omega), rfl⟩
        · have c41 := mt (ax_eq (n := 12) (by decide)).mpr c41
          refine lv_goto (tgt := 106) hx hb dX7_joins_32 (by decide) ?_
          exact K106 _ _ _ ⟨F24, _, rfl, lv_sub hl [0, 1] rfl, hP, hS, hI, hfr, (fun k hk => (y_fiZ oY29 (s_sub (by decide) hk)).trans (hz0 k hk)), ⟨by omega, by omega⟩, (by rw [y_atE o28]; exact h8), (by rw [y_fiZ oY29 (k := 5) (by decide), ← ev20, y_atE o28]; exact (fun hd hg => h9 hd (by omega))), (by rw [y_fiZ oY29 (k := 5) (by decide), ← ev20, y_atE o28]; exact (fun hg => y_JGs (by omega) (fun j h0 h1 => rfl) (fun q => absurd q (by omega)) (h10 (by omega)))), (by rw [y_fiZ oY29 (k := 5) (by decide), ← ev20]; omega)⟩
  · intro g H locs hq
    obtain ⟨F125, ls, w21, rfl, hl, hP, hS, hI, hfr, hz0, h120, h121, h122, h123, h124⟩ := hq
    obtain ⟨z126, q127, oY128, bz129⟩ := y_opY hI ha0
    have hz0 : ∀ k, k ∈ ([1, 2, 3, 4, 7, 8, 11, 15, 16, 19, 25, 26, 27, 31, 32] : List Nat) → z126 k = z0 k := fun k hk => (y_fiZ oY128 (s_sub (by decide) hk)).symm.trans (hz0 k hk)
    obtain ⟨f130, o131, b132⟩ := y_op12 hI
    have h122 : f130 = f17 := by have q9 := h122; rw [y_atE o131] at q9; exact q9
    obtain ⟨v133, ev133⟩ : ∃ y : Int32, y = z126 5 := ⟨_, rfl⟩
    have h123 : ((v4.toInt = 0 ∨ ¬ v133.toInt = 0)) := by have q9 := h123; rw [y_fiZ oY128 (k := 5) (by decide), ← ev133] at q9; exact q9
    have h124 : (w21.toInt < nn ∧ (v133.toInt = 0 → 0 ≤ w21.toInt)) := by have q9 := h124; rw [y_fiZ oY128 (k := 5) (by decide), ← ev133] at q9; exact q9
    refine lv_aload_n hx hb dX7_joins_95 rfl (lv_at hl 0 rfl) ?_
    refine th_get (D := (dC, dI)) (ci := 7) (v := .ref (A 12)) (C := RX7) (T := TX7) (N := 34) hx hb hts inX7 hown hK hP (hLK _ ha0 (by decide)) oY128 rfl 12 (by decide) (hts _ T_245) (fun _ h9 => h9) rfl dX7_joins_96 ?_
    refine lv_iload_n hx hb dX7_joins_99 rfl (lv_at hl 1 rfl) ?_
    refine lv_iconst (v := 4) hx hb dX7_joins_100 (by decide) ?_
    refine va_calli (va_runS (As := [.int w5, .int 4]) (rest := [.ref (A 12)]) ⟨hx, hb, hml, hown, hts⟩ (y_X7_lineAt l dC dI H.size F125 w5 4 (⟨by omega, by omega⟩) (by decide)) (cwS 2 hts (ax_gS T_1216 T_1218 T_265 T_1217) rfl rfl rfl (by decide +kernel) ⟨Nat.le_of_ble_eq_true rfl, Nat.le_of_ble_eq_true rfl⟩) ⟨fun a U g mk q => ⟨q.1, s_pc rfl rfl q.2⟩, fun U hU hW => ⟨rfl, s_pw hU hW hP hK hD hN⟩⟩ rfl rfl hl.1 rfl (lv_room (Nat.le_of_ble_eq_true rfl)) dX7_joins_101 ⟨Nat.zero_le _, Nat.zero_le _⟩) hS (fun q _ h => h) (fun q h => h) (fun r135 F136 t H1 locs ht hvm hw hB hz1 hk1 hS => ?_)
    obtain ⟨hP, hK1⟩ := hB
    rw [ht] at hP
    generalize H1 = H at hP hS ⊢
    obtain ⟨h137, h139, hG9, h138⟩ := hw
    rw [hG9] at hP
    have h138 : (r135.toInt = 8 * w5.toInt + 4) := by have q9 := h138; exact q9
    refine lv_iload_n hx hb dX7_joins_104 rfl (lv_at hl 2 rfl) ?_
    refine th_iast hx hb hK hP hD hS (hLK _ (y_k12 hA) (by decide)) 0 o131 rfl (th_in ⟨by omega, by omega⟩) dX7_joins_105 (fun H locs hP hS => ?_)
    obtain ⟨f140, u141⟩ : ∃ g : Nat → Int32, g = upd f130 (r135 : Int32).toNatClampNeg w21 := ⟨_, rfl⟩
    rw [← u141] at hP
    have b142 : y_bd 12 f140 := by rw [u141]; exact th_updJ (P := fun y => 0 ≤ y.toInt ∧ y.toInt ≤ 40) b132 (fun q => by have q2 := th_tn (by omega) q; omega)
    have hP : va_P (dC, dI) vwCl (va_pl L (va_up F125 (A 12) (.inl (cs 0, 400, .inl f140)))) H := hP
    obtain ⟨F143, hF144⟩ : ∃ G : Nat → va_E, G = va_up F125 (A 12) (.inl (cs 0, 400, .inl f140)) := ⟨_, rfl⟩
    rw [← hF144] at hP
    have hI : y_I K cs A F143 := by rw [hF144]; exact y_clA (i := 12) hA hI (by decide) b142
    have hfr : ∀ b, K b ∉ [9, 62] → F143 b = F b := by rw [hF144]; exact s_fr hfr (y_k12 hA) (by decide)
    have oY145 : F143 a0 = .inr (7, y_fl A z126 q127) := by rw [hF144]; exact th_ne (th_kd ha0 (y_k12 hA) (by decide)) oY128
    have o146 : F143 (A 12) = .inl (cs 0, 400, .inl f140) := by rw [hF144]; exact th_up
    have u147 : ∀ j : Int, 0 ≤ j → y_c f140 j = if j = r135.toInt then w21 else y_c f130 j := by rw [u141]; exact y_cu rfl (by omega)
    have hn149 : (y_c f140 387).toInt = nn := by rw [u147 387 (by omega), if_neg (by omega), h122]; exact h8
    exact K106 _ _ _ ⟨F143, _, rfl, lv_sub hl [0, 1] rfl, hP, hS, hI, hfr, (fun k hk => (y_fiZ oY145 (s_sub (by decide) hk)).trans (hz0 k hk)), ⟨by omega, by omega⟩, (by rw [y_atE o146]; exact hn149), (by rw [y_fiZ oY145 (k := 5) (by decide), ← ev133, y_atE o146]; exact (fun hd hg => y_DSj (k := w5.toInt) ⟨by omega, by omega⟩ (fun j h0 h1 => by rw [u147 j h0, if_neg (by omega)]; exact congrArg (fun f => y_c f j) h122) ((fun hd hg => h9 hd (by omega)) hd (by omega)))), (by rw [y_fiZ oY145 (k := 5) (by decide), ← ev133, y_atE o146]; exact (fun hg => y_JGs (by omega) (fun j h0 h1 => by rw [u147 j h0, if_neg (by omega)]; exact congrArg (fun f => y_c f j) h122) (fun _ => by rw [u147 _ (by omega), if_pos (by omega)]; exact ⟨by omega, by omega⟩) (h10 (by omega)))), (by rw [y_fiZ oY145 (k := 5) (by decide), ← ev133]; omega)⟩
  · intro g H locs hq
    obtain ⟨F155, ls, rfl, hl, hP, hS, hI, hfr, hz0, h150, h151, h152, h153, h154⟩ := hq
    obtain ⟨z156, q157, oY158, bz159⟩ := y_opY hI ha0
    have hz0 : ∀ k, k ∈ ([1, 2, 3, 4, 7, 8, 11, 15, 16, 19, 25, 26, 27, 31, 32] : List Nat) → z156 k = z0 k := fun k hk => (y_fiZ oY158 (s_sub (by decide) hk)).symm.trans (hz0 k hk)
    obtain ⟨f160, o161, b162⟩ := y_op12 hI
    have h151 : (y_c f160 387).toInt = nn := by have q9 := h151; rw [y_atE o161] at q9; exact q9
    obtain ⟨v163, ev163⟩ : ∃ y : Int32, y = z156 5 := ⟨_, rfl⟩
    have h152 : ((v4.toInt = 0 → y_DS f1) → v163.toInt = 0 → y_DS f160) := by have q9 := h152; rw [y_fiZ oY158 (k := 5) (by decide), ← ev163, y_atE o161] at q9; exact q9
    have h153 : (v163.toInt = 0 → y_JG f160 nn (w5.toInt + 1)) := by have q9 := h153; rw [y_fiZ oY158 (k := 5) (by decide), ← ev163, y_atE o161] at q9; exact q9
    have h154 : (v4.toInt = 0 ∨ ¬ v163.toInt = 0) := by have q9 := h154; rw [y_fiZ oY158 (k := 5) (by decide), ← ev163] at q9; exact q9
    obtain ⟨v164, ev164⟩ : ∃ y : Int32, w5 + 1 = y := ⟨_, rfl⟩
    have qv164 : v164.toInt = w5.toInt + 1 := by rw [← ev164]; exact th_add rfl (by decide) ⟨by omega, by omega⟩
    refine lv_iinc (v := v164) (lv' := [(1, .int v164), (0, .ref a0)]) hx hb dX7_joins_106 hl (k := 1) rfl ev164 (by decide) rfl (fun ls hl => ?_)
    refine lv_goto (tgt := 2) hx hb dX7_joins_109 (by decide) ?_
    exact ih2 _ _ _ _ (by omega) ⟨F155, _, v164, rfl, lv_sub hl [1, 0] rfl, hP, hS, hI, hfr, (fun k hk => (y_fiZ oY158 (s_sub (by decide) hk)).trans (hz0 k hk)), ⟨by omega, by omega⟩, (by rw [y_atE o161]; exact h151), (by rw [y_fiZ oY158 (k := 5) (by decide), ← ev163, y_atE o161]; exact (fun hd hg => h152 hd (by omega))), (by rw [y_fiZ oY158 (k := 5) (by decide), ← ev163, y_atE o161]; exact (fun hg => y_JGc (by omega) (h153 (by omega)))), (by rw [y_fiZ oY158 (k := 5) (by decide), ← ev163]; omega), rfl⟩
