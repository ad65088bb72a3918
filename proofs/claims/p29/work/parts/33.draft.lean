set_option maxHeartbeats 4000000 in
set_option maxRecDepth 100000 in
theorem y_X7_lineAt (l : Launch) (dC : Nat → ClassId) (dI : Nat → Nat → Nat) (sz : Nat) {L : List Nat} {cs : Nat → ClassId} (F : Nat → va_E) (x0 : Int32) (x1 : Int32) (hx0 : 0 ≤ x0.toInt ∧ x0.toInt ≤ 40) (hx1 : 0 ≤ x1.toInt ∧ x1.toInt ≤ 7) : Met l yX7_lineAt (Cond.code yX7_lineAt cX7_lineAt 2 (some .int) :: T0) ({ frames := 0, cells := 0, slots := 0, locals := 0 }) (va_Pc [.int x0, .int x1] (s_W dC dI sz L F [(cs 0, .int), (cs 1, .byte), (cs 2, .long), (cs 3, .object RX5), (cs 4, .object RX4), (cs 5, .array .int), (cs 6, .char), (cs 7, .boolean)])) (va_Qi (fun (r : Int32) (G : Nat → va_E) => (0 ≤ r.toInt ∧ r.toInt ≤ 327) ∧ True ∧ G = F ∧ (r.toInt = 8 * x0.toInt + x1.toInt)) (fun (G : Nat → va_E) (t : State) => va_P (dC, dI) vwCl (va_pl L G) t.heap ∧ va_K (dC, dI) vwCl [(cs 0, .int), (cs 1, .byte), (cs 2, .long), (cs 3, .object RX5), (cs 4, .object RX4), (cs 5, .array .int), (cs 6, .char), (cs 7, .boolean)] t) (fun q => q ∈ L)) 0 0 (fun q => q ∈ L) := by
  refine Met.ofW (cc := cX7_lineAt) (maxL := 2) (ret := (some .int)) (by decide) rfl ?_
  intro p e s m args below meth c s₁ B hml hv
  obtain ⟨rfl, hsz, hP, hK, hD, hN⟩ := hv
  have hx := B.exec
  have hb := B.bytes
  have hr := B.returns
  have hts : ∀ w ∈ T0, w.before _ s = true := fun w h => atoms_spec (ws := Cond.code yX7_lineAt cX7_lineAt 2 (some .int) :: T0) B.pre w (List.mem_cons_of_mem _ h)
  have hown : s.vm.findClass RX7 = some m.cls := findClass_of_methodNamed B.named
  have hlocks := B.notSynchronized
  have hS : va_S (fun q => q ∈ L) s.heap s.heap [] := va_S.rf
  have hl := lv_entry ([.int x0, .int x1]) (n := 2) (Nat.le_of_ble_eq_true rfl)
  rw [lg_entry_eq]
  generalize (lg_sl ([.int x0, .int x1]) ++ List.replicate (2 - (lg_sl ([.int x0, .int x1])).length) Slot.unset).toArray = ls at hl ⊢
  have hl : lv_has ls 2 [(0, .int x0), (1, .int x1)] := hl
  refine s_gen hP hS (fun H locs hP hS => ?_)
  refine lv_bipush (v := 8) hx hb dX7_lineAt_0 (by decide) ?_
  refine lv_iload_n hx hb dX7_lineAt_2 rfl (lv_at hl 0 rfl) ?_
  refine lv_imul hx hb dX7_lineAt_3 ?_
  refine lv_topi (fun v1 ev1 => ?_)
  have qv1 : v1.toInt = 8 * x0.toInt := by rw [ev1]; exact th_mul (by decide) rfl ⟨by omega, by omega⟩
  refine lv_iload_n hx hb dX7_lineAt_4 rfl (lv_at hl 1 rfl) ?_
  refine lv_iadd hx hb dX7_lineAt_5 ?_
  refine lv_topi (fun v2 ev2 => ?_)
  have qv2 : v2.toInt = v1.toInt + x1.toInt := by rw [ev2]; exact th_add rfl rfl ⟨by omega, by omega⟩
  exact W.iret (v := v2) hx hb hr (fun t ht hW => ⟨⟨v2, F, rfl, ⟨⟨by omega, by omega⟩, trivial, rfl, (by omega)⟩, by rw [ht]; exact hP, va_K.moved hW.alike hK⟩, hS.F ht⟩) hS.2.2 dX7_lineAt_6

set_option maxHeartbeats 4000000 in
set_option maxRecDepth 100000 in
theorem y_X7_drafted (l : Launch) (dC : Nat → ClassId) (dI : Nat → Nat → Nat) (sz : Nat) {L : List Nat} {K : Nat → Nat} {cs : Nat → ClassId} (hLK : ∀ a {k : Nat}, K a = k → k ≠ 0 → a ∈ L) (A : Nat → Nat) (hA : y_A K A) (F : Nat → va_E) (a0 : Nat) (ha0 : K a0 = 9) (hI : y_I K cs A F) : Met l yX7_drafted (Cond.code yX7_drafted cX7_drafted 1 (some .int) :: T0) ({ frames := 0, cells := 0, slots := 0, locals := 0 }) (va_Pc [.ref a0] (s_W dC dI sz L F [(cs 0, .int), (cs 1, .byte), (cs 2, .long), (cs 3, .object RX5), (cs 4, .object RX4), (cs 5, .array .int), (cs 6, .char), (cs 7, .boolean)])) (va_Qi (fun (r : Int32) (G : Nat → va_E) => (0 ≤ r.toInt ∧ r.toInt ≤ 40) ∧ True ∧ y_I K cs A G ∧ (∀ b, K b ∉ ([] : List Nat) → G b = F b) ∧ (∀ k, k ∈ ([1, 2, 3, 4, 5, 6, 7, 8, 11, 15, 16, 19, 25, 26, 27, 31, 32] : List Nat) → y_fi G a0 k = y_fi F a0 k) ∧ (r = y_c (y_at F (A 12)) 387)) (fun (G : Nat → va_E) (t : State) => va_P (dC, dI) vwCl (va_pl L G) t.heap ∧ va_K (dC, dI) vwCl [(cs 0, .int), (cs 1, .byte), (cs 2, .long), (cs 3, .object RX5), (cs 4, .object RX4), (cs 5, .array .int), (cs 6, .char), (cs 7, .boolean)] t) (fun q => q ∈ L)) 0 0 (fun q => q ∈ L) := by
  refine Met.ofW (cc := cX7_drafted) (maxL := 1) (ret := (some .int)) (by decide) rfl ?_
  intro p e s m args below meth c s₁ B hml hv
  obtain ⟨rfl, hsz, hP, hK, hD, hN⟩ := hv
  have hx := B.exec
  have hb := B.bytes
  have hr := B.returns
  have hts : ∀ w ∈ T0, w.before _ s = true := fun w h => atoms_spec (ws := Cond.code yX7_drafted cX7_drafted 1 (some .int) :: T0) B.pre w (List.mem_cons_of_mem _ h)
  have hown : s.vm.findClass RX7 = some m.cls := findClass_of_methodNamed B.named
  have hlocks := B.notSynchronized
  have hS : va_S (fun q => q ∈ L) s.heap s.heap [] := va_S.rf
  have hfr : ∀ b, K b ∉ ([] : List Nat) → F b = F b := fun _ _ => rfl
  have hl := lv_entry ([.ref a0]) (n := 1) (Nat.le_of_ble_eq_true rfl)
  rw [lg_entry_eq]
  generalize (lg_sl ([.ref a0]) ++ List.replicate (1 - (lg_sl ([.ref a0])).length) Slot.unset).toArray = ls at hl ⊢
  have hl : lv_has ls 1 [(0, .ref a0)] := hl
  refine s_gen hP hS (fun H locs hP hS => ?_)
  obtain ⟨z0, q0, oY0, bz0⟩ := y_opY hI ha0
  have hz0 : ∀ k, k ∈ ([1, 2, 3, 4, 5, 6, 7, 8, 11, 15, 16, 19, 25, 26, 27, 31, 32] : List Nat) → z0 k = z0 k := fun _ _ => rfl
  obtain ⟨f1, o2, b3⟩ := y_op12 hI
  refine lv_aload_n hx hb dX7_drafted_0 rfl (lv_at hl 0 rfl) ?_
  refine th_get (D := (dC, dI)) (ci := 7) (v := .ref (A 12)) (C := RX7) (T := TX7) (N := 34) hx hb hts inX7 hown hK hP (hLK _ ha0 (by decide)) oY0 rfl 12 (by decide) (hts _ T_245) (fun _ h9 => h9) rfl dX7_drafted_1 ?_
  refine lv_sipush (v := 387) hx hb dX7_drafted_4 (by decide) ?_
  refine th_iald hx hb hK hP (hLK _ (y_k12 hA) (by decide)) 0 o2 rfl (ax_in (by decide)) dX7_drafted_7 ?_
  refine lv_topi (fun v4 ev4 => ?_)
  have qv4 : 0 ≤ v4.toInt ∧ v4.toInt ≤ 40 := by rw [ev4]; exact b3
  exact W.iret (v := v4) hx hb hr (fun t ht hW => ⟨⟨v4, F, rfl, ⟨⟨by omega, by omega⟩, trivial, hI, hfr, fun k hk => by rw [y_fiZ oY0 (s_sub (by decide) hk), y_fiZ oY0 (s_sub (by decide) hk)]; exact hz0 k hk, (by rw [y_atE o2]; exact ev4)⟩, by rw [ht]; exact hP, va_K.moved hW.alike hK⟩, hS.F ht⟩) hS.2.2 dX7_drafted_8

set_option maxHeartbeats 4000000 in
set_option maxRecDepth 100000 in
theorem y_X7_lays (l : Launch) (dC : Nat → ClassId) (dI : Nat → Nat → Nat) (sz : Nat) {L : List Nat} {K : Nat → Nat} {cs : Nat → ClassId} (hLK : ∀ a {k : Nat}, K a = k → k ≠ 0 → a ∈ L) (A : Nat → Nat) (hA : y_A K A) (F : Nat → va_E) (a0 : Nat) (x1 : Int32) (x2 : Int32) (ha0 : K a0 = 9) (hx1 : 0 ≤ x1.toInt ∧ x1.toInt ≤ 7) (hI : y_I K cs A F) : Met l yX7_lays (Cond.code yX7_lays cX7_lays 3 none :: T0) ({ frames := 1, cells := 0, slots := 0, locals := 21 }) (va_Pc [.ref a0, .int x1, .int x2] (s_W dC dI sz L F [(cs 0, .int), (cs 1, .byte), (cs 2, .long), (cs 3, .object RX5), (cs 4, .object RX4), (cs 5, .array .int), (cs 6, .char), (cs 7, .boolean)])) (va_Qv (fun (G : Nat → va_E) => True ∧ True ∧ y_I K cs A G ∧ (∀ b, K b ∉ [62] → G b = F b) ∧ (∀ k, k ∈ ([1, 2, 3, 4, 5, 6, 7, 8, 11, 15, 16, 19, 25, 26, 27, 31, 32] : List Nat) → y_fi G a0 k = y_fi F a0 k) ∧ ((∀ j : Int, 0 ≤ j → j ≠ 8 * (y_c (y_at F (A 12)) 387).toInt + x1.toInt → y_c (y_at G (A 12)) j = y_c (y_at F (A 12)) j) ∧ ((y_fi F a0 5).toInt = 0 → y_c (y_at G (A 12)) (8 * (y_c (y_at F (A 12)) 387).toInt + x1.toInt) = x2))) (fun (G : Nat → va_E) (t : State) => va_P (dC, dI) vwCl (va_pl L G) t.heap ∧ va_K (dC, dI) vwCl [(cs 0, .int), (cs 1, .byte), (cs 2, .long), (cs 3, .object RX5), (cs 4, .object RX4), (cs 5, .array .int), (cs 6, .char), (cs 7, .boolean)] t) (fun q => q ∈ L)) 0 0 (fun q => q ∈ L) := by
  refine Met.ofW (cc := cX7_lays) (maxL := 3) (ret := none) (by decide) rfl ?_
  intro p e s m args below meth c s₁ B hml hv
  obtain ⟨rfl, hsz, hP, hK, hD, hN⟩ := hv
  have hx := B.exec
  have hb := B.bytes
  have hr := B.returns
  have hts : ∀ w ∈ T0, w.before _ s = true := fun w h => atoms_spec (ws := Cond.code yX7_lays cX7_lays 3 none :: T0) B.pre w (List.mem_cons_of_mem _ h)
  have hown : s.vm.findClass RX7 = some m.cls := findClass_of_methodNamed B.named
  have hlocks := B.notSynchronized
  have hS : va_S (fun q => q ∈ L) s.heap s.heap [] := va_S.rf
  have hfr : ∀ b, K b ∉ [62] → F b = F b := fun _ _ => rfl
  have hl := lv_entry ([.ref a0, .int x1, .int x2]) (n := 3) (Nat.le_of_ble_eq_true rfl)
  rw [lg_entry_eq]
  generalize (lg_sl ([.ref a0, .int x1, .int x2]) ++ List.replicate (3 - (lg_sl ([.ref a0, .int x1, .int x2])).length) Slot.unset).toArray = ls at hl ⊢
  have hl : lv_has ls 3 [(0, .ref a0), (1, .int x1), (2, .int x2)] := hl
  refine s_gen hP hS (fun H locs hP hS => ?_)
  obtain ⟨z0, q0, oY0, bz0⟩ := y_opY hI ha0
  have hz0 : ∀ k, k ∈ ([1, 2, 3, 4, 5, 6, 7, 8, 11, 15, 16, 19, 25, 26, 27, 31, 32] : List Nat) → z0 k = z0 k := fun _ _ => rfl
  obtain ⟨f1, o2, b3⟩ := y_op12 hI
  obtain ⟨v4, ev4⟩ : ∃ y : Int32, y = z0 5 := ⟨_, rfl⟩
  have eF_5 := ev4
  refine lv_aload_n hx hb dX7_lays_0 rfl (lv_at hl 0 rfl) ?_
  refine th_get (D := (dC, dI)) (ci := 7) (v := .int (z0 5)) (C := RX7) (T := TX7) (N := 34) hx hb hts inX7 hown hK hP (hLK _ ha0 (by decide)) oY0 rfl 5 (by decide) (hts _ T_274) (fun _ h9 => h9) rfl dX7_lays_1 ?_
  refine ax_eqi (y := v4) ev4.symm ?_
  refine lv_if_ne (tgt := 21) hx hb dX7_lays_4 (by decide) (fun c5 => ?_) (fun c5 => ?_)
  · have c5 := mt (ax_eq (n := 0) (by decide)).mpr c5
    exact W.vret hx hb hr (fun t ht hW => ⟨⟨F, rfl, ⟨trivial, trivial, hI, hfr, fun k hk => by rw [y_fiZ oY0 (s_sub (by decide) hk), y_fiZ oY0 (s_sub (by decide) hk)]; exact hz0 k hk, (by rw [y_atE o2, y_fiZ oY0 (k := 5) (by decide), ← eF_5]; exact ⟨fun j _ _ => rfl, fun q => absurd q c5⟩)⟩, by rw [ht]; exact hP, va_K.moved hW.alike hK⟩, hS.F ht⟩) hS.2.2 dX7_lays_21
  · have c5 := (ax_eq (n := 0) (by decide)).mp c5
    refine lv_aload_n hx hb dX7_lays_7 rfl (lv_at hl 0 rfl) ?_
    refine th_get (D := (dC, dI)) (ci := 7) (v := .ref (A 12)) (C := RX7) (T := TX7) (N := 34) hx hb hts inX7 hown hK hP (hLK _ ha0 (by decide)) oY0 rfl 12 (by decide) (hts _ T_245) (fun _ h9 => h9) rfl dX7_lays_8 ?_
    refine lv_aload_n hx hb dX7_lays_11 rfl (lv_at hl 0 rfl) ?_
    refine va_calli (va_runV (As := []) (rest := [.ref (A 12)]) ⟨hx, hb, hml, hown, hts⟩ (y_X7_drafted l dC dI H.size hLK A hA F a0 ha0 hI) (cwV 0 hts (ax_gV T_293 T_294 T_295 T_265 T_28) rfl rfl rfl (by decide +kernel) ⟨Nat.le_of_ble_eq_true rfl, Nat.le_of_ble_eq_true rfl⟩) ⟨fun a U g mk q => ⟨q.1, s_pc rfl rfl q.2⟩, s_recv hK hP (hLK _ ha0 (by decide)) (ci := 7) rfl oY0, fun U hU hW => ⟨rfl, s_pw hU hW hP hK hD hN⟩⟩ rfl rfl hl.1 rfl (lv_room (Nat.le_of_ble_eq_true rfl)) dX7_lays_12 ⟨Nat.zero_le _, Nat.zero_le _⟩) hS (fun q _ h => h) (fun q h => h) (fun r7 F8 t H1 locs ht hvm hw hB hz1 hk1 hS => ?_)
    obtain ⟨hP, hK1⟩ := hB
    rw [ht] at hP
    generalize H1 = H at hP hS ⊢
    obtain ⟨h9, h11, hI, hfr1, hzf, h10⟩ := hw
    have o12 : F8 (A 12) = .inl (cs 0, 400, .inl f1) := (hfr1 _ (by rw [(y_k12 hA)]; decide)).trans o2
    have oY13 : F8 a0 = .inr (7, y_fl A z0 q0) := (hfr1 _ (by rw [ha0]; decide)).trans oY0
    have hfr : ∀ b, K b ∉ [62] → F8 b = F b := fun b hb9 => (hfr1 b (fun q => hb9 (s_sub (by decide) q))).trans (hfr b hb9)
    have h10 : (r7 = y_c f1 387) := by have q9 := h10; rw [y_atE o2] at q9; exact q9
    refine lv_iload_n hx hb dX7_lays_15 rfl (lv_at hl 1 rfl) ?_
    refine va_calli (va_runS (As := [.int r7, .int x1]) (rest := [.ref (A 12)]) ⟨hx, hb, hml, hown, hts⟩ (y_X7_lineAt l dC dI H.size F8 r7 x1 (⟨by omega, by omega⟩) (⟨by omega, by omega⟩)) (cwS 2 hts (ax_gS T_1216 T_1218 T_265 T_1217) rfl rfl rfl (by decide +kernel) ⟨Nat.le_of_ble_eq_true rfl, Nat.le_of_ble_eq_true rfl⟩) ⟨fun a U g mk q => ⟨q.1, s_pc rfl rfl q.2⟩, fun U hU hW => ⟨rfl, s_pw hU hW hP hK hD hN⟩⟩ rfl rfl hl.1 rfl (lv_room (Nat.le_of_ble_eq_true rfl)) dX7_lays_16 ⟨Nat.zero_le _, Nat.zero_le _⟩) hS (fun q _ h => h) (fun q h => h) (fun r15 F16 t H1 locs ht hvm hw hB hz1 hk1 hS => ?_)
    obtain ⟨hP, hK1⟩ := hB
    rw [ht] at hP
    generalize H1 = H at hP hS ⊢
    obtain ⟨h17, h19, hG9, h18⟩ := hw
    subst hG9
    have h18 : (r15.toInt = 8 * r7.toInt + x1.toInt) := by have q9 := h18; exact q9
    refine lv_iload_n hx hb dX7_lays_19 rfl (lv_at hl 2 rfl) ?_
    refine th_iast hx hb hK hP hD hS (hLK _ (y_k12 hA) (by decide)) 0 o12 rfl (th_in ⟨by omega, by omega⟩) dX7_lays_20 (fun H locs hP hS => ?_)
    obtain ⟨f20, u21⟩ : ∃ g : Nat → Int32, g = upd f1 (r15 : Int32).toNatClampNeg x2 := ⟨_, rfl⟩
    rw [← u21] at hP
    have b22 : y_bd 12 f20 := by rw [u21]; exact th_updJ (P := fun y => 0 ≤ y.toInt ∧ y.toInt ≤ 40) b3 (fun q => by have q2 := th_tn (by omega) q; omega)
    have hP : va_P (dC, dI) vwCl (va_pl L (va_up F8 (A 12) (.inl (cs 0, 400, .inl f20)))) H := hP
    obtain ⟨F23, hF24⟩ : ∃ G : Nat → va_E, G = va_up F8 (A 12) (.inl (cs 0, 400, .inl f20)) := ⟨_, rfl⟩
    rw [← hF24] at hP
    have hI : y_I K cs A F23 := by rw [hF24]; exact y_clA (i := 12) hA hI (by decide) b22
    have hfr : ∀ b, K b ∉ [62] → F23 b = F b := by rw [hF24]; exact s_fr hfr (y_k12 hA) (by decide)
    have oY25 : F23 a0 = .inr (7, y_fl A z0 q0) := by rw [hF24]; exact th_ne (th_kd ha0 (y_k12 hA) (by decide)) oY13
    have o26 : F23 (A 12) = .inl (cs 0, 400, .inl f20) := by rw [hF24]; exact th_up
    have u27 : ∀ j : Int, 0 ≤ j → y_c f20 j = if j = r15.toInt then x2 else y_c f1 j := by rw [u21]; exact y_cu rfl (by omega)
    exact W.vret hx hb hr (fun t ht hW => ⟨⟨F23, rfl, ⟨trivial, trivial, hI, hfr, fun k hk => by rw [y_fiZ oY25 (s_sub (by decide) hk), y_fiZ oY0 (s_sub (by decide) hk)]; exact hz0 k hk, (by rw [y_atE o2, y_atE o26, y_fiZ oY0 (k := 5) (by decide), ← eF_5]; exact ⟨fun j h0 h1 => by rw [u27 j h0, if_neg (by rw [h10] at h18; omega)], fun _ => by rw [u27 _ (by rw [h10] at h18; omega), if_pos (by rw [h10] at h18; omega)]⟩)⟩, by rw [ht]; exact hP, va_K.moved hW.alike hK⟩, hS.F ht⟩) hS.2.2 dX7_lays_21

set_option maxHeartbeats 4000000 in
set_option maxRecDepth 100000 in
theorem y_X7_registerTold (l : Launch) (dC : Nat → ClassId) (dI : Nat → Nat → Nat) (sz : Nat) {L : List Nat} {K : Nat → Nat} {cs : Nat → ClassId} (hLK : ∀ a {k : Nat}, K a = k → k ≠ 0 → a ∈ L) (A : Nat → Nat) (hA : y_A K A) (F : Nat → va_E) (a0 : Nat) (ha0 : K a0 = 9) (hI : y_I K cs A F) : Met l yX7_registerTold (Cond.code yX7_registerTold cX7_registerTold 2 (some .int) :: T0) ({ frames := 3, cells := 0, slots := 0, locals := 64 }) (va_Pc [.ref a0] (s_W dC dI sz L F [(cs 0, .int), (cs 1, .byte), (cs 2, .long), (cs 3, .object RX5), (cs 4, .object RX4), (cs 5, .array .int), (cs 6, .char), (cs 7, .boolean)])) (va_Qi (fun (r : Int32) (G : Nat → va_E) => (0 ≤ r.toInt ∧ r.toInt ≤ 3) ∧ True ∧ y_I K cs A G ∧ (∀ b, K b ∉ [9] → G b = F b) ∧ (∀ k, k ∈ ([1, 3, 7, 8, 11, 15, 16, 19, 25, 26, 27, 31, 32] : List Nat) → y_fi G a0 k = y_fi F a0 k) ∧ (((y_fi F a0 5).toInt = 0 ∨ ¬ (y_fi G a0 5).toInt = 0) ∧ ((y_fi G a0 5).toInt = 0 → 0 ≤ r.toInt ∧ r.toInt ≤ 3))) (fun (G : Nat → va_E) (t : State) => va_P (dC, dI) vwCl (va_pl L G) t.heap ∧ va_K (dC, dI) vwCl [(cs 0, .int), (cs 1, .byte), (cs 2, .long), (cs 3, .object RX5), (cs 4, .object RX4), (cs 5, .array .int), (cs 6, .char), (cs 7, .boolean)] t) (fun q => q ∈ L)) 0 0 (fun q => q ∈ L) := by
  refine Met.ofW (cc := cX7_registerTold) (maxL := 2) (ret := (some .int)) (by decide) rfl ?_
  intro p e s m args below meth c s₁ B hml hv
  obtain ⟨rfl, hsz, hP, hK, hD, hN⟩ := hv
  have hx := B.exec
  have hb := B.bytes
  have hr := B.returns
  have hts : ∀ w ∈ T0, w.before _ s = true := fun w h => atoms_spec (ws := Cond.code yX7_registerTold cX7_registerTold 2 (some .int) :: T0) B.pre w (List.mem_cons_of_mem _ h)
  have hown : s.vm.findClass RX7 = some m.cls := findClass_of_methodNamed B.named
  have hlocks := B.notSynchronized
  have hS : va_S (fun q => q ∈ L) s.heap s.heap [] := va_S.rf
  have hfr : ∀ b, K b ∉ [9] → F b = F b := fun _ _ => rfl
  have hl := lv_entry ([.ref a0]) (n := 2) (Nat.le_of_ble_eq_true rfl)
  rw [lg_entry_eq]
  generalize (lg_sl ([.ref a0]) ++ List.replicate (2 - (lg_sl ([.ref a0])).length) Slot.unset).toArray = ls at hl ⊢
  have hl : lv_has ls 2 [(0, .ref a0)] := hl
  refine s_gen hP hS (fun H locs hP hS => ?_)
  obtain ⟨z0, q0, oY0, bz0⟩ := y_opY hI ha0
  have hz0 : ∀ k, k ∈ ([1, 3, 7, 8, 11, 15, 16, 19, 25, 26, 27, 31, 32] : List Nat) → z0 k = z0 k := fun _ _ => rfl
  obtain ⟨v1, ev1⟩ : ∃ y : Int32, y = z0 5 := ⟨_, rfl⟩
  have eF_5 := ev1
  refine th_join (fun g H locs => ∃ (G : Nat → va_E) (ls : Array Slot) (w2 : Int32), g = F0 m 50 ls [] ∧ lv_has ls 2 [(0, .ref a0), (1, .int w2)] ∧ va_P (dC, dI) vwCl (va_pl L G) H ∧ va_S (fun q => q ∈ L) s.heap H locs ∧ y_I K cs A G ∧ (∀ b, K b ∉ [9] → G b = F b) ∧ (∀ k, k ∈ ([1, 3, 7, 8, 11, 15, 16, 19, 25, 26, 27, 31, 32] : List Nat) → y_fi G a0 k = z0 k) ∧ True ∧ ((v1.toInt = 0 ∨ ¬ (y_fi G a0 5).toInt = 0) ∧ ((y_fi G a0 5).toInt = 0 → 16 ≤ w2.toInt ∧ w2.toInt ≤ 19))) (fun K50 => ?_) ?_
  refine th_join (fun g H locs => ∃ (G : Nat → va_E) (ls : Array Slot) (w3 : Int32) (w4 : Int32), g = F0 m 47 ls [.int w4, .int 1, .ref a0] ∧ lv_has ls 2 [(0, .ref a0), (1, .int w3)] ∧ va_P (dC, dI) vwCl (va_pl L G) H ∧ va_S (fun q => q ∈ L) s.heap H locs ∧ y_I K cs A G ∧ (∀ b, K b ∉ [9] → G b = F b) ∧ (∀ k, k ∈ ([1, 3, 7, 8, 11, 15, 16, 19, 25, 26, 27, 31, 32] : List Nat) → y_fi G a0 k = z0 k) ∧ True ∧ (0 ≤ w4.toInt ∧ w4.toInt ≤ 1600) ∧ (v1.toInt = (y_fi G a0 5).toInt)) (fun K47 => ?_) ?_
  · refine lv_aload_n hx hb dX7_registerTold_0 rfl (lv_at hl 0 rfl) ?_
    refine va_calli (va_runV (As := []) (rest := []) ⟨hx, hb, hml, hown, hts⟩ (y_X7_ownHere l dC dI H.size hLK A hA F a0 ha0 hI) (cwV 0 hts (ax_gV T_283 T_284 T_285 T_265 T_25) rfl rfl rfl (by decide +kernel) ⟨Nat.le_of_ble_eq_true rfl, Nat.le_of_ble_eq_true rfl⟩) ⟨fun a U g mk q => ⟨q.1, s_pc rfl rfl q.2⟩, s_recv hK hP (hLK _ ha0 (by decide)) (ci := 7) rfl oY0, fun U hU hW => ⟨rfl, s_pw hU hW hP hK hD hN⟩⟩ rfl rfl hl.1 rfl (lv_room (Nat.le_of_ble_eq_true rfl)) dX7_registerTold_1 ⟨Nat.zero_le _, Nat.zero_le _⟩) hS (fun q _ h => h) (fun q h => h) (fun r6 F7 t H1 locs ht hvm hw hB hz1 hk1 hS => ?_)
    obtain ⟨hP, hK1⟩ := hB
    rw [ht] at hP
    generalize H1 = H at hP hS ⊢
    obtain ⟨h8, h10, hI, hfr1, hzf, h9⟩ := hw
    obtain ⟨z11, q12, oY13, bz14⟩ := y_opY hI ha0
    have hzf : ∀ k, k ∈ ([1, 3, 4, 5, 6, 7, 8, 11, 15, 16, 19, 25, 26, 27, 31, 32] : List Nat) → z11 k = z0 k := fun k hk => by have q9 := hzf k hk; rw [y_fiZ oY13 (s_sub (by decide) hk), y_fiZ oY0 (s_sub (by decide) hk)] at q9; exact q9
    have hz0 : ∀ k, k ∈ ([1, 3, 7, 8, 11, 15, 16, 19, 25, 26, 27, 31, 32] : List Nat) → z11 k = z0 k := fun k hk => (hzf k (s_sub (by decide) hk)).trans (hz0 k hk)
    have ev1 : v1 = z11 5 := ev1.trans (hzf 5 (by decide)).symm
    have hfr : ∀ b, K b ∉ [9] → F7 b = F b := fun b hb9 => (hfr1 b (fun q => hb9 (s_sub (by decide) q))).trans (hfr b hb9)
    refine lv_istore_n (lv' := [(1, .int r6), (0, .ref a0)]) hx hb dX7_registerTold_4 rfl hl (by decide) rfl (fun ls hl => ?_)
    refine lv_aload_n hx hb dX7_registerTold_5 rfl (lv_at hl 1 rfl) ?_
    refine th_get (D := (dC, dI)) (ci := 7) (v := .int (z11 5)) (C := RX7) (T := TX7) (N := 34) hx hb hts inX7 hown hK hP (hLK _ ha0 (by decide)) oY13 rfl 5 (by decide) (hts _ T_274) (fun _ h9 => h9) rfl dX7_registerTold_6 ?_
    refine ax_eqi (y := v1) ev1.symm ?_
    refine lv_if_ne (tgt := 50) hx hb dX7_registerTold_9 (by decide) (fun c15 => ?_) (fun c15 => ?_)
    · have c15 := mt (ax_eq (n := 0) (by decide)).mpr c15
      exact K50 _ _ _ ⟨F7, _, r6, rfl, lv_sub hl [1, 0] rfl, hP, hS, hI, hfr, (fun k hk => by rw [y_fiZ oY13 (s_sub (by decide) hk)]; exact hz0 k hk), trivial, (by rw [y_fiZ oY13 (k := 5) (by decide), ← ev1]; omega)⟩
    · have c15 := (ax_eq (n := 0) (by decide)).mp c15
      refine lv_iload_n hx hb dX7_registerTold_12 rfl (lv_at hl 0 rfl) ?_
      refine lv_i2l hx hb dX7_registerTold_13 rfl ?_
      refine lv_topl (fun v16 ev16 => ?_)
      have qv16 : v16.toInt = r6.toInt := y_i2l ev16
      refine lv_ldc2 hx hb hown (hts _ T_1305) dX7_registerTold_14 ?_
      refine lv_ldc2 hx hb hown (hts _ T_1306) dX7_registerTold_17 ?_
      refine va_calli (va_runS (As := [.long v16, .long 16, .long 19]) (rest := []) ⟨hx, hb, hml, hown, hts⟩ (y_X7_isIn l dC dI H.size F7 v16 16 19) (cwS 3 hts (ax_gS T_267 T_268 T_265 T_21) rfl rfl rfl (by decide +kernel) ⟨Nat.le_of_ble_eq_true rfl, Nat.le_of_ble_eq_true rfl⟩) ⟨fun a U g mk q => ⟨q.1, s_pc rfl rfl q.2⟩, fun U hU hW => ⟨rfl, s_pw hU hW hP hK hD hN⟩⟩ rfl rfl hl.1 rfl (lv_room (Nat.le_of_ble_eq_true rfl)) dX7_registerTold_20 ⟨Nat.zero_le _, Nat.zero_le _⟩) hS (fun q _ h => h) (fun q h => h) (fun r18 F19 t H1 locs ht hvm hw hB hz1 hk1 hS => ?_)
      obtain ⟨hP, hK1⟩ := hB
      rw [ht] at hP
      generalize H1 = H at hP hS ⊢
      obtain ⟨h20, h22, hG9, h21⟩ := hw
      subst hG9
      have h21 : ((r18.toInt = 0 ∧ (v16.toInt < 16 ∨ 19 < v16.toInt)) ∨ (r18.toInt = 1 ∧ 16 ≤ v16.toInt ∧ v16.toInt ≤ 19)) := by have q9 := h21; exact q9
      refine lv_if_ne (tgt := 50) hx hb dX7_registerTold_23 (by decide) (fun c23 => ?_) (fun c23 => ?_)
      · have c23 := mt (ax_eq (n := 0) (by decide)).mpr c23
        exact K50 _ _ _ ⟨F7, _, r6, rfl, lv_sub hl [1, 0] rfl, hP, hS, hI, hfr, (fun k hk => by rw [y_fiZ oY13 (s_sub (by decide) hk)]; exact hz0 k hk), trivial, (by rw [y_fiZ oY13 (k := 5) (by decide), ← ev1]; omega)⟩
      · have c23 := (ax_eq (n := 0) (by decide)).mp c23
        refine lv_aload_n hx hb dX7_registerTold_26 rfl (lv_at hl 1 rfl) ?_
        refine lv_iconst (v := 1) hx hb dX7_registerTold_27 (by decide) ?_
        refine lv_aload_n hx hb dX7_registerTold_28 rfl (lv_at hl 1 rfl) ?_
        refine va_calli (va_runV (As := []) (rest := [.int 1, .ref a0]) ⟨hx, hb, hml, hown, hts⟩ (y_X7_look l dC dI H.size hLK A hA F7 a0 ha0 hI) (cwV 0 hts (ax_gV T_275 T_276 T_277 T_265 T_22) rfl rfl rfl (by decide +kernel) ⟨Nat.le_of_ble_eq_true rfl, Nat.le_of_ble_eq_true rfl⟩) ⟨fun a U g mk q => ⟨q.1, s_pc rfl rfl q.2⟩, s_recv hK hP (hLK _ ha0 (by decide)) (ci := 7) rfl oY13, fun U hU hW => ⟨rfl, s_pw hU hW hP hK hD hN⟩⟩ rfl rfl hl.1 rfl (lv_room (Nat.le_of_ble_eq_true rfl)) dX7_registerTold_29 ⟨Nat.zero_le _, Nat.zero_le _⟩) hS (fun q _ h => h) (fun q h => h) (fun r25 F26 t H1 locs ht hvm hw hB hz1 hk1 hS => ?_)
        obtain ⟨hP, hK1⟩ := hB
        rw [ht] at hP
        generalize H1 = H at hP hS ⊢
        obtain ⟨h27, h29, hI, hfr1, hzf, h28⟩ := hw
        obtain ⟨z30, q31, oY32, bz33⟩ := y_opY hI ha0
        have hzf : ∀ k, k ∈ ([1, 3, 4, 5, 6, 7, 8, 11, 15, 16, 19, 25, 26, 27, 31, 32] : List Nat) → z30 k = z11 k := fun k hk => by have q9 := hzf k hk; rw [y_fiZ oY32 (s_sub (by decide) hk), y_fiZ oY13 (s_sub (by decide) hk)] at q9; exact q9
        have hz0 : ∀ k, k ∈ ([1, 3, 7, 8, 11, 15, 16, 19, 25, 26, 27, 31, 32] : List Nat) → z30 k = z0 k := fun k hk => (hzf k (s_sub (by decide) hk)).trans (hz0 k hk)
        have ev1 : v1 = z30 5 := ev1.trans (hzf 5 (by decide)).symm
        have hfr : ∀ b, K b ∉ [9] → F26 b = F b := fun b hb9 => (hfr1 b (fun q => hb9 (s_sub (by decide) q))).trans (hfr b hb9)
        obtain ⟨v34, ev34⟩ : ∃ y : Int32, y = z30 2 := ⟨_, rfl⟩
        have qv34 : 0 ≤ v34.toInt ∧ v34.toInt ≤ 1600 := by rw [ev34]; exact y_bY2 bz33
        obtain ⟨v35, ev35⟩ : ∃ y : Int32, y = z30 3 := ⟨_, rfl⟩
        have qv35 : 0 ≤ v35.toInt ∧ v35.toInt ≤ 1600 := by rw [ev35]; exact y_bY3 bz33
        have h28 : (r25.toInt = -1 ∨ v34.toInt < v35.toInt) := by have q9 := h28; rw [y_fiZ oY32 (k := 2) (by decide), ← ev34, y_fiZ oY32 (k := 3) (by decide), ← ev35] at q9; exact q9
        refine lv_iconst (v := (-1)) hx hb dX7_registerTold_32 (by decide) ?_
        refine lv_icmp_ne (tgt := 43) hx hb dX7_registerTold_33 (by decide) (fun c36 => ?_) (fun c36 => ?_)
        · have c36 := mt (ax_eq (n := (-1)) (by decide)).mpr c36
          refine lv_aload_n hx hb dX7_registerTold_43 rfl (lv_at hl 1 rfl) ?_
          refine th_get (D := (dC, dI)) (ci := 7) (v := .int (z30 2)) (C := RX7) (T := TX7) (N := 34) hx hb hts inX7 hown hK hP (hLK _ ha0 (by decide)) oY32 rfl 2 (by decide) (hts _ T_272) (fun _ h9 => h9) rfl dX7_registerTold_44 ?_
          refine ax_eqi (y := v34) ev34.symm ?_
          exact K47 _ _ _ ⟨F26, _, r6, v34, rfl, lv_sub hl [1, 0] rfl, hP, hS, hI, hfr, (fun k hk => by rw [y_fiZ oY32 (s_sub (by decide) hk)]; exact hz0 k hk), trivial, ⟨by omega, by omega⟩, (by rw [y_fiZ oY32 (k := 5) (by decide), ← ev1]; omega)⟩
        · have c36 := (ax_eq (n := (-1)) (by decide)).mp c36
          refine lv_aload_n hx hb dX7_registerTold_36 rfl (lv_at hl 1 rfl) ?_
          refine th_get (D := (dC, dI)) (ci := 7) (v := .int (z30 3)) (C := RX7) (T := TX7) (N := 34) hx hb hts inX7 hown hK hP (hLK _ ha0 (by decide)) oY32 rfl 3 (by decide) (hts _ T_273) (fun _ h9 => h9) rfl dX7_registerTold_37 ?_
          refine ax_eqi (y := v35) ev35.symm ?_
          refine lv_goto (tgt := 47) hx hb dX7_registerTold_40 (by decide) ?_
          exact K47 _ _ _ ⟨F26, _, r6, v35, rfl, lv_sub hl [1, 0] rfl, hP, hS, hI, hfr, (fun k hk => by rw [y_fiZ oY32 (s_sub (by decide) hk)]; exact hz0 k hk), trivial, ⟨by omega, by omega⟩, (by rw [y_fiZ oY32 (k := 5) (by decide), ← ev1]; omega)⟩
  · intro g H locs hq
    obtain ⟨F40, ls, w3, w4, rfl, hl, hP, hS, hI, hfr, hz0, h37, h38, h39⟩ := hq
    obtain ⟨z41, q42, oY43, bz44⟩ := y_opY hI ha0
    have hz0 : ∀ k, k ∈ ([1, 3, 7, 8, 11, 15, 16, 19, 25, 26, 27, 31, 32] : List Nat) → z41 k = z0 k := fun k hk => (y_fiZ oY43 (s_sub (by decide) hk)).symm.trans (hz0 k hk)
    obtain ⟨v45, ev45⟩ : ∃ y : Int32, y = z41 5 := ⟨_, rfl⟩
    have h39 : (v1.toInt = v45.toInt) := by have q9 := h39; rw [y_fiZ oY0 (k := 5) (by decide), ← eF_5, y_fiZ oY43 (k := 5) (by decide), ← ev45] at q9; exact q9
    refine va_callv (va_runV (As := [.int 1, .int w4]) (rest := []) ⟨hx, hb, hml, hown, hts⟩ (y_X7_fail l dC dI H.size hLK A hA F40 a0 1 w4 ha0 (by decide) hI) (cwV 2 hts (ax_gV T_290 T_291 T_292 T_265 T_27) rfl rfl rfl (by decide +kernel) ⟨Nat.le_of_ble_eq_true rfl, Nat.le_of_ble_eq_true rfl⟩) ⟨fun a U g mk q => ⟨q.1, s_pc rfl rfl q.2⟩, s_recv hK hP (hLK _ ha0 (by decide)) (ci := 7) rfl oY43, fun U hU hW => ⟨rfl, s_pw hU hW hP hK hD hN⟩⟩ rfl rfl hl.1 rfl (lv_room (Nat.le_of_ble_eq_true rfl)) dX7_registerTold_47 ⟨Nat.zero_le _, Nat.zero_le _⟩) hS (fun q _ h => h) (fun q h => h) (fun F47 t H1 locs ht hvm hw hB hz1 hk1 hS => ?_)
    obtain ⟨hP, hK1⟩ := hB
    rw [ht] at hP
    generalize H1 = H at hP hS ⊢
    obtain ⟨h48, h50, hI, hfr1, hzf, h49⟩ := hw
    obtain ⟨z51, q52, oY53, bz54⟩ := y_opY hI ha0
    have hzf : ∀ k, k ∈ ([1, 2, 3, 4, 7, 8, 11, 15, 16, 19, 25, 26, 27, 31, 32] : List Nat) → z51 k = z41 k := fun k hk => by have q9 := hzf k hk; rw [y_fiZ oY53 (s_sub (by decide) hk), y_fiZ oY43 (s_sub (by decide) hk)] at q9; exact q9
    have hz0 : ∀ k, k ∈ ([1, 3, 7, 8, 11, 15, 16, 19, 25, 26, 27, 31, 32] : List Nat) → z51 k = z0 k := fun k hk => (hzf k (s_sub (by decide) hk)).trans (hz0 k hk)
    have hfr : ∀ b, K b ∉ [9] → F47 b = F b := fun b hb9 => (hfr1 b (fun q => hb9 (s_sub (by decide) q))).trans (hfr b hb9)
    obtain ⟨v55, ev55⟩ : ∃ y : Int32, y = z51 5 := ⟨_, rfl⟩
    have h49 : (¬ v55.toInt = 0) := by have q9 := h49; rw [y_fiZ oY53 (k := 5) (by decide), ← ev55] at q9; exact q9
    exact K50 _ _ _ ⟨F47, _, w3, rfl, lv_sub hl [0, 1] rfl, hP, hS, hI, hfr, (fun k hk => by rw [y_fiZ oY53 (s_sub (by decide) hk)]; exact hz0 k hk), trivial, (by rw [y_fiZ oY53 (k := 5) (by decide), ← ev55]; omega)⟩
  · intro g H locs hq
    obtain ⟨F58, ls, w2, rfl, hl, hP, hS, hI, hfr, hz0, h56, h57⟩ := hq
    obtain ⟨z59, q60, oY61, bz62⟩ := y_opY hI ha0
    have hz0 : ∀ k, k ∈ ([1, 3, 7, 8, 11, 15, 16, 19, 25, 26, 27, 31, 32] : List Nat) → z59 k = z0 k := fun k hk => (y_fiZ oY61 (s_sub (by decide) hk)).symm.trans (hz0 k hk)
    obtain ⟨v63, ev63⟩ : ∃ y : Int32, y = z59 5 := ⟨_, rfl⟩
    have h57 : ((v1.toInt = 0 ∨ ¬ v63.toInt = 0) ∧ (v63.toInt = 0 → 16 ≤ w2.toInt ∧ w2.toInt ≤ 19)) := by have q9 := h57; rw [y_fiZ oY0 (k := 5) (by decide), ← eF_5, y_fiZ oY61 (k := 5) (by decide), ← ev63] at q9; exact q9
    refine lv_aload_n hx hb dX7_registerTold_50 rfl (lv_at hl 0 rfl) ?_
    refine th_get (D := (dC, dI)) (ci := 7) (v := .int (z59 5)) (C := RX7) (T := TX7) (N := 34) hx hb hts inX7 hown hK hP (hLK _ ha0 (by decide)) oY61 rfl 5 (by decide) (hts _ T_274) (fun _ h9 => h9) rfl dX7_registerTold_51 ?_
    refine ax_eqi (y := v63) ev63.symm ?_
    refine lv_if_eq (tgt := 59) hx hb dX7_registerTold_54 (by decide) (fun c64 => ?_) (fun c64 => ?_)
    · have c64 := (ax_eq (n := 0) (by decide)).mp c64
      refine lv_aload_n hx hb dX7_registerTold_59 rfl (lv_at hl 0 rfl) ?_
      refine va_callv (va_runV (As := []) (rest := []) ⟨hx, hb, hml, hown, hts⟩ (y_X7_passes l dC dI H.size hLK A hA F58 a0 ha0 hI) (cwV 0 hts (ax_gV T_1257 T_1259 T_1260 T_265 T_1258) rfl rfl rfl (by decide +kernel) ⟨Nat.le_of_ble_eq_true rfl, Nat.le_of_ble_eq_true rfl⟩) ⟨fun a U g mk q => ⟨q.1, s_pc rfl rfl q.2⟩, s_recv hK hP (hLK _ ha0 (by decide)) (ci := 7) rfl oY61, fun U hU hW => ⟨rfl, s_pw hU hW hP hK hD hN⟩⟩ rfl rfl hl.1 rfl (lv_room (Nat.le_of_ble_eq_true rfl)) dX7_registerTold_60 ⟨Nat.zero_le _, Nat.zero_le _⟩) hS (fun q _ h => h) (fun q h => h) (fun F66 t H1 locs ht hvm hw hB hz1 hk1 hS => ?_)
      obtain ⟨hP, hK1⟩ := hB
      rw [ht] at hP
      generalize H1 = H at hP hS ⊢
      obtain ⟨h67, h69, hI, hfr1, hzf, h68⟩ := hw
      obtain ⟨z70, q71, oY72, bz73⟩ := y_opY hI ha0
      have hzf : ∀ k, k ∈ ([1, 3, 5, 6, 7, 8, 11, 15, 16, 19, 25, 26, 27, 31, 32] : List Nat) → z70 k = z59 k := fun k hk => by have q9 := hzf k hk; rw [y_fiZ oY72 (s_sub (by decide) hk), y_fiZ oY61 (s_sub (by decide) hk)] at q9; exact q9
      have hz0 : ∀ k, k ∈ ([1, 3, 7, 8, 11, 15, 16, 19, 25, 26, 27, 31, 32] : List Nat) → z70 k = z0 k := fun k hk => (hzf k (s_sub (by decide) hk)).trans (hz0 k hk)
      have ev63 : v63 = z70 5 := ev63.trans (hzf 5 (by decide)).symm
      have hfr : ∀ b, K b ∉ [9] → F66 b = F b := fun b hb9 => (hfr1 b (fun q => hb9 (s_sub (by decide) q))).trans (hfr b hb9)
      refine lv_iload_n hx hb dX7_registerTold_63 rfl (lv_at hl 1 rfl) ?_
      have h74 : 16 ≤ w2.toInt ∧ w2.toInt ≤ 19 := ⟨by omega, by omega⟩
      refine lv_bipush (v := 16) hx hb dX7_registerTold_64 (by decide) ?_
      refine lv_isub hx hb dX7_registerTold_66 ?_
      refine lv_topi (fun v75 ev75 => ?_)
      have qv75 : v75.toInt = w2.toInt - 16 := by rw [ev75]; exact th_sub rfl (by decide) ⟨by omega, by omega⟩
      exact W.iret (v := v75) hx hb hr (fun t ht hW => ⟨⟨v75, F66, rfl, ⟨⟨by omega, by omega⟩, trivial, hI, hfr, fun k hk => by rw [y_fiZ oY72 (s_sub (by decide) hk), y_fiZ oY0 (s_sub (by decide) hk)]; exact hz0 k hk, (by rw [y_fiZ oY0 (k := 5) (by decide), ← eF_5, y_fiZ oY72 (k := 5) (by decide), ← ev63]; omega)⟩, by rw [ht]; exact hP, va_K.moved hW.alike hK⟩, hS.F ht⟩) hS.2.2 dX7_registerTold_67
    · have c64 := mt (ax_eq (n := 0) (by decide)).mpr c64
      refine lv_iconst (v := 0) hx hb dX7_registerTold_57 (by decide) ?_
      exact W.iret (v := 0) hx hb hr (fun t ht hW => ⟨⟨0, F58, rfl, ⟨(by decide), trivial, hI, hfr, fun k hk => by rw [y_fiZ oY61 (s_sub (by decide) hk), y_fiZ oY0 (s_sub (by decide) hk)]; exact hz0 k hk, (by rw [y_fiZ oY0 (k := 5) (by decide), ← eF_5, y_fiZ oY61 (k := 5) (by decide), ← ev63]; omega)⟩, by rw [ht]; exact hP, va_K.moved hW.alike hK⟩, hS.F ht⟩) hS.2.2 dX7_registerTold_58

set_option maxHeartbeats 4000000 in
set_option maxRecDepth 100000 in
theorem y_X7_partTold (l : Launch) (dC : Nat → ClassId) (dI : Nat → Nat → Nat) (sz : Nat) {L : List Nat} {K : Nat → Nat} {cs : Nat → ClassId} (hLK : ∀ a {k : Nat}, K a = k → k ≠ 0 → a ∈ L) (A : Nat → Nat) (hA : y_A K A) (F : Nat → va_E) (a0 : Nat) (ha0 : K a0 = 9) (hI : y_I K cs A F) : Met l yX7_partTold (Cond.code yX7_partTold cX7_partTold 2 (some .int) :: T0) ({ frames := 4, cells := 0, slots := 0, locals := 85 }) (va_Pc [.ref a0] (s_W dC dI sz L F [(cs 0, .int), (cs 1, .byte), (cs 2, .long), (cs 3, .object RX5), (cs 4, .object RX4), (cs 5, .array .int), (cs 6, .char), (cs 7, .boolean)])) (va_Qi (fun (r : Int32) (G : Nat → va_E) => True ∧ True ∧ y_I K cs A G ∧ (∀ b, K b ∉ [9] → G b = F b) ∧ (∀ k, k ∈ ([1, 3, 7, 8, 11, 15, 16, 19, 25, 26, 27, 31, 32] : List Nat) → y_fi G a0 k = y_fi F a0 k) ∧ (((y_fi F a0 5).toInt = 0 ∨ ¬ (y_fi G a0 5).toInt = 0) ∧ ((y_fi G a0 5).toInt = 0 → -4 ≤ r.toInt ∧ r.toInt ≤ 999))) (fun (G : Nat → va_E) (t : State) => va_P (dC, dI) vwCl (va_pl L G) t.heap ∧ va_K (dC, dI) vwCl [(cs 0, .int), (cs 1, .byte), (cs 2, .long), (cs 3, .object RX5), (cs 4, .object RX4), (cs 5, .array .int), (cs 6, .char), (cs 7, .boolean)] t) (fun q => q ∈ L)) 0 0 (fun q => q ∈ L) := by
  refine Met.ofW (cc := cX7_partTold) (maxL := 2) (ret := (some .int)) (by decide) rfl ?_
  intro p e s m args below meth c s₁ B hml hv
  obtain ⟨rfl, hsz, hP, hK, hD, hN⟩ := hv
  have hx := B.exec
  have hb := B.bytes
  have hr := B.returns
  have hts : ∀ w ∈ T0, w.before _ s = true := fun w h => atoms_spec (ws := Cond.code yX7_partTold cX7_partTold 2 (some .int) :: T0) B.pre w (List.mem_cons_of_mem _ h)
  have hown : s.vm.findClass RX7 = some m.cls := findClass_of_methodNamed B.named
  have hlocks := B.notSynchronized
  have hS : va_S (fun q => q ∈ L) s.heap s.heap [] := va_S.rf
  have hfr : ∀ b, K b ∉ [9] → F b = F b := fun _ _ => rfl
  have hl := lv_entry ([.ref a0]) (n := 2) (Nat.le_of_ble_eq_true rfl)
  rw [lg_entry_eq]
  generalize (lg_sl ([.ref a0]) ++ List.replicate (2 - (lg_sl ([.ref a0])).length) Slot.unset).toArray = ls at hl ⊢
  have hl : lv_has ls 2 [(0, .ref a0)] := hl
  refine s_gen hP hS (fun H locs hP hS => ?_)
  obtain ⟨z0, q0, oY0, bz0⟩ := y_opY hI ha0
  have hz0 : ∀ k, k ∈ ([1, 3, 7, 8, 11, 15, 16, 19, 25, 26, 27, 31, 32] : List Nat) → z0 k = z0 k := fun _ _ => rfl
  obtain ⟨v1, ev1⟩ : ∃ y : Int32, y = z0 5 := ⟨_, rfl⟩
  have eF_5 := ev1
  refine th_join (fun g H locs => ∃ (G : Nat → va_E) (ls : Array Slot), g = F0 m 39 ls [] ∧ lv_has ls 2 [(0, .ref a0)] ∧ va_P (dC, dI) vwCl (va_pl L G) H ∧ va_S (fun q => q ∈ L) s.heap H locs ∧ y_I K cs A G ∧ (∀ b, K b ∉ [9] → G b = F b) ∧ (∀ k, k ∈ ([1, 3, 7, 8, 11, 15, 16, 19, 25, 26, 27, 31, 32] : List Nat) → y_fi G a0 k = z0 k) ∧ (v1.toInt = (y_fi G a0 5).toInt)) (fun K39 => ?_) ?_
  · refine lv_aload_n hx hb dX7_partTold_0 rfl (lv_at hl 0 rfl) ?_
    refine va_calli (va_runV (As := []) (rest := []) ⟨hx, hb, hml, hown, hts⟩ (y_X7_look l dC dI H.size hLK A hA F a0 ha0 hI) (cwV 0 hts (ax_gV T_275 T_276 T_277 T_265 T_22) rfl rfl rfl (by decide +kernel) ⟨Nat.le_of_ble_eq_true rfl, Nat.le_of_ble_eq_true rfl⟩) ⟨fun a U g mk q => ⟨q.1, s_pc rfl rfl q.2⟩, s_recv hK hP (hLK _ ha0 (by decide)) (ci := 7) rfl oY0, fun U hU hW => ⟨rfl, s_pw hU hW hP hK hD hN⟩⟩ rfl rfl hl.1 rfl (lv_room (Nat.le_of_ble_eq_true rfl)) dX7_partTold_1 ⟨Nat.zero_le _, Nat.zero_le _⟩) hS (fun q _ h => h) (fun q h => h) (fun r3 F4 t H1 locs ht hvm hw hB hz1 hk1 hS => ?_)
    obtain ⟨hP, hK1⟩ := hB
    rw [ht] at hP
    generalize H1 = H at hP hS ⊢
    obtain ⟨h5, h7, hI, hfr1, hzf, h6⟩ := hw
    obtain ⟨z8, q9, oY10, bz11⟩ := y_opY hI ha0
    have hzf : ∀ k, k ∈ ([1, 3, 4, 5, 6, 7, 8, 11, 15, 16, 19, 25, 26, 27, 31, 32] : List Nat) → z8 k = z0 k := fun k hk => by have q9 := hzf k hk; rw [y_fiZ oY10 (s_sub (by decide) hk), y_fiZ oY0 (s_sub (by decide) hk)] at q9; exact q9
    have hz0 : ∀ k, k ∈ ([1, 3, 7, 8, 11, 15, 16, 19, 25, 26, 27, 31, 32] : List Nat) → z8 k = z0 k := fun k hk => (hzf k (s_sub (by decide) hk)).trans (hz0 k hk)
    have ev1 : v1 = z8 5 := ev1.trans (hzf 5 (by decide)).symm
    have hfr : ∀ b, K b ∉ [9] → F4 b = F b := fun b hb9 => (hfr1 b (fun q => hb9 (s_sub (by decide) q))).trans (hfr b hb9)
    obtain ⟨v12, ev12⟩ : ∃ y : Int32, y = z8 2 := ⟨_, rfl⟩
    have qv12 : 0 ≤ v12.toInt ∧ v12.toInt ≤ 1600 := by rw [ev12]; exact y_bY2 bz11
    obtain ⟨v13, ev13⟩ : ∃ y : Int32, y = z8 3 := ⟨_, rfl⟩
    have qv13 : 0 ≤ v13.toInt ∧ v13.toInt ≤ 1600 := by rw [ev13]; exact y_bY3 bz11
    have h6 : (r3.toInt = -1 ∨ v12.toInt < v13.toInt) := by have q9 := h6; rw [y_fiZ oY10 (k := 2) (by decide), ← ev12, y_fiZ oY10 (k := 3) (by decide), ← ev13] at q9; exact q9
    refine lv_istore_n (lv' := [(1, .int r3), (0, .ref a0)]) hx hb dX7_partTold_4 rfl hl (by decide) rfl (fun ls hl => ?_)
    refine lv_aload_n hx hb dX7_partTold_5 rfl (lv_at hl 1 rfl) ?_
    refine th_get (D := (dC, dI)) (ci := 7) (v := .int (z8 5)) (C := RX7) (T := TX7) (N := 34) hx hb hts inX7 hown hK hP (hLK _ ha0 (by decide)) oY10 rfl 5 (by decide) (hts _ T_274) (fun _ h9 => h9) rfl dX7_partTold_6 ?_
    refine ax_eqi (y := v1) ev1.symm ?_
    refine lv_if_ne (tgt := 39) hx hb dX7_partTold_9 (by decide) (fun c14 => ?_) (fun c14 => ?_)
    · have c14 := mt (ax_eq (n := 0) (by decide)).mpr c14
      exact K39 _ _ _ ⟨F4, _, rfl, lv_sub hl [1] rfl, hP, hS, hI, hfr, (fun k hk => by rw [y_fiZ oY10 (s_sub (by decide) hk)]; exact hz0 k hk), (by rw [y_fiZ oY10 (k := 5) (by decide), ← ev1]; omega)⟩
    · have c14 := (ax_eq (n := 0) (by decide)).mp c14
      refine lv_iload_n hx hb dX7_partTold_12 rfl (lv_at hl 0 rfl) ?_
      refine va_calli (va_runS (As := [.int r3]) (rest := []) ⟨hx, hb, hml, hown, hts⟩ (y_X7_isDigit l dC dI H.size F4 r3) (cwS 1 hts (ax_gS T_1279 T_1281 T_265 T_1280) rfl rfl rfl (by decide +kernel) ⟨Nat.le_of_ble_eq_true rfl, Nat.le_of_ble_eq_true rfl⟩) ⟨fun a U g mk q => ⟨q.1, s_pc rfl rfl q.2⟩, fun U hU hW => ⟨rfl, s_pw hU hW hP hK hD hN⟩⟩ rfl rfl hl.1 rfl (lv_room (Nat.le_of_ble_eq_true rfl)) dX7_partTold_13 ⟨Nat.zero_le _, Nat.zero_le _⟩) hS (fun q _ h => h) (fun q h => h) (fun r16 F17 t H1 locs ht hvm hw hB hz1 hk1 hS => ?_)
      obtain ⟨hP, hK1⟩ := hB
      rw [ht] at hP
      generalize H1 = H at hP hS ⊢
      obtain ⟨h18, h20, hG9, h19⟩ := hw
      subst hG9
      refine lv_if_eq (tgt := 39) hx hb dX7_partTold_16 (by decide) (fun c21 => ?_) (fun c21 => ?_)
      · have c21 := (ax_eq (n := 0) (by decide)).mp c21
        exact K39 _ _ _ ⟨F4, _, rfl, lv_sub hl [1] rfl, hP, hS, hI, hfr, (fun k hk => by rw [y_fiZ oY10 (s_sub (by decide) hk)]; exact hz0 k hk), (by rw [y_fiZ oY10 (k := 5) (by decide), ← ev1]; omega)⟩
      · have c21 := mt (ax_eq (n := 0) (by decide)).mpr c21
        have h22 := h20 (fun q => c21 (by rw [q]; decide))
        refine lv_aload_n hx hb dX7_partTold_19 rfl (lv_at hl 1 rfl) ?_
        refine th_get (D := (dC, dI)) (ci := 7) (v := .int (z8 2)) (C := RX7) (T := TX7) (N := 34) hx hb hts inX7 hown hK hP (hLK _ ha0 (by decide)) oY10 rfl 2 (by decide) (hts _ T_272) (fun _ h9 => h9) rfl dX7_partTold_20 ?_
        refine ax_eqi (y := v12) ev12.symm ?_
        refine lv_aload_n hx hb dX7_partTold_23 rfl (lv_at hl 1 rfl) ?_
        refine th_get (D := (dC, dI)) (ci := 7) (v := .int (z8 4)) (C := RX7) (T := TX7) (N := 34) hx hb hts inX7 hown hK hP (hLK _ ha0 (by decide)) oY10 rfl 4 (by decide) (hts _ T_296) (fun _ h9 => h9) rfl dX7_partTold_24 ?_
        refine lv_topi (fun v23 ev23 => ?_)
        refine lv_icmp_eq (tgt := 39) hx hb dX7_partTold_27 (by decide) (fun c24 => ?_) (fun c24 => ?_)
        · have c24 := Int32.toInt_inj.symm.mp c24
          exact K39 _ _ _ ⟨F4, _, rfl, lv_sub hl [1] rfl, hP, hS, hI, hfr, (fun k hk => by rw [y_fiZ oY10 (s_sub (by decide) hk)]; exact hz0 k hk), (by rw [y_fiZ oY10 (k := 5) (by decide), ← ev1]; omega)⟩
        · have c24 := mt Int32.toInt_inj.symm.mpr c24
          refine lv_aload_n hx hb dX7_partTold_30 rfl (lv_at hl 1 rfl) ?_
          refine lv_iconst (v := 0) hx hb dX7_partTold_31 (by decide) ?_
          refine lv_sipush (v := 999) hx hb dX7_partTold_32 (by decide) ?_
          have ep25_5 := ev1
          refine va_calli (va_runV (As := [.int 0, .int 999]) (rest := []) ⟨hx, hb, hml, hown, hts⟩ (y_X7_number l dC dI H.size hLK A hA F4 a0 0 999 ha0 hI) (cwV 2 hts (ax_gV T_300 T_301 T_302 T_265 T_30) rfl rfl rfl (by decide +kernel) ⟨Nat.le_of_ble_eq_true rfl, Nat.le_of_ble_eq_true rfl⟩) ⟨fun a U g mk q => ⟨q.1, s_pc rfl rfl q.2⟩, s_recv hK hP (hLK _ ha0 (by decide)) (ci := 7) rfl oY10, fun U hU hW => ⟨rfl, s_pw hU hW hP hK hD hN⟩⟩ rfl rfl hl.1 rfl (lv_room (Nat.le_of_ble_eq_true rfl)) dX7_partTold_35 ⟨Nat.zero_le _, Nat.zero_le _⟩) hS (fun q _ h => h) (fun q h => h) (fun r26 F27 t H1 locs ht hvm hw hB hz1 hk1 hS => ?_)
          obtain ⟨hP, hK1⟩ := hB
          rw [ht] at hP
          generalize H1 = H at hP hS ⊢
          obtain ⟨h28, h30, hI, hfr1, hzf, h29⟩ := hw
          obtain ⟨z31, q32, oY33, bz34⟩ := y_opY hI ha0
          have hzf : ∀ k, k ∈ ([1, 3, 7, 8, 11, 15, 16, 19, 25, 26, 27, 31, 32] : List Nat) → z31 k = z8 k := fun k hk => by have q9 := hzf k hk; rw [y_fiZ oY33 (s_sub (by decide) hk), y_fiZ oY10 (s_sub (by decide) hk)] at q9; exact q9
          have hz0 : ∀ k, k ∈ ([1, 3, 7, 8, 11, 15, 16, 19, 25, 26, 27, 31, 32] : List Nat) → z31 k = z0 k := fun k hk => (hzf k (s_sub (by decide) hk)).trans (hz0 k hk)
          have ev13 : v13 = z31 3 := ev13.trans (hzf 3 (by decide)).symm
          have hfr : ∀ b, K b ∉ [9] → F27 b = F b := fun b hb9 => (hfr1 b (fun q => hb9 (s_sub (by decide) q))).trans (hfr b hb9)
          obtain ⟨v35, ev35⟩ : ∃ y : Int32, y = z31 5 := ⟨_, rfl⟩
          have h29 : ((v1.toInt = 0 ∨ ¬ v35.toInt = 0) ∧ (v35.toInt = 0 → 0 ≤ r26.toInt ∧ r26.toInt ≤ 999)) := by have q9 := h29; rw [y_fiZ oY10 (k := 5) (by decide), ← ep25_5, y_fiZ oY33 (k := 5) (by decide), ← ev35] at q9; exact q9
          exact W.iret (v := r26) hx hb hr (fun t ht hW => ⟨⟨r26, F27, rfl, ⟨trivial, trivial, hI, hfr, fun k hk => by rw [y_fiZ oY33 (s_sub (by decide) hk), y_fiZ oY0 (s_sub (by decide) hk)]; exact hz0 k hk, (by rw [y_fiZ oY0 (k := 5) (by decide), ← eF_5, y_fiZ oY33 (k := 5) (by decide), ← ev35]; omega)⟩, by rw [ht]; exact hP, va_K.moved hW.alike hK⟩, hS.F ht⟩) hS.2.2 dX7_partTold_38
  · intro g H locs hq
    obtain ⟨F37, ls, rfl, hl, hP, hS, hI, hfr, hz0, h36⟩ := hq
    obtain ⟨z38, q39, oY40, bz41⟩ := y_opY hI ha0
    have hz0 : ∀ k, k ∈ ([1, 3, 7, 8, 11, 15, 16, 19, 25, 26, 27, 31, 32] : List Nat) → z38 k = z0 k := fun k hk => (y_fiZ oY40 (s_sub (by decide) hk)).symm.trans (hz0 k hk)
    obtain ⟨v42, ev42⟩ : ∃ y : Int32, y = z38 5 := ⟨_, rfl⟩
    have h36 : (v1.toInt = v42.toInt) := by have q9 := h36; rw [y_fiZ oY0 (k := 5) (by decide), ← eF_5, y_fiZ oY40 (k := 5) (by decide), ← ev42] at q9; exact q9
    refine lv_iconst (v := (-1)) hx hb dX7_partTold_39 (by decide) ?_
    refine lv_aload_n hx hb dX7_partTold_40 rfl (lv_at hl 0 rfl) ?_
    have ep43_5 := ev42
    refine va_calli (va_runV (As := []) (rest := [.int (-1)]) ⟨hx, hb, hml, hown, hts⟩ (y_X7_registerTold l dC dI H.size hLK A hA F37 a0 ha0 hI) (cwV 0 hts (ax_gV T_1264 T_1266 T_1267 T_265 T_1265) rfl rfl rfl (by decide +kernel) ⟨Nat.le_of_ble_eq_true rfl, Nat.le_of_ble_eq_true rfl⟩) ⟨fun a U g mk q => ⟨q.1, s_pc rfl rfl q.2⟩, s_recv hK hP (hLK _ ha0 (by decide)) (ci := 7) rfl oY40, fun U hU hW => ⟨rfl, s_pw hU hW hP hK hD hN⟩⟩ rfl rfl hl.1 rfl (lv_room (Nat.le_of_ble_eq_true rfl)) dX7_partTold_41 ⟨Nat.zero_le _, Nat.zero_le _⟩) hS (fun q _ h => h) (fun q h => h) (fun r44 F45 t H1 locs ht hvm hw hB hz1 hk1 hS => ?_)
    obtain ⟨hP, hK1⟩ := hB
    rw [ht] at hP
    generalize H1 = H at hP hS ⊢
    obtain ⟨h46, h48, hI, hfr1, hzf, h47⟩ := hw
    obtain ⟨z49, q50, oY51, bz52⟩ := y_opY hI ha0
    have hzf : ∀ k, k ∈ ([1, 3, 7, 8, 11, 15, 16, 19, 25, 26, 27, 31, 32] : List Nat) → z49 k = z38 k := fun k hk => by have q9 := hzf k hk; rw [y_fiZ oY51 (s_sub (by decide) hk), y_fiZ oY40 (s_sub (by decide) hk)] at q9; exact q9
    have hz0 : ∀ k, k ∈ ([1, 3, 7, 8, 11, 15, 16, 19, 25, 26, 27, 31, 32] : List Nat) → z49 k = z0 k := fun k hk => (hzf k (s_sub (by decide) hk)).trans (hz0 k hk)
    have hfr : ∀ b, K b ∉ [9] → F45 b = F b := fun b hb9 => (hfr1 b (fun q => hb9 (s_sub (by decide) q))).trans (hfr b hb9)
    obtain ⟨v53, ev53⟩ : ∃ y : Int32, y = z49 5 := ⟨_, rfl⟩
    have h47 : ((v42.toInt = 0 ∨ ¬ v53.toInt = 0) ∧ (v53.toInt = 0 → 0 ≤ r44.toInt ∧ r44.toInt ≤ 3)) := by have q9 := h47; rw [y_fiZ oY40 (k := 5) (by decide), ← ep43_5, y_fiZ oY51 (k := 5) (by decide), ← ev53] at q9; exact q9
    refine lv_isub hx hb dX7_partTold_44 ?_
    refine lv_topi (fun v54 ev54 => ?_)
    have qv54 : v54.toInt = (-1) - r44.toInt := by rw [ev54]; exact th_sub (by decide) rfl ⟨by omega, by omega⟩
    exact W.iret (v := v54) hx hb hr (fun t ht hW => ⟨⟨v54, F45, rfl, ⟨trivial, trivial, hI, hfr, fun k hk => by rw [y_fiZ oY51 (s_sub (by decide) hk), y_fiZ oY0 (s_sub (by decide) hk)]; exact hz0 k hk, (by rw [y_fiZ oY0 (k := 5) (by decide), ← eF_5, y_fiZ oY51 (k := 5) (by decide), ← ev53]; omega)⟩, by rw [ht]; exact hP, va_K.moved hW.alike hK⟩, hS.F ht⟩) hS.2.2 dX7_partTold_45

set_option maxHeartbeats 4000000 in
set_option maxRecDepth 100000 in
theorem y_X7_hasRegister (l : Launch) (dC : Nat → ClassId) (dI : Nat → Nat → Nat) (sz : Nat) {L : List Nat} {cs : Nat → ClassId} (F : Nat → va_E) (x0 : Int32) (hx0 : 0 ≤ x0.toInt ∧ x0.toInt ≤ 15) : Met l yX7_hasRegister (Cond.code yX7_hasRegister cX7_hasRegister 1 (some .boolean) :: T0) ({ frames := 0, cells := 0, slots := 0, locals := 0 }) (va_Pc [.int x0] (s_W dC dI sz L F [(cs 0, .int), (cs 1, .byte), (cs 2, .long), (cs 3, .object RX5), (cs 4, .object RX4), (cs 5, .array .int), (cs 6, .char), (cs 7, .boolean)])) (va_Qi (fun (r : Int32) (G : Nat → va_E) => (0 ≤ r.toInt ∧ r.toInt ≤ 1) ∧ (¬ r = 0 → 0 ≤ x0.toInt ∧ x0.toInt ≤ 11) ∧ G = F ∧ True) (fun (G : Nat → va_E) (t : State) => va_P (dC, dI) vwCl (va_pl L G) t.heap ∧ va_K (dC, dI) vwCl [(cs 0, .int), (cs 1, .byte), (cs 2, .long), (cs 3, .object RX5), (cs 4, .object RX4), (cs 5, .array .int), (cs 6, .char), (cs 7, .boolean)] t) (fun q => q ∈ L)) 0 0 (fun q => q ∈ L) := by
  refine Met.ofW (cc := cX7_hasRegister) (maxL := 1) (ret := (some .boolean)) (by decide) rfl ?_
  intro p e s m args below meth c s₁ B hml hv
  obtain ⟨rfl, hsz, hP, hK, hD, hN⟩ := hv
  have hx := B.exec
  have hb := B.bytes
  have hr := B.returns
  have hts : ∀ w ∈ T0, w.before _ s = true := fun w h => atoms_spec (ws := Cond.code yX7_hasRegister cX7_hasRegister 1 (some .boolean) :: T0) B.pre w (List.mem_cons_of_mem _ h)
  have hown : s.vm.findClass RX7 = some m.cls := findClass_of_methodNamed B.named
  have hlocks := B.notSynchronized
  have hS : va_S (fun q => q ∈ L) s.heap s.heap [] := va_S.rf
  have hl := lv_entry ([.int x0]) (n := 1) (Nat.le_of_ble_eq_true rfl)
  rw [lg_entry_eq]
  generalize (lg_sl ([.int x0]) ++ List.replicate (1 - (lg_sl ([.int x0])).length) Slot.unset).toArray = ls at hl ⊢
  have hl : lv_has ls 1 [(0, .int x0)] := hl
  refine s_gen hP hS (fun H locs hP hS => ?_)
  refine th_join (fun g H locs => ∃ (G : Nat → va_E) (ls : Array Slot), g = F0 m 18 ls [] ∧ lv_has ls 1 [] ∧ va_P (dC, dI) vwCl (va_pl L G) H ∧ va_S (fun q => q ∈ L) s.heap H locs ∧ G = F) (fun K18 => ?_) ?_
  · refine lv_iload_n hx hb dX7_hasRegister_0 rfl (lv_at hl 0 rfl) ?_
    refine lv_bipush (v := 7) hx hb dX7_hasRegister_1 (by decide) ?_
    refine lv_icmp_le (tgt := 18) hx hb dX7_hasRegister_3 (by decide) (fun c1 => ?_) (fun c1 => ?_)
    · have c1 := (ax_le (n := 7) (by decide)).mp c1
      exact K18 _ _ _ ⟨F, _, rfl, lv_sub hl [] rfl, hP, hS, rfl⟩
    · have c1 := mt (ax_le (n := 7) (by decide)).mpr c1
      refine lv_iload_n hx hb dX7_hasRegister_6 rfl (lv_at hl 0 rfl) ?_
      refine lv_bipush (v := 9) hx hb dX7_hasRegister_7 (by decide) ?_
      refine lv_icmp_eq (tgt := 18) hx hb dX7_hasRegister_9 (by decide) (fun c2 => ?_) (fun c2 => ?_)
      · have c2 := (ax_eq (n := 9) (by decide)).mp c2
        exact K18 _ _ _ ⟨F, _, rfl, lv_sub hl [] rfl, hP, hS, rfl⟩
      · have c2 := mt (ax_eq (n := 9) (by decide)).mpr c2
        refine lv_iload_n hx hb dX7_hasRegister_12 rfl (lv_at hl 0 rfl) ?_
        refine lv_bipush (v := 11) hx hb dX7_hasRegister_13 (by decide) ?_
        refine lv_icmp_ne (tgt := 22) hx hb dX7_hasRegister_15 (by decide) (fun c3 => ?_) (fun c3 => ?_)
        · have c3 := mt (ax_eq (n := 11) (by decide)).mpr c3
          refine lv_iconst (v := 0) hx hb dX7_hasRegister_22 (by decide) ?_
          exact W.zret (v := 0) (ty := .boolean) hx hb hr (by decide) (fun t ht hW => ⟨⟨0, F, rfl, ⟨(by decide), (fun q => absurd (by decide) q), rfl, trivial⟩, by rw [ht]; exact hP, va_K.moved hW.alike hK⟩, hS.F ht⟩) hS.2.2 dX7_hasRegister_23
        · have c3 := (ax_eq (n := 11) (by decide)).mp c3
          exact K18 _ _ _ ⟨F, _, rfl, lv_sub hl [] rfl, hP, hS, rfl⟩
  · intro g H locs hq
    obtain ⟨F4, ls, rfl, hl, hP, hS, hG9⟩ := hq
    subst hG9
    refine lv_iconst (v := 1) hx hb dX7_hasRegister_18 (by decide) ?_
    refine lv_goto (tgt := 23) hx hb dX7_hasRegister_19 (by decide) ?_
    exact W.zret (v := 1) (ty := .boolean) hx hb hr (by decide) (fun t ht hW => ⟨⟨1, F4, rfl, ⟨(by decide), (fun q => ⟨by omega, by omega⟩), rfl, trivial⟩, by rw [ht]; exact hP, va_K.moved hW.alike hK⟩, hS.F ht⟩) hS.2.2 dX7_hasRegister_23

set_option maxHeartbeats 4000000 in
set_option maxRecDepth 100000 in
theorem y_X7_partsOf (l : Launch) (dC : Nat → ClassId) (dI : Nat → Nat → Nat) (sz : Nat) {L : List Nat} {cs : Nat → ClassId} (F : Nat → va_E) (x0 : Int32) (hx0 : 0 ≤ x0.toInt ∧ x0.toInt ≤ 15) : Met l yX7_partsOf (Cond.code yX7_partsOf cX7_partsOf 1 (some .int) :: T0) ({ frames := 0, cells := 0, slots := 0, locals := 0 }) (va_Pc [.int x0] (s_W dC dI sz L F [(cs 0, .int), (cs 1, .byte), (cs 2, .long), (cs 3, .object RX5), (cs 4, .object RX4), (cs 5, .array .int), (cs 6, .char), (cs 7, .boolean)])) (va_Qi (fun (r : Int32) (G : Nat → va_E) => (0 ≤ r.toInt ∧ r.toInt ≤ 2) ∧ True ∧ G = F ∧ ((r.toInt = 0 ∧ (x0.toInt = 5 ∨ x0.toInt = 6 ∨ 12 ≤ x0.toInt)) ∨ (r.toInt = 1 ∧ (x0.toInt = 0 ∨ x0.toInt = 7 ∨ x0.toInt = 9 ∨ x0.toInt = 11)) ∨ (r.toInt = 2 ∧ ((1 ≤ x0.toInt ∧ x0.toInt ≤ 4) ∨ x0.toInt = 8 ∨ x0.toInt = 10)))) (fun (G : Nat → va_E) (t : State) => va_P (dC, dI) vwCl (va_pl L G) t.heap ∧ va_K (dC, dI) vwCl [(cs 0, .int), (cs 1, .byte), (cs 2, .long), (cs 3, .object RX5), (cs 4, .object RX4), (cs 5, .array .int), (cs 6, .char), (cs 7, .boolean)] t) (fun q => q ∈ L)) 0 0 (fun q => q ∈ L) := by
  refine Met.ofW (cc := cX7_partsOf) (maxL := 1) (ret := (some .int)) (by decide) rfl ?_
  intro p e s m args below meth c s₁ B hml hv
  obtain ⟨rfl, hsz, hP, hK, hD, hN⟩ := hv
  have hx := B.exec
  have hb := B.bytes
  have hr := B.returns
  have hts : ∀ w ∈ T0, w.before _ s = true := fun w h => atoms_spec (ws := Cond.code yX7_partsOf cX7_partsOf 1 (some .int) :: T0) B.pre w (List.mem_cons_of_mem _ h)
  have hown : s.vm.findClass RX7 = some m.cls := findClass_of_methodNamed B.named
  have hlocks := B.notSynchronized
  have hS : va_S (fun q => q ∈ L) s.heap s.heap [] := va_S.rf
  have hl := lv_entry ([.int x0]) (n := 1) (Nat.le_of_ble_eq_true rfl)
  rw [lg_entry_eq]
  generalize (lg_sl ([.int x0]) ++ List.replicate (1 - (lg_sl ([.int x0])).length) Slot.unset).toArray = ls at hl ⊢
  have hl : lv_has ls 1 [(0, .int x0)] := hl
  refine s_gen hP hS (fun H locs hP hS => ?_)
  refine lv_iload_n hx hb dX7_partsOf_0 rfl (lv_at hl 0 rfl) ?_
  refine lv_iconst (v := 5) hx hb dX7_partsOf_1 (by decide) ?_
  refine lv_icmp_eq (tgt := 17) hx hb dX7_partsOf_2 (by decide) (fun c1 => ?_) (fun c1 => ?_)
  · have c1 := (ax_eq (n := 5) (by decide)).mp c1
    refine lv_iconst (v := 0) hx hb dX7_partsOf_17 (by decide) ?_
    refine lv_goto (tgt := 48) hx hb dX7_partsOf_18 (by decide) ?_
    exact W.iret (v := 0) hx hb hr (fun t ht hW => ⟨⟨0, F, rfl, ⟨(by decide), trivial, rfl, (by omega)⟩, by rw [ht]; exact hP, va_K.moved hW.alike hK⟩, hS.F ht⟩) hS.2.2 dX7_partsOf_48
  · have c1 := mt (ax_eq (n := 5) (by decide)).mpr c1
    refine lv_iload_n hx hb dX7_partsOf_5 rfl (lv_at hl 0 rfl) ?_
    refine lv_bipush (v := 6) hx hb dX7_partsOf_6 (by decide) ?_
    refine lv_icmp_eq (tgt := 17) hx hb dX7_partsOf_8 (by decide) (fun c2 => ?_) (fun c2 => ?_)
    · have c2 := (ax_eq (n := 6) (by decide)).mp c2
      refine lv_iconst (v := 0) hx hb dX7_partsOf_17 (by decide) ?_
      refine lv_goto (tgt := 48) hx hb dX7_partsOf_18 (by decide) ?_
      exact W.iret (v := 0) hx hb hr (fun t ht hW => ⟨⟨0, F, rfl, ⟨(by decide), trivial, rfl, (by omega)⟩, by rw [ht]; exact hP, va_K.moved hW.alike hK⟩, hS.F ht⟩) hS.2.2 dX7_partsOf_48
    · have c2 := mt (ax_eq (n := 6) (by decide)).mpr c2
      refine lv_iload_n hx hb dX7_partsOf_11 rfl (lv_at hl 0 rfl) ?_
      refine lv_bipush (v := 11) hx hb dX7_partsOf_12 (by decide) ?_
      refine lv_icmp_le (tgt := 21) hx hb dX7_partsOf_14 (by decide) (fun c3 => ?_) (fun c3 => ?_)
      · have c3 := (ax_le (n := 11) (by decide)).mp c3
        refine lv_iload_n hx hb dX7_partsOf_21 rfl (lv_at hl 0 rfl) ?_
        refine lv_if_eq (tgt := 43) hx hb dX7_partsOf_22 (by decide) (fun c4 => ?_) (fun c4 => ?_)
        · have c4 := (ax_eq (n := 0) (by decide)).mp c4
          refine lv_iconst (v := 1) hx hb dX7_partsOf_43 (by decide) ?_
          refine lv_goto (tgt := 48) hx hb dX7_partsOf_44 (by decide) ?_
          exact W.iret (v := 1) hx hb hr (fun t ht hW => ⟨⟨1, F, rfl, ⟨(by decide), trivial, rfl, (by omega)⟩, by rw [ht]; exact hP, va_K.moved hW.alike hK⟩, hS.F ht⟩) hS.2.2 dX7_partsOf_48
        · have c4 := mt (ax_eq (n := 0) (by decide)).mpr c4
          refine lv_iload_n hx hb dX7_partsOf_25 rfl (lv_at hl 0 rfl) ?_
          refine lv_bipush (v := 7) hx hb dX7_partsOf_26 (by decide) ?_
          refine lv_icmp_eq (tgt := 43) hx hb dX7_partsOf_28 (by decide) (fun c5 => ?_) (fun c5 => ?_)
          · have c5 := (ax_eq (n := 7) (by decide)).mp c5
            refine lv_iconst (v := 1) hx hb dX7_partsOf_43 (by decide) ?_
            refine lv_goto (tgt := 48) hx hb dX7_partsOf_44 (by decide) ?_
            exact W.iret (v := 1) hx hb hr (fun t ht hW => ⟨⟨1, F, rfl, ⟨(by decide), trivial, rfl, (by omega)⟩, by rw [ht]; exact hP, va_K.moved hW.alike hK⟩, hS.F ht⟩) hS.2.2 dX7_partsOf_48
          · have c5 := mt (ax_eq (n := 7) (by decide)).mpr c5
            refine lv_iload_n hx hb dX7_partsOf_31 rfl (lv_at hl 0 rfl) ?_
            refine lv_bipush (v := 9) hx hb dX7_partsOf_32 (by decide) ?_
            refine lv_icmp_eq (tgt := 43) hx hb dX7_partsOf_34 (by decide) (fun c6 => ?_) (fun c6 => ?_)
            · have c6 := (ax_eq (n := 9) (by decide)).mp c6
              refine lv_iconst (v := 1) hx hb dX7_partsOf_43 (by decide) ?_
              refine lv_goto (tgt := 48) hx hb dX7_partsOf_44 (by decide) ?_
              exact W.iret (v := 1) hx hb hr (fun t ht hW => ⟨⟨1, F, rfl, ⟨(by decide), trivial, rfl, (by omega)⟩, by rw [ht]; exact hP, va_K.moved hW.alike hK⟩, hS.F ht⟩) hS.2.2 dX7_partsOf_48
            · have c6 := mt (ax_eq (n := 9) (by decide)).mpr c6
              refine lv_iload_n hx hb dX7_partsOf_37 rfl (lv_at hl 0 rfl) ?_
              refine lv_bipush (v := 11) hx hb dX7_partsOf_38 (by decide) ?_
              refine lv_icmp_ne (tgt := 47) hx hb dX7_partsOf_40 (by decide) (fun c7 => ?_) (fun c7 => ?_)
              · have c7 := mt (ax_eq (n := 11) (by decide)).mpr c7
                refine lv_iconst (v := 2) hx hb dX7_partsOf_47 (by decide) ?_
                exact W.iret (v := 2) hx hb hr (fun t ht hW => ⟨⟨2, F, rfl, ⟨(by decide), trivial, rfl, (by omega)⟩, by rw [ht]; exact hP, va_K.moved hW.alike hK⟩, hS.F ht⟩) hS.2.2 dX7_partsOf_48
              · have c7 := (ax_eq (n := 11) (by decide)).mp c7
                refine lv_iconst (v := 1) hx hb dX7_partsOf_43 (by decide) ?_
                refine lv_goto (tgt := 48) hx hb dX7_partsOf_44 (by decide) ?_
                exact W.iret (v := 1) hx hb hr (fun t ht hW => ⟨⟨1, F, rfl, ⟨(by decide), trivial, rfl, (by omega)⟩, by rw [ht]; exact hP, va_K.moved hW.alike hK⟩, hS.F ht⟩) hS.2.2 dX7_partsOf_48
      · have c3 := mt (ax_le (n := 11) (by decide)).mpr c3
        refine lv_iconst (v := 0) hx hb dX7_partsOf_17 (by decide) ?_
        refine lv_goto (tgt := 48) hx hb dX7_partsOf_18 (by decide) ?_
        exact W.iret (v := 0) hx hb hr (fun t ht hW => ⟨⟨0, F, rfl, ⟨(by decide), trivial, rfl, (by omega)⟩, by rw [ht]; exact hP, va_K.moved hW.alike hK⟩, hS.F ht⟩) hS.2.2 dX7_partsOf_48

set_option maxHeartbeats 4000000 in
set_option maxRecDepth 100000 in
theorem y_X7_goTold (l : Launch) (dC : Nat → ClassId) (dI : Nat → Nat → Nat) (sz : Nat) {L : List Nat} {K : Nat → Nat} {cs : Nat → ClassId} (hLK : ∀ a {k : Nat}, K a = k → k ≠ 0 → a ∈ L) (A : Nat → Nat) (hA : y_A K A) (F : Nat → va_E) (a0 : Nat) (ha0 : K a0 = 9) (hI : y_I K cs A F) (hg9 : ((y_c (y_at F (A 12)) 387).toInt ≤ 39 ∧ (y_c (y_at F (A 12)) (8 * (y_c (y_at F (A 12)) 387).toInt + 5)).toInt = -1000000)) : Met l yX7_goTold (Cond.code yX7_goTold cX7_goTold 3 none :: T0) ({ frames := 5, cells := 0, slots := 0, locals := 106 }) (va_Pc [.ref a0] (s_W dC dI sz L F [(cs 0, .int), (cs 1, .byte), (cs 2, .long), (cs 3, .object RX5), (cs 4, .object RX4), (cs 5, .array .int), (cs 6, .char), (cs 7, .boolean)])) (va_Qv (fun (G : Nat → va_E) => True ∧ True ∧ y_I K cs A G ∧ (∀ b, K b ∉ [9, 62, 64] → G b = F b) ∧ (∀ k, k ∈ ([1, 3, 7, 8, 15, 16, 19, 25, 26, 27, 31, 32] : List Nat) → y_fi G a0 k = y_fi F a0 k) ∧ (((y_fi F a0 5).toInt = 0 ∨ ¬ (y_fi G a0 5).toInt = 0) ∧ (∀ j : Int, 0 ≤ j → (j < 8 * (y_c (y_at F (A 12)) 387).toInt ∨ 8 * (y_c (y_at F (A 12)) 387).toInt + 8 ≤ j) → y_c (y_at G (A 12)) j = y_c (y_at F (A 12)) j) ∧ (y_c (y_at G (A 12)) (8 * (y_c (y_at F (A 12)) 387).toInt)).toInt = (y_c (y_at F (A 12)) (8 * (y_c (y_at F (A 12)) 387).toInt)).toInt ∧ ((y_fi G a0 5).toInt = 0 → (y_c (y_at G (A 12)) (8 * (y_c (y_at F (A 12)) 387).toInt + 5)).toInt = -1000000 ∨ (-4 ≤ (y_c (y_at G (A 12)) (8 * (y_c (y_at F (A 12)) 387).toInt + 2)).toInt ∧ -4 ≤ (y_c (y_at G (A 12)) (8 * (y_c (y_at F (A 12)) 387).toInt + 3)).toInt)))) (fun (G : Nat → va_E) (t : State) => va_P (dC, dI) vwCl (va_pl L G) t.heap ∧ va_K (dC, dI) vwCl [(cs 0, .int), (cs 1, .byte), (cs 2, .long), (cs 3, .object RX5), (cs 4, .object RX4), (cs 5, .array .int), (cs 6, .char), (cs 7, .boolean)] t) (fun q => q ∈ L)) 0 0 (fun q => q ∈ L) := by
  refine Met.ofW (cc := cX7_goTold) (maxL := 3) (ret := none) (by decide) rfl ?_
  intro p e s m args below meth c s₁ B hml hv
  obtain ⟨rfl, hsz, hP, hK, hD, hN⟩ := hv
  have hx := B.exec
  have hb := B.bytes
  have hr := B.returns
  have hts : ∀ w ∈ T0, w.before _ s = true := fun w h => atoms_spec (ws := Cond.code yX7_goTold cX7_goTold 3 none :: T0) B.pre w (List.mem_cons_of_mem _ h)
  have hown : s.vm.findClass RX7 = some m.cls := findClass_of_methodNamed B.named
  have hlocks := B.notSynchronized
  have hS : va_S (fun q => q ∈ L) s.heap s.heap [] := va_S.rf
  have hfr : ∀ b, K b ∉ [9, 62, 64] → F b = F b := fun _ _ => rfl
  have hl := lv_entry ([.ref a0]) (n := 3) (Nat.le_of_ble_eq_true rfl)
  rw [lg_entry_eq]
  generalize (lg_sl ([.ref a0]) ++ List.replicate (3 - (lg_sl ([.ref a0])).length) Slot.unset).toArray = ls at hl ⊢
  have hl : lv_has ls 3 [(0, .ref a0)] := hl
  refine s_gen hP hS (fun H locs hP hS => ?_)
  obtain ⟨z0, q0, oY0, bz0⟩ := y_opY hI ha0
  have hz0 : ∀ k, k ∈ ([1, 3, 7, 8, 15, 16, 19, 25, 26, 27, 31, 32] : List Nat) → z0 k = z0 k := fun _ _ => rfl
  obtain ⟨f1, o2, b3⟩ := y_op12 hI
  obtain ⟨v4, ev4⟩ : ∃ y : Int32, y = z0 5 := ⟨_, rfl⟩
  have eF_5 := ev4
  have hg9 : ((y_c f1 387).toInt ≤ 39 ∧ (y_c f1 (8 * (y_c f1 387).toInt + 5)).toInt = -1000000) := by have q9 := hg9; rw [y_atE o2] at q9; exact q9
  obtain ⟨nn, hnn⟩ : ∃ n : Int, n = (y_c f1 387).toInt := ⟨_, rfl⟩
  have hnb : 0 ≤ (y_c f1 387).toInt ∧ (y_c f1 387).toInt ≤ 40 := b3
  rw [← hnn] at hnb
  rw [← hnn] at hg9
  refine th_join (fun g H locs => ∃ (G : Nat → va_E) (ls : Array Slot) (w5 : Int32), g = F0 m 99 ls [] ∧ lv_has ls 3 [(0, .ref a0), (2, .int w5)] ∧ va_P (dC, dI) vwCl (va_pl L G) H ∧ va_S (fun q => q ∈ L) s.heap H locs ∧ y_I K cs A G ∧ (∀ b, K b ∉ [9, 62, 64] → G b = F b) ∧ (∀ k, k ∈ ([1, 3, 7, 8, 15, 16, 19, 25, 26, 27, 31, 32] : List Nat) → y_fi G a0 k = z0 k) ∧ True ∧ (y_c (y_at G (A 12)) 387).toInt = nn ∧ (∀ j : Int, 0 ≤ j → (j < 8 * nn ∨ 8 * nn + 8 ≤ j) → y_c (y_at G (A 12)) j = y_c f1 j) ∧ ((y_c (y_at G (A 12)) (8 * nn)).toInt = (y_c f1 (8 * nn)).toInt ∧ (y_c (y_at G (A 12)) (8 * nn + 5)).toInt = -1000000 ∧ (v4.toInt = 0 ∨ ¬ (y_fi G a0 5).toInt = 0)) ∧ ((y_fi G a0 5).toInt = 0 → (y_fi G a0 2).toInt < 1600) ∧ ((y_fi G a0 5).toInt = 0 → -4 ≤ (y_c (y_at G (A 12)) (8 * nn + 2)).toInt)) (fun K99 => ?_) ?_
  refine th_join (fun g H locs => ∃ (G : Nat → va_E) (ls : Array Slot) (w6 : Int32), g = F0 m 35 ls [] ∧ lv_has ls 3 [(0, .ref a0), (1, .int w6)] ∧ va_P (dC, dI) vwCl (va_pl L G) H ∧ va_S (fun q => q ∈ L) s.heap H locs ∧ y_I K cs A G ∧ (∀ b, K b ∉ [9, 62, 64] → G b = F b) ∧ (∀ k, k ∈ ([1, 3, 7, 8, 15, 16, 19, 25, 26, 27, 31, 32] : List Nat) → y_fi G a0 k = z0 k) ∧ True ∧ (y_c (y_at G (A 12)) 387).toInt = nn ∧ (∀ j : Int, 0 ≤ j → (j < 8 * nn ∨ 8 * nn + 8 ≤ j) → y_c (y_at G (A 12)) j = y_c f1 j) ∧ ((y_c (y_at G (A 12)) (8 * nn)).toInt = (y_c f1 (8 * nn)).toInt ∧ (y_c (y_at G (A 12)) (8 * nn + 5)).toInt = -1000000 ∧ (v4.toInt = 0 ∨ ¬ (y_fi G a0 5).toInt = 0))) (fun K35 => ?_) ?_
  · refine lv_aload_n hx hb dX7_goTold_0 rfl (lv_at hl 0 rfl) ?_
    refine th_get (D := (dC, dI)) (ci := 7) (v := .ref (A 14)) (C := RX7) (T := TX7) (N := 34) hx hb hts inX7 hown hK hP (hLK _ ha0 (by decide)) oY0 rfl 14 (by decide) (hts _ T_247) (fun _ h9 => h9) rfl dX7_goTold_1 ?_
    refine lv_aload_n hx hb dX7_goTold_4 rfl (lv_at hl 0 rfl) ?_
    refine va_calli (va_runV (As := []) (rest := [.ref (A 14)]) ⟨hx, hb, hml, hown, hts⟩ (y_X7_drafted l dC dI H.size hLK A hA F a0 ha0 hI) (cwV 0 hts (ax_gV T_293 T_294 T_295 T_265 T_28) rfl rfl rfl (by decide +kernel) ⟨Nat.le_of_ble_eq_true rfl, Nat.le_of_ble_eq_true rfl⟩) ⟨fun a U g mk q => ⟨q.1, s_pc rfl rfl q.2⟩, s_recv hK hP (hLK _ ha0 (by decide)) (ci := 7) rfl oY0, fun U hU hW => ⟨rfl, s_pw hU hW hP hK hD hN⟩⟩ rfl rfl hl.1 rfl (lv_room (Nat.le_of_ble_eq_true rfl)) dX7_goTold_5 ⟨Nat.zero_le _, Nat.zero_le _⟩) hS (fun q _ h => h) (fun q h => h) (fun r8 F9 t H1 locs ht hvm hw hB hz1 hk1 hS => ?_)
    obtain ⟨hP, hK1⟩ := hB
    rw [ht] at hP
    generalize H1 = H at hP hS ⊢
    obtain ⟨h10, h12, hI, hfr1, hzf, h11⟩ := hw
    have o13 : F9 (A 12) = .inl (cs 0, 400, .inl f1) := (hfr1 _ (by rw [(y_k12 hA)]; decide)).trans o2
    have oY14 : F9 a0 = .inr (7, y_fl A z0 q0) := (hfr1 _ (by rw [ha0]; decide)).trans oY0
    have hfr : ∀ b, K b ∉ [9, 62, 64] → F9 b = F b := fun b hb9 => (hfr1 b (fun q => hb9 (s_sub (by decide) q))).trans (hfr b hb9)
    have h11 : (r8 = y_c f1 387) := by have q9 := h11; rw [y_atE o2] at q9; exact q9
    have h15 : 0 ≤ r8.toInt ∧ r8.toInt ≤ 39 := by have q9 := congrArg Int32.toInt h11; omega
    refine lv_iconst (v := (-1)) hx hb dX7_goTold_8 (by decide) ?_
    obtain ⟨f16, o17, b18⟩ := y_op14 hI
    refine th_iast hx hb hK hP hD hS (hLK _ (y_k14 hA) (by decide)) 0 o17 rfl (th_in ⟨by omega, by omega⟩) dX7_goTold_9 (fun H locs hP hS => ?_)
    obtain ⟨f19, u20⟩ : ∃ g : Nat → Int32, g = upd f16 (r8 : Int32).toNatClampNeg (-1) := ⟨_, rfl⟩
    rw [← u20] at hP
    have b21 : y_bd 14 f19 := trivial
    have hP : va_P (dC, dI) vwCl (va_pl L (va_up F9 (A 14) (.inl (cs 0, 40, .inl f19)))) H := hP
    obtain ⟨F22, hF23⟩ : ∃ G : Nat → va_E, G = va_up F9 (A 14) (.inl (cs 0, 40, .inl f19)) := ⟨_, rfl⟩
    rw [← hF23] at hP
    have hI : y_I K cs A F22 := by rw [hF23]; exact y_clA (i := 14) hA hI (by decide) b21
    have hfr : ∀ b, K b ∉ [9, 62, 64] → F22 b = F b := by rw [hF23]; exact s_fr hfr (y_k14 hA) (by decide)
    have o24 : F22 (A 12) = .inl (cs 0, 400, .inl f1) := by rw [hF23]; exact th_ne (th_kd (y_k12 hA) (y_k14 hA) (by decide)) o13
    have oY25 : F22 a0 = .inr (7, y_fl A z0 q0) := by rw [hF23]; exact th_ne (th_kd ha0 (y_k14 hA) (by decide)) oY14
    have o26 : F22 (A 14) = .inl (cs 0, 40, .inl f19) := by rw [hF23]; exact th_up
    have u27 : ∀ j : Int, 0 ≤ j → y_c f19 j = if j = r8.toInt then (-1) else y_c f16 j := by rw [u20]; exact y_cu rfl (by omega)
    refine lv_aload_n hx hb dX7_goTold_10 rfl (lv_at hl 0 rfl) ?_
    have ep28_5 := ev4
    refine va_calli (va_runV (As := []) (rest := []) ⟨hx, hb, hml, hown, hts⟩ (y_X7_name l dC dI H.size hLK A hA F22 a0 ha0 hI) (cwV 0 hts (ax_gV T_1110 T_1112 T_1113 T_265 T_1111) rfl rfl rfl (by decide +kernel) ⟨Nat.le_of_ble_eq_true rfl, Nat.le_of_ble_eq_true rfl⟩) ⟨fun a U g mk q => ⟨q.1, s_pc rfl rfl q.2⟩, s_recv hK hP (hLK _ ha0 (by decide)) (ci := 7) rfl oY25, fun U hU hW => ⟨rfl, s_pw hU hW hP hK hD hN⟩⟩ rfl rfl hl.1 rfl (lv_room (Nat.le_of_ble_eq_true rfl)) dX7_goTold_11 ⟨Nat.zero_le _, Nat.zero_le _⟩) hS (fun q _ h => h) (fun q h => h) (fun r29 F30 t H1 locs ht hvm hw hB hz1 hk1 hS => ?_)
    obtain ⟨hP, hK1⟩ := hB
    rw [ht] at hP
    generalize H1 = H at hP hS ⊢
    obtain ⟨h31, h33, hI, hfr1, hzf, h32⟩ := hw
    have o34 : F30 (A 12) = .inl (cs 0, 400, .inl f1) := (hfr1 _ (by rw [(y_k12 hA)]; decide)).trans o24
    have o35 : F30 (A 14) = .inl (cs 0, 40, .inl f19) := (hfr1 _ (by rw [(y_k14 hA)]; decide)).trans o26
    obtain ⟨z36, q37, oY38, bz39⟩ := y_opY hI ha0
    have hzf : ∀ k, k ∈ ([1, 3, 7, 8, 15, 16, 19, 25, 26, 27, 31, 32] : List Nat) → z36 k = z0 k := fun k hk => by have q9 := hzf k hk; rw [y_fiZ oY38 (s_sub (by decide) hk), y_fiZ oY25 (s_sub (by decide) hk)] at q9; exact q9
    have hz0 : ∀ k, k ∈ ([1, 3, 7, 8, 15, 16, 19, 25, 26, 27, 31, 32] : List Nat) → z36 k = z0 k := fun k hk => (hzf k (s_sub (by decide) hk)).trans (hz0 k hk)
    have hfr : ∀ b, K b ∉ [9, 62, 64] → F30 b = F b := fun b hb9 => (hfr1 b (fun q => hb9 (s_sub (by decide) q))).trans (hfr b hb9)
    obtain ⟨v40, ev40⟩ : ∃ y : Int32, y = z36 5 := ⟨_, rfl⟩
    have h32 : (v4.toInt = 0 ∨ ¬ v40.toInt = 0) := by have q9 := h32; rw [y_fiZ oY25 (k := 5) (by decide), ← ep28_5, y_fiZ oY38 (k := 5) (by decide), ← ev40] at q9; exact q9
    refine lv_istore_n (lv' := [(1, .int r29), (0, .ref a0)]) hx hb dX7_goTold_14 rfl hl (by decide) rfl (fun ls hl => ?_)
    refine lv_aload_n hx hb dX7_goTold_15 rfl (lv_at hl 1 rfl) ?_
    refine th_get (D := (dC, dI)) (ci := 7) (v := .int (z36 5)) (C := RX7) (T := TX7) (N := 34) hx hb hts inX7 hown hK hP (hLK _ ha0 (by decide)) oY38 rfl 5 (by decide) (hts _ T_274) (fun _ h9 => h9) rfl dX7_goTold_16 ?_
    refine ax_eqi (y := v40) ev40.symm ?_
    refine lv_if_ne (tgt := 35) hx hb dX7_goTold_19 (by decide) (fun c41 => ?_) (fun c41 => ?_)
    · have c41 := mt (ax_eq (n := 0) (by decide)).mpr c41
      exact K35 _ _ _ ⟨F30, _, r29, rfl, lv_sub hl [1, 0] rfl, hP, hS, hI, hfr, (fun k hk => by rw [y_fiZ oY38 (s_sub (by decide) hk)]; exact hz0 k hk), trivial, (by rw [y_atE o34]; exact hnn.symm), (by rw [y_atE o34]; exact (fun j _ _ => rfl)), (by rw [y_atE o34, y_fiZ oY38 (k := 5) (by decide), ← ev40]; omega)⟩
    · have c41 := (ax_eq (n := 0) (by decide)).mp c41
      refine lv_aload_n hx hb dX7_goTold_22 rfl (lv_at hl 1 rfl) ?_
      refine th_get (D := (dC, dI)) (ci := 7) (v := .ref (A 14)) (C := RX7) (T := TX7) (N := 34) hx hb hts inX7 hown hK hP (hLK _ ha0 (by decide)) oY38 rfl 14 (by decide) (hts _ T_247) (fun _ h9 => h9) rfl dX7_goTold_23 ?_
      refine lv_aload_n hx hb dX7_goTold_26 rfl (lv_at hl 1 rfl) ?_
      refine va_calli (va_runV (As := []) (rest := [.ref (A 14)]) ⟨hx, hb, hml, hown, hts⟩ (y_X7_drafted l dC dI H.size hLK A hA F30 a0 ha0 hI) (cwV 0 hts (ax_gV T_293 T_294 T_295 T_265 T_28) rfl rfl rfl (by decide +kernel) ⟨Nat.le_of_ble_eq_true rfl, Nat.le_of_ble_eq_true rfl⟩) ⟨fun a U g mk q => ⟨q.1, s_pc rfl rfl q.2⟩, s_recv hK hP (hLK _ ha0 (by decide)) (ci := 7) rfl oY38, fun U hU hW => ⟨rfl, s_pw hU hW hP hK hD hN⟩⟩ rfl rfl hl.1 rfl (lv_room (Nat.le_of_ble_eq_true rfl)) dX7_goTold_27 ⟨Nat.zero_le _, Nat.zero_le _⟩) hS (fun q _ h => h) (fun q h => h) (fun r43 F44 t H1 locs ht hvm hw hB hz1 hk1 hS => ?_)
      obtain ⟨hP, hK1⟩ := hB
      rw [ht] at hP
      generalize H1 = H at hP hS ⊢
      obtain ⟨h45, h47, hI, hfr1, hzf, h46⟩ := hw
      have o48 : F44 (A 12) = .inl (cs 0, 400, .inl f1) := (hfr1 _ (by rw [(y_k12 hA)]; decide)).trans o34
      have o49 : F44 (A 14) = .inl (cs 0, 40, .inl f19) := (hfr1 _ (by rw [(y_k14 hA)]; decide)).trans o35
      have oY50 : F44 a0 = .inr (7, y_fl A z36 q37) := (hfr1 _ (by rw [ha0]; decide)).trans oY38
      have hfr : ∀ b, K b ∉ [9, 62, 64] → F44 b = F b := fun b hb9 => (hfr1 b (fun q => hb9 (s_sub (by decide) q))).trans (hfr b hb9)
      have h46 : (r43 = y_c f1 387) := by have q9 := h46; rw [y_atE o34] at q9; exact q9
      have h51 : 0 ≤ r43.toInt ∧ r43.toInt ≤ 39 := by have q9 := congrArg Int32.toInt h46; omega
      refine lv_aload_n hx hb dX7_goTold_30 rfl (lv_at hl 1 rfl) ?_
      refine th_get (D := (dC, dI)) (ci := 7) (v := .int (z36 11)) (C := RX7) (T := TX7) (N := 34) hx hb hts inX7 hown hK hP (hLK _ ha0 (by decide)) oY50 rfl 11 (by decide) (hts _ T_1114) (fun _ h9 => h9) rfl dX7_goTold_31 ?_
      refine lv_topi (fun v52 ev52 => ?_)
      refine th_iast hx hb hK hP hD hS (hLK _ (y_k14 hA) (by decide)) 0 o49 rfl (th_in ⟨by omega, by omega⟩) dX7_goTold_34 (fun H locs hP hS => ?_)
      obtain ⟨f53, u54⟩ : ∃ g : Nat → Int32, g = upd f19 (r43 : Int32).toNatClampNeg v52 := ⟨_, rfl⟩
      rw [← u54] at hP
      have b55 : y_bd 14 f53 := trivial
      have hP : va_P (dC, dI) vwCl (va_pl L (va_up F44 (A 14) (.inl (cs 0, 40, .inl f53)))) H := hP
      obtain ⟨F56, hF57⟩ : ∃ G : Nat → va_E, G = va_up F44 (A 14) (.inl (cs 0, 40, .inl f53)) := ⟨_, rfl⟩
      rw [← hF57] at hP
      have hI : y_I K cs A F56 := by rw [hF57]; exact y_clA (i := 14) hA hI (by decide) b55
      have hfr : ∀ b, K b ∉ [9, 62, 64] → F56 b = F b := by rw [hF57]; exact s_fr hfr (y_k14 hA) (by decide)
      have o58 : F56 (A 12) = .inl (cs 0, 400, .inl f1) := by rw [hF57]; exact th_ne (th_kd (y_k12 hA) (y_k14 hA) (by decide)) o48
      have oY59 : F56 a0 = .inr (7, y_fl A z36 q37) := by rw [hF57]; exact th_ne (th_kd ha0 (y_k14 hA) (by decide)) oY50
      have o60 : F56 (A 14) = .inl (cs 0, 40, .inl f53) := by rw [hF57]; exact th_up
      have u61 : ∀ j : Int, 0 ≤ j → y_c f53 j = if j = r43.toInt then v52 else y_c f19 j := by rw [u54]; exact y_cu rfl (by omega)
      exact K35 _ _ _ ⟨F56, _, r29, rfl, lv_sub hl [1, 0] rfl, hP, hS, hI, hfr, (fun k hk => by rw [y_fiZ oY59 (s_sub (by decide) hk)]; exact hz0 k hk), trivial, (by rw [y_atE o58]; exact hnn.symm), (by rw [y_atE o58]; exact (fun j _ _ => rfl)), (by rw [y_atE o58, y_fiZ oY59 (k := 5) (by decide), ← ev40]; omega)⟩
  · intro g H locs hq
    obtain ⟨F66, ls, w6, rfl, hl, hP, hS, hI, hfr, hz0, h62, h63, h64, h65⟩ := hq
    obtain ⟨z67, q68, oY69, bz70⟩ := y_opY hI ha0
    have hz0 : ∀ k, k ∈ ([1, 3, 7, 8, 15, 16, 19, 25, 26, 27, 31, 32] : List Nat) → z67 k = z0 k := fun k hk => (y_fiZ oY69 (s_sub (by decide) hk)).symm.trans (hz0 k hk)
    obtain ⟨f71, o72, b73⟩ := y_op12 hI
    have h63 : (y_c f71 387).toInt = nn := by have q9 := h63; rw [y_atE o72] at q9; exact q9
    have h64 : (∀ j : Int, 0 ≤ j → (j < 8 * nn ∨ 8 * nn + 8 ≤ j) → y_c f71 j = y_c f1 j) := by have q9 := h64; rw [y_atE o72, y_atE o2] at q9; exact q9
    obtain ⟨v74, ev74⟩ : ∃ y : Int32, y = z67 5 := ⟨_, rfl⟩
    have h65 : ((y_c f71 (8 * nn)).toInt = (y_c f1 (8 * nn)).toInt ∧ (y_c f71 (8 * nn + 5)).toInt = -1000000 ∧ (v4.toInt = 0 ∨ ¬ v74.toInt = 0)) := by have q9 := h65; rw [y_atE o72, y_atE o2, y_fiZ oY0 (k := 5) (by decide), ← eF_5, y_fiZ oY69 (k := 5) (by decide), ← ev74] at q9; exact q9
    refine lv_aload_n hx hb dX7_goTold_35 rfl (lv_at hl 0 rfl) ?_
    refine lv_iconst (v := 4) hx hb dX7_goTold_36 (by decide) ?_
    refine lv_iload_n hx hb dX7_goTold_37 rfl (lv_at hl 1 rfl) ?_
    have ep75_5 := ev74
    refine va_callv (va_runV (As := [.int 4, .int w6]) (rest := []) ⟨hx, hb, hml, hown, hts⟩ (y_X7_lays l dC dI H.size hLK A hA F66 a0 4 w6 ha0 (by decide) hI) (cwV 2 hts (ax_gV T_1115 T_1117 T_1118 T_265 T_1116) rfl rfl rfl (by decide +kernel) ⟨Nat.le_of_ble_eq_true rfl, Nat.le_of_ble_eq_true rfl⟩) ⟨fun a U g mk q => ⟨q.1, s_pc rfl rfl q.2⟩, s_recv hK hP (hLK _ ha0 (by decide)) (ci := 7) rfl oY69, fun U hU hW => ⟨rfl, s_pw hU hW hP hK hD hN⟩⟩ rfl rfl hl.1 rfl (lv_room (Nat.le_of_ble_eq_true rfl)) dX7_goTold_38 ⟨Nat.zero_le _, Nat.zero_le _⟩) hS (fun q _ h => h) (fun q h => h) (fun F76 t H1 locs ht hvm hw hB hz1 hk1 hS => ?_)
    obtain ⟨hP, hK1⟩ := hB
    rw [ht] at hP
    generalize H1 = H at hP hS ⊢
    obtain ⟨h77, h79, hI, hfr1, hzf, h78⟩ := hw
    have oY80 : F76 a0 = .inr (7, y_fl A z67 q68) := (hfr1 _ (by rw [ha0]; decide)).trans oY69
    have hfr : ∀ b, K b ∉ [9, 62, 64] → F76 b = F b := fun b hb9 => (hfr1 b (fun q => hb9 (s_sub (by decide) q))).trans (hfr b hb9)
    obtain ⟨f81, o82, b83⟩ := y_op12 hI
    have h78 : ((∀ j : Int, 0 ≤ j → j ≠ 8 * (y_c f71 387).toInt + 4 → y_c f81 j = y_c f71 j) ∧ (v74.toInt = 0 → y_c f81 (8 * (y_c f71 387).toInt + 4) = w6)) := by have q9 := h78; rw [y_atE o72, y_atE o82, y_fiZ oY69 (k := 5) (by decide), ← ep75_5] at q9; exact q9
    rw [h63] at h78
    have hn84 : (y_c f81 387).toInt = nn := by rw [h78.1 387 (by omega) (by omega)]; exact h63
    have hfr85 : ∀ j : Int, 0 ≤ j → (j < 8 * nn ∨ 8 * nn + 8 ≤ j) → y_c f81 j = y_c f1 j := fun j h0 h1 => (h78.1 j h0 (by omega)).trans (h64 j h0 h1)
    have h86 : (y_c f81 (8 * nn)).toInt = (y_c f71 (8 * nn)).toInt := (congrArg Int32.toInt (h78.1 _ (by omega) (by omega)))
    have h87 : (y_c f81 (8 * nn + 2)).toInt = (y_c f71 (8 * nn + 2)).toInt := (congrArg Int32.toInt (h78.1 _ (by omega) (by omega)))
    have h88 : (y_c f81 (8 * nn + 3)).toInt = (y_c f71 (8 * nn + 3)).toInt := (congrArg Int32.toInt (h78.1 _ (by omega) (by omega)))
    have h89 : (y_c f81 (8 * nn + 5)).toInt = (y_c f71 (8 * nn + 5)).toInt := (congrArg Int32.toInt (h78.1 _ (by omega) (by omega)))
    refine lv_aload_n hx hb dX7_goTold_41 rfl (lv_at hl 0 rfl) ?_
    refine lv_bipush (v := 28) hx hb dX7_goTold_42 (by decide) ?_
    refine va_calli (va_runV (As := [.int 28]) (rest := []) ⟨hx, hb, hml, hown, hts⟩ (y_X7_takes l dC dI H.size hLK A hA F76 a0 28 ha0 hI) (cwV 1 hts (ax_gV T_287 T_288 T_289 T_265 T_26) rfl rfl rfl (by decide +kernel) ⟨Nat.le_of_ble_eq_true rfl, Nat.le_of_ble_eq_true rfl⟩) ⟨fun a U g mk q => ⟨q.1, s_pc rfl rfl q.2⟩, s_recv hK hP (hLK _ ha0 (by decide)) (ci := 7) rfl oY80, fun U hU hW => ⟨rfl, s_pw hU hW hP hK hD hN⟩⟩ rfl rfl hl.1 rfl (lv_room (Nat.le_of_ble_eq_true rfl)) dX7_goTold_44 ⟨Nat.zero_le _, Nat.zero_le _⟩) hS (fun q _ h => h) (fun q h => h) (fun r91 F92 t H1 locs ht hvm hw hB hz1 hk1 hS => ?_)
    obtain ⟨hP, hK1⟩ := hB
    rw [ht] at hP
    generalize H1 = H at hP hS ⊢
    obtain ⟨h93, h95, hI, hfr1, hzf, h94⟩ := hw
    have o96 : F92 (A 12) = .inl (cs 0, 400, .inl f81) := (hfr1 _ (by rw [(y_k12 hA)]; decide)).trans o82
    obtain ⟨z97, q98, oY99, bz100⟩ := y_opY hI ha0
    have hzf : ∀ k, k ∈ ([1, 3, 5, 6, 7, 8, 11, 15, 16, 19, 25, 26, 27, 31, 32] : List Nat) → z97 k = z67 k := fun k hk => by have q9 := hzf k hk; rw [y_fiZ oY99 (s_sub (by decide) hk), y_fiZ oY80 (s_sub (by decide) hk)] at q9; exact q9
    have hz0 : ∀ k, k ∈ ([1, 3, 7, 8, 15, 16, 19, 25, 26, 27, 31, 32] : List Nat) → z97 k = z0 k := fun k hk => (hzf k (s_sub (by decide) hk)).trans (hz0 k hk)
    have ev74 : v74 = z97 5 := ev74.trans (hzf 5 (by decide)).symm
    have hfr : ∀ b, K b ∉ [9, 62, 64] → F92 b = F b := fun b hb9 => (hfr1 b (fun q => hb9 (s_sub (by decide) q))).trans (hfr b hb9)
    refine lv_if_ne (tgt := 51) hx hb dX7_goTold_47 (by decide) (fun c101 => ?_) (fun c101 => ?_)
    · have c101 := mt (ax_eq (n := 0) (by decide)).mpr c101
      refine lv_aload_n hx hb dX7_goTold_51 rfl (lv_at hl 0 rfl) ?_
      refine lv_iconst (v := 2) hx hb dX7_goTold_52 (by decide) ?_
      refine lv_aload_n hx hb dX7_goTold_53 rfl (lv_at hl 0 rfl) ?_
      have ep102_5 := ev74
      refine va_calli (va_runV (As := []) (rest := [.int 2, .ref a0]) ⟨hx, hb, hml, hown, hts⟩ (y_X7_partTold l dC dI H.size hLK A hA F92 a0 ha0 hI) (cwV 0 hts (ax_gV T_1119 T_1121 T_1122 T_265 T_1120) rfl rfl rfl (by decide +kernel) ⟨Nat.le_of_ble_eq_true rfl, Nat.le_of_ble_eq_true rfl⟩) ⟨fun a U g mk q => ⟨q.1, s_pc rfl rfl q.2⟩, s_recv hK hP (hLK _ ha0 (by decide)) (ci := 7) rfl oY99, fun U hU hW => ⟨rfl, s_pw hU hW hP hK hD hN⟩⟩ rfl rfl hl.1 rfl (lv_room (Nat.le_of_ble_eq_true rfl)) dX7_goTold_54 ⟨Nat.zero_le _, Nat.zero_le _⟩) hS (fun q _ h => h) (fun q h => h) (fun r103 F104 t H1 locs ht hvm hw hB hz1 hk1 hS => ?_)
      obtain ⟨hP, hK1⟩ := hB
      rw [ht] at hP
      generalize H1 = H at hP hS ⊢
      obtain ⟨h105, h107, hI, hfr1, hzf, h106⟩ := hw
      have o108 : F104 (A 12) = .inl (cs 0, 400, .inl f81) := (hfr1 _ (by rw [(y_k12 hA)]; decide)).trans o96
      obtain ⟨z109, q110, oY111, bz112⟩ := y_opY hI ha0
      have hzf : ∀ k, k ∈ ([1, 3, 7, 8, 11, 15, 16, 19, 25, 26, 27, 31, 32] : List Nat) → z109 k = z97 k := fun k hk => by have q9 := hzf k hk; rw [y_fiZ oY111 (s_sub (by decide) hk), y_fiZ oY99 (s_sub (by decide) hk)] at q9; exact q9
      have hz0 : ∀ k, k ∈ ([1, 3, 7, 8, 15, 16, 19, 25, 26, 27, 31, 32] : List Nat) → z109 k = z0 k := fun k hk => (hzf k (s_sub (by decide) hk)).trans (hz0 k hk)
      have hfr : ∀ b, K b ∉ [9, 62, 64] → F104 b = F b := fun b hb9 => (hfr1 b (fun q => hb9 (s_sub (by decide) q))).trans (hfr b hb9)
      obtain ⟨v113, ev113⟩ : ∃ y : Int32, y = z109 5 := ⟨_, rfl⟩
      have h106 : ((v74.toInt = 0 ∨ ¬ v113.toInt = 0) ∧ (v113.toInt = 0 → -4 ≤ r103.toInt ∧ r103.toInt ≤ 999)) := by have q9 := h106; rw [y_fiZ oY99 (k := 5) (by decide), ← ep102_5, y_fiZ oY111 (k := 5) (by decide), ← ev113] at q9; exact q9
      have ep114_5 := ev113
      refine va_callv (va_runV (As := [.int 2, .int r103]) (rest := []) ⟨hx, hb, hml, hown, hts⟩ (y_X7_lays l dC dI H.size hLK A hA F104 a0 2 r103 ha0 (by decide) hI) (cwV 2 hts (ax_gV T_1115 T_1117 T_1118 T_265 T_1116) rfl rfl rfl (by decide +kernel) ⟨Nat.le_of_ble_eq_true rfl, Nat.le_of_ble_eq_true rfl⟩) ⟨fun a U g mk q => ⟨q.1, s_pc rfl rfl q.2⟩, s_recv hK hP (hLK _ ha0 (by decide)) (ci := 7) rfl oY111, fun U hU hW => ⟨rfl, s_pw hU hW hP hK hD hN⟩⟩ rfl rfl hl.1 rfl (lv_room (Nat.le_of_ble_eq_true rfl)) dX7_goTold_57 ⟨Nat.zero_le _, Nat.zero_le _⟩) hS (fun q _ h => h) (fun q h => h) (fun F115 t H1 locs ht hvm hw hB hz1 hk1 hS => ?_)
      obtain ⟨hP, hK1⟩ := hB
      rw [ht] at hP
      generalize H1 = H at hP hS ⊢
      obtain ⟨h116, h118, hI, hfr1, hzf, h117⟩ := hw
      have oY119 : F115 a0 = .inr (7, y_fl A z109 q110) := (hfr1 _ (by rw [ha0]; decide)).trans oY111
      have hfr : ∀ b, K b ∉ [9, 62, 64] → F115 b = F b := fun b hb9 => (hfr1 b (fun q => hb9 (s_sub (by decide) q))).trans (hfr b hb9)
      obtain ⟨f120, o121, b122⟩ := y_op12 hI
      have h117 : ((∀ j : Int, 0 ≤ j → j ≠ 8 * (y_c f81 387).toInt + 2 → y_c f120 j = y_c f81 j) ∧ (v113.toInt = 0 → y_c f120 (8 * (y_c f81 387).toInt + 2) = r103)) := by have q9 := h117; rw [y_atE o108, y_atE o121, y_fiZ oY111 (k := 5) (by decide), ← ep114_5] at q9; exact q9
      rw [hn84] at h117
      have hn123 : (y_c f120 387).toInt = nn := by rw [h117.1 387 (by omega) (by omega)]; exact hn84
      have hfr124 : ∀ j : Int, 0 ≤ j → (j < 8 * nn ∨ 8 * nn + 8 ≤ j) → y_c f120 j = y_c f1 j := fun j h0 h1 => (h117.1 j h0 (by omega)).trans (hfr85 j h0 h1)
      have h125 : (y_c f120 (8 * nn)).toInt = (y_c f81 (8 * nn)).toInt := (congrArg Int32.toInt (h117.1 _ (by omega) (by omega)))
      have h126 : v113.toInt = 0 → (y_c f120 (8 * nn + 2)).toInt = r103.toInt := (fun h9 => (congrArg (fun i => (y_c f120 i).toInt) (show 8 * nn + 2 = 8 * nn + 2 by omega)).trans ((congrArg Int32.toInt (h117.2 h9)).trans rfl))
      have h127 : (y_c f120 (8 * nn + 3)).toInt = (y_c f81 (8 * nn + 3)).toInt := (congrArg Int32.toInt (h117.1 _ (by omega) (by omega)))
      have h128 : (y_c f120 (8 * nn + 5)).toInt = (y_c f81 (8 * nn + 5)).toInt := (congrArg Int32.toInt (h117.1 _ (by omega) (by omega)))
      refine lv_aload_n hx hb dX7_goTold_60 rfl (lv_at hl 0 rfl) ?_
      refine va_calli (va_runV (As := []) (rest := []) ⟨hx, hb, hml, hown, hts⟩ (y_X7_look l dC dI H.size hLK A hA F115 a0 ha0 hI) (cwV 0 hts (ax_gV T_275 T_276 T_277 T_265 T_22) rfl rfl rfl (by decide +kernel) ⟨Nat.le_of_ble_eq_true rfl, Nat.le_of_ble_eq_true rfl⟩) ⟨fun a U g mk q => ⟨q.1, s_pc rfl rfl q.2⟩, s_recv hK hP (hLK _ ha0 (by decide)) (ci := 7) rfl oY119, fun U hU hW => ⟨rfl, s_pw hU hW hP hK hD hN⟩⟩ rfl rfl hl.1 rfl (lv_room (Nat.le_of_ble_eq_true rfl)) dX7_goTold_61 ⟨Nat.zero_le _, Nat.zero_le _⟩) hS (fun q _ h => h) (fun q h => h) (fun r130 F131 t H1 locs ht hvm hw hB hz1 hk1 hS => ?_)
      obtain ⟨hP, hK1⟩ := hB
      rw [ht] at hP
      generalize H1 = H at hP hS ⊢
      obtain ⟨h132, h134, hI, hfr1, hzf, h133⟩ := hw
      have o135 : F131 (A 12) = .inl (cs 0, 400, .inl f120) := (hfr1 _ (by rw [(y_k12 hA)]; decide)).trans o121
      obtain ⟨z136, q137, oY138, bz139⟩ := y_opY hI ha0
      have hzf : ∀ k, k ∈ ([1, 3, 4, 5, 6, 7, 8, 11, 15, 16, 19, 25, 26, 27, 31, 32] : List Nat) → z136 k = z109 k := fun k hk => by have q9 := hzf k hk; rw [y_fiZ oY138 (s_sub (by decide) hk), y_fiZ oY119 (s_sub (by decide) hk)] at q9; exact q9
      have hz0 : ∀ k, k ∈ ([1, 3, 7, 8, 15, 16, 19, 25, 26, 27, 31, 32] : List Nat) → z136 k = z0 k := fun k hk => (hzf k (s_sub (by decide) hk)).trans (hz0 k hk)
      have ev113 : v113 = z136 5 := ev113.trans (hzf 5 (by decide)).symm
      have hfr : ∀ b, K b ∉ [9, 62, 64] → F131 b = F b := fun b hb9 => (hfr1 b (fun q => hb9 (s_sub (by decide) q))).trans (hfr b hb9)
      obtain ⟨v140, ev140⟩ : ∃ y : Int32, y = z136 2 := ⟨_, rfl⟩
      have qv140 : 0 ≤ v140.toInt ∧ v140.toInt ≤ 1600 := by rw [ev140]; exact y_bY2 bz139
      obtain ⟨v141, ev141⟩ : ∃ y : Int32, y = z136 3 := ⟨_, rfl⟩
      have qv141 : 0 ≤ v141.toInt ∧ v141.toInt ≤ 1600 := by rw [ev141]; exact y_bY3 bz139
      have h133 : (r130.toInt = -1 ∨ v140.toInt < v141.toInt) := by have q9 := h133; rw [y_fiZ oY138 (k := 2) (by decide), ← ev140, y_fiZ oY138 (k := 3) (by decide), ← ev141] at q9; exact q9
      refine lv_istore_n (lv' := [(2, .int r130), (0, .ref a0), (1, .int w6)]) hx hb dX7_goTold_64 rfl hl (by decide) rfl (fun ls hl => ?_)
      refine lv_aload_n hx hb dX7_goTold_65 rfl (lv_at hl 1 rfl) ?_
      refine th_get (D := (dC, dI)) (ci := 7) (v := .int (z136 5)) (C := RX7) (T := TX7) (N := 34) hx hb hts inX7 hown hK hP (hLK _ ha0 (by decide)) oY138 rfl 5 (by decide) (hts _ T_274) (fun _ h9 => h9) rfl dX7_goTold_66 ?_
      refine ax_eqi (y := v113) ev113.symm ?_
      refine lv_if_ne (tgt := 99) hx hb dX7_goTold_69 (by decide) (fun c142 => ?_) (fun c142 => ?_)
      · have c142 := mt (ax_eq (n := 0) (by decide)).mpr c142
        exact K99 _ _ _ ⟨F131, _, r130, rfl, lv_sub hl [1, 0] rfl, hP, hS, hI, hfr, (fun k hk => by rw [y_fiZ oY138 (s_sub (by decide) hk)]; exact hz0 k hk), trivial, (by rw [y_atE o135]; exact hn123), (by rw [y_atE o135]; exact hfr124), (by rw [y_atE o135, y_fiZ oY138 (k := 5) (by decide), ← ev113]; omega), (by rw [y_fiZ oY138 (k := 5) (by decide), ← ev113, y_fiZ oY138 (k := 2) (by decide), ← ev140]; omega), (by rw [y_fiZ oY138 (k := 5) (by decide), ← ev113, y_atE o135]; omega)⟩
      · have c142 := (ax_eq (n := 0) (by decide)).mp c142
        refine lv_iload_n hx hb dX7_goTold_72 rfl (lv_at hl 0 rfl) ?_
        refine lv_bipush (v := 60) hx hb dX7_goTold_73 (by decide) ?_
        refine lv_icmp_eq (tgt := 99) hx hb dX7_goTold_75 (by decide) (fun c143 => ?_) (fun c143 => ?_)
        · have c143 := (ax_eq (n := 60) (by decide)).mp c143
          exact K99 _ _ _ ⟨F131, _, r130, rfl, lv_sub hl [1, 0] rfl, hP, hS, hI, hfr, (fun k hk => by rw [y_fiZ oY138 (s_sub (by decide) hk)]; exact hz0 k hk), trivial, (by rw [y_atE o135]; exact hn123), (by rw [y_atE o135]; exact hfr124), (by rw [y_atE o135, y_fiZ oY138 (k := 5) (by decide), ← ev113]; omega), (by rw [y_fiZ oY138 (k := 5) (by decide), ← ev113, y_fiZ oY138 (k := 2) (by decide), ← ev140]; omega), (by rw [y_fiZ oY138 (k := 5) (by decide), ← ev113, y_atE o135]; omega)⟩
        · have c143 := mt (ax_eq (n := 60) (by decide)).mpr c143
          refine lv_iload_n hx hb dX7_goTold_78 rfl (lv_at hl 0 rfl) ?_
          refine lv_bipush (v := 61) hx hb dX7_goTold_79 (by decide) ?_
          refine lv_icmp_eq (tgt := 99) hx hb dX7_goTold_81 (by decide) (fun c144 => ?_) (fun c144 => ?_)
          · have c144 := (ax_eq (n := 61) (by decide)).mp c144
            exact K99 _ _ _ ⟨F131, _, r130, rfl, lv_sub hl [1, 0] rfl, hP, hS, hI, hfr, (fun k hk => by rw [y_fiZ oY138 (s_sub (by decide) hk)]; exact hz0 k hk), trivial, (by rw [y_atE o135]; exact hn123), (by rw [y_atE o135]; exact hfr124), (by rw [y_atE o135, y_fiZ oY138 (k := 5) (by decide), ← ev113]; omega), (by rw [y_fiZ oY138 (k := 5) (by decide), ← ev113, y_fiZ oY138 (k := 2) (by decide), ← ev140]; omega), (by rw [y_fiZ oY138 (k := 5) (by decide), ← ev113, y_atE o135]; omega)⟩
          · have c144 := mt (ax_eq (n := 61) (by decide)).mpr c144
            refine lv_iload_n hx hb dX7_goTold_84 rfl (lv_at hl 0 rfl) ?_
            refine lv_bipush (v := 62) hx hb dX7_goTold_85 (by decide) ?_
            refine lv_icmp_eq (tgt := 99) hx hb dX7_goTold_87 (by decide) (fun c145 => ?_) (fun c145 => ?_)
            · have c145 := (ax_eq (n := 62) (by decide)).mp c145
              exact K99 _ _ _ ⟨F131, _, r130, rfl, lv_sub hl [1, 0] rfl, hP, hS, hI, hfr, (fun k hk => by rw [y_fiZ oY138 (s_sub (by decide) hk)]; exact hz0 k hk), trivial, (by rw [y_atE o135]; exact hn123), (by rw [y_atE o135]; exact hfr124), (by rw [y_atE o135, y_fiZ oY138 (k := 5) (by decide), ← ev113]; omega), (by rw [y_fiZ oY138 (k := 5) (by decide), ← ev113, y_fiZ oY138 (k := 2) (by decide), ← ev140]; omega), (by rw [y_fiZ oY138 (k := 5) (by decide), ← ev113, y_atE o135]; omega)⟩
            · have c145 := mt (ax_eq (n := 62) (by decide)).mpr c145
              refine lv_aload_n hx hb dX7_goTold_90 rfl (lv_at hl 1 rfl) ?_
              refine lv_iconst (v := 1) hx hb dX7_goTold_91 (by decide) ?_
              refine lv_aload_n hx hb dX7_goTold_92 rfl (lv_at hl 1 rfl) ?_
              refine th_get (D := (dC, dI)) (ci := 7) (v := .int (z136 2)) (C := RX7) (T := TX7) (N := 34) hx hb hts inX7 hown hK hP (hLK _ ha0 (by decide)) oY138 rfl 2 (by decide) (hts _ T_272) (fun _ h9 => h9) rfl dX7_goTold_93 ?_
              refine ax_eqi (y := v140) ev140.symm ?_
              refine va_callv (va_runV (As := [.int 1, .int v140]) (rest := []) ⟨hx, hb, hml, hown, hts⟩ (y_X7_fail l dC dI H.size hLK A hA F131 a0 1 v140 ha0 (by decide) hI) (cwV 2 hts (ax_gV T_290 T_291 T_292 T_265 T_27) rfl rfl rfl (by decide +kernel) ⟨Nat.le_of_ble_eq_true rfl, Nat.le_of_ble_eq_true rfl⟩) ⟨fun a U g mk q => ⟨q.1, s_pc rfl rfl q.2⟩, s_recv hK hP (hLK _ ha0 (by decide)) (ci := 7) rfl oY138, fun U hU hW => ⟨rfl, s_pw hU hW hP hK hD hN⟩⟩ rfl rfl hl.1 rfl (lv_room (Nat.le_of_ble_eq_true rfl)) dX7_goTold_96 ⟨Nat.zero_le _, Nat.zero_le _⟩) hS (fun q _ h => h) (fun q h => h) (fun F147 t H1 locs ht hvm hw hB hz1 hk1 hS => ?_)
              obtain ⟨hP, hK1⟩ := hB
              rw [ht] at hP
              generalize H1 = H at hP hS ⊢
              obtain ⟨h148, h150, hI, hfr1, hzf, h149⟩ := hw
              have o151 : F147 (A 12) = .inl (cs 0, 400, .inl f120) := (hfr1 _ (by rw [(y_k12 hA)]; decide)).trans o135
              obtain ⟨z152, q153, oY154, bz155⟩ := y_opY hI ha0
              have hzf : ∀ k, k ∈ ([1, 2, 3, 4, 7, 8, 11, 15, 16, 19, 25, 26, 27, 31, 32] : List Nat) → z152 k = z136 k := fun k hk => by have q9 := hzf k hk; rw [y_fiZ oY154 (s_sub (by decide) hk), y_fiZ oY138 (s_sub (by decide) hk)] at q9; exact q9
              have hz0 : ∀ k, k ∈ ([1, 3, 7, 8, 15, 16, 19, 25, 26, 27, 31, 32] : List Nat) → z152 k = z0 k := fun k hk => (hzf k (s_sub (by decide) hk)).trans (hz0 k hk)
              have ev140 : v140 = z152 2 := ev140.trans (hzf 2 (by decide)).symm
              have ev141 : v141 = z152 3 := ev141.trans (hzf 3 (by decide)).symm
              have hfr : ∀ b, K b ∉ [9, 62, 64] → F147 b = F b := fun b hb9 => (hfr1 b (fun q => hb9 (s_sub (by decide) q))).trans (hfr b hb9)
              obtain ⟨v156, ev156⟩ : ∃ y : Int32, y = z152 5 := ⟨_, rfl⟩
              have h149 : (¬ v156.toInt = 0) := by have q9 := h149; rw [y_fiZ oY154 (k := 5) (by decide), ← ev156] at q9; exact q9
              exact K99 _ _ _ ⟨F147, _, r130, rfl, lv_sub hl [1, 0] rfl, hP, hS, hI, hfr, (fun k hk => by rw [y_fiZ oY154 (s_sub (by decide) hk)]; exact hz0 k hk), trivial, (by rw [y_atE o151]; exact hn123), (by rw [y_atE o151]; exact hfr124), (by rw [y_atE o151, y_fiZ oY154 (k := 5) (by decide), ← ev156]; omega), (by rw [y_fiZ oY154 (k := 5) (by decide), ← ev156, y_fiZ oY154 (k := 2) (by decide), ← ev140]; omega), (by rw [y_fiZ oY154 (k := 5) (by decide), ← ev156, y_atE o151]; omega)⟩
    · have c101 := (ax_eq (n := 0) (by decide)).mp c101
      exact W.vret hx hb hr (fun t ht hW => ⟨⟨F92, rfl, ⟨trivial, trivial, hI, hfr, fun k hk => by rw [y_fiZ oY99 (s_sub (by decide) hk), y_fiZ oY0 (s_sub (by decide) hk)]; exact hz0 k hk, (by rw [y_fiZ oY0 (k := 5) (by decide), ← eF_5, y_fiZ oY99 (k := 5) (by decide), ← ev74, y_atE o2, y_atE o96]; rw [← hnn]; exact ⟨by omega, hfr85, by omega, by omega⟩)⟩, by rw [ht]; exact hP, va_K.moved hW.alike hK⟩, hS.F ht⟩) hS.2.2 dX7_goTold_50
  · intro g H locs hq
    obtain ⟨F163, ls, w5, rfl, hl, hP, hS, hI, hfr, hz0, h157, h158, h159, h160, h161, h162⟩ := hq
    obtain ⟨z164, q165, oY166, bz167⟩ := y_opY hI ha0
    have hz0 : ∀ k, k ∈ ([1, 3, 7, 8, 15, 16, 19, 25, 26, 27, 31, 32] : List Nat) → z164 k = z0 k := fun k hk => (y_fiZ oY166 (s_sub (by decide) hk)).symm.trans (hz0 k hk)
    obtain ⟨f168, o169, b170⟩ := y_op12 hI
    have h158 : (y_c f168 387).toInt = nn := by have q9 := h158; rw [y_atE o169] at q9; exact q9
    have h159 : (∀ j : Int, 0 ≤ j → (j < 8 * nn ∨ 8 * nn + 8 ≤ j) → y_c f168 j = y_c f1 j) := by have q9 := h159; rw [y_atE o169, y_atE o2] at q9; exact q9
    obtain ⟨v171, ev171⟩ : ∃ y : Int32, y = z164 5 := ⟨_, rfl⟩
    have h160 : ((y_c f168 (8 * nn)).toInt = (y_c f1 (8 * nn)).toInt ∧ (y_c f168 (8 * nn + 5)).toInt = -1000000 ∧ (v4.toInt = 0 ∨ ¬ v171.toInt = 0)) := by have q9 := h160; rw [y_atE o169, y_atE o2, y_fiZ oY0 (k := 5) (by decide), ← eF_5, y_fiZ oY166 (k := 5) (by decide), ← ev171] at q9; exact q9
    obtain ⟨v172, ev172⟩ : ∃ y : Int32, y = z164 2 := ⟨_, rfl⟩
    have qv172 : 0 ≤ v172.toInt ∧ v172.toInt ≤ 1600 := by rw [ev172]; exact y_bY2 bz167
    have h161 : (v171.toInt = 0 → v172.toInt < 1600) := by have q9 := h161; rw [y_fiZ oY166 (k := 5) (by decide), ← ev171, y_fiZ oY166 (k := 2) (by decide), ← ev172] at q9; exact q9
    have h162 : (v171.toInt = 0 → -4 ≤ (y_c f168 (8 * nn + 2)).toInt) := by have q9 := h162; rw [y_fiZ oY166 (k := 5) (by decide), ← ev171, y_atE o169] at q9; exact q9
    refine lv_aload_n hx hb dX7_goTold_99 rfl (lv_at hl 0 rfl) ?_
    refine th_get (D := (dC, dI)) (ci := 7) (v := .int (z164 5)) (C := RX7) (T := TX7) (N := 34) hx hb hts inX7 hown hK hP (hLK _ ha0 (by decide)) oY166 rfl 5 (by decide) (hts _ T_274) (fun _ h9 => h9) rfl dX7_goTold_100 ?_
    refine ax_eqi (y := v171) ev171.symm ?_
    refine lv_if_eq (tgt := 107) hx hb dX7_goTold_103 (by decide) (fun c173 => ?_) (fun c173 => ?_)
    · have c173 := (ax_eq (n := 0) (by decide)).mp c173
      refine lv_aload_n hx hb dX7_goTold_107 rfl (lv_at hl 0 rfl) ?_
      refine lv_dup hx hb dX7_goTold_108 rfl ?_
      refine th_get (D := (dC, dI)) (ci := 7) (v := .int (z164 2)) (C := RX7) (T := TX7) (N := 34) hx hb hts inX7 hown hK hP (hLK _ ha0 (by decide)) oY166 rfl 2 (by decide) (hts _ T_272) (fun _ h9 => h9) rfl dX7_goTold_109 ?_
      refine ax_eqi (y := v172) ev172.symm ?_
      refine lv_iconst (v := 1) hx hb dX7_goTold_112 (by decide) ?_
      refine lv_iadd hx hb dX7_goTold_113 ?_
      refine lv_topi (fun v174 ev174 => ?_)
      have qv174 : v174.toInt = v172.toInt + 1 := by rw [ev174]; exact th_add rfl (by decide) ⟨by omega, by omega⟩
      refine th_put (D := (dC, dI)) (ci := 7) (v := .int v174) (ty := .int) (C := RX7) (T := TX7) (N := 34) hx hb hts inX7 tyX7 tyX7_ok nmX7 hown hK hP hD hS (hLK _ ha0 (by decide)) oY166 rfl 2 (by decide) (hts _ T_272) (fun _ h9 => h9) rfl (by decide +kernel) rfl rfl (Nat.le_of_ble_eq_true rfl) dX7_goTold_114 (fun H locs hP hS => ?_)
      rw [y_fs2] at hP
      obtain ⟨z175, hz176⟩ : ∃ g : Nat → Int32, g = upd z164 2 v174 := ⟨_, rfl⟩
      rw [← hz176] at hP
      have bz177 : y_bY z175 := by rw [hz176]; exact y_bp2 bz167 ⟨by omega, by omega⟩
      have hP : va_P (dC, dI) vwCl (va_pl L (va_up F163 a0 (.inr (7, y_fl A z175 q165)))) H := hP
      obtain ⟨F178, hF179⟩ : ∃ G : Nat → va_E, G = va_up F163 a0 (.inr (7, y_fl A z175 q165)) := ⟨_, rfl⟩
      rw [← hF179] at hP
      have hI : y_I K cs A F178 := by rw [hF179]; exact y_clY hA hI ha0 bz177
      have hfr : ∀ b, K b ∉ [9, 62, 64] → F178 b = F b := by rw [hF179]; exact s_fr hfr ha0 (by decide)
      have o180 : F178 (A 12) = .inl (cs 0, 400, .inl f168) := by rw [hF179]; exact th_ne (th_kd (y_k12 hA) ha0 (by decide)) o169
      have oY181 : F178 a0 = .inr (7, y_fl A z175 q165) := by rw [hF179]; exact th_up
      have hz0 : ∀ k, k ∈ ([1, 3, 7, 8, 15, 16, 19, 25, 26, 27, 31, 32] : List Nat) → z175 k = z0 k := fun k hk => by rw [hz176]; exact (y_un (fun q => absurd hk (by rw [q]; decide))).trans (hz0 k hk)
      have ev171 : v171 = z175 5 := by rw [hz176]; exact ev171.trans (y_un (by decide)).symm
      obtain ⟨v182, ev182⟩ : ∃ y : Int32, y = z175 2 := ⟨_, rfl⟩
      have qv182 : v182.toInt = v174.toInt := by rw [ev182, hz176, y_ue]
      refine lv_aload_n hx hb dX7_goTold_117 rfl (lv_at hl 0 rfl) ?_
      refine lv_iconst (v := 5) hx hb dX7_goTold_118 (by decide) ?_
      refine lv_iload_n hx hb dX7_goTold_119 rfl (lv_at hl 1 rfl) ?_
      refine lv_bipush (v := 60) hx hb dX7_goTold_120 (by decide) ?_
      refine lv_icmp_ne (tgt := 129) hx hb dX7_goTold_122 (by decide) (fun c183 => ?_) (fun c183 => ?_)
      · have c183 := mt (ax_eq (n := 60) (by decide)).mpr c183
        refine lv_iload_n hx hb dX7_goTold_129 rfl (lv_at hl 1 rfl) ?_
        refine lv_bipush (v := 61) hx hb dX7_goTold_130 (by decide) ?_
        refine lv_icmp_ne (tgt := 139) hx hb dX7_goTold_132 (by decide) (fun c184 => ?_) (fun c184 => ?_)
        · have c184 := mt (ax_eq (n := 61) (by decide)).mpr c184
          refine lv_iconst (v := 2) hx hb dX7_goTold_139 (by decide) ?_
          have ep185_5 := ev171
          refine va_callv (va_runV (As := [.int 5, .int 2]) (rest := []) ⟨hx, hb, hml, hown, hts⟩ (y_X7_lays l dC dI H.size hLK A hA F178 a0 5 2 ha0 (by decide) hI) (cwV 2 hts (ax_gV T_1115 T_1117 T_1118 T_265 T_1116) rfl rfl rfl (by decide +kernel) ⟨Nat.le_of_ble_eq_true rfl, Nat.le_of_ble_eq_true rfl⟩) ⟨fun a U g mk q => ⟨q.1, s_pc rfl rfl q.2⟩, s_recv hK hP (hLK _ ha0 (by decide)) (ci := 7) rfl oY181, fun U hU hW => ⟨rfl, s_pw hU hW hP hK hD hN⟩⟩ rfl rfl hl.1 rfl (lv_room (Nat.le_of_ble_eq_true rfl)) dX7_goTold_140 ⟨Nat.zero_le _, Nat.zero_le _⟩) hS (fun q _ h => h) (fun q h => h) (fun F186 t H1 locs ht hvm hw hB hz1 hk1 hS => ?_)
          obtain ⟨hP, hK1⟩ := hB
          rw [ht] at hP
          generalize H1 = H at hP hS ⊢
          obtain ⟨h187, h189, hI, hfr1, hzf, h188⟩ := hw
          have oY190 : F186 a0 = .inr (7, y_fl A z175 q165) := (hfr1 _ (by rw [ha0]; decide)).trans oY181
          have hfr : ∀ b, K b ∉ [9, 62, 64] → F186 b = F b := fun b hb9 => (hfr1 b (fun q => hb9 (s_sub (by decide) q))).trans (hfr b hb9)
          obtain ⟨f191, o192, b193⟩ := y_op12 hI
          have h188 : ((∀ j : Int, 0 ≤ j → j ≠ 8 * (y_c f168 387).toInt + 5 → y_c f191 j = y_c f168 j) ∧ (v171.toInt = 0 → y_c f191 (8 * (y_c f168 387).toInt + 5) = 2)) := by have q9 := h188; rw [y_atE o180, y_atE o192, y_fiZ oY181 (k := 5) (by decide), ← ep185_5] at q9; exact q9
          rw [h158] at h188
          have hn194 : (y_c f191 387).toInt = nn := by rw [h188.1 387 (by omega) (by omega)]; exact h158
          have hfr195 : ∀ j : Int, 0 ≤ j → (j < 8 * nn ∨ 8 * nn + 8 ≤ j) → y_c f191 j = y_c f1 j := fun j h0 h1 => (h188.1 j h0 (by omega)).trans (h159 j h0 h1)
          have h196 : (y_c f191 (8 * nn)).toInt = (y_c f168 (8 * nn)).toInt := (congrArg Int32.toInt (h188.1 _ (by omega) (by omega)))
          have h197 : (y_c f191 (8 * nn + 2)).toInt = (y_c f168 (8 * nn + 2)).toInt := (congrArg Int32.toInt (h188.1 _ (by omega) (by omega)))
          have h198 : (y_c f191 (8 * nn + 3)).toInt = (y_c f168 (8 * nn + 3)).toInt := (congrArg Int32.toInt (h188.1 _ (by omega) (by omega)))
          have h199 : v171.toInt = 0 → (y_c f191 (8 * nn + 5)).toInt = 2 := (fun h9 => (congrArg (fun i => (y_c f191 i).toInt) (show 8 * nn + 5 = 8 * nn + 5 by omega)).trans ((congrArg Int32.toInt (h188.2 h9)).trans (by decide)))
          refine lv_aload_n hx hb dX7_goTold_143 rfl (lv_at hl 0 rfl) ?_
          refine lv_iconst (v := 3) hx hb dX7_goTold_144 (by decide) ?_
          refine lv_aload_n hx hb dX7_goTold_145 rfl (lv_at hl 0 rfl) ?_
          have ep200_5 := ev171
          refine va_calli (va_runV (As := []) (rest := [.int 3, .ref a0]) ⟨hx, hb, hml, hown, hts⟩ (y_X7_partTold l dC dI H.size hLK A hA F186 a0 ha0 hI) (cwV 0 hts (ax_gV T_1119 T_1121 T_1122 T_265 T_1120) rfl rfl rfl (by decide +kernel) ⟨Nat.le_of_ble_eq_true rfl, Nat.le_of_ble_eq_true rfl⟩) ⟨fun a U g mk q => ⟨q.1, s_pc rfl rfl q.2⟩, s_recv hK hP (hLK _ ha0 (by decide)) (ci := 7) rfl oY190, fun U hU hW => ⟨rfl, s_pw hU hW hP hK hD hN⟩⟩ rfl rfl hl.1 rfl (lv_room (Nat.le_of_ble_eq_true rfl)) dX7_goTold_146 ⟨Nat.zero_le _, Nat.zero_le _⟩) hS (fun q _ h => h) (fun q h => h) (fun r201 F202 t H1 locs ht hvm hw hB hz1 hk1 hS => ?_)
          obtain ⟨hP, hK1⟩ := hB
          rw [ht] at hP
          generalize H1 = H at hP hS ⊢
          obtain ⟨h203, h205, hI, hfr1, hzf, h204⟩ := hw
          have o206 : F202 (A 12) = .inl (cs 0, 400, .inl f191) := (hfr1 _ (by rw [(y_k12 hA)]; decide)).trans o192
          obtain ⟨z207, q208, oY209, bz210⟩ := y_opY hI ha0
          have hzf : ∀ k, k ∈ ([1, 3, 7, 8, 11, 15, 16, 19, 25, 26, 27, 31, 32] : List Nat) → z207 k = z175 k := fun k hk => by have q9 := hzf k hk; rw [y_fiZ oY209 (s_sub (by decide) hk), y_fiZ oY190 (s_sub (by decide) hk)] at q9; exact q9
          have hz0 : ∀ k, k ∈ ([1, 3, 7, 8, 15, 16, 19, 25, 26, 27, 31, 32] : List Nat) → z207 k = z0 k := fun k hk => (hzf k (s_sub (by decide) hk)).trans (hz0 k hk)
          have hfr : ∀ b, K b ∉ [9, 62, 64] → F202 b = F b := fun b hb9 => (hfr1 b (fun q => hb9 (s_sub (by decide) q))).trans (hfr b hb9)
          obtain ⟨v211, ev211⟩ : ∃ y : Int32, y = z207 5 := ⟨_, rfl⟩
          have h204 : ((v171.toInt = 0 ∨ ¬ v211.toInt = 0) ∧ (v211.toInt = 0 → -4 ≤ r201.toInt ∧ r201.toInt ≤ 999)) := by have q9 := h204; rw [y_fiZ oY190 (k := 5) (by decide), ← ep200_5, y_fiZ oY209 (k := 5) (by decide), ← ev211] at q9; exact q9
          have ep212_5 := ev211
          refine va_callv (va_runV (As := [.int 3, .int r201]) (rest := []) ⟨hx, hb, hml, hown, hts⟩ (y_X7_lays l dC dI H.size hLK A hA F202 a0 3 r201 ha0 (by decide) hI) (cwV 2 hts (ax_gV T_1115 T_1117 T_1118 T_265 T_1116) rfl rfl rfl (by decide +kernel) ⟨Nat.le_of_ble_eq_true rfl, Nat.le_of_ble_eq_true rfl⟩) ⟨fun a U g mk q => ⟨q.1, s_pc rfl rfl q.2⟩, s_recv hK hP (hLK _ ha0 (by decide)) (ci := 7) rfl oY209, fun U hU hW => ⟨rfl, s_pw hU hW hP hK hD hN⟩⟩ rfl rfl hl.1 rfl (lv_room (Nat.le_of_ble_eq_true rfl)) dX7_goTold_149 ⟨Nat.zero_le _, Nat.zero_le _⟩) hS (fun q _ h => h) (fun q h => h) (fun F213 t H1 locs ht hvm hw hB hz1 hk1 hS => ?_)
          obtain ⟨hP, hK1⟩ := hB
          rw [ht] at hP
          generalize H1 = H at hP hS ⊢
          obtain ⟨h214, h216, hI, hfr1, hzf, h215⟩ := hw
          have oY217 : F213 a0 = .inr (7, y_fl A z207 q208) := (hfr1 _ (by rw [ha0]; decide)).trans oY209
          have hfr : ∀ b, K b ∉ [9, 62, 64] → F213 b = F b := fun b hb9 => (hfr1 b (fun q => hb9 (s_sub (by decide) q))).trans (hfr b hb9)
          obtain ⟨f218, o219, b220⟩ := y_op12 hI
          have h215 : ((∀ j : Int, 0 ≤ j → j ≠ 8 * (y_c f191 387).toInt + 3 → y_c f218 j = y_c f191 j) ∧ (v211.toInt = 0 → y_c f218 (8 * (y_c f191 387).toInt + 3) = r201)) := by have q9 := h215; rw [y_atE o206, y_atE o219, y_fiZ oY209 (k := 5) (by decide), ← ep212_5] at q9; exact q9
          rw [hn194] at h215
          have hn221 : (y_c f218 387).toInt = nn := by rw [h215.1 387 (by omega) (by omega)]; exact hn194
          have hfr222 : ∀ j : Int, 0 ≤ j → (j < 8 * nn ∨ 8 * nn + 8 ≤ j) → y_c f218 j = y_c f1 j := fun j h0 h1 => (h215.1 j h0 (by omega)).trans (hfr195 j h0 h1)
          have h223 : (y_c f218 (8 * nn)).toInt = (y_c f191 (8 * nn)).toInt := (congrArg Int32.toInt (h215.1 _ (by omega) (by omega)))
          have h224 : (y_c f218 (8 * nn + 2)).toInt = (y_c f191 (8 * nn + 2)).toInt := (congrArg Int32.toInt (h215.1 _ (by omega) (by omega)))
          have h225 : v211.toInt = 0 → (y_c f218 (8 * nn + 3)).toInt = r201.toInt := (fun h9 => (congrArg (fun i => (y_c f218 i).toInt) (show 8 * nn + 3 = 8 * nn + 3 by omega)).trans ((congrArg Int32.toInt (h215.2 h9)).trans rfl))
          have h226 : (y_c f218 (8 * nn + 5)).toInt = (y_c f191 (8 * nn + 5)).toInt := (congrArg Int32.toInt (h215.1 _ (by omega) (by omega)))
          exact W.vret hx hb hr (fun t ht hW => ⟨⟨F213, rfl, ⟨trivial, trivial, hI, hfr, fun k hk => by rw [y_fiZ oY217 (s_sub (by decide) hk), y_fiZ oY0 (s_sub (by decide) hk)]; exact hz0 k hk, (by rw [y_fiZ oY0 (k := 5) (by decide), ← eF_5, y_fiZ oY217 (k := 5) (by decide), ← ev211, y_atE o2, y_atE o219]; rw [← hnn]; exact ⟨by omega, hfr222, by omega, by omega⟩)⟩, by rw [ht]; exact hP, va_K.moved hW.alike hK⟩, hS.F ht⟩) hS.2.2 dX7_goTold_152
        · have c184 := (ax_eq (n := 61) (by decide)).mp c184
          refine lv_iconst (v := 1) hx hb dX7_goTold_135 (by decide) ?_
          refine lv_goto (tgt := 140) hx hb dX7_goTold_136 (by decide) ?_
          have ep227_5 := ev171
          refine va_callv (va_runV (As := [.int 5, .int 1]) (rest := []) ⟨hx, hb, hml, hown, hts⟩ (y_X7_lays l dC dI H.size hLK A hA F178 a0 5 1 ha0 (by decide) hI) (cwV 2 hts (ax_gV T_1115 T_1117 T_1118 T_265 T_1116) rfl rfl rfl (by decide +kernel) ⟨Nat.le_of_ble_eq_true rfl, Nat.le_of_ble_eq_true rfl⟩) ⟨fun a U g mk q => ⟨q.1, s_pc rfl rfl q.2⟩, s_recv hK hP (hLK _ ha0 (by decide)) (ci := 7) rfl oY181, fun U hU hW => ⟨rfl, s_pw hU hW hP hK hD hN⟩⟩ rfl rfl hl.1 rfl (lv_room (Nat.le_of_ble_eq_true rfl)) dX7_goTold_140 ⟨Nat.zero_le _, Nat.zero_le _⟩) hS (fun q _ h => h) (fun q h => h) (fun F228 t H1 locs ht hvm hw hB hz1 hk1 hS => ?_)
          obtain ⟨hP, hK1⟩ := hB
          rw [ht] at hP
          generalize H1 = H at hP hS ⊢
          obtain ⟨h229, h231, hI, hfr1, hzf, h230⟩ := hw
          have oY232 : F228 a0 = .inr (7, y_fl A z175 q165) := (hfr1 _ (by rw [ha0]; decide)).trans oY181
          have hfr : ∀ b, K b ∉ [9, 62, 64] → F228 b = F b := fun b hb9 => (hfr1 b (fun q => hb9 (s_sub (by decide) q))).trans (hfr b hb9)
          obtain ⟨f233, o234, b235⟩ := y_op12 hI
          have h230 : ((∀ j : Int, 0 ≤ j → j ≠ 8 * (y_c f168 387).toInt + 5 → y_c f233 j = y_c f168 j) ∧ (v171.toInt = 0 → y_c f233 (8 * (y_c f168 387).toInt + 5) = 1)) := by have q9 := h230; rw [y_atE o180, y_atE o234, y_fiZ oY181 (k := 5) (by decide), ← ep227_5] at q9; exact q9
          rw [h158] at h230
          have hn236 : (y_c f233 387).toInt = nn := by rw [h230.1 387 (by omega) (by omega)]; exact h158
          have hfr237 : ∀ j : Int, 0 ≤ j → (j < 8 * nn ∨ 8 * nn + 8 ≤ j) → y_c f233 j = y_c f1 j := fun j h0 h1 => (h230.1 j h0 (by omega)).trans (h159 j h0 h1)
          have h238 : (y_c f233 (8 * nn)).toInt = (y_c f168 (8 * nn)).toInt := (congrArg Int32.toInt (h230.1 _ (by omega) (by omega)))
          have h239 : (y_c f233 (8 * nn + 2)).toInt = (y_c f168 (8 * nn + 2)).toInt := (congrArg Int32.toInt (h230.1 _ (by omega) (by omega)))
          have h240 : (y_c f233 (8 * nn + 3)).toInt = (y_c f168 (8 * nn + 3)).toInt := (congrArg Int32.toInt (h230.1 _ (by omega) (by omega)))
          have h241 : v171.toInt = 0 → (y_c f233 (8 * nn + 5)).toInt = 1 := (fun h9 => (congrArg (fun i => (y_c f233 i).toInt) (show 8 * nn + 5 = 8 * nn + 5 by omega)).trans ((congrArg Int32.toInt (h230.2 h9)).trans (by decide)))
          refine lv_aload_n hx hb dX7_goTold_143 rfl (lv_at hl 0 rfl) ?_
          refine lv_iconst (v := 3) hx hb dX7_goTold_144 (by decide) ?_
          refine lv_aload_n hx hb dX7_goTold_145 rfl (lv_at hl 0 rfl) ?_
          have ep242_5 := ev171
          refine va_calli (va_runV (As := []) (rest := [.int 3, .ref a0]) ⟨hx, hb, hml, hown, hts⟩ (y_X7_partTold l dC dI H.size hLK A hA F228 a0 ha0 hI) (cwV 0 hts (ax_gV T_1119 T_1121 T_1122 T_265 T_1120) rfl rfl rfl (by decide +kernel) ⟨Nat.le_of_ble_eq_true rfl, Nat.le_of_ble_eq_true rfl⟩) ⟨fun a U g mk q => ⟨q.1, s_pc rfl rfl q.2⟩, s_recv hK hP (hLK _ ha0 (by decide)) (ci := 7) rfl oY232, fun U hU hW => ⟨rfl, s_pw hU hW hP hK hD hN⟩⟩ rfl rfl hl.1 rfl (lv_room (Nat.le_of_ble_eq_true rfl)) dX7_goTold_146 ⟨Nat.zero_le _, Nat.zero_le _⟩) hS (fun q _ h => h) (fun q h => h) (fun r243 F244 t H1 locs ht hvm hw hB hz1 hk1 hS => ?_)
          obtain ⟨hP, hK1⟩ := hB
          rw [ht] at hP
          generalize H1 = H at hP hS ⊢
          obtain ⟨h245, h247, hI, hfr1, hzf, h246⟩ := hw
          have o248 : F244 (A 12) = .inl (cs 0, 400, .inl f233) := (hfr1 _ (by rw [(y_k12 hA)]; decide)).trans o234
          obtain ⟨z249, q250, oY251, bz252⟩ := y_opY hI ha0
          have hzf : ∀ k, k ∈ ([1, 3, 7, 8, 11, 15, 16, 19, 25, 26, 27, 31, 32] : List Nat) → z249 k = z175 k := fun k hk => by have q9 := hzf k hk; rw [y_fiZ oY251 (s_sub (by decide) hk), y_fiZ oY232 (s_sub (by decide) hk)] at q9; exact q9
          have hz0 : ∀ k, k ∈ ([1, 3, 7, 8, 15, 16, 19, 25, 26, 27, 31, 32] : List Nat) → z249 k = z0 k := fun k hk => (hzf k (s_sub (by decide) hk)).trans (hz0 k hk)
          have hfr : ∀ b, K b ∉ [9, 62, 64] → F244 b = F b := fun b hb9 => (hfr1 b (fun q => hb9 (s_sub (by decide) q))).trans (hfr b hb9)
          obtain ⟨v253, ev253⟩ : ∃ y : Int32, y = z249 5 := ⟨_, rfl⟩
          have h246 : ((v171.toInt = 0 ∨ ¬ v253.toInt = 0) ∧ (v253.toInt = 0 → -4 ≤ r243.toInt ∧ r243.toInt ≤ 999)) := by have q9 := h246; rw [y_fiZ oY232 (k := 5) (by decide), ← ep242_5, y_fiZ oY251 (k := 5) (by decide), ← ev253] at q9; exact q9
          have ep254_5 := ev253
          refine va_callv (va_runV (As := [.int 3, .int r243]) (rest := []) ⟨hx, hb, hml, hown, hts⟩ (y_X7_lays l dC dI H.size hLK A hA F244 a0 3 r243 ha0 (by decide) hI) (cwV 2 hts (ax_gV T_1115 T_1117 T_1118 T_265 T_1116) rfl rfl rfl (by decide +kernel) ⟨Nat.le_of_ble_eq_true rfl, Nat.le_of_ble_eq_true rfl⟩) ⟨fun a U g mk q => ⟨q.1, s_pc rfl rfl q.2⟩, s_recv hK hP (hLK _ ha0 (by decide)) (ci := 7) rfl oY251, fun U hU hW => ⟨rfl, s_pw hU hW hP hK hD hN⟩⟩ rfl rfl hl.1 rfl (lv_room (Nat.le_of_ble_eq_true rfl)) dX7_goTold_149 ⟨Nat.zero_le _, Nat.zero_le _⟩) hS (fun q _ h => h) (fun q h => h) (fun F255 t H1 locs ht hvm hw hB hz1 hk1 hS => ?_)
          obtain ⟨hP, hK1⟩ := hB
          rw [ht] at hP
          generalize H1 = H at hP hS ⊢
          obtain ⟨h256, h258, hI, hfr1, hzf, h257⟩ := hw
          have oY259 : F255 a0 = .inr (7, y_fl A z249 q250) := (hfr1 _ (by rw [ha0]; decide)).trans oY251
          have hfr : ∀ b, K b ∉ [9, 62, 64] → F255 b = F b := fun b hb9 => (hfr1 b (fun q => hb9 (s_sub (by decide) q))).trans (hfr b hb9)
          obtain ⟨f260, o261, b262⟩ := y_op12 hI
          have h257 : ((∀ j : Int, 0 ≤ j → j ≠ 8 * (y_c f233 387).toInt + 3 → y_c f260 j = y_c f233 j) ∧ (v253.toInt = 0 → y_c f260 (8 * (y_c f233 387).toInt + 3) = r243)) := by have q9 := h257; rw [y_atE o248, y_atE o261, y_fiZ oY251 (k := 5) (by decide), ← ep254_5] at q9; exact q9
          rw [hn236] at h257
          have hn263 : (y_c f260 387).toInt = nn := by rw [h257.1 387 (by omega) (by omega)]; exact hn236
          have hfr264 : ∀ j : Int, 0 ≤ j → (j < 8 * nn ∨ 8 * nn + 8 ≤ j) → y_c f260 j = y_c f1 j := fun j h0 h1 => (h257.1 j h0 (by omega)).trans (hfr237 j h0 h1)
          have h265 : (y_c f260 (8 * nn)).toInt = (y_c f233 (8 * nn)).toInt := (congrArg Int32.toInt (h257.1 _ (by omega) (by omega)))
          have h266 : (y_c f260 (8 * nn + 2)).toInt = (y_c f233 (8 * nn + 2)).toInt := (congrArg Int32.toInt (h257.1 _ (by omega) (by omega)))
          have h267 : v253.toInt = 0 → (y_c f260 (8 * nn + 3)).toInt = r243.toInt := (fun h9 => (congrArg (fun i => (y_c f260 i).toInt) (show 8 * nn + 3 = 8 * nn + 3 by omega)).trans ((congrArg Int32.toInt (h257.2 h9)).trans rfl))
          have h268 : (y_c f260 (8 * nn + 5)).toInt = (y_c f233 (8 * nn + 5)).toInt := (congrArg Int32.toInt (h257.1 _ (by omega) (by omega)))
          exact W.vret hx hb hr (fun t ht hW => ⟨⟨F255, rfl, ⟨trivial, trivial, hI, hfr, fun k hk => by rw [y_fiZ oY259 (s_sub (by decide) hk), y_fiZ oY0 (s_sub (by decide) hk)]; exact hz0 k hk, (by rw [y_fiZ oY0 (k := 5) (by decide), ← eF_5, y_fiZ oY259 (k := 5) (by decide), ← ev253, y_atE o2, y_atE o261]; rw [← hnn]; exact ⟨by omega, hfr264, by omega, by omega⟩)⟩, by rw [ht]; exact hP, va_K.moved hW.alike hK⟩, hS.F ht⟩) hS.2.2 dX7_goTold_152
      · have c183 := (ax_eq (n := 60) (by decide)).mp c183
        refine lv_iconst (v := 0) hx hb dX7_goTold_125 (by decide) ?_
        refine lv_goto (tgt := 140) hx hb dX7_goTold_126 (by decide) ?_
        have ep269_5 := ev171
        refine va_callv (va_runV (As := [.int 5, .int 0]) (rest := []) ⟨hx, hb, hml, hown, hts⟩ (y_X7_lays l dC dI H.size hLK A hA F178 a0 5 0 ha0 (by decide) hI) (cwV 2 hts (ax_gV T_1115 T_1117 T_1118 T_265 T_1116) rfl rfl rfl (by decide +kernel) ⟨Nat.le_of_ble_eq_true rfl, Nat.le_of_ble_eq_true rfl⟩) ⟨fun a U g mk q => ⟨q.1, s_pc rfl rfl q.2⟩, s_recv hK hP (hLK _ ha0 (by decide)) (ci := 7) rfl oY181, fun U hU hW => ⟨rfl, s_pw hU hW hP hK hD hN⟩⟩ rfl rfl hl.1 rfl (lv_room (Nat.le_of_ble_eq_true rfl)) dX7_goTold_140 ⟨Nat.zero_le _, Nat.zero_le _⟩) hS (fun q _ h => h) (fun q h => h) (fun F270 t H1 locs ht hvm hw hB hz1 hk1 hS => ?_)
        obtain ⟨hP, hK1⟩ := hB
        rw [ht] at hP
        generalize H1 = H at hP hS ⊢
        obtain ⟨h271, h273, hI, hfr1, hzf, h272⟩ := hw
        have oY274 : F270 a0 = .inr (7, y_fl A z175 q165) := (hfr1 _ (by rw [ha0]; decide)).trans oY181
        have hfr : ∀ b, K b ∉ [9, 62, 64] → F270 b = F b := fun b hb9 => (hfr1 b (fun q => hb9 (s_sub (by decide) q))).trans (hfr b hb9)
        obtain ⟨f275, o276, b277⟩ := y_op12 hI
        have h272 : ((∀ j : Int, 0 ≤ j → j ≠ 8 * (y_c f168 387).toInt + 5 → y_c f275 j = y_c f168 j) ∧ (v171.toInt = 0 → y_c f275 (8 * (y_c f168 387).toInt + 5) = 0)) := by have q9 := h272; rw [y_atE o180, y_atE o276, y_fiZ oY181 (k := 5) (by decide), ← ep269_5] at q9; exact q9
        rw [h158] at h272
        have hn278 : (y_c f275 387).toInt = nn := by rw [h272.1 387 (by omega) (by omega)]; exact h158
        have hfr279 : ∀ j : Int, 0 ≤ j → (j < 8 * nn ∨ 8 * nn + 8 ≤ j) → y_c f275 j = y_c f1 j := fun j h0 h1 => (h272.1 j h0 (by omega)).trans (h159 j h0 h1)
        have h280 : (y_c f275 (8 * nn)).toInt = (y_c f168 (8 * nn)).toInt := (congrArg Int32.toInt (h272.1 _ (by omega) (by omega)))
        have h281 : (y_c f275 (8 * nn + 2)).toInt = (y_c f168 (8 * nn + 2)).toInt := (congrArg Int32.toInt (h272.1 _ (by omega) (by omega)))
        have h282 : (y_c f275 (8 * nn + 3)).toInt = (y_c f168 (8 * nn + 3)).toInt := (congrArg Int32.toInt (h272.1 _ (by omega) (by omega)))
        have h283 : v171.toInt = 0 → (y_c f275 (8 * nn + 5)).toInt = 0 := (fun h9 => (congrArg (fun i => (y_c f275 i).toInt) (show 8 * nn + 5 = 8 * nn + 5 by omega)).trans ((congrArg Int32.toInt (h272.2 h9)).trans (by decide)))
        refine lv_aload_n hx hb dX7_goTold_143 rfl (lv_at hl 0 rfl) ?_
        refine lv_iconst (v := 3) hx hb dX7_goTold_144 (by decide) ?_
        refine lv_aload_n hx hb dX7_goTold_145 rfl (lv_at hl 0 rfl) ?_
        have ep284_5 := ev171
        refine va_calli (va_runV (As := []) (rest := [.int 3, .ref a0]) ⟨hx, hb, hml, hown, hts⟩ (y_X7_partTold l dC dI H.size hLK A hA F270 a0 ha0 hI) (cwV 0 hts (ax_gV T_1119 T_1121 T_1122 T_265 T_1120) rfl rfl rfl (by decide +kernel) ⟨Nat.le_of_ble_eq_true rfl, Nat.le_of_ble_eq_true rfl⟩) ⟨fun a U g mk q => ⟨q.1, s_pc rfl rfl q.2⟩, s_recv hK hP (hLK _ ha0 (by decide)) (ci := 7) rfl oY274, fun U hU hW => ⟨rfl, s_pw hU hW hP hK hD hN⟩⟩ rfl rfl hl.1 rfl (lv_room (Nat.le_of_ble_eq_true rfl)) dX7_goTold_146 ⟨Nat.zero_le _, Nat.zero_le _⟩) hS (fun q _ h => h) (fun q h => h) (fun r285 F286 t H1 locs ht hvm hw hB hz1 hk1 hS => ?_)
        obtain ⟨hP, hK1⟩ := hB
        rw [ht] at hP
        generalize H1 = H at hP hS ⊢
        obtain ⟨h287, h289, hI, hfr1, hzf, h288⟩ := hw
        have o290 : F286 (A 12) = .inl (cs 0, 400, .inl f275) := (hfr1 _ (by rw [(y_k12 hA)]; decide)).trans o276
        obtain ⟨z291, q292, oY293, bz294⟩ := y_opY hI ha0
        have hzf : ∀ k, k ∈ ([1, 3, 7, 8, 11, 15, 16, 19, 25, 26, 27, 31, 32] : List Nat) → z291 k = z175 k := fun k hk => by have q9 := hzf k hk; rw [y_fiZ oY293 (s_sub (by decide) hk), y_fiZ oY274 (s_sub (by decide) hk)] at q9; exact q9
        have hz0 : ∀ k, k ∈ ([1, 3, 7, 8, 15, 16, 19, 25, 26, 27, 31, 32] : List Nat) → z291 k = z0 k := fun k hk => (hzf k (s_sub (by decide) hk)).trans (hz0 k hk)
        have hfr : ∀ b, K b ∉ [9, 62, 64] → F286 b = F b := fun b hb9 => (hfr1 b (fun q => hb9 (s_sub (by decide) q))).trans (hfr b hb9)
        obtain ⟨v295, ev295⟩ : ∃ y : Int32, y = z291 5 := ⟨_, rfl⟩
        have h288 : ((v171.toInt = 0 ∨ ¬ v295.toInt = 0) ∧ (v295.toInt = 0 → -4 ≤ r285.toInt ∧ r285.toInt ≤ 999)) := by have q9 := h288; rw [y_fiZ oY274 (k := 5) (by decide), ← ep284_5, y_fiZ oY293 (k := 5) (by decide), ← ev295] at q9; exact q9
        have ep296_5 := ev295
        refine va_callv (va_runV (As := [.int 3, .int r285]) (rest := []) ⟨hx, hb, hml, hown, hts⟩ (y_X7_lays l dC dI H.size hLK A hA F286 a0 3 r285 ha0 (by decide) hI) (cwV 2 hts (ax_gV T_1115 T_1117 T_1118 T_265 T_1116) rfl rfl rfl (by decide +kernel) ⟨Nat.le_of_ble_eq_true rfl, Nat.le_of_ble_eq_true rfl⟩) ⟨fun a U g mk q => ⟨q.1, s_pc rfl rfl q.2⟩, s_recv hK hP (hLK _ ha0 (by decide)) (ci := 7) rfl oY293, fun U hU hW => ⟨rfl, s_pw hU hW hP hK hD hN⟩⟩ rfl rfl hl.1 rfl (lv_room (Nat.le_of_ble_eq_true rfl)) dX7_goTold_149 ⟨Nat.zero_le _, Nat.zero_le _⟩) hS (fun q _ h => h) (fun q h => h) (fun F297 t H1 locs ht hvm hw hB hz1 hk1 hS => ?_)
        obtain ⟨hP, hK1⟩ := hB
        rw [ht] at hP
        generalize H1 = H at hP hS ⊢
        obtain ⟨h298, h300, hI, hfr1, hzf, h299⟩ := hw
        have oY301 : F297 a0 = .inr (7, y_fl A z291 q292) := (hfr1 _ (by rw [ha0]; decide)).trans oY293
        have hfr : ∀ b, K b ∉ [9, 62, 64] → F297 b = F b := fun b hb9 => (hfr1 b (fun q => hb9 (s_sub (by decide) q))).trans (hfr b hb9)
        obtain ⟨f302, o303, b304⟩ := y_op12 hI
        have h299 : ((∀ j : Int, 0 ≤ j → j ≠ 8 * (y_c f275 387).toInt + 3 → y_c f302 j = y_c f275 j) ∧ (v295.toInt = 0 → y_c f302 (8 * (y_c f275 387).toInt + 3) = r285)) := by have q9 := h299; rw [y_atE o290, y_atE o303, y_fiZ oY293 (k := 5) (by decide), ← ep296_5] at q9; exact q9
        rw [hn278] at h299
        have hn305 : (y_c f302 387).toInt = nn := by rw [h299.1 387 (by omega) (by omega)]; exact hn278
        have hfr306 : ∀ j : Int, 0 ≤ j → (j < 8 * nn ∨ 8 * nn + 8 ≤ j) → y_c f302 j = y_c f1 j := fun j h0 h1 => (h299.1 j h0 (by omega)).trans (hfr279 j h0 h1)
        have h307 : (y_c f302 (8 * nn)).toInt = (y_c f275 (8 * nn)).toInt := (congrArg Int32.toInt (h299.1 _ (by omega) (by omega)))
        have h308 : (y_c f302 (8 * nn + 2)).toInt = (y_c f275 (8 * nn + 2)).toInt := (congrArg Int32.toInt (h299.1 _ (by omega) (by omega)))
        have h309 : v295.toInt = 0 → (y_c f302 (8 * nn + 3)).toInt = r285.toInt := (fun h9 => (congrArg (fun i => (y_c f302 i).toInt) (show 8 * nn + 3 = 8 * nn + 3 by omega)).trans ((congrArg Int32.toInt (h299.2 h9)).trans rfl))
        have h310 : (y_c f302 (8 * nn + 5)).toInt = (y_c f275 (8 * nn + 5)).toInt := (congrArg Int32.toInt (h299.1 _ (by omega) (by omega)))
        exact W.vret hx hb hr (fun t ht hW => ⟨⟨F297, rfl, ⟨trivial, trivial, hI, hfr, fun k hk => by rw [y_fiZ oY301 (s_sub (by decide) hk), y_fiZ oY0 (s_sub (by decide) hk)]; exact hz0 k hk, (by rw [y_fiZ oY0 (k := 5) (by decide), ← eF_5, y_fiZ oY301 (k := 5) (by decide), ← ev295, y_atE o2, y_atE o303]; rw [← hnn]; exact ⟨by omega, hfr306, by omega, by omega⟩)⟩, by rw [ht]; exact hP, va_K.moved hW.alike hK⟩, hS.F ht⟩) hS.2.2 dX7_goTold_152
    · have c173 := mt (ax_eq (n := 0) (by decide)).mpr c173
      exact W.vret hx hb hr (fun t ht hW => ⟨⟨F163, rfl, ⟨trivial, trivial, hI, hfr, fun k hk => by rw [y_fiZ oY166 (s_sub (by decide) hk), y_fiZ oY0 (s_sub (by decide) hk)]; exact hz0 k hk, (by rw [y_fiZ oY0 (k := 5) (by decide), ← eF_5, y_fiZ oY166 (k := 5) (by decide), ← ev171, y_atE o2, y_atE o169]; rw [← hnn]; exact ⟨by omega, h159, by omega, by omega⟩)⟩, by rw [ht]; exact hP, va_K.moved hW.alike hK⟩, hS.F ht⟩) hS.2.2 dX7_goTold_106

set_option maxHeartbeats 4000000 in
set_option maxRecDepth 100000 in
theorem y_X7_lineTold (l : Launch) (dC : Nat → ClassId) (dI : Nat → Nat → Nat) (sz : Nat) {L : List Nat} {K : Nat → Nat} {cs : Nat → ClassId} (hLK : ∀ a {k : Nat}, K a = k → k ≠ 0 → a ∈ L) (A : Nat → Nat) (hA : y_A K A) (F : Nat → va_E) (a0 : Nat) (x1 : Int32) (ha0 : K a0 = 9) (hI : y_I K cs A F) (hg9 : ((y_c (y_at F (A 12)) 387).toInt ≤ 39 ∧ (y_fi F a0 5).toInt = 0)) : Met l yX7_lineTold (Cond.code yX7_lineTold cX7_lineTold 4 none :: T0) ({ frames := 6, cells := 0, slots := 0, locals := 128 }) (va_Pc [.ref a0, .int x1] (s_W dC dI sz L F [(cs 0, .int), (cs 1, .byte), (cs 2, .long), (cs 3, .object RX5), (cs 4, .object RX4), (cs 5, .array .int), (cs 6, .char), (cs 7, .boolean)])) (va_Qv (fun (G : Nat → va_E) => True ∧ True ∧ y_I K cs A G ∧ (∀ b, K b ∉ [9, 62, 64] → G b = F b) ∧ (∀ k, k ∈ ([1, 3, 7, 8, 15, 16, 19, 25, 26, 27, 31, 32] : List Nat) → y_fi G a0 k = y_fi F a0 k) ∧ (((y_fi F a0 5).toInt = 0 ∨ ¬ (y_fi G a0 5).toInt = 0) ∧ (∀ j : Int, 0 ≤ j → j < 8 * (y_c (y_at F (A 12)) 387).toInt → y_c (y_at G (A 12)) j = y_c (y_at F (A 12)) j) ∧ (∀ j : Int, 8 * (y_c (y_at F (A 12)) 387).toInt + 8 ≤ j → j ≠ 387 → y_c (y_at G (A 12)) j = y_c (y_at F (A 12)) j) ∧ ((y_fi G a0 5).toInt = 0 → (y_c (y_at G (A 12)) 387).toInt = (y_c (y_at F (A 12)) 387).toInt + 1 ∧ y_rg (y_at G (A 12)) (y_c (y_at F (A 12)) 387).toInt))) (fun (G : Nat → va_E) (t : State) => va_P (dC, dI) vwCl (va_pl L G) t.heap ∧ va_K (dC, dI) vwCl [(cs 0, .int), (cs 1, .byte), (cs 2, .long), (cs 3, .object RX5), (cs 4, .object RX4), (cs 5, .array .int), (cs 6, .char), (cs 7, .boolean)] t) (fun q => q ∈ L)) 0 0 (fun q => q ∈ L) := by
  refine Met.ofW (cc := cX7_lineTold) (maxL := 4) (ret := none) (by decide) rfl ?_
  intro p e s m args below meth c s₁ B hml hv
  obtain ⟨rfl, hsz, hP, hK, hD, hN⟩ := hv
  have hx := B.exec
  have hb := B.bytes
  have hr := B.returns
  have hts : ∀ w ∈ T0, w.before _ s = true := fun w h => atoms_spec (ws := Cond.code yX7_lineTold cX7_lineTold 4 none :: T0) B.pre w (List.mem_cons_of_mem _ h)
  have hown : s.vm.findClass RX7 = some m.cls := findClass_of_methodNamed B.named
  have hlocks := B.notSynchronized
  have hS : va_S (fun q => q ∈ L) s.heap s.heap [] := va_S.rf
  have hfr : ∀ b, K b ∉ [9, 62, 64] → F b = F b := fun _ _ => rfl
  have hl := lv_entry ([.ref a0, .int x1]) (n := 4) (Nat.le_of_ble_eq_true rfl)
  rw [lg_entry_eq]
  generalize (lg_sl ([.ref a0, .int x1]) ++ List.replicate (4 - (lg_sl ([.ref a0, .int x1])).length) Slot.unset).toArray = ls at hl ⊢
  have hl : lv_has ls 4 [(0, .ref a0), (1, .int x1)] := hl
  refine s_gen hP hS (fun H locs hP hS => ?_)
  obtain ⟨z0, q0, oY0, bz0⟩ := y_opY hI ha0
  have hz0 : ∀ k, k ∈ ([1, 3, 7, 8, 15, 16, 19, 25, 26, 27, 31, 32] : List Nat) → z0 k = z0 k := fun _ _ => rfl
  obtain ⟨f1, o2, b3⟩ := y_op12 hI
  obtain ⟨v4, ev4⟩ : ∃ y : Int32, y = z0 5 := ⟨_, rfl⟩
  have eF_5 := ev4
  have hg9 : ((y_c f1 387).toInt ≤ 39 ∧ v4.toInt = 0) := by have q9 := hg9; rw [y_atE o2, y_fiZ oY0 (k := 5) (by decide), ← ev4] at q9; exact q9
  obtain ⟨nn, hnn⟩ : ∃ n : Int, n = (y_c f1 387).toInt := ⟨_, rfl⟩
  have hnb : 0 ≤ (y_c f1 387).toInt ∧ (y_c f1 387).toInt ≤ 40 := b3
  rw [← hnn] at hnb
  rw [← hnn] at hg9
  refine th_join (fun g H locs => ∃ (G : Nat → va_E) (ls : Array Slot), g = F0 m 147 ls [] ∧ lv_has ls 4 [(0, .ref a0)] ∧ va_P (dC, dI) vwCl (va_pl L G) H ∧ va_S (fun q => q ∈ L) s.heap H locs ∧ y_I K cs A G ∧ (∀ b, K b ∉ [9, 62, 64] → G b = F b) ∧ (∀ k, k ∈ ([1, 3, 7, 8, 15, 16, 19, 25, 26, 27, 31, 32] : List Nat) → y_fi G a0 k = z0 k) ∧ (y_c (y_at G (A 12)) 387).toInt = nn ∧ (∀ j : Int, 0 ≤ j → (j < 8 * nn ∨ 8 * nn + 8 ≤ j) → y_c (y_at G (A 12)) j = y_c f1 j) ∧ ((y_fi G a0 5).toInt = 0 → (0 ≤ (y_c (y_at G (A 12)) (8 * nn)).toInt ∧ (y_c (y_at G (A 12)) (8 * nn)).toInt ≤ 15) ∧ (((y_c (y_at G (A 12)) (8 * nn)).toInt = 5 ∨ (y_c (y_at G (A 12)) (8 * nn)).toInt = 6 ∨ 12 ≤ (y_c (y_at G (A 12)) (8 * nn)).toInt) ∨ -4 ≤ (y_c (y_at G (A 12)) (8 * nn + 2)).toInt) ∧ (((y_c (y_at G (A 12)) (8 * nn)).toInt = 5 ∨ (y_c (y_at G (A 12)) (8 * nn)).toInt = 6 ∨ 12 ≤ (y_c (y_at G (A 12)) (8 * nn)).toInt ∨ (y_c (y_at G (A 12)) (8 * nn)).toInt = 0 ∨ (y_c (y_at G (A 12)) (8 * nn)).toInt = 7 ∨ (y_c (y_at G (A 12)) (8 * nn)).toInt = 9 ∨ (y_c (y_at G (A 12)) (8 * nn)).toInt = 11) ∨ -4 ≤ (y_c (y_at G (A 12)) (8 * nn + 3)).toInt) ∧ ((y_c (y_at G (A 12)) (8 * nn)).toInt ≠ 12 ∨ (y_c (y_at G (A 12)) (8 * nn + 5)).toInt = -1000000 ∨ (-4 ≤ (y_c (y_at G (A 12)) (8 * nn + 2)).toInt ∧ -4 ≤ (y_c (y_at G (A 12)) (8 * nn + 3)).toInt))) ∧ v4.toInt = 0) (fun K147 => ?_) ?_
  refine th_join (fun g H locs => ∃ (G : Nat → va_E) (ls : Array Slot) (w5 : Int32), g = F0 m 110 ls [] ∧ lv_has ls 4 [(0, .ref a0), (2, .int w5)] ∧ va_P (dC, dI) vwCl (va_pl L G) H ∧ va_S (fun q => q ∈ L) s.heap H locs ∧ y_I K cs A G ∧ (∀ b, K b ∉ [9, 62, 64] → G b = F b) ∧ (∀ k, k ∈ ([1, 3, 7, 8, 15, 16, 19, 25, 26, 27, 31, 32] : List Nat) → y_fi G a0 k = z0 k) ∧ True ∧ (y_c (y_at G (A 12)) 387).toInt = nn ∧ (∀ j : Int, 0 ≤ j → (j < 8 * nn ∨ 8 * nn + 8 ≤ j) → y_c (y_at G (A 12)) j = y_c f1 j) ∧ ((v4.toInt = 0 ∧ 0 ≤ w5.toInt ∧ w5.toInt ≤ 15) ∧ (y_c (y_at G (A 12)) (8 * nn + 5)).toInt = -1000000 ∧ ((y_fi G a0 5).toInt = 0 → (y_c (y_at G (A 12)) (8 * nn)).toInt = w5.toInt))) (fun K110 => ?_) ?_
  refine th_join (fun g H locs => ∃ (G : Nat → va_E) (ls : Array Slot) (w6 : Int32), g = F0 m 76 ls [] ∧ lv_has ls 4 [(0, .ref a0), (2, .int w6)] ∧ va_P (dC, dI) vwCl (va_pl L G) H ∧ va_S (fun q => q ∈ L) s.heap H locs ∧ y_I K cs A G ∧ (∀ b, K b ∉ [9, 62, 64] → G b = F b) ∧ (∀ k, k ∈ ([1, 3, 7, 8, 15, 16, 19, 25, 26, 27, 31, 32] : List Nat) → y_fi G a0 k = z0 k) ∧ True ∧ (y_c (y_at G (A 12)) 387).toInt = nn ∧ (∀ j : Int, 0 ≤ j → (j < 8 * nn ∨ 8 * nn + 8 ≤ j) → y_c (y_at G (A 12)) j = y_c f1 j) ∧ (v4.toInt = 0 ∧ (y_c (y_at G (A 12)) (8 * nn + 5)).toInt = -1000000 ∧ ((y_fi G a0 5).toInt = 0 → 0 ≤ w6.toInt ∧ w6.toInt ≤ 15))) (fun K76 => ?_) ?_
  · refine lv_iconst (v := 1) hx hb dX7_lineTold_0 (by decide) ?_
    refine lv_istore_n (lv' := [(2, .int 1), (0, .ref a0), (1, .int x1)]) hx hb dX7_lineTold_1 rfl hl (by decide) rfl (fun ls hl => ?_)
    refine th_loop (fun n g H locs => ∃ (G : Nat → va_E) (ls : Array Slot) (w7 : Int32), g = F0 m 2 ls [] ∧ lv_has ls 4 [(0, .ref a0), (1, .int x1), (2, .int w7)] ∧ va_P (dC, dI) vwCl (va_pl L G) H ∧ va_S (fun q => q ∈ L) s.heap H locs ∧ y_I K cs A G ∧ (∀ b, K b ∉ [9, 62, 64] → G b = F b) ∧ (∀ k, k ∈ ([1, 3, 7, 8, 15, 16, 19, 25, 26, 27, 31, 32] : List Nat) → y_fi G a0 k = z0 k) ∧ (1 ≤ w7.toInt ∧ w7.toInt ≤ 7) ∧ (y_c (y_at G (A 12)) 387).toInt = nn ∧ (∀ j : Int, 0 ≤ j → (j < 8 * nn ∨ 8 * nn + 8 ≤ j) → y_c (y_at G (A 12)) j = y_c f1 j) ∧ ((v4.toInt = 0 ∧ (y_fi G a0 5).toInt = 0) ∧ (6 ≤ w7.toInt → (y_c (y_at G (A 12)) (8 * nn + 5)).toInt = -1000000)) ∧ n = (8 - w7.toInt).toNat) _ ⟨F, _, 1, rfl, lv_sub hl [1, 2, 0] rfl, hP, hS, hI, hfr, (fun k hk => by rw [y_fiZ oY0 (s_sub (by decide) hk)]; exact hz0 k hk), (by decide), (by rw [y_atE o2]; exact hnn.symm), (by rw [y_atE o2]; exact (fun j _ _ => rfl)), (by rw [y_fiZ oY0 (k := 5) (by decide), ← ev4, y_atE o2]; omega), rfl⟩ (fun n ih2 g H locs hq => ?_)
    obtain ⟨F12, ls, w7, rfl, hl, hP, hS, hI, hfr, hz0, h8, h9, h10, h11, hn⟩ := hq
    obtain ⟨z13, q14, oY15, bz16⟩ := y_opY hI ha0
    have hz0 : ∀ k, k ∈ ([1, 3, 7, 8, 15, 16, 19, 25, 26, 27, 31, 32] : List Nat) → z13 k = z0 k := fun k hk => (y_fiZ oY15 (s_sub (by decide) hk)).symm.trans (hz0 k hk)
    obtain ⟨f17, o18, b19⟩ := y_op12 hI
    have h9 : (y_c f17 387).toInt = nn := by have q9 := h9; rw [y_atE o18] at q9; exact q9
    have h10 : (∀ j : Int, 0 ≤ j → (j < 8 * nn ∨ 8 * nn + 8 ≤ j) → y_c f17 j = y_c f1 j) := by have q9 := h10; rw [y_atE o18, y_atE o2] at q9; exact q9
    obtain ⟨v20, ev20⟩ : ∃ y : Int32, y = z13 5 := ⟨_, rfl⟩
    have h11 : ((v4.toInt = 0 ∧ v20.toInt = 0) ∧ (6 ≤ w7.toInt → (y_c f17 (8 * nn + 5)).toInt = -1000000)) := by have q9 := h11; rw [y_fiZ oY0 (k := 5) (by decide), ← eF_5, y_fiZ oY15 (k := 5) (by decide), ← ev20, y_atE o18] at q9; exact q9
    have hn_20 := hn
    refine lv_iload_n hx hb dX7_lineTold_2 rfl (lv_at hl 2 rfl) ?_
    refine lv_bipush (v := 7) hx hb dX7_lineTold_3 (by decide) ?_
    refine lv_icmp_ge (tgt := 21) hx hb dX7_lineTold_5 (by decide) (fun c21 => ?_) (fun c21 => ?_)
    · have c21 := (ax_ge (n := 7) (by decide)).mp c21
      refine lv_aload_n hx hb dX7_lineTold_21 rfl (lv_at hl 0 rfl) ?_
      refine lv_bipush (v := 7) hx hb dX7_lineTold_22 (by decide) ?_
      refine lv_iload_n hx hb dX7_lineTold_24 rfl (lv_at hl 1 rfl) ?_
      have ep22_5 := ev20
      refine va_callv (va_runV (As := [.int 7, .int x1]) (rest := []) ⟨hx, hb, hml, hown, hts⟩ (y_X7_lays l dC dI H.size hLK A hA F12 a0 7 x1 ha0 (by decide) hI) (cwV 2 hts (ax_gV T_1115 T_1117 T_1118 T_265 T_1116) rfl rfl rfl (by decide +kernel) ⟨Nat.le_of_ble_eq_true rfl, Nat.le_of_ble_eq_true rfl⟩) ⟨fun a U g mk q => ⟨q.1, s_pc rfl rfl q.2⟩, s_recv hK hP (hLK _ ha0 (by decide)) (ci := 7) rfl oY15, fun U hU hW => ⟨rfl, s_pw hU hW hP hK hD hN⟩⟩ rfl rfl hl.1 rfl (lv_room (Nat.le_of_ble_eq_true rfl)) dX7_lineTold_25 ⟨Nat.zero_le _, Nat.zero_le _⟩) hS (fun q _ h => h) (fun q h => h) (fun F23 t H1 locs ht hvm hw hB hz1 hk1 hS => ?_)
      obtain ⟨hP, hK1⟩ := hB
      rw [ht] at hP
      generalize H1 = H at hP hS ⊢
      obtain ⟨h24, h26, hI, hfr1, hzf, h25⟩ := hw
      have oY27 : F23 a0 = .inr (7, y_fl A z13 q14) := (hfr1 _ (by rw [ha0]; decide)).trans oY15
      have hfr : ∀ b, K b ∉ [9, 62, 64] → F23 b = F b := fun b hb9 => (hfr1 b (fun q => hb9 (s_sub (by decide) q))).trans (hfr b hb9)
      obtain ⟨f28, o29, b30⟩ := y_op12 hI
      have h25 : ((∀ j : Int, 0 ≤ j → j ≠ 8 * (y_c f17 387).toInt + 7 → y_c f28 j = y_c f17 j) ∧ (v20.toInt = 0 → y_c f28 (8 * (y_c f17 387).toInt + 7) = x1)) := by have q9 := h25; rw [y_atE o18, y_atE o29, y_fiZ oY15 (k := 5) (by decide), ← ep22_5] at q9; exact q9
      rw [h9] at h25
      have hn31 : (y_c f28 387).toInt = nn := by rw [h25.1 387 (by omega) (by omega)]; exact h9
      have hfr32 : ∀ j : Int, 0 ≤ j → (j < 8 * nn ∨ 8 * nn + 8 ≤ j) → y_c f28 j = y_c f1 j := fun j h0 h1 => (h25.1 j h0 (by omega)).trans (h10 j h0 h1)
      have h33 : (y_c f28 (8 * nn)).toInt = (y_c f17 (8 * nn)).toInt := (congrArg Int32.toInt (h25.1 _ (by omega) (by omega)))
      have h34 : (y_c f28 (8 * nn + 2)).toInt = (y_c f17 (8 * nn + 2)).toInt := (congrArg Int32.toInt (h25.1 _ (by omega) (by omega)))
      have h35 : (y_c f28 (8 * nn + 3)).toInt = (y_c f17 (8 * nn + 3)).toInt := (congrArg Int32.toInt (h25.1 _ (by omega) (by omega)))
      have h36 : (y_c f28 (8 * nn + 5)).toInt = (y_c f17 (8 * nn + 5)).toInt := (congrArg Int32.toInt (h25.1 _ (by omega) (by omega)))
      refine lv_aload_n hx hb dX7_lineTold_28 rfl (lv_at hl 0 rfl) ?_
      refine va_calli (va_runV (As := []) (rest := []) ⟨hx, hb, hml, hown, hts⟩ (y_X7_ownHere l dC dI H.size hLK A hA F23 a0 ha0 hI) (cwV 0 hts (ax_gV T_283 T_284 T_285 T_265 T_25) rfl rfl rfl (by decide +kernel) ⟨Nat.le_of_ble_eq_true rfl, Nat.le_of_ble_eq_true rfl⟩) ⟨fun a U g mk q => ⟨q.1, s_pc rfl rfl q.2⟩, s_recv hK hP (hLK _ ha0 (by decide)) (ci := 7) rfl oY27, fun U hU hW => ⟨rfl, s_pw hU hW hP hK hD hN⟩⟩ rfl rfl hl.1 rfl (lv_room (Nat.le_of_ble_eq_true rfl)) dX7_lineTold_29 ⟨Nat.zero_le _, Nat.zero_le _⟩) hS (fun q _ h => h) (fun q h => h) (fun r38 F39 t H1 locs ht hvm hw hB hz1 hk1 hS => ?_)
      obtain ⟨hP, hK1⟩ := hB
      rw [ht] at hP
      generalize H1 = H at hP hS ⊢
      obtain ⟨h40, h42, hI, hfr1, hzf, h41⟩ := hw
      have o43 : F39 (A 12) = .inl (cs 0, 400, .inl f28) := (hfr1 _ (by rw [(y_k12 hA)]; decide)).trans o29
      obtain ⟨z44, q45, oY46, bz47⟩ := y_opY hI ha0
      have hzf : ∀ k, k ∈ ([1, 3, 4, 5, 6, 7, 8, 11, 15, 16, 19, 25, 26, 27, 31, 32] : List Nat) → z44 k = z13 k := fun k hk => by have q9 := hzf k hk; rw [y_fiZ oY46 (s_sub (by decide) hk), y_fiZ oY27 (s_sub (by decide) hk)] at q9; exact q9
      have hz0 : ∀ k, k ∈ ([1, 3, 7, 8, 15, 16, 19, 25, 26, 27, 31, 32] : List Nat) → z44 k = z0 k := fun k hk => (hzf k (s_sub (by decide) hk)).trans (hz0 k hk)
      have ev20 : v20 = z44 5 := ev20.trans (hzf 5 (by decide)).symm
      have hfr : ∀ b, K b ∉ [9, 62, 64] → F39 b = F b := fun b hb9 => (hfr1 b (fun q => hb9 (s_sub (by decide) q))).trans (hfr b hb9)
      refine lv_istore_n (lv' := [(2, .int r38), (0, .ref a0), (1, .int x1)]) hx hb dX7_lineTold_32 rfl hl (by decide) rfl (fun ls hl => ?_)
      refine lv_aload_n hx hb dX7_lineTold_33 rfl (lv_at hl 1 rfl) ?_
      refine th_get (D := (dC, dI)) (ci := 7) (v := .int (z44 5)) (C := RX7) (T := TX7) (N := 34) hx hb hts inX7 hown hK hP (hLK _ ha0 (by decide)) oY46 rfl 5 (by decide) (hts _ T_274) (fun _ h9 => h9) rfl dX7_lineTold_34 ?_
      refine ax_eqi (y := v20) ev20.symm ?_
      refine lv_if_ne (tgt := 76) hx hb dX7_lineTold_37 (by decide) (fun c48 => ?_) (fun c48 => ?_)
      · have c48 := mt (ax_eq (n := 0) (by decide)).mpr c48
        exact K76 _ _ _ ⟨F39, _, r38, rfl, lv_sub hl [1, 0] rfl, hP, hS, hI, hfr, (fun k hk => by rw [y_fiZ oY46 (s_sub (by decide) hk)]; exact hz0 k hk), trivial, (by rw [y_atE o43]; exact hn31), (by rw [y_atE o43]; exact hfr32), (by rw [y_atE o43, y_fiZ oY46 (k := 5) (by decide), ← ev20]; omega)⟩
      · have c48 := (ax_eq (n := 0) (by decide)).mp c48
        refine lv_iload_n hx hb dX7_lineTold_40 rfl (lv_at hl 0 rfl) ?_
        refine lv_i2l hx hb dX7_lineTold_41 rfl ?_
        refine lv_topl (fun v49 ev49 => ?_)
        have qv49 : v49.toInt = r38.toInt := y_i2l ev49
        refine lv_lconst (v := 0) hx hb dX7_lineTold_42 (by decide) ?_
        refine lv_ldc2 hx hb hown (hts _ T_1256) dX7_lineTold_43 ?_
        refine va_calli (va_runS (As := [.long v49, .long 0, .long 15]) (rest := []) ⟨hx, hb, hml, hown, hts⟩ (y_X7_isIn l dC dI H.size F39 v49 0 15) (cwS 3 hts (ax_gS T_267 T_268 T_265 T_21) rfl rfl rfl (by decide +kernel) ⟨Nat.le_of_ble_eq_true rfl, Nat.le_of_ble_eq_true rfl⟩) ⟨fun a U g mk q => ⟨q.1, s_pc rfl rfl q.2⟩, fun U hU hW => ⟨rfl, s_pw hU hW hP hK hD hN⟩⟩ rfl rfl hl.1 rfl (lv_room (Nat.le_of_ble_eq_true rfl)) dX7_lineTold_46 ⟨Nat.zero_le _, Nat.zero_le _⟩) hS (fun q _ h => h) (fun q h => h) (fun r51 F52 t H1 locs ht hvm hw hB hz1 hk1 hS => ?_)
        obtain ⟨hP, hK1⟩ := hB
        rw [ht] at hP
        generalize H1 = H at hP hS ⊢
        obtain ⟨h53, h55, hG9, h54⟩ := hw
        subst hG9
        have h54 : ((r51.toInt = 0 ∧ (v49.toInt < 0 ∨ 15 < v49.toInt)) ∨ (r51.toInt = 1 ∧ 0 ≤ v49.toInt ∧ v49.toInt ≤ 15)) := by have q9 := h54; exact q9
        refine lv_if_ne (tgt := 76) hx hb dX7_lineTold_49 (by decide) (fun c56 => ?_) (fun c56 => ?_)
        · have c56 := mt (ax_eq (n := 0) (by decide)).mpr c56
          exact K76 _ _ _ ⟨F39, _, r38, rfl, lv_sub hl [1, 0] rfl, hP, hS, hI, hfr, (fun k hk => by rw [y_fiZ oY46 (s_sub (by decide) hk)]; exact hz0 k hk), trivial, (by rw [y_atE o43]; exact hn31), (by rw [y_atE o43]; exact hfr32), (by rw [y_atE o43, y_fiZ oY46 (k := 5) (by decide), ← ev20]; omega)⟩
        · have c56 := (ax_eq (n := 0) (by decide)).mp c56
          refine lv_aload_n hx hb dX7_lineTold_52 rfl (lv_at hl 1 rfl) ?_
          refine lv_iconst (v := 1) hx hb dX7_lineTold_53 (by decide) ?_
          refine lv_aload_n hx hb dX7_lineTold_54 rfl (lv_at hl 1 rfl) ?_
          refine va_calli (va_runV (As := []) (rest := [.int 1, .ref a0]) ⟨hx, hb, hml, hown, hts⟩ (y_X7_look l dC dI H.size hLK A hA F39 a0 ha0 hI) (cwV 0 hts (ax_gV T_275 T_276 T_277 T_265 T_22) rfl rfl rfl (by decide +kernel) ⟨Nat.le_of_ble_eq_true rfl, Nat.le_of_ble_eq_true rfl⟩) ⟨fun a U g mk q => ⟨q.1, s_pc rfl rfl q.2⟩, s_recv hK hP (hLK _ ha0 (by decide)) (ci := 7) rfl oY46, fun U hU hW => ⟨rfl, s_pw hU hW hP hK hD hN⟩⟩ rfl rfl hl.1 rfl (lv_room (Nat.le_of_ble_eq_true rfl)) dX7_lineTold_55 ⟨Nat.zero_le _, Nat.zero_le _⟩) hS (fun q _ h => h) (fun q h => h) (fun r58 F59 t H1 locs ht hvm hw hB hz1 hk1 hS => ?_)
          obtain ⟨hP, hK1⟩ := hB
          rw [ht] at hP
          generalize H1 = H at hP hS ⊢
          obtain ⟨h60, h62, hI, hfr1, hzf, h61⟩ := hw
          have o63 : F59 (A 12) = .inl (cs 0, 400, .inl f28) := (hfr1 _ (by rw [(y_k12 hA)]; decide)).trans o43
          obtain ⟨z64, q65, oY66, bz67⟩ := y_opY hI ha0
          have hzf : ∀ k, k ∈ ([1, 3, 4, 5, 6, 7, 8, 11, 15, 16, 19, 25, 26, 27, 31, 32] : List Nat) → z64 k = z44 k := fun k hk => by have q9 := hzf k hk; rw [y_fiZ oY66 (s_sub (by decide) hk), y_fiZ oY46 (s_sub (by decide) hk)] at q9; exact q9
          have hz0 : ∀ k, k ∈ ([1, 3, 7, 8, 15, 16, 19, 25, 26, 27, 31, 32] : List Nat) → z64 k = z0 k := fun k hk => (hzf k (s_sub (by decide) hk)).trans (hz0 k hk)
          have ev20 : v20 = z64 5 := ev20.trans (hzf 5 (by decide)).symm
          have hfr : ∀ b, K b ∉ [9, 62, 64] → F59 b = F b := fun b hb9 => (hfr1 b (fun q => hb9 (s_sub (by decide) q))).trans (hfr b hb9)
          obtain ⟨v68, ev68⟩ : ∃ y : Int32, y = z64 2 := ⟨_, rfl⟩
          have qv68 : 0 ≤ v68.toInt ∧ v68.toInt ≤ 1600 := by rw [ev68]; exact y_bY2 bz67
          obtain ⟨v69, ev69⟩ : ∃ y : Int32, y = z64 3 := ⟨_, rfl⟩
          have qv69 : 0 ≤ v69.toInt ∧ v69.toInt ≤ 1600 := by rw [ev69]; exact y_bY3 bz67
          have h61 : (r58.toInt = -1 ∨ v68.toInt < v69.toInt) := by have q9 := h61; rw [y_fiZ oY66 (k := 2) (by decide), ← ev68, y_fiZ oY66 (k := 3) (by decide), ← ev69] at q9; exact q9
          refine lv_iconst (v := (-1)) hx hb dX7_lineTold_58 (by decide) ?_
          refine lv_icmp_ne (tgt := 69) hx hb dX7_lineTold_59 (by decide) (fun c70 => ?_) (fun c70 => ?_)
          · have c70 := mt (ax_eq (n := (-1)) (by decide)).mpr c70
            refine lv_aload_n hx hb dX7_lineTold_69 rfl (lv_at hl 1 rfl) ?_
            refine th_get (D := (dC, dI)) (ci := 7) (v := .int (z64 2)) (C := RX7) (T := TX7) (N := 34) hx hb hts inX7 hown hK hP (hLK _ ha0 (by decide)) oY66 rfl 2 (by decide) (hts _ T_272) (fun _ h9 => h9) rfl dX7_lineTold_70 ?_
            refine ax_eqi (y := v68) ev68.symm ?_
            refine va_callv (va_runV (As := [.int 1, .int v68]) (rest := []) ⟨hx, hb, hml, hown, hts⟩ (y_X7_fail l dC dI H.size hLK A hA F59 a0 1 v68 ha0 (by decide) hI) (cwV 2 hts (ax_gV T_290 T_291 T_292 T_265 T_27) rfl rfl rfl (by decide +kernel) ⟨Nat.le_of_ble_eq_true rfl, Nat.le_of_ble_eq_true rfl⟩) ⟨fun a U g mk q => ⟨q.1, s_pc rfl rfl q.2⟩, s_recv hK hP (hLK _ ha0 (by decide)) (ci := 7) rfl oY66, fun U hU hW => ⟨rfl, s_pw hU hW hP hK hD hN⟩⟩ rfl rfl hl.1 rfl (lv_room (Nat.le_of_ble_eq_true rfl)) dX7_lineTold_73 ⟨Nat.zero_le _, Nat.zero_le _⟩) hS (fun q _ h => h) (fun q h => h) (fun F72 t H1 locs ht hvm hw hB hz1 hk1 hS => ?_)
            obtain ⟨hP, hK1⟩ := hB
            rw [ht] at hP
            generalize H1 = H at hP hS ⊢
            obtain ⟨h73, h75, hI, hfr1, hzf, h74⟩ := hw
            have o76 : F72 (A 12) = .inl (cs 0, 400, .inl f28) := (hfr1 _ (by rw [(y_k12 hA)]; decide)).trans o63
            obtain ⟨z77, q78, oY79, bz80⟩ := y_opY hI ha0
            have hzf : ∀ k, k ∈ ([1, 2, 3, 4, 7, 8, 11, 15, 16, 19, 25, 26, 27, 31, 32] : List Nat) → z77 k = z64 k := fun k hk => by have q9 := hzf k hk; rw [y_fiZ oY79 (s_sub (by decide) hk), y_fiZ oY66 (s_sub (by decide) hk)] at q9; exact q9
            have hz0 : ∀ k, k ∈ ([1, 3, 7, 8, 15, 16, 19, 25, 26, 27, 31, 32] : List Nat) → z77 k = z0 k := fun k hk => (hzf k (s_sub (by decide) hk)).trans (hz0 k hk)
            have ev68 : v68 = z77 2 := ev68.trans (hzf 2 (by decide)).symm
            have ev69 : v69 = z77 3 := ev69.trans (hzf 3 (by decide)).symm
            have hfr : ∀ b, K b ∉ [9, 62, 64] → F72 b = F b := fun b hb9 => (hfr1 b (fun q => hb9 (s_sub (by decide) q))).trans (hfr b hb9)
            obtain ⟨v81, ev81⟩ : ∃ y : Int32, y = z77 5 := ⟨_, rfl⟩
            have h74 : (¬ v81.toInt = 0) := by have q9 := h74; rw [y_fiZ oY79 (k := 5) (by decide), ← ev81] at q9; exact q9
            exact K76 _ _ _ ⟨F72, _, r38, rfl, lv_sub hl [1, 0] rfl, hP, hS, hI, hfr, (fun k hk => by rw [y_fiZ oY79 (s_sub (by decide) hk)]; exact hz0 k hk), trivial, (by rw [y_atE o76]; exact hn31), (by rw [y_atE o76]; exact hfr32), (by rw [y_atE o76, y_fiZ oY79 (k := 5) (by decide), ← ev81]; omega)⟩
          · have c70 := (ax_eq (n := (-1)) (by decide)).mp c70
            refine lv_aload_n hx hb dX7_lineTold_62 rfl (lv_at hl 1 rfl) ?_
            refine th_get (D := (dC, dI)) (ci := 7) (v := .int (z64 3)) (C := RX7) (T := TX7) (N := 34) hx hb hts inX7 hown hK hP (hLK _ ha0 (by decide)) oY66 rfl 3 (by decide) (hts _ T_273) (fun _ h9 => h9) rfl dX7_lineTold_63 ?_
            refine ax_eqi (y := v69) ev69.symm ?_
            refine lv_goto (tgt := 73) hx hb dX7_lineTold_66 (by decide) ?_
            refine va_callv (va_runV (As := [.int 1, .int v69]) (rest := []) ⟨hx, hb, hml, hown, hts⟩ (y_X7_fail l dC dI H.size hLK A hA F59 a0 1 v69 ha0 (by decide) hI) (cwV 2 hts (ax_gV T_290 T_291 T_292 T_265 T_27) rfl rfl rfl (by decide +kernel) ⟨Nat.le_of_ble_eq_true rfl, Nat.le_of_ble_eq_true rfl⟩) ⟨fun a U g mk q => ⟨q.1, s_pc rfl rfl q.2⟩, s_recv hK hP (hLK _ ha0 (by decide)) (ci := 7) rfl oY66, fun U hU hW => ⟨rfl, s_pw hU hW hP hK hD hN⟩⟩ rfl rfl hl.1 rfl (lv_room (Nat.le_of_ble_eq_true rfl)) dX7_lineTold_73 ⟨Nat.zero_le _, Nat.zero_le _⟩) hS (fun q _ h => h) (fun q h => h) (fun F83 t H1 locs ht hvm hw hB hz1 hk1 hS => ?_)
            obtain ⟨hP, hK1⟩ := hB
            rw [ht] at hP
            generalize H1 = H at hP hS ⊢
            obtain ⟨h84, h86, hI, hfr1, hzf, h85⟩ := hw
            have o87 : F83 (A 12) = .inl (cs 0, 400, .inl f28) := (hfr1 _ (by rw [(y_k12 hA)]; decide)).trans o63
            obtain ⟨z88, q89, oY90, bz91⟩ := y_opY hI ha0
            have hzf : ∀ k, k ∈ ([1, 2, 3, 4, 7, 8, 11, 15, 16, 19, 25, 26, 27, 31, 32] : List Nat) → z88 k = z64 k := fun k hk => by have q9 := hzf k hk; rw [y_fiZ oY90 (s_sub (by decide) hk), y_fiZ oY66 (s_sub (by decide) hk)] at q9; exact q9
            have hz0 : ∀ k, k ∈ ([1, 3, 7, 8, 15, 16, 19, 25, 26, 27, 31, 32] : List Nat) → z88 k = z0 k := fun k hk => (hzf k (s_sub (by decide) hk)).trans (hz0 k hk)
            have ev68 : v68 = z88 2 := ev68.trans (hzf 2 (by decide)).symm
            have ev69 : v69 = z88 3 := ev69.trans (hzf 3 (by decide)).symm
            have hfr : ∀ b, K b ∉ [9, 62, 64] → F83 b = F b := fun b hb9 => (hfr1 b (fun q => hb9 (s_sub (by decide) q))).trans (hfr b hb9)
            obtain ⟨v92, ev92⟩ : ∃ y : Int32, y = z88 5 := ⟨_, rfl⟩
            have h85 : (¬ v92.toInt = 0) := by have q9 := h85; rw [y_fiZ oY90 (k := 5) (by decide), ← ev92] at q9; exact q9
            exact K76 _ _ _ ⟨F83, _, r38, rfl, lv_sub hl [1, 0] rfl, hP, hS, hI, hfr, (fun k hk => by rw [y_fiZ oY90 (s_sub (by decide) hk)]; exact hz0 k hk), trivial, (by rw [y_atE o87]; exact hn31), (by rw [y_atE o87]; exact hfr32), (by rw [y_atE o87, y_fiZ oY90 (k := 5) (by decide), ← ev92]; omega)⟩
    · have c21 := mt (ax_ge (n := 7) (by decide)).mpr c21
      refine lv_aload_n hx hb dX7_lineTold_8 rfl (lv_at hl 0 rfl) ?_
      refine lv_iload_n hx hb dX7_lineTold_9 rfl (lv_at hl 2 rfl) ?_
      refine lv_ldc (v := (-1000000)) hx hb hown (hts _ T_316) dX7_lineTold_10 ?_
      have ep93_5 := ev20
      refine va_callv (va_runV (As := [.int w7, .int (-1000000)]) (rest := []) ⟨hx, hb, hml, hown, hts⟩ (y_X7_lays l dC dI H.size hLK A hA F12 a0 w7 (-1000000) ha0 (⟨by omega, by omega⟩) hI) (cwV 2 hts (ax_gV T_1115 T_1117 T_1118 T_265 T_1116) rfl rfl rfl (by decide +kernel) ⟨Nat.le_of_ble_eq_true rfl, Nat.le_of_ble_eq_true rfl⟩) ⟨fun a U g mk q => ⟨q.1, s_pc rfl rfl q.2⟩, s_recv hK hP (hLK _ ha0 (by decide)) (ci := 7) rfl oY15, fun U hU hW => ⟨rfl, s_pw hU hW hP hK hD hN⟩⟩ rfl rfl hl.1 rfl (lv_room (Nat.le_of_ble_eq_true rfl)) dX7_lineTold_12 ⟨Nat.zero_le _, Nat.zero_le _⟩) hS (fun q _ h => h) (fun q h => h) (fun F94 t H1 locs ht hvm hw hB hz1 hk1 hS => ?_)
      obtain ⟨hP, hK1⟩ := hB
      rw [ht] at hP
      generalize H1 = H at hP hS ⊢
      obtain ⟨h95, h97, hI, hfr1, hzf, h96⟩ := hw
      have oY98 : F94 a0 = .inr (7, y_fl A z13 q14) := (hfr1 _ (by rw [ha0]; decide)).trans oY15
      have hfr : ∀ b, K b ∉ [9, 62, 64] → F94 b = F b := fun b hb9 => (hfr1 b (fun q => hb9 (s_sub (by decide) q))).trans (hfr b hb9)
      obtain ⟨f99, o100, b101⟩ := y_op12 hI
      have h96 : ((∀ j : Int, 0 ≤ j → j ≠ 8 * (y_c f17 387).toInt + w7.toInt → y_c f99 j = y_c f17 j) ∧ (v20.toInt = 0 → y_c f99 (8 * (y_c f17 387).toInt + w7.toInt) = (-1000000))) := by have q9 := h96; rw [y_atE o18, y_atE o100, y_fiZ oY15 (k := 5) (by decide), ← ep93_5] at q9; exact q9
      rw [h9] at h96
      have hn102 : (y_c f99 387).toInt = nn := by rw [h96.1 387 (by omega) (by omega)]; exact h9
      have hfr103 : ∀ j : Int, 0 ≤ j → (j < 8 * nn ∨ 8 * nn + 8 ≤ j) → y_c f99 j = y_c f1 j := fun j h0 h1 => (h96.1 j h0 (by omega)).trans (h10 j h0 h1)
      have h104 : w7.toInt = 0 → v20.toInt = 0 → (y_c f99 (8 * nn)).toInt = (-1000000) := fun h8 => (fun h9 => (congrArg (fun i => (y_c f99 i).toInt) (show 8 * nn = 8 * nn + w7.toInt by omega)).trans ((congrArg Int32.toInt (h96.2 h9)).trans (by decide)))
      have h105 : w7.toInt ≠ 0 → (y_c f99 (8 * nn)).toInt = (y_c f17 (8 * nn)).toInt := fun h8 => (congrArg Int32.toInt (h96.1 _ (by omega) (by omega)))
      have h106 : w7.toInt = 2 → v20.toInt = 0 → (y_c f99 (8 * nn + 2)).toInt = (-1000000) := fun h8 => (fun h9 => (congrArg (fun i => (y_c f99 i).toInt) (show 8 * nn + 2 = 8 * nn + w7.toInt by omega)).trans ((congrArg Int32.toInt (h96.2 h9)).trans (by decide)))
      have h107 : w7.toInt ≠ 2 → (y_c f99 (8 * nn + 2)).toInt = (y_c f17 (8 * nn + 2)).toInt := fun h8 => (congrArg Int32.toInt (h96.1 _ (by omega) (by omega)))
      have h108 : w7.toInt = 3 → v20.toInt = 0 → (y_c f99 (8 * nn + 3)).toInt = (-1000000) := fun h8 => (fun h9 => (congrArg (fun i => (y_c f99 i).toInt) (show 8 * nn + 3 = 8 * nn + w7.toInt by omega)).trans ((congrArg Int32.toInt (h96.2 h9)).trans (by decide)))
      have h109 : w7.toInt ≠ 3 → (y_c f99 (8 * nn + 3)).toInt = (y_c f17 (8 * nn + 3)).toInt := fun h8 => (congrArg Int32.toInt (h96.1 _ (by omega) (by omega)))
      have h110 : w7.toInt = 5 → v20.toInt = 0 → (y_c f99 (8 * nn + 5)).toInt = (-1000000) := fun h8 => (fun h9 => (congrArg (fun i => (y_c f99 i).toInt) (show 8 * nn + 5 = 8 * nn + w7.toInt by omega)).trans ((congrArg Int32.toInt (h96.2 h9)).trans (by decide)))
      have h111 : w7.toInt ≠ 5 → (y_c f99 (8 * nn + 5)).toInt = (y_c f17 (8 * nn + 5)).toInt := fun h8 => (congrArg Int32.toInt (h96.1 _ (by omega) (by omega)))
      obtain ⟨v112, ev112⟩ : ∃ y : Int32, w7 + 1 = y := ⟨_, rfl⟩
      have qv112 : v112.toInt = w7.toInt + 1 := by rw [← ev112]; exact th_add rfl (by decide) ⟨by omega, by omega⟩
      refine lv_iinc (v := v112) (lv' := [(2, .int v112), (0, .ref a0), (1, .int x1)]) hx hb dX7_lineTold_15 hl (k := 2) rfl ev112 (by decide) rfl (fun ls hl => ?_)
      refine lv_goto (tgt := 2) hx hb dX7_lineTold_18 (by decide) ?_
      exact ih2 _ _ _ _ (by omega) ⟨F94, _, v112, rfl, lv_sub hl [1, 2, 0] rfl, hP, hS, hI, hfr, (fun k hk => by rw [y_fiZ oY98 (s_sub (by decide) hk)]; exact hz0 k hk), ⟨by omega, by omega⟩, (by rw [y_atE o100]; exact hn102), (by rw [y_atE o100]; exact hfr103), (by rw [y_fiZ oY98 (k := 5) (by decide), ← ev20, y_atE o100]; omega), rfl⟩
  · intro g H locs hq
    obtain ⟨F117, ls, w6, rfl, hl, hP, hS, hI, hfr, hz0, h113, h114, h115, h116⟩ := hq
    obtain ⟨z118, q119, oY120, bz121⟩ := y_opY hI ha0
    have hz0 : ∀ k, k ∈ ([1, 3, 7, 8, 15, 16, 19, 25, 26, 27, 31, 32] : List Nat) → z118 k = z0 k := fun k hk => (y_fiZ oY120 (s_sub (by decide) hk)).symm.trans (hz0 k hk)
    obtain ⟨f122, o123, b124⟩ := y_op12 hI
    have h114 : (y_c f122 387).toInt = nn := by have q9 := h114; rw [y_atE o123] at q9; exact q9
    have h115 : (∀ j : Int, 0 ≤ j → (j < 8 * nn ∨ 8 * nn + 8 ≤ j) → y_c f122 j = y_c f1 j) := by have q9 := h115; rw [y_atE o123, y_atE o2] at q9; exact q9
    obtain ⟨v125, ev125⟩ : ∃ y : Int32, y = z118 5 := ⟨_, rfl⟩
    have h116 : (v4.toInt = 0 ∧ (y_c f122 (8 * nn + 5)).toInt = -1000000 ∧ (v125.toInt = 0 → 0 ≤ w6.toInt ∧ w6.toInt ≤ 15)) := by have q9 := h116; rw [y_fiZ oY0 (k := 5) (by decide), ← eF_5, y_atE o123, y_fiZ oY120 (k := 5) (by decide), ← ev125] at q9; exact q9
    refine lv_aload_n hx hb dX7_lineTold_76 rfl (lv_at hl 0 rfl) ?_
    refine th_get (D := (dC, dI)) (ci := 7) (v := .int (z118 5)) (C := RX7) (T := TX7) (N := 34) hx hb hts inX7 hown hK hP (hLK _ ha0 (by decide)) oY120 rfl 5 (by decide) (hts _ T_274) (fun _ h9 => h9) rfl dX7_lineTold_77 ?_
    refine ax_eqi (y := v125) ev125.symm ?_
    refine lv_if_eq (tgt := 84) hx hb dX7_lineTold_80 (by decide) (fun c126 => ?_) (fun c126 => ?_)
    · have c126 := (ax_eq (n := 0) (by decide)).mp c126
      refine lv_aload_n hx hb dX7_lineTold_84 rfl (lv_at hl 0 rfl) ?_
      refine va_callv (va_runV (As := []) (rest := []) ⟨hx, hb, hml, hown, hts⟩ (y_X7_passes l dC dI H.size hLK A hA F117 a0 ha0 hI) (cwV 0 hts (ax_gV T_1257 T_1259 T_1260 T_265 T_1258) rfl rfl rfl (by decide +kernel) ⟨Nat.le_of_ble_eq_true rfl, Nat.le_of_ble_eq_true rfl⟩) ⟨fun a U g mk q => ⟨q.1, s_pc rfl rfl q.2⟩, s_recv hK hP (hLK _ ha0 (by decide)) (ci := 7) rfl oY120, fun U hU hW => ⟨rfl, s_pw hU hW hP hK hD hN⟩⟩ rfl rfl hl.1 rfl (lv_room (Nat.le_of_ble_eq_true rfl)) dX7_lineTold_85 ⟨Nat.zero_le _, Nat.zero_le _⟩) hS (fun q _ h => h) (fun q h => h) (fun F128 t H1 locs ht hvm hw hB hz1 hk1 hS => ?_)
      obtain ⟨hP, hK1⟩ := hB
      rw [ht] at hP
      generalize H1 = H at hP hS ⊢
      obtain ⟨h129, h131, hI, hfr1, hzf, h130⟩ := hw
      have o132 : F128 (A 12) = .inl (cs 0, 400, .inl f122) := (hfr1 _ (by rw [(y_k12 hA)]; decide)).trans o123
      obtain ⟨z133, q134, oY135, bz136⟩ := y_opY hI ha0
      have hzf : ∀ k, k ∈ ([1, 3, 5, 6, 7, 8, 11, 15, 16, 19, 25, 26, 27, 31, 32] : List Nat) → z133 k = z118 k := fun k hk => by have q9 := hzf k hk; rw [y_fiZ oY135 (s_sub (by decide) hk), y_fiZ oY120 (s_sub (by decide) hk)] at q9; exact q9
      have hz0 : ∀ k, k ∈ ([1, 3, 7, 8, 15, 16, 19, 25, 26, 27, 31, 32] : List Nat) → z133 k = z0 k := fun k hk => (hzf k (s_sub (by decide) hk)).trans (hz0 k hk)
      have ev125 : v125 = z133 5 := ev125.trans (hzf 5 (by decide)).symm
      have hfr : ∀ b, K b ∉ [9, 62, 64] → F128 b = F b := fun b hb9 => (hfr1 b (fun q => hb9 (s_sub (by decide) q))).trans (hfr b hb9)
      refine lv_aload_n hx hb dX7_lineTold_88 rfl (lv_at hl 0 rfl) ?_
      refine lv_iconst (v := 0) hx hb dX7_lineTold_89 (by decide) ?_
      refine lv_iload_n hx hb dX7_lineTold_90 rfl (lv_at hl 1 rfl) ?_
      have ep137_5 := ev125
      refine va_callv (va_runV (As := [.int 0, .int w6]) (rest := []) ⟨hx, hb, hml, hown, hts⟩ (y_X7_lays l dC dI H.size hLK A hA F128 a0 0 w6 ha0 (by decide) hI) (cwV 2 hts (ax_gV T_1115 T_1117 T_1118 T_265 T_1116) rfl rfl rfl (by decide +kernel) ⟨Nat.le_of_ble_eq_true rfl, Nat.le_of_ble_eq_true rfl⟩) ⟨fun a U g mk q => ⟨q.1, s_pc rfl rfl q.2⟩, s_recv hK hP (hLK _ ha0 (by decide)) (ci := 7) rfl oY135, fun U hU hW => ⟨rfl, s_pw hU hW hP hK hD hN⟩⟩ rfl rfl hl.1 rfl (lv_room (Nat.le_of_ble_eq_true rfl)) dX7_lineTold_91 ⟨Nat.zero_le _, Nat.zero_le _⟩) hS (fun q _ h => h) (fun q h => h) (fun F138 t H1 locs ht hvm hw hB hz1 hk1 hS => ?_)
      obtain ⟨hP, hK1⟩ := hB
      rw [ht] at hP
      generalize H1 = H at hP hS ⊢
      obtain ⟨h139, h141, hI, hfr1, hzf, h140⟩ := hw
      have oY142 : F138 a0 = .inr (7, y_fl A z133 q134) := (hfr1 _ (by rw [ha0]; decide)).trans oY135
      have hfr : ∀ b, K b ∉ [9, 62, 64] → F138 b = F b := fun b hb9 => (hfr1 b (fun q => hb9 (s_sub (by decide) q))).trans (hfr b hb9)
      obtain ⟨f143, o144, b145⟩ := y_op12 hI
      have h140 : ((∀ j : Int, 0 ≤ j → j ≠ 8 * (y_c f122 387).toInt + 0 → y_c f143 j = y_c f122 j) ∧ (v125.toInt = 0 → y_c f143 (8 * (y_c f122 387).toInt + 0) = w6)) := by have q9 := h140; rw [y_atE o132, y_atE o144, y_fiZ oY135 (k := 5) (by decide), ← ep137_5] at q9; exact q9
      rw [h114] at h140
      have hn146 : (y_c f143 387).toInt = nn := by rw [h140.1 387 (by omega) (by omega)]; exact h114
      have hfr147 : ∀ j : Int, 0 ≤ j → (j < 8 * nn ∨ 8 * nn + 8 ≤ j) → y_c f143 j = y_c f1 j := fun j h0 h1 => (h140.1 j h0 (by omega)).trans (h115 j h0 h1)
      have h148 : v125.toInt = 0 → (y_c f143 (8 * nn)).toInt = w6.toInt := (fun h9 => (congrArg (fun i => (y_c f143 i).toInt) (show 8 * nn = 8 * nn + 0 by omega)).trans ((congrArg Int32.toInt (h140.2 h9)).trans rfl))
      have h149 : (y_c f143 (8 * nn + 2)).toInt = (y_c f122 (8 * nn + 2)).toInt := (congrArg Int32.toInt (h140.1 _ (by omega) (by omega)))
      have h150 : (y_c f143 (8 * nn + 3)).toInt = (y_c f122 (8 * nn + 3)).toInt := (congrArg Int32.toInt (h140.1 _ (by omega) (by omega)))
      have h151 : (y_c f143 (8 * nn + 5)).toInt = (y_c f122 (8 * nn + 5)).toInt := (congrArg Int32.toInt (h140.1 _ (by omega) (by omega)))
      refine lv_iload_n hx hb dX7_lineTold_94 rfl (lv_at hl 1 rfl) ?_
      have h152 : 0 ≤ w6.toInt ∧ w6.toInt ≤ 15 := ⟨by omega, by omega⟩
      refine va_calli (va_runS (As := [.int w6]) (rest := []) ⟨hx, hb, hml, hown, hts⟩ (y_X7_hasRegister l dC dI H.size F138 w6 (⟨by omega, by omega⟩)) (cwS 1 hts (ax_gS T_1261 T_1263 T_265 T_1262) rfl rfl rfl (by decide +kernel) ⟨Nat.le_of_ble_eq_true rfl, Nat.le_of_ble_eq_true rfl⟩) ⟨fun a U g mk q => ⟨q.1, s_pc rfl rfl q.2⟩, fun U hU hW => ⟨rfl, s_pw hU hW hP hK hD hN⟩⟩ rfl rfl hl.1 rfl (lv_room (Nat.le_of_ble_eq_true rfl)) dX7_lineTold_95 ⟨Nat.zero_le _, Nat.zero_le _⟩) hS (fun q _ h => h) (fun q h => h) (fun r154 F155 t H1 locs ht hvm hw hB hz1 hk1 hS => ?_)
      obtain ⟨hP, hK1⟩ := hB
      rw [ht] at hP
      generalize H1 = H at hP hS ⊢
      obtain ⟨h156, h158, hG9, h157⟩ := hw
      subst hG9
      refine lv_if_eq (tgt := 110) hx hb dX7_lineTold_98 (by decide) (fun c159 => ?_) (fun c159 => ?_)
      · have c159 := (ax_eq (n := 0) (by decide)).mp c159
        exact K110 _ _ _ ⟨F138, _, w6, rfl, lv_sub hl [0, 1] rfl, hP, hS, hI, hfr, (fun k hk => by rw [y_fiZ oY142 (s_sub (by decide) hk)]; exact hz0 k hk), trivial, (by rw [y_atE o144]; exact hn146), (by rw [y_atE o144]; exact hfr147), (by rw [y_atE o144, y_fiZ oY142 (k := 5) (by decide), ← ev125]; omega)⟩
      · have c159 := mt (ax_eq (n := 0) (by decide)).mpr c159
        have h160 := h158 (fun q => c159 (by rw [q]; decide))
        refine lv_aload_n hx hb dX7_lineTold_101 rfl (lv_at hl 0 rfl) ?_
        refine lv_iconst (v := 1) hx hb dX7_lineTold_102 (by decide) ?_
        refine lv_aload_n hx hb dX7_lineTold_103 rfl (lv_at hl 0 rfl) ?_
        have ep161_5 := ev125
        refine va_calli (va_runV (As := []) (rest := [.int 1, .ref a0]) ⟨hx, hb, hml, hown, hts⟩ (y_X7_registerTold l dC dI H.size hLK A hA F138 a0 ha0 hI) (cwV 0 hts (ax_gV T_1264 T_1266 T_1267 T_265 T_1265) rfl rfl rfl (by decide +kernel) ⟨Nat.le_of_ble_eq_true rfl, Nat.le_of_ble_eq_true rfl⟩) ⟨fun a U g mk q => ⟨q.1, s_pc rfl rfl q.2⟩, s_recv hK hP (hLK _ ha0 (by decide)) (ci := 7) rfl oY142, fun U hU hW => ⟨rfl, s_pw hU hW hP hK hD hN⟩⟩ rfl rfl hl.1 rfl (lv_room (Nat.le_of_ble_eq_true rfl)) dX7_lineTold_104 ⟨Nat.zero_le _, Nat.zero_le _⟩) hS (fun q _ h => h) (fun q h => h) (fun r162 F163 t H1 locs ht hvm hw hB hz1 hk1 hS => ?_)
        obtain ⟨hP, hK1⟩ := hB
        rw [ht] at hP
        generalize H1 = H at hP hS ⊢
        obtain ⟨h164, h166, hI, hfr1, hzf, h165⟩ := hw
        have o167 : F163 (A 12) = .inl (cs 0, 400, .inl f143) := (hfr1 _ (by rw [(y_k12 hA)]; decide)).trans o144
        obtain ⟨z168, q169, oY170, bz171⟩ := y_opY hI ha0
        have hzf : ∀ k, k ∈ ([1, 3, 7, 8, 11, 15, 16, 19, 25, 26, 27, 31, 32] : List Nat) → z168 k = z133 k := fun k hk => by have q9 := hzf k hk; rw [y_fiZ oY170 (s_sub (by decide) hk), y_fiZ oY142 (s_sub (by decide) hk)] at q9; exact q9
        have hz0 : ∀ k, k ∈ ([1, 3, 7, 8, 15, 16, 19, 25, 26, 27, 31, 32] : List Nat) → z168 k = z0 k := fun k hk => (hzf k (s_sub (by decide) hk)).trans (hz0 k hk)
        have hfr : ∀ b, K b ∉ [9, 62, 64] → F163 b = F b := fun b hb9 => (hfr1 b (fun q => hb9 (s_sub (by decide) q))).trans (hfr b hb9)
        obtain ⟨v172, ev172⟩ : ∃ y : Int32, y = z168 5 := ⟨_, rfl⟩
        have h165 : ((v125.toInt = 0 ∨ ¬ v172.toInt = 0) ∧ (v172.toInt = 0 → 0 ≤ r162.toInt ∧ r162.toInt ≤ 3)) := by have q9 := h165; rw [y_fiZ oY142 (k := 5) (by decide), ← ep161_5, y_fiZ oY170 (k := 5) (by decide), ← ev172] at q9; exact q9
        have ep173_5 := ev172
        refine va_callv (va_runV (As := [.int 1, .int r162]) (rest := []) ⟨hx, hb, hml, hown, hts⟩ (y_X7_lays l dC dI H.size hLK A hA F163 a0 1 r162 ha0 (by decide) hI) (cwV 2 hts (ax_gV T_1115 T_1117 T_1118 T_265 T_1116) rfl rfl rfl (by decide +kernel) ⟨Nat.le_of_ble_eq_true rfl, Nat.le_of_ble_eq_true rfl⟩) ⟨fun a U g mk q => ⟨q.1, s_pc rfl rfl q.2⟩, s_recv hK hP (hLK _ ha0 (by decide)) (ci := 7) rfl oY170, fun U hU hW => ⟨rfl, s_pw hU hW hP hK hD hN⟩⟩ rfl rfl hl.1 rfl (lv_room (Nat.le_of_ble_eq_true rfl)) dX7_lineTold_107 ⟨Nat.zero_le _, Nat.zero_le _⟩) hS (fun q _ h => h) (fun q h => h) (fun F174 t H1 locs ht hvm hw hB hz1 hk1 hS => ?_)
        obtain ⟨hP, hK1⟩ := hB
        rw [ht] at hP
        generalize H1 = H at hP hS ⊢
        obtain ⟨h175, h177, hI, hfr1, hzf, h176⟩ := hw
        have oY178 : F174 a0 = .inr (7, y_fl A z168 q169) := (hfr1 _ (by rw [ha0]; decide)).trans oY170
        have hfr : ∀ b, K b ∉ [9, 62, 64] → F174 b = F b := fun b hb9 => (hfr1 b (fun q => hb9 (s_sub (by decide) q))).trans (hfr b hb9)
        obtain ⟨f179, o180, b181⟩ := y_op12 hI
        have h176 : ((∀ j : Int, 0 ≤ j → j ≠ 8 * (y_c f143 387).toInt + 1 → y_c f179 j = y_c f143 j) ∧ (v172.toInt = 0 → y_c f179 (8 * (y_c f143 387).toInt + 1) = r162)) := by have q9 := h176; rw [y_atE o167, y_atE o180, y_fiZ oY170 (k := 5) (by decide), ← ep173_5] at q9; exact q9
        rw [hn146] at h176
        have hn182 : (y_c f179 387).toInt = nn := by rw [h176.1 387 (by omega) (by omega)]; exact hn146
        have hfr183 : ∀ j : Int, 0 ≤ j → (j < 8 * nn ∨ 8 * nn + 8 ≤ j) → y_c f179 j = y_c f1 j := fun j h0 h1 => (h176.1 j h0 (by omega)).trans (hfr147 j h0 h1)
        have h184 : (y_c f179 (8 * nn)).toInt = (y_c f143 (8 * nn)).toInt := (congrArg Int32.toInt (h176.1 _ (by omega) (by omega)))
        have h185 : (y_c f179 (8 * nn + 2)).toInt = (y_c f143 (8 * nn + 2)).toInt := (congrArg Int32.toInt (h176.1 _ (by omega) (by omega)))
        have h186 : (y_c f179 (8 * nn + 3)).toInt = (y_c f143 (8 * nn + 3)).toInt := (congrArg Int32.toInt (h176.1 _ (by omega) (by omega)))
        have h187 : (y_c f179 (8 * nn + 5)).toInt = (y_c f143 (8 * nn + 5)).toInt := (congrArg Int32.toInt (h176.1 _ (by omega) (by omega)))
        exact K110 _ _ _ ⟨F174, _, w6, rfl, lv_sub hl [0, 1] rfl, hP, hS, hI, hfr, (fun k hk => by rw [y_fiZ oY178 (s_sub (by decide) hk)]; exact hz0 k hk), trivial, (by rw [y_atE o180]; exact hn182), (by rw [y_atE o180]; exact hfr183), (by rw [y_atE o180, y_fiZ oY178 (k := 5) (by decide), ← ev172]; omega)⟩
    · have c126 := mt (ax_eq (n := 0) (by decide)).mpr c126
      exact W.vret hx hb hr (fun t ht hW => ⟨⟨F117, rfl, ⟨trivial, trivial, hI, hfr, fun k hk => by rw [y_fiZ oY120 (s_sub (by decide) hk), y_fiZ oY0 (s_sub (by decide) hk)]; exact hz0 k hk, (by rw [y_fiZ oY0 (k := 5) (by decide), ← eF_5, y_fiZ oY120 (k := 5) (by decide), ← ev125, y_atE o2, y_atE o123]; rw [← hnn]; exact ⟨by omega, (fun j h0 h1 => h115 j h0 (by omega)), (fun j h0 h1 => h115 j (by omega) (by omega)), fun q => absurd q (by omega)⟩)⟩, by rw [ht]; exact hP, va_K.moved hW.alike hK⟩, hS.F ht⟩) hS.2.2 dX7_lineTold_83
  · intro g H locs hq
    obtain ⟨F192, ls, w5, rfl, hl, hP, hS, hI, hfr, hz0, h188, h189, h190, h191⟩ := hq
    obtain ⟨z193, q194, oY195, bz196⟩ := y_opY hI ha0
    have hz0 : ∀ k, k ∈ ([1, 3, 7, 8, 15, 16, 19, 25, 26, 27, 31, 32] : List Nat) → z193 k = z0 k := fun k hk => (y_fiZ oY195 (s_sub (by decide) hk)).symm.trans (hz0 k hk)
    obtain ⟨f197, o198, b199⟩ := y_op12 hI
    have h189 : (y_c f197 387).toInt = nn := by have q9 := h189; rw [y_atE o198] at q9; exact q9
    have h190 : (∀ j : Int, 0 ≤ j → (j < 8 * nn ∨ 8 * nn + 8 ≤ j) → y_c f197 j = y_c f1 j) := by have q9 := h190; rw [y_atE o198, y_atE o2] at q9; exact q9
    obtain ⟨v200, ev200⟩ : ∃ y : Int32, y = z193 5 := ⟨_, rfl⟩
    have h191 : ((v4.toInt = 0 ∧ 0 ≤ w5.toInt ∧ w5.toInt ≤ 15) ∧ (y_c f197 (8 * nn + 5)).toInt = -1000000 ∧ (v200.toInt = 0 → (y_c f197 (8 * nn)).toInt = w5.toInt)) := by have q9 := h191; rw [y_fiZ oY0 (k := 5) (by decide), ← eF_5, y_atE o198, y_fiZ oY195 (k := 5) (by decide), ← ev200] at q9; exact q9
    refine lv_iconst (v := 0) hx hb dX7_lineTold_110 (by decide) ?_
    refine lv_istore_n (lv' := [(3, .int 0), (0, .ref a0), (2, .int w5)]) hx hb dX7_lineTold_111 rfl hl (by decide) rfl (fun ls hl => ?_)
    refine th_loop (fun n g H locs => ∃ (G : Nat → va_E) (ls : Array Slot) (w201 : Int32), g = F0 m 112 ls [] ∧ lv_has ls 4 [(0, .ref a0), (2, .int w5), (3, .int w201)] ∧ va_P (dC, dI) vwCl (va_pl L G) H ∧ va_S (fun q => q ∈ L) s.heap H locs ∧ y_I K cs A G ∧ (∀ b, K b ∉ [9, 62, 64] → G b = F b) ∧ (∀ k, k ∈ ([1, 3, 7, 8, 15, 16, 19, 25, 26, 27, 31, 32] : List Nat) → y_fi G a0 k = z0 k) ∧ (0 ≤ w201.toInt ∧ w201.toInt ≤ 2) ∧ (y_c (y_at G (A 12)) 387).toInt = nn ∧ (∀ j : Int, 0 ≤ j → (j < 8 * nn ∨ 8 * nn + 8 ≤ j) → y_c (y_at G (A 12)) j = y_c f1 j) ∧ ((v4.toInt = 0 ∧ 0 ≤ w5.toInt ∧ w5.toInt ≤ 15) ∧ (y_c (y_at G (A 12)) (8 * nn + 5)).toInt = -1000000 ∧ ((y_fi G a0 5).toInt = 0 → (y_c (y_at G (A 12)) (8 * nn)).toInt = w5.toInt ∧ (w201.toInt = 0 ∨ -4 ≤ (y_c (y_at G (A 12)) (8 * nn + 2)).toInt) ∧ (w201.toInt ≤ 1 ∨ -4 ≤ (y_c (y_at G (A 12)) (8 * nn + 3)).toInt))) ∧ n = (3 - w201.toInt).toNat) _ ⟨F192, _, 0, rfl, lv_sub hl [1, 2, 0] rfl, hP, hS, hI, hfr, (fun k hk => by rw [y_fiZ oY195 (s_sub (by decide) hk)]; exact hz0 k hk), (by decide), (by rw [y_atE o198]; exact h189), (by rw [y_atE o198]; exact h190), (by rw [y_atE o198, y_fiZ oY195 (k := 5) (by decide), ← ev200]; omega), rfl⟩ (fun n ih112 g H locs hq => ?_)
    obtain ⟨F206, ls, w201, rfl, hl, hP, hS, hI, hfr, hz0, h202, h203, h204, h205, hn⟩ := hq
    obtain ⟨z207, q208, oY209, bz210⟩ := y_opY hI ha0
    have hz0 : ∀ k, k ∈ ([1, 3, 7, 8, 15, 16, 19, 25, 26, 27, 31, 32] : List Nat) → z207 k = z0 k := fun k hk => (y_fiZ oY209 (s_sub (by decide) hk)).symm.trans (hz0 k hk)
    obtain ⟨f211, o212, b213⟩ := y_op12 hI
    have h203 : (y_c f211 387).toInt = nn := by have q9 := h203; rw [y_atE o212] at q9; exact q9
    have h204 : (∀ j : Int, 0 ≤ j → (j < 8 * nn ∨ 8 * nn + 8 ≤ j) → y_c f211 j = y_c f1 j) := by have q9 := h204; rw [y_atE o212, y_atE o2] at q9; exact q9
    obtain ⟨v214, ev214⟩ : ∃ y : Int32, y = z207 5 := ⟨_, rfl⟩
    have h205 : ((v4.toInt = 0 ∧ 0 ≤ w5.toInt ∧ w5.toInt ≤ 15) ∧ (y_c f211 (8 * nn + 5)).toInt = -1000000 ∧ (v214.toInt = 0 → (y_c f211 (8 * nn)).toInt = w5.toInt ∧ (w201.toInt = 0 ∨ -4 ≤ (y_c f211 (8 * nn + 2)).toInt) ∧ (w201.toInt ≤ 1 ∨ -4 ≤ (y_c f211 (8 * nn + 3)).toInt))) := by have q9 := h205; rw [y_fiZ oY0 (k := 5) (by decide), ← eF_5, y_atE o212, y_fiZ oY209 (k := 5) (by decide), ← ev214] at q9; exact q9
    have hn_214 := hn
    refine lv_iload_n hx hb dX7_lineTold_112 rfl (lv_at hl 2 rfl) ?_
    refine lv_iload_n hx hb dX7_lineTold_113 rfl (lv_at hl 1 rfl) ?_
    have h215 : 0 ≤ w5.toInt ∧ w5.toInt ≤ 15 := ⟨by omega, by omega⟩
    refine va_calli (va_runS (As := [.int w5]) (rest := [.int w201]) ⟨hx, hb, hml, hown, hts⟩ (y_X7_partsOf l dC dI H.size F206 w5 (⟨by omega, by omega⟩)) (cwS 1 hts (ax_gS T_1197 T_1199 T_265 T_1198) rfl rfl rfl (by decide +kernel) ⟨Nat.le_of_ble_eq_true rfl, Nat.le_of_ble_eq_true rfl⟩) ⟨fun a U g mk q => ⟨q.1, s_pc rfl rfl q.2⟩, fun U hU hW => ⟨rfl, s_pw hU hW hP hK hD hN⟩⟩ rfl rfl hl.1 rfl (lv_room (Nat.le_of_ble_eq_true rfl)) dX7_lineTold_114 ⟨Nat.zero_le _, Nat.zero_le _⟩) hS (fun q _ h => h) (fun q h => h) (fun r217 F218 t H1 locs ht hvm hw hB hz1 hk1 hS => ?_)
    obtain ⟨hP, hK1⟩ := hB
    rw [ht] at hP
    generalize H1 = H at hP hS ⊢
    obtain ⟨h219, h221, hG9, h220⟩ := hw
    subst hG9
    have h220 : ((r217.toInt = 0 ∧ (w5.toInt = 5 ∨ w5.toInt = 6 ∨ 12 ≤ w5.toInt)) ∨ (r217.toInt = 1 ∧ (w5.toInt = 0 ∨ w5.toInt = 7 ∨ w5.toInt = 9 ∨ w5.toInt = 11)) ∨ (r217.toInt = 2 ∧ ((1 ≤ w5.toInt ∧ w5.toInt ≤ 4) ∨ w5.toInt = 8 ∨ w5.toInt = 10))) := by have q9 := h220; exact q9
    refine lv_icmp_ge (tgt := 137) hx hb dX7_lineTold_117 (by decide) (fun c222 => ?_) (fun c222 => ?_)
    · have c222 := Int32.le_iff_toInt_le.mp c222
      refine lv_iload_n hx hb dX7_lineTold_137 rfl (lv_at hl 1 rfl) ?_
      refine lv_bipush (v := 12) hx hb dX7_lineTold_138 (by decide) ?_
      refine lv_icmp_ne (tgt := 147) hx hb dX7_lineTold_140 (by decide) (fun c223 => ?_) (fun c223 => ?_)
      · have c223 := mt (ax_eq (n := 12) (by decide)).mpr c223
        exact K147 _ _ _ ⟨F206, _, rfl, lv_sub hl [0] rfl, hP, hS, hI, hfr, (fun k hk => by rw [y_fiZ oY209 (s_sub (by decide) hk)]; exact hz0 k hk), (by rw [y_atE o212]; exact h203), (by rw [y_atE o212]; exact h204), (by rw [y_fiZ oY209 (k := 5) (by decide), ← ev214, y_atE o212]; omega), (by omega)⟩
      · have c223 := (ax_eq (n := 12) (by decide)).mp c223
        refine lv_aload_n hx hb dX7_lineTold_143 rfl (lv_at hl 0 rfl) ?_
        have ep224_5 := ev214
        refine va_callv (va_runV (As := []) (rest := []) ⟨hx, hb, hml, hown, hts⟩ (y_X7_goTold l dC dI H.size hLK A hA F206 a0 ha0 hI (by rw [y_atE o212]; rw [h203]; exact ⟨by omega, by omega⟩)) (cwV 0 hts (ax_gV T_1268 T_1270 T_1271 T_265 T_1269) rfl rfl rfl (by decide +kernel) ⟨Nat.le_of_ble_eq_true rfl, Nat.le_of_ble_eq_true rfl⟩) ⟨fun a U g mk q => ⟨q.1, s_pc rfl rfl q.2⟩, s_recv hK hP (hLK _ ha0 (by decide)) (ci := 7) rfl oY209, fun U hU hW => ⟨rfl, s_pw hU hW hP hK hD hN⟩⟩ rfl rfl hl.1 rfl (lv_room (Nat.le_of_ble_eq_true rfl)) dX7_lineTold_144 ⟨Nat.zero_le _, Nat.zero_le _⟩) hS (fun q _ h => h) (fun q h => h) (fun F225 t H1 locs ht hvm hw hB hz1 hk1 hS => ?_)
        obtain ⟨hP, hK1⟩ := hB
        rw [ht] at hP
        generalize H1 = H at hP hS ⊢
        obtain ⟨h226, h228, hI, hfr1, hzf, h227⟩ := hw
        obtain ⟨z229, q230, oY231, bz232⟩ := y_opY hI ha0
        have hzf : ∀ k, k ∈ ([1, 3, 7, 8, 15, 16, 19, 25, 26, 27, 31, 32] : List Nat) → z229 k = z207 k := fun k hk => by have q9 := hzf k hk; rw [y_fiZ oY231 (s_sub (by decide) hk), y_fiZ oY209 (s_sub (by decide) hk)] at q9; exact q9
        have hz0 : ∀ k, k ∈ ([1, 3, 7, 8, 15, 16, 19, 25, 26, 27, 31, 32] : List Nat) → z229 k = z0 k := fun k hk => (hzf k (s_sub (by decide) hk)).trans (hz0 k hk)
        have hfr : ∀ b, K b ∉ [9, 62, 64] → F225 b = F b := fun b hb9 => (hfr1 b (fun q => hb9 (s_sub (by decide) q))).trans (hfr b hb9)
        obtain ⟨v233, ev233⟩ : ∃ y : Int32, y = z229 5 := ⟨_, rfl⟩
        obtain ⟨f234, o235, b236⟩ := y_op12 hI
        have h227 : ((v214.toInt = 0 ∨ ¬ v233.toInt = 0) ∧ (∀ j : Int, 0 ≤ j → (j < 8 * (y_c f211 387).toInt ∨ 8 * (y_c f211 387).toInt + 8 ≤ j) → y_c f234 j = y_c f211 j) ∧ (y_c f234 (8 * (y_c f211 387).toInt)).toInt = (y_c f211 (8 * (y_c f211 387).toInt)).toInt ∧ (v233.toInt = 0 → (y_c f234 (8 * (y_c f211 387).toInt + 5)).toInt = -1000000 ∨ (-4 ≤ (y_c f234 (8 * (y_c f211 387).toInt + 2)).toInt ∧ -4 ≤ (y_c f234 (8 * (y_c f211 387).toInt + 3)).toInt))) := by have q9 := h227; rw [y_fiZ oY209 (k := 5) (by decide), ← ep224_5, y_fiZ oY231 (k := 5) (by decide), ← ev233, y_atE o212, y_atE o235] at q9; exact q9
        rw [h203] at h227
        obtain ⟨hg1, hg2, hg3, hg4⟩ := h227
        have hn237 : (y_c f234 387).toInt = nn := by rw [hg2 387 (by omega) (by omega)]; exact h203
        have hfr238 : ∀ j : Int, 0 ≤ j → (j < 8 * nn ∨ 8 * nn + 8 ≤ j) → y_c f234 j = y_c f1 j := fun j h0 h1 => (hg2 j h0 h1).trans (h204 j h0 h1)
        exact K147 _ _ _ ⟨F225, _, rfl, lv_sub hl [0] rfl, hP, hS, hI, hfr, (fun k hk => by rw [y_fiZ oY231 (s_sub (by decide) hk)]; exact hz0 k hk), (by rw [y_atE o235]; exact hn237), (by rw [y_atE o235]; exact hfr238), (by rw [y_fiZ oY231 (k := 5) (by decide), ← ev233, y_atE o235]; omega), (by omega)⟩
    · have c222 := mt Int32.le_iff_toInt_le.mpr c222
      refine lv_aload_n hx hb dX7_lineTold_120 rfl (lv_at hl 0 rfl) ?_
      refine lv_iconst (v := 2) hx hb dX7_lineTold_121 (by decide) ?_
      refine lv_iload_n hx hb dX7_lineTold_122 rfl (lv_at hl 2 rfl) ?_
      refine lv_iadd hx hb dX7_lineTold_123 ?_
      refine lv_topi (fun v239 ev239 => ?_)
      have qv239 : v239.toInt = 2 + w201.toInt := by rw [ev239]; exact th_add (by decide) rfl ⟨by omega, by omega⟩
      refine lv_aload_n hx hb dX7_lineTold_124 rfl (lv_at hl 0 rfl) ?_
      have ep240_5 := ev214
      refine va_calli (va_runV (As := []) (rest := [.int v239, .ref a0]) ⟨hx, hb, hml, hown, hts⟩ (y_X7_partTold l dC dI H.size hLK A hA F206 a0 ha0 hI) (cwV 0 hts (ax_gV T_1119 T_1121 T_1122 T_265 T_1120) rfl rfl rfl (by decide +kernel) ⟨Nat.le_of_ble_eq_true rfl, Nat.le_of_ble_eq_true rfl⟩) ⟨fun a U g mk q => ⟨q.1, s_pc rfl rfl q.2⟩, s_recv hK hP (hLK _ ha0 (by decide)) (ci := 7) rfl oY209, fun U hU hW => ⟨rfl, s_pw hU hW hP hK hD hN⟩⟩ rfl rfl hl.1 rfl (lv_room (Nat.le_of_ble_eq_true rfl)) dX7_lineTold_125 ⟨Nat.zero_le _, Nat.zero_le _⟩) hS (fun q _ h => h) (fun q h => h) (fun r241 F242 t H1 locs ht hvm hw hB hz1 hk1 hS => ?_)
      obtain ⟨hP, hK1⟩ := hB
      rw [ht] at hP
      generalize H1 = H at hP hS ⊢
      obtain ⟨h243, h245, hI, hfr1, hzf, h244⟩ := hw
      have o246 : F242 (A 12) = .inl (cs 0, 400, .inl f211) := (hfr1 _ (by rw [(y_k12 hA)]; decide)).trans o212
      obtain ⟨z247, q248, oY249, bz250⟩ := y_opY hI ha0
      have hzf : ∀ k, k ∈ ([1, 3, 7, 8, 11, 15, 16, 19, 25, 26, 27, 31, 32] : List Nat) → z247 k = z207 k := fun k hk => by have q9 := hzf k hk; rw [y_fiZ oY249 (s_sub (by decide) hk), y_fiZ oY209 (s_sub (by decide) hk)] at q9; exact q9
      have hz0 : ∀ k, k ∈ ([1, 3, 7, 8, 15, 16, 19, 25, 26, 27, 31, 32] : List Nat) → z247 k = z0 k := fun k hk => (hzf k (s_sub (by decide) hk)).trans (hz0 k hk)
      have hfr : ∀ b, K b ∉ [9, 62, 64] → F242 b = F b := fun b hb9 => (hfr1 b (fun q => hb9 (s_sub (by decide) q))).trans (hfr b hb9)
      obtain ⟨v251, ev251⟩ : ∃ y : Int32, y = z247 5 := ⟨_, rfl⟩
      have h244 : ((v214.toInt = 0 ∨ ¬ v251.toInt = 0) ∧ (v251.toInt = 0 → -4 ≤ r241.toInt ∧ r241.toInt ≤ 999)) := by have q9 := h244; rw [y_fiZ oY209 (k := 5) (by decide), ← ep240_5, y_fiZ oY249 (k := 5) (by decide), ← ev251] at q9; exact q9
      have ep252_5 := ev251
      refine va_callv (va_runV (As := [.int v239, .int r241]) (rest := []) ⟨hx, hb, hml, hown, hts⟩ (y_X7_lays l dC dI H.size hLK A hA F242 a0 v239 r241 ha0 (⟨by omega, by omega⟩) hI) (cwV 2 hts (ax_gV T_1115 T_1117 T_1118 T_265 T_1116) rfl rfl rfl (by decide +kernel) ⟨Nat.le_of_ble_eq_true rfl, Nat.le_of_ble_eq_true rfl⟩) ⟨fun a U g mk q => ⟨q.1, s_pc rfl rfl q.2⟩, s_recv hK hP (hLK _ ha0 (by decide)) (ci := 7) rfl oY249, fun U hU hW => ⟨rfl, s_pw hU hW hP hK hD hN⟩⟩ rfl rfl hl.1 rfl (lv_room (Nat.le_of_ble_eq_true rfl)) dX7_lineTold_128 ⟨Nat.zero_le _, Nat.zero_le _⟩) hS (fun q _ h => h) (fun q h => h) (fun F253 t H1 locs ht hvm hw hB hz1 hk1 hS => ?_)
      obtain ⟨hP, hK1⟩ := hB
      rw [ht] at hP
      generalize H1 = H at hP hS ⊢
      obtain ⟨h254, h256, hI, hfr1, hzf, h255⟩ := hw
      have oY257 : F253 a0 = .inr (7, y_fl A z247 q248) := (hfr1 _ (by rw [ha0]; decide)).trans oY249
      have hfr : ∀ b, K b ∉ [9, 62, 64] → F253 b = F b := fun b hb9 => (hfr1 b (fun q => hb9 (s_sub (by decide) q))).trans (hfr b hb9)
      obtain ⟨f258, o259, b260⟩ := y_op12 hI
      have h255 : ((∀ j : Int, 0 ≤ j → j ≠ 8 * (y_c f211 387).toInt + v239.toInt → y_c f258 j = y_c f211 j) ∧ (v251.toInt = 0 → y_c f258 (8 * (y_c f211 387).toInt + v239.toInt) = r241)) := by have q9 := h255; rw [y_atE o246, y_atE o259, y_fiZ oY249 (k := 5) (by decide), ← ep252_5] at q9; exact q9
      rw [h203] at h255
      have hn261 : (y_c f258 387).toInt = nn := by rw [h255.1 387 (by omega) (by omega)]; exact h203
      have hfr262 : ∀ j : Int, 0 ≤ j → (j < 8 * nn ∨ 8 * nn + 8 ≤ j) → y_c f258 j = y_c f1 j := fun j h0 h1 => (h255.1 j h0 (by omega)).trans (h204 j h0 h1)
      have h263 : v239.toInt = 0 → v251.toInt = 0 → (y_c f258 (8 * nn)).toInt = r241.toInt := fun h8 => (fun h9 => (congrArg (fun i => (y_c f258 i).toInt) (show 8 * nn = 8 * nn + v239.toInt by omega)).trans ((congrArg Int32.toInt (h255.2 h9)).trans rfl))
      have h264 : v239.toInt ≠ 0 → (y_c f258 (8 * nn)).toInt = (y_c f211 (8 * nn)).toInt := fun h8 => (congrArg Int32.toInt (h255.1 _ (by omega) (by omega)))
      have h265 : v239.toInt = 2 → v251.toInt = 0 → (y_c f258 (8 * nn + 2)).toInt = r241.toInt := fun h8 => (fun h9 => (congrArg (fun i => (y_c f258 i).toInt) (show 8 * nn + 2 = 8 * nn + v239.toInt by omega)).trans ((congrArg Int32.toInt (h255.2 h9)).trans rfl))
      have h266 : v239.toInt ≠ 2 → (y_c f258 (8 * nn + 2)).toInt = (y_c f211 (8 * nn + 2)).toInt := fun h8 => (congrArg Int32.toInt (h255.1 _ (by omega) (by omega)))
      have h267 : v239.toInt = 3 → v251.toInt = 0 → (y_c f258 (8 * nn + 3)).toInt = r241.toInt := fun h8 => (fun h9 => (congrArg (fun i => (y_c f258 i).toInt) (show 8 * nn + 3 = 8 * nn + v239.toInt by omega)).trans ((congrArg Int32.toInt (h255.2 h9)).trans rfl))
      have h268 : v239.toInt ≠ 3 → (y_c f258 (8 * nn + 3)).toInt = (y_c f211 (8 * nn + 3)).toInt := fun h8 => (congrArg Int32.toInt (h255.1 _ (by omega) (by omega)))
      have h269 : v239.toInt = 5 → v251.toInt = 0 → (y_c f258 (8 * nn + 5)).toInt = r241.toInt := fun h8 => (fun h9 => (congrArg (fun i => (y_c f258 i).toInt) (show 8 * nn + 5 = 8 * nn + v239.toInt by omega)).trans ((congrArg Int32.toInt (h255.2 h9)).trans rfl))
      have h270 : v239.toInt ≠ 5 → (y_c f258 (8 * nn + 5)).toInt = (y_c f211 (8 * nn + 5)).toInt := fun h8 => (congrArg Int32.toInt (h255.1 _ (by omega) (by omega)))
      obtain ⟨v271, ev271⟩ : ∃ y : Int32, w201 + 1 = y := ⟨_, rfl⟩
      have qv271 : v271.toInt = w201.toInt + 1 := by rw [← ev271]; exact th_add rfl (by decide) ⟨by omega, by omega⟩
      refine lv_iinc (v := v271) (lv' := [(3, .int v271), (0, .ref a0), (2, .int w5)]) hx hb dX7_lineTold_131 hl (k := 2) rfl ev271 (by decide) rfl (fun ls hl => ?_)
      refine lv_goto (tgt := 112) hx hb dX7_lineTold_134 (by decide) ?_
      exact ih112 _ _ _ _ (by omega) ⟨F253, _, v271, rfl, lv_sub hl [1, 2, 0] rfl, hP, hS, hI, hfr, (fun k hk => by rw [y_fiZ oY257 (s_sub (by decide) hk)]; exact hz0 k hk), ⟨by omega, by omega⟩, (by rw [y_atE o259]; exact hn261), (by rw [y_atE o259]; exact hfr262), (by rw [y_atE o259, y_fiZ oY257 (k := 5) (by decide), ← ev251]; omega), rfl⟩
  · intro g H locs hq
    obtain ⟨F276, ls, rfl, hl, hP, hS, hI, hfr, hz0, h272, h273, h274, h275⟩ := hq
    obtain ⟨z277, q278, oY279, bz280⟩ := y_opY hI ha0
    have hz0 : ∀ k, k ∈ ([1, 3, 7, 8, 15, 16, 19, 25, 26, 27, 31, 32] : List Nat) → z277 k = z0 k := fun k hk => (y_fiZ oY279 (s_sub (by decide) hk)).symm.trans (hz0 k hk)
    obtain ⟨f281, o282, b283⟩ := y_op12 hI
    have h272 : (y_c f281 387).toInt = nn := by have q9 := h272; rw [y_atE o282] at q9; exact q9
    have h273 : (∀ j : Int, 0 ≤ j → (j < 8 * nn ∨ 8 * nn + 8 ≤ j) → y_c f281 j = y_c f1 j) := by have q9 := h273; rw [y_atE o282, y_atE o2] at q9; exact q9
    obtain ⟨v284, ev284⟩ : ∃ y : Int32, y = z277 5 := ⟨_, rfl⟩
    have h274 : (v284.toInt = 0 → (0 ≤ (y_c f281 (8 * nn)).toInt ∧ (y_c f281 (8 * nn)).toInt ≤ 15) ∧ (((y_c f281 (8 * nn)).toInt = 5 ∨ (y_c f281 (8 * nn)).toInt = 6 ∨ 12 ≤ (y_c f281 (8 * nn)).toInt) ∨ -4 ≤ (y_c f281 (8 * nn + 2)).toInt) ∧ (((y_c f281 (8 * nn)).toInt = 5 ∨ (y_c f281 (8 * nn)).toInt = 6 ∨ 12 ≤ (y_c f281 (8 * nn)).toInt ∨ (y_c f281 (8 * nn)).toInt = 0 ∨ (y_c f281 (8 * nn)).toInt = 7 ∨ (y_c f281 (8 * nn)).toInt = 9 ∨ (y_c f281 (8 * nn)).toInt = 11) ∨ -4 ≤ (y_c f281 (8 * nn + 3)).toInt) ∧ ((y_c f281 (8 * nn)).toInt ≠ 12 ∨ (y_c f281 (8 * nn + 5)).toInt = -1000000 ∨ (-4 ≤ (y_c f281 (8 * nn + 2)).toInt ∧ -4 ≤ (y_c f281 (8 * nn + 3)).toInt))) := by have q9 := h274; rw [y_fiZ oY279 (k := 5) (by decide), ← ev284, y_atE o282] at q9; exact q9
    have h275 : v4.toInt = 0 := by have q9 := h275; rw [y_fiZ oY0 (k := 5) (by decide), ← eF_5] at q9; exact q9
    refine lv_aload_n hx hb dX7_lineTold_147 rfl (lv_at hl 0 rfl) ?_
    refine th_get (D := (dC, dI)) (ci := 7) (v := .ref (A 12)) (C := RX7) (T := TX7) (N := 34) hx hb hts inX7 hown hK hP (hLK _ ha0 (by decide)) oY279 rfl 12 (by decide) (hts _ T_245) (fun _ h9 => h9) rfl dX7_lineTold_148 ?_
    refine lv_sipush (v := 387) hx hb dX7_lineTold_151 (by decide) ?_
    refine lv_dup2_11 hx hb dX7_lineTold_154 rfl rfl ?_
    refine th_iald hx hb hK hP (hLK _ (y_k12 hA) (by decide)) 0 o282 rfl (ax_in (by decide)) dX7_lineTold_155 ?_
    refine lv_topi (fun v285 ev285 => ?_)
    have qv285 : 0 ≤ v285.toInt ∧ v285.toInt ≤ 40 := by rw [ev285]; exact b283
    have h286 : 0 ≤ v285.toInt ∧ v285.toInt ≤ 39 := ⟨by omega, by have q9 : v285 = (y_c f281 387) := ev285; rw [q9]; have q8 := h272; omega⟩
    have h287 : v285.toInt = nn := by rw [show v285 = y_c f281 387 from ev285]; exact h272
    refine lv_iconst (v := 1) hx hb dX7_lineTold_156 (by decide) ?_
    refine lv_iadd hx hb dX7_lineTold_157 ?_
    refine lv_topi (fun v288 ev288 => ?_)
    have qv288 : v288.toInt = v285.toInt + 1 := by rw [ev288]; exact th_add rfl (by decide) ⟨by omega, by omega⟩
    refine th_iast hx hb hK hP hD hS (hLK _ (y_k12 hA) (by decide)) 0 o282 rfl (ax_in (by decide)) dX7_lineTold_158 (fun H locs hP hS => ?_)
    obtain ⟨f289, u290⟩ : ∃ g : Nat → Int32, g = upd f281 (387 : Int32).toNatClampNeg v288 := ⟨_, rfl⟩
    rw [← u290] at hP
    have b291 : y_bd 12 f289 := by rw [u290]; exact th_updJ (P := fun y => 0 ≤ y.toInt ∧ y.toInt ≤ 40) b283 (fun q => ⟨by omega, by omega⟩)
    have hP : va_P (dC, dI) vwCl (va_pl L (va_up F276 (A 12) (.inl (cs 0, 400, .inl f289)))) H := hP
    obtain ⟨F292, hF293⟩ : ∃ G : Nat → va_E, G = va_up F276 (A 12) (.inl (cs 0, 400, .inl f289)) := ⟨_, rfl⟩
    rw [← hF293] at hP
    have hI : y_I K cs A F292 := by rw [hF293]; exact y_clA (i := 12) hA hI (by decide) b291
    have hfr : ∀ b, K b ∉ [9, 62, 64] → F292 b = F b := by rw [hF293]; exact s_fr hfr (y_k12 hA) (by decide)
    have oY294 : F292 a0 = .inr (7, y_fl A z277 q278) := by rw [hF293]; exact th_ne (th_kd ha0 (y_k12 hA) (by decide)) oY279
    have o295 : F292 (A 12) = .inl (cs 0, 400, .inl f289) := by rw [hF293]; exact th_up
    have u296 : ∀ j : Int, 0 ≤ j → y_c f289 j = if j = 387 then v288 else y_c f281 j := by rw [u290]; exact y_cu (by decide) (by decide)
    exact W.vret hx hb hr (fun t ht hW => ⟨⟨F292, rfl, ⟨trivial, trivial, hI, hfr, fun k hk => by rw [y_fiZ oY294 (s_sub (by decide) hk), y_fiZ oY0 (s_sub (by decide) hk)]; exact hz0 k hk, (by rw [y_fiZ oY0 (k := 5) (by decide), ← eF_5, y_fiZ oY294 (k := 5) (by decide), ← ev284, y_atE o2, y_atE o295]; rw [← hnn]; exact ⟨by omega, (fun j h0 h1 => by rw [u296 j h0, if_neg (by omega)]; exact h273 j h0 (by omega)), (fun j h0 h1 => by rw [u296 j (by omega), if_neg h1]; exact h273 j (by omega) (by omega)), fun q => ⟨by rw [u296 387 (by omega), if_pos rfl]; omega, y_rgC ⟨by rw [u296 _ (by omega), if_neg (by omega)], by rw [u296 _ (by omega), if_neg (by omega)], by rw [u296 _ (by omega), if_neg (by omega)], by rw [u296 _ (by omega), if_neg (by omega)]⟩ (by unfold y_rg; exact ⟨by omega, by omega, by omega, by omega⟩)⟩⟩)⟩, by rw [ht]; exact hP, va_K.moved hW.alike hK⟩, hS.F ht⟩) hS.2.2 dX7_lineTold_159
