set_option maxHeartbeats 4000000 in
set_option maxRecDepth 100000 in
theorem y_X7_warpAt (l : Launch) (dC : Nat → ClassId) (dI : Nat → Nat → Nat) (sz : Nat) {L : List Nat} {cs : Nat → ClassId} (F : Nat → va_E) (x0 : Int32) (x1 : Int32) (hx0 : 0 ≤ x0.toInt ∧ x0.toInt ≤ 3) (hx1 : 0 ≤ x1.toInt ∧ x1.toInt ≤ 5) : Met l yX7_warpAt (Cond.code yX7_warpAt cX7_warpAt 2 (some .int) :: T0) ({ frames := 0, cells := 0, slots := 0, locals := 0 }) (va_Pc [.int x0, .int x1] (s_W dC dI sz L F [(cs 0, .int), (cs 1, .byte), (cs 2, .long), (cs 3, .object RX5), (cs 4, .object RX4), (cs 5, .array .int), (cs 6, .char), (cs 7, .boolean)])) (va_Qi (fun (r : Int32) (G : Nat → va_E) => (104 ≤ r.toInt ∧ r.toInt ≤ 127) ∧ True ∧ G = F ∧ (r.toInt = 104 + 6 * x0.toInt + x1.toInt)) (fun (G : Nat → va_E) (t : State) => va_P (dC, dI) vwCl (va_pl L G) t.heap ∧ va_K (dC, dI) vwCl [(cs 0, .int), (cs 1, .byte), (cs 2, .long), (cs 3, .object RX5), (cs 4, .object RX4), (cs 5, .array .int), (cs 6, .char), (cs 7, .boolean)] t) (fun q => q ∈ L)) 0 0 (fun q => q ∈ L) := by
  refine Met.ofW (cc := cX7_warpAt) (maxL := 2) (ret := (some .int)) (by decide) rfl ?_
  intro p e s m args below meth c s₁ B hml hv
  obtain ⟨rfl, hsz, hP, hK, hD, hN⟩ := hv
  have hx := B.exec
  have hb := B.bytes
  have hr := B.returns
  have hts : ∀ w ∈ T0, w.before _ s = true := fun w h => atoms_spec (ws := Cond.code yX7_warpAt cX7_warpAt 2 (some .int) :: T0) B.pre w (List.mem_cons_of_mem _ h)
  have hown : s.vm.findClass RX7 = some m.cls := findClass_of_methodNamed B.named
  have hlocks := B.notSynchronized
  have hS : va_S (fun q => q ∈ L) s.heap s.heap [] := va_S.rf
  have hl := lv_entry ([.int x0, .int x1]) (n := 2) (Nat.le_of_ble_eq_true rfl)
  rw [lg_entry_eq]
  generalize (lg_sl ([.int x0, .int x1]) ++ List.replicate (2 - (lg_sl ([.int x0, .int x1])).length) Slot.unset).toArray = ls at hl ⊢
  have hl : lv_has ls 2 [(0, .int x0), (1, .int x1)] := hl
  refine s_gen hP hS (fun H locs hP hS => ?_)
  refine lv_bipush (v := 104) hx hb dX7_warpAt_0 (by decide) ?_
  refine lv_bipush (v := 6) hx hb dX7_warpAt_2 (by decide) ?_
  refine lv_iload_n hx hb dX7_warpAt_4 rfl (lv_at hl 0 rfl) ?_
  refine lv_imul hx hb dX7_warpAt_5 ?_
  refine lv_topi (fun v1 ev1 => ?_)
  have qv1 : v1.toInt = 6 * x0.toInt := by rw [ev1]; exact th_mul (by decide) rfl ⟨by omega, by omega⟩
  refine lv_iadd hx hb dX7_warpAt_6 ?_
  refine lv_topi (fun v2 ev2 => ?_)
  have qv2 : v2.toInt = 104 + v1.toInt := by rw [ev2]; exact th_add (by decide) rfl ⟨by omega, by omega⟩
  refine lv_iload_n hx hb dX7_warpAt_7 rfl (lv_at hl 1 rfl) ?_
  refine lv_iadd hx hb dX7_warpAt_8 ?_
  refine lv_topi (fun v3 ev3 => ?_)
  have qv3 : v3.toInt = v2.toInt + x1.toInt := by rw [ev3]; exact th_add rfl rfl ⟨by omega, by omega⟩
  exact W.iret (v := v3) hx hb hr (fun t ht hW => ⟨⟨v3, F, rfl, ⟨⟨by omega, by omega⟩, trivial, rfl, (by omega)⟩, by rw [ht]; exact hP, va_K.moved hW.alike hK⟩, hS.F ht⟩) hS.2.2 dX7_warpAt_9

set_option maxHeartbeats 4000000 in
set_option maxRecDepth 100000 in
theorem y_X7_its (l : Launch) (dC : Nat → ClassId) (dI : Nat → Nat → Nat) (sz : Nat) {L : List Nat} {K : Nat → Nat} {cs : Nat → ClassId} (hLK : ∀ a {k : Nat}, K a = k → k ≠ 0 → a ∈ L) (A : Nat → Nat) (hA : y_A K A) (F : Nat → va_E) (a0 : Nat) (x1 : Int32) (x2 : Int32) (ha0 : K a0 = 9) (hx1 : 0 ≤ x1.toInt ∧ x1.toInt ≤ 3) (hx2 : 0 ≤ x2.toInt ∧ x2.toInt ≤ 5) (hI : y_I K cs A F) : Met l yX7_its (Cond.code yX7_its cX7_its 3 (some .int) :: T0) ({ frames := 1, cells := 0, slots := 0, locals := 21 }) (va_Pc [.ref a0, .int x1, .int x2] (s_W dC dI sz L F [(cs 0, .int), (cs 1, .byte), (cs 2, .long), (cs 3, .object RX5), (cs 4, .object RX4), (cs 5, .array .int), (cs 6, .char), (cs 7, .boolean)])) (va_Qi (fun (r : Int32) (G : Nat → va_E) => True ∧ True ∧ y_I K cs A G ∧ (∀ b, K b ∉ ([] : List Nat) → G b = F b) ∧ (∀ k, k ∈ ([1, 2, 3, 4, 5, 6, 7, 8, 11, 15, 16, 19, 25, 26, 27, 31, 32] : List Nat) → y_fi G a0 k = y_fi F a0 k) ∧ (r = y_c (y_at F (A 20)) (104 + 6 * x1.toInt + x2.toInt))) (fun (G : Nat → va_E) (t : State) => va_P (dC, dI) vwCl (va_pl L G) t.heap ∧ va_K (dC, dI) vwCl [(cs 0, .int), (cs 1, .byte), (cs 2, .long), (cs 3, .object RX5), (cs 4, .object RX4), (cs 5, .array .int), (cs 6, .char), (cs 7, .boolean)] t) (fun q => q ∈ L)) 0 0 (fun q => q ∈ L) := by
  refine Met.ofW (cc := cX7_its) (maxL := 3) (ret := (some .int)) (by decide) rfl ?_
  intro p e s m args below meth c s₁ B hml hv
  obtain ⟨rfl, hsz, hP, hK, hD, hN⟩ := hv
  have hx := B.exec
  have hb := B.bytes
  have hr := B.returns
  have hts : ∀ w ∈ T0, w.before _ s = true := fun w h => atoms_spec (ws := Cond.code yX7_its cX7_its 3 (some .int) :: T0) B.pre w (List.mem_cons_of_mem _ h)
  have hown : s.vm.findClass RX7 = some m.cls := findClass_of_methodNamed B.named
  have hlocks := B.notSynchronized
  have hS : va_S (fun q => q ∈ L) s.heap s.heap [] := va_S.rf
  have hfr : ∀ b, K b ∉ ([] : List Nat) → F b = F b := fun _ _ => rfl
  have hl := lv_entry ([.ref a0, .int x1, .int x2]) (n := 3) (Nat.le_of_ble_eq_true rfl)
  rw [lg_entry_eq]
  generalize (lg_sl ([.ref a0, .int x1, .int x2]) ++ List.replicate (3 - (lg_sl ([.ref a0, .int x1, .int x2])).length) Slot.unset).toArray = ls at hl ⊢
  have hl : lv_has ls 3 [(0, .ref a0), (1, .int x1), (2, .int x2)] := hl
  refine s_gen hP hS (fun H locs hP hS => ?_)
  obtain ⟨z0, q0, oY0, bz0, bq0⟩ := y_opY hI ha0
  have hz0 : ∀ k, k ∈ ([1, 2, 3, 4, 5, 6, 7, 8, 11, 15, 16, 19, 25, 26, 27, 31, 32] : List Nat) → z0 k = z0 k := fun _ _ => rfl
  obtain ⟨f1, o2, b3⟩ := y_op20 hI
  refine lv_aload_n hx hb dX7_its_0 rfl (lv_at hl 0 rfl) ?_
  refine th_get (D := (dC, dI)) (ci := 7) (v := .ref (A 20)) (C := RX7) (T := TX7) (N := 34) hx hb hts inX7 hown hK hP (hLK _ ha0 (by decide)) oY0 rfl 20 (by decide) (hts _ T_251) (fun _ h9 => h9) rfl dX7_its_1 ?_
  refine lv_iload_n hx hb dX7_its_4 rfl (lv_at hl 1 rfl) ?_
  refine lv_iload_n hx hb dX7_its_5 rfl (lv_at hl 2 rfl) ?_
  have rg4 : 0 ≤ x1.toInt ∧ x1.toInt ≤ 3 := ⟨by omega, by omega⟩
  have rg5 : 0 ≤ x2.toInt ∧ x2.toInt ≤ 5 := ⟨by omega, by omega⟩
  refine va_calli (va_runS (As := [.int x1, .int x2]) (rest := [.ref (A 20)]) ⟨hx, hb, hml, hown, hts⟩ (y_X7_warpAt l dC dI H.size F x1 x2 rg4 rg5) (cwS 2 hts (ax_gS T_1021 T_1023 T_265 T_1022) rfl rfl rfl (by decide +kernel) ⟨Nat.le_of_ble_eq_true rfl, Nat.le_of_ble_eq_true rfl⟩) ⟨fun a U g mk q => ⟨q.1, s_pc (U := U) rfl rfl q.2⟩, fun U hU hW => ⟨rfl, s_pw hU hW hP hK hD hN⟩⟩ rfl rfl hl.1 rfl (lv_room (Nat.le_of_ble_eq_true rfl)) dX7_its_6 ⟨Nat.zero_le _, Nat.zero_le _⟩) hS (fun q _ h => h) (fun q h => h) (fun r7 F8 t H1 locs ht hvm hw hB hz1 hk1 hS => ?_)
  obtain ⟨hP, hK1⟩ := hB
  rw [ht] at hP
  generalize H1 = H at hP hS ⊢
  clear hz1 hk1 hvm hK1
  obtain ⟨h9, h11, hG9, h10⟩ := hw
  rw [hG9] at hP
  replace h10 : (r7.toInt = 104 + 6 * x1.toInt + x2.toInt) := by have q9 := h10; exact q9
  refine th_iald hx hb hK hP (hLK _ (y_k20 hA) (by decide)) 0 o2 rfl (th_in ⟨by omega, by omega⟩) dX7_its_9 ?_
  refine lv_topi (fun v12 ev12 => ?_)
  exact W.iret (v := v12) hx hb hr (fun t ht hW => ⟨⟨v12, F, rfl, ⟨trivial, trivial, hI, hfr, fun k hk => (y_fiZ oY0 (s_sub (by decide) hk)).trans ((hz0 k hk).trans (y_fiZ oY0 (s_sub (by decide) hk)).symm), (by rw [y_atE o2]; exact (ev12.trans (y_ci h10)))⟩, by rw [ht]; exact hP, va_K.moved hW.alike hK⟩, hS.F ht⟩) hS.2.2 dX7_its_10

set_option maxHeartbeats 4000000 in
set_option maxRecDepth 100000 in
theorem y_X7_registerAt (l : Launch) (dC : Nat → ClassId) (dI : Nat → Nat → Nat) (sz : Nat) {L : List Nat} {cs : Nat → ClassId} (F : Nat → va_E) (x0 : Int32) (x1 : Int32) (x2 : Int32) (hx0 : 0 ≤ x0.toInt ∧ x0.toInt ≤ 3) (hx1 : 0 ≤ x1.toInt ∧ x1.toInt ≤ 7) (hx2 : 0 ≤ x2.toInt ∧ x2.toInt ≤ 3) : Met l yX7_registerAt (Cond.code yX7_registerAt cX7_registerAt 3 (some .int) :: T0) ({ frames := 0, cells := 0, slots := 0, locals := 0 }) (va_Pc [.int x0, .int x1, .int x2] (s_W dC dI sz L F [(cs 0, .int), (cs 1, .byte), (cs 2, .long), (cs 3, .object RX5), (cs 4, .object RX4), (cs 5, .array .int), (cs 6, .char), (cs 7, .boolean)])) (va_Qi (fun (r : Int32) (G : Nat → va_E) => (128 ≤ r.toInt ∧ r.toInt ≤ 255) ∧ True ∧ G = F ∧ (r.toInt = 128 + 32 * x0.toInt + 4 * x1.toInt + x2.toInt)) (fun (G : Nat → va_E) (t : State) => va_P (dC, dI) vwCl (va_pl L G) t.heap ∧ va_K (dC, dI) vwCl [(cs 0, .int), (cs 1, .byte), (cs 2, .long), (cs 3, .object RX5), (cs 4, .object RX4), (cs 5, .array .int), (cs 6, .char), (cs 7, .boolean)] t) (fun q => q ∈ L)) 0 0 (fun q => q ∈ L) := by
  refine Met.ofW (cc := cX7_registerAt) (maxL := 3) (ret := (some .int)) (by decide) rfl ?_
  intro p e s m args below meth c s₁ B hml hv
  obtain ⟨rfl, hsz, hP, hK, hD, hN⟩ := hv
  have hx := B.exec
  have hb := B.bytes
  have hr := B.returns
  have hts : ∀ w ∈ T0, w.before _ s = true := fun w h => atoms_spec (ws := Cond.code yX7_registerAt cX7_registerAt 3 (some .int) :: T0) B.pre w (List.mem_cons_of_mem _ h)
  have hown : s.vm.findClass RX7 = some m.cls := findClass_of_methodNamed B.named
  have hlocks := B.notSynchronized
  have hS : va_S (fun q => q ∈ L) s.heap s.heap [] := va_S.rf
  have hl := lv_entry ([.int x0, .int x1, .int x2]) (n := 3) (Nat.le_of_ble_eq_true rfl)
  rw [lg_entry_eq]
  generalize (lg_sl ([.int x0, .int x1, .int x2]) ++ List.replicate (3 - (lg_sl ([.int x0, .int x1, .int x2])).length) Slot.unset).toArray = ls at hl ⊢
  have hl : lv_has ls 3 [(0, .int x0), (1, .int x1), (2, .int x2)] := hl
  refine s_gen hP hS (fun H locs hP hS => ?_)
  refine lv_sipush (v := 128) hx hb dX7_registerAt_0 (by decide) ?_
  refine lv_bipush (v := 32) hx hb dX7_registerAt_3 (by decide) ?_
  refine lv_iload_n hx hb dX7_registerAt_5 rfl (lv_at hl 0 rfl) ?_
  refine lv_imul hx hb dX7_registerAt_6 ?_
  refine lv_topi (fun v1 ev1 => ?_)
  have qv1 : v1.toInt = 32 * x0.toInt := by rw [ev1]; exact th_mul (by decide) rfl ⟨by omega, by omega⟩
  refine lv_iadd hx hb dX7_registerAt_7 ?_
  refine lv_topi (fun v2 ev2 => ?_)
  have qv2 : v2.toInt = 128 + v1.toInt := by rw [ev2]; exact th_add (by decide) rfl ⟨by omega, by omega⟩
  refine lv_iconst (v := 4) hx hb dX7_registerAt_8 (by decide) ?_
  refine lv_iload_n hx hb dX7_registerAt_9 rfl (lv_at hl 1 rfl) ?_
  refine lv_imul hx hb dX7_registerAt_10 ?_
  refine lv_topi (fun v3 ev3 => ?_)
  have qv3 : v3.toInt = 4 * x1.toInt := by rw [ev3]; exact th_mul (by decide) rfl ⟨by omega, by omega⟩
  refine lv_iadd hx hb dX7_registerAt_11 ?_
  refine lv_topi (fun v4 ev4 => ?_)
  have qv4 : v4.toInt = v2.toInt + v3.toInt := by rw [ev4]; exact th_add rfl rfl ⟨by omega, by omega⟩
  refine lv_iload_n hx hb dX7_registerAt_12 rfl (lv_at hl 2 rfl) ?_
  refine lv_iadd hx hb dX7_registerAt_13 ?_
  refine lv_topi (fun v5 ev5 => ?_)
  have qv5 : v5.toInt = v4.toInt + x2.toInt := by rw [ev5]; exact th_add rfl rfl ⟨by omega, by omega⟩
  exact W.iret (v := v5) hx hb hr (fun t ht hW => ⟨⟨v5, F, rfl, ⟨⟨by omega, by omega⟩, trivial, rfl, (by omega)⟩, by rw [ht]; exact hP, va_K.moved hW.alike hK⟩, hS.F ht⟩) hS.2.2 dX7_registerAt_14

set_option maxHeartbeats 4000000 in
set_option maxRecDepth 100000 in
theorem y_X7_nextAt (l : Launch) (dC : Nat → ClassId) (dI : Nat → Nat → Nat) (sz : Nat) {L : List Nat} {cs : Nat → ClassId} (F : Nat → va_E) (x0 : Int32) (x1 : Int32) (hx0 : 0 ≤ x0.toInt ∧ x0.toInt ≤ 3) (hx1 : 0 ≤ x1.toInt ∧ x1.toInt ≤ 7) : Met l yX7_nextAt (Cond.code yX7_nextAt cX7_nextAt 2 (some .int) :: T0) ({ frames := 0, cells := 0, slots := 0, locals := 0 }) (va_Pc [.int x0, .int x1] (s_W dC dI sz L F [(cs 0, .int), (cs 1, .byte), (cs 2, .long), (cs 3, .object RX5), (cs 4, .object RX4), (cs 5, .array .int), (cs 6, .char), (cs 7, .boolean)])) (va_Qi (fun (r : Int32) (G : Nat → va_E) => (256 ≤ r.toInt ∧ r.toInt ≤ 287) ∧ True ∧ G = F ∧ (r.toInt = 256 + 8 * x0.toInt + x1.toInt)) (fun (G : Nat → va_E) (t : State) => va_P (dC, dI) vwCl (va_pl L G) t.heap ∧ va_K (dC, dI) vwCl [(cs 0, .int), (cs 1, .byte), (cs 2, .long), (cs 3, .object RX5), (cs 4, .object RX4), (cs 5, .array .int), (cs 6, .char), (cs 7, .boolean)] t) (fun q => q ∈ L)) 0 0 (fun q => q ∈ L) := by
  refine Met.ofW (cc := cX7_nextAt) (maxL := 2) (ret := (some .int)) (by decide) rfl ?_
  intro p e s m args below meth c s₁ B hml hv
  obtain ⟨rfl, hsz, hP, hK, hD, hN⟩ := hv
  have hx := B.exec
  have hb := B.bytes
  have hr := B.returns
  have hts : ∀ w ∈ T0, w.before _ s = true := fun w h => atoms_spec (ws := Cond.code yX7_nextAt cX7_nextAt 2 (some .int) :: T0) B.pre w (List.mem_cons_of_mem _ h)
  have hown : s.vm.findClass RX7 = some m.cls := findClass_of_methodNamed B.named
  have hlocks := B.notSynchronized
  have hS : va_S (fun q => q ∈ L) s.heap s.heap [] := va_S.rf
  have hl := lv_entry ([.int x0, .int x1]) (n := 2) (Nat.le_of_ble_eq_true rfl)
  rw [lg_entry_eq]
  generalize (lg_sl ([.int x0, .int x1]) ++ List.replicate (2 - (lg_sl ([.int x0, .int x1])).length) Slot.unset).toArray = ls at hl ⊢
  have hl : lv_has ls 2 [(0, .int x0), (1, .int x1)] := hl
  refine s_gen hP hS (fun H locs hP hS => ?_)
  refine lv_sipush (v := 256) hx hb dX7_nextAt_0 (by decide) ?_
  refine lv_bipush (v := 8) hx hb dX7_nextAt_3 (by decide) ?_
  refine lv_iload_n hx hb dX7_nextAt_5 rfl (lv_at hl 0 rfl) ?_
  refine lv_imul hx hb dX7_nextAt_6 ?_
  refine lv_topi (fun v1 ev1 => ?_)
  have qv1 : v1.toInt = 8 * x0.toInt := by rw [ev1]; exact th_mul (by decide) rfl ⟨by omega, by omega⟩
  refine lv_iadd hx hb dX7_nextAt_7 ?_
  refine lv_topi (fun v2 ev2 => ?_)
  have qv2 : v2.toInt = 256 + v1.toInt := by rw [ev2]; exact th_add (by decide) rfl ⟨by omega, by omega⟩
  refine lv_iload_n hx hb dX7_nextAt_8 rfl (lv_at hl 1 rfl) ?_
  refine lv_iadd hx hb dX7_nextAt_9 ?_
  refine lv_topi (fun v3 ev3 => ?_)
  have qv3 : v3.toInt = v2.toInt + x1.toInt := by rw [ev3]; exact th_add rfl rfl ⟨by omega, by omega⟩
  exact W.iret (v := v3) hx hb hr (fun t ht hW => ⟨⟨v3, F, rfl, ⟨⟨by omega, by omega⟩, trivial, rfl, (by omega)⟩, by rw [ht]; exact hP, va_K.moved hW.alike hK⟩, hS.F ht⟩) hS.2.2 dX7_nextAt_10

set_option maxHeartbeats 4000000 in
set_option maxRecDepth 100000 in
theorem y_X7_partAt (l : Launch) (dC : Nat → ClassId) (dI : Nat → Nat → Nat) (sz : Nat) {L : List Nat} {cs : Nat → ClassId} (F : Nat → va_E) (x0 : Int32) (x1 : Int32) (x2 : Int32) (hx0 : 0 ≤ x0.toInt ∧ x0.toInt ≤ 3) (hx1 : 0 ≤ x1.toInt ∧ x1.toInt ≤ 15) (hx2 : 0 ≤ x2.toInt ∧ x2.toInt ≤ 2) : Met l yX7_partAt (Cond.code yX7_partAt cX7_partAt 3 (some .int) :: T0) ({ frames := 0, cells := 0, slots := 0, locals := 0 }) (va_Pc [.int x0, .int x1, .int x2] (s_W dC dI sz L F [(cs 0, .int), (cs 1, .byte), (cs 2, .long), (cs 3, .object RX5), (cs 4, .object RX4), (cs 5, .array .int), (cs 6, .char), (cs 7, .boolean)])) (va_Qi (fun (r : Int32) (G : Nat → va_E) => (288 ≤ r.toInt ∧ r.toInt ≤ 479) ∧ True ∧ G = F ∧ (r.toInt = 288 + 48 * x0.toInt + 3 * x1.toInt + x2.toInt)) (fun (G : Nat → va_E) (t : State) => va_P (dC, dI) vwCl (va_pl L G) t.heap ∧ va_K (dC, dI) vwCl [(cs 0, .int), (cs 1, .byte), (cs 2, .long), (cs 3, .object RX5), (cs 4, .object RX4), (cs 5, .array .int), (cs 6, .char), (cs 7, .boolean)] t) (fun q => q ∈ L)) 0 0 (fun q => q ∈ L) := by
  refine Met.ofW (cc := cX7_partAt) (maxL := 3) (ret := (some .int)) (by decide) rfl ?_
  intro p e s m args below meth c s₁ B hml hv
  obtain ⟨rfl, hsz, hP, hK, hD, hN⟩ := hv
  have hx := B.exec
  have hb := B.bytes
  have hr := B.returns
  have hts : ∀ w ∈ T0, w.before _ s = true := fun w h => atoms_spec (ws := Cond.code yX7_partAt cX7_partAt 3 (some .int) :: T0) B.pre w (List.mem_cons_of_mem _ h)
  have hown : s.vm.findClass RX7 = some m.cls := findClass_of_methodNamed B.named
  have hlocks := B.notSynchronized
  have hS : va_S (fun q => q ∈ L) s.heap s.heap [] := va_S.rf
  have hl := lv_entry ([.int x0, .int x1, .int x2]) (n := 3) (Nat.le_of_ble_eq_true rfl)
  rw [lg_entry_eq]
  generalize (lg_sl ([.int x0, .int x1, .int x2]) ++ List.replicate (3 - (lg_sl ([.int x0, .int x1, .int x2])).length) Slot.unset).toArray = ls at hl ⊢
  have hl : lv_has ls 3 [(0, .int x0), (1, .int x1), (2, .int x2)] := hl
  refine s_gen hP hS (fun H locs hP hS => ?_)
  refine lv_sipush (v := 288) hx hb dX7_partAt_0 (by decide) ?_
  refine lv_iconst (v := 3) hx hb dX7_partAt_3 (by decide) ?_
  refine lv_bipush (v := 16) hx hb dX7_partAt_4 (by decide) ?_
  refine lv_iload_n hx hb dX7_partAt_6 rfl (lv_at hl 0 rfl) ?_
  refine lv_imul hx hb dX7_partAt_7 ?_
  refine lv_topi (fun v1 ev1 => ?_)
  have qv1 : v1.toInt = 16 * x0.toInt := by rw [ev1]; exact th_mul (by decide) rfl ⟨by omega, by omega⟩
  refine lv_iload_n hx hb dX7_partAt_8 rfl (lv_at hl 1 rfl) ?_
  refine lv_iadd hx hb dX7_partAt_9 ?_
  refine lv_topi (fun v2 ev2 => ?_)
  have qv2 : v2.toInt = v1.toInt + x1.toInt := by rw [ev2]; exact th_add rfl rfl ⟨by omega, by omega⟩
  refine lv_imul hx hb dX7_partAt_10 ?_
  refine lv_topi (fun v3 ev3 => ?_)
  have qv3 : v3.toInt = 3 * v2.toInt := by rw [ev3]; exact th_mul (by decide) rfl ⟨by omega, by omega⟩
  refine lv_iadd hx hb dX7_partAt_11 ?_
  refine lv_topi (fun v4 ev4 => ?_)
  have qv4 : v4.toInt = 288 + v3.toInt := by rw [ev4]; exact th_add (by decide) rfl ⟨by omega, by omega⟩
  refine lv_iload_n hx hb dX7_partAt_12 rfl (lv_at hl 2 rfl) ?_
  refine lv_iadd hx hb dX7_partAt_13 ?_
  refine lv_topi (fun v5 ev5 => ?_)
  have qv5 : v5.toInt = v4.toInt + x2.toInt := by rw [ev5]; exact th_add rfl rfl ⟨by omega, by omega⟩
  exact W.iret (v := v5) hx hb hr (fun t ht hW => ⟨⟨v5, F, rfl, ⟨⟨by omega, by omega⟩, trivial, rfl, (by omega)⟩, by rw [ht]; exact hP, va_K.moved hW.alike hK⟩, hS.F ht⟩) hS.2.2 dX7_partAt_14

set_option maxHeartbeats 4000000 in
set_option maxRecDepth 100000 in
theorem y_X7_top (l : Launch) (dC : Nat → ClassId) (dI : Nat → Nat → Nat) (sz : Nat) {L : List Nat} {K : Nat → Nat} {cs : Nat → ClassId} (hLK : ∀ a {k : Nat}, K a = k → k ≠ 0 → a ∈ L) (A : Nat → Nat) (hA : y_A K A) (F : Nat → va_E) (a0 : Nat) (x1 : Int32) (ha0 : K a0 = 9) (hx1 : 0 ≤ x1.toInt ∧ x1.toInt ≤ 3) (hI : y_I K cs A F) : Met l yX7_top (Cond.code yX7_top cX7_top 2 (some .int) :: T0) ({ frames := 2, cells := 0, slots := 0, locals := 43 }) (va_Pc [.ref a0, .int x1] (s_W dC dI sz L F [(cs 0, .int), (cs 1, .byte), (cs 2, .long), (cs 3, .object RX5), (cs 4, .object RX4), (cs 5, .array .int), (cs 6, .char), (cs 7, .boolean)])) (va_Qi (fun (r : Int32) (G : Nat → va_E) => True ∧ True ∧ y_I K cs A G ∧ (∀ b, K b ∉ ([] : List Nat) → G b = F b) ∧ (∀ k, k ∈ ([1, 2, 3, 4, 5, 6, 7, 8, 11, 15, 16, 19, 25, 26, 27, 31, 32] : List Nat) → y_fi G a0 k = y_fi F a0 k) ∧ (r = y_c (y_at F (A 20)) (109 + 6 * x1.toInt) - 1)) (fun (G : Nat → va_E) (t : State) => va_P (dC, dI) vwCl (va_pl L G) t.heap ∧ va_K (dC, dI) vwCl [(cs 0, .int), (cs 1, .byte), (cs 2, .long), (cs 3, .object RX5), (cs 4, .object RX4), (cs 5, .array .int), (cs 6, .char), (cs 7, .boolean)] t) (fun q => q ∈ L)) 0 0 (fun q => q ∈ L) := by
  refine Met.ofW (cc := cX7_top) (maxL := 2) (ret := (some .int)) (by decide) rfl ?_
  intro p e s m args below meth c s₁ B hml hv
  obtain ⟨rfl, hsz, hP, hK, hD, hN⟩ := hv
  have hx := B.exec
  have hb := B.bytes
  have hr := B.returns
  have hts : ∀ w ∈ T0, w.before _ s = true := fun w h => atoms_spec (ws := Cond.code yX7_top cX7_top 2 (some .int) :: T0) B.pre w (List.mem_cons_of_mem _ h)
  have hown : s.vm.findClass RX7 = some m.cls := findClass_of_methodNamed B.named
  have hlocks := B.notSynchronized
  have hS : va_S (fun q => q ∈ L) s.heap s.heap [] := va_S.rf
  have hfr : ∀ b, K b ∉ ([] : List Nat) → F b = F b := fun _ _ => rfl
  have hl := lv_entry ([.ref a0, .int x1]) (n := 2) (Nat.le_of_ble_eq_true rfl)
  rw [lg_entry_eq]
  generalize (lg_sl ([.ref a0, .int x1]) ++ List.replicate (2 - (lg_sl ([.ref a0, .int x1])).length) Slot.unset).toArray = ls at hl ⊢
  have hl : lv_has ls 2 [(0, .ref a0), (1, .int x1)] := hl
  refine s_gen hP hS (fun H locs hP hS => ?_)
  obtain ⟨z0, q0, oY0, bz0, bq0⟩ := y_opY hI ha0
  have hz0 : ∀ k, k ∈ ([1, 2, 3, 4, 5, 6, 7, 8, 11, 15, 16, 19, 25, 26, 27, 31, 32] : List Nat) → z0 k = z0 k := fun _ _ => rfl
  obtain ⟨f1, o2, b3⟩ := y_op20 hI
  refine lv_aload_n hx hb dX7_top_0 rfl (lv_at hl 0 rfl) ?_
  refine lv_iload_n hx hb dX7_top_1 rfl (lv_at hl 1 rfl) ?_
  refine lv_iconst (v := 5) hx hb dX7_top_2 (by decide) ?_
  have rg4 : 0 ≤ x1.toInt ∧ x1.toInt ≤ 3 := ⟨by omega, by omega⟩
  refine va_calli (va_runV (As := [.int x1, .int 5]) (rest := []) ⟨hx, hb, hml, hown, hts⟩ (y_X7_its l dC dI H.size hLK A hA F a0 x1 5 ha0 rg4 (by decide) hI) (cwV 2 hts (ax_gV T_1057 T_1059 T_1060 T_265 T_1058) rfl rfl rfl (by decide +kernel) ⟨Nat.le_of_ble_eq_true rfl, Nat.le_of_ble_eq_true rfl⟩) ⟨fun a U g mk q => ⟨q.1, s_pc (U := U) rfl rfl q.2⟩, s_recv hK hP (hLK _ ha0 (by decide)) (ci := 7) rfl oY0, fun U hU hW => ⟨rfl, s_pw hU hW hP hK hD hN⟩⟩ rfl rfl hl.1 rfl (lv_room (Nat.le_of_ble_eq_true rfl)) dX7_top_3 ⟨Nat.zero_le _, Nat.zero_le _⟩) hS (fun q _ h => h) (fun q h => h) (fun r6 F7 t H1 locs ht hvm hw hB hz1 hk1 hS => ?_)
  obtain ⟨hP, hK1⟩ := hB
  rw [ht] at hP
  generalize H1 = H at hP hS ⊢
  clear hz1 hk1 hvm hK1
  obtain ⟨h8, h10, hI, hfr1, hzf, h9⟩ := hw
  have o11 : F7 (A 20) = .inl (cs 0, 918, .inl f1) := (hfr1 _ (by rw [(y_k20 hA)]; decide)).trans o2
  have oY12 : F7 a0 = .inr (7, y_fl A z0 q0) := (hfr1 _ (by rw [ha0]; decide)).trans oY0
  have hfr : ∀ b, K b ∉ ([] : List Nat) → F7 b = F b := fun b hb9 => (hfr1 b (fun q => hb9 (s_sub (by decide) q))).trans (hfr b hb9)
  replace h9 : (r6 = y_c f1 (104 + 6 * x1.toInt + 5)) := by have q9 := h9; rw [y_atE o2] at q9; exact q9
  have h9 : r6 = y_c f1 (109 + 6 * x1.toInt) := h9.trans (congrArg (y_c f1) (by omega))
  have h13 := congrArg Int32.toInt h9
  refine lv_iconst (v := 1) hx hb dX7_top_6 (by decide) ?_
  refine lv_isub hx hb dX7_top_7 ?_
  refine lv_topi (fun v14 ev14 => ?_)
  exact W.iret (v := v14) hx hb hr (fun t ht hW => ⟨⟨v14, F7, rfl, ⟨trivial, trivial, hI, hfr, fun k hk => (y_fiZ oY12 (s_sub (by decide) hk)).trans ((hz0 k hk).trans (y_fiZ oY0 (s_sub (by decide) hk)).symm), (by rw [y_atE o2]; exact (by rw [ev14, h9]))⟩, by rw [ht]; exact hP, va_K.moved hW.alike hK⟩, hS.F ht⟩) hS.2.2 dX7_top_8

set_option maxHeartbeats 4000000 in
set_option maxRecDepth 100000 in
theorem y_X7_isOf (l : Launch) (dC : Nat → ClassId) (dI : Nat → Nat → Nat) (sz : Nat) {L : List Nat} {cs : Nat → ClassId} (F : Nat → va_E) (x0 : Int32) (x1 : Int32) (hx1 : 0 ≤ x1.toInt ∧ x1.toInt ≤ 31) : Met l yX7_isOf (Cond.code yX7_isOf cX7_isOf 2 (some .boolean) :: T0) ({ frames := 0, cells := 0, slots := 0, locals := 0 }) (va_Pc [.int x0, .int x1] (s_W dC dI sz L F [(cs 0, .int), (cs 1, .byte), (cs 2, .long), (cs 3, .object RX5), (cs 4, .object RX4), (cs 5, .array .int), (cs 6, .char), (cs 7, .boolean)])) (va_Qi (fun (r : Int32) (G : Nat → va_E) => (0 ≤ r.toInt ∧ r.toInt ≤ 1) ∧ True ∧ G = F ∧ ((r.toInt = 1 ∧ bt x0 x1.toInt.toNat = true) ∨ (r.toInt = 0 ∧ bt x0 x1.toInt.toNat = false))) (fun (G : Nat → va_E) (t : State) => va_P (dC, dI) vwCl (va_pl L G) t.heap ∧ va_K (dC, dI) vwCl [(cs 0, .int), (cs 1, .byte), (cs 2, .long), (cs 3, .object RX5), (cs 4, .object RX4), (cs 5, .array .int), (cs 6, .char), (cs 7, .boolean)] t) (fun q => q ∈ L)) 0 0 (fun q => q ∈ L) := by
  refine Met.ofW (cc := cX7_isOf) (maxL := 2) (ret := (some .boolean)) (by decide) rfl ?_
  intro p e s m args below meth c s₁ B hml hv
  obtain ⟨rfl, hsz, hP, hK, hD, hN⟩ := hv
  have hx := B.exec
  have hb := B.bytes
  have hr := B.returns
  have hts : ∀ w ∈ T0, w.before _ s = true := fun w h => atoms_spec (ws := Cond.code yX7_isOf cX7_isOf 2 (some .boolean) :: T0) B.pre w (List.mem_cons_of_mem _ h)
  have hown : s.vm.findClass RX7 = some m.cls := findClass_of_methodNamed B.named
  have hlocks := B.notSynchronized
  have hS : va_S (fun q => q ∈ L) s.heap s.heap [] := va_S.rf
  have hl := lv_entry ([.int x0, .int x1]) (n := 2) (Nat.le_of_ble_eq_true rfl)
  rw [lg_entry_eq]
  generalize (lg_sl ([.int x0, .int x1]) ++ List.replicate (2 - (lg_sl ([.int x0, .int x1])).length) Slot.unset).toArray = ls at hl ⊢
  have hl : lv_has ls 2 [(0, .int x0), (1, .int x1)] := hl
  refine s_gen hP hS (fun H locs hP hS => ?_)
  refine lv_iload_n hx hb dX7_isOf_0 rfl (lv_at hl 0 rfl) ?_
  refine lv_iload_n hx hb dX7_isOf_1 rfl (lv_at hl 1 rfl) ?_
  refine lv_ishr hx hb dX7_isOf_2 ?_
  refine lv_topi (fun v1 ev1 => ?_)
  refine lv_iconst (v := 1) hx hb dX7_isOf_3 (by decide) ?_
  refine lv_iand hx hb dX7_isOf_4 ?_
  refine lv_topi (fun v2 ev2 => ?_)
  have qv2 : 0 ≤ v2.toInt ∧ v2.toInt ≤ 1 := by rw [ev2]; exact th_and 1 (by decide) (by decide)
  refine lv_iconst (v := 1) hx hb dX7_isOf_5 (by decide) ?_
  refine lv_icmp_ne (tgt := 13) hx hb dX7_isOf_6 (by decide) (fun c3 => ?_) (fun c3 => ?_)
  · have c3 := mt (ax_eq (n := 1) (by decide)).mpr c3
    refine lv_iconst (v := 0) hx hb dX7_isOf_13 (by decide) ?_
    have h4 : (0 : Int32).toInt = 0 := by decide
    exact W.zret (v := 0) (ty := .boolean) hx hb hr (by decide) (fun t ht hW => ⟨⟨0, F, rfl, ⟨(by decide), trivial, rfl, (show ((0 = 1 ∧ bt x0 x1.toInt.toNat = true) ∨ (0 = 0 ∧ bt x0 x1.toInt.toNat = false)) from (Or.inr ⟨by decide, y_fF (fun q => c3 ((y_isOf2 ⟨by omega, by omega⟩ (by rw [ev2, ev1])).mpr q))⟩))⟩, by rw [ht]; exact hP, va_K.moved hW.alike hK⟩, hS.F ht⟩) hS.2.2 dX7_isOf_14
  · have c3 := (ax_eq (n := 1) (by decide)).mp c3
    refine lv_iconst (v := 1) hx hb dX7_isOf_9 (by decide) ?_
    refine lv_goto (tgt := 14) hx hb dX7_isOf_10 (by decide) ?_
    have h5 : (1 : Int32).toInt = 1 := by decide
    exact W.zret (v := 1) (ty := .boolean) hx hb hr (by decide) (fun t ht hW => ⟨⟨1, F, rfl, ⟨(by decide), trivial, rfl, (show ((1 = 1 ∧ bt x0 x1.toInt.toNat = true) ∨ (1 = 0 ∧ bt x0 x1.toInt.toNat = false)) from (Or.inl ⟨by decide, (y_isOf2 ⟨by omega, by omega⟩ (by rw [ev2, ev1])).mp c3⟩))⟩, by rw [ht]; exact hP, va_K.moved hW.alike hK⟩, hS.F ht⟩) hS.2.2 dX7_isOf_14

set_option maxHeartbeats 4000000 in
set_option maxRecDepth 100000 in
theorem y_X7_pushes (l : Launch) (dC : Nat → ClassId) (dI : Nat → Nat → Nat) (sz : Nat) {L : List Nat} {K : Nat → Nat} {cs : Nat → ClassId} (hLK : ∀ a {k : Nat}, K a = k → k ≠ 0 → a ∈ L) (A : Nat → Nat) (hA : y_A K A) (F : Nat → va_E) (a0 : Nat) (x1 : Int32) (x2 : Int32) (x3 : Int32) (x4 : Int32) (ha0 : K a0 = 9) (hx1 : 0 ≤ x1.toInt ∧ x1.toInt ≤ 3) (hI : y_I K cs A F) (hpn : (0 ≤ (y_c (y_at F (A 20)) (109 + 6 * x1.toInt)).toInt ∧ (y_c (y_at F (A 20)) (109 + 6 * x1.toInt)).toInt ≤ 15)) : Met l yX7_pushes (Cond.code yX7_pushes cX7_pushes 6 none :: T0) ({ frames := 2, cells := 0, slots := 0, locals := 43 }) (va_Pc [.ref a0, .int x1, .int x2, .int x3, .int x4] (s_W dC dI sz L F [(cs 0, .int), (cs 1, .byte), (cs 2, .long), (cs 3, .object RX5), (cs 4, .object RX4), (cs 5, .array .int), (cs 6, .char), (cs 7, .boolean)])) (va_Qv (fun (G : Nat → va_E) => True ∧ True ∧ y_I K cs A G ∧ (∀ b, K b ∉ [70] → G b = F b) ∧ (∀ k, k ∈ ([1, 2, 3, 4, 5, 6, 7, 8, 11, 15, 16, 19, 25, 26, 27, 31, 32] : List Nat) → y_fi G a0 k = y_fi F a0 k) ∧ (∀ j : Int, 0 ≤ j → y_c (y_at G (A 20)) j = y_psh (y_at F (A 20)) x1.toInt x2 x3 x4 j)) (fun (G : Nat → va_E) (t : State) => va_P (dC, dI) vwCl (va_pl L G) t.heap ∧ va_K (dC, dI) vwCl [(cs 0, .int), (cs 1, .byte), (cs 2, .long), (cs 3, .object RX5), (cs 4, .object RX4), (cs 5, .array .int), (cs 6, .char), (cs 7, .boolean)] t) (fun q => q ∈ L)) 0 0 (fun q => q ∈ L) := by
  refine Met.ofW (cc := cX7_pushes) (maxL := 6) (ret := none) (by decide) rfl ?_
  intro p e s m args below meth c s₁ B hml hv
  obtain ⟨rfl, hsz, hP, hK, hD, hN⟩ := hv
  have hx := B.exec
  have hb := B.bytes
  have hr := B.returns
  have hts : ∀ w ∈ T0, w.before _ s = true := fun w h => atoms_spec (ws := Cond.code yX7_pushes cX7_pushes 6 none :: T0) B.pre w (List.mem_cons_of_mem _ h)
  have hown : s.vm.findClass RX7 = some m.cls := findClass_of_methodNamed B.named
  have hlocks := B.notSynchronized
  have hS : va_S (fun q => q ∈ L) s.heap s.heap [] := va_S.rf
  have hfr : ∀ b, K b ∉ [70] → F b = F b := fun _ _ => rfl
  have hl := lv_entry ([.ref a0, .int x1, .int x2, .int x3, .int x4]) (n := 6) (Nat.le_of_ble_eq_true rfl)
  rw [lg_entry_eq]
  generalize (lg_sl ([.ref a0, .int x1, .int x2, .int x3, .int x4]) ++ List.replicate (6 - (lg_sl ([.ref a0, .int x1, .int x2, .int x3, .int x4])).length) Slot.unset).toArray = ls at hl ⊢
  have hl : lv_has ls 6 [(0, .ref a0), (1, .int x1), (2, .int x2), (3, .int x3), (4, .int x4)] := hl
  refine s_gen hP hS (fun H locs hP hS => ?_)
  obtain ⟨z0, q0, oY0, bz0, bq0⟩ := y_opY hI ha0
  have hz0 : ∀ k, k ∈ ([1, 2, 3, 4, 5, 6, 7, 8, 11, 15, 16, 19, 25, 26, 27, 31, 32] : List Nat) → z0 k = z0 k := fun _ _ => rfl
  obtain ⟨f1, o2, b3⟩ := y_op20 hI
  replace hpn : (0 ≤ (y_c f1 (109 + 6 * x1.toInt)).toInt ∧ (y_c f1 (109 + 6 * x1.toInt)).toInt ≤ 15) := by have q9 := hpn; rw [y_atE o2] at q9; exact q9
  refine lv_aload_n hx hb dX7_pushes_0 rfl (lv_at hl 0 rfl) ?_
  refine lv_iload_n hx hb dX7_pushes_1 rfl (lv_at hl 1 rfl) ?_
  refine lv_iconst (v := 5) hx hb dX7_pushes_2 (by decide) ?_
  have rg4 : 0 ≤ x1.toInt ∧ x1.toInt ≤ 3 := ⟨by omega, by omega⟩
  refine va_calli (va_runV (As := [.int x1, .int 5]) (rest := []) ⟨hx, hb, hml, hown, hts⟩ (y_X7_its l dC dI H.size hLK A hA F a0 x1 5 ha0 rg4 (by decide) hI) (cwV 2 hts (ax_gV T_1057 T_1059 T_1060 T_265 T_1058) rfl rfl rfl (by decide +kernel) ⟨Nat.le_of_ble_eq_true rfl, Nat.le_of_ble_eq_true rfl⟩) ⟨fun a U g mk q => ⟨q.1, s_pc (U := U) rfl rfl q.2⟩, s_recv hK hP (hLK _ ha0 (by decide)) (ci := 7) rfl oY0, fun U hU hW => ⟨rfl, s_pw hU hW hP hK hD hN⟩⟩ rfl rfl hl.1 rfl (lv_room (Nat.le_of_ble_eq_true rfl)) dX7_pushes_3 ⟨Nat.zero_le _, Nat.zero_le _⟩) hS (fun q _ h => h) (fun q h => h) (fun r6 F7 t H1 locs ht hvm hw hB hz1 hk1 hS => ?_)
  obtain ⟨hP, hK1⟩ := hB
  rw [ht] at hP
  generalize H1 = H at hP hS ⊢
  clear hz1 hk1 hvm hK1
  obtain ⟨h8, h10, hI, hfr1, hzf, h9⟩ := hw
  have o11 : F7 (A 20) = .inl (cs 0, 918, .inl f1) := (hfr1 _ (by rw [(y_k20 hA)]; decide)).trans o2
  have oY12 : F7 a0 = .inr (7, y_fl A z0 q0) := (hfr1 _ (by rw [ha0]; decide)).trans oY0
  have hfr : ∀ b, K b ∉ [70] → F7 b = F b := fun b hb9 => (hfr1 b (fun q => hb9 (s_sub (by decide) q))).trans (hfr b hb9)
  replace h9 : (r6 = y_c f1 (104 + 6 * x1.toInt + 5)) := by have q9 := h9; rw [y_atE o2] at q9; exact q9
  have h9 : r6 = y_c f1 (109 + 6 * x1.toInt) := h9.trans (congrArg (y_c f1) (by omega))
  have h13 := congrArg Int32.toInt h9
  have h14 : 0 ≤ r6.toInt ∧ r6.toInt ≤ 15 := by omega
  refine lv_istore (lv' := [(5, .int r6), (0, .ref a0), (1, .int x1), (2, .int x2), (3, .int x3), (4, .int x4)]) hx hb dX7_pushes_6 hl (by decide) rfl (fun ls hl => ?_)
  refine lv_aload_n hx hb dX7_pushes_8 rfl (lv_at hl 1 rfl) ?_
  refine th_get (D := (dC, dI)) (ci := 7) (v := .ref (A 20)) (C := RX7) (T := TX7) (N := 34) hx hb hts inX7 hown hK hP (hLK _ ha0 (by decide)) oY12 rfl 20 (by decide) (hts _ T_251) (fun _ h9 => h9) rfl dX7_pushes_9 ?_
  refine lv_iload_n hx hb dX7_pushes_12 rfl (lv_at hl 2 rfl) ?_
  refine lv_iload hx hb dX7_pushes_13 (lv_at hl 0 rfl) ?_
  refine lv_iconst (v := 0) hx hb dX7_pushes_15 (by decide) ?_
  have rg15 : 0 ≤ r6.toInt ∧ r6.toInt ≤ 15 := ⟨by omega, by omega⟩
  refine va_calli (va_runS (As := [.int x1, .int r6, .int 0]) (rest := [.ref (A 20)]) ⟨hx, hb, hml, hown, hts⟩ (y_X7_partAt l dC dI H.size F7 x1 r6 0 rg4 rg15 (by decide)) (cwS 3 hts (ax_gS T_1078 T_1080 T_265 T_1079) rfl rfl rfl (by decide +kernel) ⟨Nat.le_of_ble_eq_true rfl, Nat.le_of_ble_eq_true rfl⟩) ⟨fun a U g mk q => ⟨q.1, s_pc (U := U) rfl rfl q.2⟩, fun U hU hW => ⟨rfl, s_pw hU hW hP hK hD hN⟩⟩ rfl rfl hl.1 rfl (lv_room (Nat.le_of_ble_eq_true rfl)) dX7_pushes_16 ⟨Nat.zero_le _, Nat.zero_le _⟩) hS (fun q _ h => h) (fun q h => h) (fun r17 F18 t H1 locs ht hvm hw hB hz1 hk1 hS => ?_)
  obtain ⟨hP, hK1⟩ := hB
  rw [ht] at hP
  generalize H1 = H at hP hS ⊢
  clear hz1 hk1 hvm hK1
  obtain ⟨h19, h21, hG9, h20⟩ := hw
  rw [hG9] at hP
  replace h20 : (r17.toInt = 288 + 48 * x1.toInt + 3 * r6.toInt + 0) := by have q9 := h20; exact q9
  refine lv_iload_n hx hb dX7_pushes_19 rfl (lv_at hl 3 rfl) ?_
  refine th_iast hx hb hK hP hD hS (hLK _ (y_k20 hA) (by decide)) 0 o11 rfl (th_in ⟨by omega, by omega⟩) dX7_pushes_20 (fun H locs hP hS => ?_)
  obtain ⟨f22, u23⟩ : ∃ g : Nat → Int32, g = upd f1 (r17 : Int32).toNatClampNeg x2 := ⟨_, rfl⟩
  rw [← u23] at hP
  have b24 : y_bd 20 f22 := trivial
  have hP : va_P (dC, dI) vwCl (va_pl L (va_up F7 (A 20) (.inl (cs 0, 918, .inl f22)))) H := hP
  obtain ⟨F25, hF26⟩ : ∃ G : Nat → va_E, G = va_up F7 (A 20) (.inl (cs 0, 918, .inl f22)) := ⟨_, rfl⟩
  rw [← hF26] at hP
  have hI : y_I K cs A F25 := by rw [hF26]; exact y_clA (i := 20) hA hI (by decide) b24
  have hfr : ∀ b, K b ∉ [70] → F25 b = F b := by rw [hF26]; exact s_fr hfr (y_k20 hA) (by decide)
  have oY27 : F25 a0 = .inr (7, y_fl A z0 q0) := by rw [hF26]; exact th_ne (th_kd ha0 (y_k20 hA) (by decide)) oY12
  have o28 : F25 (A 20) = .inl (cs 0, 918, .inl f22) := by rw [hF26]; exact th_up
  have u29 : ∀ j : Int, 0 ≤ j → y_c f22 j = if j = r17.toInt then x2 else y_c f1 j := by rw [u23]; exact y_cu rfl (by omega)
  refine lv_aload_n hx hb dX7_pushes_21 rfl (lv_at hl 1 rfl) ?_
  refine th_get (D := (dC, dI)) (ci := 7) (v := .ref (A 20)) (C := RX7) (T := TX7) (N := 34) hx hb hts inX7 hown hK hP (hLK _ ha0 (by decide)) oY27 rfl 20 (by decide) (hts _ T_251) (fun _ h9 => h9) rfl dX7_pushes_22 ?_
  refine lv_iload_n hx hb dX7_pushes_25 rfl (lv_at hl 2 rfl) ?_
  refine lv_iload hx hb dX7_pushes_26 (lv_at hl 0 rfl) ?_
  refine lv_iconst (v := 1) hx hb dX7_pushes_28 (by decide) ?_
  refine va_calli (va_runS (As := [.int x1, .int r6, .int 1]) (rest := [.ref (A 20)]) ⟨hx, hb, hml, hown, hts⟩ (y_X7_partAt l dC dI H.size F25 x1 r6 1 rg4 rg15 (by decide)) (cwS 3 hts (ax_gS T_1078 T_1080 T_265 T_1079) rfl rfl rfl (by decide +kernel) ⟨Nat.le_of_ble_eq_true rfl, Nat.le_of_ble_eq_true rfl⟩) ⟨fun a U g mk q => ⟨q.1, s_pc (U := U) rfl rfl q.2⟩, fun U hU hW => ⟨rfl, s_pw hU hW hP hK hD hN⟩⟩ rfl rfl hl.1 rfl (lv_room (Nat.le_of_ble_eq_true rfl)) dX7_pushes_29 ⟨Nat.zero_le _, Nat.zero_le _⟩) hS (fun q _ h => h) (fun q h => h) (fun r31 F32 t H1 locs ht hvm hw hB hz1 hk1 hS => ?_)
  obtain ⟨hP, hK1⟩ := hB
  rw [ht] at hP
  generalize H1 = H at hP hS ⊢
  clear hz1 hk1 hvm hK1
  obtain ⟨h33, h35, hG9, h34⟩ := hw
  rw [hG9] at hP
  replace h34 : (r31.toInt = 288 + 48 * x1.toInt + 3 * r6.toInt + 1) := by have q9 := h34; exact q9
  refine lv_iload_n hx hb dX7_pushes_32 rfl (lv_at hl 4 rfl) ?_
  refine th_iast hx hb hK hP hD hS (hLK _ (y_k20 hA) (by decide)) 0 o28 rfl (th_in ⟨by omega, by omega⟩) dX7_pushes_33 (fun H locs hP hS => ?_)
  obtain ⟨f36, u37⟩ : ∃ g : Nat → Int32, g = upd f22 (r31 : Int32).toNatClampNeg x3 := ⟨_, rfl⟩
  rw [← u37] at hP
  have b38 : y_bd 20 f36 := trivial
  have hP : va_P (dC, dI) vwCl (va_pl L (va_up F25 (A 20) (.inl (cs 0, 918, .inl f36)))) H := hP
  obtain ⟨F39, hF40⟩ : ∃ G : Nat → va_E, G = va_up F25 (A 20) (.inl (cs 0, 918, .inl f36)) := ⟨_, rfl⟩
  rw [← hF40] at hP
  have hI : y_I K cs A F39 := by rw [hF40]; exact y_clA (i := 20) hA hI (by decide) b38
  have hfr : ∀ b, K b ∉ [70] → F39 b = F b := by rw [hF40]; exact s_fr hfr (y_k20 hA) (by decide)
  have oY41 : F39 a0 = .inr (7, y_fl A z0 q0) := by rw [hF40]; exact th_ne (th_kd ha0 (y_k20 hA) (by decide)) oY27
  have o42 : F39 (A 20) = .inl (cs 0, 918, .inl f36) := by rw [hF40]; exact th_up
  have u43 : ∀ j : Int, 0 ≤ j → y_c f36 j = if j = r31.toInt then x3 else y_c f22 j := by rw [u37]; exact y_cu rfl (by omega)
  refine lv_aload_n hx hb dX7_pushes_34 rfl (lv_at hl 1 rfl) ?_
  refine th_get (D := (dC, dI)) (ci := 7) (v := .ref (A 20)) (C := RX7) (T := TX7) (N := 34) hx hb hts inX7 hown hK hP (hLK _ ha0 (by decide)) oY41 rfl 20 (by decide) (hts _ T_251) (fun _ h9 => h9) rfl dX7_pushes_35 ?_
  refine lv_iload_n hx hb dX7_pushes_38 rfl (lv_at hl 2 rfl) ?_
  refine lv_iload hx hb dX7_pushes_39 (lv_at hl 0 rfl) ?_
  refine lv_iconst (v := 2) hx hb dX7_pushes_41 (by decide) ?_
  refine va_calli (va_runS (As := [.int x1, .int r6, .int 2]) (rest := [.ref (A 20)]) ⟨hx, hb, hml, hown, hts⟩ (y_X7_partAt l dC dI H.size F39 x1 r6 2 rg4 rg15 (by decide)) (cwS 3 hts (ax_gS T_1078 T_1080 T_265 T_1079) rfl rfl rfl (by decide +kernel) ⟨Nat.le_of_ble_eq_true rfl, Nat.le_of_ble_eq_true rfl⟩) ⟨fun a U g mk q => ⟨q.1, s_pc (U := U) rfl rfl q.2⟩, fun U hU hW => ⟨rfl, s_pw hU hW hP hK hD hN⟩⟩ rfl rfl hl.1 rfl (lv_room (Nat.le_of_ble_eq_true rfl)) dX7_pushes_42 ⟨Nat.zero_le _, Nat.zero_le _⟩) hS (fun q _ h => h) (fun q h => h) (fun r45 F46 t H1 locs ht hvm hw hB hz1 hk1 hS => ?_)
  obtain ⟨hP, hK1⟩ := hB
  rw [ht] at hP
  generalize H1 = H at hP hS ⊢
  clear hz1 hk1 hvm hK1
  obtain ⟨h47, h49, hG9, h48⟩ := hw
  rw [hG9] at hP
  replace h48 : (r45.toInt = 288 + 48 * x1.toInt + 3 * r6.toInt + 2) := by have q9 := h48; exact q9
  refine lv_iload hx hb dX7_pushes_45 (lv_at hl 5 rfl) ?_
  refine th_iast hx hb hK hP hD hS (hLK _ (y_k20 hA) (by decide)) 0 o42 rfl (th_in ⟨by omega, by omega⟩) dX7_pushes_47 (fun H locs hP hS => ?_)
  obtain ⟨f50, u51⟩ : ∃ g : Nat → Int32, g = upd f36 (r45 : Int32).toNatClampNeg x4 := ⟨_, rfl⟩
  rw [← u51] at hP
  have b52 : y_bd 20 f50 := trivial
  have hP : va_P (dC, dI) vwCl (va_pl L (va_up F39 (A 20) (.inl (cs 0, 918, .inl f50)))) H := hP
  obtain ⟨F53, hF54⟩ : ∃ G : Nat → va_E, G = va_up F39 (A 20) (.inl (cs 0, 918, .inl f50)) := ⟨_, rfl⟩
  rw [← hF54] at hP
  have hI : y_I K cs A F53 := by rw [hF54]; exact y_clA (i := 20) hA hI (by decide) b52
  have hfr : ∀ b, K b ∉ [70] → F53 b = F b := by rw [hF54]; exact s_fr hfr (y_k20 hA) (by decide)
  have oY55 : F53 a0 = .inr (7, y_fl A z0 q0) := by rw [hF54]; exact th_ne (th_kd ha0 (y_k20 hA) (by decide)) oY41
  have o56 : F53 (A 20) = .inl (cs 0, 918, .inl f50) := by rw [hF54]; exact th_up
  have u57 : ∀ j : Int, 0 ≤ j → y_c f50 j = if j = r45.toInt then x4 else y_c f36 j := by rw [u51]; exact y_cu rfl (by omega)
  refine lv_aload_n hx hb dX7_pushes_48 rfl (lv_at hl 1 rfl) ?_
  refine th_get (D := (dC, dI)) (ci := 7) (v := .ref (A 20)) (C := RX7) (T := TX7) (N := 34) hx hb hts inX7 hown hK hP (hLK _ ha0 (by decide)) oY55 rfl 20 (by decide) (hts _ T_251) (fun _ h9 => h9) rfl dX7_pushes_49 ?_
  refine lv_iload_n hx hb dX7_pushes_52 rfl (lv_at hl 2 rfl) ?_
  refine lv_iconst (v := 5) hx hb dX7_pushes_53 (by decide) ?_
  refine va_calli (va_runS (As := [.int x1, .int 5]) (rest := [.ref (A 20)]) ⟨hx, hb, hml, hown, hts⟩ (y_X7_warpAt l dC dI H.size F53 x1 5 rg4 (by decide)) (cwS 2 hts (ax_gS T_1021 T_1023 T_265 T_1022) rfl rfl rfl (by decide +kernel) ⟨Nat.le_of_ble_eq_true rfl, Nat.le_of_ble_eq_true rfl⟩) ⟨fun a U g mk q => ⟨q.1, s_pc (U := U) rfl rfl q.2⟩, fun U hU hW => ⟨rfl, s_pw hU hW hP hK hD hN⟩⟩ rfl rfl hl.1 rfl (lv_room (Nat.le_of_ble_eq_true rfl)) dX7_pushes_54 ⟨Nat.zero_le _, Nat.zero_le _⟩) hS (fun q _ h => h) (fun q h => h) (fun r59 F60 t H1 locs ht hvm hw hB hz1 hk1 hS => ?_)
  obtain ⟨hP, hK1⟩ := hB
  rw [ht] at hP
  generalize H1 = H at hP hS ⊢
  clear hz1 hk1 hvm hK1
  obtain ⟨h61, h63, hG9, h62⟩ := hw
  rw [hG9] at hP
  replace h62 : (r59.toInt = 104 + 6 * x1.toInt + 5) := by have q9 := h62; exact q9
  refine lv_dup2_11 hx hb dX7_pushes_57 rfl rfl ?_
  refine th_iald hx hb hK hP (hLK _ (y_k20 hA) (by decide)) 0 o56 rfl (th_in ⟨by omega, by omega⟩) dX7_pushes_58 ?_
  refine lv_topi (fun v64 ev64 => ?_)
  have Ev64 : v64 = y_c f50 (109 + 6 * x1.toInt) := ev64.trans (y_ci (by omega))
  have tEv64 := congrArg Int32.toInt Ev64
  refine lv_iconst (v := 1) hx hb dX7_pushes_59 (by decide) ?_
  refine lv_iadd hx hb dX7_pushes_60 ?_
  refine lv_topi (fun v65 ev65 => ?_)
  refine th_iast hx hb hK hP hD hS (hLK _ (y_k20 hA) (by decide)) 0 o56 rfl (th_in ⟨by omega, by omega⟩) dX7_pushes_61 (fun H locs hP hS => ?_)
  obtain ⟨f66, u67⟩ : ∃ g : Nat → Int32, g = upd f50 (r59 : Int32).toNatClampNeg v65 := ⟨_, rfl⟩
  rw [← u67] at hP
  have b68 : y_bd 20 f66 := trivial
  have hP : va_P (dC, dI) vwCl (va_pl L (va_up F53 (A 20) (.inl (cs 0, 918, .inl f66)))) H := hP
  obtain ⟨F69, hF70⟩ : ∃ G : Nat → va_E, G = va_up F53 (A 20) (.inl (cs 0, 918, .inl f66)) := ⟨_, rfl⟩
  rw [← hF70] at hP
  have hI : y_I K cs A F69 := by rw [hF70]; exact y_clA (i := 20) hA hI (by decide) b68
  have hfr : ∀ b, K b ∉ [70] → F69 b = F b := by rw [hF70]; exact s_fr hfr (y_k20 hA) (by decide)
  have oY71 : F69 a0 = .inr (7, y_fl A z0 q0) := by rw [hF70]; exact th_ne (th_kd ha0 (y_k20 hA) (by decide)) oY55
  have o72 : F69 (A 20) = .inl (cs 0, 918, .inl f66) := by rw [hF70]; exact th_up
  have u73 : ∀ j : Int, 0 ≤ j → y_c f66 j = if j = r59.toInt then v65 else y_c f50 j := by rw [u67]; exact y_cu rfl (by omega)
  exact W.vret hx hb hr (fun t ht hW => ⟨⟨F69, rfl, ⟨trivial, trivial, hI, hfr, fun k hk => (y_fiZ oY71 (s_sub (by decide) hk)).trans ((hz0 k hk).trans (y_fiZ oY0 (s_sub (by decide) hk)).symm), (by rw [y_atE o72, y_atE o2]; exact y_pshP ⟨by omega, by omega⟩ hpn u29 u43 u57 u73 (by omega) (by omega) (by omega) (by omega) (by rw [ev65, Ev64]))⟩, by rw [ht]; exact hP, va_K.moved hW.alike hK⟩, hS.F ht⟩) hS.2.2 dX7_pushes_62

set_option maxHeartbeats 4000000 in
set_option maxRecDepth 100000 in
theorem y_X7_dies (l : Launch) (dC : Nat → ClassId) (dI : Nat → Nat → Nat) (sz : Nat) {L : List Nat} {K : Nat → Nat} {cs : Nat → ClassId} (hLK : ∀ a {k : Nat}, K a = k → k ≠ 0 → a ∈ L) (A : Nat → Nat) (hA : y_A K A) (F : Nat → va_E) (a0 : Nat) (x1 : Int32) (x2 : Int32) (ha0 : K a0 = 9) (hx1 : 0 ≤ x1.toInt ∧ x1.toInt ≤ 3) (hI : y_I K cs A F) (hpn : (0 ≤ (y_c (y_at F (A 20)) (109 + 6 * x1.toInt)).toInt ∧ (y_c (y_at F (A 20)) (109 + 6 * x1.toInt)).toInt ≤ 15)) : Met l yX7_dies (Cond.code yX7_dies cX7_dies 4 none :: T0) ({ frames := 2, cells := 0, slots := 0, locals := 43 }) (va_Pc [.ref a0, .int x1, .int x2] (s_W dC dI sz L F [(cs 0, .int), (cs 1, .byte), (cs 2, .long), (cs 3, .object RX5), (cs 4, .object RX4), (cs 5, .array .int), (cs 6, .char), (cs 7, .boolean)])) (va_Qv (fun (G : Nat → va_E) => True ∧ True ∧ y_I K cs A G ∧ (∀ b, K b ∉ [70] → G b = F b) ∧ (∀ k, k ∈ ([1, 2, 3, 4, 5, 6, 7, 8, 11, 15, 16, 19, 25, 26, 27, 31, 32] : List Nat) → y_fi G a0 k = y_fi F a0 k) ∧ (∀ j : Int, 0 ≤ j → y_c (y_at G (A 20)) j = y_die (y_at F (A 20)) x1.toInt (y_c (y_at F (A 20)) (109 + 6 * x1.toInt)).toInt x2 j)) (fun (G : Nat → va_E) (t : State) => va_P (dC, dI) vwCl (va_pl L G) t.heap ∧ va_K (dC, dI) vwCl [(cs 0, .int), (cs 1, .byte), (cs 2, .long), (cs 3, .object RX5), (cs 4, .object RX4), (cs 5, .array .int), (cs 6, .char), (cs 7, .boolean)] t) (fun q => q ∈ L)) 0 0 (fun q => q ∈ L) := by
  refine Met.ofW (cc := cX7_dies) (maxL := 4) (ret := none) (by decide) rfl ?_
  intro p e s m args below meth c s₁ B hml hv
  obtain ⟨rfl, hsz, hP, hK, hD, hN⟩ := hv
  have hx := B.exec
  have hb := B.bytes
  have hr := B.returns
  have hts : ∀ w ∈ T0, w.before _ s = true := fun w h => atoms_spec (ws := Cond.code yX7_dies cX7_dies 4 none :: T0) B.pre w (List.mem_cons_of_mem _ h)
  have hown : s.vm.findClass RX7 = some m.cls := findClass_of_methodNamed B.named
  have hlocks := B.notSynchronized
  have hS : va_S (fun q => q ∈ L) s.heap s.heap [] := va_S.rf
  have hfr : ∀ b, K b ∉ [70] → F b = F b := fun _ _ => rfl
  have hl := lv_entry ([.ref a0, .int x1, .int x2]) (n := 4) (Nat.le_of_ble_eq_true rfl)
  rw [lg_entry_eq]
  generalize (lg_sl ([.ref a0, .int x1, .int x2]) ++ List.replicate (4 - (lg_sl ([.ref a0, .int x1, .int x2])).length) Slot.unset).toArray = ls at hl ⊢
  have hl : lv_has ls 4 [(0, .ref a0), (1, .int x1), (2, .int x2)] := hl
  refine s_gen hP hS (fun H locs hP hS => ?_)
  obtain ⟨z0, q0, oY0, bz0, bq0⟩ := y_opY hI ha0
  have hz0 : ∀ k, k ∈ ([1, 2, 3, 4, 5, 6, 7, 8, 11, 15, 16, 19, 25, 26, 27, 31, 32] : List Nat) → z0 k = z0 k := fun _ _ => rfl
  obtain ⟨f1, o2, b3⟩ := y_op20 hI
  replace hpn : (0 ≤ (y_c f1 (109 + 6 * x1.toInt)).toInt ∧ (y_c f1 (109 + 6 * x1.toInt)).toInt ≤ 15) := by have q9 := hpn; rw [y_atE o2] at q9; exact q9
  refine lv_aload_n hx hb dX7_dies_0 rfl (lv_at hl 0 rfl) ?_
  refine th_get (D := (dC, dI)) (ci := 7) (v := .ref (A 20)) (C := RX7) (T := TX7) (N := 34) hx hb hts inX7 hown hK hP (hLK _ ha0 (by decide)) oY0 rfl 20 (by decide) (hts _ T_251) (fun _ h9 => h9) rfl dX7_dies_1 ?_
  refine lv_iload_n hx hb dX7_dies_4 rfl (lv_at hl 1 rfl) ?_
  refine lv_iconst (v := 3) hx hb dX7_dies_5 (by decide) ?_
  have rg4 : 0 ≤ x1.toInt ∧ x1.toInt ≤ 3 := ⟨by omega, by omega⟩
  refine va_calli (va_runS (As := [.int x1, .int 3]) (rest := [.ref (A 20)]) ⟨hx, hb, hml, hown, hts⟩ (y_X7_warpAt l dC dI H.size F x1 3 rg4 (by decide)) (cwS 2 hts (ax_gS T_1021 T_1023 T_265 T_1022) rfl rfl rfl (by decide +kernel) ⟨Nat.le_of_ble_eq_true rfl, Nat.le_of_ble_eq_true rfl⟩) ⟨fun a U g mk q => ⟨q.1, s_pc (U := U) rfl rfl q.2⟩, fun U hU hW => ⟨rfl, s_pw hU hW hP hK hD hN⟩⟩ rfl rfl hl.1 rfl (lv_room (Nat.le_of_ble_eq_true rfl)) dX7_dies_6 ⟨Nat.zero_le _, Nat.zero_le _⟩) hS (fun q _ h => h) (fun q h => h) (fun r6 F7 t H1 locs ht hvm hw hB hz1 hk1 hS => ?_)
  obtain ⟨hP, hK1⟩ := hB
  rw [ht] at hP
  generalize H1 = H at hP hS ⊢
  clear hz1 hk1 hvm hK1
  obtain ⟨h8, h10, hG9, h9⟩ := hw
  rw [hG9] at hP
  replace h9 : (r6.toInt = 104 + 6 * x1.toInt + 3) := by have q9 := h9; exact q9
  refine lv_dup2_11 hx hb dX7_dies_9 rfl rfl ?_
  refine th_iald hx hb hK hP (hLK _ (y_k20 hA) (by decide)) 0 o2 rfl (th_in ⟨by omega, by omega⟩) dX7_dies_10 ?_
  refine lv_topi (fun v11 ev11 => ?_)
  have Ev11 : v11 = y_c f1 (107 + 6 * x1.toInt) := ev11.trans (y_ci (by omega))
  have tEv11 := congrArg Int32.toInt Ev11
  refine lv_iload_n hx hb dX7_dies_11 rfl (lv_at hl 2 rfl) ?_
  refine lv_iconst (v := (-1)) hx hb dX7_dies_12 (by decide) ?_
  refine lv_ixor hx hb dX7_dies_13 ?_
  refine lv_topi (fun v12 ev12 => ?_)
  refine lv_iand hx hb dX7_dies_14 ?_
  refine lv_topi (fun v13 ev13 => ?_)
  refine th_iast hx hb hK hP hD hS (hLK _ (y_k20 hA) (by decide)) 0 o2 rfl (th_in ⟨by omega, by omega⟩) dX7_dies_15 (fun H locs hP hS => ?_)
  obtain ⟨f14, u15⟩ : ∃ g : Nat → Int32, g = upd f1 (r6 : Int32).toNatClampNeg v13 := ⟨_, rfl⟩
  rw [← u15] at hP
  have b16 : y_bd 20 f14 := trivial
  have hP : va_P (dC, dI) vwCl (va_pl L (va_up F (A 20) (.inl (cs 0, 918, .inl f14)))) H := hP
  obtain ⟨F17, hF18⟩ : ∃ G : Nat → va_E, G = va_up F (A 20) (.inl (cs 0, 918, .inl f14)) := ⟨_, rfl⟩
  rw [← hF18] at hP
  have hI : y_I K cs A F17 := by rw [hF18]; exact y_clA (i := 20) hA hI (by decide) b16
  have hfr : ∀ b, K b ∉ [70] → F17 b = F b := by rw [hF18]; exact s_fr hfr (y_k20 hA) (by decide)
  have oY19 : F17 a0 = .inr (7, y_fl A z0 q0) := by rw [hF18]; exact th_ne (th_kd ha0 (y_k20 hA) (by decide)) oY0
  have o20 : F17 (A 20) = .inl (cs 0, 918, .inl f14) := by rw [hF18]; exact th_up
  have u21 : ∀ j : Int, 0 ≤ j → y_c f14 j = if j = r6.toInt then v13 else y_c f1 j := by rw [u15]; exact y_cu rfl (by omega)
  refine lv_aload_n hx hb dX7_dies_16 rfl (lv_at hl 0 rfl) ?_
  refine th_get (D := (dC, dI)) (ci := 7) (v := .ref (A 20)) (C := RX7) (T := TX7) (N := 34) hx hb hts inX7 hown hK hP (hLK _ ha0 (by decide)) oY19 rfl 20 (by decide) (hts _ T_251) (fun _ h9 => h9) rfl dX7_dies_17 ?_
  refine lv_iload_n hx hb dX7_dies_20 rfl (lv_at hl 1 rfl) ?_
  refine lv_iconst (v := 4) hx hb dX7_dies_21 (by decide) ?_
  refine va_calli (va_runS (As := [.int x1, .int 4]) (rest := [.ref (A 20)]) ⟨hx, hb, hml, hown, hts⟩ (y_X7_warpAt l dC dI H.size F17 x1 4 rg4 (by decide)) (cwS 2 hts (ax_gS T_1021 T_1023 T_265 T_1022) rfl rfl rfl (by decide +kernel) ⟨Nat.le_of_ble_eq_true rfl, Nat.le_of_ble_eq_true rfl⟩) ⟨fun a U g mk q => ⟨q.1, s_pc (U := U) rfl rfl q.2⟩, fun U hU hW => ⟨rfl, s_pw hU hW hP hK hD hN⟩⟩ rfl rfl hl.1 rfl (lv_room (Nat.le_of_ble_eq_true rfl)) dX7_dies_22 ⟨Nat.zero_le _, Nat.zero_le _⟩) hS (fun q _ h => h) (fun q h => h) (fun r23 F24 t H1 locs ht hvm hw hB hz1 hk1 hS => ?_)
  obtain ⟨hP, hK1⟩ := hB
  rw [ht] at hP
  generalize H1 = H at hP hS ⊢
  clear hz1 hk1 hvm hK1
  obtain ⟨h25, h27, hG9, h26⟩ := hw
  rw [hG9] at hP
  replace h26 : (r23.toInt = 104 + 6 * x1.toInt + 4) := by have q9 := h26; exact q9
  refine lv_dup2_11 hx hb dX7_dies_25 rfl rfl ?_
  refine th_iald hx hb hK hP (hLK _ (y_k20 hA) (by decide)) 0 o20 rfl (th_in ⟨by omega, by omega⟩) dX7_dies_26 ?_
  refine lv_topi (fun v28 ev28 => ?_)
  have Ev28 : v28 = y_c f14 (108 + 6 * x1.toInt) := ev28.trans (y_ci (by omega))
  have tEv28 := congrArg Int32.toInt Ev28
  refine lv_iload_n hx hb dX7_dies_27 rfl (lv_at hl 2 rfl) ?_
  refine lv_iconst (v := (-1)) hx hb dX7_dies_28 (by decide) ?_
  refine lv_ixor hx hb dX7_dies_29 ?_
  refine lv_topi (fun v29 ev29 => ?_)
  refine lv_iand hx hb dX7_dies_30 ?_
  refine lv_topi (fun v30 ev30 => ?_)
  refine th_iast hx hb hK hP hD hS (hLK _ (y_k20 hA) (by decide)) 0 o20 rfl (th_in ⟨by omega, by omega⟩) dX7_dies_31 (fun H locs hP hS => ?_)
  obtain ⟨f31, u32⟩ : ∃ g : Nat → Int32, g = upd f14 (r23 : Int32).toNatClampNeg v30 := ⟨_, rfl⟩
  rw [← u32] at hP
  have b33 : y_bd 20 f31 := trivial
  have hP : va_P (dC, dI) vwCl (va_pl L (va_up F17 (A 20) (.inl (cs 0, 918, .inl f31)))) H := hP
  obtain ⟨F34, hF35⟩ : ∃ G : Nat → va_E, G = va_up F17 (A 20) (.inl (cs 0, 918, .inl f31)) := ⟨_, rfl⟩
  rw [← hF35] at hP
  have hI : y_I K cs A F34 := by rw [hF35]; exact y_clA (i := 20) hA hI (by decide) b33
  have hfr : ∀ b, K b ∉ [70] → F34 b = F b := by rw [hF35]; exact s_fr hfr (y_k20 hA) (by decide)
  have oY36 : F34 a0 = .inr (7, y_fl A z0 q0) := by rw [hF35]; exact th_ne (th_kd ha0 (y_k20 hA) (by decide)) oY19
  have o37 : F34 (A 20) = .inl (cs 0, 918, .inl f31) := by rw [hF35]; exact th_up
  have u38 : ∀ j : Int, 0 ≤ j → y_c f31 j = if j = r23.toInt then v30 else y_c f14 j := by rw [u32]; exact y_cu rfl (by omega)
  refine lv_iconst (v := 0) hx hb dX7_dies_32 (by decide) ?_
  refine lv_istore_n (lv' := [(3, .int 0), (0, .ref a0), (1, .int x1), (2, .int x2)]) hx hb dX7_dies_33 rfl hl (by decide) rfl (fun ls hl => ?_)
  have h40 : (0 : Int32).toInt = 0 := by decide
  refine th_loop (fun n g H locs => ∃ (G : Nat → va_E) (ls : Array Slot) (w39 : Int32), g = F0 m 34 ls [] ∧ lv_has ls 4 [(0, .ref a0), (1, .int x1), (2, .int x2), (3, .int w39)] ∧ va_P (dC, dI) vwCl (va_pl L G) H ∧ va_S (fun q => q ∈ L) s.heap H locs ∧ y_I K cs A G ∧ (∀ b, K b ∉ [70] → G b = F b) ∧ (∀ k, k ∈ ([1, 2, 3, 4, 5, 6, 7, 8, 11, 15, 16, 19, 25, 26, 27, 31, 32] : List Nat) → y_fi G a0 k = z0 k) ∧ (0 ≤ w39.toInt ∧ w39.toInt ≤ 15) ∧ (0 ≤ x1.toInt ∧ x1.toInt ≤ 3) ∧ (∀ j : Int, 0 ≤ j → y_c (y_at G (A 20)) j = y_die f1 x1.toInt w39.toInt x2 j) ∧ (w39.toInt ≤ (y_c f1 (109 + 6 * x1.toInt)).toInt) ∧ n = (16 - w39.toInt).toNat) _ ⟨F34, _, 0, rfl, lv_sub hl [1, 2, 3, 0] rfl, hP, hS, hI, hfr, (fun k hk => (y_fiZ oY36 (s_sub (by decide) hk)).trans (hz0 k hk)), (by decide), ⟨by omega, by omega⟩, (by rw [y_atE o37]; exact y_die0 ⟨by omega, by omega⟩ u21 u38 (by omega) (by omega) (by rw [show r6.toInt = 107 + 6 * x1.toInt by omega]; exact (by rw [ev13, Ev11, ev12])) (by rw [show r23.toInt = 108 + 6 * x1.toInt by omega]; exact (by rw [ev30, Ev28, ev29]))), (by omega), rfl⟩ (fun n ih34 g H locs hq => ?_)
  obtain ⟨F45, ls, w39, rfl, hl, hP, hS, hI, hfr, hz0, h41, h42, h43, h44, hn⟩ := hq
  have oY46 : F45 a0 = .inr (7, y_fl A z0 q0) := (hfr _ (by rw [ha0]; decide)).trans oY0
  have hz0 : ∀ k, k ∈ ([1, 2, 3, 4, 5, 6, 7, 8, 11, 15, 16, 19, 25, 26, 27, 31, 32] : List Nat) → z0 k = z0 k := fun _ _ => rfl
  obtain ⟨f47, o48, b49⟩ := y_op20 hI
  replace h43 : (∀ j : Int, 0 ≤ j → y_c f47 j = y_die f1 x1.toInt w39.toInt x2 j) := by have q9 := h43; rw [y_atE o48] at q9; exact q9
  have hn_49 := hn
  refine lv_iload_n hx hb dX7_dies_34 rfl (lv_at hl 3 rfl) ?_
  refine lv_aload_n hx hb dX7_dies_35 rfl (lv_at hl 0 rfl) ?_
  refine lv_iload_n hx hb dX7_dies_36 rfl (lv_at hl 1 rfl) ?_
  refine lv_iconst (v := 5) hx hb dX7_dies_37 (by decide) ?_
  refine va_calli (va_runV (As := [.int x1, .int 5]) (rest := [.int w39]) ⟨hx, hb, hml, hown, hts⟩ (y_X7_its l dC dI H.size hLK A hA F45 a0 x1 5 ha0 rg4 (by decide) hI) (cwV 2 hts (ax_gV T_1057 T_1059 T_1060 T_265 T_1058) rfl rfl rfl (by decide +kernel) ⟨Nat.le_of_ble_eq_true rfl, Nat.le_of_ble_eq_true rfl⟩) ⟨fun a U g mk q => ⟨q.1, s_pc (U := U) rfl rfl q.2⟩, s_recv hK hP (hLK _ ha0 (by decide)) (ci := 7) rfl oY46, fun U hU hW => ⟨rfl, s_pw hU hW hP hK hD hN⟩⟩ rfl rfl hl.1 rfl (lv_room (Nat.le_of_ble_eq_true rfl)) dX7_dies_38 ⟨Nat.zero_le _, Nat.zero_le _⟩) hS (fun q _ h => h) (fun q h => h) (fun r51 F52 t H1 locs ht hvm hw hB hz1 hk1 hS => ?_)
  obtain ⟨hP, hK1⟩ := hB
  rw [ht] at hP
  generalize H1 = H at hP hS ⊢
  clear hz1 hk1 hvm hK1
  obtain ⟨h53, h55, hI, hfr1, hzf, h54⟩ := hw
  have o56 : F52 (A 20) = .inl (cs 0, 918, .inl f47) := (hfr1 _ (by rw [(y_k20 hA)]; decide)).trans o48
  have oY57 : F52 a0 = .inr (7, y_fl A z0 q0) := (hfr1 _ (by rw [ha0]; decide)).trans oY46
  have hfr : ∀ b, K b ∉ [70] → F52 b = F b := fun b hb9 => (hfr1 b (fun q => hb9 (s_sub (by decide) q))).trans (hfr b hb9)
  replace h54 : (r51 = y_c f47 (104 + 6 * x1.toInt + 5)) := by have q9 := h54; rw [y_atE o48] at q9; exact q9
  have h54 : r51 = y_c f47 (109 + 6 * x1.toInt) := h54.trans (congrArg (y_c f47) (by omega))
  have h58 := congrArg Int32.toInt h54
  have h59 : 0 ≤ r51.toInt ∧ r51.toInt ≤ 15 := by rw [h54, h43 _ (by omega), y_dieN (by omega)]; exact hpn
  have h60 : r51.toInt = (y_c f1 (109 + 6 * x1.toInt)).toInt := by rw [h54, h43 _ (by omega), y_dieN (by omega)]
  refine lv_icmp_ge (tgt := 67) hx hb dX7_dies_41 (by decide) (fun c61 => ?_) (fun c61 => ?_)
  · have c61 := Int32.le_iff_toInt_le.mp c61
    exact W.vret hx hb hr (fun t ht hW => ⟨⟨F52, rfl, ⟨trivial, trivial, hI, hfr, fun k hk => (y_fiZ oY57 (s_sub (by decide) hk)).trans ((hz0 k hk).trans (y_fiZ oY0 (s_sub (by decide) hk)).symm), (by rw [y_atE o56, y_atE o2]; exact (fun j hj => by rw [show (y_c f1 (109 + 6 * x1.toInt)).toInt = w39.toInt by omega]; exact h43 j hj))⟩, by rw [ht]; exact hP, va_K.moved hW.alike hK⟩, hS.F ht⟩) hS.2.2 dX7_dies_67
  · have c61 := mt Int32.le_iff_toInt_le.mpr c61
    refine lv_aload_n hx hb dX7_dies_44 rfl (lv_at hl 0 rfl) ?_
    refine th_get (D := (dC, dI)) (ci := 7) (v := .ref (A 20)) (C := RX7) (T := TX7) (N := 34) hx hb hts inX7 hown hK hP (hLK _ ha0 (by decide)) oY57 rfl 20 (by decide) (hts _ T_251) (fun _ h9 => h9) rfl dX7_dies_45 ?_
    refine lv_iload_n hx hb dX7_dies_48 rfl (lv_at hl 1 rfl) ?_
    refine lv_iload_n hx hb dX7_dies_49 rfl (lv_at hl 3 rfl) ?_
    refine lv_iconst (v := 2) hx hb dX7_dies_50 (by decide) ?_
    have rg62 : 0 ≤ w39.toInt ∧ w39.toInt ≤ 15 := ⟨by omega, by omega⟩
    refine va_calli (va_runS (As := [.int x1, .int w39, .int 2]) (rest := [.ref (A 20)]) ⟨hx, hb, hml, hown, hts⟩ (y_X7_partAt l dC dI H.size F52 x1 w39 2 rg4 rg62 (by decide)) (cwS 3 hts (ax_gS T_1078 T_1080 T_265 T_1079) rfl rfl rfl (by decide +kernel) ⟨Nat.le_of_ble_eq_true rfl, Nat.le_of_ble_eq_true rfl⟩) ⟨fun a U g mk q => ⟨q.1, s_pc (U := U) rfl rfl q.2⟩, fun U hU hW => ⟨rfl, s_pw hU hW hP hK hD hN⟩⟩ rfl rfl hl.1 rfl (lv_room (Nat.le_of_ble_eq_true rfl)) dX7_dies_51 ⟨Nat.zero_le _, Nat.zero_le _⟩) hS (fun q _ h => h) (fun q h => h) (fun r64 F65 t H1 locs ht hvm hw hB hz1 hk1 hS => ?_)
    obtain ⟨hP, hK1⟩ := hB
    rw [ht] at hP
    generalize H1 = H at hP hS ⊢
    clear hz1 hk1 hvm hK1
    obtain ⟨h66, h68, hG9, h67⟩ := hw
    rw [hG9] at hP
    replace h67 : (r64.toInt = 288 + 48 * x1.toInt + 3 * w39.toInt + 2) := by have q9 := h67; exact q9
    refine lv_dup2_11 hx hb dX7_dies_54 rfl rfl ?_
    refine th_iald hx hb hK hP (hLK _ (y_k20 hA) (by decide)) 0 o56 rfl (th_in ⟨by omega, by omega⟩) dX7_dies_55 ?_
    refine lv_topi (fun v69 ev69 => ?_)
    have Ev69 : v69 = y_c f47 (290 + 48 * x1.toInt + 3 * w39.toInt) := ev69.trans (y_ci (by omega))
    have tEv69 := congrArg Int32.toInt Ev69
    refine lv_iload_n hx hb dX7_dies_56 rfl (lv_at hl 2 rfl) ?_
    refine lv_iconst (v := (-1)) hx hb dX7_dies_57 (by decide) ?_
    refine lv_ixor hx hb dX7_dies_58 ?_
    refine lv_topi (fun v70 ev70 => ?_)
    refine lv_iand hx hb dX7_dies_59 ?_
    refine lv_topi (fun v71 ev71 => ?_)
    refine th_iast hx hb hK hP hD hS (hLK _ (y_k20 hA) (by decide)) 0 o56 rfl (th_in ⟨by omega, by omega⟩) dX7_dies_60 (fun H locs hP hS => ?_)
    obtain ⟨f72, u73⟩ : ∃ g : Nat → Int32, g = upd f47 (r64 : Int32).toNatClampNeg v71 := ⟨_, rfl⟩
    rw [← u73] at hP
    have b74 : y_bd 20 f72 := trivial
    have hP : va_P (dC, dI) vwCl (va_pl L (va_up F52 (A 20) (.inl (cs 0, 918, .inl f72)))) H := hP
    obtain ⟨F75, hF76⟩ : ∃ G : Nat → va_E, G = va_up F52 (A 20) (.inl (cs 0, 918, .inl f72)) := ⟨_, rfl⟩
    rw [← hF76] at hP
    have hI : y_I K cs A F75 := by rw [hF76]; exact y_clA (i := 20) hA hI (by decide) b74
    have hfr : ∀ b, K b ∉ [70] → F75 b = F b := by rw [hF76]; exact s_fr hfr (y_k20 hA) (by decide)
    have oY77 : F75 a0 = .inr (7, y_fl A z0 q0) := by rw [hF76]; exact th_ne (th_kd ha0 (y_k20 hA) (by decide)) oY57
    have o78 : F75 (A 20) = .inl (cs 0, 918, .inl f72) := by rw [hF76]; exact th_up
    have u79 : ∀ j : Int, 0 ≤ j → y_c f72 j = if j = r64.toInt then v71 else y_c f47 j := by rw [u73]; exact y_cu rfl (by omega)
    obtain ⟨v80, ev80⟩ : ∃ y : Int32, w39 + 1 = y := ⟨_, rfl⟩
    have qv80 : v80.toInt = w39.toInt + 1 := by rw [← ev80]; exact th_add rfl (by decide) ⟨by omega, by omega⟩
    refine lv_iinc (v := v80) (lv' := [(3, .int v80), (0, .ref a0), (1, .int x1), (2, .int x2)]) hx hb dX7_dies_61 hl (k := 3) rfl ev80 (by decide) rfl (fun ls hl => ?_)
    refine lv_goto (tgt := 34) hx hb dX7_dies_64 (by decide) ?_
    exact ih34 _ _ _ _ (by omega) ⟨F75, _, v80, rfl, lv_sub hl [1, 2, 3, 0] rfl, hP, hS, hI, hfr, (fun k hk => (y_fiZ oY77 (s_sub (by decide) hk)).trans (hz0 k hk)), ⟨by omega, by omega⟩, ⟨by omega, by omega⟩, (by rw [y_atE o78]; exact (fun j hj => by rw [show v80.toInt = w39.toInt + 1 by omega]; exact y_dieS ⟨by omega, by omega⟩ ⟨by omega, by omega⟩ h43 u79 (by omega) (by rw [show r64.toInt = 290 + 48 * x1.toInt + 3 * w39.toInt by omega]; exact (by rw [ev71, Ev69, ev70])) j hj)), (by omega), rfl⟩
