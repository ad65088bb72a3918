set_option maxHeartbeats 4000000 in
set_option maxRecDepth 100000 in
theorem y_X7_warpAt (l : Launch) (dC : Nat → ClassId) (dI : Nat → Nat → Nat) (sz : Nat) {L : List Nat} {cs : Nat → ClassId} (F : Nat → va_E) (x0 : Int32) (x1 : Int32) (hx0 : 0 ≤ x0.toInt ∧ x0.toInt ≤ 3) (hx1 : 0 ≤ x1.toInt ∧ x1.toInt ≤ 5) : Met l yX7_warpAt (Cond.code yX7_warpAt cX7_warpAt 2 (some .int) :: T0) ({ frames := 0, cells := 0, slots := 0, locals := 0 }) (va_Pc [.int x0, .int x1] (s_W dC dI sz L F [(cs 0, .int), (cs 1, .byte), (cs 2, .long), (cs 3, .object RX5), (cs 4, .object RX4), (cs 5, .array .int), (cs 6, .char), (cs 7, .boolean)])) (va_Qi (fun (r : Int32) (G : Nat → va_E) => (104 ≤ r.toInt ∧ r.toInt ≤ 127) ∧ True ∧ G = F ∧ (r.toInt = 104 + 6 * x0.toInt + x1.toInt)) (fun (G : Nat → va_E) (t : State) => va_P (dC, dI) vwCl (va_pl L G) t.heap ∧ va_K (dC, dI) vwCl [(cs 0, .int), (cs 1, .byte), (cs 2, .long), (cs 3, .object RX5), (cs 4, .object RX4), (cs 5, .array .int), (cs 6, .char), (cs 7, .boolean)] t) (fun q => q ∈ L)) 0 0 (fun q => q ∈ L) := by
  refine Met.ofW (cc := cX7_warpAt) (maxL := 2) (ret := (some .int)) (by decide) rfl ?_
  intro p e s m args below meth c s₁ B hml hv
  obtain ⟨rfl, hsz, hP, hK, hD, hN⟩ := hv
  have hx := B.exec
  have hb := B.bytes
  have hr := B.returns
  have hts : ∀ w ∈ T0, w.before _ s = true := fun w h => atoms_spec (ws := Cond.code yX7_warpAt cX7_warpAt 2 (some .int) :: T0) B.pre w (List.mem_cons_of_mem _ h)
  have hown : s.vm.findClass RX7 = some m.cls := findClass_of_methodNamed B.named
  have hlocks := B.notSynchronized
  have hS : va_S (fun q => q ∈ L) s.heap s.heap [] := va_S.rf
  have hl := lv_entry ([.int x0, .int x1]) (n := 2) (Nat.le_of_ble_eq_true rfl)
  rw [lg_entry_eq]
  generalize (lg_sl ([.int x0, .int x1]) ++ List.replicate (2 - (lg_sl ([.int x0, .int x1])).length) Slot.unset).toArray = ls at hl ⊢
  have hl : lv_has ls 2 [(0, .int x0), (1, .int x1)] := hl
  refine s_gen hP hS (fun H locs hP hS => ?_)
  refine lv_bipush (v := 104) hx hb dX7_warpAt_0 (by decide) ?_
  refine lv_bipush (v := 6) hx hb dX7_warpAt_2 (by decide) ?_
  refine lv_iload_n hx hb dX7_warpAt_4 rfl (lv_at hl 0 rfl) ?_
  refine lv_imul hx hb dX7_warpAt_5 ?_
  refine lv_topi (fun v1 ev1 => ?_)
  have qv1 : v1.toInt = 6 * x0.toInt := by rw [ev1]; exact th_mul (by decide) rfl ⟨by omega, by omega⟩
  refine lv_iadd hx hb dX7_warpAt_6 ?_
  refine lv_topi (fun v2 ev2 => ?_)
  have qv2 : v2.toInt = 104 + v1.toInt := by rw [ev2]; exact th_add (by decide) rfl ⟨by omega, by omega⟩
  refine lv_iload_n hx hb dX7_warpAt_7 rfl (lv_at hl 1 rfl) ?_
  refine lv_iadd hx hb dX7_warpAt_8 ?_
  refine lv_topi (fun v3 ev3 => ?_)
  have qv3 : v3.toInt = v2.toInt + x1.toInt := by rw [ev3]; exact th_add rfl rfl ⟨by omega, by omega⟩
  exact W.iret (v := v3) hx hb hr (fun t ht hW => ⟨⟨v3, F, rfl, ⟨⟨by omega, by omega⟩, trivial, rfl, (by omega)⟩, by rw [ht]; exact hP, va_K.moved hW.alike hK⟩, hS.F ht⟩) hS.2.2 dX7_warpAt_9

set_option maxHeartbeats 4000000 in
set_option maxRecDepth 100000 in
theorem y_X7_its (l : Launch) (dC : Nat → ClassId) (dI : Nat → Nat → Nat) (sz : Nat) {L : List Nat} {K : Nat → Nat} {cs : Nat → ClassId} (hLK : ∀ a {k : Nat}, K a = k → k ≠ 0 → a ∈ L) (A : Nat → Nat) (hA : y_A K A) (F : Nat → va_E) (a0 : Nat) (x1 : Int32) (x2 : Int32) (ha0 : K a0 = 9) (hx1 : 0 ≤ x1.toInt ∧ x1.toInt ≤ 3) (hx2 : 0 ≤ x2.toInt ∧ x2.toInt ≤ 5) (hI : y_I K cs A F) : Met l yX7_its (Cond.code yX7_its cX7_its 3 (some .int) :: T0) ({ frames := 1, cells := 0, slots := 0, locals := 21 }) (va_Pc [.ref a0, .int x1, .int x2] (s_W dC dI sz L F [(cs 0, .int), (cs 1, .byte), (cs 2, .long), (cs 3, .object RX5), (cs 4, .object RX4), (cs 5, .array .int), (cs 6, .char), (cs 7, .boolean)])) (va_Qi (fun (r : Int32) (G : Nat → va_E) => True ∧ True ∧ y_I K cs A G ∧ (∀ b, K b ∉ ([] : List Nat) → G b = F b) ∧ (∀ k, k ∈ ([1, 2, 3, 4, 5, 6, 7, 8, 11, 15, 16, 19, 25, 26, 27, 31, 32] : List Nat) → y_fi G a0 k = y_fi F a0 k) ∧ (r = y_c (y_at F (A 20)) (104 + 6 * x1.toInt + x2.toInt))) (fun (G : Nat → va_E) (t : State) => va_P (dC, dI) vwCl (va_pl L G) t.heap ∧ va_K (dC, dI) vwCl [(cs 0, .int), (cs 1, .byte), (cs 2, .long), (cs 3, .object RX5), (cs 4, .object RX4), (cs 5, .array .int), (cs 6, .char), (cs 7, .boolean)] t) (fun q => q ∈ L)) 0 0 (fun q => q ∈ L) := by
  refine Met.ofW (cc := cX7_its) (maxL := 3) (ret := (some .int)) (by decide) rfl ?_
  intro p e s m args below meth c s₁ B hml hv
  obtain ⟨rfl, hsz, hP, hK, hD, hN⟩ := hv
  have hx := B.exec
  have hb := B.bytes
  have hr := B.returns
  have hts : ∀ w ∈ T0, w.before _ s = true := fun w h => atoms_spec (ws := Cond.code yX7_its cX7_its 3 (some .int) :: T0) B.pre w (List.mem_cons_of_mem _ h)
  have hown : s.vm.findClass RX7 = some m.cls := findClass_of_methodNamed B.named
  have hlocks := B.notSynchronized
  have hS : va_S (fun q => q ∈ L) s.heap s.heap [] := va_S.rf
  have hfr : ∀ b, K b ∉ ([] : List Nat) → F b = F b := fun _ _ => rfl
  have hl := lv_entry ([.ref a0, .int x1, .int x2]) (n := 3) (Nat.le_of_ble_eq_true rfl)
  rw [lg_entry_eq]
  generalize (lg_sl ([.ref a0, .int x1, .int x2]) ++ List.replicate (3 - (lg_sl ([.ref a0, .int x1, .int x2])).length) Slot.unset).toArray = ls at hl ⊢
  have hl : lv_has ls 3 [(0, .ref a0), (1, .int x1), (2, .int x2)] := hl
  refine s_gen hP hS (fun H locs hP hS => ?_)
  obtain ⟨z0, q0, oY0, bz0, bq0⟩ := y_opY hI ha0
  have hz0 : ∀ k, k ∈ ([1, 2, 3, 4, 5, 6, 7, 8, 11, 15, 16, 19, 25, 26, 27, 31, 32] : List Nat) → z0 k = z0 k := fun _ _ => rfl
  obtain ⟨f1, o2, b3⟩ := y_op20 hI
  refine lv_aload_n hx hb dX7_its_0 rfl (lv_at hl 0 rfl) ?_
  refine th_get (D := (dC, dI)) (ci := 7) (v := .ref (A 20)) (C := RX7) (T := TX7) (N := 34) hx hb hts inX7 hown hK hP (hLK _ ha0 (by decide)) oY0 rfl 20 (by decide) (hts _ T_251) (fun _ h9 => h9) rfl dX7_its_1 ?_
  refine lv_iload_n hx hb dX7_its_4 rfl (lv_at hl 1 rfl) ?_
  refine lv_iload_n hx hb dX7_its_5 rfl (lv_at hl 2 rfl) ?_
  refine va_calli (va_runS (As := [.int x1, .int x2]) (rest := [.ref (A 20)]) ⟨hx, hb, hml, hown, hts⟩ (y_X7_warpAt l dC dI H.size F x1 x2 (⟨by omega, by omega⟩) (⟨by omega, by omega⟩)) (cwS 2 hts (ax_gS T_1021 T_1023 T_265 T_1022) rfl rfl rfl (by decide +kernel) ⟨Nat.le_of_ble_eq_true rfl, Nat.le_of_ble_eq_true rfl⟩) ⟨fun a U g mk q => ⟨q.1, s_pc rfl rfl q.2⟩, fun U hU hW => ⟨rfl, s_pw hU hW hP hK hD hN⟩⟩ rfl rfl hl.1 rfl (lv_room (Nat.le_of_ble_eq_true rfl)) dX7_its_6 ⟨Nat.zero_le _, Nat.zero_le _⟩) hS (fun q _ h => h) (fun q h => h) (fun r5 F6 t H1 locs ht hvm hw hB hz1 hk1 hS => ?_)
  obtain ⟨hP, hK1⟩ := hB
  rw [ht] at hP
  generalize H1 = H at hP hS ⊢
  obtain ⟨h7, h9, hG9, h8⟩ := hw
  rw [hG9] at hP
  have h8 : (r5.toInt = 104 + 6 * x1.toInt + x2.toInt) := by have q9 := h8; exact q9
  refine th_iald hx hb hK hP (hLK _ (y_k20 hA) (by decide)) 0 o2 rfl (th_in ⟨by omega, by omega⟩) dX7_its_9 ?_
  refine lv_topi (fun v10 ev10 => ?_)
  exact W.iret (v := v10) hx hb hr (fun t ht hW => ⟨⟨v10, F, rfl, ⟨trivial, trivial, hI, hfr, fun k hk => (y_fiZ oY0 (s_sub (by decide) hk)).trans ((hz0 k hk).trans (y_fiZ oY0 (s_sub (by decide) hk)).symm), (by rw [y_atE o2]; exact (ev10.trans (y_ci h8)))⟩, by rw [ht]; exact hP, va_K.moved hW.alike hK⟩, hS.F ht⟩) hS.2.2 dX7_its_10

set_option maxHeartbeats 4000000 in
set_option maxRecDepth 100000 in
theorem y_X7_registerAt (l : Launch) (dC : Nat → ClassId) (dI : Nat → Nat → Nat) (sz : Nat) {L : List Nat} {cs : Nat → ClassId} (F : Nat → va_E) (x0 : Int32) (x1 : Int32) (x2 : Int32) (hx0 : 0 ≤ x0.toInt ∧ x0.toInt ≤ 3) (hx1 : 0 ≤ x1.toInt ∧ x1.toInt ≤ 7) (hx2 : 0 ≤ x2.toInt ∧ x2.toInt ≤ 3) : Met l yX7_registerAt (Cond.code yX7_registerAt cX7_registerAt 3 (some .int) :: T0) ({ frames := 0, cells := 0, slots := 0, locals := 0 }) (va_Pc [.int x0, .int x1, .int x2] (s_W dC dI sz L F [(cs 0, .int), (cs 1, .byte), (cs 2, .long), (cs 3, .object RX5), (cs 4, .object RX4), (cs 5, .array .int), (cs 6, .char), (cs 7, .boolean)])) (va_Qi (fun (r : Int32) (G : Nat → va_E) => (128 ≤ r.toInt ∧ r.toInt ≤ 255) ∧ True ∧ G = F ∧ (r.toInt = 128 + 32 * x0.toInt + 4 * x1.toInt + x2.toInt)) (fun (G : Nat → va_E) (t : State) => va_P (dC, dI) vwCl (va_pl L G) t.heap ∧ va_K (dC, dI) vwCl [(cs 0, .int), (cs 1, .byte), (cs 2, .long), (cs 3, .object RX5), (cs 4, .object RX4), (cs 5, .array .int), (cs 6, .char), (cs 7, .boolean)] t) (fun q => q ∈ L)) 0 0 (fun q => q ∈ L) := by
  refine Met.ofW (cc := cX7_registerAt) (maxL := 3) (ret := (some .int)) (by decide) rfl ?_
  intro p e s m args below meth c s₁ B hml hv
  obtain ⟨rfl, hsz, hP, hK, hD, hN⟩ := hv
  have hx := B.exec
  have hb := B.bytes
  have hr := B.returns
  have hts : ∀ w ∈ T0, w.before _ s = true := fun w h => atoms_spec (ws := Cond.code yX7_registerAt cX7_registerAt 3 (some .int) :: T0) B.pre w (List.mem_cons_of_mem _ h)
  have hown : s.vm.findClass RX7 = some m.cls := findClass_of_methodNamed B.named
  have hlocks := B.notSynchronized
  have hS : va_S (fun q => q ∈ L) s.heap s.heap [] := va_S.rf
  have hl := lv_entry ([.int x0, .int x1, .int x2]) (n := 3) (Nat.le_of_ble_eq_true rfl)
  rw [lg_entry_eq]
  generalize (lg_sl ([.int x0, .int x1, .int x2]) ++ List.replicate (3 - (lg_sl ([.int x0, .int x1, .int x2])).length) Slot.unset).toArray = ls at hl ⊢
  have hl : lv_has ls 3 [(0, .int x0), (1, .int x1), (2, .int x2)] := hl
  refine s_gen hP hS (fun H locs hP hS => ?_)
  refine lv_sipush (v := 128) hx hb dX7_registerAt_0 (by decide) ?_
  refine lv_bipush (v := 32) hx hb dX7_registerAt_3 (by decide) ?_
  refine lv_iload_n hx hb dX7_registerAt_5 rfl (lv_at hl 0 rfl) ?_
  refine lv_imul hx hb dX7_registerAt_6 ?_
  refine lv_topi (fun v1 ev1 => ?_)
  have qv1 : v1.toInt = 32 * x0.toInt := by rw [ev1]; exact th_mul (by decide) rfl ⟨by omega, by omega⟩
  refine lv_iadd hx hb dX7_registerAt_7 ?_
  refine lv_topi (fun v2 ev2 => ?_)
  have qv2 : v2.toInt = 128 + v1.toInt := by rw [ev2]; exact th_add (by decide) rfl ⟨by omega, by omega⟩
  refine lv_iconst (v := 4) hx hb dX7_registerAt_8 (by decide) ?_
  refine lv_iload_n hx hb dX7_registerAt_9 rfl (lv_at hl 1 rfl) ?_
  refine lv_imul hx hb dX7_registerAt_10 ?_
  refine lv_topi (fun v3 ev3 => ?_)
  have qv3 : v3.toInt = 4 * x1.toInt := by rw [ev3]; exact th_mul (by decide) rfl ⟨by omega, by omega⟩
  refine lv_iadd hx hb dX7_registerAt_11 ?_
  refine lv_topi (fun v4 ev4 => ?_)
  have qv4 : v4.toInt = v2.toInt + v3.toInt := by rw [ev4]; exact th_add rfl rfl ⟨by omega, by omega⟩
  refine lv_iload_n hx hb dX7_registerAt_12 rfl (lv_at hl 2 rfl) ?_
  refine lv_iadd hx hb dX7_registerAt_13 ?_
  refine lv_topi (fun v5 ev5 => ?_)
  have qv5 : v5.toInt = v4.toInt + x2.toInt := by rw [ev5]; exact th_add rfl rfl ⟨by omega, by omega⟩
  exact W.iret (v := v5) hx hb hr (fun t ht hW => ⟨⟨v5, F, rfl, ⟨⟨by omega, by omega⟩, trivial, rfl, (by omega)⟩, by rw [ht]; exact hP, va_K.moved hW.alike hK⟩, hS.F ht⟩) hS.2.2 dX7_registerAt_14

set_option maxHeartbeats 4000000 in
set_option maxRecDepth 100000 in
theorem y_X7_nextAt (l : Launch) (dC : Nat → ClassId) (dI : Nat → Nat → Nat) (sz : Nat) {L : List Nat} {cs : Nat → ClassId} (F : Nat → va_E) (x0 : Int32) (x1 : Int32) (hx0 : 0 ≤ x0.toInt ∧ x0.toInt ≤ 3) (hx1 : 0 ≤ x1.toInt ∧ x1.toInt ≤ 7) : Met l yX7_nextAt (Cond.code yX7_nextAt cX7_nextAt 2 (some .int) :: T0) ({ frames := 0, cells := 0, slots := 0, locals := 0 }) (va_Pc [.int x0, .int x1] (s_W dC dI sz L F [(cs 0, .int), (cs 1, .byte), (cs 2, .long), (cs 3, .object RX5), (cs 4, .object RX4), (cs 5, .array .int), (cs 6, .char), (cs 7, .boolean)])) (va_Qi (fun (r : Int32) (G : Nat → va_E) => (256 ≤ r.toInt ∧ r.toInt ≤ 287) ∧ True ∧ G = F ∧ (r.toInt = 256 + 8 * x0.toInt + x1.toInt)) (fun (G : Nat → va_E) (t : State) => va_P (dC, dI) vwCl (va_pl L G) t.heap ∧ va_K (dC, dI) vwCl [(cs 0, .int), (cs 1, .byte), (cs 2, .long), (cs 3, .object RX5), (cs 4, .object RX4), (cs 5, .array .int), (cs 6, .char), (cs 7, .boolean)] t) (fun q => q ∈ L)) 0 0 (fun q => q ∈ L) := by
  refine Met.ofW (cc := cX7_nextAt) (maxL := 2) (ret := (some .int)) (by decide) rfl ?_
  intro p e s m args below meth c s₁ B hml hv
  obtain ⟨rfl, hsz, hP, hK, hD, hN⟩ := hv
  have hx := B.exec
  have hb := B.bytes
  have hr := B.returns
  have hts : ∀ w ∈ T0, w.before _ s = true := fun w h => atoms_spec (ws := Cond.code yX7_nextAt cX7_nextAt 2 (some .int) :: T0) B.pre w (List.mem_cons_of_mem _ h)
  have hown : s.vm.findClass RX7 = some m.cls := findClass_of_methodNamed B.named
  have hlocks := B.notSynchronized
  have hS : va_S (fun q => q ∈ L) s.heap s.heap [] := va_S.rf
  have hl := lv_entry ([.int x0, .int x1]) (n := 2) (Nat.le_of_ble_eq_true rfl)
  rw [lg_entry_eq]
  generalize (lg_sl ([.int x0, .int x1]) ++ List.replicate (2 - (lg_sl ([.int x0, .int x1])).length) Slot.unset).toArray = ls at hl ⊢
  have hl : lv_has ls 2 [(0, .int x0), (1, .int x1)] := hl
  refine s_gen hP hS (fun H locs hP hS => ?_)
  refine lv_sipush (v := 256) hx hb dX7_nextAt_0 (by decide) ?_
  refine lv_bipush (v := 8) hx hb dX7_nextAt_3 (by decide) ?_
  refine lv_iload_n hx hb dX7_nextAt_5 rfl (lv_at hl 0 rfl) ?_
  refine lv_imul hx hb dX7_nextAt_6 ?_
  refine lv_topi (fun v1 ev1 => ?_)
  have qv1 : v1.toInt = 8 * x0.toInt := by rw [ev1]; exact th_mul (by decide) rfl ⟨by omega, by omega⟩
  refine lv_iadd hx hb dX7_nextAt_7 ?_
  refine lv_topi (fun v2 ev2 => ?_)
  have qv2 : v2.toInt = 256 + v1.toInt := by rw [ev2]; exact th_add (by decide) rfl ⟨by omega, by omega⟩
  refine lv_iload_n hx hb dX7_nextAt_8 rfl (lv_at hl 1 rfl) ?_
  refine lv_iadd hx hb dX7_nextAt_9 ?_
  refine lv_topi (fun v3 ev3 => ?_)
  have qv3 : v3.toInt = v2.toInt + x1.toInt := by rw [ev3]; exact th_add rfl rfl ⟨by omega, by omega⟩
  exact W.iret (v := v3) hx hb hr (fun t ht hW => ⟨⟨v3, F, rfl, ⟨⟨by omega, by omega⟩, trivial, rfl, (by omega)⟩, by rw [ht]; exact hP, va_K.moved hW.alike hK⟩, hS.F ht⟩) hS.2.2 dX7_nextAt_10

set_option maxHeartbeats 4000000 in
set_option maxRecDepth 100000 in
theorem y_X7_partAt (l : Launch) (dC : Nat → ClassId) (dI : Nat → Nat → Nat) (sz : Nat) {L : List Nat} {cs : Nat → ClassId} (F : Nat → va_E) (x0 : Int32) (x1 : Int32) (x2 : Int32) (hx0 : 0 ≤ x0.toInt ∧ x0.toInt ≤ 3) (hx1 : 0 ≤ x1.toInt ∧ x1.toInt ≤ 15) (hx2 : 0 ≤ x2.toInt ∧ x2.toInt ≤ 2) : Met l yX7_partAt (Cond.code yX7_partAt cX7_partAt 3 (some .int) :: T0) ({ frames := 0, cells := 0, slots := 0, locals := 0 }) (va_Pc [.int x0, .int x1, .int x2] (s_W dC dI sz L F [(cs 0, .int), (cs 1, .byte), (cs 2, .long), (cs 3, .object RX5), (cs 4, .object RX4), (cs 5, .array .int), (cs 6, .char), (cs 7, .boolean)])) (va_Qi (fun (r : Int32) (G : Nat → va_E) => (288 ≤ r.toInt ∧ r.toInt ≤ 479) ∧ True ∧ G = F ∧ (r.toInt = 288 + 48 * x0.toInt + 3 * x1.toInt + x2.toInt)) (fun (G : Nat → va_E) (t : State) => va_P (dC, dI) vwCl (va_pl L G) t.heap ∧ va_K (dC, dI) vwCl [(cs 0, .int), (cs 1, .byte), (cs 2, .long), (cs 3, .object RX5), (cs 4, .object RX4), (cs 5, .array .int), (cs 6, .char), (cs 7, .boolean)] t) (fun q => q ∈ L)) 0 0 (fun q => q ∈ L) := by
  refine Met.ofW (cc := cX7_partAt) (maxL := 3) (ret := (some .int)) (by decide) rfl ?_
  intro p e s m args below meth c s₁ B hml hv
  obtain ⟨rfl, hsz, hP, hK, hD, hN⟩ := hv
  have hx := B.exec
  have hb := B.bytes
  have hr := B.returns
  have hts : ∀ w ∈ T0, w.before _ s = true := fun w h => atoms_spec (ws := Cond.code yX7_partAt cX7_partAt 3 (some .int) :: T0) B.pre w (List.mem_cons_of_mem _ h)
  have hown : s.vm.findClass RX7 = some m.cls := findClass_of_methodNamed B.named
  have hlocks := B.notSynchronized
  have hS : va_S (fun q => q ∈ L) s.heap s.heap [] := va_S.rf
  have hl := lv_entry ([.int x0, .int x1, .int x2]) (n := 3) (Nat.le_of_ble_eq_true rfl)
  rw [lg_entry_eq]
  generalize (lg_sl ([.int x0, .int x1, .int x2]) ++ List.replicate (3 - (lg_sl ([.int x0, .int x1, .int x2])).length) Slot.unset).toArray = ls at hl ⊢
  have hl : lv_has ls 3 [(0, .int x0), (1, .int x1), (2, .int x2)] := hl
  refine s_gen hP hS (fun H locs hP hS => ?_)
  refine lv_sipush (v := 288) hx hb dX7_partAt_0 (by decide) ?_
  refine lv_iconst (v := 3) hx hb dX7_partAt_3 (by decide) ?_
  refine lv_bipush (v := 16) hx hb dX7_partAt_4 (by decide) ?_
  refine lv_iload_n hx hb dX7_partAt_6 rfl (lv_at hl 0 rfl) ?_
  refine lv_imul hx hb dX7_partAt_7 ?_
  refine lv_topi (fun v1 ev1 => ?_)
  have qv1 : v1.toInt = 16 * x0.toInt := by rw [ev1]; exact th_mul (by decide) rfl ⟨by omega, by omega⟩
  refine lv_iload_n hx hb dX7_partAt_8 rfl (lv_at hl 1 rfl) ?_
  refine lv_iadd hx hb dX7_partAt_9 ?_
  refine lv_topi (fun v2 ev2 => ?_)
  have qv2 : v2.toInt = v1.toInt + x1.toInt := by rw [ev2]; exact th_add rfl rfl ⟨by omega, by omega⟩
  refine lv_imul hx hb dX7_partAt_10 ?_
  refine lv_topi (fun v3 ev3 => ?_)
  have qv3 : v3.toInt = 3 * v2.toInt := by rw [ev3]; exact th_mul (by decide) rfl ⟨by omega, by omega⟩
  refine lv_iadd hx hb dX7_partAt_11 ?_
  refine lv_topi (fun v4 ev4 => ?_)
  have qv4 : v4.toInt = 288 + v3.toInt := by rw [ev4]; exact th_add (by decide) rfl ⟨by omega, by omega⟩
  refine lv_iload_n hx hb dX7_partAt_12 rfl (lv_at hl 2 rfl) ?_
  refine lv_iadd hx hb dX7_partAt_13 ?_
  refine lv_topi (fun v5 ev5 => ?_)
  have qv5 : v5.toInt = v4.toInt + x2.toInt := by rw [ev5]; exact th_add rfl rfl ⟨by omega, by omega⟩
  exact W.iret (v := v5) hx hb hr (fun t ht hW => ⟨⟨v5, F, rfl, ⟨⟨by omega, by omega⟩, trivial, rfl, (by omega)⟩, by rw [ht]; exact hP, va_K.moved hW.alike hK⟩, hS.F ht⟩) hS.2.2 dX7_partAt_14

set_option maxHeartbeats 4000000 in
set_option maxRecDepth 100000 in
theorem y_X7_top (l : Launch) (dC : Nat → ClassId) (dI : Nat → Nat → Nat) (sz : Nat) {L : List Nat} {K : Nat → Nat} {cs : Nat → ClassId} (hLK : ∀ a {k : Nat}, K a = k → k ≠ 0 → a ∈ L) (A : Nat → Nat) (hA : y_A K A) (F : Nat → va_E) (a0 : Nat) (x1 : Int32) (ha0 : K a0 = 9) (hx1 : 0 ≤ x1.toInt ∧ x1.toInt ≤ 3) (hI : y_I K cs A F) : Met l yX7_top (Cond.code yX7_top cX7_top 2 (some .int) :: T0) ({ frames := 2, cells := 0, slots := 0, locals := 43 }) (va_Pc [.ref a0, .int x1] (s_W dC dI sz L F [(cs 0, .int), (cs 1, .byte), (cs 2, .long), (cs 3, .object RX5), (cs 4, .object RX4), (cs 5, .array .int), (cs 6, .char), (cs 7, .boolean)])) (va_Qi (fun (r : Int32) (G : Nat → va_E) => True ∧ True ∧ y_I K cs A G ∧ (∀ b, K b ∉ ([] : List Nat) → G b = F b) ∧ (∀ k, k ∈ ([1, 2, 3, 4, 5, 6, 7, 8, 11, 15, 16, 19, 25, 26, 27, 31, 32] : List Nat) → y_fi G a0 k = y_fi F a0 k) ∧ (r = y_c (y_at F (A 20)) (109 + 6 * x1.toInt) - 1)) (fun (G : Nat → va_E) (t : State) => va_P (dC, dI) vwCl (va_pl L G) t.heap ∧ va_K (dC, dI) vwCl [(cs 0, .int), (cs 1, .byte), (cs 2, .long), (cs 3, .object RX5), (cs 4, .object RX4), (cs 5, .array .int), (cs 6, .char), (cs 7, .boolean)] t) (fun q => q ∈ L)) 0 0 (fun q => q ∈ L) := by
  refine Met.ofW (cc := cX7_top) (maxL := 2) (ret := (some .int)) (by decide) rfl ?_
  intro p e s m args below meth c s₁ B hml hv
  obtain ⟨rfl, hsz, hP, hK, hD, hN⟩ := hv
  have hx := B.exec
  have hb := B.bytes
  have hr := B.returns
  have hts : ∀ w ∈ T0, w.before _ s = true := fun w h => atoms_spec (ws := Cond.code yX7_top cX7_top 2 (some .int) :: T0) B.pre w (List.mem_cons_of_mem _ h)
  have hown : s.vm.findClass RX7 = some m.cls := findClass_of_methodNamed B.named
  have hlocks := B.notSynchronized
  have hS : va_S (fun q => q ∈ L) s.heap s.heap [] := va_S.rf
  have hfr : ∀ b, K b ∉ ([] : List Nat) → F b = F b := fun _ _ => rfl
  have hl := lv_entry ([.ref a0, .int x1]) (n := 2) (Nat.le_of_ble_eq_true rfl)
  rw [lg_entry_eq]
  generalize (lg_sl ([.ref a0, .int x1]) ++ List.replicate (2 - (lg_sl ([.ref a0, .int x1])).length) Slot.unset).toArray = ls at hl ⊢
  have hl : lv_has ls 2 [(0, .ref a0), (1, .int x1)] := hl
  refine s_gen hP hS (fun H locs hP hS => ?_)
  obtain ⟨z0, q0, oY0, bz0, bq0⟩ := y_opY hI ha0
  have hz0 : ∀ k, k ∈ ([1, 2, 3, 4, 5, 6, 7, 8, 11, 15, 16, 19, 25, 26, 27, 31, 32] : List Nat) → z0 k = z0 k := fun _ _ => rfl
  obtain ⟨f1, o2, b3⟩ := y_op20 hI
  refine lv_aload_n hx hb dX7_top_0 rfl (lv_at hl 0 rfl) ?_
  refine lv_iload_n hx hb dX7_top_1 rfl (lv_at hl 1 rfl) ?_
  refine lv_iconst (v := 5) hx hb dX7_top_2 (by decide) ?_
  refine va_calli (va_runV (As := [.int x1, .int 5]) (rest := []) ⟨hx, hb, hml, hown, hts⟩ (y_X7_its l dC dI H.size hLK A hA F a0 x1 5 ha0 (⟨by omega, by omega⟩) (by decide) hI) (cwV 2 hts (ax_gV T_1057 T_1059 T_1060 T_265 T_1058) rfl rfl rfl (by decide +kernel) ⟨Nat.le_of_ble_eq_true rfl, Nat.le_of_ble_eq_true rfl⟩) ⟨fun a U g mk q => ⟨q.1, s_pc rfl rfl q.2⟩, s_recv hK hP (hLK _ ha0 (by decide)) (ci := 7) rfl oY0, fun U hU hW => ⟨rfl, s_pw hU hW hP hK hD hN⟩⟩ rfl rfl hl.1 rfl (lv_room (Nat.le_of_ble_eq_true rfl)) dX7_top_3 ⟨Nat.zero_le _, Nat.zero_le _⟩) hS (fun q _ h => h) (fun q h => h) (fun r5 F6 t H1 locs ht hvm hw hB hz1 hk1 hS => ?_)
  obtain ⟨hP, hK1⟩ := hB
  rw [ht] at hP
  generalize H1 = H at hP hS ⊢
  obtain ⟨h7, h9, hI, hfr1, hzf, h8⟩ := hw
  have o10 : F6 (A 20) = .inl (cs 0, 918, .inl f1) := (hfr1 _ (by rw [(y_k20 hA)]; decide)).trans o2
  have oY11 : F6 a0 = .inr (7, y_fl A z0 q0) := (hfr1 _ (by rw [ha0]; decide)).trans oY0
  have hfr : ∀ b, K b ∉ ([] : List Nat) → F6 b = F b := fun b hb9 => (hfr1 b (fun q => hb9 (s_sub (by decide) q))).trans (hfr b hb9)
  have h8 : (r5 = y_c f1 (104 + 6 * x1.toInt + 5)) := by have q9 := h8; rw [y_atE o2] at q9; exact q9
  have h8 : r5 = y_c f1 (109 + 6 * x1.toInt) := h8.trans (congrArg (y_c f1) (by omega))
  have h12 := congrArg Int32.toInt h8
  refine lv_iconst (v := 1) hx hb dX7_top_6 (by decide) ?_
  refine lv_isub hx hb dX7_top_7 ?_
  refine lv_topi (fun v13 ev13 => ?_)
  exact W.iret (v := v13) hx hb hr (fun t ht hW => ⟨⟨v13, F6, rfl, ⟨trivial, trivial, hI, hfr, fun k hk => (y_fiZ oY11 (s_sub (by decide) hk)).trans ((hz0 k hk).trans (y_fiZ oY0 (s_sub (by decide) hk)).symm), (by rw [y_atE o2]; exact (by rw [ev13, h8]))⟩, by rw [ht]; exact hP, va_K.moved hW.alike hK⟩, hS.F ht⟩) hS.2.2 dX7_top_8

set_option maxHeartbeats 4000000 in
set_option maxRecDepth 100000 in
theorem y_X7_isOf (l : Launch) (dC : Nat → ClassId) (dI : Nat → Nat → Nat) (sz : Nat) {L : List Nat} {cs : Nat → ClassId} (F : Nat → va_E) (x0 : Int32) (x1 : Int32) (hx1 : 0 ≤ x1.toInt ∧ x1.toInt ≤ 31) : Met l yX7_isOf (Cond.code yX7_isOf cX7_isOf 2 (some .boolean) :: T0) ({ frames := 0, cells := 0, slots := 0, locals := 0 }) (va_Pc [.int x0, .int x1] (s_W dC dI sz L F [(cs 0, .int), (cs 1, .byte), (cs 2, .long), (cs 3, .object RX5), (cs 4, .object RX4), (cs 5, .array .int), (cs 6, .char), (cs 7, .boolean)])) (va_Qi (fun (r : Int32) (G : Nat → va_E) => (0 ≤ r.toInt ∧ r.toInt ≤ 1) ∧ True ∧ G = F ∧ ((r.toInt = 1 ∧ bt x0 x1.toInt.toNat = true) ∨ (r.toInt = 0 ∧ bt x0 x1.toInt.toNat = false))) (fun (G : Nat → va_E) (t : State) => va_P (dC, dI) vwCl (va_pl L G) t.heap ∧ va_K (dC, dI) vwCl [(cs 0, .int), (cs 1, .byte), (cs 2, .long), (cs 3, .object RX5), (cs 4, .object RX4), (cs 5, .array .int), (cs 6, .char), (cs 7, .boolean)] t) (fun q => q ∈ L)) 0 0 (fun q => q ∈ L) := by
  refine Met.ofW (cc := cX7_isOf) (maxL := 2) (ret := (some .boolean)) (by decide) rfl ?_
  intro p e s m args below meth c s₁ B hml hv
  obtain ⟨rfl, hsz, hP, hK, hD, hN⟩ := hv
  have hx := B.exec
  have hb := B.bytes
  have hr := B.returns
  have hts : ∀ w ∈ T0, w.before _ s = true := fun w h => atoms_spec (ws := Cond.code yX7_isOf cX7_isOf 2 (some .boolean) :: T0) B.pre w (List.mem_cons_of_mem _ h)
  have hown : s.vm.findClass RX7 = some m.cls := findClass_of_methodNamed B.named
  have hlocks := B.notSynchronized
  have hS : va_S (fun q => q ∈ L) s.heap s.heap [] := va_S.rf
  have hl := lv_entry ([.int x0, .int x1]) (n := 2) (Nat.le_of_ble_eq_true rfl)
  rw [lg_entry_eq]
  generalize (lg_sl ([.int x0, .int x1]) ++ List.replicate (2 - (lg_sl ([.int x0, .int x1])).length) Slot.unset).toArray = ls at hl ⊢
  have hl : lv_has ls 2 [(0, .int x0), (1, .int x1)] := hl
  refine s_gen hP hS (fun H locs hP hS => ?_)
  refine lv_iload_n hx hb dX7_isOf_0 rfl (lv_at hl 0 rfl) ?_
  refine lv_iload_n hx hb dX7_isOf_1 rfl (lv_at hl 1 rfl) ?_
  refine lv_ishr hx hb dX7_isOf_2 ?_
  refine lv_topi (fun v1 ev1 => ?_)
  refine lv_iconst (v := 1) hx hb dX7_isOf_3 (by decide) ?_
  refine lv_iand hx hb dX7_isOf_4 ?_
  refine lv_topi (fun v2 ev2 => ?_)
  have qv2 : 0 ≤ v2.toInt ∧ v2.toInt ≤ 1 := by rw [ev2]; exact th_and 1 (by decide) (by decide)
  refine lv_iconst (v := 1) hx hb dX7_isOf_5 (by decide) ?_
  refine lv_icmp_ne (tgt := 13) hx hb dX7_isOf_6 (by decide) (fun c3 => ?_) (fun c3 => ?_)
  · have c3 := mt (ax_eq (n := 1) (by decide)).mpr c3
    refine lv_iconst (v := 0) hx hb dX7_isOf_13 (by decide) ?_
    have h4 : (0 : Int32).toInt = 0 := by decide
    exact W.zret (v := 0) (ty := .boolean) hx hb hr (by decide) (fun t ht hW => ⟨⟨0, F, rfl, ⟨(by decide), trivial, rfl, (show ((0 = 1 ∧ bt x0 x1.toInt.toNat = true) ∨ (0 = 0 ∧ bt x0 x1.toInt.toNat = false)) from (Or.inr ⟨by decide, y_fF (fun q => c3 ((y_isOf2 ⟨by omega, by omega⟩ (by rw [ev2, ev1])).mpr q))⟩))⟩, by rw [ht]; exact hP, va_K.moved hW.alike hK⟩, hS.F ht⟩) hS.2.2 dX7_isOf_14
  · have c3 := (ax_eq (n := 1) (by decide)).mp c3
    refine lv_iconst (v := 1) hx hb dX7_isOf_9 (by decide) ?_
    refine lv_goto (tgt := 14) hx hb dX7_isOf_10 (by decide) ?_
    have h5 : (1 : Int32).toInt = 1 := by decide
    exact W.zret (v := 1) (ty := .boolean) hx hb hr (by decide) (fun t ht hW => ⟨⟨1, F, rfl, ⟨(by decide), trivial, rfl, (show ((1 = 1 ∧ bt x0 x1.toInt.toNat = true) ∨ (1 = 0 ∧ bt x0 x1.toInt.toNat = false)) from (Or.inl ⟨by decide, (y_isOf2 ⟨by omega, by omega⟩ (by rw [ev2, ev1])).mp c3⟩))⟩, by rw [ht]; exact hP, va_K.moved hW.alike hK⟩, hS.F ht⟩) hS.2.2 dX7_isOf_14

set_option maxHeartbeats 4000000 in
set_option maxRecDepth 100000 in
theorem y_X7_pushes (l : Launch) (dC : Nat → ClassId) (dI : Nat → Nat → Nat) (sz : Nat) {L : List Nat} {K : Nat → Nat} {cs : Nat → ClassId} (hLK : ∀ a {k : Nat}, K a = k → k ≠ 0 → a ∈ L) (A : Nat → Nat) (hA : y_A K A) (F : Nat → va_E) (a0 : Nat) (x1 : Int32) (x2 : Int32) (x3 : Int32) (x4 : Int32) (ha0 : K a0 = 9) (hx1 : 0 ≤ x1.toInt ∧ x1.toInt ≤ 3) (hI : y_I K cs A F) (hpn : (0 ≤ (y_c (y_at F (A 20)) (109 + 6 * x1.toInt)).toInt ∧ (y_c (y_at F (A 20)) (109 + 6 * x1.toInt)).toInt ≤ 15)) : Met l yX7_pushes (Cond.code yX7_pushes cX7_pushes 6 none :: T0) ({ frames := 2, cells := 0, slots := 0, locals := 43 }) (va_Pc [.ref a0, .int x1, .int x2, .int x3, .int x4] (s_W dC dI sz L F [(cs 0, .int), (cs 1, .byte), (cs 2, .long), (cs 3, .object RX5), (cs 4, .object RX4), (cs 5, .array .int), (cs 6, .char), (cs 7, .boolean)])) (va_Qv (fun (G : Nat → va_E) => True ∧ True ∧ y_I K cs A G ∧ (∀ b, K b ∉ [70] → G b = F b) ∧ (∀ k, k ∈ ([1, 2, 3, 4, 5, 6, 7, 8, 11, 15, 16, 19, 25, 26, 27, 31, 32] : List Nat) → y_fi G a0 k = y_fi F a0 k) ∧ (∀ j : Int, 0 ≤ j → y_c (y_at G (A 20)) j = y_psh (y_at F (A 20)) x1.toInt x2 x3 x4 j)) (fun (G : Nat → va_E) (t : State) => va_P (dC, dI) vwCl (va_pl L G) t.heap ∧ va_K (dC, dI) vwCl [(cs 0, .int), (cs 1, .byte), (cs 2, .long), (cs 3, .object RX5), (cs 4, .object RX4), (cs 5, .array .int), (cs 6, .char), (cs 7, .boolean)] t) (fun q => q ∈ L)) 0 0 (fun q => q ∈ L) := by
  refine Met.ofW (cc := cX7_pushes) (maxL := 6) (ret := none) (by decide) rfl ?_
  intro p e s m args below meth c s₁ B hml hv
  obtain ⟨rfl, hsz, hP, hK, hD, hN⟩ := hv
  have hx := B.exec
  have hb := B.bytes
  have hr := B.returns
  have hts : ∀ w ∈ T0, w.before _ s = true := fun w h => atoms_spec (ws := Cond.code yX7_pushes cX7_pushes 6 none :: T0) B.pre w (List.mem_cons_of_mem _ h)
  have hown : s.vm.findClass RX7 = some m.cls := findClass_of_methodNamed B.named
  have hlocks := B.notSynchronized
  have hS : va_S (fun q => q ∈ L) s.heap s.heap [] := va_S.rf
  have hfr : ∀ b, K b ∉ [70] → F b = F b := fun _ _ => rfl
  have hl := lv_entry ([.ref a0, .int x1, .int x2, .int x3, .int x4]) (n := 6) (Nat.le_of_ble_eq_true rfl)
  rw [lg_entry_eq]
  generalize (lg_sl ([.ref a0, .int x1, .int x2, .int x3, .int x4]) ++ List.replicate (6 - (lg_sl ([.ref a0, .int x1, .int x2, .int x3, .int x4])).length) Slot.unset).toArray = ls at hl ⊢
  have hl : lv_has ls 6 [(0, .ref a0), (1, .int x1), (2, .int x2), (3, .int x3), (4, .int x4)] := hl
  refine s_gen hP hS (fun H locs hP hS => ?_)
  obtain ⟨z0, q0, oY0, bz0, bq0⟩ := y_opY hI ha0
  have hz0 : ∀ k, k ∈ ([1, 2, 3, 4, 5, 6, 7, 8, 11, 15, 16, 19, 25, 26, 27, 31, 32] : List Nat) → z0 k = z0 k := fun _ _ => rfl
  obtain ⟨f1, o2, b3⟩ := y_op20 hI
  have hpn : (0 ≤ (y_c f1 (109 + 6 * x1.toInt)).toInt ∧ (y_c f1 (109 + 6 * x1.toInt)).toInt ≤ 15) := by have q9 := hpn; rw [y_atE o2] at q9; exact q9
  refine lv_aload_n hx hb dX7_pushes_0 rfl (lv_at hl 0 rfl) ?_
  refine lv_iload_n hx hb dX7_pushes_1 rfl (lv_at hl 1 rfl) ?_
  refine lv_iconst (v := 5) hx hb dX7_pushes_2 (by decide) ?_
  refine va_calli (va_runV (As := [.int x1, .int 5]) (rest := []) ⟨hx, hb, hml, hown, hts⟩ (y_X7_its l dC dI H.size hLK A hA F a0 x1 5 ha0 (⟨by omega, by omega⟩) (by decide) hI) (cwV 2 hts (ax_gV T_1057 T_1059 T_1060 T_265 T_1058) rfl rfl rfl (by decide +kernel) ⟨Nat.le_of_ble_eq_true rfl, Nat.le_of_ble_eq_true rfl⟩) ⟨fun a U g mk q => ⟨q.1, s_pc rfl rfl q.2⟩, s_recv hK hP (hLK _ ha0 (by decide)) (ci := 7) rfl oY0, fun U hU hW => ⟨rfl, s_pw hU hW hP hK hD hN⟩⟩ rfl rfl hl.1 rfl (lv_room (Nat.le_of_ble_eq_true rfl)) dX7_pushes_3 ⟨Nat.zero_le _, Nat.zero_le _⟩) hS (fun q _ h => h) (fun q h => h) (fun r5 F6 t H1 locs ht hvm hw hB hz1 hk1 hS => ?_)
  obtain ⟨hP, hK1⟩ := hB
  rw [ht] at hP
  generalize H1 = H at hP hS ⊢
  obtain ⟨h7, h9, hI, hfr1, hzf, h8⟩ := hw
  have o10 : F6 (A 20) = .inl (cs 0, 918, .inl f1) := (hfr1 _ (by rw [(y_k20 hA)]; decide)).trans o2
  have oY11 : F6 a0 = .inr (7, y_fl A z0 q0) := (hfr1 _ (by rw [ha0]; decide)).trans oY0
  have hfr : ∀ b, K b ∉ [70] → F6 b = F b := fun b hb9 => (hfr1 b (fun q => hb9 (s_sub (by decide) q))).trans (hfr b hb9)
  have h8 : (r5 = y_c f1 (104 + 6 * x1.toInt + 5)) := by have q9 := h8; rw [y_atE o2] at q9; exact q9
  have h8 : r5 = y_c f1 (109 + 6 * x1.toInt) := h8.trans (congrArg (y_c f1) (by omega))
  have h12 := congrArg Int32.toInt h8
  have h13 : 0 ≤ r5.toInt ∧ r5.toInt ≤ 15 := by omega
  refine lv_istore (lv' := [(5, .int r5), (0, .ref a0), (1, .int x1), (2, .int x2), (3, .int x3), (4, .int x4)]) hx hb dX7_pushes_6 hl (by decide) rfl (fun ls hl => ?_)
  refine lv_aload_n hx hb dX7_pushes_8 rfl (lv_at hl 1 rfl) ?_
  refine th_get (D := (dC, dI)) (ci := 7) (v := .ref (A 20)) (C := RX7) (T := TX7) (N := 34) hx hb hts inX7 hown hK hP (hLK _ ha0 (by decide)) oY11 rfl 20 (by decide) (hts _ T_251) (fun _ h9 => h9) rfl dX7_pushes_9 ?_
  refine lv_iload_n hx hb dX7_pushes_12 rfl (lv_at hl 2 rfl) ?_
  refine lv_iload hx hb dX7_pushes_13 (lv_at hl 0 rfl) ?_
  refine lv_iconst (v := 0) hx hb dX7_pushes_15 (by decide) ?_
  refine va_calli (va_runS (As := [.int x1, .int r5, .int 0]) (rest := [.ref (A 20)]) ⟨hx, hb, hml, hown, hts⟩ (y_X7_partAt l dC dI H.size F6 x1 r5 0 (⟨by omega, by omega⟩) (⟨by omega, by omega⟩) (by decide)) (cwS 3 hts (ax_gS T_1078 T_1080 T_265 T_1079) rfl rfl rfl (by decide +kernel) ⟨Nat.le_of_ble_eq_true rfl, Nat.le_of_ble_eq_true rfl⟩) ⟨fun a U g mk q => ⟨q.1, s_pc rfl rfl q.2⟩, fun U hU hW => ⟨rfl, s_pw hU hW hP hK hD hN⟩⟩ rfl rfl hl.1 rfl (lv_room (Nat.le_of_ble_eq_true rfl)) dX7_pushes_16 ⟨Nat.zero_le _, Nat.zero_le _⟩) hS (fun q _ h => h) (fun q h => h) (fun r15 F16 t H1 locs ht hvm hw hB hz1 hk1 hS => ?_)
  obtain ⟨hP, hK1⟩ := hB
  rw [ht] at hP
  generalize H1 = H at hP hS ⊢
  obtain ⟨h17, h19, hG9, h18⟩ := hw
  rw [hG9] at hP
  have h18 : (r15.toInt = 288 + 48 * x1.toInt + 3 * r5.toInt + 0) := by have q9 := h18; exact q9
  refine lv_iload_n hx hb dX7_pushes_19 rfl (lv_at hl 3 rfl) ?_
  refine th_iast hx hb hK hP hD hS (hLK _ (y_k20 hA) (by decide)) 0 o10 rfl (th_in ⟨by omega, by omega⟩) dX7_pushes_20 (fun H locs hP hS => ?_)
  obtain ⟨f20, u21⟩ : ∃ g : Nat → Int32, g = upd f1 (r15 : Int32).toNatClampNeg x2 := ⟨_, rfl⟩
  rw [← u21] at hP
  have b22 : y_bd 20 f20 := trivial
  have hP : va_P (dC, dI) vwCl (va_pl L (va_up F6 (A 20) (.inl (cs 0, 918, .inl f20)))) H := hP
  obtain ⟨F23, hF24⟩ : ∃ G : Nat → va_E, G = va_up F6 (A 20) (.inl (cs 0, 918, .inl f20)) := ⟨_, rfl⟩
  rw [← hF24] at hP
  have hI : y_I K cs A F23 := by rw [hF24]; exact y_clA (i := 20) hA hI (by decide) b22
  have hfr : ∀ b, K b ∉ [70] → F23 b = F b := by rw [hF24]; exact s_fr hfr (y_k20 hA) (by decide)
  have oY25 : F23 a0 = .inr (7, y_fl A z0 q0) := by rw [hF24]; exact th_ne (th_kd ha0 (y_k20 hA) (by decide)) oY11
  have o26 : F23 (A 20) = .inl (cs 0, 918, .inl f20) := by rw [hF24]; exact th_up
  have u27 : ∀ j : Int, 0 ≤ j → y_c f20 j = if j = r15.toInt then x2 else y_c f1 j := by rw [u21]; exact y_cu rfl (by omega)
  refine lv_aload_n hx hb dX7_pushes_21 rfl (lv_at hl 1 rfl) ?_
  refine th_get (D := (dC, dI)) (ci := 7) (v := .ref (A 20)) (C := RX7) (T := TX7) (N := 34) hx hb hts inX7 hown hK hP (hLK _ ha0 (by decide)) oY25 rfl 20 (by decide) (hts _ T_251) (fun _ h9 => h9) rfl dX7_pushes_22 ?_
  refine lv_iload_n hx hb dX7_pushes_25 rfl (lv_at hl 2 rfl) ?_
  refine lv_iload hx hb dX7_pushes_26 (lv_at hl 0 rfl) ?_
  refine lv_iconst (v := 1) hx hb dX7_pushes_28 (by decide) ?_
  refine va_calli (va_runS (As := [.int x1, .int r5, .int 1]) (rest := [.ref (A 20)]) ⟨hx, hb, hml, hown, hts⟩ (y_X7_partAt l dC dI H.size F23 x1 r5 1 (⟨by omega, by omega⟩) (⟨by omega, by omega⟩) (by decide)) (cwS 3 hts (ax_gS T_1078 T_1080 T_265 T_1079) rfl rfl rfl (by decide +kernel) ⟨Nat.le_of_ble_eq_true rfl, Nat.le_of_ble_eq_true rfl⟩) ⟨fun a U g mk q => ⟨q.1, s_pc rfl rfl q.2⟩, fun U hU hW => ⟨rfl, s_pw hU hW hP hK hD hN⟩⟩ rfl rfl hl.1 rfl (lv_room (Nat.le_of_ble_eq_true rfl)) dX7_pushes_29 ⟨Nat.zero_le _, Nat.zero_le _⟩) hS (fun q _ h => h) (fun q h => h) (fun r29 F30 t H1 locs ht hvm hw hB hz1 hk1 hS => ?_)
  obtain ⟨hP, hK1⟩ := hB
  rw [ht] at hP
  generalize H1 = H at hP hS ⊢
  obtain ⟨h31, h33, hG9, h32⟩ := hw
  rw [hG9] at hP
  have h32 : (r29.toInt = 288 + 48 * x1.toInt + 3 * r5.toInt + 1) := by have q9 := h32; exact q9
  refine lv_iload_n hx hb dX7_pushes_32 rfl (lv_at hl 4 rfl) ?_
  refine th_iast hx hb hK hP hD hS (hLK _ (y_k20 hA) (by decide)) 0 o26 rfl (th_in ⟨by omega, by omega⟩) dX7_pushes_33 (fun H locs hP hS => ?_)
  obtain ⟨f34, u35⟩ : ∃ g : Nat → Int32, g = upd f20 (r29 : Int32).toNatClampNeg x3 := ⟨_, rfl⟩
  rw [← u35] at hP
  have b36 : y_bd 20 f34 := trivial
  have hP : va_P (dC, dI) vwCl (va_pl L (va_up F23 (A 20) (.inl (cs 0, 918, .inl f34)))) H := hP
  obtain ⟨F37, hF38⟩ : ∃ G : Nat → va_E, G = va_up F23 (A 20) (.inl (cs 0, 918, .inl f34)) := ⟨_, rfl⟩
  rw [← hF38] at hP
  have hI : y_I K cs A F37 := by rw [hF38]; exact y_clA (i := 20) hA hI (by decide) b36
  have hfr : ∀ b, K b ∉ [70] → F37 b = F b := by rw [hF38]; exact s_fr hfr (y_k20 hA) (by decide)
  have oY39 : F37 a0 = .inr (7, y_fl A z0 q0) := by rw [hF38]; exact th_ne (th_kd ha0 (y_k20 hA) (by decide)) oY25
  have o40 : F37 (A 20) = .inl (cs 0, 918, .inl f34) := by rw [hF38]; exact th_up
  have u41 : ∀ j : Int, 0 ≤ j → y_c f34 j = if j = r29.toInt then x3 else y_c f20 j := by rw [u35]; exact y_cu rfl (by omega)
  refine lv_aload_n hx hb dX7_pushes_34 rfl (lv_at hl 1 rfl) ?_
  refine th_get (D := (dC, dI)) (ci := 7) (v := .ref (A 20)) (C := RX7) (T := TX7) (N := 34) hx hb hts inX7 hown hK hP (hLK _ ha0 (by decide)) oY39 rfl 20 (by decide) (hts _ T_251) (fun _ h9 => h9) rfl dX7_pushes_35 ?_
  refine lv_iload_n hx hb dX7_pushes_38 rfl (lv_at hl 2 rfl) ?_
  refine lv_iload hx hb dX7_pushes_39 (lv_at hl 0 rfl) ?_
  refine lv_iconst (v := 2) hx hb dX7_pushes_41 (by decide) ?_
  refine va_calli (va_runS (As := [.int x1, .int r5, .int 2]) (rest := [.ref (A 20)]) ⟨hx, hb, hml, hown, hts⟩ (y_X7_partAt l dC dI H.size F37 x1 r5 2 (⟨by omega, by omega⟩) (⟨by omega, by omega⟩) (by decide)) (cwS 3 hts (ax_gS T_1078 T_1080 T_265 T_1079) rfl rfl rfl (by decide +kernel) ⟨Nat.le_of_ble_eq_true rfl, Nat.le_of_ble_eq_true rfl⟩) ⟨fun a U g mk q => ⟨q.1, s_pc rfl rfl q.2⟩, fun U hU hW => ⟨rfl, s_pw hU hW hP hK hD hN⟩⟩ rfl rfl hl.1 rfl (lv_room (Nat.le_of_ble_eq_true rfl)) dX7_pushes_42 ⟨Nat.zero_le _, Nat.zero_le _⟩) hS (fun q _ h => h) (fun q h => h) (fun r43 F44 t H1 locs ht hvm hw hB hz1 hk1 hS => ?_)
  obtain ⟨hP, hK1⟩ := hB
  rw [ht] at hP
  generalize H1 = H at hP hS ⊢
  obtain ⟨h45, h47, hG9, h46⟩ := hw
  rw [hG9] at hP
  have h46 : (r43.toInt = 288 + 48 * x1.toInt + 3 * r5.toInt + 2) := by have q9 := h46; exact q9
  refine lv_iload hx hb dX7_pushes_45 (lv_at hl 5 rfl) ?_
  refine th_iast hx hb hK hP hD hS (hLK _ (y_k20 hA) (by decide)) 0 o40 rfl (th_in ⟨by omega, by omega⟩) dX7_pushes_47 (fun H locs hP hS => ?_)
  obtain ⟨f48, u49⟩ : ∃ g : Nat → Int32, g = upd f34 (r43 : Int32).toNatClampNeg x4 := ⟨_, rfl⟩
  rw [← u49] at hP
  have b50 : y_bd 20 f48 := trivial
  have hP : va_P (dC, dI) vwCl (va_pl L (va_up F37 (A 20) (.inl (cs 0, 918, .inl f48)))) H := hP
  obtain ⟨F51, hF52⟩ : ∃ G : Nat → va_E, G = va_up F37 (A 20) (.inl (cs 0, 918, .inl f48)) := ⟨_, rfl⟩
  rw [← hF52] at hP
  have hI : y_I K cs A F51 := by rw [hF52]; exact y_clA (i := 20) hA hI (by decide) b50
  have hfr : ∀ b, K b ∉ [70] → F51 b = F b := by rw [hF52]; exact s_fr hfr (y_k20 hA) (by decide)
  have oY53 : F51 a0 = .inr (7, y_fl A z0 q0) := by rw [hF52]; exact th_ne (th_kd ha0 (y_k20 hA) (by decide)) oY39
  have o54 : F51 (A 20) = .inl (cs 0, 918, .inl f48) := by rw [hF52]; exact th_up
  have u55 : ∀ j : Int, 0 ≤ j → y_c f48 j = if j = r43.toInt then x4 else y_c f34 j := by rw [u49]; exact y_cu rfl (by omega)
  refine lv_aload_n hx hb dX7_pushes_48 rfl (lv_at hl 1 rfl) ?_
  refine th_get (D := (dC, dI)) (ci := 7) (v := .ref (A 20)) (C := RX7) (T := TX7) (N := 34) hx hb hts inX7 hown hK hP (hLK _ ha0 (by decide)) oY53 rfl 20 (by decide) (hts _ T_251) (fun _ h9 => h9) rfl dX7_pushes_49 ?_
  refine lv_iload_n hx hb dX7_pushes_52 rfl (lv_at hl 2 rfl) ?_
  refine lv_iconst (v := 5) hx hb dX7_pushes_53 (by decide) ?_
  refine va_calli (va_runS (As := [.int x1, .int 5]) (rest := [.ref (A 20)]) ⟨hx, hb, hml, hown, hts⟩ (y_X7_warpAt l dC dI H.size F51 x1 5 (⟨by omega, by omega⟩) (by decide)) (cwS 2 hts (ax_gS T_1021 T_1023 T_265 T_1022) rfl rfl rfl (by decide +kernel) ⟨Nat.le_of_ble_eq_true rfl, Nat.le_of_ble_eq_true rfl⟩) ⟨fun a U g mk q => ⟨q.1, s_pc rfl rfl q.2⟩, fun U hU hW => ⟨rfl, s_pw hU hW hP hK hD hN⟩⟩ rfl rfl hl.1 rfl (lv_room (Nat.le_of_ble_eq_true rfl)) dX7_pushes_54 ⟨Nat.zero_le _, Nat.zero_le _⟩) hS (fun q _ h => h) (fun q h => h) (fun r57 F58 t H1 locs ht hvm hw hB hz1 hk1 hS => ?_)
  obtain ⟨hP, hK1⟩ := hB
  rw [ht] at hP
  generalize H1 = H at hP hS ⊢
  obtain ⟨h59, h61, hG9, h60⟩ := hw
  rw [hG9] at hP
  have h60 : (r57.toInt = 104 + 6 * x1.toInt + 5) := by have q9 := h60; exact q9
  refine lv_dup2_11 hx hb dX7_pushes_57 rfl rfl ?_
  refine th_iald hx hb hK hP (hLK _ (y_k20 hA) (by decide)) 0 o54 rfl (th_in ⟨by omega, by omega⟩) dX7_pushes_58 ?_
  refine lv_topi (fun v62 ev62 => ?_)
  have Ev62 : v62 = y_c f48 (109 + 6 * x1.toInt) := ev62.trans (y_ci (by omega))
  have tEv62 := congrArg Int32.toInt Ev62
  refine lv_iconst (v := 1) hx hb dX7_pushes_59 (by decide) ?_
  refine lv_iadd hx hb dX7_pushes_60 ?_
  refine lv_topi (fun v63 ev63 => ?_)
  refine th_iast hx hb hK hP hD hS (hLK _ (y_k20 hA) (by decide)) 0 o54 rfl (th_in ⟨by omega, by omega⟩) dX7_pushes_61 (fun H locs hP hS => ?_)
  obtain ⟨f64, u65⟩ : ∃ g : Nat → Int32, g = upd f48 (r57 : Int32).toNatClampNeg v63 := ⟨_, rfl⟩
  rw [← u65] at hP
  have b66 : y_bd 20 f64 := trivial
  have hP : va_P (dC, dI) vwCl (va_pl L (va_up F51 (A 20) (.inl (cs 0, 918, .inl f64)))) H := hP
  obtain ⟨F67, hF68⟩ : ∃ G : Nat → va_E, G = va_up F51 (A 20) (.inl (cs 0, 918, .inl f64)) := ⟨_, rfl⟩
  rw [← hF68] at hP
  have hI : y_I K cs A F67 := by rw [hF68]; exact y_clA (i := 20) hA hI (by decide) b66
  have hfr : ∀ b, K b ∉ [70] → F67 b = F b := by rw [hF68]; exact s_fr hfr (y_k20 hA) (by decide)
  have oY69 : F67 a0 = .inr (7, y_fl A z0 q0) := by rw [hF68]; exact th_ne (th_kd ha0 (y_k20 hA) (by decide)) oY53
  have o70 : F67 (A 20) = .inl (cs 0, 918, .inl f64) := by rw [hF68]; exact th_up
  have u71 : ∀ j : Int, 0 ≤ j → y_c f64 j = if j = r57.toInt then v63 else y_c f48 j := by rw [u65]; exact y_cu rfl (by omega)
  exact W.vret hx hb hr (fun t ht hW => ⟨⟨F67, rfl, ⟨trivial, trivial, hI, hfr, fun k hk => (y_fiZ oY69 (s_sub (by decide) hk)).trans ((hz0 k hk).trans (y_fiZ oY0 (s_sub (by decide) hk)).symm), (by rw [y_atE o70, y_atE o2]; exact y_pshP ⟨by omega, by omega⟩ hpn u27 u41 u55 u71 (by omega) (by omega) (by omega) (by omega) (by rw [ev63, Ev62]))⟩, by rw [ht]; exact hP, va_K.moved hW.alike hK⟩, hS.F ht⟩) hS.2.2 dX7_pushes_62

set_option maxHeartbeats 4000000 in
set_option maxRecDepth 100000 in
theorem y_X7_dies (l : Launch) (dC : Nat → ClassId) (dI : Nat → Nat → Nat) (sz : Nat) {L : List Nat} {K : Nat → Nat} {cs : Nat → ClassId} (hLK : ∀ a {k : Nat}, K a = k → k ≠ 0 → a ∈ L) (A : Nat → Nat) (hA : y_A K A) (F : Nat → va_E) (a0 : Nat) (x1 : Int32) (x2 : Int32) (ha0 : K a0 = 9) (hx1 : 0 ≤ x1.toInt ∧ x1.toInt ≤ 3) (hI : y_I K cs A F) (hpn : (0 ≤ (y_c (y_at F (A 20)) (109 + 6 * x1.toInt)).toInt ∧ (y_c (y_at F (A 20)) (109 + 6 * x1.toInt)).toInt ≤ 15)) : Met l yX7_dies (Cond.code yX7_dies cX7_dies 4 none :: T0) ({ frames := 2, cells := 0, slots := 0, locals := 43 }) (va_Pc [.ref a0, .int x1, .int x2] (s_W dC dI sz L F [(cs 0, .int), (cs 1, .byte), (cs 2, .long), (cs 3, .object RX5), (cs 4, .object RX4), (cs 5, .array .int), (cs 6, .char), (cs 7, .boolean)])) (va_Qv (fun (G : Nat → va_E) => True ∧ True ∧ y_I K cs A G ∧ (∀ b, K b ∉ [70] → G b = F b) ∧ (∀ k, k ∈ ([1, 2, 3, 4, 5, 6, 7, 8, 11, 15, 16, 19, 25, 26, 27, 31, 32] : List Nat) → y_fi G a0 k = y_fi F a0 k) ∧ (∀ j : Int, 0 ≤ j → y_c (y_at G (A 20)) j = y_die (y_at F (A 20)) x1.toInt (y_c (y_at F (A 20)) (109 + 6 * x1.toInt)).toInt x2 j)) (fun (G : Nat → va_E) (t : State) => va_P (dC, dI) vwCl (va_pl L G) t.heap ∧ va_K (dC, dI) vwCl [(cs 0, .int), (cs 1, .byte), (cs 2, .long), (cs 3, .object RX5), (cs 4, .object RX4), (cs 5, .array .int), (cs 6, .char), (cs 7, .boolean)] t) (fun q => q ∈ L)) 0 0 (fun q => q ∈ L) := by
  refine Met.ofW (cc := cX7_dies) (maxL := 4) (ret := none) (by decide) rfl ?_
  intro p e s m args below meth c s₁ B hml hv
  obtain ⟨rfl, hsz, hP, hK, hD, hN⟩ := hv
  have hx := B.exec
  have hb := B.bytes
  have hr := B.returns
  have hts : ∀ w ∈ T0, w.before _ s = true := fun w h => atoms_spec (ws := Cond.code yX7_dies cX7_dies 4 none :: T0) B.pre w (List.mem_cons_of_mem _ h)
  have hown : s.vm.findClass RX7 = some m.cls := findClass_of_methodNamed B.named
  have hlocks := B.notSynchronized
  have hS : va_S (fun q => q ∈ L) s.heap s.heap [] := va_S.rf
  have hfr : ∀ b, K b ∉ [70] → F b = F b := fun _ _ => rfl
  have hl := lv_entry ([.ref a0, .int x1, .int x2]) (n := 4) (Nat.le_of_ble_eq_true rfl)
  rw [lg_entry_eq]
  generalize (lg_sl ([.ref a0, .int x1, .int x2]) ++ List.replicate (4 - (lg_sl ([.ref a0, .int x1, .int x2])).length) Slot.unset).toArray = ls at hl ⊢
  have hl : lv_has ls 4 [(0, .ref a0), (1, .int x1), (2, .int x2)] := hl
  refine s_gen hP hS (fun H locs hP hS => ?_)
  obtain ⟨z0, q0, oY0, bz0, bq0⟩ := y_opY hI ha0
  have hz0 : ∀ k, k ∈ ([1, 2, 3, 4, 5, 6, 7, 8, 11, 15, 16, 19, 25, 26, 27, 31, 32] : List Nat) → z0 k = z0 k := fun _ _ => rfl
  obtain ⟨f1, o2, b3⟩ := y_op20 hI
  have hpn : (0 ≤ (y_c f1 (109 + 6 * x1.toInt)).toInt ∧ (y_c f1 (109 + 6 * x1.toInt)).toInt ≤ 15) := by have q9 := hpn; rw [y_atE o2] at q9; exact q9
  refine lv_aload_n hx hb dX7_dies_0 rfl (lv_at hl 0 rfl) ?_
  refine th_get (D := (dC, dI)) (ci := 7) (v := .ref (A 20)) (C := RX7) (T := TX7) (N := 34) hx hb hts inX7 hown hK hP (hLK _ ha0 (by decide)) oY0 rfl 20 (by decide) (hts _ T_251) (fun _ h9 => h9) rfl dX7_dies_1 ?_
  refine lv_iload_n hx hb dX7_dies_4 rfl (lv_at hl 1 rfl) ?_
  refine lv_iconst (v := 3) hx hb dX7_dies_5 (by decide) ?_
  refine va_calli (va_runS (As := [.int x1, .int 3]) (rest := [.ref (A 20)]) ⟨hx, hb, hml, hown, hts⟩ (y_X7_warpAt l dC dI H.size F x1 3 (⟨by omega, by omega⟩) (by decide)) (cwS 2 hts (ax_gS T_1021 T_1023 T_265 T_1022) rfl rfl rfl (by decide +kernel) ⟨Nat.le_of_ble_eq_true rfl, Nat.le_of_ble_eq_true rfl⟩) ⟨fun a U g mk q => ⟨q.1, s_pc rfl rfl q.2⟩, fun U hU hW => ⟨rfl, s_pw hU hW hP hK hD hN⟩⟩ rfl rfl hl.1 rfl (lv_room (Nat.le_of_ble_eq_true rfl)) dX7_dies_6 ⟨Nat.zero_le _, Nat.zero_le _⟩) hS (fun q _ h => h) (fun q h => h) (fun r5 F6 t H1 locs ht hvm hw hB hz1 hk1 hS => ?_)
  obtain ⟨hP, hK1⟩ := hB
  rw [ht] at hP
  generalize H1 = H at hP hS ⊢
  obtain ⟨h7, h9, hG9, h8⟩ := hw
  rw [hG9] at hP
  have h8 : (r5.toInt = 104 + 6 * x1.toInt + 3) := by have q9 := h8; exact q9
  refine lv_dup2_11 hx hb dX7_dies_9 rfl rfl ?_
  refine th_iald hx hb hK hP (hLK _ (y_k20 hA) (by decide)) 0 o2 rfl (th_in ⟨by omega, by omega⟩) dX7_dies_10 ?_
  refine lv_topi (fun v10 ev10 => ?_)
  have Ev10 : v10 = y_c f1 (107 + 6 * x1.toInt) := ev10.trans (y_ci (by omega))
  have tEv10 := congrArg Int32.toInt Ev10
  refine lv_iload_n hx hb dX7_dies_11 rfl (lv_at hl 2 rfl) ?_
  refine lv_iconst (v := (-1)) hx hb dX7_dies_12 (by decide) ?_
  refine lv_ixor hx hb dX7_dies_13 ?_
  refine lv_topi (fun v11 ev11 => ?_)
  refine lv_iand hx hb dX7_dies_14 ?_
  refine lv_topi (fun v12 ev12 => ?_)
  refine th_iast hx hb hK hP hD hS (hLK _ (y_k20 hA) (by decide)) 0 o2 rfl (th_in ⟨by omega, by omega⟩) dX7_dies_15 (fun H locs hP hS => ?_)
  obtain ⟨f13, u14⟩ : ∃ g : Nat → Int32, g = upd f1 (r5 : Int32).toNatClampNeg v12 := ⟨_, rfl⟩
  rw [← u14] at hP
  have b15 : y_bd 20 f13 := trivial
  have hP : va_P (dC, dI) vwCl (va_pl L (va_up F (A 20) (.inl (cs 0, 918, .inl f13)))) H := hP
  obtain ⟨F16, hF17⟩ : ∃ G : Nat → va_E, G = va_up F (A 20) (.inl (cs 0, 918, .inl f13)) := ⟨_, rfl⟩
  rw [← hF17] at hP
  have hI : y_I K cs A F16 := by rw [hF17]; exact y_clA (i := 20) hA hI (by decide) b15
  have hfr : ∀ b, K b ∉ [70] → F16 b = F b := by rw [hF17]; exact s_fr hfr (y_k20 hA) (by decide)
  have oY18 : F16 a0 = .inr (7, y_fl A z0 q0) := by rw [hF17]; exact th_ne (th_kd ha0 (y_k20 hA) (by decide)) oY0
  have o19 : F16 (A 20) = .inl (cs 0, 918, .inl f13) := by rw [hF17]; exact th_up
  have u20 : ∀ j : Int, 0 ≤ j → y_c f13 j = if j = r5.toInt then v12 else y_c f1 j := by rw [u14]; exact y_cu rfl (by omega)
  refine lv_aload_n hx hb dX7_dies_16 rfl (lv_at hl 0 rfl) ?_
  refine th_get (D := (dC, dI)) (ci := 7) (v := .ref (A 20)) (C := RX7) (T := TX7) (N := 34) hx hb hts inX7 hown hK hP (hLK _ ha0 (by decide)) oY18 rfl 20 (by decide) (hts _ T_251) (fun _ h9 => h9) rfl dX7_dies_17 ?_
  refine lv_iload_n hx hb dX7_dies_20 rfl (lv_at hl 1 rfl) ?_
  refine lv_iconst (v := 4) hx hb dX7_dies_21 (by decide) ?_
  refine va_calli (va_runS (As := [.int x1, .int 4]) (rest := [.ref (A 20)]) ⟨hx, hb, hml, hown, hts⟩ (y_X7_warpAt l dC dI H.size F16 x1 4 (⟨by omega, by omega⟩) (by decide)) (cwS 2 hts (ax_gS T_1021 T_1023 T_265 T_1022) rfl rfl rfl (by decide +kernel) ⟨Nat.le_of_ble_eq_true rfl, Nat.le_of_ble_eq_true rfl⟩) ⟨fun a U g mk q => ⟨q.1, s_pc rfl rfl q.2⟩, fun U hU hW => ⟨rfl, s_pw hU hW hP hK hD hN⟩⟩ rfl rfl hl.1 rfl (lv_room (Nat.le_of_ble_eq_true rfl)) dX7_dies_22 ⟨Nat.zero_le _, Nat.zero_le _⟩) hS (fun q _ h => h) (fun q h => h) (fun r22 F23 t H1 locs ht hvm hw hB hz1 hk1 hS => ?_)
  obtain ⟨hP, hK1⟩ := hB
  rw [ht] at hP
  generalize H1 = H at hP hS ⊢
  obtain ⟨h24, h26, hG9, h25⟩ := hw
  rw [hG9] at hP
  have h25 : (r22.toInt = 104 + 6 * x1.toInt + 4) := by have q9 := h25; exact q9
  refine lv_dup2_11 hx hb dX7_dies_25 rfl rfl ?_
  refine th_iald hx hb hK hP (hLK _ (y_k20 hA) (by decide)) 0 o19 rfl (th_in ⟨by omega, by omega⟩) dX7_dies_26 ?_
  refine lv_topi (fun v27 ev27 => ?_)
  have Ev27 : v27 = y_c f13 (108 + 6 * x1.toInt) := ev27.trans (y_ci (by omega))
  have tEv27 := congrArg Int32.toInt Ev27
  refine lv_iload_n hx hb dX7_dies_27 rfl (lv_at hl 2 rfl) ?_
  refine lv_iconst (v := (-1)) hx hb dX7_dies_28 (by decide) ?_
  refine lv_ixor hx hb dX7_dies_29 ?_
  refine lv_topi (fun v28 ev28 => ?_)
  refine lv_iand hx hb dX7_dies_30 ?_
  refine lv_topi (fun v29 ev29 => ?_)
  refine th_iast hx hb hK hP hD hS (hLK _ (y_k20 hA) (by decide)) 0 o19 rfl (th_in ⟨by omega, by omega⟩) dX7_dies_31 (fun H locs hP hS => ?_)
  obtain ⟨f30, u31⟩ : ∃ g : Nat → Int32, g = upd f13 (r22 : Int32).toNatClampNeg v29 := ⟨_, rfl⟩
  rw [← u31] at hP
  have b32 : y_bd 20 f30 := trivial
  have hP : va_P (dC, dI) vwCl (va_pl L (va_up F16 (A 20) (.inl (cs 0, 918, .inl f30)))) H := hP
  obtain ⟨F33, hF34⟩ : ∃ G : Nat → va_E, G = va_up F16 (A 20) (.inl (cs 0, 918, .inl f30)) := ⟨_, rfl⟩
  rw [← hF34] at hP
  have hI : y_I K cs A F33 := by rw [hF34]; exact y_clA (i := 20) hA hI (by decide) b32
  have hfr : ∀ b, K b ∉ [70] → F33 b = F b := by rw [hF34]; exact s_fr hfr (y_k20 hA) (by decide)
  have oY35 : F33 a0 = .inr (7, y_fl A z0 q0) := by rw [hF34]; exact th_ne (th_kd ha0 (y_k20 hA) (by decide)) oY18
  have o36 : F33 (A 20) = .inl (cs 0, 918, .inl f30) := by rw [hF34]; exact th_up
  have u37 : ∀ j : Int, 0 ≤ j → y_c f30 j = if j = r22.toInt then v29 else y_c f13 j := by rw [u31]; exact y_cu rfl (by omega)
  refine lv_iconst (v := 0) hx hb dX7_dies_32 (by decide) ?_
  refine lv_istore_n (lv' := [(3, .int 0), (0, .ref a0), (1, .int x1), (2, .int x2)]) hx hb dX7_dies_33 rfl hl (by decide) rfl (fun ls hl => ?_)
  have h39 : (0 : Int32).toInt = 0 := by decide
  refine th_loop (fun n g H locs => ∃ (G : Nat → va_E) (ls : Array Slot) (w38 : Int32), g = F0 m 34 ls [] ∧ lv_has ls 4 [(0, .ref a0), (1, .int x1), (2, .int x2), (3, .int w38)] ∧ va_P (dC, dI) vwCl (va_pl L G) H ∧ va_S (fun q => q ∈ L) s.heap H locs ∧ y_I K cs A G ∧ (∀ b, K b ∉ [70] → G b = F b) ∧ (∀ k, k ∈ ([1, 2, 3, 4, 5, 6, 7, 8, 11, 15, 16, 19, 25, 26, 27, 31, 32] : List Nat) → y_fi G a0 k = z0 k) ∧ (0 ≤ w38.toInt ∧ w38.toInt ≤ 15) ∧ (0 ≤ x1.toInt ∧ x1.toInt ≤ 3) ∧ (∀ j : Int, 0 ≤ j → y_c (y_at G (A 20)) j = y_die f1 x1.toInt w38.toInt x2 j) ∧ (w38.toInt ≤ (y_c f1 (109 + 6 * x1.toInt)).toInt) ∧ n = (16 - w38.toInt).toNat) _ ⟨F33, _, 0, rfl, lv_sub hl [1, 2, 3, 0] rfl, hP, hS, hI, hfr, (fun k hk => (y_fiZ oY35 (s_sub (by decide) hk)).trans (hz0 k hk)), (by decide), ⟨by omega, by omega⟩, (by rw [y_atE o36]; exact y_die0 ⟨by omega, by omega⟩ u20 u37 (by omega) (by omega) (by rw [show r5.toInt = 107 + 6 * x1.toInt by omega]; exact (by rw [ev12, Ev10, ev11])) (by rw [show r22.toInt = 108 + 6 * x1.toInt by omega]; exact (by rw [ev29, Ev27, ev28]))), (by omega), rfl⟩ (fun n ih34 g H locs hq => ?_)
  obtain ⟨F44, ls, w38, rfl, hl, hP, hS, hI, hfr, hz0, h40, h41, h42, h43, hn⟩ := hq
  have oY45 : F44 a0 = .inr (7, y_fl A z0 q0) := (hfr _ (by rw [ha0]; decide)).trans oY0
  have hz0 : ∀ k, k ∈ ([1, 2, 3, 4, 5, 6, 7, 8, 11, 15, 16, 19, 25, 26, 27, 31, 32] : List Nat) → z0 k = z0 k := fun _ _ => rfl
  obtain ⟨f46, o47, b48⟩ := y_op20 hI
  have h42 : (∀ j : Int, 0 ≤ j → y_c f46 j = y_die f1 x1.toInt w38.toInt x2 j) := by have q9 := h42; rw [y_atE o47] at q9; exact q9
  have hn_48 := hn
  refine lv_iload_n hx hb dX7_dies_34 rfl (lv_at hl 3 rfl) ?_
  refine lv_aload_n hx hb dX7_dies_35 rfl (lv_at hl 0 rfl) ?_
  refine lv_iload_n hx hb dX7_dies_36 rfl (lv_at hl 1 rfl) ?_
  refine lv_iconst (v := 5) hx hb dX7_dies_37 (by decide) ?_
  refine va_calli (va_runV (As := [.int x1, .int 5]) (rest := [.int w38]) ⟨hx, hb, hml, hown, hts⟩ (y_X7_its l dC dI H.size hLK A hA F44 a0 x1 5 ha0 (⟨by omega, by omega⟩) (by decide) hI) (cwV 2 hts (ax_gV T_1057 T_1059 T_1060 T_265 T_1058) rfl rfl rfl (by decide +kernel) ⟨Nat.le_of_ble_eq_true rfl, Nat.le_of_ble_eq_true rfl⟩) ⟨fun a U g mk q => ⟨q.1, s_pc rfl rfl q.2⟩, s_recv hK hP (hLK _ ha0 (by decide)) (ci := 7) rfl oY45, fun U hU hW => ⟨rfl, s_pw hU hW hP hK hD hN⟩⟩ rfl rfl hl.1 rfl (lv_room (Nat.le_of_ble_eq_true rfl)) dX7_dies_38 ⟨Nat.zero_le _, Nat.zero_le _⟩) hS (fun q _ h => h) (fun q h => h) (fun r50 F51 t H1 locs ht hvm hw hB hz1 hk1 hS => ?_)
  obtain ⟨hP, hK1⟩ := hB
  rw [ht] at hP
  generalize H1 = H at hP hS ⊢
  obtain ⟨h52, h54, hI, hfr1, hzf, h53⟩ := hw
  have o55 : F51 (A 20) = .inl (cs 0, 918, .inl f46) := (hfr1 _ (by rw [(y_k20 hA)]; decide)).trans o47
  have oY56 : F51 a0 = .inr (7, y_fl A z0 q0) := (hfr1 _ (by rw [ha0]; decide)).trans oY45
  have hfr : ∀ b, K b ∉ [70] → F51 b = F b := fun b hb9 => (hfr1 b (fun q => hb9 (s_sub (by decide) q))).trans (hfr b hb9)
  have h53 : (r50 = y_c f46 (104 + 6 * x1.toInt + 5)) := by have q9 := h53; rw [y_atE o47] at q9; exact q9
  have h53 : r50 = y_c f46 (109 + 6 * x1.toInt) := h53.trans (congrArg (y_c f46) (by omega))
  have h57 := congrArg Int32.toInt h53
  have h58 : 0 ≤ r50.toInt ∧ r50.toInt ≤ 15 := by rw [h53, h42 _ (by omega), y_dieN (by omega)]; exact hpn
  have h59 : r50.toInt = (y_c f1 (109 + 6 * x1.toInt)).toInt := by rw [h53, h42 _ (by omega), y_dieN (by omega)]
  refine lv_icmp_ge (tgt := 67) hx hb dX7_dies_41 (by decide) (fun c60 => ?_) (fun c60 => ?_)
  · have c60 := Int32.le_iff_toInt_le.mp c60
    exact W.vret hx hb hr (fun t ht hW => ⟨⟨F51, rfl, ⟨trivial, trivial, hI, hfr, fun k hk => (y_fiZ oY56 (s_sub (by decide) hk)).trans ((hz0 k hk).trans (y_fiZ oY0 (s_sub (by decide) hk)).symm), (by rw [y_atE o55, y_atE o2]; exact (fun j hj => by rw [show (y_c f1 (109 + 6 * x1.toInt)).toInt = w38.toInt by omega]; exact h42 j hj))⟩, by rw [ht]; exact hP, va_K.moved hW.alike hK⟩, hS.F ht⟩) hS.2.2 dX7_dies_67
  · have c60 := mt Int32.le_iff_toInt_le.mpr c60
    refine lv_aload_n hx hb dX7_dies_44 rfl (lv_at hl 0 rfl) ?_
    refine th_get (D := (dC, dI)) (ci := 7) (v := .ref (A 20)) (C := RX7) (T := TX7) (N := 34) hx hb hts inX7 hown hK hP (hLK _ ha0 (by decide)) oY56 rfl 20 (by decide) (hts _ T_251) (fun _ h9 => h9) rfl dX7_dies_45 ?_
    refine lv_iload_n hx hb dX7_dies_48 rfl (lv_at hl 1 rfl) ?_
    refine lv_iload_n hx hb dX7_dies_49 rfl (lv_at hl 3 rfl) ?_
    refine lv_iconst (v := 2) hx hb dX7_dies_50 (by decide) ?_
    refine va_calli (va_runS (As := [.int x1, .int w38, .int 2]) (rest := [.ref (A 20)]) ⟨hx, hb, hml, hown, hts⟩ (y_X7_partAt l dC dI H.size F51 x1 w38 2 (⟨by omega, by omega⟩) (⟨by omega, by omega⟩) (by decide)) (cwS 3 hts (ax_gS T_1078 T_1080 T_265 T_1079) rfl rfl rfl (by decide +kernel) ⟨Nat.le_of_ble_eq_true rfl, Nat.le_of_ble_eq_true rfl⟩) ⟨fun a U g mk q => ⟨q.1, s_pc rfl rfl q.2⟩, fun U hU hW => ⟨rfl, s_pw hU hW hP hK hD hN⟩⟩ rfl rfl hl.1 rfl (lv_room (Nat.le_of_ble_eq_true rfl)) dX7_dies_51 ⟨Nat.zero_le _, Nat.zero_le _⟩) hS (fun q _ h => h) (fun q h => h) (fun r62 F63 t H1 locs ht hvm hw hB hz1 hk1 hS => ?_)
    obtain ⟨hP, hK1⟩ := hB
    rw [ht] at hP
    generalize H1 = H at hP hS ⊢
    obtain ⟨h64, h66, hG9, h65⟩ := hw
    rw [hG9] at hP
    have h65 : (r62.toInt = 288 + 48 * x1.toInt + 3 * w38.toInt + 2) := by have q9 := h65; exact q9
    refine lv_dup2_11 hx hb dX7_dies_54 rfl rfl ?_
    refine th_iald hx hb hK hP (hLK _ (y_k20 hA) (by decide)) 0 o55 rfl (th_in ⟨by omega, by omega⟩) dX7_dies_55 ?_
    refine lv_topi (fun v67 ev67 => ?_)
    have Ev67 : v67 = y_c f46 (290 + 48 * x1.toInt + 3 * w38.toInt) := ev67.trans (y_ci (by omega))
    have tEv67 := congrArg Int32.toInt Ev67
    refine lv_iload_n hx hb dX7_dies_56 rfl (lv_at hl 2 rfl) ?_
    refine lv_iconst (v := (-1)) hx hb dX7_dies_57 (by decide) ?_
    refine lv_ixor hx hb dX7_dies_58 ?_
    refine lv_topi (fun v68 ev68 => ?_)
    refine lv_iand hx hb dX7_dies_59 ?_
    refine lv_topi (fun v69 ev69 => ?_)
    refine th_iast hx hb hK hP hD hS (hLK _ (y_k20 hA) (by decide)) 0 o55 rfl (th_in ⟨by omega, by omega⟩) dX7_dies_60 (fun H locs hP hS => ?_)
    obtain ⟨f70, u71⟩ : ∃ g : Nat → Int32, g = upd f46 (r62 : Int32).toNatClampNeg v69 := ⟨_, rfl⟩
    rw [← u71] at hP
    have b72 : y_bd 20 f70 := trivial
    have hP : va_P (dC, dI) vwCl (va_pl L (va_up F51 (A 20) (.inl (cs 0, 918, .inl f70)))) H := hP
    obtain ⟨F73, hF74⟩ : ∃ G : Nat → va_E, G = va_up F51 (A 20) (.inl (cs 0, 918, .inl f70)) := ⟨_, rfl⟩
    rw [← hF74] at hP
    have hI : y_I K cs A F73 := by rw [hF74]; exact y_clA (i := 20) hA hI (by decide) b72
    have hfr : ∀ b, K b ∉ [70] → F73 b = F b := by rw [hF74]; exact s_fr hfr (y_k20 hA) (by decide)
    have oY75 : F73 a0 = .inr (7, y_fl A z0 q0) := by rw [hF74]; exact th_ne (th_kd ha0 (y_k20 hA) (by decide)) oY56
    have o76 : F73 (A 20) = .inl (cs 0, 918, .inl f70) := by rw [hF74]; exact th_up
    have u77 : ∀ j : Int, 0 ≤ j → y_c f70 j = if j = r62.toInt then v69 else y_c f46 j := by rw [u71]; exact y_cu rfl (by omega)
    obtain ⟨v78, ev78⟩ : ∃ y : Int32, w38 + 1 = y := ⟨_, rfl⟩
    have qv78 : v78.toInt = w38.toInt + 1 := by rw [← ev78]; exact th_add rfl (by decide) ⟨by omega, by omega⟩
    refine lv_iinc (v := v78) (lv' := [(3, .int v78), (0, .ref a0), (1, .int x1), (2, .int x2)]) hx hb dX7_dies_61 hl (k := 3) rfl ev78 (by decide) rfl (fun ls hl => ?_)
    refine lv_goto (tgt := 34) hx hb dX7_dies_64 (by decide) ?_
    exact ih34 _ _ _ _ (by omega) ⟨F73, _, v78, rfl, lv_sub hl [1, 2, 3, 0] rfl, hP, hS, hI, hfr, (fun k hk => (y_fiZ oY75 (s_sub (by decide) hk)).trans (hz0 k hk)), ⟨by omega, by omega⟩, ⟨by omega, by omega⟩, (by rw [y_atE o76]; exact (fun j hj => by rw [show v78.toInt = w38.toInt + 1 by omega]; exact y_dieS ⟨by omega, by omega⟩ ⟨by omega, by omega⟩ h42 u77 (by omega) (by rw [show r62.toInt = 290 + 48 * x1.toInt + 3 * w38.toInt by omega]; exact (by rw [ev69, Ev67, ev68])) j hj)), (by omega), rfl⟩

set_option maxHeartbeats 4000000 in
set_option maxRecDepth 100000 in
theorem y_X7_endsTop (l : Launch) (dC : Nat → ClassId) (dI : Nat → Nat → Nat) (sz : Nat) {L : List Nat} {K : Nat → Nat} {cs : Nat → ClassId} (hLK : ∀ a {k : Nat}, K a = k → k ≠ 0 → a ∈ L) (A : Nat → Nat) (hA : y_A K A) (F : Nat → va_E) (a0 : Nat) (x1 : Int32) (ha0 : K a0 = 9) (hx1 : 0 ≤ x1.toInt ∧ x1.toInt ≤ 3) (hI : y_I K cs A F) (hpn : (0 ≤ (y_c (y_at F (A 20)) (109 + 6 * x1.toInt)).toInt ∧ (y_c (y_at F (A 20)) (109 + 6 * x1.toInt)).toInt ≤ 15)) : Met l yX7_endsTop (Cond.code yX7_endsTop cX7_endsTop 3 none :: T0) ({ frames := 3, cells := 0, slots := 0, locals := 66 }) (va_Pc [.ref a0, .int x1] (s_W dC dI sz L F [(cs 0, .int), (cs 1, .byte), (cs 2, .long), (cs 3, .object RX5), (cs 4, .object RX4), (cs 5, .array .int), (cs 6, .char), (cs 7, .boolean)])) (va_Qv (fun (G : Nat → va_E) => True ∧ True ∧ y_I K cs A G ∧ (∀ b, K b ∉ [70] → G b = F b) ∧ (∀ k, k ∈ ([1, 2, 3, 4, 5, 6, 7, 8, 11, 15, 16, 19, 25, 26, 27, 31, 32] : List Nat) → y_fi G a0 k = y_fi F a0 k) ∧ (y_ET (y_c (y_at F (A 13)) 387).toInt (y_at F (A 20)) x1.toInt (y_at G (A 20)))) (fun (G : Nat → va_E) (t : State) => va_P (dC, dI) vwCl (va_pl L G) t.heap ∧ va_K (dC, dI) vwCl [(cs 0, .int), (cs 1, .byte), (cs 2, .long), (cs 3, .object RX5), (cs 4, .object RX4), (cs 5, .array .int), (cs 6, .char), (cs 7, .boolean)] t) (fun q => q ∈ L)) 0 0 (fun q => q ∈ L) := by
  refine Met.ofW (cc := cX7_endsTop) (maxL := 3) (ret := none) (by decide) rfl ?_
  intro p e s m args below meth c s₁ B hml hv
  obtain ⟨rfl, hsz, hP, hK, hD, hN⟩ := hv
  have hx := B.exec
  have hb := B.bytes
  have hr := B.returns
  have hts : ∀ w ∈ T0, w.before _ s = true := fun w h => atoms_spec (ws := Cond.code yX7_endsTop cX7_endsTop 3 none :: T0) B.pre w (List.mem_cons_of_mem _ h)
  have hown : s.vm.findClass RX7 = some m.cls := findClass_of_methodNamed B.named
  have hlocks := B.notSynchronized
  have hS : va_S (fun q => q ∈ L) s.heap s.heap [] := va_S.rf
  have hfr : ∀ b, K b ∉ [70] → F b = F b := fun _ _ => rfl
  have hl := lv_entry ([.ref a0, .int x1]) (n := 3) (Nat.le_of_ble_eq_true rfl)
  rw [lg_entry_eq]
  generalize (lg_sl ([.ref a0, .int x1]) ++ List.replicate (3 - (lg_sl ([.ref a0, .int x1])).length) Slot.unset).toArray = ls at hl ⊢
  have hl : lv_has ls 3 [(0, .ref a0), (1, .int x1)] := hl
  refine s_gen hP hS (fun H locs hP hS => ?_)
  obtain ⟨z0, q0, oY0, bz0, bq0⟩ := y_opY hI ha0
  have hz0 : ∀ k, k ∈ ([1, 2, 3, 4, 5, 6, 7, 8, 11, 15, 16, 19, 25, 26, 27, 31, 32] : List Nat) → z0 k = z0 k := fun _ _ => rfl
  obtain ⟨f1, o2, b3⟩ := y_op13 hI
  obtain ⟨f4, o5, b6⟩ := y_op20 hI
  have hpn : (0 ≤ (y_c f4 (109 + 6 * x1.toInt)).toInt ∧ (y_c f4 (109 + 6 * x1.toInt)).toInt ≤ 15) := by have q9 := hpn; rw [y_atE o5] at q9; exact q9
  refine lv_aload_n hx hb dX7_endsTop_0 rfl (lv_at hl 0 rfl) ?_
  refine lv_iload_n hx hb dX7_endsTop_1 rfl (lv_at hl 1 rfl) ?_
  refine va_calli (va_runV (As := [.int x1]) (rest := []) ⟨hx, hb, hml, hown, hts⟩ (y_X7_top l dC dI H.size hLK A hA F a0 x1 ha0 (⟨by omega, by omega⟩) hI) (cwV 1 hts (ax_gV T_1074 T_1076 T_1077 T_265 T_1075) rfl rfl rfl (by decide +kernel) ⟨Nat.le_of_ble_eq_true rfl, Nat.le_of_ble_eq_true rfl⟩) ⟨fun a U g mk q => ⟨q.1, s_pc rfl rfl q.2⟩, s_recv hK hP (hLK _ ha0 (by decide)) (ci := 7) rfl oY0, fun U hU hW => ⟨rfl, s_pw hU hW hP hK hD hN⟩⟩ rfl rfl hl.1 rfl (lv_room (Nat.le_of_ble_eq_true rfl)) dX7_endsTop_2 ⟨Nat.zero_le _, Nat.zero_le _⟩) hS (fun q _ h => h) (fun q h => h) (fun r8 F9 t H1 locs ht hvm hw hB hz1 hk1 hS => ?_)
  obtain ⟨hP, hK1⟩ := hB
  rw [ht] at hP
  generalize H1 = H at hP hS ⊢
  obtain ⟨h10, h12, hI, hfr1, hzf, h11⟩ := hw
  have o13 : F9 (A 13) = .inl (cs 0, 400, .inl f1) := (hfr1 _ (by rw [(y_k13 hA)]; decide)).trans o2
  have o14 : F9 (A 20) = .inl (cs 0, 918, .inl f4) := (hfr1 _ (by rw [(y_k20 hA)]; decide)).trans o5
  have oY15 : F9 a0 = .inr (7, y_fl A z0 q0) := (hfr1 _ (by rw [ha0]; decide)).trans oY0
  have hfr : ∀ b, K b ∉ [70] → F9 b = F b := fun b hb9 => (hfr1 b (fun q => hb9 (s_sub (by decide) q))).trans (hfr b hb9)
  have h11 : (r8 = y_c f4 (109 + 6 * x1.toInt) - 1) := by have q9 := h11; rw [y_atE o5] at q9; exact q9
  have h16 := congrArg Int32.toInt h11
  have h17 : -1 ≤ r8.toInt ∧ r8.toInt ≤ 14 := by have q9 : r8.toInt = (y_c f4 (109 + 6 * x1.toInt)).toInt - 1 := (by rw [h11]; exact th_sub rfl (by decide) ⟨by omega, by omega⟩); exact ⟨by omega, by omega⟩
  have h18 : r8.toInt = (y_c f4 (109 + 6 * x1.toInt)).toInt - 1 := by rw [h11]; exact th_sub rfl (by decide) ⟨by omega, by omega⟩
  refine lv_istore_n (lv' := [(2, .int r8), (0, .ref a0), (1, .int x1)]) hx hb dX7_endsTop_5 rfl hl (by decide) rfl (fun ls hl => ?_)
  refine lv_iload_n hx hb dX7_endsTop_6 rfl (lv_at hl 0 rfl) ?_
  refine lv_if_lt (tgt := 44) hx hb dX7_endsTop_7 (by decide) (fun c19 => ?_) (fun c19 => ?_)
  · have c19 := (ax_lt (n := 0) (by decide)).mp c19
    exact W.vret hx hb hr (fun t ht hW => ⟨⟨F9, rfl, ⟨trivial, trivial, hI, hfr, fun k hk => (y_fiZ oY15 (s_sub (by decide) hk)).trans ((hz0 k hk).trans (y_fiZ oY0 (s_sub (by decide) hk)).symm), (by rw [y_atE o2, y_atE o5, y_atE o14]; exact (Or.inl ⟨by omega, rfl⟩))⟩, by rw [ht]; exact hP, va_K.moved hW.alike hK⟩, hS.F ht⟩) hS.2.2 dX7_endsTop_44
  · have c19 := mt (ax_lt (n := 0) (by decide)).mpr c19
    refine lv_aload_n hx hb dX7_endsTop_10 rfl (lv_at hl 1 rfl) ?_
    refine th_get (D := (dC, dI)) (ci := 7) (v := .ref (A 20)) (C := RX7) (T := TX7) (N := 34) hx hb hts inX7 hown hK hP (hLK _ ha0 (by decide)) oY15 rfl 20 (by decide) (hts _ T_251) (fun _ h9 => h9) rfl dX7_endsTop_11 ?_
    refine lv_iload_n hx hb dX7_endsTop_14 rfl (lv_at hl 2 rfl) ?_
    refine lv_iload_n hx hb dX7_endsTop_15 rfl (lv_at hl 0 rfl) ?_
    refine lv_iconst (v := 0) hx hb dX7_endsTop_16 (by decide) ?_
    refine va_calli (va_runS (As := [.int x1, .int r8, .int 0]) (rest := [.ref (A 20)]) ⟨hx, hb, hml, hown, hts⟩ (y_X7_partAt l dC dI H.size F9 x1 r8 0 (⟨by omega, by omega⟩) (⟨by omega, by omega⟩) (by decide)) (cwS 3 hts (ax_gS T_1078 T_1080 T_265 T_1079) rfl rfl rfl (by decide +kernel) ⟨Nat.le_of_ble_eq_true rfl, Nat.le_of_ble_eq_true rfl⟩) ⟨fun a U g mk q => ⟨q.1, s_pc rfl rfl q.2⟩, fun U hU hW => ⟨rfl, s_pw hU hW hP hK hD hN⟩⟩ rfl rfl hl.1 rfl (lv_room (Nat.le_of_ble_eq_true rfl)) dX7_endsTop_17 ⟨Nat.zero_le _, Nat.zero_le _⟩) hS (fun q _ h => h) (fun q h => h) (fun r21 F22 t H1 locs ht hvm hw hB hz1 hk1 hS => ?_)
    obtain ⟨hP, hK1⟩ := hB
    rw [ht] at hP
    generalize H1 = H at hP hS ⊢
    obtain ⟨h23, h25, hG9, h24⟩ := hw
    rw [hG9] at hP
    have h24 : (r21.toInt = 288 + 48 * x1.toInt + 3 * r8.toInt + 0) := by have q9 := h24; exact q9
    refine th_iald hx hb hK hP (hLK _ (y_k20 hA) (by decide)) 0 o14 rfl (th_in ⟨by omega, by omega⟩) dX7_endsTop_20 ?_
    refine lv_topi (fun v26 ev26 => ?_)
    have Ev26 : v26 = y_c f4 (285 + 48 * x1.toInt + 3 * (y_c f4 (109 + 6 * x1.toInt)).toInt) := ev26.trans (y_ci (by omega))
    have tEv26 := congrArg Int32.toInt Ev26
    refine lv_aload_n hx hb dX7_endsTop_21 rfl (lv_at hl 1 rfl) ?_
    refine va_calli (va_runV (As := []) (rest := [.int v26]) ⟨hx, hb, hml, hown, hts⟩ (y_X7_lines l dC dI H.size hLK A hA F9 a0 ha0 hI) (cwV 0 hts (ax_gV T_1030 T_1032 T_1033 T_265 T_1031) rfl rfl rfl (by decide +kernel) ⟨Nat.le_of_ble_eq_true rfl, Nat.le_of_ble_eq_true rfl⟩) ⟨fun a U g mk q => ⟨q.1, s_pc rfl rfl q.2⟩, s_recv hK hP (hLK _ ha0 (by decide)) (ci := 7) rfl oY15, fun U hU hW => ⟨rfl, s_pw hU hW hP hK hD hN⟩⟩ rfl rfl hl.1 rfl (lv_room (Nat.le_of_ble_eq_true rfl)) dX7_endsTop_22 ⟨Nat.zero_le _, Nat.zero_le _⟩) hS (fun q _ h => h) (fun q h => h) (fun r28 F29 t H1 locs ht hvm hw hB hz1 hk1 hS => ?_)
    obtain ⟨hP, hK1⟩ := hB
    rw [ht] at hP
    generalize H1 = H at hP hS ⊢
    obtain ⟨h30, h32, hI, hfr1, hzf, h31⟩ := hw
    have o33 : F29 (A 13) = .inl (cs 0, 400, .inl f1) := (hfr1 _ (by rw [(y_k13 hA)]; decide)).trans o13
    have o34 : F29 (A 20) = .inl (cs 0, 918, .inl f4) := (hfr1 _ (by rw [(y_k20 hA)]; decide)).trans o14
    have oY35 : F29 a0 = .inr (7, y_fl A z0 q0) := (hfr1 _ (by rw [ha0]; decide)).trans oY15
    have hfr : ∀ b, K b ∉ [70] → F29 b = F b := fun b hb9 => (hfr1 b (fun q => hb9 (s_sub (by decide) q))).trans (hfr b hb9)
    have h31 : (r28 = y_c f1 387) := by have q9 := h31; rw [y_atE o13] at q9; exact q9
    have h36 := congrArg Int32.toInt h31
    refine lv_icmp_ne (tgt := 44) hx hb dX7_endsTop_25 (by decide) (fun c37 => ?_) (fun c37 => ?_)
    · have c37 := mt Int32.toInt_inj.symm.mpr c37
      exact W.vret hx hb hr (fun t ht hW => ⟨⟨F29, rfl, ⟨trivial, trivial, hI, hfr, fun k hk => (y_fiZ oY35 (s_sub (by decide) hk)).trans ((hz0 k hk).trans (y_fiZ oY0 (s_sub (by decide) hk)).symm), (by rw [y_atE o2, y_atE o5, y_atE o34]; exact (Or.inr (Or.inl ⟨by omega, by omega, rfl⟩)))⟩, by rw [ht]; exact hP, va_K.moved hW.alike hK⟩, hS.F ht⟩) hS.2.2 dX7_endsTop_44
    · have c37 := Int32.toInt_inj.symm.mp c37
      refine lv_aload_n hx hb dX7_endsTop_28 rfl (lv_at hl 1 rfl) ?_
      refine lv_iload_n hx hb dX7_endsTop_29 rfl (lv_at hl 2 rfl) ?_
      refine lv_aload_n hx hb dX7_endsTop_30 rfl (lv_at hl 1 rfl) ?_
      refine th_get (D := (dC, dI)) (ci := 7) (v := .ref (A 20)) (C := RX7) (T := TX7) (N := 34) hx hb hts inX7 hown hK hP (hLK _ ha0 (by decide)) oY35 rfl 20 (by decide) (hts _ T_251) (fun _ h9 => h9) rfl dX7_endsTop_31 ?_
      refine lv_iload_n hx hb dX7_endsTop_34 rfl (lv_at hl 2 rfl) ?_
      refine lv_iload_n hx hb dX7_endsTop_35 rfl (lv_at hl 0 rfl) ?_
      refine lv_iconst (v := 2) hx hb dX7_endsTop_36 (by decide) ?_
      refine va_calli (va_runS (As := [.int x1, .int r8, .int 2]) (rest := [.ref (A 20), .int x1, .ref a0]) ⟨hx, hb, hml, hown, hts⟩ (y_X7_partAt l dC dI H.size F29 x1 r8 2 (⟨by omega, by omega⟩) (⟨by omega, by omega⟩) (by decide)) (cwS 3 hts (ax_gS T_1078 T_1080 T_265 T_1079) rfl rfl rfl (by decide +kernel) ⟨Nat.le_of_ble_eq_true rfl, Nat.le_of_ble_eq_true rfl⟩) ⟨fun a U g mk q => ⟨q.1, s_pc rfl rfl q.2⟩, fun U hU hW => ⟨rfl, s_pw hU hW hP hK hD hN⟩⟩ rfl rfl hl.1 rfl (lv_room (Nat.le_of_ble_eq_true rfl)) dX7_endsTop_37 ⟨Nat.zero_le _, Nat.zero_le _⟩) hS (fun q _ h => h) (fun q h => h) (fun r39 F40 t H1 locs ht hvm hw hB hz1 hk1 hS => ?_)
      obtain ⟨hP, hK1⟩ := hB
      rw [ht] at hP
      generalize H1 = H at hP hS ⊢
      obtain ⟨h41, h43, hG9, h42⟩ := hw
      rw [hG9] at hP
      have h42 : (r39.toInt = 288 + 48 * x1.toInt + 3 * r8.toInt + 2) := by have q9 := h42; exact q9
      refine th_iald hx hb hK hP (hLK _ (y_k20 hA) (by decide)) 0 o34 rfl (th_in ⟨by omega, by omega⟩) dX7_endsTop_40 ?_
      refine lv_topi (fun v44 ev44 => ?_)
      have Ev44 : v44 = y_c f4 (287 + 48 * x1.toInt + 3 * (y_c f4 (109 + 6 * x1.toInt)).toInt) := ev44.trans (y_ci (by omega))
      have tEv44 := congrArg Int32.toInt Ev44
      refine va_callv (va_runV (As := [.int x1, .int v44]) (rest := []) ⟨hx, hb, hml, hown, hts⟩ (y_X7_dies l dC dI H.size hLK A hA F29 a0 x1 v44 ha0 (⟨by omega, by omega⟩) hI (by rw [y_atE o34]; exact hpn)) (cwV 2 hts (ax_gV T_1106 T_1108 T_1109 T_265 T_1107) rfl rfl rfl (by decide +kernel) ⟨Nat.le_of_ble_eq_true rfl, Nat.le_of_ble_eq_true rfl⟩) ⟨fun a U g mk q => ⟨q.1, s_pc rfl rfl q.2⟩, s_recv hK hP (hLK _ ha0 (by decide)) (ci := 7) rfl oY35, fun U hU hW => ⟨rfl, s_pw hU hW hP hK hD hN⟩⟩ rfl rfl hl.1 rfl (lv_room (Nat.le_of_ble_eq_true rfl)) dX7_endsTop_41 ⟨Nat.zero_le _, Nat.zero_le _⟩) hS (fun q _ h => h) (fun q h => h) (fun F46 t H1 locs ht hvm hw hB hz1 hk1 hS => ?_)
      obtain ⟨hP, hK1⟩ := hB
      rw [ht] at hP
      generalize H1 = H at hP hS ⊢
      obtain ⟨h47, h49, hI, hfr1, hzf, h48⟩ := hw
      have o50 : F46 (A 13) = .inl (cs 0, 400, .inl f1) := (hfr1 _ (by rw [(y_k13 hA)]; decide)).trans o33
      have oY51 : F46 a0 = .inr (7, y_fl A z0 q0) := (hfr1 _ (by rw [ha0]; decide)).trans oY35
      have hfr : ∀ b, K b ∉ [70] → F46 b = F b := fun b hb9 => (hfr1 b (fun q => hb9 (s_sub (by decide) q))).trans (hfr b hb9)
      obtain ⟨f52, o53, b54⟩ := y_op20 hI
      have h48 : (∀ j : Int, 0 ≤ j → y_c f52 j = y_die f4 x1.toInt (y_c f4 (109 + 6 * x1.toInt)).toInt v44 j) := by have q9 := h48; rw [y_atE o53, y_atE o34] at q9; exact q9
      exact W.vret hx hb hr (fun t ht hW => ⟨⟨F46, rfl, ⟨trivial, trivial, hI, hfr, fun k hk => (y_fiZ oY51 (s_sub (by decide) hk)).trans ((hz0 k hk).trans (y_fiZ oY0 (s_sub (by decide) hk)).symm), (by rw [y_atE o2, y_atE o5, y_atE o53]; exact (Or.inr (Or.inr ⟨by omega, fun j hj => by rw [← Ev44]; exact h48 j hj⟩)))⟩, by rw [ht]; exact hP, va_K.moved hW.alike hK⟩, hS.F ht⟩) hS.2.2 dX7_endsTop_44
