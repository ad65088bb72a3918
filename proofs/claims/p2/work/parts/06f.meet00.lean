set_option maxHeartbeats 4000000 in
set_option maxRecDepth 100000 in
theorem y_X7_lines (l : Launch) (dC : Nat → ClassId) (dI : Nat → Nat → Nat) (sz : Nat) {L : List Nat} {K : Nat → Nat} {cs : Nat → ClassId} (hLK : ∀ a {k : Nat}, K a = k → k ≠ 0 → a ∈ L) (A : Nat → Nat) (hA : y_A K A) (F : Nat → va_E) (a0 : Nat) (ha0 : K a0 = 9) (hI : y_I K cs A F) : Met l yX7_lines (Cond.code yX7_lines cX7_lines 1 (some .int) :: T0) ({ frames := 0, cells := 0, slots := 0, locals := 0 }) (va_Pc [.ref a0] (s_W dC dI sz L F [(cs 0, .int), (cs 1, .byte), (cs 2, .long), (cs 3, .object RX5), (cs 4, .object RX4), (cs 5, .array .int), (cs 6, .char), (cs 7, .boolean)])) (va_Qi (fun (r : Int32) (G : Nat → va_E) => True ∧ True ∧ y_I K cs A G ∧ (∀ b, K b ∉ ([] : List Nat) → G b = F b) ∧ (∀ k, k ∈ ([1, 2, 3, 4, 5, 6, 7, 8, 11, 15, 16, 19, 25, 26, 27, 31, 32] : List Nat) → y_fi G a0 k = y_fi F a0 k) ∧ (r = y_c (y_at F (A 13)) 387)) (fun (G : Nat → va_E) (t : State) => va_P (dC, dI) vwCl (va_pl L G) t.heap ∧ va_K (dC, dI) vwCl [(cs 0, .int), (cs 1, .byte), (cs 2, .long), (cs 3, .object RX5), (cs 4, .object RX4), (cs 5, .array .int), (cs 6, .char), (cs 7, .boolean)] t) (fun q => q ∈ L)) 0 0 (fun q => q ∈ L) := by
  refine Met.ofW (cc := cX7_lines) (maxL := 1) (ret := (some .int)) (by decide) rfl ?_
  intro p e s m args below meth c s₁ B hml hv
  obtain ⟨rfl, hsz, hP, hK, hD, hN⟩ := hv
  have hx := B.exec
  have hb := B.bytes
  have hr := B.returns
  have hts : ∀ w ∈ T0, w.before _ s = true := fun w h => atoms_spec (ws := Cond.code yX7_lines cX7_lines 1 (some .int) :: T0) B.pre w (List.mem_cons_of_mem _ h)
  have hown : s.vm.findClass RX7 = some m.cls := findClass_of_methodNamed B.named
  have hlocks := B.notSynchronized
  have hS : va_S (fun q => q ∈ L) s.heap s.heap [] := va_S.rf
  have hfr : ∀ b, K b ∉ ([] : List Nat) → F b = F b := fun _ _ => rfl
  have hl := lv_entry ([.ref a0]) (n := 1) (Nat.le_of_ble_eq_true rfl)
  rw [lg_entry_eq]
  generalize (lg_sl ([.ref a0]) ++ List.replicate (1 - (lg_sl ([.ref a0])).length) Slot.unset).toArray = ls at hl ⊢
  have hl : lv_has ls 1 [(0, .ref a0)] := hl
  refine s_gen hP hS (fun H locs hP hS => ?_)
  obtain ⟨z0, q0, oY0, bz0, bq0⟩ := y_opY hI ha0
  have hz0 : ∀ k, k ∈ ([1, 2, 3, 4, 5, 6, 7, 8, 11, 15, 16, 19, 25, 26, 27, 31, 32] : List Nat) → z0 k = z0 k := fun _ _ => rfl
  obtain ⟨f1, o2, b3⟩ := y_op13 hI
  refine lv_aload_n hx hb dX7_lines_0 rfl (lv_at hl 0 rfl) ?_
  refine th_get (D := (dC, dI)) (ci := 7) (v := .ref (A 13)) (C := RX7) (T := TX7) (N := 34) hx hb hts inX7 hown hK hP (hLK _ ha0 (by decide)) oY0 rfl 13 (by decide) (hts _ T_246) (fun _ h9 => h9) rfl dX7_lines_1 ?_
  refine lv_sipush (v := 387) hx hb dX7_lines_4 (by decide) ?_
  refine th_iald hx hb hK hP (hLK _ (y_k13 hA) (by decide)) 0 o2 rfl (ax_in (by decide)) dX7_lines_7 ?_
  refine lv_topi (fun v4 ev4 => ?_)
  exact W.iret (v := v4) hx hb hr (fun t ht hW => ⟨⟨v4, F, rfl, ⟨trivial, trivial, hI, hfr, fun k hk => (y_fiZ oY0 (s_sub (by decide) hk)).trans ((hz0 k hk).trans (y_fiZ oY0 (s_sub (by decide) hk)).symm), (by rw [y_atE o2]; exact ev4)⟩, by rw [ht]; exact hP, va_K.moved hW.alike hK⟩, hS.F ht⟩) hS.2.2 dX7_lines_8

set_option maxHeartbeats 4000000 in
set_option maxRecDepth 100000 in
theorem y_X7_warps (l : Launch) (dC : Nat → ClassId) (dI : Nat → Nat → Nat) (sz : Nat) {L : List Nat} {K : Nat → Nat} {cs : Nat → ClassId} (hLK : ∀ a {k : Nat}, K a = k → k ≠ 0 → a ∈ L) (A : Nat → Nat) (hA : y_A K A) (F : Nat → va_E) (a0 : Nat) (ha0 : K a0 = 9) (hI : y_I K cs A F) : Met l yX7_warps (Cond.code yX7_warps cX7_warps 1 (some .int) :: T0) ({ frames := 0, cells := 0, slots := 0, locals := 0 }) (va_Pc [.ref a0] (s_W dC dI sz L F [(cs 0, .int), (cs 1, .byte), (cs 2, .long), (cs 3, .object RX5), (cs 4, .object RX4), (cs 5, .array .int), (cs 6, .char), (cs 7, .boolean)])) (va_Qi (fun (r : Int32) (G : Nat → va_E) => True ∧ True ∧ y_I K cs A G ∧ (∀ b, K b ∉ ([] : List Nat) → G b = F b) ∧ (∀ k, k ∈ ([1, 2, 3, 4, 5, 6, 7, 8, 11, 15, 16, 19, 25, 26, 27, 31, 32] : List Nat) → y_fi G a0 k = y_fi F a0 k) ∧ (r = y_c (y_at F (A 13)) 384)) (fun (G : Nat → va_E) (t : State) => va_P (dC, dI) vwCl (va_pl L G) t.heap ∧ va_K (dC, dI) vwCl [(cs 0, .int), (cs 1, .byte), (cs 2, .long), (cs 3, .object RX5), (cs 4, .object RX4), (cs 5, .array .int), (cs 6, .char), (cs 7, .boolean)] t) (fun q => q ∈ L)) 0 0 (fun q => q ∈ L) := by
  refine Met.ofW (cc := cX7_warps) (maxL := 1) (ret := (some .int)) (by decide) rfl ?_
  intro p e s m args below meth c s₁ B hml hv
  obtain ⟨rfl, hsz, hP, hK, hD, hN⟩ := hv
  have hx := B.exec
  have hb := B.bytes
  have hr := B.returns
  have hts : ∀ w ∈ T0, w.before _ s = true := fun w h => atoms_spec (ws := Cond.code yX7_warps cX7_warps 1 (some .int) :: T0) B.pre w (List.mem_cons_of_mem _ h)
  have hown : s.vm.findClass RX7 = some m.cls := findClass_of_methodNamed B.named
  have hlocks := B.notSynchronized
  have hS : va_S (fun q => q ∈ L) s.heap s.heap [] := va_S.rf
  have hfr : ∀ b, K b ∉ ([] : List Nat) → F b = F b := fun _ _ => rfl
  have hl := lv_entry ([.ref a0]) (n := 1) (Nat.le_of_ble_eq_true rfl)
  rw [lg_entry_eq]
  generalize (lg_sl ([.ref a0]) ++ List.replicate (1 - (lg_sl ([.ref a0])).length) Slot.unset).toArray = ls at hl ⊢
  have hl : lv_has ls 1 [(0, .ref a0)] := hl
  refine s_gen hP hS (fun H locs hP hS => ?_)
  obtain ⟨z0, q0, oY0, bz0, bq0⟩ := y_opY hI ha0
  have hz0 : ∀ k, k ∈ ([1, 2, 3, 4, 5, 6, 7, 8, 11, 15, 16, 19, 25, 26, 27, 31, 32] : List Nat) → z0 k = z0 k := fun _ _ => rfl
  obtain ⟨f1, o2, b3⟩ := y_op13 hI
  refine lv_aload_n hx hb dX7_warps_0 rfl (lv_at hl 0 rfl) ?_
  refine th_get (D := (dC, dI)) (ci := 7) (v := .ref (A 13)) (C := RX7) (T := TX7) (N := 34) hx hb hts inX7 hown hK hP (hLK _ ha0 (by decide)) oY0 rfl 13 (by decide) (hts _ T_246) (fun _ h9 => h9) rfl dX7_warps_1 ?_
  refine lv_sipush (v := 384) hx hb dX7_warps_4 (by decide) ?_
  refine th_iald hx hb hK hP (hLK _ (y_k13 hA) (by decide)) 0 o2 rfl (ax_in (by decide)) dX7_warps_7 ?_
  refine lv_topi (fun v4 ev4 => ?_)
  exact W.iret (v := v4) hx hb hr (fun t ht hW => ⟨⟨v4, F, rfl, ⟨trivial, trivial, hI, hfr, fun k hk => (y_fiZ oY0 (s_sub (by decide) hk)).trans ((hz0 k hk).trans (y_fiZ oY0 (s_sub (by decide) hk)).symm), (by rw [y_atE o2]; exact ev4)⟩, by rw [ht]; exact hP, va_K.moved hW.alike hK⟩, hS.F ht⟩) hS.2.2 dX7_warps_8

set_option maxHeartbeats 4000000 in
set_option maxRecDepth 100000 in
theorem y_X7_of (l : Launch) (dC : Nat → ClassId) (dI : Nat → Nat → Nat) (sz : Nat) {L : List Nat} {K : Nat → Nat} {cs : Nat → ClassId} (hLK : ∀ a {k : Nat}, K a = k → k ≠ 0 → a ∈ L) (A : Nat → Nat) (hA : y_A K A) (F : Nat → va_E) (a0 : Nat) (x1 : Int32) (x2 : Int32) (ha0 : K a0 = 9) (hx1 : 0 ≤ x1.toInt ∧ x1.toInt ≤ 40) (hx2 : 0 ≤ x2.toInt ∧ x2.toInt ≤ 7) (hI : y_I K cs A F) : Met l yX7_of (Cond.code yX7_of cX7_of 3 (some .int) :: T0) ({ frames := 1, cells := 0, slots := 0, locals := 21 }) (va_Pc [.ref a0, .int x1, .int x2] (s_W dC dI sz L F [(cs 0, .int), (cs 1, .byte), (cs 2, .long), (cs 3, .object RX5), (cs 4, .object RX4), (cs 5, .array .int), (cs 6, .char), (cs 7, .boolean)])) (va_Qi (fun (r : Int32) (G : Nat → va_E) => True ∧ True ∧ y_I K cs A G ∧ (∀ b, K b ∉ ([] : List Nat) → G b = F b) ∧ (∀ k, k ∈ ([1, 2, 3, 4, 5, 6, 7, 8, 11, 15, 16, 19, 25, 26, 27, 31, 32] : List Nat) → y_fi G a0 k = y_fi F a0 k) ∧ (r = y_c (y_at F (A 13)) (8 * x1.toInt + x2.toInt))) (fun (G : Nat → va_E) (t : State) => va_P (dC, dI) vwCl (va_pl L G) t.heap ∧ va_K (dC, dI) vwCl [(cs 0, .int), (cs 1, .byte), (cs 2, .long), (cs 3, .object RX5), (cs 4, .object RX4), (cs 5, .array .int), (cs 6, .char), (cs 7, .boolean)] t) (fun q => q ∈ L)) 0 0 (fun q => q ∈ L) := by
  refine Met.ofW (cc := cX7_of) (maxL := 3) (ret := (some .int)) (by decide) rfl ?_
  intro p e s m args below meth c s₁ B hml hv
  obtain ⟨rfl, hsz, hP, hK, hD, hN⟩ := hv
  have hx := B.exec
  have hb := B.bytes
  have hr := B.returns
  have hts : ∀ w ∈ T0, w.before _ s = true := fun w h => atoms_spec (ws := Cond.code yX7_of cX7_of 3 (some .int) :: T0) B.pre w (List.mem_cons_of_mem _ h)
  have hown : s.vm.findClass RX7 = some m.cls := findClass_of_methodNamed B.named
  have hlocks := B.notSynchronized
  have hS : va_S (fun q => q ∈ L) s.heap s.heap [] := va_S.rf
  have hfr : ∀ b, K b ∉ ([] : List Nat) → F b = F b := fun _ _ => rfl
  have hl := lv_entry ([.ref a0, .int x1, .int x2]) (n := 3) (Nat.le_of_ble_eq_true rfl)
  rw [lg_entry_eq]
  generalize (lg_sl ([.ref a0, .int x1, .int x2]) ++ List.replicate (3 - (lg_sl ([.ref a0, .int x1, .int x2])).length) Slot.unset).toArray = ls at hl ⊢
  have hl : lv_has ls 3 [(0, .ref a0), (1, .int x1), (2, .int x2)] := hl
  refine s_gen hP hS (fun H locs hP hS => ?_)
  obtain ⟨z0, q0, oY0, bz0, bq0⟩ := y_opY hI ha0
  have hz0 : ∀ k, k ∈ ([1, 2, 3, 4, 5, 6, 7, 8, 11, 15, 16, 19, 25, 26, 27, 31, 32] : List Nat) → z0 k = z0 k := fun _ _ => rfl
  obtain ⟨f1, o2, b3⟩ := y_op13 hI
  refine lv_aload_n hx hb dX7_of_0 rfl (lv_at hl 0 rfl) ?_
  refine th_get (D := (dC, dI)) (ci := 7) (v := .ref (A 13)) (C := RX7) (T := TX7) (N := 34) hx hb hts inX7 hown hK hP (hLK _ ha0 (by decide)) oY0 rfl 13 (by decide) (hts _ T_246) (fun _ h9 => h9) rfl dX7_of_1 ?_
  refine lv_iload_n hx hb dX7_of_4 rfl (lv_at hl 1 rfl) ?_
  refine lv_iload_n hx hb dX7_of_5 rfl (lv_at hl 2 rfl) ?_
  have rg4 : 0 ≤ x1.toInt ∧ x1.toInt ≤ 40 := ⟨by omega, by omega⟩
  have rg5 : 0 ≤ x2.toInt ∧ x2.toInt ≤ 7 := ⟨by omega, by omega⟩
  refine va_calli (va_runS (As := [.int x1, .int x2]) (rest := [.ref (A 13)]) ⟨hx, hb, hml, hown, hts⟩ (y_X7_lineAt l dC dI H.size F x1 x2 rg4 rg5) (cwS 2 hts (ax_gS T_1216 T_1218 T_265 T_1217) rfl rfl rfl (by decide +kernel) ⟨Nat.le_of_ble_eq_true rfl, Nat.le_of_ble_eq_true rfl⟩) ⟨fun a U g mk q => ⟨q.1, s_pc (U := U) rfl rfl q.2⟩, fun U hU hW => ⟨rfl, s_pw hU hW hP hK hD hN⟩⟩ rfl rfl hl.1 rfl (lv_room (Nat.le_of_ble_eq_true rfl)) dX7_of_6 ⟨Nat.zero_le _, Nat.zero_le _⟩) hS (fun q _ h => h) (fun q h => h) (fun r7 F8 t H1 locs ht hvm hw hB hz1 hk1 hS => ?_)
  obtain ⟨hP, hK1⟩ := hB
  rw [ht] at hP
  generalize H1 = H at hP hS ⊢
  clear hz1 hk1 hvm hK1
  obtain ⟨h9, h11, hG9, h10⟩ := hw
  rw [hG9] at hP
  replace h10 : (r7.toInt = 8 * x1.toInt + x2.toInt) := by have q9 := h10; exact q9
  refine th_iald hx hb hK hP (hLK _ (y_k13 hA) (by decide)) 0 o2 rfl (th_in ⟨by omega, by omega⟩) dX7_of_9 ?_
  refine lv_topi (fun v12 ev12 => ?_)
  exact W.iret (v := v12) hx hb hr (fun t ht hW => ⟨⟨v12, F, rfl, ⟨trivial, trivial, hI, hfr, fun k hk => (y_fiZ oY0 (s_sub (by decide) hk)).trans ((hz0 k hk).trans (y_fiZ oY0 (s_sub (by decide) hk)).symm), (by rw [y_atE o2]; exact (ev12.trans (y_ci h10)))⟩, by rw [ht]; exact hP, va_K.moved hW.alike hK⟩, hS.F ht⟩) hS.2.2 dX7_of_10

set_option maxHeartbeats 4000000 in
set_option maxRecDepth 100000 in
theorem y_X7_isFork (l : Launch) (dC : Nat → ClassId) (dI : Nat → Nat → Nat) (sz : Nat) {L : List Nat} {K : Nat → Nat} {cs : Nat → ClassId} (hLK : ∀ a {k : Nat}, K a = k → k ≠ 0 → a ∈ L) (A : Nat → Nat) (hA : y_A K A) (F : Nat → va_E) (a0 : Nat) (x1 : Int32) (ha0 : K a0 = 9) (hx1 : 0 ≤ x1.toInt ∧ x1.toInt ≤ 40) (hI : y_I K cs A F) : Met l yX7_isFork (Cond.code yX7_isFork cX7_isFork 2 (some .boolean) :: T0) ({ frames := 2, cells := 0, slots := 0, locals := 43 }) (va_Pc [.ref a0, .int x1] (s_W dC dI sz L F [(cs 0, .int), (cs 1, .byte), (cs 2, .long), (cs 3, .object RX5), (cs 4, .object RX4), (cs 5, .array .int), (cs 6, .char), (cs 7, .boolean)])) (va_Qi (fun (r : Int32) (G : Nat → va_E) => (0 ≤ r.toInt ∧ r.toInt ≤ 1) ∧ True ∧ y_I K cs A G ∧ (∀ b, K b ∉ ([] : List Nat) → G b = F b) ∧ (∀ k, k ∈ ([1, 2, 3, 4, 5, 6, 7, 8, 11, 15, 16, 19, 25, 26, 27, 31, 32] : List Nat) → y_fi G a0 k = y_fi F a0 k) ∧ ((r.toInt = 1 ∧ (y_c (y_at F (A 13)) (8 * x1.toInt)).toInt = 12 ∧ ¬ (y_c (y_at F (A 13)) (8 * x1.toInt + 5)).toInt = -1000000) ∨ (r.toInt = 0 ∧ (¬ (y_c (y_at F (A 13)) (8 * x1.toInt)).toInt = 12 ∨ (y_c (y_at F (A 13)) (8 * x1.toInt + 5)).toInt = -1000000)))) (fun (G : Nat → va_E) (t : State) => va_P (dC, dI) vwCl (va_pl L G) t.heap ∧ va_K (dC, dI) vwCl [(cs 0, .int), (cs 1, .byte), (cs 2, .long), (cs 3, .object RX5), (cs 4, .object RX4), (cs 5, .array .int), (cs 6, .char), (cs 7, .boolean)] t) (fun q => q ∈ L)) 0 0 (fun q => q ∈ L) := by
  refine Met.ofW (cc := cX7_isFork) (maxL := 2) (ret := (some .boolean)) (by decide) rfl ?_
  intro p e s m args below meth c s₁ B hml hv
  obtain ⟨rfl, hsz, hP, hK, hD, hN⟩ := hv
  have hx := B.exec
  have hb := B.bytes
  have hr := B.returns
  have hts : ∀ w ∈ T0, w.before _ s = true := fun w h => atoms_spec (ws := Cond.code yX7_isFork cX7_isFork 2 (some .boolean) :: T0) B.pre w (List.mem_cons_of_mem _ h)
  have hown : s.vm.findClass RX7 = some m.cls := findClass_of_methodNamed B.named
  have hlocks := B.notSynchronized
  have hS : va_S (fun q => q ∈ L) s.heap s.heap [] := va_S.rf
  have hfr : ∀ b, K b ∉ ([] : List Nat) → F b = F b := fun _ _ => rfl
  have hl := lv_entry ([.ref a0, .int x1]) (n := 2) (Nat.le_of_ble_eq_true rfl)
  rw [lg_entry_eq]
  generalize (lg_sl ([.ref a0, .int x1]) ++ List.replicate (2 - (lg_sl ([.ref a0, .int x1])).length) Slot.unset).toArray = ls at hl ⊢
  have hl : lv_has ls 2 [(0, .ref a0), (1, .int x1)] := hl
  refine s_gen hP hS (fun H locs hP hS => ?_)
  obtain ⟨z0, q0, oY0, bz0, bq0⟩ := y_opY hI ha0
  have hz0 : ∀ k, k ∈ ([1, 2, 3, 4, 5, 6, 7, 8, 11, 15, 16, 19, 25, 26, 27, 31, 32] : List Nat) → z0 k = z0 k := fun _ _ => rfl
  obtain ⟨f1, o2, b3⟩ := y_op13 hI
  refine lv_aload_n hx hb dX7_isFork_0 rfl (lv_at hl 0 rfl) ?_
  refine lv_iload_n hx hb dX7_isFork_1 rfl (lv_at hl 1 rfl) ?_
  refine lv_iconst (v := 0) hx hb dX7_isFork_2 (by decide) ?_
  have rg4 : 0 ≤ x1.toInt ∧ x1.toInt ≤ 40 := ⟨by omega, by omega⟩
  refine va_calli (va_runV (As := [.int x1, .int 0]) (rest := []) ⟨hx, hb, hml, hown, hts⟩ (y_X7_of l dC dI H.size hLK A hA F a0 x1 0 ha0 rg4 (by decide) hI) (cwV 2 hts (ax_gV T_1131 T_1133 T_1134 T_265 T_1132) rfl rfl rfl (by decide +kernel) ⟨Nat.le_of_ble_eq_true rfl, Nat.le_of_ble_eq_true rfl⟩) ⟨fun a U g mk q => ⟨q.1, s_pc (U := U) rfl rfl q.2⟩, s_recv hK hP (hLK _ ha0 (by decide)) (ci := 7) rfl oY0, fun U hU hW => ⟨rfl, s_pw hU hW hP hK hD hN⟩⟩ rfl rfl hl.1 rfl (lv_room (Nat.le_of_ble_eq_true rfl)) dX7_isFork_3 ⟨Nat.zero_le _, Nat.zero_le _⟩) hS (fun q _ h => h) (fun q h => h) (fun r6 F7 t H1 locs ht hvm hw hB hz1 hk1 hS => ?_)
  obtain ⟨hP, hK1⟩ := hB
  rw [ht] at hP
  generalize H1 = H at hP hS ⊢
  clear hz1 hk1 hvm hK1
  obtain ⟨h8, h10, hI, hfr1, hzf, h9⟩ := hw
  have o11 : F7 (A 13) = .inl (cs 0, 400, .inl f1) := (hfr1 _ (by rw [(y_k13 hA)]; decide)).trans o2
  have oY12 : F7 a0 = .inr (7, y_fl A z0 q0) := (hfr1 _ (by rw [ha0]; decide)).trans oY0
  have hfr : ∀ b, K b ∉ ([] : List Nat) → F7 b = F b := fun b hb9 => (hfr1 b (fun q => hb9 (s_sub (by decide) q))).trans (hfr b hb9)
  replace h9 : (r6 = y_c f1 (8 * x1.toInt + 0)) := by have q9 := h9; rw [y_atE o2] at q9; exact q9
  have h9 : r6 = y_c f1 (8 * x1.toInt) := h9.trans (congrArg (y_c f1) (by omega))
  have h13 := congrArg Int32.toInt h9
  refine lv_bipush (v := 12) hx hb dX7_isFork_6 (by decide) ?_
  refine lv_icmp_ne (tgt := 26) hx hb dX7_isFork_8 (by decide) (fun c14 => ?_) (fun c14 => ?_)
  · have c14 := mt (ax_eq (n := 12) (by decide)).mpr c14
    refine lv_iconst (v := 0) hx hb dX7_isFork_26 (by decide) ?_
    have h15 : (0 : Int32).toInt = 0 := by decide
    exact W.zret (v := 0) (ty := .boolean) hx hb hr (by decide) (fun t ht hW => ⟨⟨0, F7, rfl, ⟨(by decide), trivial, hI, hfr, fun k hk => (y_fiZ oY12 (s_sub (by decide) hk)).trans ((hz0 k hk).trans (y_fiZ oY0 (s_sub (by decide) hk)).symm), (by first | (rw [y_atE o2]; omega) | rw [y_atE o2])⟩, by rw [ht]; exact hP, va_K.moved hW.alike hK⟩, hS.F ht⟩) hS.2.2 dX7_isFork_27
  · have c14 := (ax_eq (n := 12) (by decide)).mp c14
    refine lv_aload_n hx hb dX7_isFork_11 rfl (lv_at hl 0 rfl) ?_
    refine lv_iload_n hx hb dX7_isFork_12 rfl (lv_at hl 1 rfl) ?_
    refine lv_iconst (v := 5) hx hb dX7_isFork_13 (by decide) ?_
    refine va_calli (va_runV (As := [.int x1, .int 5]) (rest := []) ⟨hx, hb, hml, hown, hts⟩ (y_X7_of l dC dI H.size hLK A hA F7 a0 x1 5 ha0 rg4 (by decide) hI) (cwV 2 hts (ax_gV T_1131 T_1133 T_1134 T_265 T_1132) rfl rfl rfl (by decide +kernel) ⟨Nat.le_of_ble_eq_true rfl, Nat.le_of_ble_eq_true rfl⟩) ⟨fun a U g mk q => ⟨q.1, s_pc (U := U) rfl rfl q.2⟩, s_recv hK hP (hLK _ ha0 (by decide)) (ci := 7) rfl oY12, fun U hU hW => ⟨rfl, s_pw hU hW hP hK hD hN⟩⟩ rfl rfl hl.1 rfl (lv_room (Nat.le_of_ble_eq_true rfl)) dX7_isFork_14 ⟨Nat.zero_le _, Nat.zero_le _⟩) hS (fun q _ h => h) (fun q h => h) (fun r17 F18 t H1 locs ht hvm hw hB hz1 hk1 hS => ?_)
    obtain ⟨hP, hK1⟩ := hB
    rw [ht] at hP
    generalize H1 = H at hP hS ⊢
    clear hz1 hk1 hvm hK1
    obtain ⟨h19, h21, hI, hfr1, hzf, h20⟩ := hw
    have o22 : F18 (A 13) = .inl (cs 0, 400, .inl f1) := (hfr1 _ (by rw [(y_k13 hA)]; decide)).trans o11
    have oY23 : F18 a0 = .inr (7, y_fl A z0 q0) := (hfr1 _ (by rw [ha0]; decide)).trans oY12
    have hfr : ∀ b, K b ∉ ([] : List Nat) → F18 b = F b := fun b hb9 => (hfr1 b (fun q => hb9 (s_sub (by decide) q))).trans (hfr b hb9)
    replace h20 : (r17 = y_c f1 (8 * x1.toInt + 5)) := by have q9 := h20; rw [y_atE o11] at q9; exact q9
    have h20 : r17 = y_c f1 (8 * x1.toInt + 5) := h20.trans (congrArg (y_c f1) (by omega))
    have h24 := congrArg Int32.toInt h20
    refine lv_ldc (v := (-1000000)) hx hb hown (hts _ T_316) dX7_isFork_17 ?_
    refine lv_icmp_eq (tgt := 26) hx hb dX7_isFork_19 (by decide) (fun c25 => ?_) (fun c25 => ?_)
    · have c25 := (ax_eq (n := (-1000000)) (by decide)).mp c25
      refine lv_iconst (v := 0) hx hb dX7_isFork_26 (by decide) ?_
      have h26 : (0 : Int32).toInt = 0 := by decide
      exact W.zret (v := 0) (ty := .boolean) hx hb hr (by decide) (fun t ht hW => ⟨⟨0, F18, rfl, ⟨(by decide), trivial, hI, hfr, fun k hk => (y_fiZ oY23 (s_sub (by decide) hk)).trans ((hz0 k hk).trans (y_fiZ oY0 (s_sub (by decide) hk)).symm), (by first | (rw [y_atE o2]; omega) | rw [y_atE o2])⟩, by rw [ht]; exact hP, va_K.moved hW.alike hK⟩, hS.F ht⟩) hS.2.2 dX7_isFork_27
    · have c25 := mt (ax_eq (n := (-1000000)) (by decide)).mpr c25
      refine lv_iconst (v := 1) hx hb dX7_isFork_22 (by decide) ?_
      refine lv_goto (tgt := 27) hx hb dX7_isFork_23 (by decide) ?_
      have h27 : (1 : Int32).toInt = 1 := by decide
      exact W.zret (v := 1) (ty := .boolean) hx hb hr (by decide) (fun t ht hW => ⟨⟨1, F18, rfl, ⟨(by decide), trivial, hI, hfr, fun k hk => (y_fiZ oY23 (s_sub (by decide) hk)).trans ((hz0 k hk).trans (y_fiZ oY0 (s_sub (by decide) hk)).symm), (by first | (rw [y_atE o2]; omega) | rw [y_atE o2])⟩, by rw [ht]; exact hP, va_K.moved hW.alike hK⟩, hS.F ht⟩) hS.2.2 dX7_isFork_27

set_option maxHeartbeats 4000000 in
set_option maxRecDepth 100000 in
theorem y_X7_comesTo (l : Launch) (dC : Nat → ClassId) (dI : Nat → Nat → Nat) (sz : Nat) {L : List Nat} {K : Nat → Nat} {cs : Nat → ClassId} (hLK : ∀ a {k : Nat}, K a = k → k ≠ 0 → a ∈ L) (A : Nat → Nat) (hA : y_A K A) (F : Nat → va_E) (a0 : Nat) (x1 : Int32) (x2 : Int32) (ha0 : K a0 = 9) (hx1 : 0 ≤ x1.toInt ∧ x1.toInt ≤ 40) (hx2 : -1 ≤ x2.toInt ∧ x2.toInt ≤ 40) (hI : y_I K cs A F) (hCM : y_CM (y_at F (A 17)) (y_at F (A 18)) (y_fi F a0 19).toInt (y_c (y_at F (A 13)) 387).toInt) (hxl : x1.toInt ≤ (y_c (y_at F (A 13)) 387).toInt) : Met l yX7_comesTo (Cond.code yX7_comesTo cX7_comesTo 3 none :: T0) ({ frames := 0, cells := 0, slots := 0, locals := 0 }) (va_Pc [.ref a0, .int x1, .int x2] (s_W dC dI sz L F [(cs 0, .int), (cs 1, .byte), (cs 2, .long), (cs 3, .object RX5), (cs 4, .object RX4), (cs 5, .array .int), (cs 6, .char), (cs 7, .boolean)])) (va_Qv (fun (G : Nat → va_E) => True ∧ True ∧ y_I K cs A G ∧ (∀ b, K b ∉ [9, 67, 68] → G b = F b) ∧ (∀ k, k ∈ ([1, 2, 3, 4, 5, 6, 7, 8, 11, 15, 16, 25, 26, 27, 31, 32] : List Nat) → y_fi G a0 k = y_fi F a0 k) ∧ (y_CM (y_at G (A 17)) (y_at G (A 18)) (y_fi G a0 19).toInt (y_c (y_at F (A 13)) 387).toInt)) (fun (G : Nat → va_E) (t : State) => va_P (dC, dI) vwCl (va_pl L G) t.heap ∧ va_K (dC, dI) vwCl [(cs 0, .int), (cs 1, .byte), (cs 2, .long), (cs 3, .object RX5), (cs 4, .object RX4), (cs 5, .array .int), (cs 6, .char), (cs 7, .boolean)] t) (fun q => q ∈ L)) 0 0 (fun q => q ∈ L) := by
  refine Met.ofW (cc := cX7_comesTo) (maxL := 3) (ret := none) (by decide) rfl ?_
  intro p e s m args below meth c s₁ B hml hv
  obtain ⟨rfl, hsz, hP, hK, hD, hN⟩ := hv
  have hx := B.exec
  have hb := B.bytes
  have hr := B.returns
  have hts : ∀ w ∈ T0, w.before _ s = true := fun w h => atoms_spec (ws := Cond.code yX7_comesTo cX7_comesTo 3 none :: T0) B.pre w (List.mem_cons_of_mem _ h)
  have hown : s.vm.findClass RX7 = some m.cls := findClass_of_methodNamed B.named
  have hlocks := B.notSynchronized
  have hS : va_S (fun q => q ∈ L) s.heap s.heap [] := va_S.rf
  have hfr : ∀ b, K b ∉ [9, 67, 68] → F b = F b := fun _ _ => rfl
  have hl := lv_entry ([.ref a0, .int x1, .int x2]) (n := 3) (Nat.le_of_ble_eq_true rfl)
  rw [lg_entry_eq]
  generalize (lg_sl ([.ref a0, .int x1, .int x2]) ++ List.replicate (3 - (lg_sl ([.ref a0, .int x1, .int x2])).length) Slot.unset).toArray = ls at hl ⊢
  have hl : lv_has ls 3 [(0, .ref a0), (1, .int x1), (2, .int x2)] := hl
  refine s_gen hP hS (fun H locs hP hS => ?_)
  obtain ⟨z0, q0, oY0, bz0, bq0⟩ := y_opY hI ha0
  have hz0 : ∀ k, k ∈ ([1, 2, 3, 4, 5, 6, 7, 8, 11, 15, 16, 25, 26, 27, 31, 32] : List Nat) → z0 k = z0 k := fun _ _ => rfl
  obtain ⟨f1, o2, b3⟩ := y_op13 hI
  obtain ⟨f4, o5, b6⟩ := y_op17 hI
  obtain ⟨f7, o8, b9⟩ := y_op18 hI
  obtain ⟨v10, ev10⟩ : ∃ y : Int32, y = z0 19 := ⟨_, rfl⟩
  have qv10 : 0 ≤ v10.toInt ∧ v10.toInt ≤ 41 := by rw [ev10]; exact y_bY19 bz0
  have eF_19 := ev10
  replace hCM : y_CM f4 f7 v10.toInt (y_c f1 387).toInt := by have q9 := hCM; rw [y_atE o5, y_atE o8, y_fiZ oY0 (k := 19) (by decide), ← ev10, y_atE o2] at q9; exact q9
  replace hxl : x1.toInt ≤ (y_c f1 387).toInt := by have q9 := hxl; rw [y_atE o2] at q9; exact q9
  have e0_v10 := ev10
  refine lv_iload_n hx hb dX7_comesTo_0 rfl (lv_at hl 1 rfl) ?_
  refine lv_iload_n hx hb dX7_comesTo_1 rfl (lv_at hl 2 rfl) ?_
  refine lv_icmp_eq (tgt := 14) hx hb dX7_comesTo_2 (by decide) (fun c11 => ?_) (fun c11 => ?_)
  · have c11 := Int32.toInt_inj.symm.mp c11
    exact W.vret hx hb hr (fun t ht hW => ⟨⟨F, rfl, ⟨trivial, trivial, hI, hfr, fun k hk => (y_fiZ oY0 (s_sub (by decide) hk)).trans ((hz0 k hk).trans (y_fiZ oY0 (s_sub (by decide) hk)).symm), (by rw [y_atE o5, y_atE o8, y_fiZ oY0 (k := 19) (by decide), ← ev10, y_atE o2]; exact hCM)⟩, by rw [ht]; exact hP, va_K.moved hW.alike hK⟩, hS.F ht⟩) hS.2.2 dX7_comesTo_14
  · have c11 := mt Int32.toInt_inj.symm.mpr c11
    refine lv_aload_n hx hb dX7_comesTo_5 rfl (lv_at hl 0 rfl) ?_
    refine th_get (D := (dC, dI)) (ci := 7) (v := .ref (A 17)) (C := RX7) (T := TX7) (N := 34) hx hb hts inX7 hown hK hP (hLK _ ha0 (by decide)) oY0 rfl 17 (by decide) (hts _ T_249) (fun _ h9 => h9) rfl dX7_comesTo_6 ?_
    refine lv_iload_n hx hb dX7_comesTo_9 rfl (lv_at hl 1 rfl) ?_
    refine th_zald hx hb hK hP (hLK _ (y_k17 hA) (by decide)) 7 o5 rfl (th_in ⟨by omega, by omega⟩) dX7_comesTo_10 ?_
    refine lv_topi (fun v12 ev12 => ?_)
    have qv12 : 0 ≤ v12.toInt ∧ v12.toInt ≤ 1 := by rw [ev12]; exact b6 _ (th_cl ⟨by omega, by omega⟩)
    refine lv_if_eq (tgt := 15) hx hb dX7_comesTo_11 (by decide) (fun c13 => ?_) (fun c13 => ?_)
    · have c13 := (ax_eq (n := 0) (by decide)).mp c13
      have hc0 : f4 x1.toNatClampNeg = 0 := by rw [← ev12]; exact Int32.toInt_inj.mp (by rw [c13]; decide)
      refine lv_aload_n hx hb dX7_comesTo_15 rfl (lv_at hl 0 rfl) ?_
      refine th_get (D := (dC, dI)) (ci := 7) (v := .ref (A 17)) (C := RX7) (T := TX7) (N := 34) hx hb hts inX7 hown hK hP (hLK _ ha0 (by decide)) oY0 rfl 17 (by decide) (hts _ T_249) (fun _ h9 => h9) rfl dX7_comesTo_16 ?_
      refine lv_iload_n hx hb dX7_comesTo_19 rfl (lv_at hl 1 rfl) ?_
      refine lv_iconst (v := 1) hx hb dX7_comesTo_20 (by decide) ?_
      refine th_zast hx hb hK hP hD hS (hLK _ (y_k17 hA) (by decide)) 7 o5 rfl (th_in ⟨by omega, by omega⟩) dX7_comesTo_21 (fun H locs hP hS => ?_)
      obtain ⟨f14, u15⟩ : ∃ g : Nat → Int32, g = upd f4 (x1 : Int32).toNatClampNeg (vp_nar .boolean 1) := ⟨_, rfl⟩
      rw [← u15] at hP
      have b16 : y_bd 17 f14 := by rw [u15]; exact th_updB b6 (by decide)
      have hP : va_P (dC, dI) vwCl (va_pl L (va_up F (A 17) (.inl (cs 7, 41, .inl f14)))) H := hP
      obtain ⟨F17, hF18⟩ : ∃ G : Nat → va_E, G = va_up F (A 17) (.inl (cs 7, 41, .inl f14)) := ⟨_, rfl⟩
      rw [← hF18] at hP
      have hI : y_I K cs A F17 := by rw [hF18]; exact y_clA (i := 17) hA hI (by decide) b16
      have hfr : ∀ b, K b ∉ [9, 67, 68] → F17 b = F b := by rw [hF18]; exact s_fr hfr (y_k17 hA) (by decide)
      have o19 : F17 (A 13) = .inl (cs 0, 400, .inl f1) := by rw [hF18]; exact th_ne (th_kd (y_k13 hA) (y_k17 hA) (by decide)) o2
      have o20 : F17 (A 18) = .inl (cs 0, 41, .inl f7) := by rw [hF18]; exact th_ne (th_kd (y_k18 hA) (y_k17 hA) (by decide)) o8
      have oY21 : F17 a0 = .inr (7, y_fl A z0 q0) := by rw [hF18]; exact th_ne (th_kd ha0 (y_k17 hA) (by decide)) oY0
      have o22 : F17 (A 17) = .inl (cs 7, 41, .inl f14) := by rw [hF18]; exact th_up
      have u23 : ∀ j : Int, 0 ≤ j → y_c f14 j = if j = x1.toInt then (vp_nar .boolean 1) else y_c f4 j := by rw [u15]; exact y_cu rfl (by omega)
      refine lv_aload_n hx hb dX7_comesTo_22 rfl (lv_at hl 0 rfl) ?_
      refine th_get (D := (dC, dI)) (ci := 7) (v := .ref (A 18)) (C := RX7) (T := TX7) (N := 34) hx hb hts inX7 hown hK hP (hLK _ ha0 (by decide)) oY21 rfl 18 (by decide) (hts _ T_250) (fun _ h9 => h9) rfl dX7_comesTo_23 ?_
      refine lv_aload_n hx hb dX7_comesTo_26 rfl (lv_at hl 0 rfl) ?_
      refine th_get (D := (dC, dI)) (ci := 7) (v := .int (z0 19)) (C := RX7) (T := TX7) (N := 34) hx hb hts inX7 hown hK hP (hLK _ ha0 (by decide)) oY21 rfl 19 (by decide) (hts _ T_1093) (fun _ h9 => h9) rfl dX7_comesTo_27 ?_
      refine ax_eqi (y := v10) ev10.symm ?_
      have h24 : 0 ≤ v10.toInt ∧ v10.toInt ≤ 40 := y_CM40 (i := x1) hCM ⟨by omega, by omega⟩ hc0
      refine lv_iload_n hx hb dX7_comesTo_30 rfl (lv_at hl 1 rfl) ?_
      refine th_iast hx hb hK hP hD hS (hLK _ (y_k18 hA) (by decide)) 0 o20 rfl (th_in ⟨by omega, by omega⟩) dX7_comesTo_31 (fun H locs hP hS => ?_)
      obtain ⟨f25, u26⟩ : ∃ g : Nat → Int32, g = upd f7 (v10 : Int32).toNatClampNeg x1 := ⟨_, rfl⟩
      rw [← u26] at hP
      have b27 : y_bd 18 f25 := by rw [u26]; exact th_updB b9 ⟨by omega, by omega⟩
      have hP : va_P (dC, dI) vwCl (va_pl L (va_up F17 (A 18) (.inl (cs 0, 41, .inl f25)))) H := hP
      obtain ⟨F28, hF29⟩ : ∃ G : Nat → va_E, G = va_up F17 (A 18) (.inl (cs 0, 41, .inl f25)) := ⟨_, rfl⟩
      rw [← hF29] at hP
      have hI : y_I K cs A F28 := by rw [hF29]; exact y_clA (i := 18) hA hI (by decide) b27
      have hfr : ∀ b, K b ∉ [9, 67, 68] → F28 b = F b := by rw [hF29]; exact s_fr hfr (y_k18 hA) (by decide)
      have o30 : F28 (A 13) = .inl (cs 0, 400, .inl f1) := by rw [hF29]; exact th_ne (th_kd (y_k13 hA) (y_k18 hA) (by decide)) o19
      have o31 : F28 (A 17) = .inl (cs 7, 41, .inl f14) := by rw [hF29]; exact th_ne (th_kd (y_k17 hA) (y_k18 hA) (by decide)) o22
      have oY32 : F28 a0 = .inr (7, y_fl A z0 q0) := by rw [hF29]; exact th_ne (th_kd ha0 (y_k18 hA) (by decide)) oY21
      have o33 : F28 (A 18) = .inl (cs 0, 41, .inl f25) := by rw [hF29]; exact th_up
      have u34 : ∀ j : Int, 0 ≤ j → y_c f25 j = if j = v10.toInt then x1 else y_c f7 j := by rw [u26]; exact y_cu rfl (by omega)
      refine lv_aload_n hx hb dX7_comesTo_32 rfl (lv_at hl 0 rfl) ?_
      refine lv_dup hx hb dX7_comesTo_33 rfl ?_
      refine th_get (D := (dC, dI)) (ci := 7) (v := .int (z0 19)) (C := RX7) (T := TX7) (N := 34) hx hb hts inX7 hown hK hP (hLK _ ha0 (by decide)) oY32 rfl 19 (by decide) (hts _ T_1093) (fun _ h9 => h9) rfl dX7_comesTo_34 ?_
      refine ax_eqi (y := v10) ev10.symm ?_
      refine lv_iconst (v := 1) hx hb dX7_comesTo_37 (by decide) ?_
      refine lv_iadd hx hb dX7_comesTo_38 ?_
      refine lv_topi (fun v35 ev35 => ?_)
      have qv35 : v35.toInt = v10.toInt + 1 := by rw [ev35]; exact th_add rfl (by decide) ⟨by omega, by omega⟩
      refine th_put (D := (dC, dI)) (ci := 7) (v := .int v35) (ty := .int) (C := RX7) (T := TX7) (N := 34) hx hb hts inX7 tyX7 tyX7_ok nmX7 hown hK hP hD hS (hLK _ ha0 (by decide)) oY32 rfl 19 (by decide) (hts _ T_1093) (fun _ h9 => h9) rfl (by decide +kernel) rfl rfl (Nat.le_of_ble_eq_true rfl) dX7_comesTo_39 (fun H locs hP hS => ?_)
      rw [y_fs19] at hP
      obtain ⟨z36, hz37⟩ : ∃ g : Nat → Int32, g = upd z0 19 v35 := ⟨_, rfl⟩
      rw [← hz37] at hP
      have bz38 : y_bY z36 := by rw [hz37]; exact y_bp19 bz0 ⟨by omega, by omega⟩
      have hP : va_P (dC, dI) vwCl (va_pl L (va_up F28 a0 (.inr (7, y_fl A z36 q0)))) H := hP
      obtain ⟨F39, hF40⟩ : ∃ G : Nat → va_E, G = va_up F28 a0 (.inr (7, y_fl A z36 q0)) := ⟨_, rfl⟩
      rw [← hF40] at hP
      have hI : y_I K cs A F39 := by rw [hF40]; exact y_clY hA hI ha0 bz38 bq0
      have hfr : ∀ b, K b ∉ [9, 67, 68] → F39 b = F b := by rw [hF40]; exact s_fr hfr ha0 (by decide)
      have o41 : F39 (A 13) = .inl (cs 0, 400, .inl f1) := by rw [hF40]; exact th_ne (th_kd (y_k13 hA) ha0 (by decide)) o30
      have o42 : F39 (A 17) = .inl (cs 7, 41, .inl f14) := by rw [hF40]; exact th_ne (th_kd (y_k17 hA) ha0 (by decide)) o31
      have o43 : F39 (A 18) = .inl (cs 0, 41, .inl f25) := by rw [hF40]; exact th_ne (th_kd (y_k18 hA) ha0 (by decide)) o33
      have oY44 : F39 a0 = .inr (7, y_fl A z36 q0) := by rw [hF40]; exact th_up
      have hz0 : ∀ k, k ∈ ([1, 2, 3, 4, 5, 6, 7, 8, 11, 15, 16, 25, 26, 27, 31, 32] : List Nat) → z36 k = z0 k := fun k hk => by rw [hz37]; exact (y_un (fun q => absurd hk (by rw [q]; decide))).trans (hz0 k hk)
      obtain ⟨v45, ev45⟩ : ∃ y : Int32, y = z36 19 := ⟨_, rfl⟩
      have qv45 : v45.toInt = v35.toInt := by rw [ev45, hz37, y_ue]
      exact W.vret hx hb hr (fun t ht hW => ⟨⟨F39, rfl, ⟨trivial, trivial, hI, hfr, fun k hk => (y_fiZ oY44 (s_sub (by decide) hk)).trans ((hz0 k hk).trans (y_fiZ oY0 (s_sub (by decide) hk)).symm), (by rw [y_atE o42, y_atE o43, y_fiZ oY44 (k := 19) (by decide), ← ev45, y_atE o2]; rw [show v45.toInt = v10.toInt + 1 by omega, u15]; exact y_CMs (i := x1) (k := 0) hCM ⟨by omega, by omega⟩ hc0 (by decide) u34 ⟨by omega, by omega⟩)⟩, by rw [ht]; exact hP, va_K.moved hW.alike hK⟩, hS.F ht⟩) hS.2.2 dX7_comesTo_42
    · have c13 := mt (ax_eq (n := 0) (by decide)).mpr c13
      exact W.vret hx hb hr (fun t ht hW => ⟨⟨F, rfl, ⟨trivial, trivial, hI, hfr, fun k hk => (y_fiZ oY0 (s_sub (by decide) hk)).trans ((hz0 k hk).trans (y_fiZ oY0 (s_sub (by decide) hk)).symm), (by rw [y_atE o5, y_atE o8, y_fiZ oY0 (k := 19) (by decide), ← ev10, y_atE o2]; exact hCM)⟩, by rw [ht]; exact hP, va_K.moved hW.alike hK⟩, hS.F ht⟩) hS.2.2 dX7_comesTo_14

set_option maxHeartbeats 4000000 in
set_option maxRecDepth 100000 in
theorem y_X7_goesFrom (l : Launch) (dC : Nat → ClassId) (dI : Nat → Nat → Nat) (sz : Nat) {L : List Nat} {K : Nat → Nat} {cs : Nat → ClassId} (hLK : ∀ a {k : Nat}, K a = k → k ≠ 0 → a ∈ L) (A : Nat → Nat) (hA : y_A K A) (F : Nat → va_E) (a0 : Nat) (x1 : Int32) (x2 : Int32) (ha0 : K a0 = 9) (hx1 : 0 ≤ x1.toInt ∧ x1.toInt ≤ 40) (hx2 : -1 ≤ x2.toInt ∧ x2.toInt ≤ 40) (hI : y_I K cs A F) (hP0 : y_P0 (y_at F (A 13))) (hCM : y_CM (y_at F (A 17)) (y_at F (A 18)) (y_fi F a0 19).toInt (y_c (y_at F (A 13)) 387).toInt) (hxl : x1.toInt ≤ (y_c (y_at F (A 13)) 387).toInt) : Met l yX7_goesFrom (Cond.code yX7_goesFrom cX7_goesFrom 4 none :: T0) ({ frames := 3, cells := 0, slots := 0, locals := 64 }) (va_Pc [.ref a0, .int x1, .int x2] (s_W dC dI sz L F [(cs 0, .int), (cs 1, .byte), (cs 2, .long), (cs 3, .object RX5), (cs 4, .object RX4), (cs 5, .array .int), (cs 6, .char), (cs 7, .boolean)])) (va_Qv (fun (G : Nat → va_E) => True ∧ True ∧ y_I K cs A G ∧ (∀ b, K b ∉ [9, 67, 68] → G b = F b) ∧ (∀ k, k ∈ ([1, 2, 3, 4, 5, 6, 7, 8, 11, 15, 16, 25, 26, 27, 31, 32] : List Nat) → y_fi G a0 k = y_fi F a0 k) ∧ (y_CM (y_at G (A 17)) (y_at G (A 18)) (y_fi G a0 19).toInt (y_c (y_at F (A 13)) 387).toInt)) (fun (G : Nat → va_E) (t : State) => va_P (dC, dI) vwCl (va_pl L G) t.heap ∧ va_K (dC, dI) vwCl [(cs 0, .int), (cs 1, .byte), (cs 2, .long), (cs 3, .object RX5), (cs 4, .object RX4), (cs 5, .array .int), (cs 6, .char), (cs 7, .boolean)] t) (fun q => q ∈ L)) 0 0 (fun q => q ∈ L) := by
  refine Met.ofW (cc := cX7_goesFrom) (maxL := 4) (ret := none) (by decide) rfl ?_
  intro p e s m args below meth c s₁ B hml hv
  obtain ⟨rfl, hsz, hP, hK, hD, hN⟩ := hv
  have hx := B.exec
  have hb := B.bytes
  have hr := B.returns
  have hts : ∀ w ∈ T0, w.before _ s = true := fun w h => atoms_spec (ws := Cond.code yX7_goesFrom cX7_goesFrom 4 none :: T0) B.pre w (List.mem_cons_of_mem _ h)
  have hown : s.vm.findClass RX7 = some m.cls := findClass_of_methodNamed B.named
  have hlocks := B.notSynchronized
  have hS : va_S (fun q => q ∈ L) s.heap s.heap [] := va_S.rf
  have hfr : ∀ b, K b ∉ [9, 67, 68] → F b = F b := fun _ _ => rfl
  have hl := lv_entry ([.ref a0, .int x1, .int x2]) (n := 4) (Nat.le_of_ble_eq_true rfl)
  rw [lg_entry_eq]
  generalize (lg_sl ([.ref a0, .int x1, .int x2]) ++ List.replicate (4 - (lg_sl ([.ref a0, .int x1, .int x2])).length) Slot.unset).toArray = ls at hl ⊢
  have hl : lv_has ls 4 [(0, .ref a0), (1, .int x1), (2, .int x2)] := hl
  refine s_gen hP hS (fun H locs hP hS => ?_)
  obtain ⟨z0, q0, oY0, bz0, bq0⟩ := y_opY hI ha0
  have hz0 : ∀ k, k ∈ ([1, 2, 3, 4, 5, 6, 7, 8, 11, 15, 16, 25, 26, 27, 31, 32] : List Nat) → z0 k = z0 k := fun _ _ => rfl
  obtain ⟨f1, o2, b3⟩ := y_op13 hI
  obtain ⟨f4, o5, b6⟩ := y_op17 hI
  obtain ⟨f7, o8, b9⟩ := y_op18 hI
  obtain ⟨v10, ev10⟩ : ∃ y : Int32, y = z0 19 := ⟨_, rfl⟩
  have qv10 : 0 ≤ v10.toInt ∧ v10.toInt ≤ 41 := by rw [ev10]; exact y_bY19 bz0
  have eF_19 := ev10
  replace hP0 : y_P0 f1 := by have q9 := hP0; rw [y_atE o2] at q9; exact q9
  replace hCM : y_CM f4 f7 v10.toInt (y_c f1 387).toInt := by have q9 := hCM; rw [y_atE o5, y_atE o8, y_fiZ oY0 (k := 19) (by decide), ← ev10, y_atE o2] at q9; exact q9
  replace hxl : x1.toInt ≤ (y_c f1 387).toInt := by have q9 := hxl; rw [y_atE o2] at q9; exact q9
  have hL := y_P0L hP0
  have hW := y_P0W hP0
  have e0_v10 := ev10
  refine th_join (fun g H locs => ∃ (G : Nat → va_E) (ls : Array Slot), g = F0 m 68 ls [] ∧ lv_has ls 4 [(0, .ref a0), (1, .int x1), (2, .int x2)] ∧ va_P (dC, dI) vwCl (va_pl L G) H ∧ va_S (fun q => q ∈ L) s.heap H locs ∧ y_I K cs A G ∧ (∀ b, K b ∉ [9, 67, 68] → G b = F b) ∧ (∀ k, k ∈ ([1, 2, 3, 4, 5, 6, 7, 8, 11, 15, 16, 25, 26, 27, 31, 32] : List Nat) → y_fi G a0 k = z0 k) ∧ (0 ≤ x1.toInt ∧ x1.toInt ≤ 40) ∧ (-1 ≤ x2.toInt ∧ x2.toInt ≤ 40) ∧ y_CM (y_at G (A 17)) (y_at G (A 18)) (y_fi G a0 19).toInt (y_c f1 387).toInt ∧ (x1.toInt < (y_c f1 387).toInt)) (fun K68 => ?_) ?_
  refine th_join (fun g H locs => ∃ (G : Nat → va_E) (ls : Array Slot) (w11 : Int32), g = F0 m 48 ls [] ∧ lv_has ls 4 [(0, .ref a0), (1, .int x1), (2, .int x2), (3, .int w11)] ∧ va_P (dC, dI) vwCl (va_pl L G) H ∧ va_S (fun q => q ∈ L) s.heap H locs ∧ y_I K cs A G ∧ (∀ b, K b ∉ [9, 67, 68] → G b = F b) ∧ (∀ k, k ∈ ([1, 2, 3, 4, 5, 6, 7, 8, 11, 15, 16, 25, 26, 27, 31, 32] : List Nat) → y_fi G a0 k = z0 k) ∧ True ∧ (0 ≤ x1.toInt ∧ x1.toInt ≤ 40) ∧ (-1 ≤ x2.toInt ∧ x2.toInt ≤ 40) ∧ y_CM (y_at G (A 17)) (y_at G (A 18)) (y_fi G a0 19).toInt (y_c f1 387).toInt ∧ (x1.toInt < (y_c f1 387).toInt ∧ w11.toInt = (y_c f1 (8 * x1.toInt)).toInt)) (fun K48 => ?_) ?_
  refine th_join (fun g H locs => ∃ (G : Nat → va_E) (ls : Array Slot) (w12 : Int32), g = F0 m 31 ls [] ∧ lv_has ls 4 [(0, .ref a0), (1, .int x1), (2, .int x2), (3, .int w12)] ∧ va_P (dC, dI) vwCl (va_pl L G) H ∧ va_S (fun q => q ∈ L) s.heap H locs ∧ y_I K cs A G ∧ (∀ b, K b ∉ [9, 67, 68] → G b = F b) ∧ (∀ k, k ∈ ([1, 2, 3, 4, 5, 6, 7, 8, 11, 15, 16, 25, 26, 27, 31, 32] : List Nat) → y_fi G a0 k = z0 k) ∧ True ∧ (0 ≤ x1.toInt ∧ x1.toInt ≤ 40) ∧ (-1 ≤ x2.toInt ∧ x2.toInt ≤ 40) ∧ y_CM (y_at G (A 17)) (y_at G (A 18)) (y_fi G a0 19).toInt (y_c f1 387).toInt ∧ (x1.toInt < (y_c f1 387).toInt ∧ w12.toInt = (y_c f1 (8 * x1.toInt)).toInt)) (fun K31 => ?_) ?_
  · refine lv_iload_n hx hb dX7_goesFrom_0 rfl (lv_at hl 1 rfl) ?_
    refine lv_aload_n hx hb dX7_goesFrom_1 rfl (lv_at hl 0 rfl) ?_
    refine va_calli (va_runV (As := []) (rest := [.int x1]) ⟨hx, hb, hml, hown, hts⟩ (y_X7_lines l dC dI H.size hLK A hA F a0 ha0 hI) (cwV 0 hts (ax_gV T_1030 T_1032 T_1033 T_265 T_1031) rfl rfl rfl (by decide +kernel) ⟨Nat.le_of_ble_eq_true rfl, Nat.le_of_ble_eq_true rfl⟩) ⟨fun a U g mk q => ⟨q.1, s_pc (U := U) rfl rfl q.2⟩, s_recv hK hP (hLK _ ha0 (by decide)) (ci := 7) rfl oY0, fun U hU hW => ⟨rfl, s_pw hU hW hP hK hD hN⟩⟩ rfl rfl hl.1 rfl (lv_room (Nat.le_of_ble_eq_true rfl)) dX7_goesFrom_2 ⟨Nat.zero_le _, Nat.zero_le _⟩) hS (fun q _ h => h) (fun q h => h) (fun r14 F15 t H1 locs ht hvm hw hB hz1 hk1 hS => ?_)
    obtain ⟨hP, hK1⟩ := hB
    rw [ht] at hP
    generalize H1 = H at hP hS ⊢
    clear hz1 hk1 hvm hK1
    obtain ⟨h16, h18, hI, hfr1, hzf, h17⟩ := hw
    have o19 : F15 (A 13) = .inl (cs 0, 400, .inl f1) := (hfr1 _ (by rw [(y_k13 hA)]; decide)).trans o2
    have o20 : F15 (A 17) = .inl (cs 7, 41, .inl f4) := (hfr1 _ (by rw [(y_k17 hA)]; decide)).trans o5
    have o21 : F15 (A 18) = .inl (cs 0, 41, .inl f7) := (hfr1 _ (by rw [(y_k18 hA)]; decide)).trans o8
    have oY22 : F15 a0 = .inr (7, y_fl A z0 q0) := (hfr1 _ (by rw [ha0]; decide)).trans oY0
    have hfr : ∀ b, K b ∉ [9, 67, 68] → F15 b = F b := fun b hb9 => (hfr1 b (fun q => hb9 (s_sub (by decide) q))).trans (hfr b hb9)
    replace h17 : (r14 = y_c f1 387) := by have q9 := h17; rw [y_atE o2] at q9; exact q9
    have h23 := congrArg Int32.toInt h17
    have h24 : 1 ≤ r14.toInt ∧ r14.toInt ≤ 40 := ⟨by omega, by omega⟩
    refine lv_icmp_ne (tgt := 9) hx hb dX7_goesFrom_5 (by decide) (fun c25 => ?_) (fun c25 => ?_)
    · have c25 := mt Int32.toInt_inj.symm.mpr c25
      refine lv_aload_n hx hb dX7_goesFrom_9 rfl (lv_at hl 0 rfl) ?_
      refine lv_iload_n hx hb dX7_goesFrom_10 rfl (lv_at hl 1 rfl) ?_
      refine lv_iconst (v := 0) hx hb dX7_goesFrom_11 (by decide) ?_
      have rg26 : 0 ≤ x1.toInt ∧ x1.toInt ≤ 40 := ⟨by omega, by omega⟩
      refine va_calli (va_runV (As := [.int x1, .int 0]) (rest := []) ⟨hx, hb, hml, hown, hts⟩ (y_X7_of l dC dI H.size hLK A hA F15 a0 x1 0 ha0 rg26 (by decide) hI) (cwV 2 hts (ax_gV T_1131 T_1133 T_1134 T_265 T_1132) rfl rfl rfl (by decide +kernel) ⟨Nat.le_of_ble_eq_true rfl, Nat.le_of_ble_eq_true rfl⟩) ⟨fun a U g mk q => ⟨q.1, s_pc (U := U) rfl rfl q.2⟩, s_recv hK hP (hLK _ ha0 (by decide)) (ci := 7) rfl oY22, fun U hU hW => ⟨rfl, s_pw hU hW hP hK hD hN⟩⟩ rfl rfl hl.1 rfl (lv_room (Nat.le_of_ble_eq_true rfl)) dX7_goesFrom_12 ⟨Nat.zero_le _, Nat.zero_le _⟩) hS (fun q _ h => h) (fun q h => h) (fun r28 F29 t H1 locs ht hvm hw hB hz1 hk1 hS => ?_)
      obtain ⟨hP, hK1⟩ := hB
      rw [ht] at hP
      generalize H1 = H at hP hS ⊢
      clear hz1 hk1 hvm hK1
      obtain ⟨h30, h32, hI, hfr1, hzf, h31⟩ := hw
      have o33 : F29 (A 13) = .inl (cs 0, 400, .inl f1) := (hfr1 _ (by rw [(y_k13 hA)]; decide)).trans o19
      have o34 : F29 (A 17) = .inl (cs 7, 41, .inl f4) := (hfr1 _ (by rw [(y_k17 hA)]; decide)).trans o20
      have o35 : F29 (A 18) = .inl (cs 0, 41, .inl f7) := (hfr1 _ (by rw [(y_k18 hA)]; decide)).trans o21
      have oY36 : F29 a0 = .inr (7, y_fl A z0 q0) := (hfr1 _ (by rw [ha0]; decide)).trans oY22
      have hfr : ∀ b, K b ∉ [9, 67, 68] → F29 b = F b := fun b hb9 => (hfr1 b (fun q => hb9 (s_sub (by decide) q))).trans (hfr b hb9)
      replace h31 : (r28 = y_c f1 (8 * x1.toInt + 0)) := by have q9 := h31; rw [y_atE o19] at q9; exact q9
      have h31 : r28 = y_c f1 (8 * x1.toInt) := h31.trans (congrArg (y_c f1) (by omega))
      have h37 := congrArg Int32.toInt h31
      refine lv_istore_n (lv' := [(3, .int r28), (0, .ref a0), (1, .int x1), (2, .int x2)]) hx hb dX7_goesFrom_15 rfl hl (by decide) rfl (fun ls hl => ?_)
      refine lv_iload_n hx hb dX7_goesFrom_16 rfl (lv_at hl 0 rfl) ?_
      refine lv_bipush (v := 15) hx hb dX7_goesFrom_17 (by decide) ?_
      refine lv_icmp_ne (tgt := 31) hx hb dX7_goesFrom_19 (by decide) (fun c38 => ?_) (fun c38 => ?_)
      · have c38 := mt (ax_eq (n := 15) (by decide)).mpr c38
        exact K31 _ _ _ ⟨F29, _, r28, rfl, lv_sub hl [1, 2, 3, 0] rfl, hP, hS, hI, hfr, (fun k hk => (y_fiZ oY36 (s_sub (by decide) hk)).trans (hz0 k hk)), trivial, ⟨by omega, by omega⟩, ⟨by omega, by omega⟩, (by rw [y_atE o34, y_atE o35, y_fiZ oY36 (k := 19) (by decide), ← ev10]; exact hCM), (by omega)⟩
      · have c38 := (ax_eq (n := 15) (by decide)).mp c38
        refine lv_aload_n hx hb dX7_goesFrom_22 rfl (lv_at hl 1 rfl) ?_
        refine lv_aload_n hx hb dX7_goesFrom_23 rfl (lv_at hl 1 rfl) ?_
        refine va_calli (va_runV (As := []) (rest := [.ref a0]) ⟨hx, hb, hml, hown, hts⟩ (y_X7_lines l dC dI H.size hLK A hA F29 a0 ha0 hI) (cwV 0 hts (ax_gV T_1030 T_1032 T_1033 T_265 T_1031) rfl rfl rfl (by decide +kernel) ⟨Nat.le_of_ble_eq_true rfl, Nat.le_of_ble_eq_true rfl⟩) ⟨fun a U g mk q => ⟨q.1, s_pc (U := U) rfl rfl q.2⟩, s_recv hK hP (hLK _ ha0 (by decide)) (ci := 7) rfl oY36, fun U hU hW => ⟨rfl, s_pw hU hW hP hK hD hN⟩⟩ rfl rfl hl.1 rfl (lv_room (Nat.le_of_ble_eq_true rfl)) dX7_goesFrom_24 ⟨Nat.zero_le _, Nat.zero_le _⟩) hS (fun q _ h => h) (fun q h => h) (fun r40 F41 t H1 locs ht hvm hw hB hz1 hk1 hS => ?_)
        obtain ⟨hP, hK1⟩ := hB
        rw [ht] at hP
        generalize H1 = H at hP hS ⊢
        clear hz1 hk1 hvm hK1
        obtain ⟨h42, h44, hI, hfr1, hzf, h43⟩ := hw
        have o45 : F41 (A 13) = .inl (cs 0, 400, .inl f1) := (hfr1 _ (by rw [(y_k13 hA)]; decide)).trans o33
        have o46 : F41 (A 17) = .inl (cs 7, 41, .inl f4) := (hfr1 _ (by rw [(y_k17 hA)]; decide)).trans o34
        have o47 : F41 (A 18) = .inl (cs 0, 41, .inl f7) := (hfr1 _ (by rw [(y_k18 hA)]; decide)).trans o35
        have oY48 : F41 a0 = .inr (7, y_fl A z0 q0) := (hfr1 _ (by rw [ha0]; decide)).trans oY36
        have hfr : ∀ b, K b ∉ [9, 67, 68] → F41 b = F b := fun b hb9 => (hfr1 b (fun q => hb9 (s_sub (by decide) q))).trans (hfr b hb9)
        replace h43 : (r40 = y_c f1 387) := by have q9 := h43; rw [y_atE o33] at q9; exact q9
        have h49 := congrArg Int32.toInt h43
        have h50 : 1 ≤ r40.toInt ∧ r40.toInt ≤ 40 := ⟨by omega, by omega⟩
        refine lv_iload_n hx hb dX7_goesFrom_27 rfl (lv_at hl 3 rfl) ?_
        have rg51 : 0 ≤ r40.toInt ∧ r40.toInt ≤ 40 := ⟨by omega, by omega⟩
        have rg52 : -1 ≤ x2.toInt ∧ x2.toInt ≤ 40 := ⟨by omega, by omega⟩
        refine va_callv (va_runV (As := [.int r40, .int x2]) (rest := []) ⟨hx, hb, hml, hown, hts⟩ (y_X7_comesTo l dC dI H.size hLK A hA F41 a0 r40 x2 ha0 rg51 rg52 hI (by rw [y_atE o46, y_atE o47, y_fiZ oY48 (k := 19) (by decide), ← ev10, y_atE o45]; exact hCM) (by rw [y_atE o45]; first | omega | (have q9 := hP0.2.2 x1.toInt (by omega) (by omega) (by omega); omega))) (cwV 2 hts (ax_gV T_1175 T_1177 T_1178 T_265 T_1176) rfl rfl rfl (by decide +kernel) ⟨Nat.le_of_ble_eq_true rfl, Nat.le_of_ble_eq_true rfl⟩) ⟨fun a U g mk q => ⟨q.1, s_pc (U := U) rfl rfl q.2⟩, s_recv hK hP (hLK _ ha0 (by decide)) (ci := 7) rfl oY48, fun U hU hW => ⟨rfl, s_pw hU hW hP hK hD hN⟩⟩ rfl rfl hl.1 rfl (lv_room (Nat.le_of_ble_eq_true rfl)) dX7_goesFrom_28 ⟨Nat.zero_le _, Nat.zero_le _⟩) hS (fun q _ h => h) (fun q h => h) (fun F54 t H1 locs ht hvm hw hB hz1 hk1 hS => ?_)
        obtain ⟨hP, hK1⟩ := hB
        rw [ht] at hP
        generalize H1 = H at hP hS ⊢
        clear hz1 hk1 hvm hK1
        obtain ⟨h55, h57, hI, hfr1, hzf, h56⟩ := hw
        have o58 : F54 (A 13) = .inl (cs 0, 400, .inl f1) := (hfr1 _ (by rw [(y_k13 hA)]; decide)).trans o45
        obtain ⟨z59, q60, oY61, bz62, bq63⟩ := y_opY hI ha0
        have hzf : ∀ k, k ∈ ([1, 2, 3, 4, 5, 6, 7, 8, 11, 15, 16, 25, 26, 27, 31, 32] : List Nat) → z59 k = z0 k := fun k hk => by have q9 := hzf k hk; rw [y_fiZ oY61 (s_sub (by decide) hk), y_fiZ oY48 (s_sub (by decide) hk)] at q9; exact q9
        have hz0 : ∀ k, k ∈ ([1, 2, 3, 4, 5, 6, 7, 8, 11, 15, 16, 25, 26, 27, 31, 32] : List Nat) → z59 k = z0 k := fun k hk => (hzf k (s_sub (by decide) hk)).trans (hz0 k hk)
        have hfr : ∀ b, K b ∉ [9, 67, 68] → F54 b = F b := fun b hb9 => (hfr1 b (fun q => hb9 (s_sub (by decide) q))).trans (hfr b hb9)
        obtain ⟨f64, o65, b66⟩ := y_op17 hI
        obtain ⟨f67, o68, b69⟩ := y_op18 hI
        obtain ⟨v70, ev70⟩ : ∃ y : Int32, y = z59 19 := ⟨_, rfl⟩
        have qv70 : 0 ≤ v70.toInt ∧ v70.toInt ≤ 41 := by rw [ev70]; exact y_bY19 bz62
        replace h56 : (y_CM f64 f67 v70.toInt (y_c f1 387).toInt) := by have q9 := h56; rw [y_atE o65, y_atE o68, y_fiZ oY61 (k := 19) (by decide), ← ev70, y_atE o45] at q9; exact q9
        exact K31 _ _ _ ⟨F54, _, r28, rfl, lv_sub hl [1, 2, 3, 0] rfl, hP, hS, hI, hfr, (fun k hk => (y_fiZ oY61 (s_sub (by decide) hk)).trans (hz0 k hk)), trivial, ⟨by omega, by omega⟩, ⟨by omega, by omega⟩, (by rw [y_atE o65, y_atE o68, y_fiZ oY61 (k := 19) (by decide), ← ev70]; exact h56), (by omega)⟩
    · have c25 := Int32.toInt_inj.symm.mp c25
      exact W.vret hx hb hr (fun t ht hW => ⟨⟨F15, rfl, ⟨trivial, trivial, hI, hfr, fun k hk => (y_fiZ oY22 (s_sub (by decide) hk)).trans ((hz0 k hk).trans (y_fiZ oY0 (s_sub (by decide) hk)).symm), (by rw [y_atE o20, y_atE o21, y_fiZ oY22 (k := 19) (by decide), ← ev10, y_atE o2]; exact hCM)⟩, by rw [ht]; exact hP, va_K.moved hW.alike hK⟩, hS.F ht⟩) hS.2.2 dX7_goesFrom_8
  · intro g H locs hq
    obtain ⟨F76, ls, w12, rfl, hl, hP, hS, hI, hfr, hz0, h71, h72, h73, h74, h75⟩ := hq
    have o77 : F76 (A 13) = .inl (cs 0, 400, .inl f1) := (hfr _ (by rw [(y_k13 hA)]; decide)).trans o2
    obtain ⟨z78, q79, oY80, bz81, bq82⟩ := y_opY hI ha0
    have hz0 : ∀ k, k ∈ ([1, 2, 3, 4, 5, 6, 7, 8, 11, 15, 16, 25, 26, 27, 31, 32] : List Nat) → z78 k = z0 k := fun k hk => (y_fiZ oY80 (s_sub (by decide) hk)).symm.trans (hz0 k hk)
    obtain ⟨f83, o84, b85⟩ := y_op17 hI
    obtain ⟨f86, o87, b88⟩ := y_op18 hI
    obtain ⟨v89, ev89⟩ : ∃ y : Int32, y = z78 19 := ⟨_, rfl⟩
    have qv89 : 0 ≤ v89.toInt ∧ v89.toInt ≤ 41 := by rw [ev89]; exact y_bY19 bz81
    replace h74 : y_CM f83 f86 v89.toInt (y_c f1 387).toInt := by have q9 := h74; rw [y_atE o84, y_atE o87, y_fiZ oY80 (k := 19) (by decide), ← ev89] at q9; exact q9
    refine lv_iload_n hx hb dX7_goesFrom_31 rfl (lv_at hl 3 rfl) ?_
    refine lv_bipush (v := 12) hx hb dX7_goesFrom_32 (by decide) ?_
    refine lv_icmp_ne (tgt := 48) hx hb dX7_goesFrom_34 (by decide) (fun c90 => ?_) (fun c90 => ?_)
    · have c90 := mt (ax_eq (n := 12) (by decide)).mpr c90
      exact K48 _ _ _ ⟨F76, _, w12, rfl, lv_sub hl [0, 1, 2, 3] rfl, hP, hS, hI, hfr, (fun k hk => (y_fiZ oY80 (s_sub (by decide) hk)).trans (hz0 k hk)), trivial, ⟨by omega, by omega⟩, ⟨by omega, by omega⟩, (by rw [y_atE o84, y_atE o87, y_fiZ oY80 (k := 19) (by decide), ← ev89]; exact h74), (by omega)⟩
    · have c90 := (ax_eq (n := 12) (by decide)).mp c90
      refine lv_aload_n hx hb dX7_goesFrom_37 rfl (lv_at hl 0 rfl) ?_
      refine lv_aload_n hx hb dX7_goesFrom_38 rfl (lv_at hl 0 rfl) ?_
      refine lv_iload_n hx hb dX7_goesFrom_39 rfl (lv_at hl 1 rfl) ?_
      refine lv_iconst (v := 4) hx hb dX7_goesFrom_40 (by decide) ?_
      have rg91 : 0 ≤ x1.toInt ∧ x1.toInt ≤ 40 := ⟨by omega, by omega⟩
      refine va_calli (va_runV (As := [.int x1, .int 4]) (rest := [.ref a0]) ⟨hx, hb, hml, hown, hts⟩ (y_X7_of l dC dI H.size hLK A hA F76 a0 x1 4 ha0 rg91 (by decide) hI) (cwV 2 hts (ax_gV T_1131 T_1133 T_1134 T_265 T_1132) rfl rfl rfl (by decide +kernel) ⟨Nat.le_of_ble_eq_true rfl, Nat.le_of_ble_eq_true rfl⟩) ⟨fun a U g mk q => ⟨q.1, s_pc (U := U) rfl rfl q.2⟩, s_recv hK hP (hLK _ ha0 (by decide)) (ci := 7) rfl oY80, fun U hU hW => ⟨rfl, s_pw hU hW hP hK hD hN⟩⟩ rfl rfl hl.1 rfl (lv_room (Nat.le_of_ble_eq_true rfl)) dX7_goesFrom_41 ⟨Nat.zero_le _, Nat.zero_le _⟩) hS (fun q _ h => h) (fun q h => h) (fun r93 F94 t H1 locs ht hvm hw hB hz1 hk1 hS => ?_)
      obtain ⟨hP, hK1⟩ := hB
      rw [ht] at hP
      generalize H1 = H at hP hS ⊢
      clear hz1 hk1 hvm hK1
      obtain ⟨h95, h97, hI, hfr1, hzf, h96⟩ := hw
      have o98 : F94 (A 13) = .inl (cs 0, 400, .inl f1) := (hfr1 _ (by rw [(y_k13 hA)]; decide)).trans o77
      have o99 : F94 (A 17) = .inl (cs 7, 41, .inl f83) := (hfr1 _ (by rw [(y_k17 hA)]; decide)).trans o84
      have o100 : F94 (A 18) = .inl (cs 0, 41, .inl f86) := (hfr1 _ (by rw [(y_k18 hA)]; decide)).trans o87
      have oY101 : F94 a0 = .inr (7, y_fl A z78 q79) := (hfr1 _ (by rw [ha0]; decide)).trans oY80
      have hfr : ∀ b, K b ∉ [9, 67, 68] → F94 b = F b := fun b hb9 => (hfr1 b (fun q => hb9 (s_sub (by decide) q))).trans (hfr b hb9)
      replace h96 : (r93 = y_c f1 (8 * x1.toInt + 4)) := by have q9 := h96; rw [y_atE o77] at q9; exact q9
      have h96 : r93 = y_c f1 (8 * x1.toInt + 4) := h96.trans (congrArg (y_c f1) (by omega))
      have h102 := congrArg Int32.toInt h96
      have h103 : 0 ≤ r93.toInt ∧ r93.toInt ≤ 39 := by have q9 := hP0.2.2 x1.toInt (by omega) (by omega) (by omega); exact ⟨by omega, by omega⟩
      refine lv_iload_n hx hb dX7_goesFrom_44 rfl (lv_at hl 2 rfl) ?_
      have rg104 : 0 ≤ r93.toInt ∧ r93.toInt ≤ 40 := ⟨by omega, by omega⟩
      have rg105 : -1 ≤ x2.toInt ∧ x2.toInt ≤ 40 := ⟨by omega, by omega⟩
      refine va_callv (va_runV (As := [.int r93, .int x2]) (rest := []) ⟨hx, hb, hml, hown, hts⟩ (y_X7_comesTo l dC dI H.size hLK A hA F94 a0 r93 x2 ha0 rg104 rg105 hI (by rw [y_atE o99, y_atE o100, y_fiZ oY101 (k := 19) (by decide), ← ev89, y_atE o98]; exact h74) (by rw [y_atE o98]; first | omega | (have q9 := hP0.2.2 x1.toInt (by omega) (by omega) (by omega); omega))) (cwV 2 hts (ax_gV T_1175 T_1177 T_1178 T_265 T_1176) rfl rfl rfl (by decide +kernel) ⟨Nat.le_of_ble_eq_true rfl, Nat.le_of_ble_eq_true rfl⟩) ⟨fun a U g mk q => ⟨q.1, s_pc (U := U) rfl rfl q.2⟩, s_recv hK hP (hLK _ ha0 (by decide)) (ci := 7) rfl oY101, fun U hU hW => ⟨rfl, s_pw hU hW hP hK hD hN⟩⟩ rfl rfl hl.1 rfl (lv_room (Nat.le_of_ble_eq_true rfl)) dX7_goesFrom_45 ⟨Nat.zero_le _, Nat.zero_le _⟩) hS (fun q _ h => h) (fun q h => h) (fun F107 t H1 locs ht hvm hw hB hz1 hk1 hS => ?_)
      obtain ⟨hP, hK1⟩ := hB
      rw [ht] at hP
      generalize H1 = H at hP hS ⊢
      clear hz1 hk1 hvm hK1
      obtain ⟨h108, h110, hI, hfr1, hzf, h109⟩ := hw
      have o111 : F107 (A 13) = .inl (cs 0, 400, .inl f1) := (hfr1 _ (by rw [(y_k13 hA)]; decide)).trans o98
      obtain ⟨z112, q113, oY114, bz115, bq116⟩ := y_opY hI ha0
      have hzf : ∀ k, k ∈ ([1, 2, 3, 4, 5, 6, 7, 8, 11, 15, 16, 25, 26, 27, 31, 32] : List Nat) → z112 k = z78 k := fun k hk => by have q9 := hzf k hk; rw [y_fiZ oY114 (s_sub (by decide) hk), y_fiZ oY101 (s_sub (by decide) hk)] at q9; exact q9
      have hz0 : ∀ k, k ∈ ([1, 2, 3, 4, 5, 6, 7, 8, 11, 15, 16, 25, 26, 27, 31, 32] : List Nat) → z112 k = z0 k := fun k hk => (hzf k (s_sub (by decide) hk)).trans (hz0 k hk)
      have hfr : ∀ b, K b ∉ [9, 67, 68] → F107 b = F b := fun b hb9 => (hfr1 b (fun q => hb9 (s_sub (by decide) q))).trans (hfr b hb9)
      obtain ⟨f117, o118, b119⟩ := y_op17 hI
      obtain ⟨f120, o121, b122⟩ := y_op18 hI
      obtain ⟨v123, ev123⟩ : ∃ y : Int32, y = z112 19 := ⟨_, rfl⟩
      have qv123 : 0 ≤ v123.toInt ∧ v123.toInt ≤ 41 := by rw [ev123]; exact y_bY19 bz115
      replace h109 : (y_CM f117 f120 v123.toInt (y_c f1 387).toInt) := by have q9 := h109; rw [y_atE o118, y_atE o121, y_fiZ oY114 (k := 19) (by decide), ← ev123, y_atE o98] at q9; exact q9
      exact K48 _ _ _ ⟨F107, _, w12, rfl, lv_sub hl [0, 1, 2, 3] rfl, hP, hS, hI, hfr, (fun k hk => (y_fiZ oY114 (s_sub (by decide) hk)).trans (hz0 k hk)), trivial, ⟨by omega, by omega⟩, ⟨by omega, by omega⟩, (by rw [y_atE o118, y_atE o121, y_fiZ oY114 (k := 19) (by decide), ← ev123]; exact h109), (by omega)⟩
  · intro g H locs hq
    obtain ⟨F129, ls, w11, rfl, hl, hP, hS, hI, hfr, hz0, h124, h125, h126, h127, h128⟩ := hq
    have o130 : F129 (A 13) = .inl (cs 0, 400, .inl f1) := (hfr _ (by rw [(y_k13 hA)]; decide)).trans o2
    obtain ⟨z131, q132, oY133, bz134, bq135⟩ := y_opY hI ha0
    have hz0 : ∀ k, k ∈ ([1, 2, 3, 4, 5, 6, 7, 8, 11, 15, 16, 25, 26, 27, 31, 32] : List Nat) → z131 k = z0 k := fun k hk => (y_fiZ oY133 (s_sub (by decide) hk)).symm.trans (hz0 k hk)
    obtain ⟨f136, o137, b138⟩ := y_op17 hI
    obtain ⟨f139, o140, b141⟩ := y_op18 hI
    obtain ⟨v142, ev142⟩ : ∃ y : Int32, y = z131 19 := ⟨_, rfl⟩
    have qv142 : 0 ≤ v142.toInt ∧ v142.toInt ≤ 41 := by rw [ev142]; exact y_bY19 bz134
    replace h127 : y_CM f136 f139 v142.toInt (y_c f1 387).toInt := by have q9 := h127; rw [y_atE o137, y_atE o140, y_fiZ oY133 (k := 19) (by decide), ← ev142] at q9; exact q9
    refine lv_iload_n hx hb dX7_goesFrom_48 rfl (lv_at hl 3 rfl) ?_
    refine lv_bipush (v := 15) hx hb dX7_goesFrom_49 (by decide) ?_
    refine lv_icmp_eq (tgt := 76) hx hb dX7_goesFrom_51 (by decide) (fun c143 => ?_) (fun c143 => ?_)
    · have c143 := (ax_eq (n := 15) (by decide)).mp c143
      exact W.vret hx hb hr (fun t ht hW => ⟨⟨F129, rfl, ⟨trivial, trivial, hI, hfr, fun k hk => (y_fiZ oY133 (s_sub (by decide) hk)).trans ((hz0 k hk).trans (y_fiZ oY0 (s_sub (by decide) hk)).symm), (by rw [y_atE o137, y_atE o140, y_fiZ oY133 (k := 19) (by decide), ← ev142, y_atE o2]; exact h127)⟩, by rw [ht]; exact hP, va_K.moved hW.alike hK⟩, hS.F ht⟩) hS.2.2 dX7_goesFrom_76
    · have c143 := mt (ax_eq (n := 15) (by decide)).mpr c143
      refine lv_iload_n hx hb dX7_goesFrom_54 rfl (lv_at hl 3 rfl) ?_
      refine lv_bipush (v := 12) hx hb dX7_goesFrom_55 (by decide) ?_
      refine lv_icmp_ne (tgt := 68) hx hb dX7_goesFrom_57 (by decide) (fun c144 => ?_) (fun c144 => ?_)
      · have c144 := mt (ax_eq (n := 12) (by decide)).mpr c144
        exact K68 _ _ _ ⟨F129, _, rfl, lv_sub hl [0, 1, 2] rfl, hP, hS, hI, hfr, (fun k hk => (y_fiZ oY133 (s_sub (by decide) hk)).trans (hz0 k hk)), ⟨by omega, by omega⟩, ⟨by omega, by omega⟩, (by rw [y_atE o137, y_atE o140, y_fiZ oY133 (k := 19) (by decide), ← ev142]; exact h127), (by omega)⟩
      · have c144 := (ax_eq (n := 12) (by decide)).mp c144
        refine lv_aload_n hx hb dX7_goesFrom_60 rfl (lv_at hl 0 rfl) ?_
        refine lv_iload_n hx hb dX7_goesFrom_61 rfl (lv_at hl 1 rfl) ?_
        have rg145 : 0 ≤ x1.toInt ∧ x1.toInt ≤ 40 := ⟨by omega, by omega⟩
        refine va_calli (va_runV (As := [.int x1]) (rest := []) ⟨hx, hb, hml, hown, hts⟩ (y_X7_isFork l dC dI H.size hLK A hA F129 a0 x1 ha0 rg145 hI) (cwV 1 hts (ax_gV T_1179 T_1181 T_1182 T_265 T_1180) rfl rfl rfl (by decide +kernel) ⟨Nat.le_of_ble_eq_true rfl, Nat.le_of_ble_eq_true rfl⟩) ⟨fun a U g mk q => ⟨q.1, s_pc (U := U) rfl rfl q.2⟩, s_recv hK hP (hLK _ ha0 (by decide)) (ci := 7) rfl oY133, fun U hU hW => ⟨rfl, s_pw hU hW hP hK hD hN⟩⟩ rfl rfl hl.1 rfl (lv_room (Nat.le_of_ble_eq_true rfl)) dX7_goesFrom_62 ⟨Nat.zero_le _, Nat.zero_le _⟩) hS (fun q _ h => h) (fun q h => h) (fun r147 F148 t H1 locs ht hvm hw hB hz1 hk1 hS => ?_)
        obtain ⟨hP, hK1⟩ := hB
        rw [ht] at hP
        generalize H1 = H at hP hS ⊢
        clear hz1 hk1 hvm hK1
        obtain ⟨h149, h151, hI, hfr1, hzf, h150⟩ := hw
        have o152 : F148 (A 13) = .inl (cs 0, 400, .inl f1) := (hfr1 _ (by rw [(y_k13 hA)]; decide)).trans o130
        have o153 : F148 (A 17) = .inl (cs 7, 41, .inl f136) := (hfr1 _ (by rw [(y_k17 hA)]; decide)).trans o137
        have o154 : F148 (A 18) = .inl (cs 0, 41, .inl f139) := (hfr1 _ (by rw [(y_k18 hA)]; decide)).trans o140
        have oY155 : F148 a0 = .inr (7, y_fl A z131 q132) := (hfr1 _ (by rw [ha0]; decide)).trans oY133
        have hfr : ∀ b, K b ∉ [9, 67, 68] → F148 b = F b := fun b hb9 => (hfr1 b (fun q => hb9 (s_sub (by decide) q))).trans (hfr b hb9)
        replace h150 : ((r147.toInt = 1 ∧ (y_c f1 (8 * x1.toInt)).toInt = 12 ∧ ¬ (y_c f1 (8 * x1.toInt + 5)).toInt = -1000000) ∨ (r147.toInt = 0 ∧ (¬ (y_c f1 (8 * x1.toInt)).toInt = 12 ∨ (y_c f1 (8 * x1.toInt + 5)).toInt = -1000000))) := by have q9 := h150; rw [y_atE o130] at q9; exact q9
        refine lv_if_eq (tgt := 76) hx hb dX7_goesFrom_65 (by decide) (fun c156 => ?_) (fun c156 => ?_)
        · have c156 := (ax_eq (n := 0) (by decide)).mp c156
          exact W.vret hx hb hr (fun t ht hW => ⟨⟨F148, rfl, ⟨trivial, trivial, hI, hfr, fun k hk => (y_fiZ oY155 (s_sub (by decide) hk)).trans ((hz0 k hk).trans (y_fiZ oY0 (s_sub (by decide) hk)).symm), (by rw [y_atE o153, y_atE o154, y_fiZ oY155 (k := 19) (by decide), ← ev142, y_atE o2]; exact h127)⟩, by rw [ht]; exact hP, va_K.moved hW.alike hK⟩, hS.F ht⟩) hS.2.2 dX7_goesFrom_76
        · have c156 := mt (ax_eq (n := 0) (by decide)).mpr c156
          exact K68 _ _ _ ⟨F148, _, rfl, lv_sub hl [0, 1, 2] rfl, hP, hS, hI, hfr, (fun k hk => (y_fiZ oY155 (s_sub (by decide) hk)).trans (hz0 k hk)), ⟨by omega, by omega⟩, ⟨by omega, by omega⟩, (by rw [y_atE o153, y_atE o154, y_fiZ oY155 (k := 19) (by decide), ← ev142]; exact h127), (by omega)⟩
  · intro g H locs hq
    obtain ⟨F161, ls, rfl, hl, hP, hS, hI, hfr, hz0, h157, h158, h159, h160⟩ := hq
    have o162 : F161 (A 13) = .inl (cs 0, 400, .inl f1) := (hfr _ (by rw [(y_k13 hA)]; decide)).trans o2
    obtain ⟨z163, q164, oY165, bz166, bq167⟩ := y_opY hI ha0
    have hz0 : ∀ k, k ∈ ([1, 2, 3, 4, 5, 6, 7, 8, 11, 15, 16, 25, 26, 27, 31, 32] : List Nat) → z163 k = z0 k := fun k hk => (y_fiZ oY165 (s_sub (by decide) hk)).symm.trans (hz0 k hk)
    obtain ⟨f168, o169, b170⟩ := y_op17 hI
    obtain ⟨f171, o172, b173⟩ := y_op18 hI
    obtain ⟨v174, ev174⟩ : ∃ y : Int32, y = z163 19 := ⟨_, rfl⟩
    have qv174 : 0 ≤ v174.toInt ∧ v174.toInt ≤ 41 := by rw [ev174]; exact y_bY19 bz166
    replace h159 : y_CM f168 f171 v174.toInt (y_c f1 387).toInt := by have q9 := h159; rw [y_atE o169, y_atE o172, y_fiZ oY165 (k := 19) (by decide), ← ev174] at q9; exact q9
    refine lv_aload_n hx hb dX7_goesFrom_68 rfl (lv_at hl 0 rfl) ?_
    refine lv_iload_n hx hb dX7_goesFrom_69 rfl (lv_at hl 1 rfl) ?_
    refine lv_iconst (v := 1) hx hb dX7_goesFrom_70 (by decide) ?_
    refine lv_iadd hx hb dX7_goesFrom_71 ?_
    refine lv_topi (fun v175 ev175 => ?_)
    have qv175 : v175.toInt = x1.toInt + 1 := by rw [ev175]; exact th_add rfl (by decide) ⟨by omega, by omega⟩
    refine lv_iload_n hx hb dX7_goesFrom_72 rfl (lv_at hl 2 rfl) ?_
    have rg176 : 0 ≤ v175.toInt ∧ v175.toInt ≤ 40 := ⟨by omega, by omega⟩
    have rg177 : -1 ≤ x2.toInt ∧ x2.toInt ≤ 40 := ⟨by omega, by omega⟩
    refine va_callv (va_runV (As := [.int v175, .int x2]) (rest := []) ⟨hx, hb, hml, hown, hts⟩ (y_X7_comesTo l dC dI H.size hLK A hA F161 a0 v175 x2 ha0 rg176 rg177 hI (by rw [y_atE o169, y_atE o172, y_fiZ oY165 (k := 19) (by decide), ← ev174, y_atE o162]; exact h159) (by rw [y_atE o162]; first | omega | (have q9 := hP0.2.2 x1.toInt (by omega) (by omega) (by omega); omega))) (cwV 2 hts (ax_gV T_1175 T_1177 T_1178 T_265 T_1176) rfl rfl rfl (by decide +kernel) ⟨Nat.le_of_ble_eq_true rfl, Nat.le_of_ble_eq_true rfl⟩) ⟨fun a U g mk q => ⟨q.1, s_pc (U := U) rfl rfl q.2⟩, s_recv hK hP (hLK _ ha0 (by decide)) (ci := 7) rfl oY165, fun U hU hW => ⟨rfl, s_pw hU hW hP hK hD hN⟩⟩ rfl rfl hl.1 rfl (lv_room (Nat.le_of_ble_eq_true rfl)) dX7_goesFrom_73 ⟨Nat.zero_le _, Nat.zero_le _⟩) hS (fun q _ h => h) (fun q h => h) (fun F179 t H1 locs ht hvm hw hB hz1 hk1 hS => ?_)
    obtain ⟨hP, hK1⟩ := hB
    rw [ht] at hP
    generalize H1 = H at hP hS ⊢
    clear hz1 hk1 hvm hK1
    obtain ⟨h180, h182, hI, hfr1, hzf, h181⟩ := hw
    have o183 : F179 (A 13) = .inl (cs 0, 400, .inl f1) := (hfr1 _ (by rw [(y_k13 hA)]; decide)).trans o162
    obtain ⟨z184, q185, oY186, bz187, bq188⟩ := y_opY hI ha0
    have hzf : ∀ k, k ∈ ([1, 2, 3, 4, 5, 6, 7, 8, 11, 15, 16, 25, 26, 27, 31, 32] : List Nat) → z184 k = z163 k := fun k hk => by have q9 := hzf k hk; rw [y_fiZ oY186 (s_sub (by decide) hk), y_fiZ oY165 (s_sub (by decide) hk)] at q9; exact q9
    have hz0 : ∀ k, k ∈ ([1, 2, 3, 4, 5, 6, 7, 8, 11, 15, 16, 25, 26, 27, 31, 32] : List Nat) → z184 k = z0 k := fun k hk => (hzf k (s_sub (by decide) hk)).trans (hz0 k hk)
    have hfr : ∀ b, K b ∉ [9, 67, 68] → F179 b = F b := fun b hb9 => (hfr1 b (fun q => hb9 (s_sub (by decide) q))).trans (hfr b hb9)
    obtain ⟨f189, o190, b191⟩ := y_op17 hI
    obtain ⟨f192, o193, b194⟩ := y_op18 hI
    obtain ⟨v195, ev195⟩ : ∃ y : Int32, y = z184 19 := ⟨_, rfl⟩
    have qv195 : 0 ≤ v195.toInt ∧ v195.toInt ≤ 41 := by rw [ev195]; exact y_bY19 bz187
    replace h181 : (y_CM f189 f192 v195.toInt (y_c f1 387).toInt) := by have q9 := h181; rw [y_atE o190, y_atE o193, y_fiZ oY186 (k := 19) (by decide), ← ev195, y_atE o162] at q9; exact q9
    exact W.vret hx hb hr (fun t ht hW => ⟨⟨F179, rfl, ⟨trivial, trivial, hI, hfr, fun k hk => (y_fiZ oY186 (s_sub (by decide) hk)).trans ((hz0 k hk).trans (y_fiZ oY0 (s_sub (by decide) hk)).symm), (by rw [y_atE o190, y_atE o193, y_fiZ oY186 (k := 19) (by decide), ← ev195, y_atE o2]; exact h181)⟩, by rw [ht]; exact hP, va_K.moved hW.alike hK⟩, hS.F ht⟩) hS.2.2 dX7_goesFrom_76
