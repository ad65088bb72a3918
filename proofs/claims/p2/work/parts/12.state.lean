set_option maxHeartbeats 4000000 in
set_option maxRecDepth 100000 in
theorem s_X4_lay (l : Launch) (dC : Nat → ClassId) (dI : Nat → Nat → Nat) (sz : Nat) {L : List Nat} {K : Nat → Nat} {cs : Nat → ClassId} (hLK : ∀ a {k : Nat}, K a = k → k ≠ 0 → a ∈ L) (D : Nat) (F : Nat → va_E) (a0 : Nat) (x1 : Int32) (x2 : Int32) (x3 : Int32) (ha0 : K a0 = 5) (hx1 : 0 ≤ x1.toInt ∧ x1.toInt ≤ 1) (hx2 : 0 ≤ x2.toInt ∧ x2.toInt ≤ 1) (hx3 : 0 ≤ x3.toInt ∧ x3.toInt ≤ 3) (hI : s_I K cs D F) : Met l yX4_lay (Cond.code yX4_lay cX4_lay 4 none :: T0) ({ frames := 0, cells := 0, slots := 0, locals := 0 }) (va_Pc [.ref a0, .int x1, .int x2, .int x3] (s_W dC dI sz L F [(cs 0, .int), (cs 1, .byte), (cs 2, .long), (cs 3, .object RX5), (cs 4, .object RX4), (cs 5, .array .int), (cs 6, .char), (cs 7, .boolean)])) (va_Qv (fun (G : Nat → va_E) => True ∧ True ∧ s_I K cs D G ∧ ∀ b, K b ∉ [5] → G b = F b) (fun (G : Nat → va_E) (t : State) => va_P (dC, dI) vwCl (va_pl L G) t.heap ∧ va_K (dC, dI) vwCl [(cs 0, .int), (cs 1, .byte), (cs 2, .long), (cs 3, .object RX5), (cs 4, .object RX4), (cs 5, .array .int), (cs 6, .char), (cs 7, .boolean)] t) (fun q => q ∈ L)) 0 0 (fun q => q ∈ L) := by
  refine Met.ofW (cc := cX4_lay) (maxL := 4) (ret := none) (by decide) rfl ?_
  intro p e s m args below meth c s₁ B hml hv
  obtain ⟨rfl, hsz, hP, hK, hD, hN⟩ := hv
  have hx := B.exec
  have hb := B.bytes
  have hr := B.returns
  have hts : ∀ w ∈ T0, w.before _ s = true := fun w h => atoms_spec (ws := Cond.code yX4_lay cX4_lay 4 none :: T0) B.pre w (List.mem_cons_of_mem _ h)
  have hown : s.vm.findClass RX4 = some m.cls := findClass_of_methodNamed B.named
  have hlocks := B.notSynchronized
  have hS : va_S (fun q => q ∈ L) s.heap s.heap [] := va_S.rf
  have hfr : ∀ b, K b ∉ [5] → F b = F b := fun _ _ => rfl
  have hl := lv_entry ([.ref a0, .int x1, .int x2, .int x3]) (n := 4) (Nat.le_of_ble_eq_true rfl)
  rw [lg_entry_eq]
  generalize (lg_sl ([.ref a0, .int x1, .int x2, .int x3]) ++ List.replicate (4 - (lg_sl ([.ref a0, .int x1, .int x2, .int x3])).length) Slot.unset).toArray = ls at hl ⊢
  have hl : lv_has ls 4 [(0, .ref a0), (1, .int x1), (2, .int x2), (3, .int x3)] := hl
  refine s_gen hP hS (fun H locs hP hS => ?_)
  refine lv_aload_n hx hb dX4_lay_0 rfl (lv_at hl 0 rfl) ?_
  refine lv_iload_n hx hb dX4_lay_1 rfl (lv_at hl 1 rfl) ?_
  obtain ⟨z1, z3, z5, z7, z9, z11, z13, z15, z17, z19, z21, z23, z24, z26, z27, o29, h2, h4, h6, h8, h10, h12, h14, h16, h18, h20, h22, h25, h28, -⟩ := s_op5 hI ha0
  refine th_put (D := (dC, dI)) (ci := 4) (v := .int x1) (ty := .int) (C := RX4) (T := TX4) (N := 15) hx hb hts inX4 tyX4 tyX4_ok nmX4 hown hK hP hD hS (hLK _ ha0 (by decide)) o29 rfl 8 (by decide) (hts _ T_838) (fun _ h9 => h9) rfl (by decide +kernel) rfl rfl (Nat.le_of_ble_eq_true rfl) dX4_lay_2 (fun H locs hP hS => ?_)
  have hP : va_P (dC, dI) vwCl (va_pl L (va_up F a0 (.inr (4, [.ref z1, .ref z3, .ref z5, .ref z7, .ref z9, .ref z11, .ref z13, .int z15, .int x1, .int z19, .int z21, .int z23, .int z24, .int z26, .int z27])))) H := hP
  obtain ⟨F30, hF31⟩ : ∃ G : Nat → va_E, G = va_up F a0 (.inr (4, [.ref z1, .ref z3, .ref z5, .ref z7, .ref z9, .ref z11, .ref z13, .int z15, .int x1, .int z19, .int z21, .int z23, .int z24, .int z26, .int z27])) := ⟨_, rfl⟩
  rw [← hF31] at hP
  have hI : s_I K cs D F30 := by rw [hF31]; exact s_cl5 hI ha0 ⟨z1, z3, z5, z7, z9, z11, z13, z15, x1, z19, z21, z23, z24, z26, z27, rfl, h2, h4, h6, h8, h10, h12, h14, ⟨by omega, by omega⟩, ⟨by omega, by omega⟩, ⟨by omega, by omega⟩, ⟨by omega, by omega⟩, ⟨by omega, by omega⟩, ⟨by omega, by omega⟩, trivial⟩
  have hfr : ∀ b, K b ∉ [5] → F30 b = F b := by rw [hF31]; exact s_fr hfr ha0 (by decide)
  have o32 : F30 a0 = .inr (4, [.ref z1, .ref z3, .ref z5, .ref z7, .ref z9, .ref z11, .ref z13, .int z15, .int x1, .int z19, .int z21, .int z23, .int z24, .int z26, .int z27]) := by rw [hF31]; exact th_up
  refine lv_aload_n hx hb dX4_lay_5 rfl (lv_at hl 0 rfl) ?_
  refine lv_iload_n hx hb dX4_lay_6 rfl (lv_at hl 2 rfl) ?_
  refine th_put (D := (dC, dI)) (ci := 4) (v := .int x2) (ty := .int) (C := RX4) (T := TX4) (N := 15) hx hb hts inX4 tyX4 tyX4_ok nmX4 hown hK hP hD hS (hLK _ ha0 (by decide)) o32 rfl 9 (by decide) (hts _ T_841) (fun _ h9 => h9) rfl (by decide +kernel) rfl rfl (Nat.le_of_ble_eq_true rfl) dX4_lay_7 (fun H locs hP hS => ?_)
  have hP : va_P (dC, dI) vwCl (va_pl L (va_up F30 a0 (.inr (4, [.ref z1, .ref z3, .ref z5, .ref z7, .ref z9, .ref z11, .ref z13, .int z15, .int x1, .int x2, .int z21, .int z23, .int z24, .int z26, .int z27])))) H := hP
  obtain ⟨F33, hF34⟩ : ∃ G : Nat → va_E, G = va_up F30 a0 (.inr (4, [.ref z1, .ref z3, .ref z5, .ref z7, .ref z9, .ref z11, .ref z13, .int z15, .int x1, .int x2, .int z21, .int z23, .int z24, .int z26, .int z27])) := ⟨_, rfl⟩
  rw [← hF34] at hP
  have hI : s_I K cs D F33 := by rw [hF34]; exact s_cl5 hI ha0 ⟨z1, z3, z5, z7, z9, z11, z13, z15, x1, x2, z21, z23, z24, z26, z27, rfl, h2, h4, h6, h8, h10, h12, h14, ⟨by omega, by omega⟩, ⟨by omega, by omega⟩, ⟨by omega, by omega⟩, ⟨by omega, by omega⟩, ⟨by omega, by omega⟩, ⟨by omega, by omega⟩, trivial⟩
  have hfr : ∀ b, K b ∉ [5] → F33 b = F b := by rw [hF34]; exact s_fr hfr ha0 (by decide)
  have o35 : F33 a0 = .inr (4, [.ref z1, .ref z3, .ref z5, .ref z7, .ref z9, .ref z11, .ref z13, .int z15, .int x1, .int x2, .int z21, .int z23, .int z24, .int z26, .int z27]) := by rw [hF34]; exact th_up
  refine lv_aload_n hx hb dX4_lay_10 rfl (lv_at hl 0 rfl) ?_
  refine lv_iload_n hx hb dX4_lay_11 rfl (lv_at hl 3 rfl) ?_
  refine th_put (D := (dC, dI)) (ci := 4) (v := .int x3) (ty := .int) (C := RX4) (T := TX4) (N := 15) hx hb hts inX4 tyX4 tyX4_ok nmX4 hown hK hP hD hS (hLK _ ha0 (by decide)) o35 rfl 10 (by decide) (hts _ T_842) (fun _ h9 => h9) rfl (by decide +kernel) rfl rfl (Nat.le_of_ble_eq_true rfl) dX4_lay_12 (fun H locs hP hS => ?_)
  have hP : va_P (dC, dI) vwCl (va_pl L (va_up F33 a0 (.inr (4, [.ref z1, .ref z3, .ref z5, .ref z7, .ref z9, .ref z11, .ref z13, .int z15, .int x1, .int x2, .int x3, .int z23, .int z24, .int z26, .int z27])))) H := hP
  obtain ⟨F36, hF37⟩ : ∃ G : Nat → va_E, G = va_up F33 a0 (.inr (4, [.ref z1, .ref z3, .ref z5, .ref z7, .ref z9, .ref z11, .ref z13, .int z15, .int x1, .int x2, .int x3, .int z23, .int z24, .int z26, .int z27])) := ⟨_, rfl⟩
  rw [← hF37] at hP
  have hI : s_I K cs D F36 := by rw [hF37]; exact s_cl5 hI ha0 ⟨z1, z3, z5, z7, z9, z11, z13, z15, x1, x2, x3, z23, z24, z26, z27, rfl, h2, h4, h6, h8, h10, h12, h14, ⟨by omega, by omega⟩, ⟨by omega, by omega⟩, ⟨by omega, by omega⟩, ⟨by omega, by omega⟩, ⟨by omega, by omega⟩, ⟨by omega, by omega⟩, trivial⟩
  have hfr : ∀ b, K b ∉ [5] → F36 b = F b := by rw [hF37]; exact s_fr hfr ha0 (by decide)
  have o38 : F36 a0 = .inr (4, [.ref z1, .ref z3, .ref z5, .ref z7, .ref z9, .ref z11, .ref z13, .int z15, .int x1, .int x2, .int x3, .int z23, .int z24, .int z26, .int z27]) := by rw [hF37]; exact th_up
  exact W.vret hx hb hr (fun t ht hW => ⟨⟨F36, rfl, ⟨trivial, trivial, hI, hfr⟩, by rw [ht]; exact hP, va_K.moved hW.alike hK⟩, hS.F ht⟩) hS.2.2 dX4_lay_15

set_option maxHeartbeats 4000000 in
set_option maxRecDepth 100000 in
theorem s_X4_restart (l : Launch) (dC : Nat → ClassId) (dI : Nat → Nat → Nat) (sz : Nat) {L : List Nat} {K : Nat → Nat} {cs : Nat → ClassId} (hLK : ∀ a {k : Nat}, K a = k → k ≠ 0 → a ∈ L) (D : Nat) (F : Nat → va_E) (a0 : Nat) (a1 : Nat) (ha0 : K a0 = 5) (ha1 : K a1 = 3) (hI : s_I K cs D F) : Met l yX4_restart (Cond.code yX4_restart cX4_restart 3 none :: T0) ({ frames := 2, cells := 0, slots := 0, locals := 60 }) (va_Pc [.ref a0, .ref a1] (s_W dC dI sz L F [(cs 0, .int), (cs 1, .byte), (cs 2, .long), (cs 3, .object RX5), (cs 4, .object RX4), (cs 5, .array .int), (cs 6, .char), (cs 7, .boolean)])) (va_Qv (fun (G : Nat → va_E) => True ∧ True ∧ s_I K cs D G ∧ ∀ b, K b ∉ [5, 6, 24, 27, 28, 30, 31, 32] → G b = F b) (fun (G : Nat → va_E) (t : State) => va_P (dC, dI) vwCl (va_pl L G) t.heap ∧ va_K (dC, dI) vwCl [(cs 0, .int), (cs 1, .byte), (cs 2, .long), (cs 3, .object RX5), (cs 4, .object RX4), (cs 5, .array .int), (cs 6, .char), (cs 7, .boolean)] t) (fun q => q ∈ L)) 0 0 (fun q => q ∈ L) := by
  refine Met.ofW (cc := cX4_restart) (maxL := 3) (ret := none) (by decide) rfl ?_
  intro p e s m args below meth c s₁ B hml hv
  obtain ⟨rfl, hsz, hP, hK, hD, hN⟩ := hv
  have hx := B.exec
  have hb := B.bytes
  have hr := B.returns
  have hts : ∀ w ∈ T0, w.before _ s = true := fun w h => atoms_spec (ws := Cond.code yX4_restart cX4_restart 3 none :: T0) B.pre w (List.mem_cons_of_mem _ h)
  have hown : s.vm.findClass RX4 = some m.cls := findClass_of_methodNamed B.named
  have hlocks := B.notSynchronized
  have hS : va_S (fun q => q ∈ L) s.heap s.heap [] := va_S.rf
  have hfr : ∀ b, K b ∉ [5, 6, 24, 27, 28, 30, 31, 32] → F b = F b := fun _ _ => rfl
  have hl := lv_entry ([.ref a0, .ref a1]) (n := 3) (Nat.le_of_ble_eq_true rfl)
  rw [lg_entry_eq]
  generalize (lg_sl ([.ref a0, .ref a1]) ++ List.replicate (3 - (lg_sl ([.ref a0, .ref a1])).length) Slot.unset).toArray = ls at hl ⊢
  have hl : lv_has ls 3 [(0, .ref a0), (1, .ref a1)] := hl
  refine s_gen hP hS (fun H locs hP hS => ?_)
  refine lv_aload_n hx hb dX4_restart_0 rfl (lv_at hl 0 rfl) ?_
  refine lv_aload_n hx hb dX4_restart_1 rfl (lv_at hl 1 rfl) ?_
  obtain ⟨z1, z3, z5, z7, z9, z11, z12, o13, h2, h4, h6, h8, h10, -⟩ := s_op3 hI ha1
  refine th_getN (D := (dC, dI)) (ci := 2) (v := .int z9) (C := RX2) (T := TX2) (N := 7) hx hb hts inX2 hown hK hP (hLK _ ha1 (by decide)) o13 rfl 4 (by decide) (va_Nw.use rfl (ax_n48 hN)) (fun _ h9 => h9) rfl dX4_restart_2 ?_
  obtain ⟨z14, z16, z18, z20, z22, z24, z26, z28, z30, z32, z34, z36, z37, z39, z40, o42, h15, h17, h19, h21, h23, h25, h27, h29, h31, h33, h35, h38, h41, -⟩ := s_op5 hI ha0
  refine th_put (D := (dC, dI)) (ci := 4) (v := .int z9) (ty := .int) (C := RX4) (T := TX4) (N := 15) hx hb hts inX4 tyX4 tyX4_ok nmX4 hown hK hP hD hS (hLK _ ha0 (by decide)) o42 rfl 7 (by decide) (hts _ T_840) (fun _ h9 => h9) rfl (by decide +kernel) rfl rfl (Nat.le_of_ble_eq_true rfl) dX4_restart_5 (fun H locs hP hS => ?_)
  have hP : va_P (dC, dI) vwCl (va_pl L (va_up F a0 (.inr (4, [.ref z14, .ref z16, .ref z18, .ref z20, .ref z22, .ref z24, .ref z26, .int z9, .int z30, .int z32, .int z34, .int z36, .int z37, .int z39, .int z40])))) H := hP
  obtain ⟨F43, hF44⟩ : ∃ G : Nat → va_E, G = va_up F a0 (.inr (4, [.ref z14, .ref z16, .ref z18, .ref z20, .ref z22, .ref z24, .ref z26, .int z9, .int z30, .int z32, .int z34, .int z36, .int z37, .int z39, .int z40])) := ⟨_, rfl⟩
  rw [← hF44] at hP
  have hI : s_I K cs D F43 := by rw [hF44]; exact s_cl5 hI ha0 ⟨z14, z16, z18, z20, z22, z24, z26, z9, z30, z32, z34, z36, z37, z39, z40, rfl, h15, h17, h19, h21, h23, h25, h27, ⟨by omega, by omega⟩, ⟨by omega, by omega⟩, ⟨by omega, by omega⟩, ⟨by omega, by omega⟩, ⟨by omega, by omega⟩, ⟨by omega, by omega⟩, trivial⟩
  have hfr : ∀ b, K b ∉ [5, 6, 24, 27, 28, 30, 31, 32] → F43 b = F b := by rw [hF44]; exact s_fr hfr ha0 (by decide)
  have o45 : F43 a1 = .inr (2, [.ref z1, .ref z3, .ref z5, .int z7, .int z9, .int z11, .int z12]) := by rw [hF44]; exact th_ne (th_kd ha1 ha0 (by decide)) o13
  have o46 : F43 a0 = .inr (4, [.ref z14, .ref z16, .ref z18, .ref z20, .ref z22, .ref z24, .ref z26, .int z9, .int z30, .int z32, .int z34, .int z36, .int z37, .int z39, .int z40]) := by rw [hF44]; exact th_up
  refine lv_aload_n hx hb dX4_restart_8 rfl (lv_at hl 1 rfl) ?_
  refine th_getN (D := (dC, dI)) (ci := 2) (v := .ref z3) (C := RX2) (T := TX2) (N := 7) hx hb hts inX2 hown hK hP (hLK _ ha1 (by decide)) o45 rfl 1 (by decide) (va_Nw.use rfl (ax_n49 hN)) (fun _ h9 => h9) rfl dX4_restart_9 ?_
  refine lv_iconst (v := 0) hx hb dX4_restart_12 (by decide) ?_
  refine lv_aload_n hx hb dX4_restart_13 rfl (lv_at hl 0 rfl) ?_
  refine th_get (D := (dC, dI)) (ci := 4) (v := .ref z16) (C := RX4) (T := TX4) (N := 15) hx hb hts inX4 hown hK hP (hLK _ ha0 (by decide)) o46 rfl 1 (by decide) (hts _ T_108) (fun _ h9 => h9) rfl dX4_restart_14 ?_
  refine lv_iconst (v := 0) hx hb dX4_restart_17 (by decide) ?_
  refine lv_bipush (v := 64) hx hb dX4_restart_18 (by decide) ?_
  obtain ⟨f47, o48, h49⟩ := s_op24 hI h4
  obtain ⟨f50, o51, h52⟩ := s_op24 hI h17
  refine th_copy hx hb (by rw [hml]; exact hl.1.symm) hown (hts _ T_846) (hts _ T_847) (hts _ T_848) (hts _ T_849) hK hP hD hS (hLK _ h4 (by decide)) (hLK _ h17 (by decide)) 0 0 o48 o51 rfl rfl (by decide) (by decide) (by decide) (by decide) (by decide) (fun i _ => rfl) (Nat.le_of_ble_eq_true rfl) (Nat.le_of_ble_eq_true rfl) dX4_restart_20 (fun H locs hP hS => ?_)
  have hP : va_P (dC, dI) vwCl (va_pl L (va_up F43 z16 (.inl (cs 0, 64, .inl (va_cpy f47 f50 (0 : Int32).toNatClampNeg (0 : Int32).toNatClampNeg (64 : Int32).toNatClampNeg))))) H := hP
  obtain ⟨F53, hF54⟩ : ∃ G : Nat → va_E, G = va_up F43 z16 (.inl (cs 0, 64, .inl (va_cpy f47 f50 (0 : Int32).toNatClampNeg (0 : Int32).toNatClampNeg (64 : Int32).toNatClampNeg))) := ⟨_, rfl⟩
  rw [← hF54] at hP
  have hI : s_I K cs D F53 := by rw [hF54]; exact s_cl24 hI h17 ⟨_, rfl, trivial⟩
  have hfr : ∀ b, K b ∉ [5, 6, 24, 27, 28, 30, 31, 32] → F53 b = F b := by rw [hF54]; exact s_fr hfr h17 (by decide)
  have o55 : F53 a1 = .inr (2, [.ref z1, .ref z3, .ref z5, .int z7, .int z9, .int z11, .int z12]) := by rw [hF54]; exact th_ne (th_kd ha1 h17 (by decide)) o45
  have o56 : F53 a0 = .inr (4, [.ref z14, .ref z16, .ref z18, .ref z20, .ref z22, .ref z24, .ref z26, .int z9, .int z30, .int z32, .int z34, .int z36, .int z37, .int z39, .int z40]) := by rw [hF54]; exact th_ne (th_kd ha0 h17 (by decide)) o46
  refine lv_aload_n hx hb dX4_restart_23 rfl (lv_at hl 0 rfl) ?_
  refine th_get (D := (dC, dI)) (ci := 4) (v := .ref z18) (C := RX4) (T := TX4) (N := 15) hx hb hts inX4 hown hK hP (hLK _ ha0 (by decide)) o56 rfl 2 (by decide) (hts _ T_109) (fun _ h9 => h9) rfl dX4_restart_24 ?_
  refine lv_iconst (v := 0) hx hb dX4_restart_27 (by decide) ?_
  refine va_callv (va_runS (As := [.ref z18, .int 0]) (rest := []) ⟨hx, hb, hml, hown, hts⟩ (s_J7_fill_53178_near l dC dI H.size hLK D F53 z18 0 h19 hI) ⟨callB_of 2 hts (ax_gT T_11) rfl rfl rfl (hts _ T_197) (hts _ T_873) (by decide +kernel) ⟨Nat.le_of_ble_eq_true rfl, Nat.le_of_ble_eq_true rfl⟩, hts _ T_199⟩ ⟨fun a U g mk q => ⟨q.1, s_pc (U := U) rfl rfl q.2⟩, fun U hU hW => ⟨rfl, s_pw hU hW hP hK hD hN⟩⟩ rfl rfl hl.1 rfl (lv_room (Nat.le_of_ble_eq_true rfl)) dX4_restart_28 ⟨Nat.zero_le _, Nat.zero_le _⟩) hS (fun q _ h => h) (fun q h => h) (fun F57 t H1 locs ht hvm hw hB hz1 hk1 hS => ?_)
  obtain ⟨hP, hK1⟩ := hB
  rw [ht] at hP
  generalize H1 = H at hP hS ⊢
  clear hz1 hk1
  obtain ⟨h58, h59, hI, hfr1⟩ := hw
  have o60 : F57 a1 = .inr (2, [.ref z1, .ref z3, .ref z5, .int z7, .int z9, .int z11, .int z12]) := (hfr1 _ (by rw [ha1]; decide)).trans o55
  have o61 : F57 a0 = .inr (4, [.ref z14, .ref z16, .ref z18, .ref z20, .ref z22, .ref z24, .ref z26, .int z9, .int z30, .int z32, .int z34, .int z36, .int z37, .int z39, .int z40]) := (hfr1 _ (by rw [ha0]; decide)).trans o56
  have hfr : ∀ b, K b ∉ [5, 6, 24, 27, 28, 30, 31, 32] → F57 b = F b := fun b hb9 => (hfr1 b (fun q => hb9 (s_sub (by decide) q))).trans (hfr b hb9)
  refine lv_aload_n hx hb dX4_restart_31 rfl (lv_at hl 0 rfl) ?_
  refine th_get (D := (dC, dI)) (ci := 4) (v := .ref z20) (C := RX4) (T := TX4) (N := 15) hx hb hts inX4 hown hK hP (hLK _ ha0 (by decide)) o61 rfl 3 (by decide) (hts _ T_110) (fun _ h9 => h9) rfl dX4_restart_32 ?_
  refine lv_iconst (v := 0) hx hb dX4_restart_35 (by decide) ?_
  refine va_callv (va_runS (As := [.ref z20, .int 0]) (rest := []) ⟨hx, hb, hml, hown, hts⟩ (s_J7_fill_53178_touch l dC dI H.size hLK D F57 z20 0 h21 hI) ⟨callB_of 2 hts (ax_gT T_11) rfl rfl rfl (hts _ T_197) (hts _ T_873) (by decide +kernel) ⟨Nat.le_of_ble_eq_true rfl, Nat.le_of_ble_eq_true rfl⟩, hts _ T_199⟩ ⟨fun a U g mk q => ⟨q.1, s_pc (U := U) rfl rfl q.2⟩, fun U hU hW => ⟨rfl, s_pw hU hW hP hK hD hN⟩⟩ rfl rfl hl.1 rfl (lv_room (Nat.le_of_ble_eq_true rfl)) dX4_restart_36 ⟨Nat.zero_le _, Nat.zero_le _⟩) hS (fun q _ h => h) (fun q h => h) (fun F62 t H1 locs ht hvm hw hB hz1 hk1 hS => ?_)
  obtain ⟨hP, hK1⟩ := hB
  rw [ht] at hP
  generalize H1 = H at hP hS ⊢
  clear hz1 hk1
  obtain ⟨h63, h64, hI, hfr1⟩ := hw
  have o65 : F62 a1 = .inr (2, [.ref z1, .ref z3, .ref z5, .int z7, .int z9, .int z11, .int z12]) := (hfr1 _ (by rw [ha1]; decide)).trans o60
  have o66 : F62 a0 = .inr (4, [.ref z14, .ref z16, .ref z18, .ref z20, .ref z22, .ref z24, .ref z26, .int z9, .int z30, .int z32, .int z34, .int z36, .int z37, .int z39, .int z40]) := (hfr1 _ (by rw [ha0]; decide)).trans o61
  have hfr : ∀ b, K b ∉ [5, 6, 24, 27, 28, 30, 31, 32] → F62 b = F b := fun b hb9 => (hfr1 b (fun q => hb9 (s_sub (by decide) q))).trans (hfr b hb9)
  refine lv_aload_n hx hb dX4_restart_39 rfl (lv_at hl 0 rfl) ?_
  refine th_get (D := (dC, dI)) (ci := 4) (v := .ref z22) (C := RX4) (T := TX4) (N := 15) hx hb hts inX4 hown hK hP (hLK _ ha0 (by decide)) o66 rfl 4 (by decide) (hts _ T_111) (fun _ h9 => h9) rfl dX4_restart_40 ?_
  refine lv_iconst (v := 0) hx hb dX4_restart_43 (by decide) ?_
  refine va_callv (va_runS (As := [.ref z22, .int 0]) (rest := []) ⟨hx, hb, hml, hown, hts⟩ (s_J7_fill_53178_touch l dC dI H.size hLK D F62 z22 0 h23 hI) ⟨callB_of 2 hts (ax_gT T_11) rfl rfl rfl (hts _ T_197) (hts _ T_873) (by decide +kernel) ⟨Nat.le_of_ble_eq_true rfl, Nat.le_of_ble_eq_true rfl⟩, hts _ T_199⟩ ⟨fun a U g mk q => ⟨q.1, s_pc (U := U) rfl rfl q.2⟩, fun U hU hW => ⟨rfl, s_pw hU hW hP hK hD hN⟩⟩ rfl rfl hl.1 rfl (lv_room (Nat.le_of_ble_eq_true rfl)) dX4_restart_44 ⟨Nat.zero_le _, Nat.zero_le _⟩) hS (fun q _ h => h) (fun q h => h) (fun F67 t H1 locs ht hvm hw hB hz1 hk1 hS => ?_)
  obtain ⟨hP, hK1⟩ := hB
  rw [ht] at hP
  generalize H1 = H at hP hS ⊢
  clear hz1 hk1
  obtain ⟨h68, h69, hI, hfr1⟩ := hw
  have o70 : F67 a1 = .inr (2, [.ref z1, .ref z3, .ref z5, .int z7, .int z9, .int z11, .int z12]) := (hfr1 _ (by rw [ha1]; decide)).trans o65
  have o71 : F67 a0 = .inr (4, [.ref z14, .ref z16, .ref z18, .ref z20, .ref z22, .ref z24, .ref z26, .int z9, .int z30, .int z32, .int z34, .int z36, .int z37, .int z39, .int z40]) := (hfr1 _ (by rw [ha0]; decide)).trans o66
  have hfr : ∀ b, K b ∉ [5, 6, 24, 27, 28, 30, 31, 32] → F67 b = F b := fun b hb9 => (hfr1 b (fun q => hb9 (s_sub (by decide) q))).trans (hfr b hb9)
  refine lv_aload_n hx hb dX4_restart_47 rfl (lv_at hl 0 rfl) ?_
  refine th_get (D := (dC, dI)) (ci := 4) (v := .ref z24) (C := RX4) (T := TX4) (N := 15) hx hb hts inX4 hown hK hP (hLK _ ha0 (by decide)) o71 rfl 5 (by decide) (hts _ T_112) (fun _ h9 => h9) rfl dX4_restart_48 ?_
  refine lv_iconst (v := 0) hx hb dX4_restart_51 (by decide) ?_
  refine va_callv (va_runS (As := [.ref z24, .int 0]) (rest := []) ⟨hx, hb, hml, hown, hts⟩ (s_J7_fill_53178_touch l dC dI H.size hLK D F67 z24 0 h25 hI) ⟨callB_of 2 hts (ax_gT T_11) rfl rfl rfl (hts _ T_197) (hts _ T_873) (by decide +kernel) ⟨Nat.le_of_ble_eq_true rfl, Nat.le_of_ble_eq_true rfl⟩, hts _ T_199⟩ ⟨fun a U g mk q => ⟨q.1, s_pc (U := U) rfl rfl q.2⟩, fun U hU hW => ⟨rfl, s_pw hU hW hP hK hD hN⟩⟩ rfl rfl hl.1 rfl (lv_room (Nat.le_of_ble_eq_true rfl)) dX4_restart_52 ⟨Nat.zero_le _, Nat.zero_le _⟩) hS (fun q _ h => h) (fun q h => h) (fun F72 t H1 locs ht hvm hw hB hz1 hk1 hS => ?_)
  obtain ⟨hP, hK1⟩ := hB
  rw [ht] at hP
  generalize H1 = H at hP hS ⊢
  clear hz1 hk1
  obtain ⟨h73, h74, hI, hfr1⟩ := hw
  have o75 : F72 a1 = .inr (2, [.ref z1, .ref z3, .ref z5, .int z7, .int z9, .int z11, .int z12]) := (hfr1 _ (by rw [ha1]; decide)).trans o70
  have o76 : F72 a0 = .inr (4, [.ref z14, .ref z16, .ref z18, .ref z20, .ref z22, .ref z24, .ref z26, .int z9, .int z30, .int z32, .int z34, .int z36, .int z37, .int z39, .int z40]) := (hfr1 _ (by rw [ha0]; decide)).trans o71
  have hfr : ∀ b, K b ∉ [5, 6, 24, 27, 28, 30, 31, 32] → F72 b = F b := fun b hb9 => (hfr1 b (fun q => hb9 (s_sub (by decide) q))).trans (hfr b hb9)
  refine lv_aload_n hx hb dX4_restart_55 rfl (lv_at hl 0 rfl) ?_
  refine lv_iconst (v := 0) hx hb dX4_restart_56 (by decide) ?_
  refine th_put (D := (dC, dI)) (ci := 4) (v := .int 0) (ty := .int) (C := RX4) (T := TX4) (N := 15) hx hb hts inX4 tyX4 tyX4_ok nmX4 hown hK hP hD hS (hLK _ ha0 (by decide)) o76 rfl 11 (by decide) (hts _ T_837) (fun _ h9 => h9) rfl (by decide +kernel) rfl rfl (Nat.le_of_ble_eq_true rfl) dX4_restart_57 (fun H locs hP hS => ?_)
  have hP : va_P (dC, dI) vwCl (va_pl L (va_up F72 a0 (.inr (4, [.ref z14, .ref z16, .ref z18, .ref z20, .ref z22, .ref z24, .ref z26, .int z9, .int z30, .int z32, .int z34, .int 0, .int z37, .int z39, .int z40])))) H := hP
  obtain ⟨F77, hF78⟩ : ∃ G : Nat → va_E, G = va_up F72 a0 (.inr (4, [.ref z14, .ref z16, .ref z18, .ref z20, .ref z22, .ref z24, .ref z26, .int z9, .int z30, .int z32, .int z34, .int 0, .int z37, .int z39, .int z40])) := ⟨_, rfl⟩
  rw [← hF78] at hP
  have hI : s_I K cs D F77 := by rw [hF78]; exact s_cl5 hI ha0 ⟨z14, z16, z18, z20, z22, z24, z26, z9, z30, z32, z34, 0, z37, z39, z40, rfl, h15, h17, h19, h21, h23, h25, h27, ⟨by omega, by omega⟩, ⟨by omega, by omega⟩, ⟨by omega, by omega⟩, ⟨by omega, by omega⟩, ⟨by omega, by omega⟩, ⟨by omega, by omega⟩, trivial⟩
  have hfr : ∀ b, K b ∉ [5, 6, 24, 27, 28, 30, 31, 32] → F77 b = F b := by rw [hF78]; exact s_fr hfr ha0 (by decide)
  have o79 : F77 a1 = .inr (2, [.ref z1, .ref z3, .ref z5, .int z7, .int z9, .int z11, .int z12]) := by rw [hF78]; exact th_ne (th_kd ha1 ha0 (by decide)) o75
  have o80 : F77 a0 = .inr (4, [.ref z14, .ref z16, .ref z18, .ref z20, .ref z22, .ref z24, .ref z26, .int z9, .int z30, .int z32, .int z34, .int 0, .int z37, .int z39, .int z40]) := by rw [hF78]; exact th_up
  refine lv_aload_n hx hb dX4_restart_60 rfl (lv_at hl 0 rfl) ?_
  refine lv_iconst (v := 0) hx hb dX4_restart_61 (by decide) ?_
  refine th_put (D := (dC, dI)) (ci := 4) (v := .int 0) (ty := .int) (C := RX4) (T := TX4) (N := 15) hx hb hts inX4 tyX4 tyX4_ok nmX4 hown hK hP hD hS (hLK _ ha0 (by decide)) o80 rfl 12 (by decide) (hts _ T_844) (fun _ h9 => h9) rfl (by decide +kernel) rfl rfl (Nat.le_of_ble_eq_true rfl) dX4_restart_62 (fun H locs hP hS => ?_)
  have hP : va_P (dC, dI) vwCl (va_pl L (va_up F77 a0 (.inr (4, [.ref z14, .ref z16, .ref z18, .ref z20, .ref z22, .ref z24, .ref z26, .int z9, .int z30, .int z32, .int z34, .int 0, .int 0, .int z39, .int z40])))) H := hP
  obtain ⟨F81, hF82⟩ : ∃ G : Nat → va_E, G = va_up F77 a0 (.inr (4, [.ref z14, .ref z16, .ref z18, .ref z20, .ref z22, .ref z24, .ref z26, .int z9, .int z30, .int z32, .int z34, .int 0, .int 0, .int z39, .int z40])) := ⟨_, rfl⟩
  rw [← hF82] at hP
  have hI : s_I K cs D F81 := by rw [hF82]; exact s_cl5 hI ha0 ⟨z14, z16, z18, z20, z22, z24, z26, z9, z30, z32, z34, 0, 0, z39, z40, rfl, h15, h17, h19, h21, h23, h25, h27, ⟨by omega, by omega⟩, ⟨by omega, by omega⟩, ⟨by omega, by omega⟩, ⟨by omega, by omega⟩, ⟨by decide, Int.le_trans (b := 0) (by decide) (by omega)⟩, ⟨by omega, by omega⟩, trivial⟩
  have hfr : ∀ b, K b ∉ [5, 6, 24, 27, 28, 30, 31, 32] → F81 b = F b := by rw [hF82]; exact s_fr hfr ha0 (by decide)
  have o83 : F81 a1 = .inr (2, [.ref z1, .ref z3, .ref z5, .int z7, .int z9, .int z11, .int z12]) := by rw [hF82]; exact th_ne (th_kd ha1 ha0 (by decide)) o79
  have o84 : F81 a0 = .inr (4, [.ref z14, .ref z16, .ref z18, .ref z20, .ref z22, .ref z24, .ref z26, .int z9, .int z30, .int z32, .int z34, .int 0, .int 0, .int z39, .int z40]) := by rw [hF82]; exact th_up
  refine lv_aload_n hx hb dX4_restart_65 rfl (lv_at hl 0 rfl) ?_
  refine lv_iconst (v := 0) hx hb dX4_restart_66 (by decide) ?_
  refine th_put (D := (dC, dI)) (ci := 4) (v := .int 0) (ty := .int) (C := RX4) (T := TX4) (N := 15) hx hb hts inX4 tyX4 tyX4_ok nmX4 hown hK hP hD hS (hLK _ ha0 (by decide)) o84 rfl 13 (by decide) (hts _ T_845) (fun _ h9 => h9) rfl (by decide +kernel) rfl rfl (Nat.le_of_ble_eq_true rfl) dX4_restart_67 (fun H locs hP hS => ?_)
  have hP : va_P (dC, dI) vwCl (va_pl L (va_up F81 a0 (.inr (4, [.ref z14, .ref z16, .ref z18, .ref z20, .ref z22, .ref z24, .ref z26, .int z9, .int z30, .int z32, .int z34, .int 0, .int 0, .int 0, .int z40])))) H := hP
  obtain ⟨F85, hF86⟩ : ∃ G : Nat → va_E, G = va_up F81 a0 (.inr (4, [.ref z14, .ref z16, .ref z18, .ref z20, .ref z22, .ref z24, .ref z26, .int z9, .int z30, .int z32, .int z34, .int 0, .int 0, .int 0, .int z40])) := ⟨_, rfl⟩
  rw [← hF86] at hP
  have hI : s_I K cs D F85 := by rw [hF86]; exact s_cl5 hI ha0 ⟨z14, z16, z18, z20, z22, z24, z26, z9, z30, z32, z34, 0, 0, 0, z40, rfl, h15, h17, h19, h21, h23, h25, h27, ⟨by omega, by omega⟩, ⟨by omega, by omega⟩, ⟨by omega, by omega⟩, ⟨by omega, by omega⟩, ⟨by decide, Int.le_trans (b := 0) (by decide) (by omega)⟩, ⟨by omega, by omega⟩, trivial⟩
  have hfr : ∀ b, K b ∉ [5, 6, 24, 27, 28, 30, 31, 32] → F85 b = F b := by rw [hF86]; exact s_fr hfr ha0 (by decide)
  have o87 : F85 a1 = .inr (2, [.ref z1, .ref z3, .ref z5, .int z7, .int z9, .int z11, .int z12]) := by rw [hF86]; exact th_ne (th_kd ha1 ha0 (by decide)) o83
  have o88 : F85 a0 = .inr (4, [.ref z14, .ref z16, .ref z18, .ref z20, .ref z22, .ref z24, .ref z26, .int z9, .int z30, .int z32, .int z34, .int 0, .int 0, .int 0, .int z40]) := by rw [hF86]; exact th_up
  refine lv_aload_n hx hb dX4_restart_70 rfl (lv_at hl 0 rfl) ?_
  refine lv_iconst (v := (-1)) hx hb dX4_restart_71 (by decide) ?_
  refine th_put (D := (dC, dI)) (ci := 4) (v := .int (-1)) (ty := .int) (C := RX4) (T := TX4) (N := 15) hx hb hts inX4 tyX4 tyX4_ok nmX4 hown hK hP hD hS (hLK _ ha0 (by decide)) o88 rfl 14 (by decide) (hts _ T_114) (fun _ h9 => h9) rfl (by decide +kernel) rfl rfl (Nat.le_of_ble_eq_true rfl) dX4_restart_72 (fun H locs hP hS => ?_)
  have hP : va_P (dC, dI) vwCl (va_pl L (va_up F85 a0 (.inr (4, [.ref z14, .ref z16, .ref z18, .ref z20, .ref z22, .ref z24, .ref z26, .int z9, .int z30, .int z32, .int z34, .int 0, .int 0, .int 0, .int (-1)])))) H := hP
  obtain ⟨F89, hF90⟩ : ∃ G : Nat → va_E, G = va_up F85 a0 (.inr (4, [.ref z14, .ref z16, .ref z18, .ref z20, .ref z22, .ref z24, .ref z26, .int z9, .int z30, .int z32, .int z34, .int 0, .int 0, .int 0, .int (-1)])) := ⟨_, rfl⟩
  rw [← hF90] at hP
  have hI : s_I K cs D F89 := by rw [hF90]; exact s_cl5 hI ha0 ⟨z14, z16, z18, z20, z22, z24, z26, z9, z30, z32, z34, 0, 0, 0, (-1), rfl, h15, h17, h19, h21, h23, h25, h27, ⟨by omega, by omega⟩, ⟨by omega, by omega⟩, ⟨by omega, by omega⟩, ⟨by omega, by omega⟩, ⟨by decide, Int.le_trans (b := 0) (by decide) (by omega)⟩, (by decide), trivial⟩
  have hfr : ∀ b, K b ∉ [5, 6, 24, 27, 28, 30, 31, 32] → F89 b = F b := by rw [hF90]; exact s_fr hfr ha0 (by decide)
  have o91 : F89 a1 = .inr (2, [.ref z1, .ref z3, .ref z5, .int z7, .int z9, .int z11, .int z12]) := by rw [hF90]; exact th_ne (th_kd ha1 ha0 (by decide)) o87
  have o92 : F89 a0 = .inr (4, [.ref z14, .ref z16, .ref z18, .ref z20, .ref z22, .ref z24, .ref z26, .int z9, .int z30, .int z32, .int z34, .int 0, .int 0, .int 0, .int (-1)]) := by rw [hF90]; exact th_up
  refine lv_iconst (v := 0) hx hb dX4_restart_75 (by decide) ?_
  refine lv_istore_n (lv' := [(2, .int 0), (0, .ref a0), (1, .ref a1)]) hx hb dX4_restart_76 rfl hl (by decide) rfl (fun ls hl => ?_)
  refine th_loop (fun n g H locs => ∃ (G : Nat → va_E) (ls : Array Slot) (w93 : Int32), g = F0 m 77 ls [] ∧ lv_has ls 3 [(0, .ref a0), (1, .ref a1), (2, .int w93)] ∧ s_I K cs D G ∧ va_P (dC, dI) vwCl (va_pl L G) H ∧ va_S (fun q => q ∈ L) s.heap H locs ∧ (∀ b, K b ∉ [5, 6, 24, 27, 28, 30, 31, 32] → G b = F b) ∧ (0 ≤ w93.toInt ∧ w93.toInt ≤ 4) ∧ n = (5 - w93.toInt).toNat) _ ⟨F89, _, 0, rfl, lv_sub hl [1, 2, 0] rfl, hI, hP, hS, hfr, (by decide), rfl⟩ (fun n ih77 g H locs hq => ?_)
  obtain ⟨F9, ls, w93, rfl, hl, hI, hP, hS, hfr, h94, hn⟩ := hq
  have hn_77 := hn
  obtain ⟨n_77, hn9_77⟩ : ∃ q, q = n := ⟨_, rfl⟩
  refine th_join (fun g H locs => ∃ (G : Nat → va_E) (ls : Array Slot) (w95 : Int32) (w96 : Nat), g = F0 m 103 ls [.int w95, .ref w96] ∧ lv_has ls 3 [(0, .ref a0), (1, .ref a1), (2, .int w93)] ∧ s_I K cs D G ∧ va_P (dC, dI) vwCl (va_pl L G) H ∧ va_S (fun q => q ∈ L) s.heap H locs ∧ (∀ b, K b ∉ [5, 6, 24, 27, 28, 30, 31, 32] → G b = F b) ∧ (0 ≤ w95.toInt ∧ w95.toInt ≤ 255) ∧ K w96 = 6 ∧ (0 ≤ w93.toInt ∧ w93.toInt ≤ 3)) (fun K103 => ?_) ?_
  · refine lv_iload_n hx hb dX4_restart_77 rfl (lv_at hl 2 rfl) ?_
    refine lv_iconst (v := 4) hx hb dX4_restart_78 (by decide) ?_
    refine lv_icmp_ge (tgt := 120) hx hb dX4_restart_79 (by decide) (fun c97 => ?_) (fun c97 => ?_)
    · have c97 := (ax_ge (n := 4) (by decide)).mp c97
      exact W.vret hx hb hr (fun t ht hW => ⟨⟨F9, rfl, ⟨trivial, trivial, hI, hfr⟩, by rw [ht]; exact hP, va_K.moved hW.alike hK⟩, hS.F ht⟩) hS.2.2 dX4_restart_120
    · have c97 := mt (ax_ge (n := 4) (by decide)).mpr c97
      refine lv_aload_n hx hb dX4_restart_82 rfl (lv_at hl 0 rfl) ?_
      obtain ⟨z98, z100, z102, z104, z106, z108, z110, z112, z114, z116, z118, z120, z121, z123, z124, o126, h99, h101, h103, h105, h107, h109, h111, h113, h115, h117, h119, h122, h125, -⟩ := s_op5 hI ha0
      refine th_get (D := (dC, dI)) (ci := 4) (v := .ref z98) (C := RX4) (T := TX4) (N := 15) hx hb hts inX4 hown hK hP (hLK _ ha0 (by decide)) o126 rfl 0 (by decide) (hts _ T_107) (fun _ h9 => h9) rfl dX4_restart_83 ?_
      refine lv_iload_n hx hb dX4_restart_86 rfl (lv_at hl 2 rfl) ?_
      obtain ⟨f127, o128, h129⟩ := s_op26 hI h99
      obtain ⟨z130, o132, h131⟩ := h129 (w93 : Int32).toNatClampNeg (th_cl ⟨by omega, by omega⟩)
      refine th_aald hx hb hK hP (hLK _ h99 (by decide)) 3 o128 rfl (th_in ⟨by omega, by omega⟩) o132 dX4_restart_87 ?_
      refine lv_iload_n hx hb dX4_restart_88 rfl (lv_at hl 2 rfl) ?_
      refine lv_aload_n hx hb dX4_restart_89 rfl (lv_at hl 0 rfl) ?_
      refine th_get (D := (dC, dI)) (ci := 4) (v := .int z112) (C := RX4) (T := TX4) (N := 15) hx hb hts inX4 hown hK hP (hLK _ ha0 (by decide)) o126 rfl 7 (by decide) (hts _ T_840) (fun _ h9 => h9) rfl dX4_restart_90 ?_
      refine lv_icmp_ge (tgt := 102) hx hb dX4_restart_93 (by decide) (fun c133 => ?_) (fun c133 => ?_)
      · have c133 := Int32.le_iff_toInt_le.mp c133
        refine lv_iconst (v := 0) hx hb dX4_restart_102 (by decide) ?_
        exact K103 _ _ _ ⟨F9, _, 0, z130, rfl, lv_sub hl [0, 1, 2] rfl, hI, hP, hS, hfr, (by decide), h131, ⟨by omega, by omega⟩⟩
      · have c133 := mt Int32.le_iff_toInt_le.mpr c133
        refine lv_sipush (v := 255) hx hb dX4_restart_96 (by decide) ?_
        refine lv_goto (tgt := 103) hx hb dX4_restart_99 (by decide) ?_
        exact K103 _ _ _ ⟨F9, _, 255, z130, rfl, lv_sub hl [0, 1, 2] rfl, hI, hP, hS, hfr, (by decide), h131, ⟨by omega, by omega⟩⟩
  · intro g H locs hq
    obtain ⟨F9, ls, w95, w96, rfl, hl, hI, hP, hS, hfr, h134, h135, h136⟩ := hq
    refine lv_aload_n hx hb dX4_restart_103 rfl (lv_at hl 0 rfl) ?_
    obtain ⟨z137, z139, z141, z143, z145, z147, z149, z151, z153, z155, z157, z159, z160, z162, z163, o165, h138, h140, h142, h144, h146, h148, h150, h152, h154, h156, h158, h161, h164, -⟩ := s_op5 hI ha0
    refine th_get (D := (dC, dI)) (ci := 4) (v := .int z153) (C := RX4) (T := TX4) (N := 15) hx hb hts inX4 hown hK hP (hLK _ ha0 (by decide)) o165 rfl 8 (by decide) (hts _ T_838) (fun _ h9 => h9) rfl dX4_restart_104 ?_
    refine lv_aload_n hx hb dX4_restart_107 rfl (lv_at hl 1 rfl) ?_
    obtain ⟨z166, z168, z170, z172, z174, z176, z177, o178, h167, h169, h171, h173, h175, -⟩ := s_op3 hI ha1
    refine th_getN (D := (dC, dI)) (ci := 2) (v := .int z172) (C := RX2) (T := TX2) (N := 7) hx hb hts inX2 hown hK hP (hLK _ ha1 (by decide)) o178 rfl 3 (by decide) (va_Nw.use rfl (ax_n50 hN)) (fun _ h9 => h9) rfl dX4_restart_108 ?_
    obtain ⟨z179, z181, z183, z185, z187, z189, z191, z192, z193, z194, z195, o197, h180, h182, h184, h186, h188, h190, h196, -⟩ := s_op6 hI h135
    refine va_callv (va_runV (As := [.int w95, .int z153, .int z172]) (rest := []) ⟨hx, hb, hml, hown, hts⟩ (s_X5_restart l dC dI H.size hLK D F9 w96 w95 z153 z172 h135 hI) (cwV 3 hts (ax_gV T_864 T_866 T_867 T_116 T_865) rfl rfl rfl (by decide +kernel) ⟨Nat.le_of_ble_eq_true rfl, Nat.le_of_ble_eq_true rfl⟩) ⟨fun a U g mk q => ⟨q.1, s_pc (U := U) rfl rfl q.2⟩, s_recv hK hP (hLK _ h135 (by decide)) (ci := 5) rfl o197, fun U hU hW => ⟨rfl, s_pw hU hW hP hK hD hN⟩⟩ rfl rfl hl.1 rfl (lv_room (Nat.le_of_ble_eq_true rfl)) dX4_restart_111 ⟨Nat.zero_le _, Nat.zero_le _⟩) hS (fun q _ h => h) (fun q h => h) (fun F198 t H1 locs ht hvm hw hB hz1 hk1 hS => ?_)
    obtain ⟨hP, hK1⟩ := hB
    rw [ht] at hP
    generalize H1 = H at hP hS ⊢
    clear hz1 hk1
    obtain ⟨h199, h200, hI, hfr1⟩ := hw
    have o201 : F198 a0 = .inr (4, [.ref z137, .ref z139, .ref z141, .ref z143, .ref z145, .ref z147, .ref z149, .int z151, .int z153, .int z155, .int z157, .int z159, .int z160, .int z162, .int z163]) := (hfr1 _ (by rw [ha0]; decide)).trans o165
    have o202 : F198 a1 = .inr (2, [.ref z166, .ref z168, .ref z170, .int z172, .int z174, .int z176, .int z177]) := (hfr1 _ (by rw [ha1]; decide)).trans o178
    have hfr : ∀ b, K b ∉ [5, 6, 24, 27, 28, 30, 31, 32] → F198 b = F b := fun b hb9 => (hfr1 b (fun q => hb9 (s_sub (by decide) q))).trans (hfr b hb9)
    obtain ⟨v203, ev203⟩ : ∃ y : Int32, w93 + 1 = y := ⟨_, rfl⟩
    have qv203 : v203.toInt = w93.toInt + 1 := by rw [← ev203]; exact th_add rfl (by decide) ⟨by omega, by omega⟩
    refine lv_iinc (v := v203) (lv' := [(2, .int v203), (0, .ref a0), (1, .ref a1)]) hx hb dX4_restart_114 hl (k := 2) rfl ev203 (by decide) rfl (fun ls hl => ?_)
    refine lv_goto (tgt := 77) hx hb dX4_restart_117 (by decide) ?_
    exact ih77 _ _ _ _ (by omega) ⟨F198, _, v203, rfl, lv_sub hl [1, 2, 0] rfl, hI, hP, hS, hfr, ⟨by omega, by omega⟩, rfl⟩

set_option maxHeartbeats 4000000 in
set_option maxRecDepth 100000 in
theorem s_X4_leaveAlone (l : Launch) (dC : Nat → ClassId) (dI : Nat → Nat → Nat) (sz : Nat) {L : List Nat} {K : Nat → Nat} {cs : Nat → ClassId} (hLK : ∀ a {k : Nat}, K a = k → k ≠ 0 → a ∈ L) (D : Nat) (F : Nat → va_E) (a0 : Nat) (x1 : Int32) (x2 : Int32) (x3 : Int32) (ha0 : K a0 = 5) (hI : s_I K cs D F) : Met l yX4_leaveAlone (Cond.code yX4_leaveAlone cX4_leaveAlone 5 none :: T0) ({ frames := 2, cells := 0, slots := 0, locals := 46 }) (va_Pc [.ref a0, .int x1, .int x2, .int x3] (s_W dC dI sz L F [(cs 0, .int), (cs 1, .byte), (cs 2, .long), (cs 3, .object RX5), (cs 4, .object RX4), (cs 5, .array .int), (cs 6, .char), (cs 7, .boolean)])) (va_Qv (fun (G : Nat → va_E) => True ∧ True ∧ s_I K cs D G ∧ ∀ b, K b ∉ [6, 30, 31, 32] → G b = F b) (fun (G : Nat → va_E) (t : State) => va_P (dC, dI) vwCl (va_pl L G) t.heap ∧ va_K (dC, dI) vwCl [(cs 0, .int), (cs 1, .byte), (cs 2, .long), (cs 3, .object RX5), (cs 4, .object RX4), (cs 5, .array .int), (cs 6, .char), (cs 7, .boolean)] t) (fun q => q ∈ L)) 0 0 (fun q => q ∈ L) := by
  refine Met.ofW (cc := cX4_leaveAlone) (maxL := 5) (ret := none) (by decide) rfl ?_
  intro p e s m args below meth c s₁ B hml hv
  obtain ⟨rfl, hsz, hP, hK, hD, hN⟩ := hv
  have hx := B.exec
  have hb := B.bytes
  have hr := B.returns
  have hts : ∀ w ∈ T0, w.before _ s = true := fun w h => atoms_spec (ws := Cond.code yX4_leaveAlone cX4_leaveAlone 5 none :: T0) B.pre w (List.mem_cons_of_mem _ h)
  have hown : s.vm.findClass RX4 = some m.cls := findClass_of_methodNamed B.named
  have hlocks := B.notSynchronized
  have hS : va_S (fun q => q ∈ L) s.heap s.heap [] := va_S.rf
  have hfr : ∀ b, K b ∉ [6, 30, 31, 32] → F b = F b := fun _ _ => rfl
  have hl := lv_entry ([.ref a0, .int x1, .int x2, .int x3]) (n := 5) (Nat.le_of_ble_eq_true rfl)
  rw [lg_entry_eq]
  generalize (lg_sl ([.ref a0, .int x1, .int x2, .int x3]) ++ List.replicate (5 - (lg_sl ([.ref a0, .int x1, .int x2, .int x3])).length) Slot.unset).toArray = ls at hl ⊢
  have hl : lv_has ls 5 [(0, .ref a0), (1, .int x1), (2, .int x2), (3, .int x3)] := hl
  refine s_gen hP hS (fun H locs hP hS => ?_)
  refine lv_iconst (v := 0) hx hb dX4_leaveAlone_0 (by decide) ?_
  refine lv_istore (lv' := [(4, .int 0), (0, .ref a0), (1, .int x1), (2, .int x2), (3, .int x3)]) hx hb dX4_leaveAlone_1 hl (by decide) rfl (fun ls hl => ?_)
  refine th_loop (fun n g H locs => ∃ (G : Nat → va_E) (ls : Array Slot) (w1 : Int32), g = F0 m 3 ls [] ∧ lv_has ls 5 [(0, .ref a0), (1, .int x1), (2, .int x2), (3, .int x3), (4, .int w1)] ∧ s_I K cs D G ∧ va_P (dC, dI) vwCl (va_pl L G) H ∧ va_S (fun q => q ∈ L) s.heap H locs ∧ (∀ b, K b ∉ [6, 30, 31, 32] → G b = F b) ∧ (0 ≤ w1.toInt ∧ w1.toInt ≤ 4) ∧ n = (5 - w1.toInt).toNat) _ ⟨F, _, 0, rfl, lv_sub hl [1, 2, 3, 4, 0] rfl, hI, hP, hS, hfr, (by decide), rfl⟩ (fun n ih3 g H locs hq => ?_)
  obtain ⟨F9, ls, w1, rfl, hl, hI, hP, hS, hfr, h2, hn⟩ := hq
  have hn_3 := hn
  obtain ⟨n_3, hn9_3⟩ : ∃ q, q = n := ⟨_, rfl⟩
  refine th_join (fun g H locs => ∃ (G : Nat → va_E) (ls : Array Slot) (w3 : Int32) (w4 : Nat), g = F0 m 32 ls [.int w3, .ref w4] ∧ lv_has ls 5 [(0, .ref a0), (1, .int x1), (2, .int x2), (3, .int x3), (4, .int w1)] ∧ s_I K cs D G ∧ va_P (dC, dI) vwCl (va_pl L G) H ∧ va_S (fun q => q ∈ L) s.heap H locs ∧ (∀ b, K b ∉ [6, 30, 31, 32] → G b = F b) ∧ True ∧ K w4 = 6 ∧ (0 ≤ w1.toInt ∧ w1.toInt ≤ 3)) (fun K32 => ?_) ?_
  · refine lv_iload hx hb dX4_leaveAlone_3 (lv_at hl 4 rfl) ?_
    refine lv_aload_n hx hb dX4_leaveAlone_5 rfl (lv_at hl 0 rfl) ?_
    obtain ⟨z5, z7, z9, z11, z13, z15, z17, z19, z21, z23, z25, z27, z28, z30, z31, o33, h6, h8, h10, h12, h14, h16, h18, h20, h22, h24, h26, h29, h32, -⟩ := s_op5 hI ha0
    refine th_get (D := (dC, dI)) (ci := 4) (v := .int z19) (C := RX4) (T := TX4) (N := 15) hx hb hts inX4 hown hK hP (hLK _ ha0 (by decide)) o33 rfl 7 (by decide) (hts _ T_840) (fun _ h9 => h9) rfl dX4_leaveAlone_6 ?_
    refine lv_icmp_ge (tgt := 46) hx hb dX4_leaveAlone_9 (by decide) (fun c34 => ?_) (fun c34 => ?_)
    · have c34 := Int32.le_iff_toInt_le.mp c34
      exact W.vret hx hb hr (fun t ht hW => ⟨⟨F9, rfl, ⟨trivial, trivial, hI, hfr⟩, by rw [ht]; exact hP, va_K.moved hW.alike hK⟩, hS.F ht⟩) hS.2.2 dX4_leaveAlone_46
    · have c34 := mt Int32.le_iff_toInt_le.mpr c34
      refine lv_aload_n hx hb dX4_leaveAlone_12 rfl (lv_at hl 0 rfl) ?_
      refine th_get (D := (dC, dI)) (ci := 4) (v := .ref z5) (C := RX4) (T := TX4) (N := 15) hx hb hts inX4 hown hK hP (hLK _ ha0 (by decide)) o33 rfl 0 (by decide) (hts _ T_107) (fun _ h9 => h9) rfl dX4_leaveAlone_13 ?_
      refine lv_iload hx hb dX4_leaveAlone_16 (lv_at hl 4 rfl) ?_
      obtain ⟨f35, o36, h37⟩ := s_op26 hI h6
      obtain ⟨z38, o40, h39⟩ := h37 (w1 : Int32).toNatClampNeg (th_cl ⟨by omega, by omega⟩)
      refine th_aald hx hb hK hP (hLK _ h6 (by decide)) 3 o36 rfl (th_in ⟨by omega, by omega⟩) o40 dX4_leaveAlone_18 ?_
      refine lv_iload hx hb dX4_leaveAlone_19 (lv_at hl 4 rfl) ?_
      refine lv_iload_n hx hb dX4_leaveAlone_21 rfl (lv_at hl 1 rfl) ?_
      refine lv_icmp_ne (tgt := 31) hx hb dX4_leaveAlone_22 (by decide) (fun c41 => ?_) (fun c41 => ?_)
      · have c41 := mt Int32.toInt_inj.symm.mpr c41
        refine lv_iconst (v := 0) hx hb dX4_leaveAlone_31 (by decide) ?_
        exact K32 _ _ _ ⟨F9, _, 0, z38, rfl, lv_sub hl [0, 1, 2, 3, 4] rfl, hI, hP, hS, hfr, trivial, h39, ⟨by omega, by omega⟩⟩
      · have c41 := Int32.toInt_inj.symm.mp c41
        refine lv_iconst (v := 1) hx hb dX4_leaveAlone_25 (by decide) ?_
        refine lv_iload_n hx hb dX4_leaveAlone_26 rfl (lv_at hl 2 rfl) ?_
        refine lv_ishl hx hb dX4_leaveAlone_27 ?_
        refine lv_topi (fun v42 ev42 => ?_)
        refine lv_goto (tgt := 32) hx hb dX4_leaveAlone_28 (by decide) ?_
        exact K32 _ _ _ ⟨F9, _, v42, z38, rfl, lv_sub hl [0, 1, 2, 3, 4] rfl, hI, hP, hS, hfr, trivial, h39, ⟨by omega, by omega⟩⟩
  · intro g H locs hq
    obtain ⟨F9, ls, w3, w4, rfl, hl, hI, hP, hS, hfr, h43, h44, h45⟩ := hq
    refine lv_aload_n hx hb dX4_leaveAlone_32 rfl (lv_at hl 0 rfl) ?_
    obtain ⟨z46, z48, z50, z52, z54, z56, z58, z60, z62, z64, z66, z68, z69, z71, z72, o74, h47, h49, h51, h53, h55, h57, h59, h61, h63, h65, h67, h70, h73, -⟩ := s_op5 hI ha0
    refine th_get (D := (dC, dI)) (ci := 4) (v := .int z62) (C := RX4) (T := TX4) (N := 15) hx hb hts inX4 hown hK hP (hLK _ ha0 (by decide)) o74 rfl 8 (by decide) (hts _ T_838) (fun _ h9 => h9) rfl dX4_leaveAlone_33 ?_
    refine lv_iload_n hx hb dX4_leaveAlone_36 rfl (lv_at hl 3 rfl) ?_
    obtain ⟨z75, z77, z79, z81, z83, z85, z87, z88, z89, z90, z91, o93, h76, h78, h80, h82, h84, h86, h92, -⟩ := s_op6 hI h44
    refine va_callv (va_runV (As := [.int w3, .int z62, .int x3]) (rest := []) ⟨hx, hb, hml, hown, hts⟩ (s_X5_restart l dC dI H.size hLK D F9 w4 w3 z62 x3 h44 hI) (cwV 3 hts (ax_gV T_864 T_866 T_867 T_116 T_865) rfl rfl rfl (by decide +kernel) ⟨Nat.le_of_ble_eq_true rfl, Nat.le_of_ble_eq_true rfl⟩) ⟨fun a U g mk q => ⟨q.1, s_pc (U := U) rfl rfl q.2⟩, s_recv hK hP (hLK _ h44 (by decide)) (ci := 5) rfl o93, fun U hU hW => ⟨rfl, s_pw hU hW hP hK hD hN⟩⟩ rfl rfl hl.1 rfl (lv_room (Nat.le_of_ble_eq_true rfl)) dX4_leaveAlone_37 ⟨Nat.zero_le _, Nat.zero_le _⟩) hS (fun q _ h => h) (fun q h => h) (fun F94 t H1 locs ht hvm hw hB hz1 hk1 hS => ?_)
    obtain ⟨hP, hK1⟩ := hB
    rw [ht] at hP
    generalize H1 = H at hP hS ⊢
    clear hz1 hk1
    obtain ⟨h95, h96, hI, hfr1⟩ := hw
    have o97 : F94 a0 = .inr (4, [.ref z46, .ref z48, .ref z50, .ref z52, .ref z54, .ref z56, .ref z58, .int z60, .int z62, .int z64, .int z66, .int z68, .int z69, .int z71, .int z72]) := (hfr1 _ (by rw [ha0]; decide)).trans o74
    have hfr : ∀ b, K b ∉ [6, 30, 31, 32] → F94 b = F b := fun b hb9 => (hfr1 b (fun q => hb9 (s_sub (by decide) q))).trans (hfr b hb9)
    obtain ⟨v98, ev98⟩ : ∃ y : Int32, w1 + 1 = y := ⟨_, rfl⟩
    have qv98 : v98.toInt = w1.toInt + 1 := by rw [← ev98]; exact th_add rfl (by decide) ⟨by omega, by omega⟩
    refine lv_iinc (v := v98) (lv' := [(4, .int v98), (0, .ref a0), (1, .int x1), (2, .int x2), (3, .int x3)]) hx hb dX4_leaveAlone_40 hl (k := 4) rfl ev98 (by decide) rfl (fun ls hl => ?_)
    refine lv_goto (tgt := 3) hx hb dX4_leaveAlone_43 (by decide) ?_
    exact ih3 _ _ _ _ (by omega) ⟨F94, _, v98, rfl, lv_sub hl [1, 2, 3, 4, 0] rfl, hI, hP, hS, hfr, ⟨by omega, by omega⟩, rfl⟩

set_option maxHeartbeats 4000000 in
set_option maxRecDepth 100000 in
theorem s_X4_copyFrom (l : Launch) (dC : Nat → ClassId) (dI : Nat → Nat → Nat) (sz : Nat) {L : List Nat} {K : Nat → Nat} {cs : Nat → ClassId} (hLK : ∀ a {k : Nat}, K a = k → k ≠ 0 → a ∈ L) (D : Nat) (F : Nat → va_E) (a0 : Nat) (a1 : Nat) (ha0 : K a0 = 5) (ha1 : K a1 = 5) (hI : s_I K cs D F) : Met l yX4_copyFrom (Cond.code yX4_copyFrom cX4_copyFrom 3 none :: T0) ({ frames := 2, cells := 0, slots := 0, locals := 81 }) (va_Pc [.ref a0, .ref a1] (s_W dC dI sz L F [(cs 0, .int), (cs 1, .byte), (cs 2, .long), (cs 3, .object RX5), (cs 4, .object RX4), (cs 5, .array .int), (cs 6, .char), (cs 7, .boolean)])) (va_Qv (fun (G : Nat → va_E) => True ∧ True ∧ s_I K cs D G ∧ ∀ b, K b ∉ [5, 6, 24, 27, 28, 29, 30, 31, 32] → G b = F b) (fun (G : Nat → va_E) (t : State) => va_P (dC, dI) vwCl (va_pl L G) t.heap ∧ va_K (dC, dI) vwCl [(cs 0, .int), (cs 1, .byte), (cs 2, .long), (cs 3, .object RX5), (cs 4, .object RX4), (cs 5, .array .int), (cs 6, .char), (cs 7, .boolean)] t) (fun q => q ∈ L)) 0 0 (fun q => q ∈ L) := by
  refine Met.ofW (cc := cX4_copyFrom) (maxL := 3) (ret := none) (by decide) rfl ?_
  intro p e s m args below meth c s₁ B hml hv
  obtain ⟨rfl, hsz, hP, hK, hD, hN⟩ := hv
  have hx := B.exec
  have hb := B.bytes
  have hr := B.returns
  have hts : ∀ w ∈ T0, w.before _ s = true := fun w h => atoms_spec (ws := Cond.code yX4_copyFrom cX4_copyFrom 3 none :: T0) B.pre w (List.mem_cons_of_mem _ h)
  have hown : s.vm.findClass RX4 = some m.cls := findClass_of_methodNamed B.named
  have hlocks := B.notSynchronized
  have hS : va_S (fun q => q ∈ L) s.heap s.heap [] := va_S.rf
  have hfr : ∀ b, K b ∉ [5, 6, 24, 27, 28, 29, 30, 31, 32] → F b = F b := fun _ _ => rfl
  have hl := lv_entry ([.ref a0, .ref a1]) (n := 3) (Nat.le_of_ble_eq_true rfl)
  rw [lg_entry_eq]
  generalize (lg_sl ([.ref a0, .ref a1]) ++ List.replicate (3 - (lg_sl ([.ref a0, .ref a1])).length) Slot.unset).toArray = ls at hl ⊢
  have hl : lv_has ls 3 [(0, .ref a0), (1, .ref a1)] := hl
  refine s_gen hP hS (fun H locs hP hS => ?_)
  refine lv_aload_n hx hb dX4_copyFrom_0 rfl (lv_at hl 0 rfl) ?_
  refine lv_aload_n hx hb dX4_copyFrom_1 rfl (lv_at hl 1 rfl) ?_
  obtain ⟨z1, z3, z5, z7, z9, z11, z13, z15, z17, z19, z21, z23, z24, z26, z27, o29, h2, h4, h6, h8, h10, h12, h14, h16, h18, h20, h22, h25, h28, -⟩ := s_op5 hI ha1
  refine th_get (D := (dC, dI)) (ci := 4) (v := .int z15) (C := RX4) (T := TX4) (N := 15) hx hb hts inX4 hown hK hP (hLK _ ha1 (by decide)) o29 rfl 7 (by decide) (hts _ T_840) (fun _ h9 => h9) rfl dX4_copyFrom_2 ?_
  obtain ⟨z30, z32, z34, z36, z38, z40, z42, z44, z46, z48, z50, z52, z53, z55, z56, o58, h31, h33, h35, h37, h39, h41, h43, h45, h47, h49, h51, h54, h57, -⟩ := s_op5 hI ha0
  refine th_put (D := (dC, dI)) (ci := 4) (v := .int z15) (ty := .int) (C := RX4) (T := TX4) (N := 15) hx hb hts inX4 tyX4 tyX4_ok nmX4 hown hK hP hD hS (hLK _ ha0 (by decide)) o58 rfl 7 (by decide) (hts _ T_840) (fun _ h9 => h9) rfl (by decide +kernel) rfl rfl (Nat.le_of_ble_eq_true rfl) dX4_copyFrom_5 (fun H locs hP hS => ?_)
  have hP : va_P (dC, dI) vwCl (va_pl L (va_up F a0 (.inr (4, [.ref z30, .ref z32, .ref z34, .ref z36, .ref z38, .ref z40, .ref z42, .int z15, .int z46, .int z48, .int z50, .int z52, .int z53, .int z55, .int z56])))) H := hP
  obtain ⟨F59, hF60⟩ : ∃ G : Nat → va_E, G = va_up F a0 (.inr (4, [.ref z30, .ref z32, .ref z34, .ref z36, .ref z38, .ref z40, .ref z42, .int z15, .int z46, .int z48, .int z50, .int z52, .int z53, .int z55, .int z56])) := ⟨_, rfl⟩
  rw [← hF60] at hP
  have hI : s_I K cs D F59 := by rw [hF60]; exact s_cl5 hI ha0 ⟨z30, z32, z34, z36, z38, z40, z42, z15, z46, z48, z50, z52, z53, z55, z56, rfl, h31, h33, h35, h37, h39, h41, h43, ⟨by omega, by omega⟩, ⟨by omega, by omega⟩, ⟨by omega, by omega⟩, ⟨by omega, by omega⟩, ⟨by omega, by omega⟩, ⟨by omega, by omega⟩, trivial⟩
  have hfr : ∀ b, K b ∉ [5, 6, 24, 27, 28, 29, 30, 31, 32] → F59 b = F b := by rw [hF60]; exact s_fr hfr ha0 (by decide)
  have o61 : F59 a0 = .inr (4, [.ref z30, .ref z32, .ref z34, .ref z36, .ref z38, .ref z40, .ref z42, .int z15, .int z46, .int z48, .int z50, .int z52, .int z53, .int z55, .int z56]) := by rw [hF60]; exact th_up
  refine lv_aload_n hx hb dX4_copyFrom_8 rfl (lv_at hl 0 rfl) ?_
  refine lv_aload_n hx hb dX4_copyFrom_9 rfl (lv_at hl 1 rfl) ?_
  obtain ⟨z62, z64, z66, z68, z70, z72, z74, z76, z78, z80, z82, z84, z85, z87, z88, o90, h63, h65, h67, h69, h71, h73, h75, h77, h79, h81, h83, h86, h89, -⟩ := s_op5 hI ha1
  refine th_get (D := (dC, dI)) (ci := 4) (v := .int z78) (C := RX4) (T := TX4) (N := 15) hx hb hts inX4 hown hK hP (hLK _ ha1 (by decide)) o90 rfl 8 (by decide) (hts _ T_838) (fun _ h9 => h9) rfl dX4_copyFrom_10 ?_
  refine lv_aload_n hx hb dX4_copyFrom_13 rfl (lv_at hl 1 rfl) ?_
  refine th_get (D := (dC, dI)) (ci := 4) (v := .int z80) (C := RX4) (T := TX4) (N := 15) hx hb hts inX4 hown hK hP (hLK _ ha1 (by decide)) o90 rfl 9 (by decide) (hts _ T_841) (fun _ h9 => h9) rfl dX4_copyFrom_14 ?_
  refine lv_aload_n hx hb dX4_copyFrom_17 rfl (lv_at hl 1 rfl) ?_
  refine th_get (D := (dC, dI)) (ci := 4) (v := .int z82) (C := RX4) (T := TX4) (N := 15) hx hb hts inX4 hown hK hP (hLK _ ha1 (by decide)) o90 rfl 10 (by decide) (hts _ T_842) (fun _ h9 => h9) rfl dX4_copyFrom_18 ?_
  refine va_callv (va_runV (As := [.int z78, .int z80, .int z82]) (rest := []) ⟨hx, hb, hml, hown, hts⟩ (s_X4_lay l dC dI H.size hLK D F59 a0 z78 z80 z82 ha0 (⟨by omega, by omega⟩) (⟨by omega, by omega⟩) (⟨by omega, by omega⟩) hI) (cwV 3 hts (ax_gV T_843 T_552 T_553 T_142 T_551) rfl rfl rfl (by decide +kernel) ⟨Nat.le_of_ble_eq_true rfl, Nat.le_of_ble_eq_true rfl⟩) ⟨fun a U g mk q => ⟨q.1, s_pc (U := U) rfl rfl q.2⟩, s_recv hK hP (hLK _ ha0 (by decide)) (ci := 4) rfl o61, fun U hU hW => ⟨rfl, s_pw hU hW hP hK hD hN⟩⟩ rfl rfl hl.1 rfl (lv_room (Nat.le_of_ble_eq_true rfl)) dX4_copyFrom_21 ⟨Nat.zero_le _, Nat.zero_le _⟩) hS (fun q _ h => h) (fun q h => h) (fun F91 t H1 locs ht hvm hw hB hz1 hk1 hS => ?_)
  obtain ⟨hP, hK1⟩ := hB
  rw [ht] at hP
  generalize H1 = H at hP hS ⊢
  clear hz1 hk1
  obtain ⟨h92, h93, hI, hfr1⟩ := hw
  have hfr : ∀ b, K b ∉ [5, 6, 24, 27, 28, 29, 30, 31, 32] → F91 b = F b := fun b hb9 => (hfr1 b (fun q => hb9 (s_sub (by decide) q))).trans (hfr b hb9)
  refine lv_aload_n hx hb dX4_copyFrom_24 rfl (lv_at hl 0 rfl) ?_
  refine lv_aload_n hx hb dX4_copyFrom_25 rfl (lv_at hl 1 rfl) ?_
  obtain ⟨z94, z96, z98, z100, z102, z104, z106, z108, z110, z112, z114, z116, z117, z119, z120, o122, h95, h97, h99, h101, h103, h105, h107, h109, h111, h113, h115, h118, h121, -⟩ := s_op5 hI ha1
  refine th_get (D := (dC, dI)) (ci := 4) (v := .int z116) (C := RX4) (T := TX4) (N := 15) hx hb hts inX4 hown hK hP (hLK _ ha1 (by decide)) o122 rfl 11 (by decide) (hts _ T_837) (fun _ h9 => h9) rfl dX4_copyFrom_26 ?_
  obtain ⟨z123, z125, z127, z129, z131, z133, z135, z137, z139, z141, z143, z145, z146, z148, z149, o151, h124, h126, h128, h130, h132, h134, h136, h138, h140, h142, h144, h147, h150, -⟩ := s_op5 hI ha0
  refine th_put (D := (dC, dI)) (ci := 4) (v := .int z116) (ty := .int) (C := RX4) (T := TX4) (N := 15) hx hb hts inX4 tyX4 tyX4_ok nmX4 hown hK hP hD hS (hLK _ ha0 (by decide)) o151 rfl 11 (by decide) (hts _ T_837) (fun _ h9 => h9) rfl (by decide +kernel) rfl rfl (Nat.le_of_ble_eq_true rfl) dX4_copyFrom_29 (fun H locs hP hS => ?_)
  have hP : va_P (dC, dI) vwCl (va_pl L (va_up F91 a0 (.inr (4, [.ref z123, .ref z125, .ref z127, .ref z129, .ref z131, .ref z133, .ref z135, .int z137, .int z139, .int z141, .int z143, .int z116, .int z146, .int z148, .int z149])))) H := hP
  obtain ⟨F152, hF153⟩ : ∃ G : Nat → va_E, G = va_up F91 a0 (.inr (4, [.ref z123, .ref z125, .ref z127, .ref z129, .ref z131, .ref z133, .ref z135, .int z137, .int z139, .int z141, .int z143, .int z116, .int z146, .int z148, .int z149])) := ⟨_, rfl⟩
  rw [← hF153] at hP
  have hI : s_I K cs D F152 := by rw [hF153]; exact s_cl5 hI ha0 ⟨z123, z125, z127, z129, z131, z133, z135, z137, z139, z141, z143, z116, z146, z148, z149, rfl, h124, h126, h128, h130, h132, h134, h136, ⟨by omega, by omega⟩, ⟨by omega, by omega⟩, ⟨by omega, by omega⟩, ⟨by omega, by omega⟩, ⟨by omega, by omega⟩, ⟨by omega, by omega⟩, trivial⟩
  have hfr : ∀ b, K b ∉ [5, 6, 24, 27, 28, 29, 30, 31, 32] → F152 b = F b := by rw [hF153]; exact s_fr hfr ha0 (by decide)
  have o154 : F152 a0 = .inr (4, [.ref z123, .ref z125, .ref z127, .ref z129, .ref z131, .ref z133, .ref z135, .int z137, .int z139, .int z141, .int z143, .int z116, .int z146, .int z148, .int z149]) := by rw [hF153]; exact th_up
  refine lv_aload_n hx hb dX4_copyFrom_32 rfl (lv_at hl 0 rfl) ?_
  refine lv_aload_n hx hb dX4_copyFrom_33 rfl (lv_at hl 1 rfl) ?_
  obtain ⟨z155, z157, z159, z161, z163, z165, z167, z169, z171, z173, z175, z177, z178, z180, z181, o183, h156, h158, h160, h162, h164, h166, h168, h170, h172, h174, h176, h179, h182, -⟩ := s_op5 hI ha1
  refine th_get (D := (dC, dI)) (ci := 4) (v := .int z178) (C := RX4) (T := TX4) (N := 15) hx hb hts inX4 hown hK hP (hLK _ ha1 (by decide)) o183 rfl 12 (by decide) (hts _ T_844) (fun _ h9 => h9) rfl dX4_copyFrom_34 ?_
  refine th_put (D := (dC, dI)) (ci := 4) (v := .int z178) (ty := .int) (C := RX4) (T := TX4) (N := 15) hx hb hts inX4 tyX4 tyX4_ok nmX4 hown hK hP hD hS (hLK _ ha0 (by decide)) o154 rfl 12 (by decide) (hts _ T_844) (fun _ h9 => h9) rfl (by decide +kernel) rfl rfl (Nat.le_of_ble_eq_true rfl) dX4_copyFrom_37 (fun H locs hP hS => ?_)
  have hP : va_P (dC, dI) vwCl (va_pl L (va_up F152 a0 (.inr (4, [.ref z123, .ref z125, .ref z127, .ref z129, .ref z131, .ref z133, .ref z135, .int z137, .int z139, .int z141, .int z143, .int z116, .int z178, .int z148, .int z149])))) H := hP
  obtain ⟨F184, hF185⟩ : ∃ G : Nat → va_E, G = va_up F152 a0 (.inr (4, [.ref z123, .ref z125, .ref z127, .ref z129, .ref z131, .ref z133, .ref z135, .int z137, .int z139, .int z141, .int z143, .int z116, .int z178, .int z148, .int z149])) := ⟨_, rfl⟩
  rw [← hF185] at hP
  have hI : s_I K cs D F184 := by rw [hF185]; exact s_cl5 hI ha0 ⟨z123, z125, z127, z129, z131, z133, z135, z137, z139, z141, z143, z116, z178, z148, z149, rfl, h124, h126, h128, h130, h132, h134, h136, ⟨by omega, by omega⟩, ⟨by omega, by omega⟩, ⟨by omega, by omega⟩, ⟨by omega, by omega⟩, ⟨by omega, by omega⟩, ⟨by omega, by omega⟩, trivial⟩
  have hfr : ∀ b, K b ∉ [5, 6, 24, 27, 28, 29, 30, 31, 32] → F184 b = F b := by rw [hF185]; exact s_fr hfr ha0 (by decide)
  have o186 : F184 a0 = .inr (4, [.ref z123, .ref z125, .ref z127, .ref z129, .ref z131, .ref z133, .ref z135, .int z137, .int z139, .int z141, .int z143, .int z116, .int z178, .int z148, .int z149]) := by rw [hF185]; exact th_up
  refine lv_aload_n hx hb dX4_copyFrom_40 rfl (lv_at hl 0 rfl) ?_
  refine lv_aload_n hx hb dX4_copyFrom_41 rfl (lv_at hl 1 rfl) ?_
  obtain ⟨z187, z189, z191, z193, z195, z197, z199, z201, z203, z205, z207, z209, z210, z212, z213, o215, h188, h190, h192, h194, h196, h198, h200, h202, h204, h206, h208, h211, h214, -⟩ := s_op5 hI ha1
  refine th_get (D := (dC, dI)) (ci := 4) (v := .int z212) (C := RX4) (T := TX4) (N := 15) hx hb hts inX4 hown hK hP (hLK _ ha1 (by decide)) o215 rfl 13 (by decide) (hts _ T_845) (fun _ h9 => h9) rfl dX4_copyFrom_42 ?_
  refine th_put (D := (dC, dI)) (ci := 4) (v := .int z212) (ty := .int) (C := RX4) (T := TX4) (N := 15) hx hb hts inX4 tyX4 tyX4_ok nmX4 hown hK hP hD hS (hLK _ ha0 (by decide)) o186 rfl 13 (by decide) (hts _ T_845) (fun _ h9 => h9) rfl (by decide +kernel) rfl rfl (Nat.le_of_ble_eq_true rfl) dX4_copyFrom_45 (fun H locs hP hS => ?_)
  have hP : va_P (dC, dI) vwCl (va_pl L (va_up F184 a0 (.inr (4, [.ref z123, .ref z125, .ref z127, .ref z129, .ref z131, .ref z133, .ref z135, .int z137, .int z139, .int z141, .int z143, .int z116, .int z178, .int z212, .int z149])))) H := hP
  obtain ⟨F216, hF217⟩ : ∃ G : Nat → va_E, G = va_up F184 a0 (.inr (4, [.ref z123, .ref z125, .ref z127, .ref z129, .ref z131, .ref z133, .ref z135, .int z137, .int z139, .int z141, .int z143, .int z116, .int z178, .int z212, .int z149])) := ⟨_, rfl⟩
  rw [← hF217] at hP
  have hI : s_I K cs D F216 := by rw [hF217]; exact s_cl5 hI ha0 ⟨z123, z125, z127, z129, z131, z133, z135, z137, z139, z141, z143, z116, z178, z212, z149, rfl, h124, h126, h128, h130, h132, h134, h136, ⟨by omega, by omega⟩, ⟨by omega, by omega⟩, ⟨by omega, by omega⟩, ⟨by omega, by omega⟩, ⟨by omega, by omega⟩, ⟨by omega, by omega⟩, trivial⟩
  have hfr : ∀ b, K b ∉ [5, 6, 24, 27, 28, 29, 30, 31, 32] → F216 b = F b := by rw [hF217]; exact s_fr hfr ha0 (by decide)
  have o218 : F216 a0 = .inr (4, [.ref z123, .ref z125, .ref z127, .ref z129, .ref z131, .ref z133, .ref z135, .int z137, .int z139, .int z141, .int z143, .int z116, .int z178, .int z212, .int z149]) := by rw [hF217]; exact th_up
  refine lv_aload_n hx hb dX4_copyFrom_48 rfl (lv_at hl 0 rfl) ?_
  refine lv_aload_n hx hb dX4_copyFrom_49 rfl (lv_at hl 1 rfl) ?_
  obtain ⟨z219, z221, z223, z225, z227, z229, z231, z233, z235, z237, z239, z241, z242, z244, z245, o247, h220, h222, h224, h226, h228, h230, h232, h234, h236, h238, h240, h243, h246, -⟩ := s_op5 hI ha1
  refine th_get (D := (dC, dI)) (ci := 4) (v := .int z245) (C := RX4) (T := TX4) (N := 15) hx hb hts inX4 hown hK hP (hLK _ ha1 (by decide)) o247 rfl 14 (by decide) (hts _ T_114) (fun _ h9 => h9) rfl dX4_copyFrom_50 ?_
  refine th_put (D := (dC, dI)) (ci := 4) (v := .int z245) (ty := .int) (C := RX4) (T := TX4) (N := 15) hx hb hts inX4 tyX4 tyX4_ok nmX4 hown hK hP hD hS (hLK _ ha0 (by decide)) o218 rfl 14 (by decide) (hts _ T_114) (fun _ h9 => h9) rfl (by decide +kernel) rfl rfl (Nat.le_of_ble_eq_true rfl) dX4_copyFrom_53 (fun H locs hP hS => ?_)
  have hP : va_P (dC, dI) vwCl (va_pl L (va_up F216 a0 (.inr (4, [.ref z123, .ref z125, .ref z127, .ref z129, .ref z131, .ref z133, .ref z135, .int z137, .int z139, .int z141, .int z143, .int z116, .int z178, .int z212, .int z245])))) H := hP
  obtain ⟨F248, hF249⟩ : ∃ G : Nat → va_E, G = va_up F216 a0 (.inr (4, [.ref z123, .ref z125, .ref z127, .ref z129, .ref z131, .ref z133, .ref z135, .int z137, .int z139, .int z141, .int z143, .int z116, .int z178, .int z212, .int z245])) := ⟨_, rfl⟩
  rw [← hF249] at hP
  have hI : s_I K cs D F248 := by rw [hF249]; exact s_cl5 hI ha0 ⟨z123, z125, z127, z129, z131, z133, z135, z137, z139, z141, z143, z116, z178, z212, z245, rfl, h124, h126, h128, h130, h132, h134, h136, ⟨by omega, by omega⟩, ⟨by omega, by omega⟩, ⟨by omega, by omega⟩, ⟨by omega, by omega⟩, ⟨by omega, by omega⟩, ⟨by omega, by omega⟩, trivial⟩
  have hfr : ∀ b, K b ∉ [5, 6, 24, 27, 28, 29, 30, 31, 32] → F248 b = F b := by rw [hF249]; exact s_fr hfr ha0 (by decide)
  have o250 : F248 a0 = .inr (4, [.ref z123, .ref z125, .ref z127, .ref z129, .ref z131, .ref z133, .ref z135, .int z137, .int z139, .int z141, .int z143, .int z116, .int z178, .int z212, .int z245]) := by rw [hF249]; exact th_up
  refine lv_aload_n hx hb dX4_copyFrom_56 rfl (lv_at hl 1 rfl) ?_
  obtain ⟨z251, z253, z255, z257, z259, z261, z263, z265, z267, z269, z271, z273, z274, z276, z277, o279, h252, h254, h256, h258, h260, h262, h264, h266, h268, h270, h272, h275, h278, -⟩ := s_op5 hI ha1
  refine th_get (D := (dC, dI)) (ci := 4) (v := .ref z253) (C := RX4) (T := TX4) (N := 15) hx hb hts inX4 hown hK hP (hLK _ ha1 (by decide)) o279 rfl 1 (by decide) (hts _ T_108) (fun _ h9 => h9) rfl dX4_copyFrom_57 ?_
  refine lv_iconst (v := 0) hx hb dX4_copyFrom_60 (by decide) ?_
  refine lv_aload_n hx hb dX4_copyFrom_61 rfl (lv_at hl 0 rfl) ?_
  refine th_get (D := (dC, dI)) (ci := 4) (v := .ref z125) (C := RX4) (T := TX4) (N := 15) hx hb hts inX4 hown hK hP (hLK _ ha0 (by decide)) o250 rfl 1 (by decide) (hts _ T_108) (fun _ h9 => h9) rfl dX4_copyFrom_62 ?_
  refine lv_iconst (v := 0) hx hb dX4_copyFrom_65 (by decide) ?_
  refine lv_bipush (v := 64) hx hb dX4_copyFrom_66 (by decide) ?_
  obtain ⟨f280, o281, h282⟩ := s_op24 hI h254
  obtain ⟨f283, o284, h285⟩ := s_op24 hI h126
  refine th_copy hx hb (by rw [hml]; exact hl.1.symm) hown (hts _ T_846) (hts _ T_847) (hts _ T_848) (hts _ T_849) hK hP hD hS (hLK _ h254 (by decide)) (hLK _ h126 (by decide)) 0 0 o281 o284 rfl rfl (by decide) (by decide) (by decide) (by decide) (by decide) (fun i _ => rfl) (Nat.le_of_ble_eq_true rfl) (Nat.le_of_ble_eq_true rfl) dX4_copyFrom_68 (fun H locs hP hS => ?_)
  have hP : va_P (dC, dI) vwCl (va_pl L (va_up F248 z125 (.inl (cs 0, 64, .inl (va_cpy f280 f283 (0 : Int32).toNatClampNeg (0 : Int32).toNatClampNeg (64 : Int32).toNatClampNeg))))) H := hP
  obtain ⟨F286, hF287⟩ : ∃ G : Nat → va_E, G = va_up F248 z125 (.inl (cs 0, 64, .inl (va_cpy f280 f283 (0 : Int32).toNatClampNeg (0 : Int32).toNatClampNeg (64 : Int32).toNatClampNeg))) := ⟨_, rfl⟩
  rw [← hF287] at hP
  have hI : s_I K cs D F286 := by rw [hF287]; exact s_cl24 hI h126 ⟨_, rfl, trivial⟩
  have hfr : ∀ b, K b ∉ [5, 6, 24, 27, 28, 29, 30, 31, 32] → F286 b = F b := by rw [hF287]; exact s_fr hfr h126 (by decide)
  have o288 : F286 a0 = .inr (4, [.ref z123, .ref z125, .ref z127, .ref z129, .ref z131, .ref z133, .ref z135, .int z137, .int z139, .int z141, .int z143, .int z116, .int z178, .int z212, .int z245]) := by rw [hF287]; exact th_ne (th_kd ha0 h126 (by decide)) o250
  have o289 : F286 a1 = .inr (4, [.ref z251, .ref z253, .ref z255, .ref z257, .ref z259, .ref z261, .ref z263, .int z265, .int z267, .int z269, .int z271, .int z273, .int z274, .int z276, .int z277]) := by rw [hF287]; exact th_ne (th_kd ha1 h126 (by decide)) o279
  refine lv_aload_n hx hb dX4_copyFrom_71 rfl (lv_at hl 1 rfl) ?_
  refine th_get (D := (dC, dI)) (ci := 4) (v := .ref z255) (C := RX4) (T := TX4) (N := 15) hx hb hts inX4 hown hK hP (hLK _ ha1 (by decide)) o289 rfl 2 (by decide) (hts _ T_109) (fun _ h9 => h9) rfl dX4_copyFrom_72 ?_
  refine lv_iconst (v := 0) hx hb dX4_copyFrom_75 (by decide) ?_
  refine lv_aload_n hx hb dX4_copyFrom_76 rfl (lv_at hl 0 rfl) ?_
  refine th_get (D := (dC, dI)) (ci := 4) (v := .ref z127) (C := RX4) (T := TX4) (N := 15) hx hb hts inX4 hown hK hP (hLK _ ha0 (by decide)) o288 rfl 2 (by decide) (hts _ T_109) (fun _ h9 => h9) rfl dX4_copyFrom_77 ?_
  refine lv_iconst (v := 0) hx hb dX4_copyFrom_80 (by decide) ?_
  refine lv_bipush (v := 32) hx hb dX4_copyFrom_81 (by decide) ?_
  obtain ⟨f290, o291, h292⟩ := s_op27 hI h256
  obtain ⟨f293, o294, h295⟩ := s_op27 hI h128
  refine th_copy hx hb (by rw [hml]; exact hl.1.symm) hown (hts _ T_846) (hts _ T_847) (hts _ T_848) (hts _ T_849) hK hP hD hS (hLK _ h256 (by decide)) (hLK _ h128 (by decide)) 0 0 o291 o294 rfl rfl (by decide) (by decide) (by decide) (by decide) (by decide) (fun i _ => rfl) (Nat.le_of_ble_eq_true rfl) (Nat.le_of_ble_eq_true rfl) dX4_copyFrom_83 (fun H locs hP hS => ?_)
  have hP : va_P (dC, dI) vwCl (va_pl L (va_up F286 z127 (.inl (cs 0, 32, .inl (va_cpy f290 f293 (0 : Int32).toNatClampNeg (0 : Int32).toNatClampNeg (32 : Int32).toNatClampNeg))))) H := hP
  obtain ⟨F296, hF297⟩ : ∃ G : Nat → va_E, G = va_up F286 z127 (.inl (cs 0, 32, .inl (va_cpy f290 f293 (0 : Int32).toNatClampNeg (0 : Int32).toNatClampNeg (32 : Int32).toNatClampNeg))) := ⟨_, rfl⟩
  rw [← hF297] at hP
  have hI : s_I K cs D F296 := by rw [hF297]; exact s_cl27 hI h128 ⟨_, rfl, trivial⟩
  have hfr : ∀ b, K b ∉ [5, 6, 24, 27, 28, 29, 30, 31, 32] → F296 b = F b := by rw [hF297]; exact s_fr hfr h128 (by decide)
  have o298 : F296 a0 = .inr (4, [.ref z123, .ref z125, .ref z127, .ref z129, .ref z131, .ref z133, .ref z135, .int z137, .int z139, .int z141, .int z143, .int z116, .int z178, .int z212, .int z245]) := by rw [hF297]; exact th_ne (th_kd ha0 h128 (by decide)) o288
  have o299 : F296 a1 = .inr (4, [.ref z251, .ref z253, .ref z255, .ref z257, .ref z259, .ref z261, .ref z263, .int z265, .int z267, .int z269, .int z271, .int z273, .int z274, .int z276, .int z277]) := by rw [hF297]; exact th_ne (th_kd ha1 h128 (by decide)) o289
  refine lv_aload_n hx hb dX4_copyFrom_86 rfl (lv_at hl 1 rfl) ?_
  refine th_get (D := (dC, dI)) (ci := 4) (v := .ref z257) (C := RX4) (T := TX4) (N := 15) hx hb hts inX4 hown hK hP (hLK _ ha1 (by decide)) o299 rfl 3 (by decide) (hts _ T_110) (fun _ h9 => h9) rfl dX4_copyFrom_87 ?_
  refine lv_iconst (v := 0) hx hb dX4_copyFrom_90 (by decide) ?_
  refine lv_aload_n hx hb dX4_copyFrom_91 rfl (lv_at hl 0 rfl) ?_
  refine th_get (D := (dC, dI)) (ci := 4) (v := .ref z129) (C := RX4) (T := TX4) (N := 15) hx hb hts inX4 hown hK hP (hLK _ ha0 (by decide)) o298 rfl 3 (by decide) (hts _ T_110) (fun _ h9 => h9) rfl dX4_copyFrom_92 ?_
  refine lv_iconst (v := 0) hx hb dX4_copyFrom_95 (by decide) ?_
  refine lv_aload_n hx hb dX4_copyFrom_96 rfl (lv_at hl 0 rfl) ?_
  refine th_get (D := (dC, dI)) (ci := 4) (v := .ref z129) (C := RX4) (T := TX4) (N := 15) hx hb hts inX4 hown hK hP (hLK _ ha0 (by decide)) o298 rfl 3 (by decide) (hts _ T_110) (fun _ h9 => h9) rfl dX4_copyFrom_97 ?_
  obtain ⟨f300, o301, h302⟩ := s_op28 hI h130
  refine th_alen hx hb hK hP (hLK _ h130 (by decide)) 0 o301 rfl (v := 96) rfl dX4_copyFrom_100 ?_
  obtain ⟨f303, o304, h305⟩ := s_op28 hI h258
  obtain ⟨f306, o307, h308⟩ := s_op28 hI h130
  refine th_copy hx hb (by rw [hml]; exact hl.1.symm) hown (hts _ T_846) (hts _ T_847) (hts _ T_848) (hts _ T_849) hK hP hD hS (hLK _ h258 (by decide)) (hLK _ h130 (by decide)) 0 0 o304 o307 rfl rfl (by decide) (by decide) (by decide) (by decide) (by decide) (fun i _ => rfl) (Nat.le_of_ble_eq_true rfl) (Nat.le_of_ble_eq_true rfl) dX4_copyFrom_101 (fun H locs hP hS => ?_)
  have hP : va_P (dC, dI) vwCl (va_pl L (va_up F296 z129 (.inl (cs 0, 96, .inl (va_cpy f303 f306 (0 : Int32).toNatClampNeg (0 : Int32).toNatClampNeg (96 : Int32).toNatClampNeg))))) H := hP
  obtain ⟨F309, hF310⟩ : ∃ G : Nat → va_E, G = va_up F296 z129 (.inl (cs 0, 96, .inl (va_cpy f303 f306 (0 : Int32).toNatClampNeg (0 : Int32).toNatClampNeg (96 : Int32).toNatClampNeg))) := ⟨_, rfl⟩
  rw [← hF310] at hP
  have hI : s_I K cs D F309 := by rw [hF310]; exact s_cl28 hI h130 ⟨_, rfl, trivial⟩
  have hfr : ∀ b, K b ∉ [5, 6, 24, 27, 28, 29, 30, 31, 32] → F309 b = F b := by rw [hF310]; exact s_fr hfr h130 (by decide)
  have o311 : F309 a0 = .inr (4, [.ref z123, .ref z125, .ref z127, .ref z129, .ref z131, .ref z133, .ref z135, .int z137, .int z139, .int z141, .int z143, .int z116, .int z178, .int z212, .int z245]) := by rw [hF310]; exact th_ne (th_kd ha0 h130 (by decide)) o298
  have o312 : F309 a1 = .inr (4, [.ref z251, .ref z253, .ref z255, .ref z257, .ref z259, .ref z261, .ref z263, .int z265, .int z267, .int z269, .int z271, .int z273, .int z274, .int z276, .int z277]) := by rw [hF310]; exact th_ne (th_kd ha1 h130 (by decide)) o299
  refine lv_aload_n hx hb dX4_copyFrom_104 rfl (lv_at hl 1 rfl) ?_
  refine th_get (D := (dC, dI)) (ci := 4) (v := .ref z259) (C := RX4) (T := TX4) (N := 15) hx hb hts inX4 hown hK hP (hLK _ ha1 (by decide)) o312 rfl 4 (by decide) (hts _ T_111) (fun _ h9 => h9) rfl dX4_copyFrom_105 ?_
  refine lv_iconst (v := 0) hx hb dX4_copyFrom_108 (by decide) ?_
  refine lv_aload_n hx hb dX4_copyFrom_109 rfl (lv_at hl 0 rfl) ?_
  refine th_get (D := (dC, dI)) (ci := 4) (v := .ref z131) (C := RX4) (T := TX4) (N := 15) hx hb hts inX4 hown hK hP (hLK _ ha0 (by decide)) o311 rfl 4 (by decide) (hts _ T_111) (fun _ h9 => h9) rfl dX4_copyFrom_110 ?_
  refine lv_iconst (v := 0) hx hb dX4_copyFrom_113 (by decide) ?_
  refine lv_aload_n hx hb dX4_copyFrom_114 rfl (lv_at hl 0 rfl) ?_
  refine th_get (D := (dC, dI)) (ci := 4) (v := .ref z131) (C := RX4) (T := TX4) (N := 15) hx hb hts inX4 hown hK hP (hLK _ ha0 (by decide)) o311 rfl 4 (by decide) (hts _ T_111) (fun _ h9 => h9) rfl dX4_copyFrom_115 ?_
  obtain ⟨f313, o314, h315⟩ := s_op28 hI h132
  refine th_alen hx hb hK hP (hLK _ h132 (by decide)) 0 o314 rfl (v := 96) rfl dX4_copyFrom_118 ?_
  obtain ⟨f316, o317, h318⟩ := s_op28 hI h260
  obtain ⟨f319, o320, h321⟩ := s_op28 hI h132
  refine th_copy hx hb (by rw [hml]; exact hl.1.symm) hown (hts _ T_846) (hts _ T_847) (hts _ T_848) (hts _ T_849) hK hP hD hS (hLK _ h260 (by decide)) (hLK _ h132 (by decide)) 0 0 o317 o320 rfl rfl (by decide) (by decide) (by decide) (by decide) (by decide) (fun i _ => rfl) (Nat.le_of_ble_eq_true rfl) (Nat.le_of_ble_eq_true rfl) dX4_copyFrom_119 (fun H locs hP hS => ?_)
  have hP : va_P (dC, dI) vwCl (va_pl L (va_up F309 z131 (.inl (cs 0, 96, .inl (va_cpy f316 f319 (0 : Int32).toNatClampNeg (0 : Int32).toNatClampNeg (96 : Int32).toNatClampNeg))))) H := hP
  obtain ⟨F322, hF323⟩ : ∃ G : Nat → va_E, G = va_up F309 z131 (.inl (cs 0, 96, .inl (va_cpy f316 f319 (0 : Int32).toNatClampNeg (0 : Int32).toNatClampNeg (96 : Int32).toNatClampNeg))) := ⟨_, rfl⟩
  rw [← hF323] at hP
  have hI : s_I K cs D F322 := by rw [hF323]; exact s_cl28 hI h132 ⟨_, rfl, trivial⟩
  have hfr : ∀ b, K b ∉ [5, 6, 24, 27, 28, 29, 30, 31, 32] → F322 b = F b := by rw [hF323]; exact s_fr hfr h132 (by decide)
  have o324 : F322 a0 = .inr (4, [.ref z123, .ref z125, .ref z127, .ref z129, .ref z131, .ref z133, .ref z135, .int z137, .int z139, .int z141, .int z143, .int z116, .int z178, .int z212, .int z245]) := by rw [hF323]; exact th_ne (th_kd ha0 h132 (by decide)) o311
  have o325 : F322 a1 = .inr (4, [.ref z251, .ref z253, .ref z255, .ref z257, .ref z259, .ref z261, .ref z263, .int z265, .int z267, .int z269, .int z271, .int z273, .int z274, .int z276, .int z277]) := by rw [hF323]; exact th_ne (th_kd ha1 h132 (by decide)) o312
  refine lv_aload_n hx hb dX4_copyFrom_122 rfl (lv_at hl 1 rfl) ?_
  refine th_get (D := (dC, dI)) (ci := 4) (v := .ref z261) (C := RX4) (T := TX4) (N := 15) hx hb hts inX4 hown hK hP (hLK _ ha1 (by decide)) o325 rfl 5 (by decide) (hts _ T_112) (fun _ h9 => h9) rfl dX4_copyFrom_123 ?_
  refine lv_iconst (v := 0) hx hb dX4_copyFrom_126 (by decide) ?_
  refine lv_aload_n hx hb dX4_copyFrom_127 rfl (lv_at hl 0 rfl) ?_
  refine th_get (D := (dC, dI)) (ci := 4) (v := .ref z133) (C := RX4) (T := TX4) (N := 15) hx hb hts inX4 hown hK hP (hLK _ ha0 (by decide)) o324 rfl 5 (by decide) (hts _ T_112) (fun _ h9 => h9) rfl dX4_copyFrom_128 ?_
  refine lv_iconst (v := 0) hx hb dX4_copyFrom_131 (by decide) ?_
  refine lv_aload_n hx hb dX4_copyFrom_132 rfl (lv_at hl 0 rfl) ?_
  refine th_get (D := (dC, dI)) (ci := 4) (v := .ref z133) (C := RX4) (T := TX4) (N := 15) hx hb hts inX4 hown hK hP (hLK _ ha0 (by decide)) o324 rfl 5 (by decide) (hts _ T_112) (fun _ h9 => h9) rfl dX4_copyFrom_133 ?_
  obtain ⟨f326, o327, h328⟩ := s_op28 hI h134
  refine th_alen hx hb hK hP (hLK _ h134 (by decide)) 0 o327 rfl (v := 96) rfl dX4_copyFrom_136 ?_
  obtain ⟨f329, o330, h331⟩ := s_op28 hI h262
  obtain ⟨f332, o333, h334⟩ := s_op28 hI h134
  refine th_copy hx hb (by rw [hml]; exact hl.1.symm) hown (hts _ T_846) (hts _ T_847) (hts _ T_848) (hts _ T_849) hK hP hD hS (hLK _ h262 (by decide)) (hLK _ h134 (by decide)) 0 0 o330 o333 rfl rfl (by decide) (by decide) (by decide) (by decide) (by decide) (fun i _ => rfl) (Nat.le_of_ble_eq_true rfl) (Nat.le_of_ble_eq_true rfl) dX4_copyFrom_137 (fun H locs hP hS => ?_)
  have hP : va_P (dC, dI) vwCl (va_pl L (va_up F322 z133 (.inl (cs 0, 96, .inl (va_cpy f329 f332 (0 : Int32).toNatClampNeg (0 : Int32).toNatClampNeg (96 : Int32).toNatClampNeg))))) H := hP
  obtain ⟨F335, hF336⟩ : ∃ G : Nat → va_E, G = va_up F322 z133 (.inl (cs 0, 96, .inl (va_cpy f329 f332 (0 : Int32).toNatClampNeg (0 : Int32).toNatClampNeg (96 : Int32).toNatClampNeg))) := ⟨_, rfl⟩
  rw [← hF336] at hP
  have hI : s_I K cs D F335 := by rw [hF336]; exact s_cl28 hI h134 ⟨_, rfl, trivial⟩
  have hfr : ∀ b, K b ∉ [5, 6, 24, 27, 28, 29, 30, 31, 32] → F335 b = F b := by rw [hF336]; exact s_fr hfr h134 (by decide)
  have o337 : F335 a0 = .inr (4, [.ref z123, .ref z125, .ref z127, .ref z129, .ref z131, .ref z133, .ref z135, .int z137, .int z139, .int z141, .int z143, .int z116, .int z178, .int z212, .int z245]) := by rw [hF336]; exact th_ne (th_kd ha0 h134 (by decide)) o324
  have o338 : F335 a1 = .inr (4, [.ref z251, .ref z253, .ref z255, .ref z257, .ref z259, .ref z261, .ref z263, .int z265, .int z267, .int z269, .int z271, .int z273, .int z274, .int z276, .int z277]) := by rw [hF336]; exact th_ne (th_kd ha1 h134 (by decide)) o325
  refine lv_aload_n hx hb dX4_copyFrom_140 rfl (lv_at hl 1 rfl) ?_
  refine th_get (D := (dC, dI)) (ci := 4) (v := .ref z263) (C := RX4) (T := TX4) (N := 15) hx hb hts inX4 hown hK hP (hLK _ ha1 (by decide)) o338 rfl 6 (by decide) (hts _ T_113) (fun _ h9 => h9) rfl dX4_copyFrom_141 ?_
  refine lv_iconst (v := 0) hx hb dX4_copyFrom_144 (by decide) ?_
  refine lv_aload_n hx hb dX4_copyFrom_145 rfl (lv_at hl 0 rfl) ?_
  refine th_get (D := (dC, dI)) (ci := 4) (v := .ref z135) (C := RX4) (T := TX4) (N := 15) hx hb hts inX4 hown hK hP (hLK _ ha0 (by decide)) o337 rfl 6 (by decide) (hts _ T_113) (fun _ h9 => h9) rfl dX4_copyFrom_146 ?_
  refine lv_iconst (v := 0) hx hb dX4_copyFrom_149 (by decide) ?_
  refine lv_aload_n hx hb dX4_copyFrom_150 rfl (lv_at hl 0 rfl) ?_
  refine th_get (D := (dC, dI)) (ci := 4) (v := .ref z135) (C := RX4) (T := TX4) (N := 15) hx hb hts inX4 hown hK hP (hLK _ ha0 (by decide)) o337 rfl 6 (by decide) (hts _ T_113) (fun _ h9 => h9) rfl dX4_copyFrom_151 ?_
  obtain ⟨f339, o340, h341⟩ := s_op29 hI h136
  refine th_alen hx hb hK hP (hLK _ h136 (by decide)) 0 o340 rfl (v := 150) rfl dX4_copyFrom_154 ?_
  obtain ⟨f342, o343, h344⟩ := s_op29 hI h264
  obtain ⟨f345, o346, h347⟩ := s_op29 hI h136
  refine th_copy hx hb (by rw [hml]; exact hl.1.symm) hown (hts _ T_846) (hts _ T_847) (hts _ T_848) (hts _ T_849) hK hP hD hS (hLK _ h264 (by decide)) (hLK _ h136 (by decide)) 0 0 o343 o346 rfl rfl (by decide) (by decide) (by decide) (by decide) (by decide) (fun i _ => rfl) (Nat.le_of_ble_eq_true rfl) (Nat.le_of_ble_eq_true rfl) dX4_copyFrom_155 (fun H locs hP hS => ?_)
  have hP : va_P (dC, dI) vwCl (va_pl L (va_up F335 z135 (.inl (cs 0, 150, .inl (va_cpy f342 f345 (0 : Int32).toNatClampNeg (0 : Int32).toNatClampNeg (150 : Int32).toNatClampNeg))))) H := hP
  obtain ⟨F348, hF349⟩ : ∃ G : Nat → va_E, G = va_up F335 z135 (.inl (cs 0, 150, .inl (va_cpy f342 f345 (0 : Int32).toNatClampNeg (0 : Int32).toNatClampNeg (150 : Int32).toNatClampNeg))) := ⟨_, rfl⟩
  rw [← hF349] at hP
  have hI : s_I K cs D F348 := by rw [hF349]; exact s_cl29 hI h136 ⟨_, rfl, trivial⟩
  have hfr : ∀ b, K b ∉ [5, 6, 24, 27, 28, 29, 30, 31, 32] → F348 b = F b := by rw [hF349]; exact s_fr hfr h136 (by decide)
  have o350 : F348 a0 = .inr (4, [.ref z123, .ref z125, .ref z127, .ref z129, .ref z131, .ref z133, .ref z135, .int z137, .int z139, .int z141, .int z143, .int z116, .int z178, .int z212, .int z245]) := by rw [hF349]; exact th_ne (th_kd ha0 h136 (by decide)) o337
  have o351 : F348 a1 = .inr (4, [.ref z251, .ref z253, .ref z255, .ref z257, .ref z259, .ref z261, .ref z263, .int z265, .int z267, .int z269, .int z271, .int z273, .int z274, .int z276, .int z277]) := by rw [hF349]; exact th_ne (th_kd ha1 h136 (by decide)) o338
  refine lv_iconst (v := 0) hx hb dX4_copyFrom_158 (by decide) ?_
  refine lv_istore_n (lv' := [(2, .int 0), (0, .ref a0), (1, .ref a1)]) hx hb dX4_copyFrom_159 rfl hl (by decide) rfl (fun ls hl => ?_)
  refine th_loop (fun n g H locs => ∃ (G : Nat → va_E) (ls : Array Slot) (w352 : Int32), g = F0 m 160 ls [] ∧ lv_has ls 3 [(0, .ref a0), (1, .ref a1), (2, .int w352)] ∧ s_I K cs D G ∧ va_P (dC, dI) vwCl (va_pl L G) H ∧ va_S (fun q => q ∈ L) s.heap H locs ∧ (∀ b, K b ∉ [5, 6, 24, 27, 28, 29, 30, 31, 32] → G b = F b) ∧ (0 ≤ w352.toInt ∧ w352.toInt ≤ 4) ∧ n = (5 - w352.toInt).toNat) _ ⟨F348, _, 0, rfl, lv_sub hl [1, 2, 0] rfl, hI, hP, hS, hfr, (by decide), rfl⟩ (fun n ih160 g H locs hq => ?_)
  obtain ⟨F9, ls, w352, rfl, hl, hI, hP, hS, hfr, h353, hn⟩ := hq
  have hn_160 := hn
  obtain ⟨n_160, hn9_160⟩ : ∃ q, q = n := ⟨_, rfl⟩
  refine lv_iload_n hx hb dX4_copyFrom_160 rfl (lv_at hl 2 rfl) ?_
  refine lv_iconst (v := 4) hx hb dX4_copyFrom_161 (by decide) ?_
  refine lv_icmp_ge (tgt := 186) hx hb dX4_copyFrom_162 (by decide) (fun c354 => ?_) (fun c354 => ?_)
  · have c354 := (ax_ge (n := 4) (by decide)).mp c354
    exact W.vret hx hb hr (fun t ht hW => ⟨⟨F9, rfl, ⟨trivial, trivial, hI, hfr⟩, by rw [ht]; exact hP, va_K.moved hW.alike hK⟩, hS.F ht⟩) hS.2.2 dX4_copyFrom_186
  · have c354 := mt (ax_ge (n := 4) (by decide)).mpr c354
    refine lv_aload_n hx hb dX4_copyFrom_165 rfl (lv_at hl 0 rfl) ?_
    obtain ⟨z355, z357, z359, z361, z363, z365, z367, z369, z371, z373, z375, z377, z378, z380, z381, o383, h356, h358, h360, h362, h364, h366, h368, h370, h372, h374, h376, h379, h382, -⟩ := s_op5 hI ha0
    refine th_get (D := (dC, dI)) (ci := 4) (v := .ref z355) (C := RX4) (T := TX4) (N := 15) hx hb hts inX4 hown hK hP (hLK _ ha0 (by decide)) o383 rfl 0 (by decide) (hts _ T_107) (fun _ h9 => h9) rfl dX4_copyFrom_166 ?_
    refine lv_iload_n hx hb dX4_copyFrom_169 rfl (lv_at hl 2 rfl) ?_
    obtain ⟨f384, o385, h386⟩ := s_op26 hI h356
    obtain ⟨z387, o389, h388⟩ := h386 (w352 : Int32).toNatClampNeg (th_cl ⟨by omega, by omega⟩)
    refine th_aald hx hb hK hP (hLK _ h356 (by decide)) 3 o385 rfl (th_in ⟨by omega, by omega⟩) o389 dX4_copyFrom_170 ?_
    refine lv_aload_n hx hb dX4_copyFrom_171 rfl (lv_at hl 1 rfl) ?_
    obtain ⟨z390, z392, z394, z396, z398, z400, z402, z404, z406, z408, z410, z412, z413, z415, z416, o418, h391, h393, h395, h397, h399, h401, h403, h405, h407, h409, h411, h414, h417, -⟩ := s_op5 hI ha1
    refine th_get (D := (dC, dI)) (ci := 4) (v := .ref z390) (C := RX4) (T := TX4) (N := 15) hx hb hts inX4 hown hK hP (hLK _ ha1 (by decide)) o418 rfl 0 (by decide) (hts _ T_107) (fun _ h9 => h9) rfl dX4_copyFrom_172 ?_
    refine lv_iload_n hx hb dX4_copyFrom_175 rfl (lv_at hl 2 rfl) ?_
    obtain ⟨f419, o420, h421⟩ := s_op26 hI h391
    obtain ⟨z422, o424, h423⟩ := h421 (w352 : Int32).toNatClampNeg (th_cl ⟨by omega, by omega⟩)
    refine th_aald hx hb hK hP (hLK _ h391 (by decide)) 3 o420 rfl (th_in ⟨by omega, by omega⟩) o424 dX4_copyFrom_176 ?_
    obtain ⟨z425, z427, z429, z431, z433, z435, z437, z438, z439, z440, z441, o443, h426, h428, h430, h432, h434, h436, h442, -⟩ := s_op6 hI h388
    refine va_callv (va_runV (As := [.ref z422]) (rest := []) ⟨hx, hb, hml, hown, hts⟩ (s_X5_copyFrom l dC dI H.size hLK D F9 z387 z422 h388 h423 hI) (cwV 1 hts (ax_gV T_850 T_852 T_853 T_116 T_851) rfl rfl rfl (by decide +kernel) ⟨Nat.le_of_ble_eq_true rfl, Nat.le_of_ble_eq_true rfl⟩) ⟨fun a U g mk q => ⟨q.1, s_pc (U := U) rfl rfl q.2⟩, s_recv hK hP (hLK _ h388 (by decide)) (ci := 5) rfl o443, fun U hU hW => ⟨rfl, s_pw hU hW hP hK hD hN⟩⟩ rfl rfl hl.1 rfl (lv_room (Nat.le_of_ble_eq_true rfl)) dX4_copyFrom_177 ⟨Nat.zero_le _, Nat.zero_le _⟩) hS (fun q _ h => h) (fun q h => h) (fun F444 t H1 locs ht hvm hw hB hz1 hk1 hS => ?_)
    obtain ⟨hP, hK1⟩ := hB
    rw [ht] at hP
    generalize H1 = H at hP hS ⊢
    clear hz1 hk1
    obtain ⟨h445, h446, hI, hfr1⟩ := hw
    have o447 : F444 a0 = .inr (4, [.ref z355, .ref z357, .ref z359, .ref z361, .ref z363, .ref z365, .ref z367, .int z369, .int z371, .int z373, .int z375, .int z377, .int z378, .int z380, .int z381]) := (hfr1 _ (by rw [ha0]; decide)).trans o383
    have o448 : F444 a1 = .inr (4, [.ref z390, .ref z392, .ref z394, .ref z396, .ref z398, .ref z400, .ref z402, .int z404, .int z406, .int z408, .int z410, .int z412, .int z413, .int z415, .int z416]) := (hfr1 _ (by rw [ha1]; decide)).trans o418
    have hfr : ∀ b, K b ∉ [5, 6, 24, 27, 28, 29, 30, 31, 32] → F444 b = F b := fun b hb9 => (hfr1 b (fun q => hb9 (s_sub (by decide) q))).trans (hfr b hb9)
    obtain ⟨v449, ev449⟩ : ∃ y : Int32, w352 + 1 = y := ⟨_, rfl⟩
    have qv449 : v449.toInt = w352.toInt + 1 := by rw [← ev449]; exact th_add rfl (by decide) ⟨by omega, by omega⟩
    refine lv_iinc (v := v449) (lv' := [(2, .int v449), (0, .ref a0), (1, .ref a1)]) hx hb dX4_copyFrom_180 hl (k := 2) rfl ev449 (by decide) rfl (fun ls hl => ?_)
    refine lv_goto (tgt := 160) hx hb dX4_copyFrom_183 (by decide) ?_
    exact ih160 _ _ _ _ (by omega) ⟨F444, _, v449, rfl, lv_sub hl [1, 2, 0] rfl, hI, hP, hS, hfr, ⟨by omega, by omega⟩, rfl⟩

set_option maxHeartbeats 4000000 in
set_option maxRecDepth 100000 in
theorem s_X4_restOfReady (l : Launch) (dC : Nat → ClassId) (dI : Nat → Nat → Nat) (sz : Nat) {L : List Nat} {K : Nat → Nat} {cs : Nat → ClassId} (hLK : ∀ a {k : Nat}, K a = k → k ≠ 0 → a ∈ L) (D : Nat) (F : Nat → va_E) (a0 : Nat) (x1 : Int32) (ha0 : K a0 = 5) (hx1 : 0 ≤ x1.toInt ∧ x1.toInt ≤ 3) (hI : s_I K cs D F) : Met l yX4_restOfReady (Cond.code yX4_restOfReady cX4_restOfReady 2 (some .int) :: T0) ({ frames := 1, cells := 0, slots := 0, locals := 13 }) (va_Pc [.ref a0, .int x1] (s_W dC dI sz L F [(cs 0, .int), (cs 1, .byte), (cs 2, .long), (cs 3, .object RX5), (cs 4, .object RX4), (cs 5, .array .int), (cs 6, .char), (cs 7, .boolean)])) (va_Qi (fun (r : Int32) (G : Nat → va_E) => (0 ≤ r.toInt ∧ r.toInt ≤ 2147483647) ∧ True ∧ s_I K cs D G ∧ ∀ b, K b ∉ ([] : List Nat) → G b = F b) (fun (G : Nat → va_E) (t : State) => va_P (dC, dI) vwCl (va_pl L G) t.heap ∧ va_K (dC, dI) vwCl [(cs 0, .int), (cs 1, .byte), (cs 2, .long), (cs 3, .object RX5), (cs 4, .object RX4), (cs 5, .array .int), (cs 6, .char), (cs 7, .boolean)] t) (fun q => q ∈ L)) 0 0 (fun q => q ∈ L) := by
  refine Met.ofW (cc := cX4_restOfReady) (maxL := 2) (ret := (some .int)) (by decide) rfl ?_
  intro p e s m args below meth c s₁ B hml hv
  obtain ⟨rfl, hsz, hP, hK, hD, hN⟩ := hv
  have hx := B.exec
  have hb := B.bytes
  have hr := B.returns
  have hts : ∀ w ∈ T0, w.before _ s = true := fun w h => atoms_spec (ws := Cond.code yX4_restOfReady cX4_restOfReady 2 (some .int) :: T0) B.pre w (List.mem_cons_of_mem _ h)
  have hown : s.vm.findClass RX4 = some m.cls := findClass_of_methodNamed B.named
  have hlocks := B.notSynchronized
  have hS : va_S (fun q => q ∈ L) s.heap s.heap [] := va_S.rf
  have hfr : ∀ b, K b ∉ ([] : List Nat) → F b = F b := fun _ _ => rfl
  have hl := lv_entry ([.ref a0, .int x1]) (n := 2) (Nat.le_of_ble_eq_true rfl)
  rw [lg_entry_eq]
  generalize (lg_sl ([.ref a0, .int x1]) ++ List.replicate (2 - (lg_sl ([.ref a0, .int x1])).length) Slot.unset).toArray = ls at hl ⊢
  have hl : lv_has ls 2 [(0, .ref a0), (1, .int x1)] := hl
  refine s_gen hP hS (fun H locs hP hS => ?_)
  refine lv_aload_n hx hb dX4_restOfReady_0 rfl (lv_at hl 0 rfl) ?_
  obtain ⟨z1, z3, z5, z7, z9, z11, z13, z15, z17, z19, z21, z23, z24, z26, z27, o29, h2, h4, h6, h8, h10, h12, h14, h16, h18, h20, h22, h25, h28, -⟩ := s_op5 hI ha0
  refine th_get (D := (dC, dI)) (ci := 4) (v := .ref z1) (C := RX4) (T := TX4) (N := 15) hx hb hts inX4 hown hK hP (hLK _ ha0 (by decide)) o29 rfl 0 (by decide) (hts _ T_107) (fun _ h9 => h9) rfl dX4_restOfReady_1 ?_
  refine lv_iload_n hx hb dX4_restOfReady_4 rfl (lv_at hl 1 rfl) ?_
  obtain ⟨f30, o31, h32⟩ := s_op26 hI h2
  obtain ⟨z33, o35, h34⟩ := h32 (x1 : Int32).toNatClampNeg (th_cl ⟨by omega, by omega⟩)
  refine th_aald hx hb hK hP (hLK _ h2 (by decide)) 3 o31 rfl (th_in ⟨by omega, by omega⟩) o35 dX4_restOfReady_5 ?_
  obtain ⟨z36, z38, z40, z42, z44, z46, z48, z49, z50, z51, z52, o54, h37, h39, h41, h43, h45, h47, h53, -⟩ := s_op6 hI h34
  refine th_getN (D := (dC, dI)) (ci := 5) (v := .int z50) (C := RX5) (T := TX5) (N := 11) hx hb hts inX5 hown hK hP (hLK _ h34 (by decide)) o54 rfl 8 (by decide) (va_Nw.use rfl (ax_n44 hN)) (fun _ h9 => h9) rfl dX4_restOfReady_6 ?_
  refine lv_aload_n hx hb dX4_restOfReady_9 rfl (lv_at hl 0 rfl) ?_
  refine th_get (D := (dC, dI)) (ci := 4) (v := .int z23) (C := RX4) (T := TX4) (N := 15) hx hb hts inX4 hown hK hP (hLK _ ha0 (by decide)) o29 rfl 11 (by decide) (hts _ T_837) (fun _ h9 => h9) rfl dX4_restOfReady_10 ?_
  refine lv_isub hx hb dX4_restOfReady_13 ?_
  refine lv_topi (fun v55 ev55 => ?_)
  refine lv_iconst (v := 0) hx hb dX4_restOfReady_14 (by decide) ?_
  refine va_mmax hx hb (by rw [hml]; exact hl.1.symm) hown (hts _ T_874) (hts _ T_609) (hts _ T_237) (hts _ T_610) (Nat.le_of_ble_eq_true rfl) (Nat.le_of_ble_eq_true rfl) (Nat.zero_le _) (Nat.zero_le _) dX4_restOfReady_15 ?_
  refine lv_topi (fun v56 ev56 => ?_)
  have qv56 := th_mmax (a := v55.toInt) (b := 0) ev56 rfl (by decide)
  exact W.iret (v := v56) hx hb hr (fun t ht hW => ⟨⟨v56, F, rfl, ⟨⟨by omega, by have q9 := th_hi v56; omega⟩, trivial, hI, hfr⟩, by rw [ht]; exact hP, va_K.moved hW.alike hK⟩, hS.F ht⟩) hS.2.2 dX4_restOfReady_18

set_option maxHeartbeats 4000000 in
set_option maxRecDepth 100000 in
theorem s_X4_isLike (l : Launch) (dC : Nat → ClassId) (dI : Nat → Nat → Nat) (sz : Nat) {L : List Nat} {K : Nat → Nat} {cs : Nat → ClassId} (hLK : ∀ a {k : Nat}, K a = k → k ≠ 0 → a ∈ L) (D : Nat) (F : Nat → va_E) (a0 : Nat) (a1 : Nat) (ha0 : K a0 = 5) (ha1 : K a1 = 5) (hI : s_I K cs D F) : Met l yX4_isLike (Cond.code yX4_isLike cX4_isLike 3 (some .boolean) :: T0) ({ frames := 2, cells := 0, slots := 0, locals := 44 }) (va_Pc [.ref a0, .ref a1] (s_W dC dI sz L F [(cs 0, .int), (cs 1, .byte), (cs 2, .long), (cs 3, .object RX5), (cs 4, .object RX4), (cs 5, .array .int), (cs 6, .char), (cs 7, .boolean)])) (va_Qi (fun (r : Int32) (G : Nat → va_E) => (0 ≤ r.toInt ∧ r.toInt ≤ 1) ∧ True ∧ s_I K cs D G ∧ ∀ b, K b ∉ ([] : List Nat) → G b = F b) (fun (G : Nat → va_E) (t : State) => va_P (dC, dI) vwCl (va_pl L G) t.heap ∧ va_K (dC, dI) vwCl [(cs 0, .int), (cs 1, .byte), (cs 2, .long), (cs 3, .object RX5), (cs 4, .object RX4), (cs 5, .array .int), (cs 6, .char), (cs 7, .boolean)] t) (fun q => q ∈ L)) 0 0 (fun q => q ∈ L) := by
  refine Met.ofW (cc := cX4_isLike) (maxL := 3) (ret := (some .boolean)) (by decide) rfl ?_
  intro p e s m args below meth c s₁ B hml hv
  obtain ⟨rfl, hsz, hP, hK, hD, hN⟩ := hv
  have hx := B.exec
  have hb := B.bytes
  have hr := B.returns
  have hts : ∀ w ∈ T0, w.before _ s = true := fun w h => atoms_spec (ws := Cond.code yX4_isLike cX4_isLike 3 (some .boolean) :: T0) B.pre w (List.mem_cons_of_mem _ h)
  have hown : s.vm.findClass RX4 = some m.cls := findClass_of_methodNamed B.named
  have hlocks := B.notSynchronized
  have hS : va_S (fun q => q ∈ L) s.heap s.heap [] := va_S.rf
  have hfr : ∀ b, K b ∉ ([] : List Nat) → F b = F b := fun _ _ => rfl
  have hl := lv_entry ([.ref a0, .ref a1]) (n := 3) (Nat.le_of_ble_eq_true rfl)
  rw [lg_entry_eq]
  generalize (lg_sl ([.ref a0, .ref a1]) ++ List.replicate (3 - (lg_sl ([.ref a0, .ref a1])).length) Slot.unset).toArray = ls at hl ⊢
  have hl : lv_has ls 3 [(0, .ref a0), (1, .ref a1)] := hl
  refine s_gen hP hS (fun H locs hP hS => ?_)
  refine lv_aload_n hx hb dX4_isLike_0 rfl (lv_at hl 0 rfl) ?_
  obtain ⟨z1, z3, z5, z7, z9, z11, z13, z15, z17, z19, z21, z23, z24, z26, z27, o29, h2, h4, h6, h8, h10, h12, h14, h16, h18, h20, h22, h25, h28, -⟩ := s_op5 hI ha0
  refine th_get (D := (dC, dI)) (ci := 4) (v := .int z27) (C := RX4) (T := TX4) (N := 15) hx hb hts inX4 hown hK hP (hLK _ ha0 (by decide)) o29 rfl 14 (by decide) (hts _ T_114) (fun _ h9 => h9) rfl dX4_isLike_1 ?_
  refine lv_aload_n hx hb dX4_isLike_4 rfl (lv_at hl 1 rfl) ?_
  obtain ⟨z30, z32, z34, z36, z38, z40, z42, z44, z46, z48, z50, z52, z53, z55, z56, o58, h31, h33, h35, h37, h39, h41, h43, h45, h47, h49, h51, h54, h57, -⟩ := s_op5 hI ha1
  refine th_get (D := (dC, dI)) (ci := 4) (v := .int z56) (C := RX4) (T := TX4) (N := 15) hx hb hts inX4 hown hK hP (hLK _ ha1 (by decide)) o58 rfl 14 (by decide) (hts _ T_114) (fun _ h9 => h9) rfl dX4_isLike_5 ?_
  refine lv_icmp_eq (tgt := 13) hx hb dX4_isLike_8 (by decide) (fun c59 => ?_) (fun c59 => ?_)
  · have c59 := Int32.toInt_inj.symm.mp c59
    refine lv_iconst (v := 0) hx hb dX4_isLike_13 (by decide) ?_
    refine lv_istore_n (lv' := [(2, .int 0), (0, .ref a0), (1, .ref a1)]) hx hb dX4_isLike_14 rfl hl (by decide) rfl (fun ls hl => ?_)
    refine th_loop (fun n g H locs => ∃ (G : Nat → va_E) (ls : Array Slot) (w60 : Int32), g = F0 m 15 ls [] ∧ lv_has ls 3 [(0, .ref a0), (1, .ref a1), (2, .int w60)] ∧ s_I K cs D G ∧ va_P (dC, dI) vwCl (va_pl L G) H ∧ va_S (fun q => q ∈ L) s.heap H locs ∧ (∀ b, K b ∉ ([] : List Nat) → G b = F b) ∧ (0 ≤ w60.toInt ∧ w60.toInt ≤ 4) ∧ n = (5 - w60.toInt).toNat) _ ⟨F, _, 0, rfl, lv_sub hl [1, 2, 0] rfl, hI, hP, hS, hfr, (by decide), rfl⟩ (fun n ih15 g H locs hq => ?_)
    obtain ⟨F9, ls, w60, rfl, hl, hI, hP, hS, hfr, h61, hn⟩ := hq
    have hn_15 := hn
    obtain ⟨n_15, hn9_15⟩ : ∃ q, q = n := ⟨_, rfl⟩
    refine lv_iload_n hx hb dX4_isLike_15 rfl (lv_at hl 2 rfl) ?_
    refine lv_aload_n hx hb dX4_isLike_16 rfl (lv_at hl 0 rfl) ?_
    obtain ⟨z62, z64, z66, z68, z70, z72, z74, z76, z78, z80, z82, z84, z85, z87, z88, o90, h63, h65, h67, h69, h71, h73, h75, h77, h79, h81, h83, h86, h89, -⟩ := s_op5 hI ha0
    refine th_get (D := (dC, dI)) (ci := 4) (v := .int z76) (C := RX4) (T := TX4) (N := 15) hx hb hts inX4 hown hK hP (hLK _ ha0 (by decide)) o90 rfl 7 (by decide) (hts _ T_840) (fun _ h9 => h9) rfl dX4_isLike_17 ?_
    refine lv_icmp_ge (tgt := 62) hx hb dX4_isLike_20 (by decide) (fun c91 => ?_) (fun c91 => ?_)
    · have c91 := Int32.le_iff_toInt_le.mp c91
      refine lv_aload_n hx hb dX4_isLike_62 rfl (lv_at hl 0 rfl) ?_
      refine th_get (D := (dC, dI)) (ci := 4) (v := .ref z66) (C := RX4) (T := TX4) (N := 15) hx hb hts inX4 hown hK hP (hLK _ ha0 (by decide)) o90 rfl 2 (by decide) (hts _ T_109) (fun _ h9 => h9) rfl dX4_isLike_63 ?_
      refine lv_aload_n hx hb dX4_isLike_66 rfl (lv_at hl 1 rfl) ?_
      obtain ⟨z92, z94, z96, z98, z100, z102, z104, z106, z108, z110, z112, z114, z115, z117, z118, o120, h93, h95, h97, h99, h101, h103, h105, h107, h109, h111, h113, h116, h119, -⟩ := s_op5 hI ha1
      refine th_get (D := (dC, dI)) (ci := 4) (v := .ref z96) (C := RX4) (T := TX4) (N := 15) hx hb hts inX4 hown hK hP (hLK _ ha1 (by decide)) o120 rfl 2 (by decide) (hts _ T_109) (fun _ h9 => h9) rfl dX4_isLike_67 ?_
      refine va_calli (va_runSN (As := [.ref z66, .ref z96]) (rest := []) ⟨hx, hb, hml, hown, hts⟩ (s_X6_areLike_near l dC dI H.size hLK D F9 z66 z96 h67 h97 hI) ⟨va_cnB 2 hts (ax_gT T_862) rfl rfl rfl (ax_n46 hN) (hts _ T_193) (by decide +kernel) ⟨Nat.le_of_ble_eq_true rfl, Nat.le_of_ble_eq_true rfl⟩, hts _ T_863, trivial⟩ ⟨fun a U g mk q => ⟨q.1, s_pc (U := U) rfl rfl q.2⟩, fun U hU hW => ⟨rfl, s_pw hU hW hP hK hD hN⟩⟩ rfl rfl hl.1 rfl (lv_room (Nat.le_of_ble_eq_true rfl)) dX4_isLike_70 ⟨Nat.zero_le _, Nat.zero_le _⟩) hS (fun q _ h => h) (fun q h => h) (fun r121 F122 t H1 locs ht hvm hw hB hz1 hk1 hS => ?_)
      obtain ⟨hP, hK1⟩ := hB
      rw [ht] at hP
      generalize H1 = H at hP hS ⊢
      clear hz1 hk1
      obtain ⟨h123, h124, hI, hfr1⟩ := hw
      have o125 : F122 a0 = .inr (4, [.ref z62, .ref z64, .ref z66, .ref z68, .ref z70, .ref z72, .ref z74, .int z76, .int z78, .int z80, .int z82, .int z84, .int z85, .int z87, .int z88]) := (hfr1 _ (by rw [ha0]; decide)).trans o90
      have o126 : F122 a1 = .inr (4, [.ref z92, .ref z94, .ref z96, .ref z98, .ref z100, .ref z102, .ref z104, .int z106, .int z108, .int z110, .int z112, .int z114, .int z115, .int z117, .int z118]) := (hfr1 _ (by rw [ha1]; decide)).trans o120
      have hfr : ∀ b, K b ∉ ([] : List Nat) → F122 b = F b := fun b hb9 => (hfr1 b (fun q => hb9 (s_sub (by decide) q))).trans (hfr b hb9)
      refine lv_if_eq (tgt := 94) hx hb dX4_isLike_73 (by decide) (fun c127 => ?_) (fun c127 => ?_)
      · have c127 := (ax_eq (n := 0) (by decide)).mp c127
        refine lv_iconst (v := 0) hx hb dX4_isLike_94 (by decide) ?_
        exact W.zret (v := 0) (ty := .boolean) hx hb hr (by decide) (fun t ht hW => ⟨⟨0, F122, rfl, ⟨(by decide), trivial, hI, hfr⟩, by rw [ht]; exact hP, va_K.moved hW.alike hK⟩, hS.F ht⟩) hS.2.2 dX4_isLike_95
      · have c127 := mt (ax_eq (n := 0) (by decide)).mpr c127
        refine lv_aload_n hx hb dX4_isLike_76 rfl (lv_at hl 0 rfl) ?_
        refine th_get (D := (dC, dI)) (ci := 4) (v := .ref z64) (C := RX4) (T := TX4) (N := 15) hx hb hts inX4 hown hK hP (hLK _ ha0 (by decide)) o125 rfl 1 (by decide) (hts _ T_108) (fun _ h9 => h9) rfl dX4_isLike_77 ?_
        refine lv_aload_n hx hb dX4_isLike_80 rfl (lv_at hl 1 rfl) ?_
        refine th_get (D := (dC, dI)) (ci := 4) (v := .ref z94) (C := RX4) (T := TX4) (N := 15) hx hb hts inX4 hown hK hP (hLK _ ha1 (by decide)) o126 rfl 1 (by decide) (hts _ T_108) (fun _ h9 => h9) rfl dX4_isLike_81 ?_
        refine va_calli (va_runSN (As := [.ref z64, .ref z94]) (rest := []) ⟨hx, hb, hml, hown, hts⟩ (s_X6_areLike_far l dC dI H.size hLK D F122 z64 z94 h65 h95 hI) ⟨va_cnB 2 hts (ax_gT T_862) rfl rfl rfl (ax_n46 hN) (hts _ T_193) (by decide +kernel) ⟨Nat.le_of_ble_eq_true rfl, Nat.le_of_ble_eq_true rfl⟩, hts _ T_863, trivial⟩ ⟨fun a U g mk q => ⟨q.1, s_pc (U := U) rfl rfl q.2⟩, fun U hU hW => ⟨rfl, s_pw hU hW hP hK hD hN⟩⟩ rfl rfl hl.1 rfl (lv_room (Nat.le_of_ble_eq_true rfl)) dX4_isLike_84 ⟨Nat.zero_le _, Nat.zero_le _⟩) hS (fun q _ h => h) (fun q h => h) (fun r128 F129 t H1 locs ht hvm hw hB hz1 hk1 hS => ?_)
        obtain ⟨hP, hK1⟩ := hB
        rw [ht] at hP
        generalize H1 = H at hP hS ⊢
        clear hz1 hk1
        obtain ⟨h130, h131, hI, hfr1⟩ := hw
        have o132 : F129 a0 = .inr (4, [.ref z62, .ref z64, .ref z66, .ref z68, .ref z70, .ref z72, .ref z74, .int z76, .int z78, .int z80, .int z82, .int z84, .int z85, .int z87, .int z88]) := (hfr1 _ (by rw [ha0]; decide)).trans o125
        have o133 : F129 a1 = .inr (4, [.ref z92, .ref z94, .ref z96, .ref z98, .ref z100, .ref z102, .ref z104, .int z106, .int z108, .int z110, .int z112, .int z114, .int z115, .int z117, .int z118]) := (hfr1 _ (by rw [ha1]; decide)).trans o126
        have hfr : ∀ b, K b ∉ ([] : List Nat) → F129 b = F b := fun b hb9 => (hfr1 b (fun q => hb9 (s_sub (by decide) q))).trans (hfr b hb9)
        refine lv_if_eq (tgt := 94) hx hb dX4_isLike_87 (by decide) (fun c134 => ?_) (fun c134 => ?_)
        · have c134 := (ax_eq (n := 0) (by decide)).mp c134
          refine lv_iconst (v := 0) hx hb dX4_isLike_94 (by decide) ?_
          exact W.zret (v := 0) (ty := .boolean) hx hb hr (by decide) (fun t ht hW => ⟨⟨0, F129, rfl, ⟨(by decide), trivial, hI, hfr⟩, by rw [ht]; exact hP, va_K.moved hW.alike hK⟩, hS.F ht⟩) hS.2.2 dX4_isLike_95
        · have c134 := mt (ax_eq (n := 0) (by decide)).mpr c134
          refine lv_iconst (v := 1) hx hb dX4_isLike_90 (by decide) ?_
          refine lv_goto (tgt := 95) hx hb dX4_isLike_91 (by decide) ?_
          exact W.zret (v := 1) (ty := .boolean) hx hb hr (by decide) (fun t ht hW => ⟨⟨1, F129, rfl, ⟨(by decide), trivial, hI, hfr⟩, by rw [ht]; exact hP, va_K.moved hW.alike hK⟩, hS.F ht⟩) hS.2.2 dX4_isLike_95
    · have c91 := mt Int32.le_iff_toInt_le.mpr c91
      refine lv_aload_n hx hb dX4_isLike_23 rfl (lv_at hl 0 rfl) ?_
      refine lv_iload_n hx hb dX4_isLike_24 rfl (lv_at hl 2 rfl) ?_
      refine va_calli (va_runV (As := [.int w60]) (rest := []) ⟨hx, hb, hml, hown, hts⟩ (s_X4_restOfReady l dC dI H.size hLK D F9 a0 w60 ha0 (⟨by omega, by omega⟩) hI) (cwV 1 hts (ax_gV T_854 T_856 T_857 T_142 T_855) rfl rfl rfl (by decide +kernel) ⟨Nat.le_of_ble_eq_true rfl, Nat.le_of_ble_eq_true rfl⟩) ⟨fun a U g mk q => ⟨q.1, s_pc (U := U) rfl rfl q.2⟩, s_recv hK hP (hLK _ ha0 (by decide)) (ci := 4) rfl o90, fun U hU hW => ⟨rfl, s_pw hU hW hP hK hD hN⟩⟩ rfl rfl hl.1 rfl (lv_room (Nat.le_of_ble_eq_true rfl)) dX4_isLike_25 ⟨Nat.zero_le _, Nat.zero_le _⟩) hS (fun q _ h => h) (fun q h => h) (fun r135 F136 t H1 locs ht hvm hw hB hz1 hk1 hS => ?_)
      obtain ⟨hP, hK1⟩ := hB
      rw [ht] at hP
      generalize H1 = H at hP hS ⊢
      clear hz1 hk1
      obtain ⟨h137, h138, hI, hfr1⟩ := hw
      have o139 : F136 a0 = .inr (4, [.ref z62, .ref z64, .ref z66, .ref z68, .ref z70, .ref z72, .ref z74, .int z76, .int z78, .int z80, .int z82, .int z84, .int z85, .int z87, .int z88]) := (hfr1 _ (by rw [ha0]; decide)).trans o90
      have hfr : ∀ b, K b ∉ ([] : List Nat) → F136 b = F b := fun b hb9 => (hfr1 b (fun q => hb9 (s_sub (by decide) q))).trans (hfr b hb9)
      refine lv_aload_n hx hb dX4_isLike_28 rfl (lv_at hl 1 rfl) ?_
      refine lv_iload_n hx hb dX4_isLike_29 rfl (lv_at hl 2 rfl) ?_
      obtain ⟨z140, z142, z144, z146, z148, z150, z152, z154, z156, z158, z160, z162, z163, z165, z166, o168, h141, h143, h145, h147, h149, h151, h153, h155, h157, h159, h161, h164, h167, -⟩ := s_op5 hI ha1
      refine va_calli (va_runV (As := [.int w60]) (rest := [.int r135]) ⟨hx, hb, hml, hown, hts⟩ (s_X4_restOfReady l dC dI H.size hLK D F136 a1 w60 ha1 (⟨by omega, by omega⟩) hI) (cwV 1 hts (ax_gV T_854 T_856 T_857 T_142 T_855) rfl rfl rfl (by decide +kernel) ⟨Nat.le_of_ble_eq_true rfl, Nat.le_of_ble_eq_true rfl⟩) ⟨fun a U g mk q => ⟨q.1, s_pc (U := U) rfl rfl q.2⟩, s_recv hK hP (hLK _ ha1 (by decide)) (ci := 4) rfl o168, fun U hU hW => ⟨rfl, s_pw hU hW hP hK hD hN⟩⟩ rfl rfl hl.1 rfl (lv_room (Nat.le_of_ble_eq_true rfl)) dX4_isLike_30 ⟨Nat.zero_le _, Nat.zero_le _⟩) hS (fun q _ h => h) (fun q h => h) (fun r169 F170 t H1 locs ht hvm hw hB hz1 hk1 hS => ?_)
      obtain ⟨hP, hK1⟩ := hB
      rw [ht] at hP
      generalize H1 = H at hP hS ⊢
      clear hz1 hk1
      obtain ⟨h171, h172, hI, hfr1⟩ := hw
      have o173 : F170 a0 = .inr (4, [.ref z62, .ref z64, .ref z66, .ref z68, .ref z70, .ref z72, .ref z74, .int z76, .int z78, .int z80, .int z82, .int z84, .int z85, .int z87, .int z88]) := (hfr1 _ (by rw [ha0]; decide)).trans o139
      have o174 : F170 a1 = .inr (4, [.ref z140, .ref z142, .ref z144, .ref z146, .ref z148, .ref z150, .ref z152, .int z154, .int z156, .int z158, .int z160, .int z162, .int z163, .int z165, .int z166]) := (hfr1 _ (by rw [ha1]; decide)).trans o168
      have hfr : ∀ b, K b ∉ ([] : List Nat) → F170 b = F b := fun b hb9 => (hfr1 b (fun q => hb9 (s_sub (by decide) q))).trans (hfr b hb9)
      refine lv_icmp_ne (tgt := 54) hx hb dX4_isLike_33 (by decide) (fun c175 => ?_) (fun c175 => ?_)
      · have c175 := mt Int32.toInt_inj.symm.mpr c175
        refine lv_iconst (v := 0) hx hb dX4_isLike_54 (by decide) ?_
        exact W.zret (v := 0) (ty := .boolean) hx hb hr (by decide) (fun t ht hW => ⟨⟨0, F170, rfl, ⟨(by decide), trivial, hI, hfr⟩, by rw [ht]; exact hP, va_K.moved hW.alike hK⟩, hS.F ht⟩) hS.2.2 dX4_isLike_55
      · have c175 := Int32.toInt_inj.symm.mp c175
        refine lv_aload_n hx hb dX4_isLike_36 rfl (lv_at hl 0 rfl) ?_
        refine th_get (D := (dC, dI)) (ci := 4) (v := .ref z62) (C := RX4) (T := TX4) (N := 15) hx hb hts inX4 hown hK hP (hLK _ ha0 (by decide)) o173 rfl 0 (by decide) (hts _ T_107) (fun _ h9 => h9) rfl dX4_isLike_37 ?_
        refine lv_iload_n hx hb dX4_isLike_40 rfl (lv_at hl 2 rfl) ?_
        obtain ⟨f176, o177, h178⟩ := s_op26 hI h63
        obtain ⟨z179, o181, h180⟩ := h178 (w60 : Int32).toNatClampNeg (th_cl ⟨by omega, by omega⟩)
        refine th_aald hx hb hK hP (hLK _ h63 (by decide)) 3 o177 rfl (th_in ⟨by omega, by omega⟩) o181 dX4_isLike_41 ?_
        refine lv_aload_n hx hb dX4_isLike_42 rfl (lv_at hl 1 rfl) ?_
        refine th_get (D := (dC, dI)) (ci := 4) (v := .ref z140) (C := RX4) (T := TX4) (N := 15) hx hb hts inX4 hown hK hP (hLK _ ha1 (by decide)) o174 rfl 0 (by decide) (hts _ T_107) (fun _ h9 => h9) rfl dX4_isLike_43 ?_
        refine lv_iload_n hx hb dX4_isLike_46 rfl (lv_at hl 2 rfl) ?_
        obtain ⟨f182, o183, h184⟩ := s_op26 hI h141
        obtain ⟨z185, o187, h186⟩ := h184 (w60 : Int32).toNatClampNeg (th_cl ⟨by omega, by omega⟩)
        refine th_aald hx hb hK hP (hLK _ h141 (by decide)) 3 o183 rfl (th_in ⟨by omega, by omega⟩) o187 dX4_isLike_47 ?_
        obtain ⟨z188, z190, z192, z194, z196, z198, z200, z201, z202, z203, z204, o206, h189, h191, h193, h195, h197, h199, h205, -⟩ := s_op6 hI h180
        refine va_calli (va_runV (As := [.ref z185]) (rest := []) ⟨hx, hb, hml, hown, hts⟩ (s_X5_isLike l dC dI H.size hLK D F170 z179 z185 h180 h186 hI) (cwV 1 hts (ax_gV T_858 T_860 T_861 T_116 T_859) rfl rfl rfl (by decide +kernel) ⟨Nat.le_of_ble_eq_true rfl, Nat.le_of_ble_eq_true rfl⟩) ⟨fun a U g mk q => ⟨q.1, s_pc (U := U) rfl rfl q.2⟩, s_recv hK hP (hLK _ h180 (by decide)) (ci := 5) rfl o206, fun U hU hW => ⟨rfl, s_pw hU hW hP hK hD hN⟩⟩ rfl rfl hl.1 rfl (lv_room (Nat.le_of_ble_eq_true rfl)) dX4_isLike_48 ⟨Nat.zero_le _, Nat.zero_le _⟩) hS (fun q _ h => h) (fun q h => h) (fun r207 F208 t H1 locs ht hvm hw hB hz1 hk1 hS => ?_)
        obtain ⟨hP, hK1⟩ := hB
        rw [ht] at hP
        generalize H1 = H at hP hS ⊢
        clear hz1 hk1
        obtain ⟨h209, h210, hI, hfr1⟩ := hw
        have o211 : F208 a0 = .inr (4, [.ref z62, .ref z64, .ref z66, .ref z68, .ref z70, .ref z72, .ref z74, .int z76, .int z78, .int z80, .int z82, .int z84, .int z85, .int z87, .int z88]) := (hfr1 _ (by rw [ha0]; decide)).trans o173
        have o212 : F208 a1 = .inr (4, [.ref z140, .ref z142, .ref z144, .ref z146, .ref z148, .ref z150, .ref z152, .int z154, .int z156, .int z158, .int z160, .int z162, .int z163, .int z165, .int z166]) := (hfr1 _ (by rw [ha1]; decide)).trans o174
        have o213 : F208 z179 = .inr (5, [.ref z188, .ref z190, .ref z192, .ref z194, .ref z196, .int z198, .int z200, .int z201, .int z202, .int z203, .int z204]) := (hfr1 _ (by rw [h180]; decide)).trans o206
        have hfr : ∀ b, K b ∉ ([] : List Nat) → F208 b = F b := fun b hb9 => (hfr1 b (fun q => hb9 (s_sub (by decide) q))).trans (hfr b hb9)
        refine lv_if_ne (tgt := 56) hx hb dX4_isLike_51 (by decide) (fun c214 => ?_) (fun c214 => ?_)
        · have c214 := mt (ax_eq (n := 0) (by decide)).mpr c214
          obtain ⟨v215, ev215⟩ : ∃ y : Int32, w60 + 1 = y := ⟨_, rfl⟩
          have qv215 : v215.toInt = w60.toInt + 1 := by rw [← ev215]; exact th_add rfl (by decide) ⟨by omega, by omega⟩
          refine lv_iinc (v := v215) (lv' := [(2, .int v215), (0, .ref a0), (1, .ref a1)]) hx hb dX4_isLike_56 hl (k := 2) rfl ev215 (by decide) rfl (fun ls hl => ?_)
          refine lv_goto (tgt := 15) hx hb dX4_isLike_59 (by decide) ?_
          exact ih15 _ _ _ _ (by omega) ⟨F208, _, v215, rfl, lv_sub hl [1, 2, 0] rfl, hI, hP, hS, hfr, ⟨by omega, by omega⟩, rfl⟩
        · have c214 := (ax_eq (n := 0) (by decide)).mp c214
          refine lv_iconst (v := 0) hx hb dX4_isLike_54 (by decide) ?_
          exact W.zret (v := 0) (ty := .boolean) hx hb hr (by decide) (fun t ht hW => ⟨⟨0, F208, rfl, ⟨(by decide), trivial, hI, hfr⟩, by rw [ht]; exact hP, va_K.moved hW.alike hK⟩, hS.F ht⟩) hS.2.2 dX4_isLike_55
  · have c59 := mt Int32.toInt_inj.symm.mpr c59
    refine lv_iconst (v := 0) hx hb dX4_isLike_11 (by decide) ?_
    exact W.zret (v := 0) (ty := .boolean) hx hb hr (by decide) (fun t ht hW => ⟨⟨0, F, rfl, ⟨(by decide), trivial, hI, hfr⟩, by rw [ht]; exact hP, va_K.moved hW.alike hK⟩, hS.F ht⟩) hS.2.2 dX4_isLike_12

set_option maxHeartbeats 4000000 in
set_option maxRecDepth 100000 in
theorem s_X4_canGo (l : Launch) (dC : Nat → ClassId) (dI : Nat → Nat → Nat) (sz : Nat) {L : List Nat} {K : Nat → Nat} {cs : Nat → ClassId} (hLK : ∀ a {k : Nat}, K a = k → k ≠ 0 → a ∈ L) (D : Nat) (F : Nat → va_E) (a0 : Nat) (x1 : Int32) (ha0 : K a0 = 5) (hx1 : 0 ≤ x1.toInt ∧ x1.toInt ≤ 3) (hI : s_I K cs D F) : Met l yX4_canGo (Cond.code yX4_canGo cX4_canGo 2 (some .boolean) :: T0) ({ frames := 1, cells := 0, slots := 0, locals := 22 }) (va_Pc [.ref a0, .int x1] (s_W dC dI sz L F [(cs 0, .int), (cs 1, .byte), (cs 2, .long), (cs 3, .object RX5), (cs 4, .object RX4), (cs 5, .array .int), (cs 6, .char), (cs 7, .boolean)])) (va_Qi (fun (r : Int32) (G : Nat → va_E) => (0 ≤ r.toInt ∧ r.toInt ≤ 1) ∧ True ∧ s_I K cs D G ∧ ∀ b, K b ∉ ([] : List Nat) → G b = F b) (fun (G : Nat → va_E) (t : State) => va_P (dC, dI) vwCl (va_pl L G) t.heap ∧ va_K (dC, dI) vwCl [(cs 0, .int), (cs 1, .byte), (cs 2, .long), (cs 3, .object RX5), (cs 4, .object RX4), (cs 5, .array .int), (cs 6, .char), (cs 7, .boolean)] t) (fun q => q ∈ L)) 0 0 (fun q => q ∈ L) := by
  refine Met.ofW (cc := cX4_canGo) (maxL := 2) (ret := (some .boolean)) (by decide) rfl ?_
  intro p e s m args below meth c s₁ B hml hv
  obtain ⟨rfl, hsz, hP, hK, hD, hN⟩ := hv
  have hx := B.exec
  have hb := B.bytes
  have hr := B.returns
  have hts : ∀ w ∈ T0, w.before _ s = true := fun w h => atoms_spec (ws := Cond.code yX4_canGo cX4_canGo 2 (some .boolean) :: T0) B.pre w (List.mem_cons_of_mem _ h)
  have hown : s.vm.findClass RX4 = some m.cls := findClass_of_methodNamed B.named
  have hlocks := B.notSynchronized
  have hS : va_S (fun q => q ∈ L) s.heap s.heap [] := va_S.rf
  have hfr : ∀ b, K b ∉ ([] : List Nat) → F b = F b := fun _ _ => rfl
  have hl := lv_entry ([.ref a0, .int x1]) (n := 2) (Nat.le_of_ble_eq_true rfl)
  rw [lg_entry_eq]
  generalize (lg_sl ([.ref a0, .int x1]) ++ List.replicate (2 - (lg_sl ([.ref a0, .int x1])).length) Slot.unset).toArray = ls at hl ⊢
  have hl : lv_has ls 2 [(0, .ref a0), (1, .int x1)] := hl
  refine s_gen hP hS (fun H locs hP hS => ?_)
  refine lv_aload_n hx hb dX4_canGo_0 rfl (lv_at hl 0 rfl) ?_
  obtain ⟨z1, z3, z5, z7, z9, z11, z13, z15, z17, z19, z21, z23, z24, z26, z27, o29, h2, h4, h6, h8, h10, h12, h14, h16, h18, h20, h22, h25, h28, -⟩ := s_op5 hI ha0
  refine th_get (D := (dC, dI)) (ci := 4) (v := .ref z1) (C := RX4) (T := TX4) (N := 15) hx hb hts inX4 hown hK hP (hLK _ ha0 (by decide)) o29 rfl 0 (by decide) (hts _ T_107) (fun _ h9 => h9) rfl dX4_canGo_1 ?_
  refine lv_iload_n hx hb dX4_canGo_4 rfl (lv_at hl 1 rfl) ?_
  obtain ⟨f30, o31, h32⟩ := s_op26 hI h2
  obtain ⟨z33, o35, h34⟩ := h32 (x1 : Int32).toNatClampNeg (th_cl ⟨by omega, by omega⟩)
  refine th_aald hx hb hK hP (hLK _ h2 (by decide)) 3 o31 rfl (th_in ⟨by omega, by omega⟩) o35 dX4_canGo_5 ?_
  obtain ⟨z36, z38, z40, z42, z44, z46, z48, z49, z50, z51, z52, o54, h37, h39, h41, h43, h45, h47, h53, -⟩ := s_op6 hI h34
  refine th_getN (D := (dC, dI)) (ci := 5) (v := .int z50) (C := RX5) (T := TX5) (N := 11) hx hb hts inX5 hown hK hP (hLK _ h34 (by decide)) o54 rfl 8 (by decide) (va_Nw.use rfl (ax_n44 hN)) (fun _ h9 => h9) rfl dX4_canGo_6 ?_
  refine lv_aload_n hx hb dX4_canGo_9 rfl (lv_at hl 0 rfl) ?_
  refine th_get (D := (dC, dI)) (ci := 4) (v := .int z23) (C := RX4) (T := TX4) (N := 15) hx hb hts inX4 hown hK hP (hLK _ ha0 (by decide)) o29 rfl 11 (by decide) (hts _ T_837) (fun _ h9 => h9) rfl dX4_canGo_10 ?_
  refine lv_icmp_gt (tgt := 36) hx hb dX4_canGo_13 (by decide) (fun c55 => ?_) (fun c55 => ?_)
  · have c55 := Int32.lt_iff_toInt_lt.mp c55
    refine lv_iconst (v := 0) hx hb dX4_canGo_36 (by decide) ?_
    exact W.zret (v := 0) (ty := .boolean) hx hb hr (by decide) (fun t ht hW => ⟨⟨0, F, rfl, ⟨(by decide), trivial, hI, hfr⟩, by rw [ht]; exact hP, va_K.moved hW.alike hK⟩, hS.F ht⟩) hS.2.2 dX4_canGo_37
  · have c55 := mt Int32.lt_iff_toInt_lt.mpr c55
    refine lv_aload_n hx hb dX4_canGo_16 rfl (lv_at hl 0 rfl) ?_
    refine th_get (D := (dC, dI)) (ci := 4) (v := .ref z1) (C := RX4) (T := TX4) (N := 15) hx hb hts inX4 hown hK hP (hLK _ ha0 (by decide)) o29 rfl 0 (by decide) (hts _ T_107) (fun _ h9 => h9) rfl dX4_canGo_17 ?_
    refine lv_iload_n hx hb dX4_canGo_20 rfl (lv_at hl 1 rfl) ?_
    obtain ⟨f56, o57, h58⟩ := s_op26 hI h2
    obtain ⟨z59, o61, h60⟩ := h58 (x1 : Int32).toNatClampNeg (th_cl ⟨by omega, by omega⟩)
    refine th_aald hx hb hK hP (hLK _ h2 (by decide)) 3 o57 rfl (th_in ⟨by omega, by omega⟩) o61 dX4_canGo_21 ?_
    refine lv_aload_n hx hb dX4_canGo_22 rfl (lv_at hl 0 rfl) ?_
    refine th_get (D := (dC, dI)) (ci := 4) (v := .int z17) (C := RX4) (T := TX4) (N := 15) hx hb hts inX4 hown hK hP (hLK _ ha0 (by decide)) o29 rfl 8 (by decide) (hts _ T_838) (fun _ h9 => h9) rfl dX4_canGo_23 ?_
    obtain ⟨z62, z64, z66, z68, z70, z72, z74, z75, z76, z77, z78, o80, h63, h65, h67, h69, h71, h73, h79, -⟩ := s_op6 hI h60
    refine va_calli (va_runV (As := [.int z17]) (rest := []) ⟨hx, hb, hml, hown, hts⟩ (s_X5_movable l dC dI H.size hLK D F z59 z17 h60 hI) (cwV 1 hts (ax_gV T_839 T_695 T_696 T_116 T_694) rfl rfl rfl (by decide +kernel) ⟨Nat.le_of_ble_eq_true rfl, Nat.le_of_ble_eq_true rfl⟩) ⟨fun a U g mk q => ⟨q.1, s_pc (U := U) rfl rfl q.2⟩, s_recv hK hP (hLK _ h60 (by decide)) (ci := 5) rfl o80, fun U hU hW => ⟨rfl, s_pw hU hW hP hK hD hN⟩⟩ rfl rfl hl.1 rfl (lv_room (Nat.le_of_ble_eq_true rfl)) dX4_canGo_26 ⟨Nat.zero_le _, Nat.zero_le _⟩) hS (fun q _ h => h) (fun q h => h) (fun r81 F82 t H1 locs ht hvm hw hB hz1 hk1 hS => ?_)
    obtain ⟨hP, hK1⟩ := hB
    rw [ht] at hP
    generalize H1 = H at hP hS ⊢
    clear hz1 hk1
    obtain ⟨h83, h84, hI, hfr1⟩ := hw
    have o85 : F82 a0 = .inr (4, [.ref z1, .ref z3, .ref z5, .ref z7, .ref z9, .ref z11, .ref z13, .int z15, .int z17, .int z19, .int z21, .int z23, .int z24, .int z26, .int z27]) := (hfr1 _ (by rw [ha0]; decide)).trans o29
    have o86 : F82 z33 = .inr (5, [.ref z36, .ref z38, .ref z40, .ref z42, .ref z44, .int z46, .int z48, .int z49, .int z50, .int z51, .int z52]) := (hfr1 _ (by rw [h34]; decide)).trans o54
    have o87 : F82 z59 = .inr (5, [.ref z62, .ref z64, .ref z66, .ref z68, .ref z70, .int z72, .int z74, .int z75, .int z76, .int z77, .int z78]) := (hfr1 _ (by rw [h60]; decide)).trans o80
    have hfr : ∀ b, K b ∉ ([] : List Nat) → F82 b = F b := fun b hb9 => (hfr1 b (fun q => hb9 (s_sub (by decide) q))).trans (hfr b hb9)
    refine lv_if_eq (tgt := 36) hx hb dX4_canGo_29 (by decide) (fun c88 => ?_) (fun c88 => ?_)
    · have c88 := (ax_eq (n := 0) (by decide)).mp c88
      refine lv_iconst (v := 0) hx hb dX4_canGo_36 (by decide) ?_
      exact W.zret (v := 0) (ty := .boolean) hx hb hr (by decide) (fun t ht hW => ⟨⟨0, F82, rfl, ⟨(by decide), trivial, hI, hfr⟩, by rw [ht]; exact hP, va_K.moved hW.alike hK⟩, hS.F ht⟩) hS.2.2 dX4_canGo_37
    · have c88 := mt (ax_eq (n := 0) (by decide)).mpr c88
      refine lv_iconst (v := 1) hx hb dX4_canGo_32 (by decide) ?_
      refine lv_goto (tgt := 37) hx hb dX4_canGo_33 (by decide) ?_
      exact W.zret (v := 1) (ty := .boolean) hx hb hr (by decide) (fun t ht hW => ⟨⟨1, F82, rfl, ⟨(by decide), trivial, hI, hfr⟩, by rw [ht]; exact hP, va_K.moved hW.alike hK⟩, hS.F ht⟩) hS.2.2 dX4_canGo_37

set_option maxHeartbeats 4000000 in
set_option maxRecDepth 100000 in
theorem s_X4_hasEnded (l : Launch) (dC : Nat → ClassId) (dI : Nat → Nat → Nat) (sz : Nat) {L : List Nat} {K : Nat → Nat} {cs : Nat → ClassId} (hLK : ∀ a {k : Nat}, K a = k → k ≠ 0 → a ∈ L) (D : Nat) (F : Nat → va_E) (a0 : Nat) (ha0 : K a0 = 5) (hI : s_I K cs D F) : Met l yX4_hasEnded (Cond.code yX4_hasEnded cX4_hasEnded 3 (some .boolean) :: T0) ({ frames := 0, cells := 0, slots := 0, locals := 0 }) (va_Pc [.ref a0] (s_W dC dI sz L F [(cs 0, .int), (cs 1, .byte), (cs 2, .long), (cs 3, .object RX5), (cs 4, .object RX4), (cs 5, .array .int), (cs 6, .char), (cs 7, .boolean)])) (va_Qi (fun (r : Int32) (G : Nat → va_E) => (0 ≤ r.toInt ∧ r.toInt ≤ 1) ∧ True ∧ s_I K cs D G ∧ ∀ b, K b ∉ ([] : List Nat) → G b = F b) (fun (G : Nat → va_E) (t : State) => va_P (dC, dI) vwCl (va_pl L G) t.heap ∧ va_K (dC, dI) vwCl [(cs 0, .int), (cs 1, .byte), (cs 2, .long), (cs 3, .object RX5), (cs 4, .object RX4), (cs 5, .array .int), (cs 6, .char), (cs 7, .boolean)] t) (fun q => q ∈ L)) 0 0 (fun q => q ∈ L) := by
  refine Met.ofW (cc := cX4_hasEnded) (maxL := 3) (ret := (some .boolean)) (by decide) rfl ?_
  intro p e s m args below meth c s₁ B hml hv
  obtain ⟨rfl, hsz, hP, hK, hD, hN⟩ := hv
  have hx := B.exec
  have hb := B.bytes
  have hr := B.returns
  have hts : ∀ w ∈ T0, w.before _ s = true := fun w h => atoms_spec (ws := Cond.code yX4_hasEnded cX4_hasEnded 3 (some .boolean) :: T0) B.pre w (List.mem_cons_of_mem _ h)
  have hown : s.vm.findClass RX4 = some m.cls := findClass_of_methodNamed B.named
  have hlocks := B.notSynchronized
  have hS : va_S (fun q => q ∈ L) s.heap s.heap [] := va_S.rf
  have hfr : ∀ b, K b ∉ ([] : List Nat) → F b = F b := fun _ _ => rfl
  have hl := lv_entry ([.ref a0]) (n := 3) (Nat.le_of_ble_eq_true rfl)
  rw [lg_entry_eq]
  generalize (lg_sl ([.ref a0]) ++ List.replicate (3 - (lg_sl ([.ref a0])).length) Slot.unset).toArray = ls at hl ⊢
  have hl : lv_has ls 3 [(0, .ref a0)] := hl
  refine s_gen hP hS (fun H locs hP hS => ?_)
  refine lv_iconst (v := 0) hx hb dX4_hasEnded_0 (by decide) ?_
  refine lv_istore_n (lv' := [(1, .int 0), (0, .ref a0)]) hx hb dX4_hasEnded_1 rfl hl (by decide) rfl (fun ls hl => ?_)
  refine lv_iconst (v := 0) hx hb dX4_hasEnded_2 (by decide) ?_
  refine lv_istore_n (lv' := [(2, .int 0), (1, .int 0), (0, .ref a0)]) hx hb dX4_hasEnded_3 rfl hl (by decide) rfl (fun ls hl => ?_)
  refine th_loop (fun n g H locs => ∃ (G : Nat → va_E) (ls : Array Slot) (w1 : Int32) (w2 : Int32), g = F0 m 4 ls [] ∧ lv_has ls 3 [(0, .ref a0), (1, .int w1), (2, .int w2)] ∧ s_I K cs D G ∧ va_P (dC, dI) vwCl (va_pl L G) H ∧ va_S (fun q => q ∈ L) s.heap H locs ∧ (∀ b, K b ∉ ([] : List Nat) → G b = F b) ∧ True ∧ (0 ≤ w2.toInt ∧ w2.toInt ≤ 4) ∧ n = (5 - w2.toInt).toNat) _ ⟨F, _, 0, 0, rfl, lv_sub hl [2, 1, 0] rfl, hI, hP, hS, hfr, trivial, (by decide), rfl⟩ (fun n ih4 g H locs hq => ?_)
  obtain ⟨F9, ls, w1, w2, rfl, hl, hI, hP, hS, hfr, h3, h4, hn⟩ := hq
  have hn_4 := hn
  obtain ⟨n_4, hn9_4⟩ : ∃ q, q = n := ⟨_, rfl⟩
  refine lv_iload_n hx hb dX4_hasEnded_4 rfl (lv_at hl 2 rfl) ?_
  refine lv_aload_n hx hb dX4_hasEnded_5 rfl (lv_at hl 0 rfl) ?_
  obtain ⟨z5, z7, z9, z11, z13, z15, z17, z19, z21, z23, z25, z27, z28, z30, z31, o33, h6, h8, h10, h12, h14, h16, h18, h20, h22, h24, h26, h29, h32, -⟩ := s_op5 hI ha0
  refine th_get (D := (dC, dI)) (ci := 4) (v := .int z19) (C := RX4) (T := TX4) (N := 15) hx hb hts inX4 hown hK hP (hLK _ ha0 (by decide)) o33 rfl 7 (by decide) (hts _ T_840) (fun _ h9 => h9) rfl dX4_hasEnded_6 ?_
  refine lv_icmp_ge (tgt := 30) hx hb dX4_hasEnded_9 (by decide) (fun c34 => ?_) (fun c34 => ?_)
  · have c34 := Int32.le_iff_toInt_le.mp c34
    refine lv_iload_n hx hb dX4_hasEnded_30 rfl (lv_at hl 1 rfl) ?_
    refine lv_if_ne (tgt := 38) hx hb dX4_hasEnded_31 (by decide) (fun c35 => ?_) (fun c35 => ?_)
    · have c35 := mt (ax_eq (n := 0) (by decide)).mpr c35
      refine lv_iconst (v := 0) hx hb dX4_hasEnded_38 (by decide) ?_
      exact W.zret (v := 0) (ty := .boolean) hx hb hr (by decide) (fun t ht hW => ⟨⟨0, F9, rfl, ⟨(by decide), trivial, hI, hfr⟩, by rw [ht]; exact hP, va_K.moved hW.alike hK⟩, hS.F ht⟩) hS.2.2 dX4_hasEnded_39
    · have c35 := (ax_eq (n := 0) (by decide)).mp c35
      refine lv_iconst (v := 1) hx hb dX4_hasEnded_34 (by decide) ?_
      refine lv_goto (tgt := 39) hx hb dX4_hasEnded_35 (by decide) ?_
      exact W.zret (v := 1) (ty := .boolean) hx hb hr (by decide) (fun t ht hW => ⟨⟨1, F9, rfl, ⟨(by decide), trivial, hI, hfr⟩, by rw [ht]; exact hP, va_K.moved hW.alike hK⟩, hS.F ht⟩) hS.2.2 dX4_hasEnded_39
  · have c34 := mt Int32.le_iff_toInt_le.mpr c34
    refine lv_iload_n hx hb dX4_hasEnded_12 rfl (lv_at hl 1 rfl) ?_
    refine lv_aload_n hx hb dX4_hasEnded_13 rfl (lv_at hl 0 rfl) ?_
    refine th_get (D := (dC, dI)) (ci := 4) (v := .ref z5) (C := RX4) (T := TX4) (N := 15) hx hb hts inX4 hown hK hP (hLK _ ha0 (by decide)) o33 rfl 0 (by decide) (hts _ T_107) (fun _ h9 => h9) rfl dX4_hasEnded_14 ?_
    refine lv_iload_n hx hb dX4_hasEnded_17 rfl (lv_at hl 2 rfl) ?_
    obtain ⟨f36, o37, h38⟩ := s_op26 hI h6
    obtain ⟨z39, o41, h40⟩ := h38 (w2 : Int32).toNatClampNeg (th_cl ⟨by omega, by omega⟩)
    refine th_aald hx hb hK hP (hLK _ h6 (by decide)) 3 o37 rfl (th_in ⟨by omega, by omega⟩) o41 dX4_hasEnded_18 ?_
    obtain ⟨z42, z44, z46, z48, z50, z52, z54, z55, z56, z57, z58, o60, h43, h45, h47, h49, h51, h53, h59, -⟩ := s_op6 hI h40
    refine th_getN (D := (dC, dI)) (ci := 5) (v := .int z54) (C := RX5) (T := TX5) (N := 11) hx hb hts inX5 hown hK hP (hLK _ h40 (by decide)) o60 rfl 6 (by decide) (va_Nw.use rfl (ax_n45 hN)) (fun _ h9 => h9) rfl dX4_hasEnded_19 ?_
    refine lv_ior hx hb dX4_hasEnded_22 ?_
    refine lv_topi (fun v61 ev61 => ?_)
    refine lv_istore_n (lv' := [(1, .int v61), (0, .ref a0), (2, .int w2)]) hx hb dX4_hasEnded_23 rfl hl (by decide) rfl (fun ls hl => ?_)
    obtain ⟨v62, ev62⟩ : ∃ y : Int32, w2 + 1 = y := ⟨_, rfl⟩
    have qv62 : v62.toInt = w2.toInt + 1 := by rw [← ev62]; exact th_add rfl (by decide) ⟨by omega, by omega⟩
    refine lv_iinc (v := v62) (lv' := [(2, .int v62), (1, .int v61), (0, .ref a0)]) hx hb dX4_hasEnded_24 hl (k := 2) rfl ev62 (by decide) rfl (fun ls hl => ?_)
    refine lv_goto (tgt := 4) hx hb dX4_hasEnded_27 (by decide) ?_
    exact ih4 _ _ _ _ (by omega) ⟨F9, _, v61, v62, rfl, lv_sub hl [2, 1, 0] rfl, hI, hP, hS, hfr, trivial, ⟨by omega, by omega⟩, rfl⟩

set_option maxHeartbeats 4000000 in
set_option maxRecDepth 100000 in
theorem s_X4_hasNoneToGo (l : Launch) (dC : Nat → ClassId) (dI : Nat → Nat → Nat) (sz : Nat) {L : List Nat} {K : Nat → Nat} {cs : Nat → ClassId} (hLK : ∀ a {k : Nat}, K a = k → k ≠ 0 → a ∈ L) (D : Nat) (F : Nat → va_E) (a0 : Nat) (ha0 : K a0 = 5) (hI : s_I K cs D F) : Met l yX4_hasNoneToGo (Cond.code yX4_hasNoneToGo cX4_hasNoneToGo 3 (some .boolean) :: T0) ({ frames := 1, cells := 0, slots := 0, locals := 22 }) (va_Pc [.ref a0] (s_W dC dI sz L F [(cs 0, .int), (cs 1, .byte), (cs 2, .long), (cs 3, .object RX5), (cs 4, .object RX4), (cs 5, .array .int), (cs 6, .char), (cs 7, .boolean)])) (va_Qi (fun (r : Int32) (G : Nat → va_E) => (0 ≤ r.toInt ∧ r.toInt ≤ 1) ∧ True ∧ s_I K cs D G ∧ ∀ b, K b ∉ ([] : List Nat) → G b = F b) (fun (G : Nat → va_E) (t : State) => va_P (dC, dI) vwCl (va_pl L G) t.heap ∧ va_K (dC, dI) vwCl [(cs 0, .int), (cs 1, .byte), (cs 2, .long), (cs 3, .object RX5), (cs 4, .object RX4), (cs 5, .array .int), (cs 6, .char), (cs 7, .boolean)] t) (fun q => q ∈ L)) 0 0 (fun q => q ∈ L) := by
  refine Met.ofW (cc := cX4_hasNoneToGo) (maxL := 3) (ret := (some .boolean)) (by decide) rfl ?_
  intro p e s m args below meth c s₁ B hml hv
  obtain ⟨rfl, hsz, hP, hK, hD, hN⟩ := hv
  have hx := B.exec
  have hb := B.bytes
  have hr := B.returns
  have hts : ∀ w ∈ T0, w.before _ s = true := fun w h => atoms_spec (ws := Cond.code yX4_hasNoneToGo cX4_hasNoneToGo 3 (some .boolean) :: T0) B.pre w (List.mem_cons_of_mem _ h)
  have hown : s.vm.findClass RX4 = some m.cls := findClass_of_methodNamed B.named
  have hlocks := B.notSynchronized
  have hS : va_S (fun q => q ∈ L) s.heap s.heap [] := va_S.rf
  have hfr : ∀ b, K b ∉ ([] : List Nat) → F b = F b := fun _ _ => rfl
  have hl := lv_entry ([.ref a0]) (n := 3) (Nat.le_of_ble_eq_true rfl)
  rw [lg_entry_eq]
  generalize (lg_sl ([.ref a0]) ++ List.replicate (3 - (lg_sl ([.ref a0])).length) Slot.unset).toArray = ls at hl ⊢
  have hl : lv_has ls 3 [(0, .ref a0)] := hl
  refine s_gen hP hS (fun H locs hP hS => ?_)
  refine lv_iconst (v := 0) hx hb dX4_hasNoneToGo_0 (by decide) ?_
  refine lv_istore_n (lv' := [(1, .int 0), (0, .ref a0)]) hx hb dX4_hasNoneToGo_1 rfl hl (by decide) rfl (fun ls hl => ?_)
  refine lv_iconst (v := 0) hx hb dX4_hasNoneToGo_2 (by decide) ?_
  refine lv_istore_n (lv' := [(2, .int 0), (1, .int 0), (0, .ref a0)]) hx hb dX4_hasNoneToGo_3 rfl hl (by decide) rfl (fun ls hl => ?_)
  refine th_loop (fun n g H locs => ∃ (G : Nat → va_E) (ls : Array Slot) (w1 : Int32) (w2 : Int32), g = F0 m 4 ls [] ∧ lv_has ls 3 [(0, .ref a0), (1, .int w1), (2, .int w2)] ∧ s_I K cs D G ∧ va_P (dC, dI) vwCl (va_pl L G) H ∧ va_S (fun q => q ∈ L) s.heap H locs ∧ (∀ b, K b ∉ ([] : List Nat) → G b = F b) ∧ True ∧ (0 ≤ w2.toInt ∧ w2.toInt ≤ 4) ∧ n = (5 - w2.toInt).toNat) _ ⟨F, _, 0, 0, rfl, lv_sub hl [2, 1, 0] rfl, hI, hP, hS, hfr, trivial, (by decide), rfl⟩ (fun n ih4 g H locs hq => ?_)
  obtain ⟨F9, ls, w1, w2, rfl, hl, hI, hP, hS, hfr, h3, h4, hn⟩ := hq
  have hn_4 := hn
  obtain ⟨n_4, hn9_4⟩ : ∃ q, q = n := ⟨_, rfl⟩
  refine lv_iload_n hx hb dX4_hasNoneToGo_4 rfl (lv_at hl 2 rfl) ?_
  refine lv_aload_n hx hb dX4_hasNoneToGo_5 rfl (lv_at hl 0 rfl) ?_
  obtain ⟨z5, z7, z9, z11, z13, z15, z17, z19, z21, z23, z25, z27, z28, z30, z31, o33, h6, h8, h10, h12, h14, h16, h18, h20, h22, h24, h26, h29, h32, -⟩ := s_op5 hI ha0
  refine th_get (D := (dC, dI)) (ci := 4) (v := .int z19) (C := RX4) (T := TX4) (N := 15) hx hb hts inX4 hown hK hP (hLK _ ha0 (by decide)) o33 rfl 7 (by decide) (hts _ T_840) (fun _ h9 => h9) rfl dX4_hasNoneToGo_6 ?_
  refine lv_icmp_ge (tgt := 34) hx hb dX4_hasNoneToGo_9 (by decide) (fun c34 => ?_) (fun c34 => ?_)
  · have c34 := Int32.le_iff_toInt_le.mp c34
    refine lv_iload_n hx hb dX4_hasNoneToGo_34 rfl (lv_at hl 1 rfl) ?_
    refine lv_if_ne (tgt := 42) hx hb dX4_hasNoneToGo_35 (by decide) (fun c35 => ?_) (fun c35 => ?_)
    · have c35 := mt (ax_eq (n := 0) (by decide)).mpr c35
      refine lv_iconst (v := 0) hx hb dX4_hasNoneToGo_42 (by decide) ?_
      exact W.zret (v := 0) (ty := .boolean) hx hb hr (by decide) (fun t ht hW => ⟨⟨0, F9, rfl, ⟨(by decide), trivial, hI, hfr⟩, by rw [ht]; exact hP, va_K.moved hW.alike hK⟩, hS.F ht⟩) hS.2.2 dX4_hasNoneToGo_43
    · have c35 := (ax_eq (n := 0) (by decide)).mp c35
      refine lv_iconst (v := 1) hx hb dX4_hasNoneToGo_38 (by decide) ?_
      refine lv_goto (tgt := 43) hx hb dX4_hasNoneToGo_39 (by decide) ?_
      exact W.zret (v := 1) (ty := .boolean) hx hb hr (by decide) (fun t ht hW => ⟨⟨1, F9, rfl, ⟨(by decide), trivial, hI, hfr⟩, by rw [ht]; exact hP, va_K.moved hW.alike hK⟩, hS.F ht⟩) hS.2.2 dX4_hasNoneToGo_43
  · have c34 := mt Int32.le_iff_toInt_le.mpr c34
    refine lv_iload_n hx hb dX4_hasNoneToGo_12 rfl (lv_at hl 1 rfl) ?_
    refine lv_aload_n hx hb dX4_hasNoneToGo_13 rfl (lv_at hl 0 rfl) ?_
    refine th_get (D := (dC, dI)) (ci := 4) (v := .ref z5) (C := RX4) (T := TX4) (N := 15) hx hb hts inX4 hown hK hP (hLK _ ha0 (by decide)) o33 rfl 0 (by decide) (hts _ T_107) (fun _ h9 => h9) rfl dX4_hasNoneToGo_14 ?_
    refine lv_iload_n hx hb dX4_hasNoneToGo_17 rfl (lv_at hl 2 rfl) ?_
    obtain ⟨f36, o37, h38⟩ := s_op26 hI h6
    obtain ⟨z39, o41, h40⟩ := h38 (w2 : Int32).toNatClampNeg (th_cl ⟨by omega, by omega⟩)
    refine th_aald hx hb hK hP (hLK _ h6 (by decide)) 3 o37 rfl (th_in ⟨by omega, by omega⟩) o41 dX4_hasNoneToGo_18 ?_
    refine lv_aload_n hx hb dX4_hasNoneToGo_19 rfl (lv_at hl 0 rfl) ?_
    refine th_get (D := (dC, dI)) (ci := 4) (v := .int z21) (C := RX4) (T := TX4) (N := 15) hx hb hts inX4 hown hK hP (hLK _ ha0 (by decide)) o33 rfl 8 (by decide) (hts _ T_838) (fun _ h9 => h9) rfl dX4_hasNoneToGo_20 ?_
    obtain ⟨z42, z44, z46, z48, z50, z52, z54, z55, z56, z57, z58, o60, h43, h45, h47, h49, h51, h53, h59, -⟩ := s_op6 hI h40
    refine va_calli (va_runV (As := [.int z21]) (rest := [.int w1]) ⟨hx, hb, hml, hown, hts⟩ (s_X5_movable l dC dI H.size hLK D F9 z39 z21 h40 hI) (cwV 1 hts (ax_gV T_839 T_695 T_696 T_116 T_694) rfl rfl rfl (by decide +kernel) ⟨Nat.le_of_ble_eq_true rfl, Nat.le_of_ble_eq_true rfl⟩) ⟨fun a U g mk q => ⟨q.1, s_pc (U := U) rfl rfl q.2⟩, s_recv hK hP (hLK _ h40 (by decide)) (ci := 5) rfl o60, fun U hU hW => ⟨rfl, s_pw hU hW hP hK hD hN⟩⟩ rfl rfl hl.1 rfl (lv_room (Nat.le_of_ble_eq_true rfl)) dX4_hasNoneToGo_23 ⟨Nat.zero_le _, Nat.zero_le _⟩) hS (fun q _ h => h) (fun q h => h) (fun r61 F62 t H1 locs ht hvm hw hB hz1 hk1 hS => ?_)
    obtain ⟨hP, hK1⟩ := hB
    rw [ht] at hP
    generalize H1 = H at hP hS ⊢
    clear hz1 hk1
    obtain ⟨h63, h64, hI, hfr1⟩ := hw
    have o65 : F62 a0 = .inr (4, [.ref z5, .ref z7, .ref z9, .ref z11, .ref z13, .ref z15, .ref z17, .int z19, .int z21, .int z23, .int z25, .int z27, .int z28, .int z30, .int z31]) := (hfr1 _ (by rw [ha0]; decide)).trans o33
    have o66 : F62 z39 = .inr (5, [.ref z42, .ref z44, .ref z46, .ref z48, .ref z50, .int z52, .int z54, .int z55, .int z56, .int z57, .int z58]) := (hfr1 _ (by rw [h40]; decide)).trans o60
    have hfr : ∀ b, K b ∉ ([] : List Nat) → F62 b = F b := fun b hb9 => (hfr1 b (fun q => hb9 (s_sub (by decide) q))).trans (hfr b hb9)
    refine lv_ior hx hb dX4_hasNoneToGo_26 ?_
    refine lv_topi (fun v67 ev67 => ?_)
    refine lv_istore_n (lv' := [(1, .int v67), (0, .ref a0), (2, .int w2)]) hx hb dX4_hasNoneToGo_27 rfl hl (by decide) rfl (fun ls hl => ?_)
    obtain ⟨v68, ev68⟩ : ∃ y : Int32, w2 + 1 = y := ⟨_, rfl⟩
    have qv68 : v68.toInt = w2.toInt + 1 := by rw [← ev68]; exact th_add rfl (by decide) ⟨by omega, by omega⟩
    refine lv_iinc (v := v68) (lv' := [(2, .int v68), (1, .int v67), (0, .ref a0)]) hx hb dX4_hasNoneToGo_28 hl (k := 2) rfl ev68 (by decide) rfl (fun ls hl => ?_)
    refine lv_goto (tgt := 4) hx hb dX4_hasNoneToGo_31 (by decide) ?_
    exact ih4 _ _ _ _ (by omega) ⟨F62, _, v67, v68, rfl, lv_sub hl [2, 1, 0] rfl, hI, hP, hS, hfr, trivial, ⟨by omega, by omega⟩, rfl⟩

set_option maxHeartbeats 4000000 in
set_option maxRecDepth 100000 in
theorem s_X4_living (l : Launch) (dC : Nat → ClassId) (dI : Nat → Nat → Nat) (sz : Nat) {L : List Nat} {K : Nat → Nat} {cs : Nat → ClassId} (hLK : ∀ a {k : Nat}, K a = k → k ≠ 0 → a ∈ L) (D : Nat) (F : Nat → va_E) (a0 : Nat) (ha0 : K a0 = 5) (hI : s_I K cs D F) : Met l yX4_living (Cond.code yX4_living cX4_living 3 (some .int) :: T0) ({ frames := 1, cells := 0, slots := 0, locals := 20 }) (va_Pc [.ref a0] (s_W dC dI sz L F [(cs 0, .int), (cs 1, .byte), (cs 2, .long), (cs 3, .object RX5), (cs 4, .object RX4), (cs 5, .array .int), (cs 6, .char), (cs 7, .boolean)])) (va_Qi (fun (r : Int32) (G : Nat → va_E) => True ∧ True ∧ s_I K cs D G ∧ ∀ b, K b ∉ ([] : List Nat) → G b = F b) (fun (G : Nat → va_E) (t : State) => va_P (dC, dI) vwCl (va_pl L G) t.heap ∧ va_K (dC, dI) vwCl [(cs 0, .int), (cs 1, .byte), (cs 2, .long), (cs 3, .object RX5), (cs 4, .object RX4), (cs 5, .array .int), (cs 6, .char), (cs 7, .boolean)] t) (fun q => q ∈ L)) 0 0 (fun q => q ∈ L) := by
  refine Met.ofW (cc := cX4_living) (maxL := 3) (ret := (some .int)) (by decide) rfl ?_
  intro p e s m args below meth c s₁ B hml hv
  obtain ⟨rfl, hsz, hP, hK, hD, hN⟩ := hv
  have hx := B.exec
  have hb := B.bytes
  have hr := B.returns
  have hts : ∀ w ∈ T0, w.before _ s = true := fun w h => atoms_spec (ws := Cond.code yX4_living cX4_living 3 (some .int) :: T0) B.pre w (List.mem_cons_of_mem _ h)
  have hown : s.vm.findClass RX4 = some m.cls := findClass_of_methodNamed B.named
  have hlocks := B.notSynchronized
  have hS : va_S (fun q => q ∈ L) s.heap s.heap [] := va_S.rf
  have hfr : ∀ b, K b ∉ ([] : List Nat) → F b = F b := fun _ _ => rfl
  have hl := lv_entry ([.ref a0]) (n := 3) (Nat.le_of_ble_eq_true rfl)
  rw [lg_entry_eq]
  generalize (lg_sl ([.ref a0]) ++ List.replicate (3 - (lg_sl ([.ref a0])).length) Slot.unset).toArray = ls at hl ⊢
  have hl : lv_has ls 3 [(0, .ref a0)] := hl
  refine s_gen hP hS (fun H locs hP hS => ?_)
  refine lv_iconst (v := 0) hx hb dX4_living_0 (by decide) ?_
  refine lv_istore_n (lv' := [(1, .int 0), (0, .ref a0)]) hx hb dX4_living_1 rfl hl (by decide) rfl (fun ls hl => ?_)
  refine lv_iconst (v := 0) hx hb dX4_living_2 (by decide) ?_
  refine lv_istore_n (lv' := [(2, .int 0), (1, .int 0), (0, .ref a0)]) hx hb dX4_living_3 rfl hl (by decide) rfl (fun ls hl => ?_)
  refine th_loop (fun n g H locs => ∃ (G : Nat → va_E) (ls : Array Slot) (w1 : Int32) (w2 : Int32), g = F0 m 4 ls [] ∧ lv_has ls 3 [(0, .ref a0), (1, .int w1), (2, .int w2)] ∧ s_I K cs D G ∧ va_P (dC, dI) vwCl (va_pl L G) H ∧ va_S (fun q => q ∈ L) s.heap H locs ∧ (∀ b, K b ∉ ([] : List Nat) → G b = F b) ∧ True ∧ (0 ≤ w2.toInt ∧ w2.toInt ≤ 4) ∧ n = (5 - w2.toInt).toNat) _ ⟨F, _, 0, 0, rfl, lv_sub hl [2, 1, 0] rfl, hI, hP, hS, hfr, trivial, (by decide), rfl⟩ (fun n ih4 g H locs hq => ?_)
  obtain ⟨F9, ls, w1, w2, rfl, hl, hI, hP, hS, hfr, h3, h4, hn⟩ := hq
  have hn_4 := hn
  obtain ⟨n_4, hn9_4⟩ : ∃ q, q = n := ⟨_, rfl⟩
  refine lv_iload_n hx hb dX4_living_4 rfl (lv_at hl 2 rfl) ?_
  refine lv_aload_n hx hb dX4_living_5 rfl (lv_at hl 0 rfl) ?_
  obtain ⟨z5, z7, z9, z11, z13, z15, z17, z19, z21, z23, z25, z27, z28, z30, z31, o33, h6, h8, h10, h12, h14, h16, h18, h20, h22, h24, h26, h29, h32, -⟩ := s_op5 hI ha0
  refine th_get (D := (dC, dI)) (ci := 4) (v := .int z19) (C := RX4) (T := TX4) (N := 15) hx hb hts inX4 hown hK hP (hLK _ ha0 (by decide)) o33 rfl 7 (by decide) (hts _ T_840) (fun _ h9 => h9) rfl dX4_living_6 ?_
  refine lv_icmp_ge (tgt := 33) hx hb dX4_living_9 (by decide) (fun c34 => ?_) (fun c34 => ?_)
  · have c34 := Int32.le_iff_toInt_le.mp c34
    refine lv_iload_n hx hb dX4_living_33 rfl (lv_at hl 1 rfl) ?_
    exact W.iret (v := w1) hx hb hr (fun t ht hW => ⟨⟨w1, F9, rfl, ⟨trivial, trivial, hI, hfr⟩, by rw [ht]; exact hP, va_K.moved hW.alike hK⟩, hS.F ht⟩) hS.2.2 dX4_living_34
  · have c34 := mt Int32.le_iff_toInt_le.mpr c34
    refine lv_iload_n hx hb dX4_living_12 rfl (lv_at hl 1 rfl) ?_
    refine lv_aload_n hx hb dX4_living_13 rfl (lv_at hl 0 rfl) ?_
    refine th_get (D := (dC, dI)) (ci := 4) (v := .ref z5) (C := RX4) (T := TX4) (N := 15) hx hb hts inX4 hown hK hP (hLK _ ha0 (by decide)) o33 rfl 0 (by decide) (hts _ T_107) (fun _ h9 => h9) rfl dX4_living_14 ?_
    refine lv_iload_n hx hb dX4_living_17 rfl (lv_at hl 2 rfl) ?_
    obtain ⟨f35, o36, h37⟩ := s_op26 hI h6
    obtain ⟨z38, o40, h39⟩ := h37 (w2 : Int32).toNatClampNeg (th_cl ⟨by omega, by omega⟩)
    refine th_aald hx hb hK hP (hLK _ h6 (by decide)) 3 o36 rfl (th_in ⟨by omega, by omega⟩) o40 dX4_living_18 ?_
    obtain ⟨z41, z43, z45, z47, z49, z51, z53, z54, z55, z56, z57, o59, h42, h44, h46, h48, h50, h52, h58, -⟩ := s_op6 hI h39
    refine th_getN (D := (dC, dI)) (ci := 5) (v := .int z53) (C := RX5) (T := TX5) (N := 11) hx hb hts inX5 hown hK hP (hLK _ h39 (by decide)) o59 rfl 6 (by decide) (va_Nw.use rfl (ax_n45 hN)) (fun _ h9 => h9) rfl dX4_living_19 ?_
    refine va_calli (va_runS (As := [.int z53]) (rest := [.int w1]) ⟨hx, hb, hml, hown, hts⟩ (s_J6_bitCount_0f7a4 l dC dI H.size hLK D F9 z53 hI) ⟨callB_of 1 hts (ax_gT T_653) rfl rfl rfl (hts _ T_652) (hts _ T_868) (by decide +kernel) ⟨Nat.le_of_ble_eq_true rfl, Nat.le_of_ble_eq_true rfl⟩, hts _ T_654⟩ ⟨fun a U g mk q => ⟨q.1, s_pc (U := U) rfl rfl q.2⟩, fun U hU hW => ⟨rfl, s_pw hU hW hP hK hD hN⟩⟩ rfl rfl hl.1 rfl (lv_room (Nat.le_of_ble_eq_true rfl)) dX4_living_22 ⟨Nat.zero_le _, Nat.zero_le _⟩) hS (fun q _ h => h) (fun q h => h) (fun r60 F61 t H1 locs ht hvm hw hB hz1 hk1 hS => ?_)
    obtain ⟨hP, hK1⟩ := hB
    rw [ht] at hP
    generalize H1 = H at hP hS ⊢
    clear hz1 hk1
    obtain ⟨h62, h63, hI, hfr1⟩ := hw
    have o64 : F61 a0 = .inr (4, [.ref z5, .ref z7, .ref z9, .ref z11, .ref z13, .ref z15, .ref z17, .int z19, .int z21, .int z23, .int z25, .int z27, .int z28, .int z30, .int z31]) := (hfr1 _ (by rw [ha0]; decide)).trans o33
    have o65 : F61 z38 = .inr (5, [.ref z41, .ref z43, .ref z45, .ref z47, .ref z49, .int z51, .int z53, .int z54, .int z55, .int z56, .int z57]) := (hfr1 _ (by rw [h39]; decide)).trans o59
    have hfr : ∀ b, K b ∉ ([] : List Nat) → F61 b = F b := fun b hb9 => (hfr1 b (fun q => hb9 (s_sub (by decide) q))).trans (hfr b hb9)
    refine lv_iadd hx hb dX4_living_25 ?_
    refine lv_topi (fun v66 ev66 => ?_)
    refine lv_istore_n (lv' := [(1, .int v66), (0, .ref a0), (2, .int w2)]) hx hb dX4_living_26 rfl hl (by decide) rfl (fun ls hl => ?_)
    obtain ⟨v67, ev67⟩ : ∃ y : Int32, w2 + 1 = y := ⟨_, rfl⟩
    have qv67 : v67.toInt = w2.toInt + 1 := by rw [← ev67]; exact th_add rfl (by decide) ⟨by omega, by omega⟩
    refine lv_iinc (v := v67) (lv' := [(2, .int v67), (1, .int v66), (0, .ref a0)]) hx hb dX4_living_27 hl (k := 2) rfl ev67 (by decide) rfl (fun ls hl => ?_)
    refine lv_goto (tgt := 4) hx hb dX4_living_30 (by decide) ?_
    exact ih4 _ _ _ _ (by omega) ⟨F61, _, v66, v67, rfl, lv_sub hl [2, 1, 0] rfl, hI, hP, hS, hfr, trivial, ⟨by omega, by omega⟩, rfl⟩

set_option maxHeartbeats 4000000 in
set_option maxRecDepth 100000 in
theorem s_X4_waiting (l : Launch) (dC : Nat → ClassId) (dI : Nat → Nat → Nat) (sz : Nat) {L : List Nat} {K : Nat → Nat} {cs : Nat → ClassId} (hLK : ∀ a {k : Nat}, K a = k → k ≠ 0 → a ∈ L) (D : Nat) (F : Nat → va_E) (a0 : Nat) (ha0 : K a0 = 5) (hI : s_I K cs D F) : Met l yX4_waiting (Cond.code yX4_waiting cX4_waiting 3 (some .int) :: T0) ({ frames := 1, cells := 0, slots := 0, locals := 20 }) (va_Pc [.ref a0] (s_W dC dI sz L F [(cs 0, .int), (cs 1, .byte), (cs 2, .long), (cs 3, .object RX5), (cs 4, .object RX4), (cs 5, .array .int), (cs 6, .char), (cs 7, .boolean)])) (va_Qi (fun (r : Int32) (G : Nat → va_E) => True ∧ True ∧ s_I K cs D G ∧ ∀ b, K b ∉ ([] : List Nat) → G b = F b) (fun (G : Nat → va_E) (t : State) => va_P (dC, dI) vwCl (va_pl L G) t.heap ∧ va_K (dC, dI) vwCl [(cs 0, .int), (cs 1, .byte), (cs 2, .long), (cs 3, .object RX5), (cs 4, .object RX4), (cs 5, .array .int), (cs 6, .char), (cs 7, .boolean)] t) (fun q => q ∈ L)) 0 0 (fun q => q ∈ L) := by
  refine Met.ofW (cc := cX4_waiting) (maxL := 3) (ret := (some .int)) (by decide) rfl ?_
  intro p e s m args below meth c s₁ B hml hv
  obtain ⟨rfl, hsz, hP, hK, hD, hN⟩ := hv
  have hx := B.exec
  have hb := B.bytes
  have hr := B.returns
  have hts : ∀ w ∈ T0, w.before _ s = true := fun w h => atoms_spec (ws := Cond.code yX4_waiting cX4_waiting 3 (some .int) :: T0) B.pre w (List.mem_cons_of_mem _ h)
  have hown : s.vm.findClass RX4 = some m.cls := findClass_of_methodNamed B.named
  have hlocks := B.notSynchronized
  have hS : va_S (fun q => q ∈ L) s.heap s.heap [] := va_S.rf
  have hfr : ∀ b, K b ∉ ([] : List Nat) → F b = F b := fun _ _ => rfl
  have hl := lv_entry ([.ref a0]) (n := 3) (Nat.le_of_ble_eq_true rfl)
  rw [lg_entry_eq]
  generalize (lg_sl ([.ref a0]) ++ List.replicate (3 - (lg_sl ([.ref a0])).length) Slot.unset).toArray = ls at hl ⊢
  have hl : lv_has ls 3 [(0, .ref a0)] := hl
  refine s_gen hP hS (fun H locs hP hS => ?_)
  refine lv_iconst (v := 0) hx hb dX4_waiting_0 (by decide) ?_
  refine lv_istore_n (lv' := [(1, .int 0), (0, .ref a0)]) hx hb dX4_waiting_1 rfl hl (by decide) rfl (fun ls hl => ?_)
  refine lv_iconst (v := 0) hx hb dX4_waiting_2 (by decide) ?_
  refine lv_istore_n (lv' := [(2, .int 0), (1, .int 0), (0, .ref a0)]) hx hb dX4_waiting_3 rfl hl (by decide) rfl (fun ls hl => ?_)
  refine th_loop (fun n g H locs => ∃ (G : Nat → va_E) (ls : Array Slot) (w1 : Int32) (w2 : Int32), g = F0 m 4 ls [] ∧ lv_has ls 3 [(0, .ref a0), (1, .int w1), (2, .int w2)] ∧ s_I K cs D G ∧ va_P (dC, dI) vwCl (va_pl L G) H ∧ va_S (fun q => q ∈ L) s.heap H locs ∧ (∀ b, K b ∉ ([] : List Nat) → G b = F b) ∧ True ∧ (0 ≤ w2.toInt ∧ w2.toInt ≤ 4) ∧ n = (5 - w2.toInt).toNat) _ ⟨F, _, 0, 0, rfl, lv_sub hl [2, 1, 0] rfl, hI, hP, hS, hfr, trivial, (by decide), rfl⟩ (fun n ih4 g H locs hq => ?_)
  obtain ⟨F9, ls, w1, w2, rfl, hl, hI, hP, hS, hfr, h3, h4, hn⟩ := hq
  have hn_4 := hn
  obtain ⟨n_4, hn9_4⟩ : ∃ q, q = n := ⟨_, rfl⟩
  refine lv_iload_n hx hb dX4_waiting_4 rfl (lv_at hl 2 rfl) ?_
  refine lv_aload_n hx hb dX4_waiting_5 rfl (lv_at hl 0 rfl) ?_
  obtain ⟨z5, z7, z9, z11, z13, z15, z17, z19, z21, z23, z25, z27, z28, z30, z31, o33, h6, h8, h10, h12, h14, h16, h18, h20, h22, h24, h26, h29, h32, -⟩ := s_op5 hI ha0
  refine th_get (D := (dC, dI)) (ci := 4) (v := .int z19) (C := RX4) (T := TX4) (N := 15) hx hb hts inX4 hown hK hP (hLK _ ha0 (by decide)) o33 rfl 7 (by decide) (hts _ T_840) (fun _ h9 => h9) rfl dX4_waiting_6 ?_
  refine lv_icmp_ge (tgt := 33) hx hb dX4_waiting_9 (by decide) (fun c34 => ?_) (fun c34 => ?_)
  · have c34 := Int32.le_iff_toInt_le.mp c34
    refine lv_iload_n hx hb dX4_waiting_33 rfl (lv_at hl 1 rfl) ?_
    exact W.iret (v := w1) hx hb hr (fun t ht hW => ⟨⟨w1, F9, rfl, ⟨trivial, trivial, hI, hfr⟩, by rw [ht]; exact hP, va_K.moved hW.alike hK⟩, hS.F ht⟩) hS.2.2 dX4_waiting_34
  · have c34 := mt Int32.le_iff_toInt_le.mpr c34
    refine lv_iload_n hx hb dX4_waiting_12 rfl (lv_at hl 1 rfl) ?_
    refine lv_aload_n hx hb dX4_waiting_13 rfl (lv_at hl 0 rfl) ?_
    refine th_get (D := (dC, dI)) (ci := 4) (v := .ref z5) (C := RX4) (T := TX4) (N := 15) hx hb hts inX4 hown hK hP (hLK _ ha0 (by decide)) o33 rfl 0 (by decide) (hts _ T_107) (fun _ h9 => h9) rfl dX4_waiting_14 ?_
    refine lv_iload_n hx hb dX4_waiting_17 rfl (lv_at hl 2 rfl) ?_
    obtain ⟨f35, o36, h37⟩ := s_op26 hI h6
    obtain ⟨z38, o40, h39⟩ := h37 (w2 : Int32).toNatClampNeg (th_cl ⟨by omega, by omega⟩)
    refine th_aald hx hb hK hP (hLK _ h6 (by decide)) 3 o36 rfl (th_in ⟨by omega, by omega⟩) o40 dX4_waiting_18 ?_
    obtain ⟨z41, z43, z45, z47, z49, z51, z53, z54, z55, z56, z57, o59, h42, h44, h46, h48, h50, h52, h58, -⟩ := s_op6 hI h39
    refine th_getN (D := (dC, dI)) (ci := 5) (v := .int z54) (C := RX5) (T := TX5) (N := 11) hx hb hts inX5 hown hK hP (hLK _ h39 (by decide)) o59 rfl 7 (by decide) (va_Nw.use rfl (ax_n47 hN)) (fun _ h9 => h9) rfl dX4_waiting_19 ?_
    refine va_calli (va_runS (As := [.int z54]) (rest := [.int w1]) ⟨hx, hb, hml, hown, hts⟩ (s_J6_bitCount_0f7a4 l dC dI H.size hLK D F9 z54 hI) ⟨callB_of 1 hts (ax_gT T_653) rfl rfl rfl (hts _ T_652) (hts _ T_868) (by decide +kernel) ⟨Nat.le_of_ble_eq_true rfl, Nat.le_of_ble_eq_true rfl⟩, hts _ T_654⟩ ⟨fun a U g mk q => ⟨q.1, s_pc (U := U) rfl rfl q.2⟩, fun U hU hW => ⟨rfl, s_pw hU hW hP hK hD hN⟩⟩ rfl rfl hl.1 rfl (lv_room (Nat.le_of_ble_eq_true rfl)) dX4_waiting_22 ⟨Nat.zero_le _, Nat.zero_le _⟩) hS (fun q _ h => h) (fun q h => h) (fun r60 F61 t H1 locs ht hvm hw hB hz1 hk1 hS => ?_)
    obtain ⟨hP, hK1⟩ := hB
    rw [ht] at hP
    generalize H1 = H at hP hS ⊢
    clear hz1 hk1
    obtain ⟨h62, h63, hI, hfr1⟩ := hw
    have o64 : F61 a0 = .inr (4, [.ref z5, .ref z7, .ref z9, .ref z11, .ref z13, .ref z15, .ref z17, .int z19, .int z21, .int z23, .int z25, .int z27, .int z28, .int z30, .int z31]) := (hfr1 _ (by rw [ha0]; decide)).trans o33
    have o65 : F61 z38 = .inr (5, [.ref z41, .ref z43, .ref z45, .ref z47, .ref z49, .int z51, .int z53, .int z54, .int z55, .int z56, .int z57]) := (hfr1 _ (by rw [h39]; decide)).trans o59
    have hfr : ∀ b, K b ∉ ([] : List Nat) → F61 b = F b := fun b hb9 => (hfr1 b (fun q => hb9 (s_sub (by decide) q))).trans (hfr b hb9)
    refine lv_iadd hx hb dX4_waiting_25 ?_
    refine lv_topi (fun v66 ev66 => ?_)
    refine lv_istore_n (lv' := [(1, .int v66), (0, .ref a0), (2, .int w2)]) hx hb dX4_waiting_26 rfl hl (by decide) rfl (fun ls hl => ?_)
    obtain ⟨v67, ev67⟩ : ∃ y : Int32, w2 + 1 = y := ⟨_, rfl⟩
    have qv67 : v67.toInt = w2.toInt + 1 := by rw [← ev67]; exact th_add rfl (by decide) ⟨by omega, by omega⟩
    refine lv_iinc (v := v67) (lv' := [(2, .int v67), (1, .int v66), (0, .ref a0)]) hx hb dX4_waiting_27 hl (k := 2) rfl ev67 (by decide) rfl (fun ls hl => ?_)
    refine lv_goto (tgt := 4) hx hb dX4_waiting_30 (by decide) ?_
    exact ih4 _ _ _ _ (by omega) ⟨F61, _, v66, v67, rfl, lv_sub hl [2, 1, 0] rfl, hI, hP, hS, hfr, trivial, ⟨by omega, by omega⟩, rfl⟩

set_option maxHeartbeats 4000000 in
set_option maxRecDepth 100000 in
theorem s_X4_racedWords (l : Launch) (dC : Nat → ClassId) (dI : Nat → Nat → Nat) (sz : Nat) {L : List Nat} {K : Nat → Nat} {cs : Nat → ClassId} (hLK : ∀ a {k : Nat}, K a = k → k ≠ 0 → a ∈ L) (D : Nat) (F : Nat → va_E) (a0 : Nat) (ha0 : K a0 = 5) (hI : s_I K cs D F) : Met l yX4_racedWords (Cond.code yX4_racedWords cX4_racedWords 3 (some .int) :: T0) ({ frames := 0, cells := 0, slots := 0, locals := 0 }) (va_Pc [.ref a0] (s_W dC dI sz L F [(cs 0, .int), (cs 1, .byte), (cs 2, .long), (cs 3, .object RX5), (cs 4, .object RX4), (cs 5, .array .int), (cs 6, .char), (cs 7, .boolean)])) (va_Qi (fun (r : Int32) (G : Nat → va_E) => True ∧ True ∧ s_I K cs D G ∧ ∀ b, K b ∉ ([] : List Nat) → G b = F b) (fun (G : Nat → va_E) (t : State) => va_P (dC, dI) vwCl (va_pl L G) t.heap ∧ va_K (dC, dI) vwCl [(cs 0, .int), (cs 1, .byte), (cs 2, .long), (cs 3, .object RX5), (cs 4, .object RX4), (cs 5, .array .int), (cs 6, .char), (cs 7, .boolean)] t) (fun q => q ∈ L)) 0 0 (fun q => q ∈ L) := by
  refine Met.ofW (cc := cX4_racedWords) (maxL := 3) (ret := (some .int)) (by decide) rfl ?_
  intro p e s m args below meth c s₁ B hml hv
  obtain ⟨rfl, hsz, hP, hK, hD, hN⟩ := hv
  have hx := B.exec
  have hb := B.bytes
  have hr := B.returns
  have hts : ∀ w ∈ T0, w.before _ s = true := fun w h => atoms_spec (ws := Cond.code yX4_racedWords cX4_racedWords 3 (some .int) :: T0) B.pre w (List.mem_cons_of_mem _ h)
  have hown : s.vm.findClass RX4 = some m.cls := findClass_of_methodNamed B.named
  have hlocks := B.notSynchronized
  have hS : va_S (fun q => q ∈ L) s.heap s.heap [] := va_S.rf
  have hfr : ∀ b, K b ∉ ([] : List Nat) → F b = F b := fun _ _ => rfl
  have hl := lv_entry ([.ref a0]) (n := 3) (Nat.le_of_ble_eq_true rfl)
  rw [lg_entry_eq]
  generalize (lg_sl ([.ref a0]) ++ List.replicate (3 - (lg_sl ([.ref a0])).length) Slot.unset).toArray = ls at hl ⊢
  have hl : lv_has ls 3 [(0, .ref a0)] := hl
  refine s_gen hP hS (fun H locs hP hS => ?_)
  refine lv_iconst (v := 0) hx hb dX4_racedWords_0 (by decide) ?_
  refine lv_istore_n (lv' := [(1, .int 0), (0, .ref a0)]) hx hb dX4_racedWords_1 rfl hl (by decide) rfl (fun ls hl => ?_)
  refine lv_iconst (v := 0) hx hb dX4_racedWords_2 (by decide) ?_
  refine lv_istore_n (lv' := [(2, .int 0), (1, .int 0), (0, .ref a0)]) hx hb dX4_racedWords_3 rfl hl (by decide) rfl (fun ls hl => ?_)
  refine th_loop (fun n g H locs => ∃ (G : Nat → va_E) (ls : Array Slot) (w1 : Int32) (w2 : Int32), g = F0 m 4 ls [] ∧ lv_has ls 3 [(0, .ref a0), (1, .int w1), (2, .int w2)] ∧ s_I K cs D G ∧ va_P (dC, dI) vwCl (va_pl L G) H ∧ va_S (fun q => q ∈ L) s.heap H locs ∧ (∀ b, K b ∉ ([] : List Nat) → G b = F b) ∧ True ∧ (0 ≤ w2.toInt ∧ w2.toInt ≤ 96) ∧ n = (97 - w2.toInt).toNat) _ ⟨F, _, 0, 0, rfl, lv_sub hl [2, 1, 0] rfl, hI, hP, hS, hfr, trivial, (by decide), rfl⟩ (fun n ih4 g H locs hq => ?_)
  obtain ⟨F9, ls, w1, w2, rfl, hl, hI, hP, hS, hfr, h3, h4, hn⟩ := hq
  have hn_4 := hn
  obtain ⟨n_4, hn9_4⟩ : ∃ q, q = n := ⟨_, rfl⟩
  refine lv_iload_n hx hb dX4_racedWords_4 rfl (lv_at hl 2 rfl) ?_
  refine lv_aload_n hx hb dX4_racedWords_5 rfl (lv_at hl 0 rfl) ?_
  obtain ⟨z5, z7, z9, z11, z13, z15, z17, z19, z21, z23, z25, z27, z28, z30, z31, o33, h6, h8, h10, h12, h14, h16, h18, h20, h22, h24, h26, h29, h32, -⟩ := s_op5 hI ha0
  refine th_get (D := (dC, dI)) (ci := 4) (v := .ref z15) (C := RX4) (T := TX4) (N := 15) hx hb hts inX4 hown hK hP (hLK _ ha0 (by decide)) o33 rfl 5 (by decide) (hts _ T_112) (fun _ h9 => h9) rfl dX4_racedWords_6 ?_
  obtain ⟨f34, o35, h36⟩ := s_op28 hI h16
  refine th_alen hx hb hK hP (hLK _ h16 (by decide)) 0 o35 rfl (v := 96) rfl dX4_racedWords_9 ?_
  refine lv_icmp_ge (tgt := 28) hx hb dX4_racedWords_10 (by decide) (fun c37 => ?_) (fun c37 => ?_)
  · have c37 := (ax_ge (n := 96) (by decide)).mp c37
    refine lv_iload_n hx hb dX4_racedWords_28 rfl (lv_at hl 1 rfl) ?_
    exact W.iret (v := w1) hx hb hr (fun t ht hW => ⟨⟨w1, F9, rfl, ⟨trivial, trivial, hI, hfr⟩, by rw [ht]; exact hP, va_K.moved hW.alike hK⟩, hS.F ht⟩) hS.2.2 dX4_racedWords_29
  · have c37 := mt (ax_ge (n := 96) (by decide)).mpr c37
    refine lv_iload_n hx hb dX4_racedWords_13 rfl (lv_at hl 1 rfl) ?_
    refine lv_aload_n hx hb dX4_racedWords_14 rfl (lv_at hl 0 rfl) ?_
    refine th_get (D := (dC, dI)) (ci := 4) (v := .ref z15) (C := RX4) (T := TX4) (N := 15) hx hb hts inX4 hown hK hP (hLK _ ha0 (by decide)) o33 rfl 5 (by decide) (hts _ T_112) (fun _ h9 => h9) rfl dX4_racedWords_15 ?_
    refine lv_iload_n hx hb dX4_racedWords_18 rfl (lv_at hl 2 rfl) ?_
    obtain ⟨f38, o39, h40⟩ := s_op28 hI h16
    refine th_iald hx hb hK hP (hLK _ h16 (by decide)) 0 o39 rfl (th_in ⟨by omega, by omega⟩) dX4_racedWords_19 ?_
    refine lv_topi (fun v41 ev41 => ?_)
    refine lv_iadd hx hb dX4_racedWords_20 ?_
    refine lv_topi (fun v42 ev42 => ?_)
    refine lv_istore_n (lv' := [(1, .int v42), (0, .ref a0), (2, .int w2)]) hx hb dX4_racedWords_21 rfl hl (by decide) rfl (fun ls hl => ?_)
    obtain ⟨v43, ev43⟩ : ∃ y : Int32, w2 + 1 = y := ⟨_, rfl⟩
    have qv43 : v43.toInt = w2.toInt + 1 := by rw [← ev43]; exact th_add rfl (by decide) ⟨by omega, by omega⟩
    refine lv_iinc (v := v43) (lv' := [(2, .int v43), (1, .int v42), (0, .ref a0)]) hx hb dX4_racedWords_22 hl (k := 2) rfl ev43 (by decide) rfl (fun ls hl => ?_)
    refine lv_goto (tgt := 4) hx hb dX4_racedWords_25 (by decide) ?_
    exact ih4 _ _ _ _ (by omega) ⟨F9, _, v42, v43, rfl, lv_sub hl [2, 1, 0] rfl, hI, hP, hS, hfr, trivial, ⟨by omega, by omega⟩, rfl⟩

set_option maxHeartbeats 4000000 in
set_option maxRecDepth 100000 in
theorem s_X4_touch (l : Launch) (dC : Nat → ClassId) (dI : Nat → Nat → Nat) (sz : Nat) {L : List Nat} {K : Nat → Nat} {cs : Nat → ClassId} (hLK : ∀ a {k : Nat}, K a = k → k ≠ 0 → a ∈ L) (D : Nat) (F : Nat → va_E) (a0 : Nat) (x1 : Int32) (x2 : Int32) (x3 : Int32) (ha0 : K a0 = 5) (hx1 : 0 ≤ x1.toInt ∧ x1.toInt ≤ 95) (hx3 : 0 ≤ x3.toInt ∧ x3.toInt ≤ 1) (hI : s_I K cs D F) : Met l yX4_touch (Cond.code yX4_touch cX4_touch 4 none :: T0) ({ frames := 1, cells := 0, slots := 0, locals := 20 }) (va_Pc [.ref a0, .int x1, .int x2, .int x3] (s_W dC dI sz L F [(cs 0, .int), (cs 1, .byte), (cs 2, .long), (cs 3, .object RX5), (cs 4, .object RX4), (cs 5, .array .int), (cs 6, .char), (cs 7, .boolean)])) (va_Qv (fun (G : Nat → va_E) => True ∧ True ∧ s_I K cs D G ∧ ∀ b, K b ∉ [28] → G b = F b) (fun (G : Nat → va_E) (t : State) => va_P (dC, dI) vwCl (va_pl L G) t.heap ∧ va_K (dC, dI) vwCl [(cs 0, .int), (cs 1, .byte), (cs 2, .long), (cs 3, .object RX5), (cs 4, .object RX4), (cs 5, .array .int), (cs 6, .char), (cs 7, .boolean)] t) (fun q => q ∈ L)) 0 0 (fun q => q ∈ L) := by
  refine Met.ofW (cc := cX4_touch) (maxL := 4) (ret := none) (by decide) rfl ?_
  intro p e s m args below meth c s₁ B hml hv
  obtain ⟨rfl, hsz, hP, hK, hD, hN⟩ := hv
  have hx := B.exec
  have hb := B.bytes
  have hr := B.returns
  have hts : ∀ w ∈ T0, w.before _ s = true := fun w h => atoms_spec (ws := Cond.code yX4_touch cX4_touch 4 none :: T0) B.pre w (List.mem_cons_of_mem _ h)
  have hown : s.vm.findClass RX4 = some m.cls := findClass_of_methodNamed B.named
  have hlocks := B.notSynchronized
  have hS : va_S (fun q => q ∈ L) s.heap s.heap [] := va_S.rf
  have hfr : ∀ b, K b ∉ [28] → F b = F b := fun _ _ => rfl
  have hl := lv_entry ([.ref a0, .int x1, .int x2, .int x3]) (n := 4) (Nat.le_of_ble_eq_true rfl)
  rw [lg_entry_eq]
  generalize (lg_sl ([.ref a0, .int x1, .int x2, .int x3]) ++ List.replicate (4 - (lg_sl ([.ref a0, .int x1, .int x2, .int x3])).length) Slot.unset).toArray = ls at hl ⊢
  have hl : lv_has ls 4 [(0, .ref a0), (1, .int x1), (2, .int x2), (3, .int x3)] := hl
  refine s_gen hP hS (fun H locs hP hS => ?_)
  refine th_join (fun g H locs => ∃ (G : Nat → va_E) (ls : Array Slot), g = F0 m 23 ls [] ∧ lv_has ls 4 [(0, .ref a0), (1, .int x1)] ∧ s_I K cs D G ∧ va_P (dC, dI) vwCl (va_pl L G) H ∧ va_S (fun q => q ∈ L) s.heap H locs ∧ (∀ b, K b ∉ [28] → G b = F b) ∧ (0 ≤ x1.toInt ∧ x1.toInt ≤ 95)) (fun K23 => ?_) ?_
  · refine lv_aload_n hx hb dX4_touch_0 rfl (lv_at hl 0 rfl) ?_
    obtain ⟨z1, z3, z5, z7, z9, z11, z13, z15, z17, z19, z21, z23, z24, z26, z27, o29, h2, h4, h6, h8, h10, h12, h14, h16, h18, h20, h22, h25, h28, -⟩ := s_op5 hI ha0
    refine th_get (D := (dC, dI)) (ci := 4) (v := .ref z7) (C := RX4) (T := TX4) (N := 15) hx hb hts inX4 hown hK hP (hLK _ ha0 (by decide)) o29 rfl 3 (by decide) (hts _ T_110) (fun _ h9 => h9) rfl dX4_touch_1 ?_
    refine lv_iload_n hx hb dX4_touch_4 rfl (lv_at hl 1 rfl) ?_
    refine lv_dup2_11 hx hb dX4_touch_5 rfl rfl ?_
    obtain ⟨f30, o31, h32⟩ := s_op28 hI h8
    refine th_iald hx hb hK hP (hLK _ h8 (by decide)) 0 o31 rfl (th_in ⟨by omega, by omega⟩) dX4_touch_6 ?_
    refine lv_topi (fun v33 ev33 => ?_)
    refine lv_iconst (v := 1) hx hb dX4_touch_7 (by decide) ?_
    refine lv_iload_n hx hb dX4_touch_8 rfl (lv_at hl 2 rfl) ?_
    refine lv_ishl hx hb dX4_touch_9 ?_
    refine lv_topi (fun v34 ev34 => ?_)
    refine lv_ior hx hb dX4_touch_10 ?_
    refine lv_topi (fun v35 ev35 => ?_)
    obtain ⟨f36, o37, h38⟩ := s_op28 hI h8
    refine th_iast hx hb hK hP hD hS (hLK _ h8 (by decide)) 0 o37 rfl (th_in ⟨by omega, by omega⟩) dX4_touch_11 (fun H locs hP hS => ?_)
    have hP : va_P (dC, dI) vwCl (va_pl L (va_up F z7 (.inl (cs 0, 96, .inl (upd f36 (x1 : Int32).toNatClampNeg v35))))) H := hP
    obtain ⟨F39, hF40⟩ : ∃ G : Nat → va_E, G = va_up F z7 (.inl (cs 0, 96, .inl (upd f36 (x1 : Int32).toNatClampNeg v35))) := ⟨_, rfl⟩
    rw [← hF40] at hP
    have hI : s_I K cs D F39 := by rw [hF40]; exact s_cl28 hI h8 ⟨_, rfl, trivial⟩
    have hfr : ∀ b, K b ∉ [28] → F39 b = F b := by rw [hF40]; exact s_fr hfr h8 (by decide)
    have o41 : F39 a0 = .inr (4, [.ref z1, .ref z3, .ref z5, .ref z7, .ref z9, .ref z11, .ref z13, .int z15, .int z17, .int z19, .int z21, .int z23, .int z24, .int z26, .int z27]) := by rw [hF40]; exact th_ne (th_kd ha0 h8 (by decide)) o29
    refine lv_iload_n hx hb dX4_touch_12 rfl (lv_at hl 3 rfl) ?_
    refine lv_if_eq (tgt := 23) hx hb dX4_touch_13 (by decide) (fun c42 => ?_) (fun c42 => ?_)
    · have c42 := (ax_eq (n := 0) (by decide)).mp c42
      exact K23 _ _ _ ⟨F39, _, rfl, lv_sub hl [0, 1] rfl, hI, hP, hS, hfr, ⟨by omega, by omega⟩⟩
    · have c42 := mt (ax_eq (n := 0) (by decide)).mpr c42
      refine lv_aload_n hx hb dX4_touch_16 rfl (lv_at hl 0 rfl) ?_
      refine th_get (D := (dC, dI)) (ci := 4) (v := .ref z9) (C := RX4) (T := TX4) (N := 15) hx hb hts inX4 hown hK hP (hLK _ ha0 (by decide)) o41 rfl 4 (by decide) (hts _ T_111) (fun _ h9 => h9) rfl dX4_touch_17 ?_
      refine lv_iload_n hx hb dX4_touch_20 rfl (lv_at hl 1 rfl) ?_
      refine lv_iconst (v := 1) hx hb dX4_touch_21 (by decide) ?_
      obtain ⟨f43, o44, h45⟩ := s_op28 hI h10
      refine th_iast hx hb hK hP hD hS (hLK _ h10 (by decide)) 0 o44 rfl (th_in ⟨by omega, by omega⟩) dX4_touch_22 (fun H locs hP hS => ?_)
      have hP : va_P (dC, dI) vwCl (va_pl L (va_up F39 z9 (.inl (cs 0, 96, .inl (upd f43 (x1 : Int32).toNatClampNeg 1))))) H := hP
      obtain ⟨F46, hF47⟩ : ∃ G : Nat → va_E, G = va_up F39 z9 (.inl (cs 0, 96, .inl (upd f43 (x1 : Int32).toNatClampNeg 1))) := ⟨_, rfl⟩
      rw [← hF47] at hP
      have hI : s_I K cs D F46 := by rw [hF47]; exact s_cl28 hI h10 ⟨_, rfl, trivial⟩
      have hfr : ∀ b, K b ∉ [28] → F46 b = F b := by rw [hF47]; exact s_fr hfr h10 (by decide)
      have o48 : F46 a0 = .inr (4, [.ref z1, .ref z3, .ref z5, .ref z7, .ref z9, .ref z11, .ref z13, .int z15, .int z17, .int z19, .int z21, .int z23, .int z24, .int z26, .int z27]) := by rw [hF47]; exact th_ne (th_kd ha0 h10 (by decide)) o41
      exact K23 _ _ _ ⟨F46, _, rfl, lv_sub hl [0, 1] rfl, hI, hP, hS, hfr, ⟨by omega, by omega⟩⟩
  · intro g H locs hq
    obtain ⟨F9, ls, rfl, hl, hI, hP, hS, hfr, h49⟩ := hq
    refine lv_aload_n hx hb dX4_touch_23 rfl (lv_at hl 0 rfl) ?_
    obtain ⟨z50, z52, z54, z56, z58, z60, z62, z64, z66, z68, z70, z72, z73, z75, z76, o78, h51, h53, h55, h57, h59, h61, h63, h65, h67, h69, h71, h74, h77, -⟩ := s_op5 hI ha0
    refine th_get (D := (dC, dI)) (ci := 4) (v := .ref z58) (C := RX4) (T := TX4) (N := 15) hx hb hts inX4 hown hK hP (hLK _ ha0 (by decide)) o78 rfl 4 (by decide) (hts _ T_111) (fun _ h9 => h9) rfl dX4_touch_24 ?_
    refine lv_iload_n hx hb dX4_touch_27 rfl (lv_at hl 1 rfl) ?_
    obtain ⟨f79, o80, h81⟩ := s_op28 hI h59
    refine th_iald hx hb hK hP (hLK _ h59 (by decide)) 0 o80 rfl (th_in ⟨by omega, by omega⟩) dX4_touch_28 ?_
    refine lv_topi (fun v82 ev82 => ?_)
    refine lv_if_eq (tgt := 52) hx hb dX4_touch_29 (by decide) (fun c83 => ?_) (fun c83 => ?_)
    · have c83 := (ax_eq (n := 0) (by decide)).mp c83
      exact W.vret hx hb hr (fun t ht hW => ⟨⟨F9, rfl, ⟨trivial, trivial, hI, hfr⟩, by rw [ht]; exact hP, va_K.moved hW.alike hK⟩, hS.F ht⟩) hS.2.2 dX4_touch_52
    · have c83 := mt (ax_eq (n := 0) (by decide)).mpr c83
      refine lv_aload_n hx hb dX4_touch_32 rfl (lv_at hl 0 rfl) ?_
      refine th_get (D := (dC, dI)) (ci := 4) (v := .ref z56) (C := RX4) (T := TX4) (N := 15) hx hb hts inX4 hown hK hP (hLK _ ha0 (by decide)) o78 rfl 3 (by decide) (hts _ T_110) (fun _ h9 => h9) rfl dX4_touch_33 ?_
      refine lv_iload_n hx hb dX4_touch_36 rfl (lv_at hl 1 rfl) ?_
      obtain ⟨f84, o85, h86⟩ := s_op28 hI h57
      refine th_iald hx hb hK hP (hLK _ h57 (by decide)) 0 o85 rfl (th_in ⟨by omega, by omega⟩) dX4_touch_37 ?_
      refine lv_topi (fun v87 ev87 => ?_)
      refine va_calli (va_runS (As := [.int v87]) (rest := []) ⟨hx, hb, hml, hown, hts⟩ (s_J6_bitCount_0f7a4 l dC dI H.size hLK D F9 v87 hI) ⟨callB_of 1 hts (ax_gT T_653) rfl rfl rfl (hts _ T_652) (hts _ T_868) (by decide +kernel) ⟨Nat.le_of_ble_eq_true rfl, Nat.le_of_ble_eq_true rfl⟩, hts _ T_654⟩ ⟨fun a U g mk q => ⟨q.1, s_pc (U := U) rfl rfl q.2⟩, fun U hU hW => ⟨rfl, s_pw hU hW hP hK hD hN⟩⟩ rfl rfl hl.1 rfl (lv_room (Nat.le_of_ble_eq_true rfl)) dX4_touch_38 ⟨Nat.zero_le _, Nat.zero_le _⟩) hS (fun q _ h => h) (fun q h => h) (fun r88 F89 t H1 locs ht hvm hw hB hz1 hk1 hS => ?_)
      obtain ⟨hP, hK1⟩ := hB
      rw [ht] at hP
      generalize H1 = H at hP hS ⊢
      clear hz1 hk1
      obtain ⟨h90, h91, hI, hfr1⟩ := hw
      have o92 : F89 a0 = .inr (4, [.ref z50, .ref z52, .ref z54, .ref z56, .ref z58, .ref z60, .ref z62, .int z64, .int z66, .int z68, .int z70, .int z72, .int z73, .int z75, .int z76]) := (hfr1 _ (by rw [ha0]; decide)).trans o78
      have hfr : ∀ b, K b ∉ [28] → F89 b = F b := fun b hb9 => (hfr1 b (fun q => hb9 (s_sub (by decide) q))).trans (hfr b hb9)
      refine lv_iconst (v := 1) hx hb dX4_touch_41 (by decide) ?_
      refine lv_icmp_le (tgt := 52) hx hb dX4_touch_42 (by decide) (fun c93 => ?_) (fun c93 => ?_)
      · have c93 := (ax_le (n := 1) (by decide)).mp c93
        exact W.vret hx hb hr (fun t ht hW => ⟨⟨F89, rfl, ⟨trivial, trivial, hI, hfr⟩, by rw [ht]; exact hP, va_K.moved hW.alike hK⟩, hS.F ht⟩) hS.2.2 dX4_touch_52
      · have c93 := mt (ax_le (n := 1) (by decide)).mpr c93
        refine lv_aload_n hx hb dX4_touch_45 rfl (lv_at hl 0 rfl) ?_
        refine th_get (D := (dC, dI)) (ci := 4) (v := .ref z60) (C := RX4) (T := TX4) (N := 15) hx hb hts inX4 hown hK hP (hLK _ ha0 (by decide)) o92 rfl 5 (by decide) (hts _ T_112) (fun _ h9 => h9) rfl dX4_touch_46 ?_
        refine lv_iload_n hx hb dX4_touch_49 rfl (lv_at hl 1 rfl) ?_
        refine lv_iconst (v := 1) hx hb dX4_touch_50 (by decide) ?_
        obtain ⟨f94, o95, h96⟩ := s_op28 hI h61
        refine th_iast hx hb hK hP hD hS (hLK _ h61 (by decide)) 0 o95 rfl (th_in ⟨by omega, by omega⟩) dX4_touch_51 (fun H locs hP hS => ?_)
        have hP : va_P (dC, dI) vwCl (va_pl L (va_up F89 z60 (.inl (cs 0, 96, .inl (upd f94 (x1 : Int32).toNatClampNeg 1))))) H := hP
        obtain ⟨F97, hF98⟩ : ∃ G : Nat → va_E, G = va_up F89 z60 (.inl (cs 0, 96, .inl (upd f94 (x1 : Int32).toNatClampNeg 1))) := ⟨_, rfl⟩
        rw [← hF98] at hP
        have hI : s_I K cs D F97 := by rw [hF98]; exact s_cl28 hI h61 ⟨_, rfl, trivial⟩
        have hfr : ∀ b, K b ∉ [28] → F97 b = F b := by rw [hF98]; exact s_fr hfr h61 (by decide)
        have o99 : F97 a0 = .inr (4, [.ref z50, .ref z52, .ref z54, .ref z56, .ref z58, .ref z60, .ref z62, .int z64, .int z66, .int z68, .int z70, .int z72, .int z73, .int z75, .int z76]) := by rw [hF98]; exact th_ne (th_kd ha0 h61 (by decide)) o92
        exact W.vret hx hb hr (fun t ht hW => ⟨⟨F97, rfl, ⟨trivial, trivial, hI, hfr⟩, by rw [ht]; exact hP, va_K.moved hW.alike hK⟩, hS.F ht⟩) hS.2.2 dX4_touch_52

set_option maxHeartbeats 4000000 in
set_option maxRecDepth 100000 in
theorem s_X4_passBarIfAllWait (l : Launch) (dC : Nat → ClassId) (dI : Nat → Nat → Nat) (sz : Nat) {L : List Nat} {K : Nat → Nat} {cs : Nat → ClassId} (hLK : ∀ a {k : Nat}, K a = k → k ≠ 0 → a ∈ L) (D : Nat) (F : Nat → va_E) (a0 : Nat) (x1 : Int32) (ha0 : K a0 = 5) (hI : s_I K cs D F) : Met l yX4_passBarIfAllWait (Cond.code yX4_passBarIfAllWait cX4_passBarIfAllWait 5 none :: T0) ({ frames := 2, cells := 0, slots := 0, locals := 49 }) (va_Pc [.ref a0, .int x1] (s_W dC dI sz L F [(cs 0, .int), (cs 1, .byte), (cs 2, .long), (cs 3, .object RX5), (cs 4, .object RX4), (cs 5, .array .int), (cs 6, .char), (cs 7, .boolean)])) (va_Qv (fun (G : Nat → va_E) => True ∧ True ∧ s_I K cs D G ∧ ∀ b, K b ∉ [5, 6, 28, 31, 32] → G b = F b) (fun (G : Nat → va_E) (t : State) => va_P (dC, dI) vwCl (va_pl L G) t.heap ∧ va_K (dC, dI) vwCl [(cs 0, .int), (cs 1, .byte), (cs 2, .long), (cs 3, .object RX5), (cs 4, .object RX4), (cs 5, .array .int), (cs 6, .char), (cs 7, .boolean)] t) (fun q => q ∈ L)) 0 0 (fun q => q ∈ L) := by
  refine Met.ofW (cc := cX4_passBarIfAllWait) (maxL := 5) (ret := none) (by decide) rfl ?_
  intro p e s m args below meth c s₁ B hml hv
  obtain ⟨rfl, hsz, hP, hK, hD, hN⟩ := hv
  have hx := B.exec
  have hb := B.bytes
  have hr := B.returns
  have hts : ∀ w ∈ T0, w.before _ s = true := fun w h => atoms_spec (ws := Cond.code yX4_passBarIfAllWait cX4_passBarIfAllWait 5 none :: T0) B.pre w (List.mem_cons_of_mem _ h)
  have hown : s.vm.findClass RX4 = some m.cls := findClass_of_methodNamed B.named
  have hlocks := B.notSynchronized
  have hS : va_S (fun q => q ∈ L) s.heap s.heap [] := va_S.rf
  have hfr : ∀ b, K b ∉ [5, 6, 28, 31, 32] → F b = F b := fun _ _ => rfl
  have hl := lv_entry ([.ref a0, .int x1]) (n := 5) (Nat.le_of_ble_eq_true rfl)
  rw [lg_entry_eq]
  generalize (lg_sl ([.ref a0, .int x1]) ++ List.replicate (5 - (lg_sl ([.ref a0, .int x1])).length) Slot.unset).toArray = ls at hl ⊢
  have hl : lv_has ls 5 [(0, .ref a0), (1, .int x1)] := hl
  refine s_gen hP hS (fun H locs hP hS => ?_)
  refine lv_iconst (v := 0) hx hb dX4_passBarIfAllWait_0 (by decide) ?_
  refine lv_istore_n (lv' := [(2, .int 0), (0, .ref a0), (1, .int x1)]) hx hb dX4_passBarIfAllWait_1 rfl hl (by decide) rfl (fun ls hl => ?_)
  refine lv_iconst (v := 0) hx hb dX4_passBarIfAllWait_2 (by decide) ?_
  refine lv_istore_n (lv' := [(3, .int 0), (2, .int 0), (0, .ref a0), (1, .int x1)]) hx hb dX4_passBarIfAllWait_3 rfl hl (by decide) rfl (fun ls hl => ?_)
  refine lv_iconst (v := 0) hx hb dX4_passBarIfAllWait_4 (by decide) ?_
  refine lv_istore (lv' := [(4, .int 0), (3, .int 0), (2, .int 0), (0, .ref a0), (1, .int x1)]) hx hb dX4_passBarIfAllWait_5 hl (by decide) rfl (fun ls hl => ?_)
  refine th_loop (fun n g H locs => ∃ (G : Nat → va_E) (ls : Array Slot) (w1 : Int32) (w2 : Int32) (w3 : Int32), g = F0 m 7 ls [] ∧ lv_has ls 5 [(0, .ref a0), (1, .int x1), (2, .int w1), (3, .int w2), (4, .int w3)] ∧ s_I K cs D G ∧ va_P (dC, dI) vwCl (va_pl L G) H ∧ va_S (fun q => q ∈ L) s.heap H locs ∧ (∀ b, K b ∉ [5, 6, 28, 31, 32] → G b = F b) ∧ True ∧ True ∧ (0 ≤ w3.toInt ∧ w3.toInt ≤ 4) ∧ n = (5 - w3.toInt).toNat) _ ⟨F, _, 0, 0, 0, rfl, lv_sub hl [3, 4, 2, 1, 0] rfl, hI, hP, hS, hfr, trivial, trivial, (by decide), rfl⟩ (fun n ih7 g H locs hq => ?_)
  obtain ⟨F9, ls, w1, w2, w3, rfl, hl, hI, hP, hS, hfr, h4, h5, h6, hn⟩ := hq
  have hn_7 := hn
  obtain ⟨n_7, hn9_7⟩ : ∃ q, q = n := ⟨_, rfl⟩
  refine lv_iload hx hb dX4_passBarIfAllWait_7 (lv_at hl 4 rfl) ?_
  refine lv_aload_n hx hb dX4_passBarIfAllWait_9 rfl (lv_at hl 0 rfl) ?_
  obtain ⟨z7, z9, z11, z13, z15, z17, z19, z21, z23, z25, z27, z29, z30, z32, z33, o35, h8, h10, h12, h14, h16, h18, h20, h22, h24, h26, h28, h31, h34, -⟩ := s_op5 hI ha0
  refine th_get (D := (dC, dI)) (ci := 4) (v := .int z21) (C := RX4) (T := TX4) (N := 15) hx hb hts inX4 hown hK hP (hLK _ ha0 (by decide)) o35 rfl 7 (by decide) (hts _ T_840) (fun _ h9 => h9) rfl dX4_passBarIfAllWait_10 ?_
  refine lv_icmp_ge (tgt := 61) hx hb dX4_passBarIfAllWait_13 (by decide) (fun c36 => ?_) (fun c36 => ?_)
  · have c36 := Int32.le_iff_toInt_le.mp c36
    refine lv_iload_n hx hb dX4_passBarIfAllWait_61 rfl (lv_at hl 2 rfl) ?_
    refine lv_if_eq (tgt := 69) hx hb dX4_passBarIfAllWait_62 (by decide) (fun c37 => ?_) (fun c37 => ?_)
    · have c37 := (ax_eq (n := 0) (by decide)).mp c37
      exact W.vret hx hb hr (fun t ht hW => ⟨⟨F9, rfl, ⟨trivial, trivial, hI, hfr⟩, by rw [ht]; exact hP, va_K.moved hW.alike hK⟩, hS.F ht⟩) hS.2.2 dX4_passBarIfAllWait_69
    · have c37 := mt (ax_eq (n := 0) (by decide)).mpr c37
      refine lv_iload_n hx hb dX4_passBarIfAllWait_65 rfl (lv_at hl 3 rfl) ?_
      refine lv_if_eq (tgt := 70) hx hb dX4_passBarIfAllWait_66 (by decide) (fun c38 => ?_) (fun c38 => ?_)
      · have c38 := (ax_eq (n := 0) (by decide)).mp c38
        refine lv_iconst (v := 0) hx hb dX4_passBarIfAllWait_70 (by decide) ?_
        refine lv_istore (lv' := [(4, .int 0), (0, .ref a0), (1, .int x1), (2, .int w1), (3, .int w2)]) hx hb dX4_passBarIfAllWait_71 hl (by decide) rfl (fun ls hl => ?_)
        refine th_loop (fun n g H locs => ∃ (G : Nat → va_E) (ls : Array Slot) (w39 : Int32), g = F0 m 73 ls [] ∧ lv_has ls 5 [(0, .ref a0), (1, .int x1), (4, .int w39)] ∧ s_I K cs D G ∧ va_P (dC, dI) vwCl (va_pl L G) H ∧ va_S (fun q => q ∈ L) s.heap H locs ∧ (∀ b, K b ∉ [5, 6, 28, 31, 32] → G b = F b) ∧ (0 ≤ w39.toInt ∧ w39.toInt ≤ 4) ∧ n = (5 - w39.toInt).toNat) _ ⟨F9, _, 0, rfl, lv_sub hl [1, 2, 0] rfl, hI, hP, hS, hfr, (by decide), rfl⟩ (fun n ih73 g H locs hq => ?_)
        obtain ⟨F9, ls, w39, rfl, hl, hI, hP, hS, hfr, h40, hn⟩ := hq
        have hn_73 := hn
        obtain ⟨n_73, hn9_73⟩ : ∃ q, q = n := ⟨_, rfl⟩
        refine lv_iload hx hb dX4_passBarIfAllWait_73 (lv_at hl 2 rfl) ?_
        refine lv_aload_n hx hb dX4_passBarIfAllWait_75 rfl (lv_at hl 0 rfl) ?_
        obtain ⟨z41, z43, z45, z47, z49, z51, z53, z55, z57, z59, z61, z63, z64, z66, z67, o69, h42, h44, h46, h48, h50, h52, h54, h56, h58, h60, h62, h65, h68, -⟩ := s_op5 hI ha0
        refine th_get (D := (dC, dI)) (ci := 4) (v := .int z55) (C := RX4) (T := TX4) (N := 15) hx hb hts inX4 hown hK hP (hLK _ ha0 (by decide)) o69 rfl 7 (by decide) (hts _ T_840) (fun _ h9 => h9) rfl dX4_passBarIfAllWait_76 ?_
        refine lv_icmp_ge (tgt := 103) hx hb dX4_passBarIfAllWait_79 (by decide) (fun c70 => ?_) (fun c70 => ?_)
        · have c70 := Int32.le_iff_toInt_le.mp c70
          refine lv_aload_n hx hb dX4_passBarIfAllWait_103 rfl (lv_at hl 0 rfl) ?_
          refine lv_dup hx hb dX4_passBarIfAllWait_104 rfl ?_
          refine th_get (D := (dC, dI)) (ci := 4) (v := .int z66) (C := RX4) (T := TX4) (N := 15) hx hb hts inX4 hown hK hP (hLK _ ha0 (by decide)) o69 rfl 13 (by decide) (hts _ T_845) (fun _ h9 => h9) rfl dX4_passBarIfAllWait_105 ?_
          refine lv_iconst (v := 1) hx hb dX4_passBarIfAllWait_108 (by decide) ?_
          refine lv_iadd hx hb dX4_passBarIfAllWait_109 ?_
          refine lv_topi (fun v71 ev71 => ?_)
          refine th_put (D := (dC, dI)) (ci := 4) (v := .int v71) (ty := .int) (C := RX4) (T := TX4) (N := 15) hx hb hts inX4 tyX4 tyX4_ok nmX4 hown hK hP hD hS (hLK _ ha0 (by decide)) o69 rfl 13 (by decide) (hts _ T_845) (fun _ h9 => h9) rfl (by decide +kernel) rfl rfl (Nat.le_of_ble_eq_true rfl) dX4_passBarIfAllWait_110 (fun H locs hP hS => ?_)
          have hP : va_P (dC, dI) vwCl (va_pl L (va_up F9 a0 (.inr (4, [.ref z41, .ref z43, .ref z45, .ref z47, .ref z49, .ref z51, .ref z53, .int z55, .int z57, .int z59, .int z61, .int z63, .int z64, .int v71, .int z67])))) H := hP
          obtain ⟨F72, hF73⟩ : ∃ G : Nat → va_E, G = va_up F9 a0 (.inr (4, [.ref z41, .ref z43, .ref z45, .ref z47, .ref z49, .ref z51, .ref z53, .int z55, .int z57, .int z59, .int z61, .int z63, .int z64, .int v71, .int z67])) := ⟨_, rfl⟩
          rw [← hF73] at hP
          have hI : s_I K cs D F72 := by rw [hF73]; exact s_cl5 hI ha0 ⟨z41, z43, z45, z47, z49, z51, z53, z55, z57, z59, z61, z63, z64, v71, z67, rfl, h42, h44, h46, h48, h50, h52, h54, ⟨by omega, by omega⟩, ⟨by omega, by omega⟩, ⟨by omega, by omega⟩, ⟨by omega, by omega⟩, ⟨by omega, by omega⟩, ⟨by omega, by omega⟩, trivial⟩
          have hfr : ∀ b, K b ∉ [5, 6, 28, 31, 32] → F72 b = F b := by rw [hF73]; exact s_fr hfr ha0 (by decide)
          have o74 : F72 a0 = .inr (4, [.ref z41, .ref z43, .ref z45, .ref z47, .ref z49, .ref z51, .ref z53, .int z55, .int z57, .int z59, .int z61, .int z63, .int z64, .int v71, .int z67]) := by rw [hF73]; exact th_up
          refine lv_aload_n hx hb dX4_passBarIfAllWait_113 rfl (lv_at hl 0 rfl) ?_
          refine th_get (D := (dC, dI)) (ci := 4) (v := .ref z47) (C := RX4) (T := TX4) (N := 15) hx hb hts inX4 hown hK hP (hLK _ ha0 (by decide)) o74 rfl 3 (by decide) (hts _ T_110) (fun _ h9 => h9) rfl dX4_passBarIfAllWait_114 ?_
          refine lv_iconst (v := 0) hx hb dX4_passBarIfAllWait_117 (by decide) ?_
          refine va_callv (va_runS (As := [.ref z47, .int 0]) (rest := []) ⟨hx, hb, hml, hown, hts⟩ (s_J7_fill_53178_touch l dC dI H.size hLK D F72 z47 0 h48 hI) ⟨callB_of 2 hts (ax_gT T_11) rfl rfl rfl (hts _ T_197) (hts _ T_873) (by decide +kernel) ⟨Nat.le_of_ble_eq_true rfl, Nat.le_of_ble_eq_true rfl⟩, hts _ T_199⟩ ⟨fun a U g mk q => ⟨q.1, s_pc (U := U) rfl rfl q.2⟩, fun U hU hW => ⟨rfl, s_pw hU hW hP hK hD hN⟩⟩ rfl rfl hl.1 rfl (lv_room (Nat.le_of_ble_eq_true rfl)) dX4_passBarIfAllWait_118 ⟨Nat.zero_le _, Nat.zero_le _⟩) hS (fun q _ h => h) (fun q h => h) (fun F75 t H1 locs ht hvm hw hB hz1 hk1 hS => ?_)
          obtain ⟨hP, hK1⟩ := hB
          rw [ht] at hP
          generalize H1 = H at hP hS ⊢
          clear hz1 hk1
          obtain ⟨h76, h77, hI, hfr1⟩ := hw
          have o78 : F75 a0 = .inr (4, [.ref z41, .ref z43, .ref z45, .ref z47, .ref z49, .ref z51, .ref z53, .int z55, .int z57, .int z59, .int z61, .int z63, .int z64, .int v71, .int z67]) := (hfr1 _ (by rw [ha0]; decide)).trans o74
          have hfr : ∀ b, K b ∉ [5, 6, 28, 31, 32] → F75 b = F b := fun b hb9 => (hfr1 b (fun q => hb9 (s_sub (by decide) q))).trans (hfr b hb9)
          refine lv_aload_n hx hb dX4_passBarIfAllWait_121 rfl (lv_at hl 0 rfl) ?_
          refine th_get (D := (dC, dI)) (ci := 4) (v := .ref z49) (C := RX4) (T := TX4) (N := 15) hx hb hts inX4 hown hK hP (hLK _ ha0 (by decide)) o78 rfl 4 (by decide) (hts _ T_111) (fun _ h9 => h9) rfl dX4_passBarIfAllWait_122 ?_
          refine lv_iconst (v := 0) hx hb dX4_passBarIfAllWait_125 (by decide) ?_
          refine va_callv (va_runS (As := [.ref z49, .int 0]) (rest := []) ⟨hx, hb, hml, hown, hts⟩ (s_J7_fill_53178_touch l dC dI H.size hLK D F75 z49 0 h50 hI) ⟨callB_of 2 hts (ax_gT T_11) rfl rfl rfl (hts _ T_197) (hts _ T_873) (by decide +kernel) ⟨Nat.le_of_ble_eq_true rfl, Nat.le_of_ble_eq_true rfl⟩, hts _ T_199⟩ ⟨fun a U g mk q => ⟨q.1, s_pc (U := U) rfl rfl q.2⟩, fun U hU hW => ⟨rfl, s_pw hU hW hP hK hD hN⟩⟩ rfl rfl hl.1 rfl (lv_room (Nat.le_of_ble_eq_true rfl)) dX4_passBarIfAllWait_126 ⟨Nat.zero_le _, Nat.zero_le _⟩) hS (fun q _ h => h) (fun q h => h) (fun F79 t H1 locs ht hvm hw hB hz1 hk1 hS => ?_)
          obtain ⟨hP, hK1⟩ := hB
          rw [ht] at hP
          generalize H1 = H at hP hS ⊢
          clear hz1 hk1
          obtain ⟨h80, h81, hI, hfr1⟩ := hw
          have o82 : F79 a0 = .inr (4, [.ref z41, .ref z43, .ref z45, .ref z47, .ref z49, .ref z51, .ref z53, .int z55, .int z57, .int z59, .int z61, .int z63, .int z64, .int v71, .int z67]) := (hfr1 _ (by rw [ha0]; decide)).trans o78
          have hfr : ∀ b, K b ∉ [5, 6, 28, 31, 32] → F79 b = F b := fun b hb9 => (hfr1 b (fun q => hb9 (s_sub (by decide) q))).trans (hfr b hb9)
          exact W.vret hx hb hr (fun t ht hW => ⟨⟨F79, rfl, ⟨trivial, trivial, hI, hfr⟩, by rw [ht]; exact hP, va_K.moved hW.alike hK⟩, hS.F ht⟩) hS.2.2 dX4_passBarIfAllWait_129
        · have c70 := mt Int32.le_iff_toInt_le.mpr c70
          refine lv_aload_n hx hb dX4_passBarIfAllWait_82 rfl (lv_at hl 0 rfl) ?_
          refine th_get (D := (dC, dI)) (ci := 4) (v := .ref z41) (C := RX4) (T := TX4) (N := 15) hx hb hts inX4 hown hK hP (hLK _ ha0 (by decide)) o69 rfl 0 (by decide) (hts _ T_107) (fun _ h9 => h9) rfl dX4_passBarIfAllWait_83 ?_
          refine lv_iload hx hb dX4_passBarIfAllWait_86 (lv_at hl 2 rfl) ?_
          obtain ⟨f83, o84, h85⟩ := s_op26 hI h42
          obtain ⟨z86, o88, h87⟩ := h85 (w39 : Int32).toNatClampNeg (th_cl ⟨by omega, by omega⟩)
          refine th_aald hx hb hK hP (hLK _ h42 (by decide)) 3 o84 rfl (th_in ⟨by omega, by omega⟩) o88 dX4_passBarIfAllWait_88 ?_
          refine lv_aload_n hx hb dX4_passBarIfAllWait_89 rfl (lv_at hl 0 rfl) ?_
          refine th_get (D := (dC, dI)) (ci := 4) (v := .int z57) (C := RX4) (T := TX4) (N := 15) hx hb hts inX4 hown hK hP (hLK _ ha0 (by decide)) o69 rfl 8 (by decide) (hts _ T_838) (fun _ h9 => h9) rfl dX4_passBarIfAllWait_90 ?_
          refine lv_iload_n hx hb dX4_passBarIfAllWait_93 rfl (lv_at hl 1 rfl) ?_
          obtain ⟨z89, z91, z93, z95, z97, z99, z101, z102, z103, z104, z105, o107, h90, h92, h94, h96, h98, h100, h106, -⟩ := s_op6 hI h87
          refine va_callv (va_runV (As := [.int z57, .int x1]) (rest := []) ⟨hx, hb, hml, hown, hts⟩ (s_X5_passBar l dC dI H.size hLK D F9 z86 z57 x1 h87 hI) (cwV 2 hts (ax_gV T_869 T_871 T_872 T_116 T_870) rfl rfl rfl (by decide +kernel) ⟨Nat.le_of_ble_eq_true rfl, Nat.le_of_ble_eq_true rfl⟩) ⟨fun a U g mk q => ⟨q.1, s_pc (U := U) rfl rfl q.2⟩, s_recv hK hP (hLK _ h87 (by decide)) (ci := 5) rfl o107, fun U hU hW => ⟨rfl, s_pw hU hW hP hK hD hN⟩⟩ rfl rfl hl.1 rfl (lv_room (Nat.le_of_ble_eq_true rfl)) dX4_passBarIfAllWait_94 ⟨Nat.zero_le _, Nat.zero_le _⟩) hS (fun q _ h => h) (fun q h => h) (fun F108 t H1 locs ht hvm hw hB hz1 hk1 hS => ?_)
          obtain ⟨hP, hK1⟩ := hB
          rw [ht] at hP
          generalize H1 = H at hP hS ⊢
          clear hz1 hk1
          obtain ⟨h109, h110, hI, hfr1⟩ := hw
          have o111 : F108 a0 = .inr (4, [.ref z41, .ref z43, .ref z45, .ref z47, .ref z49, .ref z51, .ref z53, .int z55, .int z57, .int z59, .int z61, .int z63, .int z64, .int z66, .int z67]) := (hfr1 _ (by rw [ha0]; decide)).trans o69
          have hfr : ∀ b, K b ∉ [5, 6, 28, 31, 32] → F108 b = F b := fun b hb9 => (hfr1 b (fun q => hb9 (s_sub (by decide) q))).trans (hfr b hb9)
          obtain ⟨v112, ev112⟩ : ∃ y : Int32, w39 + 1 = y := ⟨_, rfl⟩
          have qv112 : v112.toInt = w39.toInt + 1 := by rw [← ev112]; exact th_add rfl (by decide) ⟨by omega, by omega⟩
          refine lv_iinc (v := v112) (lv' := [(4, .int v112), (0, .ref a0), (1, .int x1)]) hx hb dX4_passBarIfAllWait_97 hl (k := 2) rfl ev112 (by decide) rfl (fun ls hl => ?_)
          refine lv_goto (tgt := 73) hx hb dX4_passBarIfAllWait_100 (by decide) ?_
          exact ih73 _ _ _ _ (by omega) ⟨F108, _, v112, rfl, lv_sub hl [1, 2, 0] rfl, hI, hP, hS, hfr, ⟨by omega, by omega⟩, rfl⟩
      · have c38 := mt (ax_eq (n := 0) (by decide)).mpr c38
        exact W.vret hx hb hr (fun t ht hW => ⟨⟨F9, rfl, ⟨trivial, trivial, hI, hfr⟩, by rw [ht]; exact hP, va_K.moved hW.alike hK⟩, hS.F ht⟩) hS.2.2 dX4_passBarIfAllWait_69
  · have c36 := mt Int32.le_iff_toInt_le.mpr c36
    refine lv_iload_n hx hb dX4_passBarIfAllWait_16 rfl (lv_at hl 2 rfl) ?_
    refine lv_aload_n hx hb dX4_passBarIfAllWait_17 rfl (lv_at hl 0 rfl) ?_
    refine th_get (D := (dC, dI)) (ci := 4) (v := .ref z7) (C := RX4) (T := TX4) (N := 15) hx hb hts inX4 hown hK hP (hLK _ ha0 (by decide)) o35 rfl 0 (by decide) (hts _ T_107) (fun _ h9 => h9) rfl dX4_passBarIfAllWait_18 ?_
    refine lv_iload hx hb dX4_passBarIfAllWait_21 (lv_at hl 4 rfl) ?_
    obtain ⟨f113, o114, h115⟩ := s_op26 hI h8
    obtain ⟨z116, o118, h117⟩ := h115 (w3 : Int32).toNatClampNeg (th_cl ⟨by omega, by omega⟩)
    refine th_aald hx hb hK hP (hLK _ h8 (by decide)) 3 o114 rfl (th_in ⟨by omega, by omega⟩) o118 dX4_passBarIfAllWait_23 ?_
    obtain ⟨z119, z121, z123, z125, z127, z129, z131, z132, z133, z134, z135, o137, h120, h122, h124, h126, h128, h130, h136, -⟩ := s_op6 hI h117
    refine th_getN (D := (dC, dI)) (ci := 5) (v := .int z131) (C := RX5) (T := TX5) (N := 11) hx hb hts inX5 hown hK hP (hLK _ h117 (by decide)) o137 rfl 6 (by decide) (va_Nw.use rfl (ax_n45 hN)) (fun _ h9 => h9) rfl dX4_passBarIfAllWait_24 ?_
    refine lv_ior hx hb dX4_passBarIfAllWait_27 ?_
    refine lv_topi (fun v138 ev138 => ?_)
    refine lv_istore_n (lv' := [(2, .int v138), (0, .ref a0), (1, .int x1), (3, .int w2), (4, .int w3)]) hx hb dX4_passBarIfAllWait_28 rfl hl (by decide) rfl (fun ls hl => ?_)
    refine lv_iload_n hx hb dX4_passBarIfAllWait_29 rfl (lv_at hl 3 rfl) ?_
    refine lv_aload_n hx hb dX4_passBarIfAllWait_30 rfl (lv_at hl 1 rfl) ?_
    refine th_get (D := (dC, dI)) (ci := 4) (v := .ref z7) (C := RX4) (T := TX4) (N := 15) hx hb hts inX4 hown hK hP (hLK _ ha0 (by decide)) o35 rfl 0 (by decide) (hts _ T_107) (fun _ h9 => h9) rfl dX4_passBarIfAllWait_31 ?_
    refine lv_iload hx hb dX4_passBarIfAllWait_34 (lv_at hl 4 rfl) ?_
    obtain ⟨f139, o140, h141⟩ := s_op26 hI h8
    obtain ⟨z142, o144, h143⟩ := h141 (w3 : Int32).toNatClampNeg (th_cl ⟨by omega, by omega⟩)
    refine th_aald hx hb hK hP (hLK _ h8 (by decide)) 3 o140 rfl (th_in ⟨by omega, by omega⟩) o144 dX4_passBarIfAllWait_36 ?_
    obtain ⟨z145, z147, z149, z151, z153, z155, z157, z158, z159, z160, z161, o163, h146, h148, h150, h152, h154, h156, h162, -⟩ := s_op6 hI h143
    refine th_getN (D := (dC, dI)) (ci := 5) (v := .int z157) (C := RX5) (T := TX5) (N := 11) hx hb hts inX5 hown hK hP (hLK _ h143 (by decide)) o163 rfl 6 (by decide) (va_Nw.use rfl (ax_n45 hN)) (fun _ h9 => h9) rfl dX4_passBarIfAllWait_37 ?_
    refine lv_aload_n hx hb dX4_passBarIfAllWait_40 rfl (lv_at hl 1 rfl) ?_
    refine th_get (D := (dC, dI)) (ci := 4) (v := .ref z7) (C := RX4) (T := TX4) (N := 15) hx hb hts inX4 hown hK hP (hLK _ ha0 (by decide)) o35 rfl 0 (by decide) (hts _ T_107) (fun _ h9 => h9) rfl dX4_passBarIfAllWait_41 ?_
    refine lv_iload hx hb dX4_passBarIfAllWait_44 (lv_at hl 4 rfl) ?_
    obtain ⟨f164, o165, h166⟩ := s_op26 hI h8
    obtain ⟨z167, o169, h168⟩ := h166 (w3 : Int32).toNatClampNeg (th_cl ⟨by omega, by omega⟩)
    refine th_aald hx hb hK hP (hLK _ h8 (by decide)) 3 o165 rfl (th_in ⟨by omega, by omega⟩) o169 dX4_passBarIfAllWait_46 ?_
    obtain ⟨z170, z172, z174, z176, z178, z180, z182, z183, z184, z185, z186, o188, h171, h173, h175, h177, h179, h181, h187, -⟩ := s_op6 hI h168
    refine th_getN (D := (dC, dI)) (ci := 5) (v := .int z183) (C := RX5) (T := TX5) (N := 11) hx hb hts inX5 hown hK hP (hLK _ h168 (by decide)) o188 rfl 7 (by decide) (va_Nw.use rfl (ax_n47 hN)) (fun _ h9 => h9) rfl dX4_passBarIfAllWait_47 ?_
    refine lv_iconst (v := (-1)) hx hb dX4_passBarIfAllWait_50 (by decide) ?_
    refine lv_ixor hx hb dX4_passBarIfAllWait_51 ?_
    refine lv_topi (fun v189 ev189 => ?_)
    refine lv_iand hx hb dX4_passBarIfAllWait_52 ?_
    refine lv_topi (fun v190 ev190 => ?_)
    refine lv_ior hx hb dX4_passBarIfAllWait_53 ?_
    refine lv_topi (fun v191 ev191 => ?_)
    refine lv_istore_n (lv' := [(3, .int v191), (2, .int v138), (0, .ref a0), (1, .int x1), (4, .int w3)]) hx hb dX4_passBarIfAllWait_54 rfl hl (by decide) rfl (fun ls hl => ?_)
    obtain ⟨v192, ev192⟩ : ∃ y : Int32, w3 + 1 = y := ⟨_, rfl⟩
    have qv192 : v192.toInt = w3.toInt + 1 := by rw [← ev192]; exact th_add rfl (by decide) ⟨by omega, by omega⟩
    refine lv_iinc (v := v192) (lv' := [(4, .int v192), (3, .int v191), (2, .int v138), (0, .ref a0), (1, .int x1)]) hx hb dX4_passBarIfAllWait_55 hl (k := 4) rfl ev192 (by decide) rfl (fun ls hl => ?_)
    refine lv_goto (tgt := 7) hx hb dX4_passBarIfAllWait_58 (by decide) ?_
    exact ih7 _ _ _ _ (by omega) ⟨F9, _, v138, v191, v192, rfl, lv_sub hl [3, 4, 2, 1, 0] rfl, hI, hP, hS, hfr, trivial, trivial, ⟨by omega, by omega⟩, rfl⟩

