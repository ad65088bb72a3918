set_option maxHeartbeats 4000000 in
set_option maxRecDepth 100000 in
theorem s_X4_lay (l : Launch) (dC : Nat → ClassId) (dI : Nat → Nat → Nat) (sz : Nat) {L : List Nat} {K : Nat → Nat} {cs : Nat → ClassId} (hLK : ∀ a {k : Nat}, K a = k → k ≠ 0 → a ∈ L) (D : Nat) (F : Nat → va_E) (a0 : Nat) (x1 : Int32) (x2 : Int32) (x3 : Int32) (ha0 : K a0 = 5) (hx3 : 0 ≤ x3.toInt ∧ x3.toInt ≤ 3) (hI : s_I K cs D F) : Met l yX4_lay (Cond.code yX4_lay cX4_lay 4 none :: T0) ({ frames := 0, cells := 0, slots := 0, locals := 0 }) (va_Pc [.ref a0, .int x1, .int x2, .int x3] (s_W dC dI sz L F [(cs 0, .int), (cs 1, .byte), (cs 2, .long), (cs 3, .object RX5), (cs 4, .object RX4), (cs 5, .array .int), (cs 6, .char), (cs 7, .boolean)])) (va_Qv (fun (G : Nat → va_E) => True ∧ True ∧ s_I K cs D G ∧ ∀ b, K b ∉ [5] → G b = F b) (fun (G : Nat → va_E) (t : State) => va_P (dC, dI) vwCl (va_pl L G) t.heap ∧ va_K (dC, dI) vwCl [(cs 0, .int), (cs 1, .byte), (cs 2, .long), (cs 3, .object RX5), (cs 4, .object RX4), (cs 5, .array .int), (cs 6, .char), (cs 7, .boolean)] t) (fun q => q ∈ L)) 0 0 (fun q => q ∈ L) := by
  refine Met.ofW (cc := cX4_lay) (maxL := 4) (ret := none) (by decide) rfl ?_
  intro p e s m args below meth c s₁ B hml hv
  obtain ⟨rfl, hsz, hP, hK, hD, hN⟩ := hv
  have hx := B.exec
  have hb := B.bytes
  have hr := B.returns
  have hts : ∀ w ∈ T0, w.before _ s = true := fun w h => atoms_spec (ws := Cond.code yX4_lay cX4_lay 4 none :: T0) B.pre w (List.mem_cons_of_mem _ h)
  have hown : s.vm.findClass RX4 = some m.cls := findClass_of_methodNamed B.named
  have hlocks := B.notSynchronized
  have hS : va_S (fun q => q ∈ L) s.heap s.heap [] := va_S.rf
  have hfr : ∀ b, K b ∉ [5] → F b = F b := fun _ _ => rfl
  have hl := lv_entry ([.ref a0, .int x1, .int x2, .int x3]) (n := 4) (Nat.le_of_ble_eq_true rfl)
  rw [lg_entry_eq]
  generalize (lg_sl ([.ref a0, .int x1, .int x2, .int x3]) ++ List.replicate (4 - (lg_sl ([.ref a0, .int x1, .int x2, .int x3])).length) Slot.unset).toArray = ls at hl ⊢
  have hl : lv_has ls 4 [(0, .ref a0), (1, .int x1), (2, .int x2), (3, .int x3)] := hl
  refine s_gen hP hS (fun H locs hP hS => ?_)
  refine lv_aload_n hx hb dX4_lay_0 rfl (lv_at hl 0 rfl) ?_
  refine lv_iload_n hx hb dX4_lay_1 rfl (lv_at hl 1 rfl) ?_
  obtain ⟨z1, z3, z5, z7, z9, z11, z13, z15, z17, z18, z19, z21, z22, z24, z25, o27, h2, h4, h6, h8, h10, h12, h14, h16, h20, h23, h26, -⟩ := s_op5 hI ha0
  refine th_put (D := (dC, dI)) (ci := 4) (v := .int x1) (ty := .int) (C := RX4) (T := TX4) (N := 15) hx hb hts inX4 tyX4 tyX4_ok nmX4 hown hK hP hD hS (hLK _ ha0 (by decide)) o27 rfl 8 (by decide) (hts _ T_838) (fun _ h9 => h9) rfl (by decide +kernel) rfl rfl (Nat.le_of_ble_eq_true rfl) dX4_lay_2 (fun H locs hP hS => ?_)
  have hP : va_P (dC, dI) vwCl (va_pl L (va_up F a0 (.inr (4, [.ref z1, .ref z3, .ref z5, .ref z7, .ref z9, .ref z11, .ref z13, .int z15, .int x1, .int z18, .int z19, .int z21, .int z22, .int z24, .int z25])))) H := hP
  obtain ⟨F28, hF29⟩ : ∃ G : Nat → va_E, G = va_up F a0 (.inr (4, [.ref z1, .ref z3, .ref z5, .ref z7, .ref z9, .ref z11, .ref z13, .int z15, .int x1, .int z18, .int z19, .int z21, .int z22, .int z24, .int z25])) := ⟨_, rfl⟩
  rw [← hF29] at hP
  have hI : s_I K cs D F28 := by rw [hF29]; exact s_cl5 hI ha0 ⟨z1, z3, z5, z7, z9, z11, z13, z15, x1, z18, z19, z21, z22, z24, z25, rfl, h2, h4, h6, h8, h10, h12, h14, ⟨by omega, by omega⟩, ⟨by omega, by omega⟩, ⟨by omega, by omega⟩, ⟨by omega, by omega⟩, trivial⟩
  have hfr : ∀ b, K b ∉ [5] → F28 b = F b := by rw [hF29]; exact s_fr hfr ha0 (by decide)
  have o30 : F28 a0 = .inr (4, [.ref z1, .ref z3, .ref z5, .ref z7, .ref z9, .ref z11, .ref z13, .int z15, .int x1, .int z18, .int z19, .int z21, .int z22, .int z24, .int z25]) := by rw [hF29]; exact th_up
  refine lv_aload_n hx hb dX4_lay_5 rfl (lv_at hl 0 rfl) ?_
  refine lv_iload_n hx hb dX4_lay_6 rfl (lv_at hl 2 rfl) ?_
  refine th_put (D := (dC, dI)) (ci := 4) (v := .int x2) (ty := .int) (C := RX4) (T := TX4) (N := 15) hx hb hts inX4 tyX4 tyX4_ok nmX4 hown hK hP hD hS (hLK _ ha0 (by decide)) o30 rfl 9 (by decide) (hts _ T_841) (fun _ h9 => h9) rfl (by decide +kernel) rfl rfl (Nat.le_of_ble_eq_true rfl) dX4_lay_7 (fun H locs hP hS => ?_)
  have hP : va_P (dC, dI) vwCl (va_pl L (va_up F28 a0 (.inr (4, [.ref z1, .ref z3, .ref z5, .ref z7, .ref z9, .ref z11, .ref z13, .int z15, .int x1, .int x2, .int z19, .int z21, .int z22, .int z24, .int z25])))) H := hP
  obtain ⟨F31, hF32⟩ : ∃ G : Nat → va_E, G = va_up F28 a0 (.inr (4, [.ref z1, .ref z3, .ref z5, .ref z7, .ref z9, .ref z11, .ref z13, .int z15, .int x1, .int x2, .int z19, .int z21, .int z22, .int z24, .int z25])) := ⟨_, rfl⟩
  rw [← hF32] at hP
  have hI : s_I K cs D F31 := by rw [hF32]; exact s_cl5 hI ha0 ⟨z1, z3, z5, z7, z9, z11, z13, z15, x1, x2, z19, z21, z22, z24, z25, rfl, h2, h4, h6, h8, h10, h12, h14, ⟨by omega, by omega⟩, ⟨by omega, by omega⟩, ⟨by omega, by omega⟩, ⟨by omega, by omega⟩, trivial⟩
  have hfr : ∀ b, K b ∉ [5] → F31 b = F b := by rw [hF32]; exact s_fr hfr ha0 (by decide)
  have o33 : F31 a0 = .inr (4, [.ref z1, .ref z3, .ref z5, .ref z7, .ref z9, .ref z11, .ref z13, .int z15, .int x1, .int x2, .int z19, .int z21, .int z22, .int z24, .int z25]) := by rw [hF32]; exact th_up
  refine lv_aload_n hx hb dX4_lay_10 rfl (lv_at hl 0 rfl) ?_
  refine lv_iload_n hx hb dX4_lay_11 rfl (lv_at hl 3 rfl) ?_
  refine th_put (D := (dC, dI)) (ci := 4) (v := .int x3) (ty := .int) (C := RX4) (T := TX4) (N := 15) hx hb hts inX4 tyX4 tyX4_ok nmX4 hown hK hP hD hS (hLK _ ha0 (by decide)) o33 rfl 10 (by decide) (hts _ T_842) (fun _ h9 => h9) rfl (by decide +kernel) rfl rfl (Nat.le_of_ble_eq_true rfl) dX4_lay_12 (fun H locs hP hS => ?_)
  have hP : va_P (dC, dI) vwCl (va_pl L (va_up F31 a0 (.inr (4, [.ref z1, .ref z3, .ref z5, .ref z7, .ref z9, .ref z11, .ref z13, .int z15, .int x1, .int x2, .int x3, .int z21, .int z22, .int z24, .int z25])))) H := hP
  obtain ⟨F34, hF35⟩ : ∃ G : Nat → va_E, G = va_up F31 a0 (.inr (4, [.ref z1, .ref z3, .ref z5, .ref z7, .ref z9, .ref z11, .ref z13, .int z15, .int x1, .int x2, .int x3, .int z21, .int z22, .int z24, .int z25])) := ⟨_, rfl⟩
  rw [← hF35] at hP
  have hI : s_I K cs D F34 := by rw [hF35]; exact s_cl5 hI ha0 ⟨z1, z3, z5, z7, z9, z11, z13, z15, x1, x2, x3, z21, z22, z24, z25, rfl, h2, h4, h6, h8, h10, h12, h14, ⟨by omega, by omega⟩, ⟨by omega, by omega⟩, ⟨by omega, by omega⟩, ⟨by omega, by omega⟩, trivial⟩
  have hfr : ∀ b, K b ∉ [5] → F34 b = F b := by rw [hF35]; exact s_fr hfr ha0 (by decide)
  have o36 : F34 a0 = .inr (4, [.ref z1, .ref z3, .ref z5, .ref z7, .ref z9, .ref z11, .ref z13, .int z15, .int x1, .int x2, .int x3, .int z21, .int z22, .int z24, .int z25]) := by rw [hF35]; exact th_up
  exact W.vret hx hb hr (fun t ht hW => ⟨⟨F34, rfl, ⟨trivial, trivial, hI, hfr⟩, by rw [ht]; exact hP, va_K.moved hW.alike hK⟩, hS.F ht⟩) hS.2.2 dX4_lay_15

set_option maxHeartbeats 4000000 in
set_option maxRecDepth 100000 in
theorem s_X4_restart (l : Launch) (dC : Nat → ClassId) (dI : Nat → Nat → Nat) (sz : Nat) {L : List Nat} {K : Nat → Nat} {cs : Nat → ClassId} (hLK : ∀ a {k : Nat}, K a = k → k ≠ 0 → a ∈ L) (D : Nat) (F : Nat → va_E) (a0 : Nat) (a1 : Nat) (ha0 : K a0 = 5) (ha1 : K a1 = 3) (hI : s_I K cs D F) : Met l yX4_restart (Cond.code yX4_restart cX4_restart 3 none :: T0) ({ frames := 2, cells := 0, slots := 0, locals := 60 }) (va_Pc [.ref a0, .ref a1] (s_W dC dI sz L F [(cs 0, .int), (cs 1, .byte), (cs 2, .long), (cs 3, .object RX5), (cs 4, .object RX4), (cs 5, .array .int), (cs 6, .char), (cs 7, .boolean)])) (va_Qv (fun (G : Nat → va_E) => True ∧ True ∧ s_I K cs D G ∧ ∀ b, K b ∉ [5, 6, 24, 27, 28, 30, 31, 32] → G b = F b) (fun (G : Nat → va_E) (t : State) => va_P (dC, dI) vwCl (va_pl L G) t.heap ∧ va_K (dC, dI) vwCl [(cs 0, .int), (cs 1, .byte), (cs 2, .long), (cs 3, .object RX5), (cs 4, .object RX4), (cs 5, .array .int), (cs 6, .char), (cs 7, .boolean)] t) (fun q => q ∈ L)) 0 0 (fun q => q ∈ L) := by
  refine Met.ofW (cc := cX4_restart) (maxL := 3) (ret := none) (by decide) rfl ?_
  intro p e s m args below meth c s₁ B hml hv
  obtain ⟨rfl, hsz, hP, hK, hD, hN⟩ := hv
  have hx := B.exec
  have hb := B.bytes
  have hr := B.returns
  have hts : ∀ w ∈ T0, w.before _ s = true := fun w h => atoms_spec (ws := Cond.code yX4_restart cX4_restart 3 none :: T0) B.pre w (List.mem_cons_of_mem _ h)
  have hown : s.vm.findClass RX4 = some m.cls := findClass_of_methodNamed B.named
  have hlocks := B.notSynchronized
  have hS : va_S (fun q => q ∈ L) s.heap s.heap [] := va_S.rf
  have hfr : ∀ b, K b ∉ [5, 6, 24, 27, 28, 30, 31, 32] → F b = F b := fun _ _ => rfl
  have hl := lv_entry ([.ref a0, .ref a1]) (n := 3) (Nat.le_of_ble_eq_true rfl)
  rw [lg_entry_eq]
  generalize (lg_sl ([.ref a0, .ref a1]) ++ List.replicate (3 - (lg_sl ([.ref a0, .ref a1])).length) Slot.unset).toArray = ls at hl ⊢
  have hl : lv_has ls 3 [(0, .ref a0), (1, .ref a1)] := hl
  refine s_gen hP hS (fun H locs hP hS => ?_)
  refine lv_aload_n hx hb dX4_restart_0 rfl (lv_at hl 0 rfl) ?_
  refine lv_aload_n hx hb dX4_restart_1 rfl (lv_at hl 1 rfl) ?_
  obtain ⟨z1, z3, z5, z7, z9, z11, z12, o13, h2, h4, h6, h8, h10, -⟩ := s_op3 hI ha1
  refine th_getN (D := (dC, dI)) (ci := 2) (v := .int z9) (C := RX2) (T := TX2) (N := 7) hx hb hts inX2 hown hK hP (hLK _ ha1 (by decide)) o13 rfl 4 (by decide) (va_Nw.use rfl (ax_n48 hN)) (fun _ h9 => h9) rfl dX4_restart_2 ?_
  obtain ⟨z14, z16, z18, z20, z22, z24, z26, z28, z30, z31, z32, z34, z35, z37, z38, o40, h15, h17, h19, h21, h23, h25, h27, h29, h33, h36, h39, -⟩ := s_op5 hI ha0
  refine th_put (D := (dC, dI)) (ci := 4) (v := .int z9) (ty := .int) (C := RX4) (T := TX4) (N := 15) hx hb hts inX4 tyX4 tyX4_ok nmX4 hown hK hP hD hS (hLK _ ha0 (by decide)) o40 rfl 7 (by decide) (hts _ T_840) (fun _ h9 => h9) rfl (by decide +kernel) rfl rfl (Nat.le_of_ble_eq_true rfl) dX4_restart_5 (fun H locs hP hS => ?_)
  have hP : va_P (dC, dI) vwCl (va_pl L (va_up F a0 (.inr (4, [.ref z14, .ref z16, .ref z18, .ref z20, .ref z22, .ref z24, .ref z26, .int z9, .int z30, .int z31, .int z32, .int z34, .int z35, .int z37, .int z38])))) H := hP
  obtain ⟨F41, hF42⟩ : ∃ G : Nat → va_E, G = va_up F a0 (.inr (4, [.ref z14, .ref z16, .ref z18, .ref z20, .ref z22, .ref z24, .ref z26, .int z9, .int z30, .int z31, .int z32, .int z34, .int z35, .int z37, .int z38])) := ⟨_, rfl⟩
  rw [← hF42] at hP
  have hI : s_I K cs D F41 := by rw [hF42]; exact s_cl5 hI ha0 ⟨z14, z16, z18, z20, z22, z24, z26, z9, z30, z31, z32, z34, z35, z37, z38, rfl, h15, h17, h19, h21, h23, h25, h27, ⟨by omega, by omega⟩, ⟨by omega, by omega⟩, ⟨by omega, by omega⟩, ⟨by omega, by omega⟩, trivial⟩
  have hfr : ∀ b, K b ∉ [5, 6, 24, 27, 28, 30, 31, 32] → F41 b = F b := by rw [hF42]; exact s_fr hfr ha0 (by decide)
  have o43 : F41 a1 = .inr (2, [.ref z1, .ref z3, .ref z5, .int z7, .int z9, .int z11, .int z12]) := by rw [hF42]; exact th_ne (th_kd ha1 ha0 (by decide)) o13
  have o44 : F41 a0 = .inr (4, [.ref z14, .ref z16, .ref z18, .ref z20, .ref z22, .ref z24, .ref z26, .int z9, .int z30, .int z31, .int z32, .int z34, .int z35, .int z37, .int z38]) := by rw [hF42]; exact th_up
  refine lv_aload_n hx hb dX4_restart_8 rfl (lv_at hl 1 rfl) ?_
  refine th_getN (D := (dC, dI)) (ci := 2) (v := .ref z3) (C := RX2) (T := TX2) (N := 7) hx hb hts inX2 hown hK hP (hLK _ ha1 (by decide)) o43 rfl 1 (by decide) (va_Nw.use rfl (ax_n49 hN)) (fun _ h9 => h9) rfl dX4_restart_9 ?_
  refine lv_iconst (v := 0) hx hb dX4_restart_12 (by decide) ?_
  refine lv_aload_n hx hb dX4_restart_13 rfl (lv_at hl 0 rfl) ?_
  refine th_get (D := (dC, dI)) (ci := 4) (v := .ref z16) (C := RX4) (T := TX4) (N := 15) hx hb hts inX4 hown hK hP (hLK _ ha0 (by decide)) o44 rfl 1 (by decide) (hts _ T_108) (fun _ h9 => h9) rfl dX4_restart_14 ?_
  refine lv_iconst (v := 0) hx hb dX4_restart_17 (by decide) ?_
  refine lv_bipush (v := 64) hx hb dX4_restart_18 (by decide) ?_
  obtain ⟨f45, o46, h47⟩ := s_op24 hI h4
  obtain ⟨f48, o49, h50⟩ := s_op24 hI h17
  refine th_copy hx hb (by rw [hml]; exact hl.1.symm) hown (hts _ T_846) (hts _ T_847) (hts _ T_848) (hts _ T_849) hK hP hD hS (hLK _ h4 (by decide)) (hLK _ h17 (by decide)) 0 0 o46 o49 rfl rfl (by decide) (by decide) (by decide) (by decide) (by decide) (fun i _ => rfl) (Nat.le_of_ble_eq_true rfl) (Nat.le_of_ble_eq_true rfl) dX4_restart_20 (fun H locs hP hS => ?_)
  have hP : va_P (dC, dI) vwCl (va_pl L (va_up F41 z16 (.inl (cs 0, 64, .inl (va_cpy f45 f48 (0 : Int32).toNatClampNeg (0 : Int32).toNatClampNeg (64 : Int32).toNatClampNeg))))) H := hP
  obtain ⟨F51, hF52⟩ : ∃ G : Nat → va_E, G = va_up F41 z16 (.inl (cs 0, 64, .inl (va_cpy f45 f48 (0 : Int32).toNatClampNeg (0 : Int32).toNatClampNeg (64 : Int32).toNatClampNeg))) := ⟨_, rfl⟩
  rw [← hF52] at hP
  have hI : s_I K cs D F51 := by rw [hF52]; exact s_cl24 hI h17 ⟨_, rfl, trivial⟩
  have hfr : ∀ b, K b ∉ [5, 6, 24, 27, 28, 30, 31, 32] → F51 b = F b := by rw [hF52]; exact s_fr hfr h17 (by decide)
  have o53 : F51 a1 = .inr (2, [.ref z1, .ref z3, .ref z5, .int z7, .int z9, .int z11, .int z12]) := by rw [hF52]; exact th_ne (th_kd ha1 h17 (by decide)) o43
  have o54 : F51 a0 = .inr (4, [.ref z14, .ref z16, .ref z18, .ref z20, .ref z22, .ref z24, .ref z26, .int z9, .int z30, .int z31, .int z32, .int z34, .int z35, .int z37, .int z38]) := by rw [hF52]; exact th_ne (th_kd ha0 h17 (by decide)) o44
  refine lv_aload_n hx hb dX4_restart_23 rfl (lv_at hl 0 rfl) ?_
  refine th_get (D := (dC, dI)) (ci := 4) (v := .ref z18) (C := RX4) (T := TX4) (N := 15) hx hb hts inX4 hown hK hP (hLK _ ha0 (by decide)) o54 rfl 2 (by decide) (hts _ T_109) (fun _ h9 => h9) rfl dX4_restart_24 ?_
  refine lv_iconst (v := 0) hx hb dX4_restart_27 (by decide) ?_
  refine va_callv (va_runS (As := [.ref z18, .int 0]) (rest := []) ⟨hx, hb, hml, hown, hts⟩ (s_J7_fill_53178_near l dC dI H.size hLK D F51 z18 0 h19 hI) ⟨callB_of 2 hts (ax_gT T_11) rfl rfl rfl (hts _ T_197) (hts _ T_873) (by decide +kernel) ⟨Nat.le_of_ble_eq_true rfl, Nat.le_of_ble_eq_true rfl⟩, hts _ T_199⟩ ⟨fun a U g mk q => ⟨q.1, s_pc (U := U) rfl rfl q.2⟩, fun U hU hW => ⟨rfl, s_pw hU hW hP hK hD hN⟩⟩ rfl rfl hl.1 rfl (lv_room (Nat.le_of_ble_eq_true rfl)) dX4_restart_28 ⟨Nat.zero_le _, Nat.zero_le _⟩) hS (fun q _ h => h) (fun q h => h) (fun F55 t H1 locs ht hvm hw hB hz1 hk1 hS => ?_)
  obtain ⟨hP, hK1⟩ := hB
  rw [ht] at hP
  generalize H1 = H at hP hS ⊢
  clear hz1 hk1
  obtain ⟨h56, h57, hI, hfr1⟩ := hw
  have o58 : F55 a1 = .inr (2, [.ref z1, .ref z3, .ref z5, .int z7, .int z9, .int z11, .int z12]) := (hfr1 _ (by rw [ha1]; decide)).trans o53
  have o59 : F55 a0 = .inr (4, [.ref z14, .ref z16, .ref z18, .ref z20, .ref z22, .ref z24, .ref z26, .int z9, .int z30, .int z31, .int z32, .int z34, .int z35, .int z37, .int z38]) := (hfr1 _ (by rw [ha0]; decide)).trans o54
  have hfr : ∀ b, K b ∉ [5, 6, 24, 27, 28, 30, 31, 32] → F55 b = F b := fun b hb9 => (hfr1 b (fun q => hb9 (s_sub (by decide) q))).trans (hfr b hb9)
  refine lv_aload_n hx hb dX4_restart_31 rfl (lv_at hl 0 rfl) ?_
  refine th_get (D := (dC, dI)) (ci := 4) (v := .ref z20) (C := RX4) (T := TX4) (N := 15) hx hb hts inX4 hown hK hP (hLK _ ha0 (by decide)) o59 rfl 3 (by decide) (hts _ T_110) (fun _ h9 => h9) rfl dX4_restart_32 ?_
  refine lv_iconst (v := 0) hx hb dX4_restart_35 (by decide) ?_
  refine va_callv (va_runS (As := [.ref z20, .int 0]) (rest := []) ⟨hx, hb, hml, hown, hts⟩ (s_J7_fill_53178_touch l dC dI H.size hLK D F55 z20 0 h21 hI) ⟨callB_of 2 hts (ax_gT T_11) rfl rfl rfl (hts _ T_197) (hts _ T_873) (by decide +kernel) ⟨Nat.le_of_ble_eq_true rfl, Nat.le_of_ble_eq_true rfl⟩, hts _ T_199⟩ ⟨fun a U g mk q => ⟨q.1, s_pc (U := U) rfl rfl q.2⟩, fun U hU hW => ⟨rfl, s_pw hU hW hP hK hD hN⟩⟩ rfl rfl hl.1 rfl (lv_room (Nat.le_of_ble_eq_true rfl)) dX4_restart_36 ⟨Nat.zero_le _, Nat.zero_le _⟩) hS (fun q _ h => h) (fun q h => h) (fun F60 t H1 locs ht hvm hw hB hz1 hk1 hS => ?_)
  obtain ⟨hP, hK1⟩ := hB
  rw [ht] at hP
  generalize H1 = H at hP hS ⊢
  clear hz1 hk1
  obtain ⟨h61, h62, hI, hfr1⟩ := hw
  have o63 : F60 a1 = .inr (2, [.ref z1, .ref z3, .ref z5, .int z7, .int z9, .int z11, .int z12]) := (hfr1 _ (by rw [ha1]; decide)).trans o58
  have o64 : F60 a0 = .inr (4, [.ref z14, .ref z16, .ref z18, .ref z20, .ref z22, .ref z24, .ref z26, .int z9, .int z30, .int z31, .int z32, .int z34, .int z35, .int z37, .int z38]) := (hfr1 _ (by rw [ha0]; decide)).trans o59
  have hfr : ∀ b, K b ∉ [5, 6, 24, 27, 28, 30, 31, 32] → F60 b = F b := fun b hb9 => (hfr1 b (fun q => hb9 (s_sub (by decide) q))).trans (hfr b hb9)
  refine lv_aload_n hx hb dX4_restart_39 rfl (lv_at hl 0 rfl) ?_
  refine th_get (D := (dC, dI)) (ci := 4) (v := .ref z22) (C := RX4) (T := TX4) (N := 15) hx hb hts inX4 hown hK hP (hLK _ ha0 (by decide)) o64 rfl 4 (by decide) (hts _ T_111) (fun _ h9 => h9) rfl dX4_restart_40 ?_
  refine lv_iconst (v := 0) hx hb dX4_restart_43 (by decide) ?_
  refine va_callv (va_runS (As := [.ref z22, .int 0]) (rest := []) ⟨hx, hb, hml, hown, hts⟩ (s_J7_fill_53178_touch l dC dI H.size hLK D F60 z22 0 h23 hI) ⟨callB_of 2 hts (ax_gT T_11) rfl rfl rfl (hts _ T_197) (hts _ T_873) (by decide +kernel) ⟨Nat.le_of_ble_eq_true rfl, Nat.le_of_ble_eq_true rfl⟩, hts _ T_199⟩ ⟨fun a U g mk q => ⟨q.1, s_pc (U := U) rfl rfl q.2⟩, fun U hU hW => ⟨rfl, s_pw hU hW hP hK hD hN⟩⟩ rfl rfl hl.1 rfl (lv_room (Nat.le_of_ble_eq_true rfl)) dX4_restart_44 ⟨Nat.zero_le _, Nat.zero_le _⟩) hS (fun q _ h => h) (fun q h => h) (fun F65 t H1 locs ht hvm hw hB hz1 hk1 hS => ?_)
  obtain ⟨hP, hK1⟩ := hB
  rw [ht] at hP
  generalize H1 = H at hP hS ⊢
  clear hz1 hk1
  obtain ⟨h66, h67, hI, hfr1⟩ := hw
  have o68 : F65 a1 = .inr (2, [.ref z1, .ref z3, .ref z5, .int z7, .int z9, .int z11, .int z12]) := (hfr1 _ (by rw [ha1]; decide)).trans o63
  have o69 : F65 a0 = .inr (4, [.ref z14, .ref z16, .ref z18, .ref z20, .ref z22, .ref z24, .ref z26, .int z9, .int z30, .int z31, .int z32, .int z34, .int z35, .int z37, .int z38]) := (hfr1 _ (by rw [ha0]; decide)).trans o64
  have hfr : ∀ b, K b ∉ [5, 6, 24, 27, 28, 30, 31, 32] → F65 b = F b := fun b hb9 => (hfr1 b (fun q => hb9 (s_sub (by decide) q))).trans (hfr b hb9)
  refine lv_aload_n hx hb dX4_restart_47 rfl (lv_at hl 0 rfl) ?_
  refine th_get (D := (dC, dI)) (ci := 4) (v := .ref z24) (C := RX4) (T := TX4) (N := 15) hx hb hts inX4 hown hK hP (hLK _ ha0 (by decide)) o69 rfl 5 (by decide) (hts _ T_112) (fun _ h9 => h9) rfl dX4_restart_48 ?_
  refine lv_iconst (v := 0) hx hb dX4_restart_51 (by decide) ?_
  refine va_callv (va_runS (As := [.ref z24, .int 0]) (rest := []) ⟨hx, hb, hml, hown, hts⟩ (s_J7_fill_53178_touch l dC dI H.size hLK D F65 z24 0 h25 hI) ⟨callB_of 2 hts (ax_gT T_11) rfl rfl rfl (hts _ T_197) (hts _ T_873) (by decide +kernel) ⟨Nat.le_of_ble_eq_true rfl, Nat.le_of_ble_eq_true rfl⟩, hts _ T_199⟩ ⟨fun a U g mk q => ⟨q.1, s_pc (U := U) rfl rfl q.2⟩, fun U hU hW => ⟨rfl, s_pw hU hW hP hK hD hN⟩⟩ rfl rfl hl.1 rfl (lv_room (Nat.le_of_ble_eq_true rfl)) dX4_restart_52 ⟨Nat.zero_le _, Nat.zero_le _⟩) hS (fun q _ h => h) (fun q h => h) (fun F70 t H1 locs ht hvm hw hB hz1 hk1 hS => ?_)
  obtain ⟨hP, hK1⟩ := hB
  rw [ht] at hP
  generalize H1 = H at hP hS ⊢
  clear hz1 hk1
  obtain ⟨h71, h72, hI, hfr1⟩ := hw
  have o73 : F70 a1 = .inr (2, [.ref z1, .ref z3, .ref z5, .int z7, .int z9, .int z11, .int z12]) := (hfr1 _ (by rw [ha1]; decide)).trans o68
  have o74 : F70 a0 = .inr (4, [.ref z14, .ref z16, .ref z18, .ref z20, .ref z22, .ref z24, .ref z26, .int z9, .int z30, .int z31, .int z32, .int z34, .int z35, .int z37, .int z38]) := (hfr1 _ (by rw [ha0]; decide)).trans o69
  have hfr : ∀ b, K b ∉ [5, 6, 24, 27, 28, 30, 31, 32] → F70 b = F b := fun b hb9 => (hfr1 b (fun q => hb9 (s_sub (by decide) q))).trans (hfr b hb9)
  refine lv_aload_n hx hb dX4_restart_55 rfl (lv_at hl 0 rfl) ?_
  refine lv_iconst (v := 0) hx hb dX4_restart_56 (by decide) ?_
  refine th_put (D := (dC, dI)) (ci := 4) (v := .int 0) (ty := .int) (C := RX4) (T := TX4) (N := 15) hx hb hts inX4 tyX4 tyX4_ok nmX4 hown hK hP hD hS (hLK _ ha0 (by decide)) o74 rfl 11 (by decide) (hts _ T_837) (fun _ h9 => h9) rfl (by decide +kernel) rfl rfl (Nat.le_of_ble_eq_true rfl) dX4_restart_57 (fun H locs hP hS => ?_)
  have hP : va_P (dC, dI) vwCl (va_pl L (va_up F70 a0 (.inr (4, [.ref z14, .ref z16, .ref z18, .ref z20, .ref z22, .ref z24, .ref z26, .int z9, .int z30, .int z31, .int z32, .int 0, .int z35, .int z37, .int z38])))) H := hP
  obtain ⟨F75, hF76⟩ : ∃ G : Nat → va_E, G = va_up F70 a0 (.inr (4, [.ref z14, .ref z16, .ref z18, .ref z20, .ref z22, .ref z24, .ref z26, .int z9, .int z30, .int z31, .int z32, .int 0, .int z35, .int z37, .int z38])) := ⟨_, rfl⟩
  rw [← hF76] at hP
  have hI : s_I K cs D F75 := by rw [hF76]; exact s_cl5 hI ha0 ⟨z14, z16, z18, z20, z22, z24, z26, z9, z30, z31, z32, 0, z35, z37, z38, rfl, h15, h17, h19, h21, h23, h25, h27, ⟨by omega, by omega⟩, ⟨by omega, by omega⟩, ⟨by omega, by omega⟩, ⟨by omega, by omega⟩, trivial⟩
  have hfr : ∀ b, K b ∉ [5, 6, 24, 27, 28, 30, 31, 32] → F75 b = F b := by rw [hF76]; exact s_fr hfr ha0 (by decide)
  have o77 : F75 a1 = .inr (2, [.ref z1, .ref z3, .ref z5, .int z7, .int z9, .int z11, .int z12]) := by rw [hF76]; exact th_ne (th_kd ha1 ha0 (by decide)) o73
  have o78 : F75 a0 = .inr (4, [.ref z14, .ref z16, .ref z18, .ref z20, .ref z22, .ref z24, .ref z26, .int z9, .int z30, .int z31, .int z32, .int 0, .int z35, .int z37, .int z38]) := by rw [hF76]; exact th_up
  refine lv_aload_n hx hb dX4_restart_60 rfl (lv_at hl 0 rfl) ?_
  refine lv_iconst (v := 0) hx hb dX4_restart_61 (by decide) ?_
  refine th_put (D := (dC, dI)) (ci := 4) (v := .int 0) (ty := .int) (C := RX4) (T := TX4) (N := 15) hx hb hts inX4 tyX4 tyX4_ok nmX4 hown hK hP hD hS (hLK _ ha0 (by decide)) o78 rfl 12 (by decide) (hts _ T_844) (fun _ h9 => h9) rfl (by decide +kernel) rfl rfl (Nat.le_of_ble_eq_true rfl) dX4_restart_62 (fun H locs hP hS => ?_)
  have hP : va_P (dC, dI) vwCl (va_pl L (va_up F75 a0 (.inr (4, [.ref z14, .ref z16, .ref z18, .ref z20, .ref z22, .ref z24, .ref z26, .int z9, .int z30, .int z31, .int z32, .int 0, .int 0, .int z37, .int z38])))) H := hP
  obtain ⟨F79, hF80⟩ : ∃ G : Nat → va_E, G = va_up F75 a0 (.inr (4, [.ref z14, .ref z16, .ref z18, .ref z20, .ref z22, .ref z24, .ref z26, .int z9, .int z30, .int z31, .int z32, .int 0, .int 0, .int z37, .int z38])) := ⟨_, rfl⟩
  rw [← hF80] at hP
  have hI : s_I K cs D F79 := by rw [hF80]; exact s_cl5 hI ha0 ⟨z14, z16, z18, z20, z22, z24, z26, z9, z30, z31, z32, 0, 0, z37, z38, rfl, h15, h17, h19, h21, h23, h25, h27, ⟨by omega, by omega⟩, ⟨by omega, by omega⟩, ⟨by decide, Int.le_trans (b := 0) (by decide) (by omega)⟩, ⟨by omega, by omega⟩, trivial⟩
  have hfr : ∀ b, K b ∉ [5, 6, 24, 27, 28, 30, 31, 32] → F79 b = F b := by rw [hF80]; exact s_fr hfr ha0 (by decide)
  have o81 : F79 a1 = .inr (2, [.ref z1, .ref z3, .ref z5, .int z7, .int z9, .int z11, .int z12]) := by rw [hF80]; exact th_ne (th_kd ha1 ha0 (by decide)) o77
  have o82 : F79 a0 = .inr (4, [.ref z14, .ref z16, .ref z18, .ref z20, .ref z22, .ref z24, .ref z26, .int z9, .int z30, .int z31, .int z32, .int 0, .int 0, .int z37, .int z38]) := by rw [hF80]; exact th_up
  refine lv_aload_n hx hb dX4_restart_65 rfl (lv_at hl 0 rfl) ?_
  refine lv_iconst (v := 0) hx hb dX4_restart_66 (by decide) ?_
  refine th_put (D := (dC, dI)) (ci := 4) (v := .int 0) (ty := .int) (C := RX4) (T := TX4) (N := 15) hx hb hts inX4 tyX4 tyX4_ok nmX4 hown hK hP hD hS (hLK _ ha0 (by decide)) o82 rfl 13 (by decide) (hts _ T_845) (fun _ h9 => h9) rfl (by decide +kernel) rfl rfl (Nat.le_of_ble_eq_true rfl) dX4_restart_67 (fun H locs hP hS => ?_)
  have hP : va_P (dC, dI) vwCl (va_pl L (va_up F79 a0 (.inr (4, [.ref z14, .ref z16, .ref z18, .ref z20, .ref z22, .ref z24, .ref z26, .int z9, .int z30, .int z31, .int z32, .int 0, .int 0, .int 0, .int z38])))) H := hP
  obtain ⟨F83, hF84⟩ : ∃ G : Nat → va_E, G = va_up F79 a0 (.inr (4, [.ref z14, .ref z16, .ref z18, .ref z20, .ref z22, .ref z24, .ref z26, .int z9, .int z30, .int z31, .int z32, .int 0, .int 0, .int 0, .int z38])) := ⟨_, rfl⟩
  rw [← hF84] at hP
  have hI : s_I K cs D F83 := by rw [hF84]; exact s_cl5 hI ha0 ⟨z14, z16, z18, z20, z22, z24, z26, z9, z30, z31, z32, 0, 0, 0, z38, rfl, h15, h17, h19, h21, h23, h25, h27, ⟨by omega, by omega⟩, ⟨by omega, by omega⟩, ⟨by decide, Int.le_trans (b := 0) (by decide) (by omega)⟩, ⟨by omega, by omega⟩, trivial⟩
  have hfr : ∀ b, K b ∉ [5, 6, 24, 27, 28, 30, 31, 32] → F83 b = F b := by rw [hF84]; exact s_fr hfr ha0 (by decide)
  have o85 : F83 a1 = .inr (2, [.ref z1, .ref z3, .ref z5, .int z7, .int z9, .int z11, .int z12]) := by rw [hF84]; exact th_ne (th_kd ha1 ha0 (by decide)) o81
  have o86 : F83 a0 = .inr (4, [.ref z14, .ref z16, .ref z18, .ref z20, .ref z22, .ref z24, .ref z26, .int z9, .int z30, .int z31, .int z32, .int 0, .int 0, .int 0, .int z38]) := by rw [hF84]; exact th_up
  refine lv_aload_n hx hb dX4_restart_70 rfl (lv_at hl 0 rfl) ?_
  refine lv_iconst (v := (-1)) hx hb dX4_restart_71 (by decide) ?_
  refine th_put (D := (dC, dI)) (ci := 4) (v := .int (-1)) (ty := .int) (C := RX4) (T := TX4) (N := 15) hx hb hts inX4 tyX4 tyX4_ok nmX4 hown hK hP hD hS (hLK _ ha0 (by decide)) o86 rfl 14 (by decide) (hts _ T_114) (fun _ h9 => h9) rfl (by decide +kernel) rfl rfl (Nat.le_of_ble_eq_true rfl) dX4_restart_72 (fun H locs hP hS => ?_)
  have hP : va_P (dC, dI) vwCl (va_pl L (va_up F83 a0 (.inr (4, [.ref z14, .ref z16, .ref z18, .ref z20, .ref z22, .ref z24, .ref z26, .int z9, .int z30, .int z31, .int z32, .int 0, .int 0, .int 0, .int (-1)])))) H := hP
  obtain ⟨F87, hF88⟩ : ∃ G : Nat → va_E, G = va_up F83 a0 (.inr (4, [.ref z14, .ref z16, .ref z18, .ref z20, .ref z22, .ref z24, .ref z26, .int z9, .int z30, .int z31, .int z32, .int 0, .int 0, .int 0, .int (-1)])) := ⟨_, rfl⟩
  rw [← hF88] at hP
  have hI : s_I K cs D F87 := by rw [hF88]; exact s_cl5 hI ha0 ⟨z14, z16, z18, z20, z22, z24, z26, z9, z30, z31, z32, 0, 0, 0, (-1), rfl, h15, h17, h19, h21, h23, h25, h27, ⟨by omega, by omega⟩, ⟨by omega, by omega⟩, ⟨by decide, Int.le_trans (b := 0) (by decide) (by omega)⟩, (by decide), trivial⟩
  have hfr : ∀ b, K b ∉ [5, 6, 24, 27, 28, 30, 31, 32] → F87 b = F b := by rw [hF88]; exact s_fr hfr ha0 (by decide)
  have o89 : F87 a1 = .inr (2, [.ref z1, .ref z3, .ref z5, .int z7, .int z9, .int z11, .int z12]) := by rw [hF88]; exact th_ne (th_kd ha1 ha0 (by decide)) o85
  have o90 : F87 a0 = .inr (4, [.ref z14, .ref z16, .ref z18, .ref z20, .ref z22, .ref z24, .ref z26, .int z9, .int z30, .int z31, .int z32, .int 0, .int 0, .int 0, .int (-1)]) := by rw [hF88]; exact th_up
  refine lv_iconst (v := 0) hx hb dX4_restart_75 (by decide) ?_
  refine lv_istore_n (lv' := [(2, .int 0), (0, .ref a0), (1, .ref a1)]) hx hb dX4_restart_76 rfl hl (by decide) rfl (fun ls hl => ?_)
  refine th_loop (fun n g H locs => ∃ (G : Nat → va_E) (ls : Array Slot) (w91 : Int32), g = F0 m 77 ls [] ∧ lv_has ls 3 [(0, .ref a0), (1, .ref a1), (2, .int w91)] ∧ s_I K cs D G ∧ va_P (dC, dI) vwCl (va_pl L G) H ∧ va_S (fun q => q ∈ L) s.heap H locs ∧ (∀ b, K b ∉ [5, 6, 24, 27, 28, 30, 31, 32] → G b = F b) ∧ (0 ≤ w91.toInt ∧ w91.toInt ≤ 4) ∧ n = (5 - w91.toInt).toNat) _ ⟨F87, _, 0, rfl, lv_sub hl [1, 2, 0] rfl, hI, hP, hS, hfr, (by decide), rfl⟩ (fun n ih77 g H locs hq => ?_)
  obtain ⟨F9, ls, w91, rfl, hl, hI, hP, hS, hfr, h92, hn⟩ := hq
  have hn_77 := hn
  obtain ⟨n_77, hn9_77⟩ : ∃ q, q = n := ⟨_, rfl⟩
  refine th_join (fun g H locs => ∃ (G : Nat → va_E) (ls : Array Slot) (w93 : Int32) (w94 : Nat), g = F0 m 103 ls [.int w93, .ref w94] ∧ lv_has ls 3 [(0, .ref a0), (1, .ref a1), (2, .int w91)] ∧ s_I K cs D G ∧ va_P (dC, dI) vwCl (va_pl L G) H ∧ va_S (fun q => q ∈ L) s.heap H locs ∧ (∀ b, K b ∉ [5, 6, 24, 27, 28, 30, 31, 32] → G b = F b) ∧ (0 ≤ w93.toInt ∧ w93.toInt ≤ 255) ∧ K w94 = 6 ∧ (0 ≤ w91.toInt ∧ w91.toInt ≤ 3)) (fun K103 => ?_) ?_
  · refine lv_iload_n hx hb dX4_restart_77 rfl (lv_at hl 2 rfl) ?_
    refine lv_iconst (v := 4) hx hb dX4_restart_78 (by decide) ?_
    refine lv_icmp_ge (tgt := 120) hx hb dX4_restart_79 (by decide) (fun c95 => ?_) (fun c95 => ?_)
    · have c95 := (ax_ge (n := 4) (by decide)).mp c95
      exact W.vret hx hb hr (fun t ht hW => ⟨⟨F9, rfl, ⟨trivial, trivial, hI, hfr⟩, by rw [ht]; exact hP, va_K.moved hW.alike hK⟩, hS.F ht⟩) hS.2.2 dX4_restart_120
    · have c95 := mt (ax_ge (n := 4) (by decide)).mpr c95
      refine lv_aload_n hx hb dX4_restart_82 rfl (lv_at hl 0 rfl) ?_
      obtain ⟨z96, z98, z100, z102, z104, z106, z108, z110, z112, z113, z114, z116, z117, z119, z120, o122, h97, h99, h101, h103, h105, h107, h109, h111, h115, h118, h121, -⟩ := s_op5 hI ha0
      refine th_get (D := (dC, dI)) (ci := 4) (v := .ref z96) (C := RX4) (T := TX4) (N := 15) hx hb hts inX4 hown hK hP (hLK _ ha0 (by decide)) o122 rfl 0 (by decide) (hts _ T_107) (fun _ h9 => h9) rfl dX4_restart_83 ?_
      refine lv_iload_n hx hb dX4_restart_86 rfl (lv_at hl 2 rfl) ?_
      obtain ⟨f123, o124, h125⟩ := s_op26 hI h97
      obtain ⟨z126, o128, h127⟩ := h125 (w91 : Int32).toNatClampNeg (th_cl ⟨by omega, by omega⟩)
      refine th_aald hx hb hK hP (hLK _ h97 (by decide)) 3 o124 rfl (th_in ⟨by omega, by omega⟩) o128 dX4_restart_87 ?_
      refine lv_iload_n hx hb dX4_restart_88 rfl (lv_at hl 2 rfl) ?_
      refine lv_aload_n hx hb dX4_restart_89 rfl (lv_at hl 0 rfl) ?_
      refine th_get (D := (dC, dI)) (ci := 4) (v := .int z110) (C := RX4) (T := TX4) (N := 15) hx hb hts inX4 hown hK hP (hLK _ ha0 (by decide)) o122 rfl 7 (by decide) (hts _ T_840) (fun _ h9 => h9) rfl dX4_restart_90 ?_
      refine lv_icmp_ge (tgt := 102) hx hb dX4_restart_93 (by decide) (fun c129 => ?_) (fun c129 => ?_)
      · have c129 := Int32.le_iff_toInt_le.mp c129
        refine lv_iconst (v := 0) hx hb dX4_restart_102 (by decide) ?_
        exact K103 _ _ _ ⟨F9, _, 0, z126, rfl, lv_sub hl [0, 1, 2] rfl, hI, hP, hS, hfr, (by decide), h127, ⟨by omega, by omega⟩⟩
      · have c129 := mt Int32.le_iff_toInt_le.mpr c129
        refine lv_sipush (v := 255) hx hb dX4_restart_96 (by decide) ?_
        refine lv_goto (tgt := 103) hx hb dX4_restart_99 (by decide) ?_
        exact K103 _ _ _ ⟨F9, _, 255, z126, rfl, lv_sub hl [0, 1, 2] rfl, hI, hP, hS, hfr, (by decide), h127, ⟨by omega, by omega⟩⟩
  · intro g H locs hq
    obtain ⟨F9, ls, w93, w94, rfl, hl, hI, hP, hS, hfr, h130, h131, h132⟩ := hq
    refine lv_aload_n hx hb dX4_restart_103 rfl (lv_at hl 0 rfl) ?_
    obtain ⟨z133, z135, z137, z139, z141, z143, z145, z147, z149, z150, z151, z153, z154, z156, z157, o159, h134, h136, h138, h140, h142, h144, h146, h148, h152, h155, h158, -⟩ := s_op5 hI ha0
    refine th_get (D := (dC, dI)) (ci := 4) (v := .int z149) (C := RX4) (T := TX4) (N := 15) hx hb hts inX4 hown hK hP (hLK _ ha0 (by decide)) o159 rfl 8 (by decide) (hts _ T_838) (fun _ h9 => h9) rfl dX4_restart_104 ?_
    refine lv_aload_n hx hb dX4_restart_107 rfl (lv_at hl 1 rfl) ?_
    obtain ⟨z160, z162, z164, z166, z168, z170, z171, o172, h161, h163, h165, h167, h169, -⟩ := s_op3 hI ha1
    refine th_getN (D := (dC, dI)) (ci := 2) (v := .int z166) (C := RX2) (T := TX2) (N := 7) hx hb hts inX2 hown hK hP (hLK _ ha1 (by decide)) o172 rfl 3 (by decide) (va_Nw.use rfl (ax_n50 hN)) (fun _ h9 => h9) rfl dX4_restart_108 ?_
    obtain ⟨z173, z175, z177, z179, z181, z183, z185, z186, z187, z188, z189, o191, h174, h176, h178, h180, h182, h184, h190, -⟩ := s_op6 hI h131
    refine va_callv (va_runV (As := [.int w93, .int z149, .int z166]) (rest := []) ⟨hx, hb, hml, hown, hts⟩ (s_X5_restart l dC dI H.size hLK D F9 w94 w93 z149 z166 h131 hI) (cwV 3 hts (ax_gV T_864 T_866 T_867 T_116 T_865) rfl rfl rfl (by decide +kernel) ⟨Nat.le_of_ble_eq_true rfl, Nat.le_of_ble_eq_true rfl⟩) ⟨fun a U g mk q => ⟨q.1, s_pc (U := U) rfl rfl q.2⟩, s_recv hK hP (hLK _ h131 (by decide)) (ci := 5) rfl o191, fun U hU hW => ⟨rfl, s_pw hU hW hP hK hD hN⟩⟩ rfl rfl hl.1 rfl (lv_room (Nat.le_of_ble_eq_true rfl)) dX4_restart_111 ⟨Nat.zero_le _, Nat.zero_le _⟩) hS (fun q _ h => h) (fun q h => h) (fun F192 t H1 locs ht hvm hw hB hz1 hk1 hS => ?_)
    obtain ⟨hP, hK1⟩ := hB
    rw [ht] at hP
    generalize H1 = H at hP hS ⊢
    clear hz1 hk1
    obtain ⟨h193, h194, hI, hfr1⟩ := hw
    have o195 : F192 a0 = .inr (4, [.ref z133, .ref z135, .ref z137, .ref z139, .ref z141, .ref z143, .ref z145, .int z147, .int z149, .int z150, .int z151, .int z153, .int z154, .int z156, .int z157]) := (hfr1 _ (by rw [ha0]; decide)).trans o159
    have o196 : F192 a1 = .inr (2, [.ref z160, .ref z162, .ref z164, .int z166, .int z168, .int z170, .int z171]) := (hfr1 _ (by rw [ha1]; decide)).trans o172
    have hfr : ∀ b, K b ∉ [5, 6, 24, 27, 28, 30, 31, 32] → F192 b = F b := fun b hb9 => (hfr1 b (fun q => hb9 (s_sub (by decide) q))).trans (hfr b hb9)
    obtain ⟨v197, ev197⟩ : ∃ y : Int32, w91 + 1 = y := ⟨_, rfl⟩
    have qv197 : v197.toInt = w91.toInt + 1 := by rw [← ev197]; exact th_add rfl (by decide) ⟨by omega, by omega⟩
    refine lv_iinc (v := v197) (lv' := [(2, .int v197), (0, .ref a0), (1, .ref a1)]) hx hb dX4_restart_114 hl (k := 2) rfl ev197 (by decide) rfl (fun ls hl => ?_)
    refine lv_goto (tgt := 77) hx hb dX4_restart_117 (by decide) ?_
    exact ih77 _ _ _ _ (by omega) ⟨F192, _, v197, rfl, lv_sub hl [1, 2, 0] rfl, hI, hP, hS, hfr, ⟨by omega, by omega⟩, rfl⟩

set_option maxHeartbeats 4000000 in
set_option maxRecDepth 100000 in
theorem s_X4_leaveAlone (l : Launch) (dC : Nat → ClassId) (dI : Nat → Nat → Nat) (sz : Nat) {L : List Nat} {K : Nat → Nat} {cs : Nat → ClassId} (hLK : ∀ a {k : Nat}, K a = k → k ≠ 0 → a ∈ L) (D : Nat) (F : Nat → va_E) (a0 : Nat) (x1 : Int32) (x2 : Int32) (x3 : Int32) (ha0 : K a0 = 5) (hI : s_I K cs D F) : Met l yX4_leaveAlone (Cond.code yX4_leaveAlone cX4_leaveAlone 5 none :: T0) ({ frames := 2, cells := 0, slots := 0, locals := 46 }) (va_Pc [.ref a0, .int x1, .int x2, .int x3] (s_W dC dI sz L F [(cs 0, .int), (cs 1, .byte), (cs 2, .long), (cs 3, .object RX5), (cs 4, .object RX4), (cs 5, .array .int), (cs 6, .char), (cs 7, .boolean)])) (va_Qv (fun (G : Nat → va_E) => True ∧ True ∧ s_I K cs D G ∧ ∀ b, K b ∉ [6, 30, 31, 32] → G b = F b) (fun (G : Nat → va_E) (t : State) => va_P (dC, dI) vwCl (va_pl L G) t.heap ∧ va_K (dC, dI) vwCl [(cs 0, .int), (cs 1, .byte), (cs 2, .long), (cs 3, .object RX5), (cs 4, .object RX4), (cs 5, .array .int), (cs 6, .char), (cs 7, .boolean)] t) (fun q => q ∈ L)) 0 0 (fun q => q ∈ L) := by
  refine Met.ofW (cc := cX4_leaveAlone) (maxL := 5) (ret := none) (by decide) rfl ?_
  intro p e s m args below meth c s₁ B hml hv
  obtain ⟨rfl, hsz, hP, hK, hD, hN⟩ := hv
  have hx := B.exec
  have hb := B.bytes
  have hr := B.returns
  have hts : ∀ w ∈ T0, w.before _ s = true := fun w h => atoms_spec (ws := Cond.code yX4_leaveAlone cX4_leaveAlone 5 none :: T0) B.pre w (List.mem_cons_of_mem _ h)
  have hown : s.vm.findClass RX4 = some m.cls := findClass_of_methodNamed B.named
  have hlocks := B.notSynchronized
  have hS : va_S (fun q => q ∈ L) s.heap s.heap [] := va_S.rf
  have hfr : ∀ b, K b ∉ [6, 30, 31, 32] → F b = F b := fun _ _ => rfl
  have hl := lv_entry ([.ref a0, .int x1, .int x2, .int x3]) (n := 5) (Nat.le_of_ble_eq_true rfl)
  rw [lg_entry_eq]
  generalize (lg_sl ([.ref a0, .int x1, .int x2, .int x3]) ++ List.replicate (5 - (lg_sl ([.ref a0, .int x1, .int x2, .int x3])).length) Slot.unset).toArray = ls at hl ⊢
  have hl : lv_has ls 5 [(0, .ref a0), (1, .int x1), (2, .int x2), (3, .int x3)] := hl
  refine s_gen hP hS (fun H locs hP hS => ?_)
  refine lv_iconst (v := 0) hx hb dX4_leaveAlone_0 (by decide) ?_
  refine lv_istore (lv' := [(4, .int 0), (0, .ref a0), (1, .int x1), (2, .int x2), (3, .int x3)]) hx hb dX4_leaveAlone_1 hl (by decide) rfl (fun ls hl => ?_)
  refine th_loop (fun n g H locs => ∃ (G : Nat → va_E) (ls : Array Slot) (w1 : Int32), g = F0 m 3 ls [] ∧ lv_has ls 5 [(0, .ref a0), (1, .int x1), (2, .int x2), (3, .int x3), (4, .int w1)] ∧ s_I K cs D G ∧ va_P (dC, dI) vwCl (va_pl L G) H ∧ va_S (fun q => q ∈ L) s.heap H locs ∧ (∀ b, K b ∉ [6, 30, 31, 32] → G b = F b) ∧ (0 ≤ w1.toInt ∧ w1.toInt ≤ 4) ∧ n = (5 - w1.toInt).toNat) _ ⟨F, _, 0, rfl, lv_sub hl [1, 2, 3, 4, 0] rfl, hI, hP, hS, hfr, (by decide), rfl⟩ (fun n ih3 g H locs hq => ?_)
  obtain ⟨F9, ls, w1, rfl, hl, hI, hP, hS, hfr, h2, hn⟩ := hq
  have hn_3 := hn
  obtain ⟨n_3, hn9_3⟩ : ∃ q, q = n := ⟨_, rfl⟩
  refine th_join (fun g H locs => ∃ (G : Nat → va_E) (ls : Array Slot) (w3 : Int32) (w4 : Nat), g = F0 m 32 ls [.int w3, .ref w4] ∧ lv_has ls 5 [(0, .ref a0), (1, .int x1), (2, .int x2), (3, .int x3), (4, .int w1)] ∧ s_I K cs D G ∧ va_P (dC, dI) vwCl (va_pl L G) H ∧ va_S (fun q => q ∈ L) s.heap H locs ∧ (∀ b, K b ∉ [6, 30, 31, 32] → G b = F b) ∧ True ∧ K w4 = 6 ∧ (0 ≤ w1.toInt ∧ w1.toInt ≤ 3)) (fun K32 => ?_) ?_
  · refine lv_iload hx hb dX4_leaveAlone_3 (lv_at hl 4 rfl) ?_
    refine lv_aload_n hx hb dX4_leaveAlone_5 rfl (lv_at hl 0 rfl) ?_
    obtain ⟨z5, z7, z9, z11, z13, z15, z17, z19, z21, z22, z23, z25, z26, z28, z29, o31, h6, h8, h10, h12, h14, h16, h18, h20, h24, h27, h30, -⟩ := s_op5 hI ha0
    refine th_get (D := (dC, dI)) (ci := 4) (v := .int z19) (C := RX4) (T := TX4) (N := 15) hx hb hts inX4 hown hK hP (hLK _ ha0 (by decide)) o31 rfl 7 (by decide) (hts _ T_840) (fun _ h9 => h9) rfl dX4_leaveAlone_6 ?_
    refine lv_icmp_ge (tgt := 46) hx hb dX4_leaveAlone_9 (by decide) (fun c32 => ?_) (fun c32 => ?_)
    · have c32 := Int32.le_iff_toInt_le.mp c32
      exact W.vret hx hb hr (fun t ht hW => ⟨⟨F9, rfl, ⟨trivial, trivial, hI, hfr⟩, by rw [ht]; exact hP, va_K.moved hW.alike hK⟩, hS.F ht⟩) hS.2.2 dX4_leaveAlone_46
    · have c32 := mt Int32.le_iff_toInt_le.mpr c32
      refine lv_aload_n hx hb dX4_leaveAlone_12 rfl (lv_at hl 0 rfl) ?_
      refine th_get (D := (dC, dI)) (ci := 4) (v := .ref z5) (C := RX4) (T := TX4) (N := 15) hx hb hts inX4 hown hK hP (hLK _ ha0 (by decide)) o31 rfl 0 (by decide) (hts _ T_107) (fun _ h9 => h9) rfl dX4_leaveAlone_13 ?_
      refine lv_iload hx hb dX4_leaveAlone_16 (lv_at hl 4 rfl) ?_
      obtain ⟨f33, o34, h35⟩ := s_op26 hI h6
      obtain ⟨z36, o38, h37⟩ := h35 (w1 : Int32).toNatClampNeg (th_cl ⟨by omega, by omega⟩)
      refine th_aald hx hb hK hP (hLK _ h6 (by decide)) 3 o34 rfl (th_in ⟨by omega, by omega⟩) o38 dX4_leaveAlone_18 ?_
      refine lv_iload hx hb dX4_leaveAlone_19 (lv_at hl 4 rfl) ?_
      refine lv_iload_n hx hb dX4_leaveAlone_21 rfl (lv_at hl 1 rfl) ?_
      refine lv_icmp_ne (tgt := 31) hx hb dX4_leaveAlone_22 (by decide) (fun c39 => ?_) (fun c39 => ?_)
      · have c39 := mt Int32.toInt_inj.symm.mpr c39
        refine lv_iconst (v := 0) hx hb dX4_leaveAlone_31 (by decide) ?_
        exact K32 _ _ _ ⟨F9, _, 0, z36, rfl, lv_sub hl [0, 1, 2, 3, 4] rfl, hI, hP, hS, hfr, trivial, h37, ⟨by omega, by omega⟩⟩
      · have c39 := Int32.toInt_inj.symm.mp c39
        refine lv_iconst (v := 1) hx hb dX4_leaveAlone_25 (by decide) ?_
        refine lv_iload_n hx hb dX4_leaveAlone_26 rfl (lv_at hl 2 rfl) ?_
        refine lv_ishl hx hb dX4_leaveAlone_27 ?_
        refine lv_topi (fun v40 ev40 => ?_)
        refine lv_goto (tgt := 32) hx hb dX4_leaveAlone_28 (by decide) ?_
        exact K32 _ _ _ ⟨F9, _, v40, z36, rfl, lv_sub hl [0, 1, 2, 3, 4] rfl, hI, hP, hS, hfr, trivial, h37, ⟨by omega, by omega⟩⟩
  · intro g H locs hq
    obtain ⟨F9, ls, w3, w4, rfl, hl, hI, hP, hS, hfr, h41, h42, h43⟩ := hq
    refine lv_aload_n hx hb dX4_leaveAlone_32 rfl (lv_at hl 0 rfl) ?_
    obtain ⟨z44, z46, z48, z50, z52, z54, z56, z58, z60, z61, z62, z64, z65, z67, z68, o70, h45, h47, h49, h51, h53, h55, h57, h59, h63, h66, h69, -⟩ := s_op5 hI ha0
    refine th_get (D := (dC, dI)) (ci := 4) (v := .int z60) (C := RX4) (T := TX4) (N := 15) hx hb hts inX4 hown hK hP (hLK _ ha0 (by decide)) o70 rfl 8 (by decide) (hts _ T_838) (fun _ h9 => h9) rfl dX4_leaveAlone_33 ?_
    refine lv_iload_n hx hb dX4_leaveAlone_36 rfl (lv_at hl 3 rfl) ?_
    obtain ⟨z71, z73, z75, z77, z79, z81, z83, z84, z85, z86, z87, o89, h72, h74, h76, h78, h80, h82, h88, -⟩ := s_op6 hI h42
    refine va_callv (va_runV (As := [.int w3, .int z60, .int x3]) (rest := []) ⟨hx, hb, hml, hown, hts⟩ (s_X5_restart l dC dI H.size hLK D F9 w4 w3 z60 x3 h42 hI) (cwV 3 hts (ax_gV T_864 T_866 T_867 T_116 T_865) rfl rfl rfl (by decide +kernel) ⟨Nat.le_of_ble_eq_true rfl, Nat.le_of_ble_eq_true rfl⟩) ⟨fun a U g mk q => ⟨q.1, s_pc (U := U) rfl rfl q.2⟩, s_recv hK hP (hLK _ h42 (by decide)) (ci := 5) rfl o89, fun U hU hW => ⟨rfl, s_pw hU hW hP hK hD hN⟩⟩ rfl rfl hl.1 rfl (lv_room (Nat.le_of_ble_eq_true rfl)) dX4_leaveAlone_37 ⟨Nat.zero_le _, Nat.zero_le _⟩) hS (fun q _ h => h) (fun q h => h) (fun F90 t H1 locs ht hvm hw hB hz1 hk1 hS => ?_)
    obtain ⟨hP, hK1⟩ := hB
    rw [ht] at hP
    generalize H1 = H at hP hS ⊢
    clear hz1 hk1
    obtain ⟨h91, h92, hI, hfr1⟩ := hw
    have o93 : F90 a0 = .inr (4, [.ref z44, .ref z46, .ref z48, .ref z50, .ref z52, .ref z54, .ref z56, .int z58, .int z60, .int z61, .int z62, .int z64, .int z65, .int z67, .int z68]) := (hfr1 _ (by rw [ha0]; decide)).trans o70
    have hfr : ∀ b, K b ∉ [6, 30, 31, 32] → F90 b = F b := fun b hb9 => (hfr1 b (fun q => hb9 (s_sub (by decide) q))).trans (hfr b hb9)
    obtain ⟨v94, ev94⟩ : ∃ y : Int32, w1 + 1 = y := ⟨_, rfl⟩
    have qv94 : v94.toInt = w1.toInt + 1 := by rw [← ev94]; exact th_add rfl (by decide) ⟨by omega, by omega⟩
    refine lv_iinc (v := v94) (lv' := [(4, .int v94), (0, .ref a0), (1, .int x1), (2, .int x2), (3, .int x3)]) hx hb dX4_leaveAlone_40 hl (k := 4) rfl ev94 (by decide) rfl (fun ls hl => ?_)
    refine lv_goto (tgt := 3) hx hb dX4_leaveAlone_43 (by decide) ?_
    exact ih3 _ _ _ _ (by omega) ⟨F90, _, v94, rfl, lv_sub hl [1, 2, 3, 4, 0] rfl, hI, hP, hS, hfr, ⟨by omega, by omega⟩, rfl⟩

set_option maxHeartbeats 4000000 in
set_option maxRecDepth 100000 in
theorem s_X4_copyFrom (l : Launch) (dC : Nat → ClassId) (dI : Nat → Nat → Nat) (sz : Nat) {L : List Nat} {K : Nat → Nat} {cs : Nat → ClassId} (hLK : ∀ a {k : Nat}, K a = k → k ≠ 0 → a ∈ L) (D : Nat) (F : Nat → va_E) (a0 : Nat) (a1 : Nat) (ha0 : K a0 = 5) (ha1 : K a1 = 5) (hI : s_I K cs D F) : Met l yX4_copyFrom (Cond.code yX4_copyFrom cX4_copyFrom 3 none :: T0) ({ frames := 2, cells := 0, slots := 0, locals := 81 }) (va_Pc [.ref a0, .ref a1] (s_W dC dI sz L F [(cs 0, .int), (cs 1, .byte), (cs 2, .long), (cs 3, .object RX5), (cs 4, .object RX4), (cs 5, .array .int), (cs 6, .char), (cs 7, .boolean)])) (va_Qv (fun (G : Nat → va_E) => True ∧ True ∧ s_I K cs D G ∧ ∀ b, K b ∉ [5, 6, 24, 27, 28, 29, 30, 31, 32] → G b = F b) (fun (G : Nat → va_E) (t : State) => va_P (dC, dI) vwCl (va_pl L G) t.heap ∧ va_K (dC, dI) vwCl [(cs 0, .int), (cs 1, .byte), (cs 2, .long), (cs 3, .object RX5), (cs 4, .object RX4), (cs 5, .array .int), (cs 6, .char), (cs 7, .boolean)] t) (fun q => q ∈ L)) 0 0 (fun q => q ∈ L) := by
  refine Met.ofW (cc := cX4_copyFrom) (maxL := 3) (ret := none) (by decide) rfl ?_
  intro p e s m args below meth c s₁ B hml hv
  obtain ⟨rfl, hsz, hP, hK, hD, hN⟩ := hv
  have hx := B.exec
  have hb := B.bytes
  have hr := B.returns
  have hts : ∀ w ∈ T0, w.before _ s = true := fun w h => atoms_spec (ws := Cond.code yX4_copyFrom cX4_copyFrom 3 none :: T0) B.pre w (List.mem_cons_of_mem _ h)
  have hown : s.vm.findClass RX4 = some m.cls := findClass_of_methodNamed B.named
  have hlocks := B.notSynchronized
  have hS : va_S (fun q => q ∈ L) s.heap s.heap [] := va_S.rf
  have hfr : ∀ b, K b ∉ [5, 6, 24, 27, 28, 29, 30, 31, 32] → F b = F b := fun _ _ => rfl
  have hl := lv_entry ([.ref a0, .ref a1]) (n := 3) (Nat.le_of_ble_eq_true rfl)
  rw [lg_entry_eq]
  generalize (lg_sl ([.ref a0, .ref a1]) ++ List.replicate (3 - (lg_sl ([.ref a0, .ref a1])).length) Slot.unset).toArray = ls at hl ⊢
  have hl : lv_has ls 3 [(0, .ref a0), (1, .ref a1)] := hl
  refine s_gen hP hS (fun H locs hP hS => ?_)
  refine lv_aload_n hx hb dX4_copyFrom_0 rfl (lv_at hl 0 rfl) ?_
  refine lv_aload_n hx hb dX4_copyFrom_1 rfl (lv_at hl 1 rfl) ?_
  obtain ⟨z1, z3, z5, z7, z9, z11, z13, z15, z17, z18, z19, z21, z22, z24, z25, o27, h2, h4, h6, h8, h10, h12, h14, h16, h20, h23, h26, -⟩ := s_op5 hI ha1
  refine th_get (D := (dC, dI)) (ci := 4) (v := .int z15) (C := RX4) (T := TX4) (N := 15) hx hb hts inX4 hown hK hP (hLK _ ha1 (by decide)) o27 rfl 7 (by decide) (hts _ T_840) (fun _ h9 => h9) rfl dX4_copyFrom_2 ?_
  obtain ⟨z28, z30, z32, z34, z36, z38, z40, z42, z44, z45, z46, z48, z49, z51, z52, o54, h29, h31, h33, h35, h37, h39, h41, h43, h47, h50, h53, -⟩ := s_op5 hI ha0
  refine th_put (D := (dC, dI)) (ci := 4) (v := .int z15) (ty := .int) (C := RX4) (T := TX4) (N := 15) hx hb hts inX4 tyX4 tyX4_ok nmX4 hown hK hP hD hS (hLK _ ha0 (by decide)) o54 rfl 7 (by decide) (hts _ T_840) (fun _ h9 => h9) rfl (by decide +kernel) rfl rfl (Nat.le_of_ble_eq_true rfl) dX4_copyFrom_5 (fun H locs hP hS => ?_)
  have hP : va_P (dC, dI) vwCl (va_pl L (va_up F a0 (.inr (4, [.ref z28, .ref z30, .ref z32, .ref z34, .ref z36, .ref z38, .ref z40, .int z15, .int z44, .int z45, .int z46, .int z48, .int z49, .int z51, .int z52])))) H := hP
  obtain ⟨F55, hF56⟩ : ∃ G : Nat → va_E, G = va_up F a0 (.inr (4, [.ref z28, .ref z30, .ref z32, .ref z34, .ref z36, .ref z38, .ref z40, .int z15, .int z44, .int z45, .int z46, .int z48, .int z49, .int z51, .int z52])) := ⟨_, rfl⟩
  rw [← hF56] at hP
  have hI : s_I K cs D F55 := by rw [hF56]; exact s_cl5 hI ha0 ⟨z28, z30, z32, z34, z36, z38, z40, z15, z44, z45, z46, z48, z49, z51, z52, rfl, h29, h31, h33, h35, h37, h39, h41, ⟨by omega, by omega⟩, ⟨by omega, by omega⟩, ⟨by omega, by omega⟩, ⟨by omega, by omega⟩, trivial⟩
  have hfr : ∀ b, K b ∉ [5, 6, 24, 27, 28, 29, 30, 31, 32] → F55 b = F b := by rw [hF56]; exact s_fr hfr ha0 (by decide)
  have o57 : F55 a0 = .inr (4, [.ref z28, .ref z30, .ref z32, .ref z34, .ref z36, .ref z38, .ref z40, .int z15, .int z44, .int z45, .int z46, .int z48, .int z49, .int z51, .int z52]) := by rw [hF56]; exact th_up
  refine lv_aload_n hx hb dX4_copyFrom_8 rfl (lv_at hl 0 rfl) ?_
  refine lv_aload_n hx hb dX4_copyFrom_9 rfl (lv_at hl 1 rfl) ?_
  obtain ⟨z58, z60, z62, z64, z66, z68, z70, z72, z74, z75, z76, z78, z79, z81, z82, o84, h59, h61, h63, h65, h67, h69, h71, h73, h77, h80, h83, -⟩ := s_op5 hI ha1
  refine th_get (D := (dC, dI)) (ci := 4) (v := .int z74) (C := RX4) (T := TX4) (N := 15) hx hb hts inX4 hown hK hP (hLK _ ha1 (by decide)) o84 rfl 8 (by decide) (hts _ T_838) (fun _ h9 => h9) rfl dX4_copyFrom_10 ?_
  refine lv_aload_n hx hb dX4_copyFrom_13 rfl (lv_at hl 1 rfl) ?_
  refine th_get (D := (dC, dI)) (ci := 4) (v := .int z75) (C := RX4) (T := TX4) (N := 15) hx hb hts inX4 hown hK hP (hLK _ ha1 (by decide)) o84 rfl 9 (by decide) (hts _ T_841) (fun _ h9 => h9) rfl dX4_copyFrom_14 ?_
  refine lv_aload_n hx hb dX4_copyFrom_17 rfl (lv_at hl 1 rfl) ?_
  refine th_get (D := (dC, dI)) (ci := 4) (v := .int z76) (C := RX4) (T := TX4) (N := 15) hx hb hts inX4 hown hK hP (hLK _ ha1 (by decide)) o84 rfl 10 (by decide) (hts _ T_842) (fun _ h9 => h9) rfl dX4_copyFrom_18 ?_
  refine va_callv (va_runV (As := [.int z74, .int z75, .int z76]) (rest := []) ⟨hx, hb, hml, hown, hts⟩ (s_X4_lay l dC dI H.size hLK D F55 a0 z74 z75 z76 ha0 (⟨by omega, by omega⟩) hI) (cwV 3 hts (ax_gV T_843 T_552 T_553 T_142 T_551) rfl rfl rfl (by decide +kernel) ⟨Nat.le_of_ble_eq_true rfl, Nat.le_of_ble_eq_true rfl⟩) ⟨fun a U g mk q => ⟨q.1, s_pc (U := U) rfl rfl q.2⟩, s_recv hK hP (hLK _ ha0 (by decide)) (ci := 4) rfl o57, fun U hU hW => ⟨rfl, s_pw hU hW hP hK hD hN⟩⟩ rfl rfl hl.1 rfl (lv_room (Nat.le_of_ble_eq_true rfl)) dX4_copyFrom_21 ⟨Nat.zero_le _, Nat.zero_le _⟩) hS (fun q _ h => h) (fun q h => h) (fun F85 t H1 locs ht hvm hw hB hz1 hk1 hS => ?_)
  obtain ⟨hP, hK1⟩ := hB
  rw [ht] at hP
  generalize H1 = H at hP hS ⊢
  clear hz1 hk1
  obtain ⟨h86, h87, hI, hfr1⟩ := hw
  have hfr : ∀ b, K b ∉ [5, 6, 24, 27, 28, 29, 30, 31, 32] → F85 b = F b := fun b hb9 => (hfr1 b (fun q => hb9 (s_sub (by decide) q))).trans (hfr b hb9)
  refine lv_aload_n hx hb dX4_copyFrom_24 rfl (lv_at hl 0 rfl) ?_
  refine lv_aload_n hx hb dX4_copyFrom_25 rfl (lv_at hl 1 rfl) ?_
  obtain ⟨z88, z90, z92, z94, z96, z98, z100, z102, z104, z105, z106, z108, z109, z111, z112, o114, h89, h91, h93, h95, h97, h99, h101, h103, h107, h110, h113, -⟩ := s_op5 hI ha1
  refine th_get (D := (dC, dI)) (ci := 4) (v := .int z108) (C := RX4) (T := TX4) (N := 15) hx hb hts inX4 hown hK hP (hLK _ ha1 (by decide)) o114 rfl 11 (by decide) (hts _ T_837) (fun _ h9 => h9) rfl dX4_copyFrom_26 ?_
  obtain ⟨z115, z117, z119, z121, z123, z125, z127, z129, z131, z132, z133, z135, z136, z138, z139, o141, h116, h118, h120, h122, h124, h126, h128, h130, h134, h137, h140, -⟩ := s_op5 hI ha0
  refine th_put (D := (dC, dI)) (ci := 4) (v := .int z108) (ty := .int) (C := RX4) (T := TX4) (N := 15) hx hb hts inX4 tyX4 tyX4_ok nmX4 hown hK hP hD hS (hLK _ ha0 (by decide)) o141 rfl 11 (by decide) (hts _ T_837) (fun _ h9 => h9) rfl (by decide +kernel) rfl rfl (Nat.le_of_ble_eq_true rfl) dX4_copyFrom_29 (fun H locs hP hS => ?_)
  have hP : va_P (dC, dI) vwCl (va_pl L (va_up F85 a0 (.inr (4, [.ref z115, .ref z117, .ref z119, .ref z121, .ref z123, .ref z125, .ref z127, .int z129, .int z131, .int z132, .int z133, .int z108, .int z136, .int z138, .int z139])))) H := hP
  obtain ⟨F142, hF143⟩ : ∃ G : Nat → va_E, G = va_up F85 a0 (.inr (4, [.ref z115, .ref z117, .ref z119, .ref z121, .ref z123, .ref z125, .ref z127, .int z129, .int z131, .int z132, .int z133, .int z108, .int z136, .int z138, .int z139])) := ⟨_, rfl⟩
  rw [← hF143] at hP
  have hI : s_I K cs D F142 := by rw [hF143]; exact s_cl5 hI ha0 ⟨z115, z117, z119, z121, z123, z125, z127, z129, z131, z132, z133, z108, z136, z138, z139, rfl, h116, h118, h120, h122, h124, h126, h128, ⟨by omega, by omega⟩, ⟨by omega, by omega⟩, ⟨by omega, by omega⟩, ⟨by omega, by omega⟩, trivial⟩
  have hfr : ∀ b, K b ∉ [5, 6, 24, 27, 28, 29, 30, 31, 32] → F142 b = F b := by rw [hF143]; exact s_fr hfr ha0 (by decide)
  have o144 : F142 a0 = .inr (4, [.ref z115, .ref z117, .ref z119, .ref z121, .ref z123, .ref z125, .ref z127, .int z129, .int z131, .int z132, .int z133, .int z108, .int z136, .int z138, .int z139]) := by rw [hF143]; exact th_up
  refine lv_aload_n hx hb dX4_copyFrom_32 rfl (lv_at hl 0 rfl) ?_
  refine lv_aload_n hx hb dX4_copyFrom_33 rfl (lv_at hl 1 rfl) ?_
  obtain ⟨z145, z147, z149, z151, z153, z155, z157, z159, z161, z162, z163, z165, z166, z168, z169, o171, h146, h148, h150, h152, h154, h156, h158, h160, h164, h167, h170, -⟩ := s_op5 hI ha1
  refine th_get (D := (dC, dI)) (ci := 4) (v := .int z166) (C := RX4) (T := TX4) (N := 15) hx hb hts inX4 hown hK hP (hLK _ ha1 (by decide)) o171 rfl 12 (by decide) (hts _ T_844) (fun _ h9 => h9) rfl dX4_copyFrom_34 ?_
  refine th_put (D := (dC, dI)) (ci := 4) (v := .int z166) (ty := .int) (C := RX4) (T := TX4) (N := 15) hx hb hts inX4 tyX4 tyX4_ok nmX4 hown hK hP hD hS (hLK _ ha0 (by decide)) o144 rfl 12 (by decide) (hts _ T_844) (fun _ h9 => h9) rfl (by decide +kernel) rfl rfl (Nat.le_of_ble_eq_true rfl) dX4_copyFrom_37 (fun H locs hP hS => ?_)
  have hP : va_P (dC, dI) vwCl (va_pl L (va_up F142 a0 (.inr (4, [.ref z115, .ref z117, .ref z119, .ref z121, .ref z123, .ref z125, .ref z127, .int z129, .int z131, .int z132, .int z133, .int z108, .int z166, .int z138, .int z139])))) H := hP
  obtain ⟨F172, hF173⟩ : ∃ G : Nat → va_E, G = va_up F142 a0 (.inr (4, [.ref z115, .ref z117, .ref z119, .ref z121, .ref z123, .ref z125, .ref z127, .int z129, .int z131, .int z132, .int z133, .int z108, .int z166, .int z138, .int z139])) := ⟨_, rfl⟩
  rw [← hF173] at hP
  have hI : s_I K cs D F172 := by rw [hF173]; exact s_cl5 hI ha0 ⟨z115, z117, z119, z121, z123, z125, z127, z129, z131, z132, z133, z108, z166, z138, z139, rfl, h116, h118, h120, h122, h124, h126, h128, ⟨by omega, by omega⟩, ⟨by omega, by omega⟩, ⟨by omega, by omega⟩, ⟨by omega, by omega⟩, trivial⟩
  have hfr : ∀ b, K b ∉ [5, 6, 24, 27, 28, 29, 30, 31, 32] → F172 b = F b := by rw [hF173]; exact s_fr hfr ha0 (by decide)
  have o174 : F172 a0 = .inr (4, [.ref z115, .ref z117, .ref z119, .ref z121, .ref z123, .ref z125, .ref z127, .int z129, .int z131, .int z132, .int z133, .int z108, .int z166, .int z138, .int z139]) := by rw [hF173]; exact th_up
  refine lv_aload_n hx hb dX4_copyFrom_40 rfl (lv_at hl 0 rfl) ?_
  refine lv_aload_n hx hb dX4_copyFrom_41 rfl (lv_at hl 1 rfl) ?_
  obtain ⟨z175, z177, z179, z181, z183, z185, z187, z189, z191, z192, z193, z195, z196, z198, z199, o201, h176, h178, h180, h182, h184, h186, h188, h190, h194, h197, h200, -⟩ := s_op5 hI ha1
  refine th_get (D := (dC, dI)) (ci := 4) (v := .int z198) (C := RX4) (T := TX4) (N := 15) hx hb hts inX4 hown hK hP (hLK _ ha1 (by decide)) o201 rfl 13 (by decide) (hts _ T_845) (fun _ h9 => h9) rfl dX4_copyFrom_42 ?_
  refine th_put (D := (dC, dI)) (ci := 4) (v := .int z198) (ty := .int) (C := RX4) (T := TX4) (N := 15) hx hb hts inX4 tyX4 tyX4_ok nmX4 hown hK hP hD hS (hLK _ ha0 (by decide)) o174 rfl 13 (by decide) (hts _ T_845) (fun _ h9 => h9) rfl (by decide +kernel) rfl rfl (Nat.le_of_ble_eq_true rfl) dX4_copyFrom_45 (fun H locs hP hS => ?_)
  have hP : va_P (dC, dI) vwCl (va_pl L (va_up F172 a0 (.inr (4, [.ref z115, .ref z117, .ref z119, .ref z121, .ref z123, .ref z125, .ref z127, .int z129, .int z131, .int z132, .int z133, .int z108, .int z166, .int z198, .int z139])))) H := hP
  obtain ⟨F202, hF203⟩ : ∃ G : Nat → va_E, G = va_up F172 a0 (.inr (4, [.ref z115, .ref z117, .ref z119, .ref z121, .ref z123, .ref z125, .ref z127, .int z129, .int z131, .int z132, .int z133, .int z108, .int z166, .int z198, .int z139])) := ⟨_, rfl⟩
  rw [← hF203] at hP
  have hI : s_I K cs D F202 := by rw [hF203]; exact s_cl5 hI ha0 ⟨z115, z117, z119, z121, z123, z125, z127, z129, z131, z132, z133, z108, z166, z198, z139, rfl, h116, h118, h120, h122, h124, h126, h128, ⟨by omega, by omega⟩, ⟨by omega, by omega⟩, ⟨by omega, by omega⟩, ⟨by omega, by omega⟩, trivial⟩
  have hfr : ∀ b, K b ∉ [5, 6, 24, 27, 28, 29, 30, 31, 32] → F202 b = F b := by rw [hF203]; exact s_fr hfr ha0 (by decide)
  have o204 : F202 a0 = .inr (4, [.ref z115, .ref z117, .ref z119, .ref z121, .ref z123, .ref z125, .ref z127, .int z129, .int z131, .int z132, .int z133, .int z108, .int z166, .int z198, .int z139]) := by rw [hF203]; exact th_up
  refine lv_aload_n hx hb dX4_copyFrom_48 rfl (lv_at hl 0 rfl) ?_
  refine lv_aload_n hx hb dX4_copyFrom_49 rfl (lv_at hl 1 rfl) ?_
  obtain ⟨z205, z207, z209, z211, z213, z215, z217, z219, z221, z222, z223, z225, z226, z228, z229, o231, h206, h208, h210, h212, h214, h216, h218, h220, h224, h227, h230, -⟩ := s_op5 hI ha1
  refine th_get (D := (dC, dI)) (ci := 4) (v := .int z229) (C := RX4) (T := TX4) (N := 15) hx hb hts inX4 hown hK hP (hLK _ ha1 (by decide)) o231 rfl 14 (by decide) (hts _ T_114) (fun _ h9 => h9) rfl dX4_copyFrom_50 ?_
  refine th_put (D := (dC, dI)) (ci := 4) (v := .int z229) (ty := .int) (C := RX4) (T := TX4) (N := 15) hx hb hts inX4 tyX4 tyX4_ok nmX4 hown hK hP hD hS (hLK _ ha0 (by decide)) o204 rfl 14 (by decide) (hts _ T_114) (fun _ h9 => h9) rfl (by decide +kernel) rfl rfl (Nat.le_of_ble_eq_true rfl) dX4_copyFrom_53 (fun H locs hP hS => ?_)
  have hP : va_P (dC, dI) vwCl (va_pl L (va_up F202 a0 (.inr (4, [.ref z115, .ref z117, .ref z119, .ref z121, .ref z123, .ref z125, .ref z127, .int z129, .int z131, .int z132, .int z133, .int z108, .int z166, .int z198, .int z229])))) H := hP
  obtain ⟨F232, hF233⟩ : ∃ G : Nat → va_E, G = va_up F202 a0 (.inr (4, [.ref z115, .ref z117, .ref z119, .ref z121, .ref z123, .ref z125, .ref z127, .int z129, .int z131, .int z132, .int z133, .int z108, .int z166, .int z198, .int z229])) := ⟨_, rfl⟩
  rw [← hF233] at hP
  have hI : s_I K cs D F232 := by rw [hF233]; exact s_cl5 hI ha0 ⟨z115, z117, z119, z121, z123, z125, z127, z129, z131, z132, z133, z108, z166, z198, z229, rfl, h116, h118, h120, h122, h124, h126, h128, ⟨by omega, by omega⟩, ⟨by omega, by omega⟩, ⟨by omega, by omega⟩, ⟨by omega, by omega⟩, trivial⟩
  have hfr : ∀ b, K b ∉ [5, 6, 24, 27, 28, 29, 30, 31, 32] → F232 b = F b := by rw [hF233]; exact s_fr hfr ha0 (by decide)
  have o234 : F232 a0 = .inr (4, [.ref z115, .ref z117, .ref z119, .ref z121, .ref z123, .ref z125, .ref z127, .int z129, .int z131, .int z132, .int z133, .int z108, .int z166, .int z198, .int z229]) := by rw [hF233]; exact th_up
  refine lv_aload_n hx hb dX4_copyFrom_56 rfl (lv_at hl 1 rfl) ?_
  obtain ⟨z235, z237, z239, z241, z243, z245, z247, z249, z251, z252, z253, z255, z256, z258, z259, o261, h236, h238, h240, h242, h244, h246, h248, h250, h254, h257, h260, -⟩ := s_op5 hI ha1
  refine th_get (D := (dC, dI)) (ci := 4) (v := .ref z237) (C := RX4) (T := TX4) (N := 15) hx hb hts inX4 hown hK hP (hLK _ ha1 (by decide)) o261 rfl 1 (by decide) (hts _ T_108) (fun _ h9 => h9) rfl dX4_copyFrom_57 ?_
  refine lv_iconst (v := 0) hx hb dX4_copyFrom_60 (by decide) ?_
  refine lv_aload_n hx hb dX4_copyFrom_61 rfl (lv_at hl 0 rfl) ?_
  refine th_get (D := (dC, dI)) (ci := 4) (v := .ref z117) (C := RX4) (T := TX4) (N := 15) hx hb hts inX4 hown hK hP (hLK _ ha0 (by decide)) o234 rfl 1 (by decide) (hts _ T_108) (fun _ h9 => h9) rfl dX4_copyFrom_62 ?_
  refine lv_iconst (v := 0) hx hb dX4_copyFrom_65 (by decide) ?_
  refine lv_bipush (v := 64) hx hb dX4_copyFrom_66 (by decide) ?_
  obtain ⟨f262, o263, h264⟩ := s_op24 hI h238
  obtain ⟨f265, o266, h267⟩ := s_op24 hI h118
  refine th_copy hx hb (by rw [hml]; exact hl.1.symm) hown (hts _ T_846) (hts _ T_847) (hts _ T_848) (hts _ T_849) hK hP hD hS (hLK _ h238 (by decide)) (hLK _ h118 (by decide)) 0 0 o263 o266 rfl rfl (by decide) (by decide) (by decide) (by decide) (by decide) (fun i _ => rfl) (Nat.le_of_ble_eq_true rfl) (Nat.le_of_ble_eq_true rfl) dX4_copyFrom_68 (fun H locs hP hS => ?_)
  have hP : va_P (dC, dI) vwCl (va_pl L (va_up F232 z117 (.inl (cs 0, 64, .inl (va_cpy f262 f265 (0 : Int32).toNatClampNeg (0 : Int32).toNatClampNeg (64 : Int32).toNatClampNeg))))) H := hP
  obtain ⟨F268, hF269⟩ : ∃ G : Nat → va_E, G = va_up F232 z117 (.inl (cs 0, 64, .inl (va_cpy f262 f265 (0 : Int32).toNatClampNeg (0 : Int32).toNatClampNeg (64 : Int32).toNatClampNeg))) := ⟨_, rfl⟩
  rw [← hF269] at hP
  have hI : s_I K cs D F268 := by rw [hF269]; exact s_cl24 hI h118 ⟨_, rfl, trivial⟩
  have hfr : ∀ b, K b ∉ [5, 6, 24, 27, 28, 29, 30, 31, 32] → F268 b = F b := by rw [hF269]; exact s_fr hfr h118 (by decide)
  have o270 : F268 a0 = .inr (4, [.ref z115, .ref z117, .ref z119, .ref z121, .ref z123, .ref z125, .ref z127, .int z129, .int z131, .int z132, .int z133, .int z108, .int z166, .int z198, .int z229]) := by rw [hF269]; exact th_ne (th_kd ha0 h118 (by decide)) o234
  have o271 : F268 a1 = .inr (4, [.ref z235, .ref z237, .ref z239, .ref z241, .ref z243, .ref z245, .ref z247, .int z249, .int z251, .int z252, .int z253, .int z255, .int z256, .int z258, .int z259]) := by rw [hF269]; exact th_ne (th_kd ha1 h118 (by decide)) o261
  refine lv_aload_n hx hb dX4_copyFrom_71 rfl (lv_at hl 1 rfl) ?_
  refine th_get (D := (dC, dI)) (ci := 4) (v := .ref z239) (C := RX4) (T := TX4) (N := 15) hx hb hts inX4 hown hK hP (hLK _ ha1 (by decide)) o271 rfl 2 (by decide) (hts _ T_109) (fun _ h9 => h9) rfl dX4_copyFrom_72 ?_
  refine lv_iconst (v := 0) hx hb dX4_copyFrom_75 (by decide) ?_
  refine lv_aload_n hx hb dX4_copyFrom_76 rfl (lv_at hl 0 rfl) ?_
  refine th_get (D := (dC, dI)) (ci := 4) (v := .ref z119) (C := RX4) (T := TX4) (N := 15) hx hb hts inX4 hown hK hP (hLK _ ha0 (by decide)) o270 rfl 2 (by decide) (hts _ T_109) (fun _ h9 => h9) rfl dX4_copyFrom_77 ?_
  refine lv_iconst (v := 0) hx hb dX4_copyFrom_80 (by decide) ?_
  refine lv_bipush (v := 32) hx hb dX4_copyFrom_81 (by decide) ?_
  obtain ⟨f272, o273, h274⟩ := s_op27 hI h240
  obtain ⟨f275, o276, h277⟩ := s_op27 hI h120
  refine th_copy hx hb (by rw [hml]; exact hl.1.symm) hown (hts _ T_846) (hts _ T_847) (hts _ T_848) (hts _ T_849) hK hP hD hS (hLK _ h240 (by decide)) (hLK _ h120 (by decide)) 0 0 o273 o276 rfl rfl (by decide) (by decide) (by decide) (by decide) (by decide) (fun i _ => rfl) (Nat.le_of_ble_eq_true rfl) (Nat.le_of_ble_eq_true rfl) dX4_copyFrom_83 (fun H locs hP hS => ?_)
  have hP : va_P (dC, dI) vwCl (va_pl L (va_up F268 z119 (.inl (cs 0, 32, .inl (va_cpy f272 f275 (0 : Int32).toNatClampNeg (0 : Int32).toNatClampNeg (32 : Int32).toNatClampNeg))))) H := hP
  obtain ⟨F278, hF279⟩ : ∃ G : Nat → va_E, G = va_up F268 z119 (.inl (cs 0, 32, .inl (va_cpy f272 f275 (0 : Int32).toNatClampNeg (0 : Int32).toNatClampNeg (32 : Int32).toNatClampNeg))) := ⟨_, rfl⟩
  rw [← hF279] at hP
  have hI : s_I K cs D F278 := by rw [hF279]; exact s_cl27 hI h120 ⟨_, rfl, trivial⟩
  have hfr : ∀ b, K b ∉ [5, 6, 24, 27, 28, 29, 30, 31, 32] → F278 b = F b := by rw [hF279]; exact s_fr hfr h120 (by decide)
  have o280 : F278 a0 = .inr (4, [.ref z115, .ref z117, .ref z119, .ref z121, .ref z123, .ref z125, .ref z127, .int z129, .int z131, .int z132, .int z133, .int z108, .int z166, .int z198, .int z229]) := by rw [hF279]; exact th_ne (th_kd ha0 h120 (by decide)) o270
  have o281 : F278 a1 = .inr (4, [.ref z235, .ref z237, .ref z239, .ref z241, .ref z243, .ref z245, .ref z247, .int z249, .int z251, .int z252, .int z253, .int z255, .int z256, .int z258, .int z259]) := by rw [hF279]; exact th_ne (th_kd ha1 h120 (by decide)) o271
  refine lv_aload_n hx hb dX4_copyFrom_86 rfl (lv_at hl 1 rfl) ?_
  refine th_get (D := (dC, dI)) (ci := 4) (v := .ref z241) (C := RX4) (T := TX4) (N := 15) hx hb hts inX4 hown hK hP (hLK _ ha1 (by decide)) o281 rfl 3 (by decide) (hts _ T_110) (fun _ h9 => h9) rfl dX4_copyFrom_87 ?_
  refine lv_iconst (v := 0) hx hb dX4_copyFrom_90 (by decide) ?_
  refine lv_aload_n hx hb dX4_copyFrom_91 rfl (lv_at hl 0 rfl) ?_
  refine th_get (D := (dC, dI)) (ci := 4) (v := .ref z121) (C := RX4) (T := TX4) (N := 15) hx hb hts inX4 hown hK hP (hLK _ ha0 (by decide)) o280 rfl 3 (by decide) (hts _ T_110) (fun _ h9 => h9) rfl dX4_copyFrom_92 ?_
  refine lv_iconst (v := 0) hx hb dX4_copyFrom_95 (by decide) ?_
  refine lv_aload_n hx hb dX4_copyFrom_96 rfl (lv_at hl 0 rfl) ?_
  refine th_get (D := (dC, dI)) (ci := 4) (v := .ref z121) (C := RX4) (T := TX4) (N := 15) hx hb hts inX4 hown hK hP (hLK _ ha0 (by decide)) o280 rfl 3 (by decide) (hts _ T_110) (fun _ h9 => h9) rfl dX4_copyFrom_97 ?_
  obtain ⟨f282, o283, h284⟩ := s_op28 hI h122
  refine th_alen hx hb hK hP (hLK _ h122 (by decide)) 0 o283 rfl (v := 96) rfl dX4_copyFrom_100 ?_
  obtain ⟨f285, o286, h287⟩ := s_op28 hI h242
  obtain ⟨f288, o289, h290⟩ := s_op28 hI h122
  refine th_copy hx hb (by rw [hml]; exact hl.1.symm) hown (hts _ T_846) (hts _ T_847) (hts _ T_848) (hts _ T_849) hK hP hD hS (hLK _ h242 (by decide)) (hLK _ h122 (by decide)) 0 0 o286 o289 rfl rfl (by decide) (by decide) (by decide) (by decide) (by decide) (fun i _ => rfl) (Nat.le_of_ble_eq_true rfl) (Nat.le_of_ble_eq_true rfl) dX4_copyFrom_101 (fun H locs hP hS => ?_)
  have hP : va_P (dC, dI) vwCl (va_pl L (va_up F278 z121 (.inl (cs 0, 96, .inl (va_cpy f285 f288 (0 : Int32).toNatClampNeg (0 : Int32).toNatClampNeg (96 : Int32).toNatClampNeg))))) H := hP
  obtain ⟨F291, hF292⟩ : ∃ G : Nat → va_E, G = va_up F278 z121 (.inl (cs 0, 96, .inl (va_cpy f285 f288 (0 : Int32).toNatClampNeg (0 : Int32).toNatClampNeg (96 : Int32).toNatClampNeg))) := ⟨_, rfl⟩
  rw [← hF292] at hP
  have hI : s_I K cs D F291 := by rw [hF292]; exact s_cl28 hI h122 ⟨_, rfl, trivial⟩
  have hfr : ∀ b, K b ∉ [5, 6, 24, 27, 28, 29, 30, 31, 32] → F291 b = F b := by rw [hF292]; exact s_fr hfr h122 (by decide)
  have o293 : F291 a0 = .inr (4, [.ref z115, .ref z117, .ref z119, .ref z121, .ref z123, .ref z125, .ref z127, .int z129, .int z131, .int z132, .int z133, .int z108, .int z166, .int z198, .int z229]) := by rw [hF292]; exact th_ne (th_kd ha0 h122 (by decide)) o280
  have o294 : F291 a1 = .inr (4, [.ref z235, .ref z237, .ref z239, .ref z241, .ref z243, .ref z245, .ref z247, .int z249, .int z251, .int z252, .int z253, .int z255, .int z256, .int z258, .int z259]) := by rw [hF292]; exact th_ne (th_kd ha1 h122 (by decide)) o281
  refine lv_aload_n hx hb dX4_copyFrom_104 rfl (lv_at hl 1 rfl) ?_
  refine th_get (D := (dC, dI)) (ci := 4) (v := .ref z243) (C := RX4) (T := TX4) (N := 15) hx hb hts inX4 hown hK hP (hLK _ ha1 (by decide)) o294 rfl 4 (by decide) (hts _ T_111) (fun _ h9 => h9) rfl dX4_copyFrom_105 ?_
  refine lv_iconst (v := 0) hx hb dX4_copyFrom_108 (by decide) ?_
  refine lv_aload_n hx hb dX4_copyFrom_109 rfl (lv_at hl 0 rfl) ?_
  refine th_get (D := (dC, dI)) (ci := 4) (v := .ref z123) (C := RX4) (T := TX4) (N := 15) hx hb hts inX4 hown hK hP (hLK _ ha0 (by decide)) o293 rfl 4 (by decide) (hts _ T_111) (fun _ h9 => h9) rfl dX4_copyFrom_110 ?_
  refine lv_iconst (v := 0) hx hb dX4_copyFrom_113 (by decide) ?_
  refine lv_aload_n hx hb dX4_copyFrom_114 rfl (lv_at hl 0 rfl) ?_
  refine th_get (D := (dC, dI)) (ci := 4) (v := .ref z123) (C := RX4) (T := TX4) (N := 15) hx hb hts inX4 hown hK hP (hLK _ ha0 (by decide)) o293 rfl 4 (by decide) (hts _ T_111) (fun _ h9 => h9) rfl dX4_copyFrom_115 ?_
  obtain ⟨f295, o296, h297⟩ := s_op28 hI h124
  refine th_alen hx hb hK hP (hLK _ h124 (by decide)) 0 o296 rfl (v := 96) rfl dX4_copyFrom_118 ?_
  obtain ⟨f298, o299, h300⟩ := s_op28 hI h244
  obtain ⟨f301, o302, h303⟩ := s_op28 hI h124
  refine th_copy hx hb (by rw [hml]; exact hl.1.symm) hown (hts _ T_846) (hts _ T_847) (hts _ T_848) (hts _ T_849) hK hP hD hS (hLK _ h244 (by decide)) (hLK _ h124 (by decide)) 0 0 o299 o302 rfl rfl (by decide) (by decide) (by decide) (by decide) (by decide) (fun i _ => rfl) (Nat.le_of_ble_eq_true rfl) (Nat.le_of_ble_eq_true rfl) dX4_copyFrom_119 (fun H locs hP hS => ?_)
  have hP : va_P (dC, dI) vwCl (va_pl L (va_up F291 z123 (.inl (cs 0, 96, .inl (va_cpy f298 f301 (0 : Int32).toNatClampNeg (0 : Int32).toNatClampNeg (96 : Int32).toNatClampNeg))))) H := hP
  obtain ⟨F304, hF305⟩ : ∃ G : Nat → va_E, G = va_up F291 z123 (.inl (cs 0, 96, .inl (va_cpy f298 f301 (0 : Int32).toNatClampNeg (0 : Int32).toNatClampNeg (96 : Int32).toNatClampNeg))) := ⟨_, rfl⟩
  rw [← hF305] at hP
  have hI : s_I K cs D F304 := by rw [hF305]; exact s_cl28 hI h124 ⟨_, rfl, trivial⟩
  have hfr : ∀ b, K b ∉ [5, 6, 24, 27, 28, 29, 30, 31, 32] → F304 b = F b := by rw [hF305]; exact s_fr hfr h124 (by decide)
  have o306 : F304 a0 = .inr (4, [.ref z115, .ref z117, .ref z119, .ref z121, .ref z123, .ref z125, .ref z127, .int z129, .int z131, .int z132, .int z133, .int z108, .int z166, .int z198, .int z229]) := by rw [hF305]; exact th_ne (th_kd ha0 h124 (by decide)) o293
  have o307 : F304 a1 = .inr (4, [.ref z235, .ref z237, .ref z239, .ref z241, .ref z243, .ref z245, .ref z247, .int z249, .int z251, .int z252, .int z253, .int z255, .int z256, .int z258, .int z259]) := by rw [hF305]; exact th_ne (th_kd ha1 h124 (by decide)) o294
  refine lv_aload_n hx hb dX4_copyFrom_122 rfl (lv_at hl 1 rfl) ?_
  refine th_get (D := (dC, dI)) (ci := 4) (v := .ref z245) (C := RX4) (T := TX4) (N := 15) hx hb hts inX4 hown hK hP (hLK _ ha1 (by decide)) o307 rfl 5 (by decide) (hts _ T_112) (fun _ h9 => h9) rfl dX4_copyFrom_123 ?_
  refine lv_iconst (v := 0) hx hb dX4_copyFrom_126 (by decide) ?_
  refine lv_aload_n hx hb dX4_copyFrom_127 rfl (lv_at hl 0 rfl) ?_
  refine th_get (D := (dC, dI)) (ci := 4) (v := .ref z125) (C := RX4) (T := TX4) (N := 15) hx hb hts inX4 hown hK hP (hLK _ ha0 (by decide)) o306 rfl 5 (by decide) (hts _ T_112) (fun _ h9 => h9) rfl dX4_copyFrom_128 ?_
  refine lv_iconst (v := 0) hx hb dX4_copyFrom_131 (by decide) ?_
  refine lv_aload_n hx hb dX4_copyFrom_132 rfl (lv_at hl 0 rfl) ?_
  refine th_get (D := (dC, dI)) (ci := 4) (v := .ref z125) (C := RX4) (T := TX4) (N := 15) hx hb hts inX4 hown hK hP (hLK _ ha0 (by decide)) o306 rfl 5 (by decide) (hts _ T_112) (fun _ h9 => h9) rfl dX4_copyFrom_133 ?_
  obtain ⟨f308, o309, h310⟩ := s_op28 hI h126
  refine th_alen hx hb hK hP (hLK _ h126 (by decide)) 0 o309 rfl (v := 96) rfl dX4_copyFrom_136 ?_
  obtain ⟨f311, o312, h313⟩ := s_op28 hI h246
  obtain ⟨f314, o315, h316⟩ := s_op28 hI h126
  refine th_copy hx hb (by rw [hml]; exact hl.1.symm) hown (hts _ T_846) (hts _ T_847) (hts _ T_848) (hts _ T_849) hK hP hD hS (hLK _ h246 (by decide)) (hLK _ h126 (by decide)) 0 0 o312 o315 rfl rfl (by decide) (by decide) (by decide) (by decide) (by decide) (fun i _ => rfl) (Nat.le_of_ble_eq_true rfl) (Nat.le_of_ble_eq_true rfl) dX4_copyFrom_137 (fun H locs hP hS => ?_)
  have hP : va_P (dC, dI) vwCl (va_pl L (va_up F304 z125 (.inl (cs 0, 96, .inl (va_cpy f311 f314 (0 : Int32).toNatClampNeg (0 : Int32).toNatClampNeg (96 : Int32).toNatClampNeg))))) H := hP
  obtain ⟨F317, hF318⟩ : ∃ G : Nat → va_E, G = va_up F304 z125 (.inl (cs 0, 96, .inl (va_cpy f311 f314 (0 : Int32).toNatClampNeg (0 : Int32).toNatClampNeg (96 : Int32).toNatClampNeg))) := ⟨_, rfl⟩
  rw [← hF318] at hP
  have hI : s_I K cs D F317 := by rw [hF318]; exact s_cl28 hI h126 ⟨_, rfl, trivial⟩
  have hfr : ∀ b, K b ∉ [5, 6, 24, 27, 28, 29, 30, 31, 32] → F317 b = F b := by rw [hF318]; exact s_fr hfr h126 (by decide)
  have o319 : F317 a0 = .inr (4, [.ref z115, .ref z117, .ref z119, .ref z121, .ref z123, .ref z125, .ref z127, .int z129, .int z131, .int z132, .int z133, .int z108, .int z166, .int z198, .int z229]) := by rw [hF318]; exact th_ne (th_kd ha0 h126 (by decide)) o306
  have o320 : F317 a1 = .inr (4, [.ref z235, .ref z237, .ref z239, .ref z241, .ref z243, .ref z245, .ref z247, .int z249, .int z251, .int z252, .int z253, .int z255, .int z256, .int z258, .int z259]) := by rw [hF318]; exact th_ne (th_kd ha1 h126 (by decide)) o307
  refine lv_aload_n hx hb dX4_copyFrom_140 rfl (lv_at hl 1 rfl) ?_
  refine th_get (D := (dC, dI)) (ci := 4) (v := .ref z247) (C := RX4) (T := TX4) (N := 15) hx hb hts inX4 hown hK hP (hLK _ ha1 (by decide)) o320 rfl 6 (by decide) (hts _ T_113) (fun _ h9 => h9) rfl dX4_copyFrom_141 ?_
  refine lv_iconst (v := 0) hx hb dX4_copyFrom_144 (by decide) ?_
  refine lv_aload_n hx hb dX4_copyFrom_145 rfl (lv_at hl 0 rfl) ?_
  refine th_get (D := (dC, dI)) (ci := 4) (v := .ref z127) (C := RX4) (T := TX4) (N := 15) hx hb hts inX4 hown hK hP (hLK _ ha0 (by decide)) o319 rfl 6 (by decide) (hts _ T_113) (fun _ h9 => h9) rfl dX4_copyFrom_146 ?_
  refine lv_iconst (v := 0) hx hb dX4_copyFrom_149 (by decide) ?_
  refine lv_aload_n hx hb dX4_copyFrom_150 rfl (lv_at hl 0 rfl) ?_
  refine th_get (D := (dC, dI)) (ci := 4) (v := .ref z127) (C := RX4) (T := TX4) (N := 15) hx hb hts inX4 hown hK hP (hLK _ ha0 (by decide)) o319 rfl 6 (by decide) (hts _ T_113) (fun _ h9 => h9) rfl dX4_copyFrom_151 ?_
  obtain ⟨f321, o322, h323⟩ := s_op29 hI h128
  refine th_alen hx hb hK hP (hLK _ h128 (by decide)) 0 o322 rfl (v := 150) rfl dX4_copyFrom_154 ?_
  obtain ⟨f324, o325, h326⟩ := s_op29 hI h248
  obtain ⟨f327, o328, h329⟩ := s_op29 hI h128
  refine th_copy hx hb (by rw [hml]; exact hl.1.symm) hown (hts _ T_846) (hts _ T_847) (hts _ T_848) (hts _ T_849) hK hP hD hS (hLK _ h248 (by decide)) (hLK _ h128 (by decide)) 0 0 o325 o328 rfl rfl (by decide) (by decide) (by decide) (by decide) (by decide) (fun i _ => rfl) (Nat.le_of_ble_eq_true rfl) (Nat.le_of_ble_eq_true rfl) dX4_copyFrom_155 (fun H locs hP hS => ?_)
  have hP : va_P (dC, dI) vwCl (va_pl L (va_up F317 z127 (.inl (cs 0, 150, .inl (va_cpy f324 f327 (0 : Int32).toNatClampNeg (0 : Int32).toNatClampNeg (150 : Int32).toNatClampNeg))))) H := hP
  obtain ⟨F330, hF331⟩ : ∃ G : Nat → va_E, G = va_up F317 z127 (.inl (cs 0, 150, .inl (va_cpy f324 f327 (0 : Int32).toNatClampNeg (0 : Int32).toNatClampNeg (150 : Int32).toNatClampNeg))) := ⟨_, rfl⟩
  rw [← hF331] at hP
  have hI : s_I K cs D F330 := by rw [hF331]; exact s_cl29 hI h128 ⟨_, rfl, trivial⟩
  have hfr : ∀ b, K b ∉ [5, 6, 24, 27, 28, 29, 30, 31, 32] → F330 b = F b := by rw [hF331]; exact s_fr hfr h128 (by decide)
  have o332 : F330 a0 = .inr (4, [.ref z115, .ref z117, .ref z119, .ref z121, .ref z123, .ref z125, .ref z127, .int z129, .int z131, .int z132, .int z133, .int z108, .int z166, .int z198, .int z229]) := by rw [hF331]; exact th_ne (th_kd ha0 h128 (by decide)) o319
  have o333 : F330 a1 = .inr (4, [.ref z235, .ref z237, .ref z239, .ref z241, .ref z243, .ref z245, .ref z247, .int z249, .int z251, .int z252, .int z253, .int z255, .int z256, .int z258, .int z259]) := by rw [hF331]; exact th_ne (th_kd ha1 h128 (by decide)) o320
  refine lv_iconst (v := 0) hx hb dX4_copyFrom_158 (by decide) ?_
  refine lv_istore_n (lv' := [(2, .int 0), (0, .ref a0), (1, .ref a1)]) hx hb dX4_copyFrom_159 rfl hl (by decide) rfl (fun ls hl => ?_)
  refine th_loop (fun n g H locs => ∃ (G : Nat → va_E) (ls : Array Slot) (w334 : Int32), g = F0 m 160 ls [] ∧ lv_has ls 3 [(0, .ref a0), (1, .ref a1), (2, .int w334)] ∧ s_I K cs D G ∧ va_P (dC, dI) vwCl (va_pl L G) H ∧ va_S (fun q => q ∈ L) s.heap H locs ∧ (∀ b, K b ∉ [5, 6, 24, 27, 28, 29, 30, 31, 32] → G b = F b) ∧ (0 ≤ w334.toInt ∧ w334.toInt ≤ 4) ∧ n = (5 - w334.toInt).toNat) _ ⟨F330, _, 0, rfl, lv_sub hl [1, 2, 0] rfl, hI, hP, hS, hfr, (by decide), rfl⟩ (fun n ih160 g H locs hq => ?_)
  obtain ⟨F9, ls, w334, rfl, hl, hI, hP, hS, hfr, h335, hn⟩ := hq
  have hn_160 := hn
  obtain ⟨n_160, hn9_160⟩ : ∃ q, q = n := ⟨_, rfl⟩
  refine lv_iload_n hx hb dX4_copyFrom_160 rfl (lv_at hl 2 rfl) ?_
  refine lv_iconst (v := 4) hx hb dX4_copyFrom_161 (by decide) ?_
  refine lv_icmp_ge (tgt := 186) hx hb dX4_copyFrom_162 (by decide) (fun c336 => ?_) (fun c336 => ?_)
  · have c336 := (ax_ge (n := 4) (by decide)).mp c336
    exact W.vret hx hb hr (fun t ht hW => ⟨⟨F9, rfl, ⟨trivial, trivial, hI, hfr⟩, by rw [ht]; exact hP, va_K.moved hW.alike hK⟩, hS.F ht⟩) hS.2.2 dX4_copyFrom_186
  · have c336 := mt (ax_ge (n := 4) (by decide)).mpr c336
    refine lv_aload_n hx hb dX4_copyFrom_165 rfl (lv_at hl 0 rfl) ?_
    obtain ⟨z337, z339, z341, z343, z345, z347, z349, z351, z353, z354, z355, z357, z358, z360, z361, o363, h338, h340, h342, h344, h346, h348, h350, h352, h356, h359, h362, -⟩ := s_op5 hI ha0
    refine th_get (D := (dC, dI)) (ci := 4) (v := .ref z337) (C := RX4) (T := TX4) (N := 15) hx hb hts inX4 hown hK hP (hLK _ ha0 (by decide)) o363 rfl 0 (by decide) (hts _ T_107) (fun _ h9 => h9) rfl dX4_copyFrom_166 ?_
    refine lv_iload_n hx hb dX4_copyFrom_169 rfl (lv_at hl 2 rfl) ?_
    obtain ⟨f364, o365, h366⟩ := s_op26 hI h338
    obtain ⟨z367, o369, h368⟩ := h366 (w334 : Int32).toNatClampNeg (th_cl ⟨by omega, by omega⟩)
    refine th_aald hx hb hK hP (hLK _ h338 (by decide)) 3 o365 rfl (th_in ⟨by omega, by omega⟩) o369 dX4_copyFrom_170 ?_
    refine lv_aload_n hx hb dX4_copyFrom_171 rfl (lv_at hl 1 rfl) ?_
    obtain ⟨z370, z372, z374, z376, z378, z380, z382, z384, z386, z387, z388, z390, z391, z393, z394, o396, h371, h373, h375, h377, h379, h381, h383, h385, h389, h392, h395, -⟩ := s_op5 hI ha1
    refine th_get (D := (dC, dI)) (ci := 4) (v := .ref z370) (C := RX4) (T := TX4) (N := 15) hx hb hts inX4 hown hK hP (hLK _ ha1 (by decide)) o396 rfl 0 (by decide) (hts _ T_107) (fun _ h9 => h9) rfl dX4_copyFrom_172 ?_
    refine lv_iload_n hx hb dX4_copyFrom_175 rfl (lv_at hl 2 rfl) ?_
    obtain ⟨f397, o398, h399⟩ := s_op26 hI h371
    obtain ⟨z400, o402, h401⟩ := h399 (w334 : Int32).toNatClampNeg (th_cl ⟨by omega, by omega⟩)
    refine th_aald hx hb hK hP (hLK _ h371 (by decide)) 3 o398 rfl (th_in ⟨by omega, by omega⟩) o402 dX4_copyFrom_176 ?_
    obtain ⟨z403, z405, z407, z409, z411, z413, z415, z416, z417, z418, z419, o421, h404, h406, h408, h410, h412, h414, h420, -⟩ := s_op6 hI h368
    refine va_callv (va_runV (As := [.ref z400]) (rest := []) ⟨hx, hb, hml, hown, hts⟩ (s_X5_copyFrom l dC dI H.size hLK D F9 z367 z400 h368 h401 hI) (cwV 1 hts (ax_gV T_850 T_852 T_853 T_116 T_851) rfl rfl rfl (by decide +kernel) ⟨Nat.le_of_ble_eq_true rfl, Nat.le_of_ble_eq_true rfl⟩) ⟨fun a U g mk q => ⟨q.1, s_pc (U := U) rfl rfl q.2⟩, s_recv hK hP (hLK _ h368 (by decide)) (ci := 5) rfl o421, fun U hU hW => ⟨rfl, s_pw hU hW hP hK hD hN⟩⟩ rfl rfl hl.1 rfl (lv_room (Nat.le_of_ble_eq_true rfl)) dX4_copyFrom_177 ⟨Nat.zero_le _, Nat.zero_le _⟩) hS (fun q _ h => h) (fun q h => h) (fun F422 t H1 locs ht hvm hw hB hz1 hk1 hS => ?_)
    obtain ⟨hP, hK1⟩ := hB
    rw [ht] at hP
    generalize H1 = H at hP hS ⊢
    clear hz1 hk1
    obtain ⟨h423, h424, hI, hfr1⟩ := hw
    have o425 : F422 a0 = .inr (4, [.ref z337, .ref z339, .ref z341, .ref z343, .ref z345, .ref z347, .ref z349, .int z351, .int z353, .int z354, .int z355, .int z357, .int z358, .int z360, .int z361]) := (hfr1 _ (by rw [ha0]; decide)).trans o363
    have o426 : F422 a1 = .inr (4, [.ref z370, .ref z372, .ref z374, .ref z376, .ref z378, .ref z380, .ref z382, .int z384, .int z386, .int z387, .int z388, .int z390, .int z391, .int z393, .int z394]) := (hfr1 _ (by rw [ha1]; decide)).trans o396
    have hfr : ∀ b, K b ∉ [5, 6, 24, 27, 28, 29, 30, 31, 32] → F422 b = F b := fun b hb9 => (hfr1 b (fun q => hb9 (s_sub (by decide) q))).trans (hfr b hb9)
    obtain ⟨v427, ev427⟩ : ∃ y : Int32, w334 + 1 = y := ⟨_, rfl⟩
    have qv427 : v427.toInt = w334.toInt + 1 := by rw [← ev427]; exact th_add rfl (by decide) ⟨by omega, by omega⟩
    refine lv_iinc (v := v427) (lv' := [(2, .int v427), (0, .ref a0), (1, .ref a1)]) hx hb dX4_copyFrom_180 hl (k := 2) rfl ev427 (by decide) rfl (fun ls hl => ?_)
    refine lv_goto (tgt := 160) hx hb dX4_copyFrom_183 (by decide) ?_
    exact ih160 _ _ _ _ (by omega) ⟨F422, _, v427, rfl, lv_sub hl [1, 2, 0] rfl, hI, hP, hS, hfr, ⟨by omega, by omega⟩, rfl⟩

set_option maxHeartbeats 4000000 in
set_option maxRecDepth 100000 in
theorem s_X4_restOfReady (l : Launch) (dC : Nat → ClassId) (dI : Nat → Nat → Nat) (sz : Nat) {L : List Nat} {K : Nat → Nat} {cs : Nat → ClassId} (hLK : ∀ a {k : Nat}, K a = k → k ≠ 0 → a ∈ L) (D : Nat) (F : Nat → va_E) (a0 : Nat) (x1 : Int32) (ha0 : K a0 = 5) (hx1 : 0 ≤ x1.toInt ∧ x1.toInt ≤ 3) (hI : s_I K cs D F) : Met l yX4_restOfReady (Cond.code yX4_restOfReady cX4_restOfReady 2 (some .int) :: T0) ({ frames := 1, cells := 0, slots := 0, locals := 13 }) (va_Pc [.ref a0, .int x1] (s_W dC dI sz L F [(cs 0, .int), (cs 1, .byte), (cs 2, .long), (cs 3, .object RX5), (cs 4, .object RX4), (cs 5, .array .int), (cs 6, .char), (cs 7, .boolean)])) (va_Qi (fun (r : Int32) (G : Nat → va_E) => (0 ≤ r.toInt ∧ r.toInt ≤ 2147483647) ∧ True ∧ s_I K cs D G ∧ ∀ b, K b ∉ ([] : List Nat) → G b = F b) (fun (G : Nat → va_E) (t : State) => va_P (dC, dI) vwCl (va_pl L G) t.heap ∧ va_K (dC, dI) vwCl [(cs 0, .int), (cs 1, .byte), (cs 2, .long), (cs 3, .object RX5), (cs 4, .object RX4), (cs 5, .array .int), (cs 6, .char), (cs 7, .boolean)] t) (fun q => q ∈ L)) 0 0 (fun q => q ∈ L) := by
  refine Met.ofW (cc := cX4_restOfReady) (maxL := 2) (ret := (some .int)) (by decide) rfl ?_
  intro p e s m args below meth c s₁ B hml hv
  obtain ⟨rfl, hsz, hP, hK, hD, hN⟩ := hv
  have hx := B.exec
  have hb := B.bytes
  have hr := B.returns
  have hts : ∀ w ∈ T0, w.before _ s = true := fun w h => atoms_spec (ws := Cond.code yX4_restOfReady cX4_restOfReady 2 (some .int) :: T0) B.pre w (List.mem_cons_of_mem _ h)
  have hown : s.vm.findClass RX4 = some m.cls := findClass_of_methodNamed B.named
  have hlocks := B.notSynchronized
  have hS : va_S (fun q => q ∈ L) s.heap s.heap [] := va_S.rf
  have hfr : ∀ b, K b ∉ ([] : List Nat) → F b = F b := fun _ _ => rfl
  have hl := lv_entry ([.ref a0, .int x1]) (n := 2) (Nat.le_of_ble_eq_true rfl)
  rw [lg_entry_eq]
  generalize (lg_sl ([.ref a0, .int x1]) ++ List.replicate (2 - (lg_sl ([.ref a0, .int x1])).length) Slot.unset).toArray = ls at hl ⊢
  have hl : lv_has ls 2 [(0, .ref a0), (1, .int x1)] := hl
  refine s_gen hP hS (fun H locs hP hS => ?_)
  refine lv_aload_n hx hb dX4_restOfReady_0 rfl (lv_at hl 0 rfl) ?_
  obtain ⟨z1, z3, z5, z7, z9, z11, z13, z15, z17, z18, z19, z21, z22, z24, z25, o27, h2, h4, h6, h8, h10, h12, h14, h16, h20, h23, h26, -⟩ := s_op5 hI ha0
  refine th_get (D := (dC, dI)) (ci := 4) (v := .ref z1) (C := RX4) (T := TX4) (N := 15) hx hb hts inX4 hown hK hP (hLK _ ha0 (by decide)) o27 rfl 0 (by decide) (hts _ T_107) (fun _ h9 => h9) rfl dX4_restOfReady_1 ?_
  refine lv_iload_n hx hb dX4_restOfReady_4 rfl (lv_at hl 1 rfl) ?_
  obtain ⟨f28, o29, h30⟩ := s_op26 hI h2
  obtain ⟨z31, o33, h32⟩ := h30 (x1 : Int32).toNatClampNeg (th_cl ⟨by omega, by omega⟩)
  refine th_aald hx hb hK hP (hLK _ h2 (by decide)) 3 o29 rfl (th_in ⟨by omega, by omega⟩) o33 dX4_restOfReady_5 ?_
  obtain ⟨z34, z36, z38, z40, z42, z44, z46, z47, z48, z49, z50, o52, h35, h37, h39, h41, h43, h45, h51, -⟩ := s_op6 hI h32
  refine th_getN (D := (dC, dI)) (ci := 5) (v := .int z48) (C := RX5) (T := TX5) (N := 11) hx hb hts inX5 hown hK hP (hLK _ h32 (by decide)) o52 rfl 8 (by decide) (va_Nw.use rfl (ax_n44 hN)) (fun _ h9 => h9) rfl dX4_restOfReady_6 ?_
  refine lv_aload_n hx hb dX4_restOfReady_9 rfl (lv_at hl 0 rfl) ?_
  refine th_get (D := (dC, dI)) (ci := 4) (v := .int z21) (C := RX4) (T := TX4) (N := 15) hx hb hts inX4 hown hK hP (hLK _ ha0 (by decide)) o27 rfl 11 (by decide) (hts _ T_837) (fun _ h9 => h9) rfl dX4_restOfReady_10 ?_
  refine lv_isub hx hb dX4_restOfReady_13 ?_
  refine lv_topi (fun v53 ev53 => ?_)
  refine lv_iconst (v := 0) hx hb dX4_restOfReady_14 (by decide) ?_
  refine va_mmax hx hb (by rw [hml]; exact hl.1.symm) hown (hts _ T_874) (hts _ T_609) (hts _ T_237) (hts _ T_610) (Nat.le_of_ble_eq_true rfl) (Nat.le_of_ble_eq_true rfl) (Nat.zero_le _) (Nat.zero_le _) dX4_restOfReady_15 ?_
  refine lv_topi (fun v54 ev54 => ?_)
  have qv54 := th_mmax (a := v53.toInt) (b := 0) ev54 rfl (by decide)
  exact W.iret (v := v54) hx hb hr (fun t ht hW => ⟨⟨v54, F, rfl, ⟨⟨by omega, by have q9 := th_hi v54; omega⟩, trivial, hI, hfr⟩, by rw [ht]; exact hP, va_K.moved hW.alike hK⟩, hS.F ht⟩) hS.2.2 dX4_restOfReady_18

set_option maxHeartbeats 4000000 in
set_option maxRecDepth 100000 in
theorem s_X4_isLike (l : Launch) (dC : Nat → ClassId) (dI : Nat → Nat → Nat) (sz : Nat) {L : List Nat} {K : Nat → Nat} {cs : Nat → ClassId} (hLK : ∀ a {k : Nat}, K a = k → k ≠ 0 → a ∈ L) (D : Nat) (F : Nat → va_E) (a0 : Nat) (a1 : Nat) (ha0 : K a0 = 5) (ha1 : K a1 = 5) (hI : s_I K cs D F) : Met l yX4_isLike (Cond.code yX4_isLike cX4_isLike 3 (some .boolean) :: T0) ({ frames := 2, cells := 0, slots := 0, locals := 44 }) (va_Pc [.ref a0, .ref a1] (s_W dC dI sz L F [(cs 0, .int), (cs 1, .byte), (cs 2, .long), (cs 3, .object RX5), (cs 4, .object RX4), (cs 5, .array .int), (cs 6, .char), (cs 7, .boolean)])) (va_Qi (fun (r : Int32) (G : Nat → va_E) => (0 ≤ r.toInt ∧ r.toInt ≤ 1) ∧ True ∧ s_I K cs D G ∧ ∀ b, K b ∉ ([] : List Nat) → G b = F b) (fun (G : Nat → va_E) (t : State) => va_P (dC, dI) vwCl (va_pl L G) t.heap ∧ va_K (dC, dI) vwCl [(cs 0, .int), (cs 1, .byte), (cs 2, .long), (cs 3, .object RX5), (cs 4, .object RX4), (cs 5, .array .int), (cs 6, .char), (cs 7, .boolean)] t) (fun q => q ∈ L)) 0 0 (fun q => q ∈ L) := by
  refine Met.ofW (cc := cX4_isLike) (maxL := 3) (ret := (some .boolean)) (by decide) rfl ?_
  intro p e s m args below meth c s₁ B hml hv
  obtain ⟨rfl, hsz, hP, hK, hD, hN⟩ := hv
  have hx := B.exec
  have hb := B.bytes
  have hr := B.returns
  have hts : ∀ w ∈ T0, w.before _ s = true := fun w h => atoms_spec (ws := Cond.code yX4_isLike cX4_isLike 3 (some .boolean) :: T0) B.pre w (List.mem_cons_of_mem _ h)
  have hown : s.vm.findClass RX4 = some m.cls := findClass_of_methodNamed B.named
  have hlocks := B.notSynchronized
  have hS : va_S (fun q => q ∈ L) s.heap s.heap [] := va_S.rf
  have hfr : ∀ b, K b ∉ ([] : List Nat) → F b = F b := fun _ _ => rfl
  have hl := lv_entry ([.ref a0, .ref a1]) (n := 3) (Nat.le_of_ble_eq_true rfl)
  rw [lg_entry_eq]
  generalize (lg_sl ([.ref a0, .ref a1]) ++ List.replicate (3 - (lg_sl ([.ref a0, .ref a1])).length) Slot.unset).toArray = ls at hl ⊢
  have hl : lv_has ls 3 [(0, .ref a0), (1, .ref a1)] := hl
  refine s_gen hP hS (fun H locs hP hS => ?_)
  refine lv_aload_n hx hb dX4_isLike_0 rfl (lv_at hl 0 rfl) ?_
  obtain ⟨z1, z3, z5, z7, z9, z11, z13, z15, z17, z18, z19, z21, z22, z24, z25, o27, h2, h4, h6, h8, h10, h12, h14, h16, h20, h23, h26, -⟩ := s_op5 hI ha0
  refine th_get (D := (dC, dI)) (ci := 4) (v := .int z25) (C := RX4) (T := TX4) (N := 15) hx hb hts inX4 hown hK hP (hLK _ ha0 (by decide)) o27 rfl 14 (by decide) (hts _ T_114) (fun _ h9 => h9) rfl dX4_isLike_1 ?_
  refine lv_aload_n hx hb dX4_isLike_4 rfl (lv_at hl 1 rfl) ?_
  obtain ⟨z28, z30, z32, z34, z36, z38, z40, z42, z44, z45, z46, z48, z49, z51, z52, o54, h29, h31, h33, h35, h37, h39, h41, h43, h47, h50, h53, -⟩ := s_op5 hI ha1
  refine th_get (D := (dC, dI)) (ci := 4) (v := .int z52) (C := RX4) (T := TX4) (N := 15) hx hb hts inX4 hown hK hP (hLK _ ha1 (by decide)) o54 rfl 14 (by decide) (hts _ T_114) (fun _ h9 => h9) rfl dX4_isLike_5 ?_
  refine lv_icmp_eq (tgt := 13) hx hb dX4_isLike_8 (by decide) (fun c55 => ?_) (fun c55 => ?_)
  · have c55 := Int32.toInt_inj.symm.mp c55
    refine lv_iconst (v := 0) hx hb dX4_isLike_13 (by decide) ?_
    refine lv_istore_n (lv' := [(2, .int 0), (0, .ref a0), (1, .ref a1)]) hx hb dX4_isLike_14 rfl hl (by decide) rfl (fun ls hl => ?_)
    refine th_loop (fun n g H locs => ∃ (G : Nat → va_E) (ls : Array Slot) (w56 : Int32), g = F0 m 15 ls [] ∧ lv_has ls 3 [(0, .ref a0), (1, .ref a1), (2, .int w56)] ∧ s_I K cs D G ∧ va_P (dC, dI) vwCl (va_pl L G) H ∧ va_S (fun q => q ∈ L) s.heap H locs ∧ (∀ b, K b ∉ ([] : List Nat) → G b = F b) ∧ (0 ≤ w56.toInt ∧ w56.toInt ≤ 4) ∧ n = (5 - w56.toInt).toNat) _ ⟨F, _, 0, rfl, lv_sub hl [1, 2, 0] rfl, hI, hP, hS, hfr, (by decide), rfl⟩ (fun n ih15 g H locs hq => ?_)
    obtain ⟨F9, ls, w56, rfl, hl, hI, hP, hS, hfr, h57, hn⟩ := hq
    have hn_15 := hn
    obtain ⟨n_15, hn9_15⟩ : ∃ q, q = n := ⟨_, rfl⟩
    refine lv_iload_n hx hb dX4_isLike_15 rfl (lv_at hl 2 rfl) ?_
    refine lv_aload_n hx hb dX4_isLike_16 rfl (lv_at hl 0 rfl) ?_
    obtain ⟨z58, z60, z62, z64, z66, z68, z70, z72, z74, z75, z76, z78, z79, z81, z82, o84, h59, h61, h63, h65, h67, h69, h71, h73, h77, h80, h83, -⟩ := s_op5 hI ha0
    refine th_get (D := (dC, dI)) (ci := 4) (v := .int z72) (C := RX4) (T := TX4) (N := 15) hx hb hts inX4 hown hK hP (hLK _ ha0 (by decide)) o84 rfl 7 (by decide) (hts _ T_840) (fun _ h9 => h9) rfl dX4_isLike_17 ?_
    refine lv_icmp_ge (tgt := 62) hx hb dX4_isLike_20 (by decide) (fun c85 => ?_) (fun c85 => ?_)
    · have c85 := Int32.le_iff_toInt_le.mp c85
      refine lv_aload_n hx hb dX4_isLike_62 rfl (lv_at hl 0 rfl) ?_
      refine th_get (D := (dC, dI)) (ci := 4) (v := .ref z62) (C := RX4) (T := TX4) (N := 15) hx hb hts inX4 hown hK hP (hLK _ ha0 (by decide)) o84 rfl 2 (by decide) (hts _ T_109) (fun _ h9 => h9) rfl dX4_isLike_63 ?_
      refine lv_aload_n hx hb dX4_isLike_66 rfl (lv_at hl 1 rfl) ?_
      obtain ⟨z86, z88, z90, z92, z94, z96, z98, z100, z102, z103, z104, z106, z107, z109, z110, o112, h87, h89, h91, h93, h95, h97, h99, h101, h105, h108, h111, -⟩ := s_op5 hI ha1
      refine th_get (D := (dC, dI)) (ci := 4) (v := .ref z90) (C := RX4) (T := TX4) (N := 15) hx hb hts inX4 hown hK hP (hLK _ ha1 (by decide)) o112 rfl 2 (by decide) (hts _ T_109) (fun _ h9 => h9) rfl dX4_isLike_67 ?_
      refine va_calli (va_runSN (As := [.ref z62, .ref z90]) (rest := []) ⟨hx, hb, hml, hown, hts⟩ (s_X6_areLike_near l dC dI H.size hLK D F9 z62 z90 h63 h91 hI) ⟨va_cnB 2 hts (ax_gT T_862) rfl rfl rfl (ax_n46 hN) (hts _ T_193) (by decide +kernel) ⟨Nat.le_of_ble_eq_true rfl, Nat.le_of_ble_eq_true rfl⟩, hts _ T_863, trivial⟩ ⟨fun a U g mk q => ⟨q.1, s_pc (U := U) rfl rfl q.2⟩, fun U hU hW => ⟨rfl, s_pw hU hW hP hK hD hN⟩⟩ rfl rfl hl.1 rfl (lv_room (Nat.le_of_ble_eq_true rfl)) dX4_isLike_70 ⟨Nat.zero_le _, Nat.zero_le _⟩) hS (fun q _ h => h) (fun q h => h) (fun r113 F114 t H1 locs ht hvm hw hB hz1 hk1 hS => ?_)
      obtain ⟨hP, hK1⟩ := hB
      rw [ht] at hP
      generalize H1 = H at hP hS ⊢
      clear hz1 hk1
      obtain ⟨h115, h116, hI, hfr1⟩ := hw
      have o117 : F114 a0 = .inr (4, [.ref z58, .ref z60, .ref z62, .ref z64, .ref z66, .ref z68, .ref z70, .int z72, .int z74, .int z75, .int z76, .int z78, .int z79, .int z81, .int z82]) := (hfr1 _ (by rw [ha0]; decide)).trans o84
      have o118 : F114 a1 = .inr (4, [.ref z86, .ref z88, .ref z90, .ref z92, .ref z94, .ref z96, .ref z98, .int z100, .int z102, .int z103, .int z104, .int z106, .int z107, .int z109, .int z110]) := (hfr1 _ (by rw [ha1]; decide)).trans o112
      have hfr : ∀ b, K b ∉ ([] : List Nat) → F114 b = F b := fun b hb9 => (hfr1 b (fun q => hb9 (s_sub (by decide) q))).trans (hfr b hb9)
      refine lv_if_eq (tgt := 94) hx hb dX4_isLike_73 (by decide) (fun c119 => ?_) (fun c119 => ?_)
      · have c119 := (ax_eq (n := 0) (by decide)).mp c119
        refine lv_iconst (v := 0) hx hb dX4_isLike_94 (by decide) ?_
        exact W.zret (v := 0) (ty := .boolean) hx hb hr (by decide) (fun t ht hW => ⟨⟨0, F114, rfl, ⟨(by decide), trivial, hI, hfr⟩, by rw [ht]; exact hP, va_K.moved hW.alike hK⟩, hS.F ht⟩) hS.2.2 dX4_isLike_95
      · have c119 := mt (ax_eq (n := 0) (by decide)).mpr c119
        refine lv_aload_n hx hb dX4_isLike_76 rfl (lv_at hl 0 rfl) ?_
        refine th_get (D := (dC, dI)) (ci := 4) (v := .ref z60) (C := RX4) (T := TX4) (N := 15) hx hb hts inX4 hown hK hP (hLK _ ha0 (by decide)) o117 rfl 1 (by decide) (hts _ T_108) (fun _ h9 => h9) rfl dX4_isLike_77 ?_
        refine lv_aload_n hx hb dX4_isLike_80 rfl (lv_at hl 1 rfl) ?_
        refine th_get (D := (dC, dI)) (ci := 4) (v := .ref z88) (C := RX4) (T := TX4) (N := 15) hx hb hts inX4 hown hK hP (hLK _ ha1 (by decide)) o118 rfl 1 (by decide) (hts _ T_108) (fun _ h9 => h9) rfl dX4_isLike_81 ?_
        refine va_calli (va_runSN (As := [.ref z60, .ref z88]) (rest := []) ⟨hx, hb, hml, hown, hts⟩ (s_X6_areLike_far l dC dI H.size hLK D F114 z60 z88 h61 h89 hI) ⟨va_cnB 2 hts (ax_gT T_862) rfl rfl rfl (ax_n46 hN) (hts _ T_193) (by decide +kernel) ⟨Nat.le_of_ble_eq_true rfl, Nat.le_of_ble_eq_true rfl⟩, hts _ T_863, trivial⟩ ⟨fun a U g mk q => ⟨q.1, s_pc (U := U) rfl rfl q.2⟩, fun U hU hW => ⟨rfl, s_pw hU hW hP hK hD hN⟩⟩ rfl rfl hl.1 rfl (lv_room (Nat.le_of_ble_eq_true rfl)) dX4_isLike_84 ⟨Nat.zero_le _, Nat.zero_le _⟩) hS (fun q _ h => h) (fun q h => h) (fun r120 F121 t H1 locs ht hvm hw hB hz1 hk1 hS => ?_)
        obtain ⟨hP, hK1⟩ := hB
        rw [ht] at hP
        generalize H1 = H at hP hS ⊢
        clear hz1 hk1
        obtain ⟨h122, h123, hI, hfr1⟩ := hw
        have o124 : F121 a0 = .inr (4, [.ref z58, .ref z60, .ref z62, .ref z64, .ref z66, .ref z68, .ref z70, .int z72, .int z74, .int z75, .int z76, .int z78, .int z79, .int z81, .int z82]) := (hfr1 _ (by rw [ha0]; decide)).trans o117
        have o125 : F121 a1 = .inr (4, [.ref z86, .ref z88, .ref z90, .ref z92, .ref z94, .ref z96, .ref z98, .int z100, .int z102, .int z103, .int z104, .int z106, .int z107, .int z109, .int z110]) := (hfr1 _ (by rw [ha1]; decide)).trans o118
        have hfr : ∀ b, K b ∉ ([] : List Nat) → F121 b = F b := fun b hb9 => (hfr1 b (fun q => hb9 (s_sub (by decide) q))).trans (hfr b hb9)
        refine lv_if_eq (tgt := 94) hx hb dX4_isLike_87 (by decide) (fun c126 => ?_) (fun c126 => ?_)
        · have c126 := (ax_eq (n := 0) (by decide)).mp c126
          refine lv_iconst (v := 0) hx hb dX4_isLike_94 (by decide) ?_
          exact W.zret (v := 0) (ty := .boolean) hx hb hr (by decide) (fun t ht hW => ⟨⟨0, F121, rfl, ⟨(by decide), trivial, hI, hfr⟩, by rw [ht]; exact hP, va_K.moved hW.alike hK⟩, hS.F ht⟩) hS.2.2 dX4_isLike_95
        · have c126 := mt (ax_eq (n := 0) (by decide)).mpr c126
          refine lv_iconst (v := 1) hx hb dX4_isLike_90 (by decide) ?_
          refine lv_goto (tgt := 95) hx hb dX4_isLike_91 (by decide) ?_
          exact W.zret (v := 1) (ty := .boolean) hx hb hr (by decide) (fun t ht hW => ⟨⟨1, F121, rfl, ⟨(by decide), trivial, hI, hfr⟩, by rw [ht]; exact hP, va_K.moved hW.alike hK⟩, hS.F ht⟩) hS.2.2 dX4_isLike_95
    · have c85 := mt Int32.le_iff_toInt_le.mpr c85
      refine lv_aload_n hx hb dX4_isLike_23 rfl (lv_at hl 0 rfl) ?_
      refine lv_iload_n hx hb dX4_isLike_24 rfl (lv_at hl 2 rfl) ?_
      refine va_calli (va_runV (As := [.int w56]) (rest := []) ⟨hx, hb, hml, hown, hts⟩ (s_X4_restOfReady l dC dI H.size hLK D F9 a0 w56 ha0 (⟨by omega, by omega⟩) hI) (cwV 1 hts (ax_gV T_854 T_856 T_857 T_142 T_855) rfl rfl rfl (by decide +kernel) ⟨Nat.le_of_ble_eq_true rfl, Nat.le_of_ble_eq_true rfl⟩) ⟨fun a U g mk q => ⟨q.1, s_pc (U := U) rfl rfl q.2⟩, s_recv hK hP (hLK _ ha0 (by decide)) (ci := 4) rfl o84, fun U hU hW => ⟨rfl, s_pw hU hW hP hK hD hN⟩⟩ rfl rfl hl.1 rfl (lv_room (Nat.le_of_ble_eq_true rfl)) dX4_isLike_25 ⟨Nat.zero_le _, Nat.zero_le _⟩) hS (fun q _ h => h) (fun q h => h) (fun r127 F128 t H1 locs ht hvm hw hB hz1 hk1 hS => ?_)
      obtain ⟨hP, hK1⟩ := hB
      rw [ht] at hP
      generalize H1 = H at hP hS ⊢
      clear hz1 hk1
      obtain ⟨h129, h130, hI, hfr1⟩ := hw
      have o131 : F128 a0 = .inr (4, [.ref z58, .ref z60, .ref z62, .ref z64, .ref z66, .ref z68, .ref z70, .int z72, .int z74, .int z75, .int z76, .int z78, .int z79, .int z81, .int z82]) := (hfr1 _ (by rw [ha0]; decide)).trans o84
      have hfr : ∀ b, K b ∉ ([] : List Nat) → F128 b = F b := fun b hb9 => (hfr1 b (fun q => hb9 (s_sub (by decide) q))).trans (hfr b hb9)
      refine lv_aload_n hx hb dX4_isLike_28 rfl (lv_at hl 1 rfl) ?_
      refine lv_iload_n hx hb dX4_isLike_29 rfl (lv_at hl 2 rfl) ?_
      obtain ⟨z132, z134, z136, z138, z140, z142, z144, z146, z148, z149, z150, z152, z153, z155, z156, o158, h133, h135, h137, h139, h141, h143, h145, h147, h151, h154, h157, -⟩ := s_op5 hI ha1
      refine va_calli (va_runV (As := [.int w56]) (rest := [.int r127]) ⟨hx, hb, hml, hown, hts⟩ (s_X4_restOfReady l dC dI H.size hLK D F128 a1 w56 ha1 (⟨by omega, by omega⟩) hI) (cwV 1 hts (ax_gV T_854 T_856 T_857 T_142 T_855) rfl rfl rfl (by decide +kernel) ⟨Nat.le_of_ble_eq_true rfl, Nat.le_of_ble_eq_true rfl⟩) ⟨fun a U g mk q => ⟨q.1, s_pc (U := U) rfl rfl q.2⟩, s_recv hK hP (hLK _ ha1 (by decide)) (ci := 4) rfl o158, fun U hU hW => ⟨rfl, s_pw hU hW hP hK hD hN⟩⟩ rfl rfl hl.1 rfl (lv_room (Nat.le_of_ble_eq_true rfl)) dX4_isLike_30 ⟨Nat.zero_le _, Nat.zero_le _⟩) hS (fun q _ h => h) (fun q h => h) (fun r159 F160 t H1 locs ht hvm hw hB hz1 hk1 hS => ?_)
      obtain ⟨hP, hK1⟩ := hB
      rw [ht] at hP
      generalize H1 = H at hP hS ⊢
      clear hz1 hk1
      obtain ⟨h161, h162, hI, hfr1⟩ := hw
      have o163 : F160 a0 = .inr (4, [.ref z58, .ref z60, .ref z62, .ref z64, .ref z66, .ref z68, .ref z70, .int z72, .int z74, .int z75, .int z76, .int z78, .int z79, .int z81, .int z82]) := (hfr1 _ (by rw [ha0]; decide)).trans o131
      have o164 : F160 a1 = .inr (4, [.ref z132, .ref z134, .ref z136, .ref z138, .ref z140, .ref z142, .ref z144, .int z146, .int z148, .int z149, .int z150, .int z152, .int z153, .int z155, .int z156]) := (hfr1 _ (by rw [ha1]; decide)).trans o158
      have hfr : ∀ b, K b ∉ ([] : List Nat) → F160 b = F b := fun b hb9 => (hfr1 b (fun q => hb9 (s_sub (by decide) q))).trans (hfr b hb9)
      refine lv_icmp_ne (tgt := 54) hx hb dX4_isLike_33 (by decide) (fun c165 => ?_) (fun c165 => ?_)
      · have c165 := mt Int32.toInt_inj.symm.mpr c165
        refine lv_iconst (v := 0) hx hb dX4_isLike_54 (by decide) ?_
        exact W.zret (v := 0) (ty := .boolean) hx hb hr (by decide) (fun t ht hW => ⟨⟨0, F160, rfl, ⟨(by decide), trivial, hI, hfr⟩, by rw [ht]; exact hP, va_K.moved hW.alike hK⟩, hS.F ht⟩) hS.2.2 dX4_isLike_55
      · have c165 := Int32.toInt_inj.symm.mp c165
        refine lv_aload_n hx hb dX4_isLike_36 rfl (lv_at hl 0 rfl) ?_
        refine th_get (D := (dC, dI)) (ci := 4) (v := .ref z58) (C := RX4) (T := TX4) (N := 15) hx hb hts inX4 hown hK hP (hLK _ ha0 (by decide)) o163 rfl 0 (by decide) (hts _ T_107) (fun _ h9 => h9) rfl dX4_isLike_37 ?_
        refine lv_iload_n hx hb dX4_isLike_40 rfl (lv_at hl 2 rfl) ?_
        obtain ⟨f166, o167, h168⟩ := s_op26 hI h59
        obtain ⟨z169, o171, h170⟩ := h168 (w56 : Int32).toNatClampNeg (th_cl ⟨by omega, by omega⟩)
        refine th_aald hx hb hK hP (hLK _ h59 (by decide)) 3 o167 rfl (th_in ⟨by omega, by omega⟩) o171 dX4_isLike_41 ?_
        refine lv_aload_n hx hb dX4_isLike_42 rfl (lv_at hl 1 rfl) ?_
        refine th_get (D := (dC, dI)) (ci := 4) (v := .ref z132) (C := RX4) (T := TX4) (N := 15) hx hb hts inX4 hown hK hP (hLK _ ha1 (by decide)) o164 rfl 0 (by decide) (hts _ T_107) (fun _ h9 => h9) rfl dX4_isLike_43 ?_
        refine lv_iload_n hx hb dX4_isLike_46 rfl (lv_at hl 2 rfl) ?_
        obtain ⟨f172, o173, h174⟩ := s_op26 hI h133
        obtain ⟨z175, o177, h176⟩ := h174 (w56 : Int32).toNatClampNeg (th_cl ⟨by omega, by omega⟩)
        refine th_aald hx hb hK hP (hLK _ h133 (by decide)) 3 o173 rfl (th_in ⟨by omega, by omega⟩) o177 dX4_isLike_47 ?_
        obtain ⟨z178, z180, z182, z184, z186, z188, z190, z191, z192, z193, z194, o196, h179, h181, h183, h185, h187, h189, h195, -⟩ := s_op6 hI h170
        refine va_calli (va_runV (As := [.ref z175]) (rest := []) ⟨hx, hb, hml, hown, hts⟩ (s_X5_isLike l dC dI H.size hLK D F160 z169 z175 h170 h176 hI) (cwV 1 hts (ax_gV T_858 T_860 T_861 T_116 T_859) rfl rfl rfl (by decide +kernel) ⟨Nat.le_of_ble_eq_true rfl, Nat.le_of_ble_eq_true rfl⟩) ⟨fun a U g mk q => ⟨q.1, s_pc (U := U) rfl rfl q.2⟩, s_recv hK hP (hLK _ h170 (by decide)) (ci := 5) rfl o196, fun U hU hW => ⟨rfl, s_pw hU hW hP hK hD hN⟩⟩ rfl rfl hl.1 rfl (lv_room (Nat.le_of_ble_eq_true rfl)) dX4_isLike_48 ⟨Nat.zero_le _, Nat.zero_le _⟩) hS (fun q _ h => h) (fun q h => h) (fun r197 F198 t H1 locs ht hvm hw hB hz1 hk1 hS => ?_)
        obtain ⟨hP, hK1⟩ := hB
        rw [ht] at hP
        generalize H1 = H at hP hS ⊢
        clear hz1 hk1
        obtain ⟨h199, h200, hI, hfr1⟩ := hw
        have o201 : F198 a0 = .inr (4, [.ref z58, .ref z60, .ref z62, .ref z64, .ref z66, .ref z68, .ref z70, .int z72, .int z74, .int z75, .int z76, .int z78, .int z79, .int z81, .int z82]) := (hfr1 _ (by rw [ha0]; decide)).trans o163
        have o202 : F198 a1 = .inr (4, [.ref z132, .ref z134, .ref z136, .ref z138, .ref z140, .ref z142, .ref z144, .int z146, .int z148, .int z149, .int z150, .int z152, .int z153, .int z155, .int z156]) := (hfr1 _ (by rw [ha1]; decide)).trans o164
        have o203 : F198 z169 = .inr (5, [.ref z178, .ref z180, .ref z182, .ref z184, .ref z186, .int z188, .int z190, .int z191, .int z192, .int z193, .int z194]) := (hfr1 _ (by rw [h170]; decide)).trans o196
        have hfr : ∀ b, K b ∉ ([] : List Nat) → F198 b = F b := fun b hb9 => (hfr1 b (fun q => hb9 (s_sub (by decide) q))).trans (hfr b hb9)
        refine lv_if_ne (tgt := 56) hx hb dX4_isLike_51 (by decide) (fun c204 => ?_) (fun c204 => ?_)
        · have c204 := mt (ax_eq (n := 0) (by decide)).mpr c204
          obtain ⟨v205, ev205⟩ : ∃ y : Int32, w56 + 1 = y := ⟨_, rfl⟩
          have qv205 : v205.toInt = w56.toInt + 1 := by rw [← ev205]; exact th_add rfl (by decide) ⟨by omega, by omega⟩
          refine lv_iinc (v := v205) (lv' := [(2, .int v205), (0, .ref a0), (1, .ref a1)]) hx hb dX4_isLike_56 hl (k := 2) rfl ev205 (by decide) rfl (fun ls hl => ?_)
          refine lv_goto (tgt := 15) hx hb dX4_isLike_59 (by decide) ?_
          exact ih15 _ _ _ _ (by omega) ⟨F198, _, v205, rfl, lv_sub hl [1, 2, 0] rfl, hI, hP, hS, hfr, ⟨by omega, by omega⟩, rfl⟩
        · have c204 := (ax_eq (n := 0) (by decide)).mp c204
          refine lv_iconst (v := 0) hx hb dX4_isLike_54 (by decide) ?_
          exact W.zret (v := 0) (ty := .boolean) hx hb hr (by decide) (fun t ht hW => ⟨⟨0, F198, rfl, ⟨(by decide), trivial, hI, hfr⟩, by rw [ht]; exact hP, va_K.moved hW.alike hK⟩, hS.F ht⟩) hS.2.2 dX4_isLike_55
  · have c55 := mt Int32.toInt_inj.symm.mpr c55
    refine lv_iconst (v := 0) hx hb dX4_isLike_11 (by decide) ?_
    exact W.zret (v := 0) (ty := .boolean) hx hb hr (by decide) (fun t ht hW => ⟨⟨0, F, rfl, ⟨(by decide), trivial, hI, hfr⟩, by rw [ht]; exact hP, va_K.moved hW.alike hK⟩, hS.F ht⟩) hS.2.2 dX4_isLike_12

set_option maxHeartbeats 4000000 in
set_option maxRecDepth 100000 in
theorem s_X4_canGo (l : Launch) (dC : Nat → ClassId) (dI : Nat → Nat → Nat) (sz : Nat) {L : List Nat} {K : Nat → Nat} {cs : Nat → ClassId} (hLK : ∀ a {k : Nat}, K a = k → k ≠ 0 → a ∈ L) (D : Nat) (F : Nat → va_E) (a0 : Nat) (x1 : Int32) (ha0 : K a0 = 5) (hx1 : 0 ≤ x1.toInt ∧ x1.toInt ≤ 3) (hI : s_I K cs D F) : Met l yX4_canGo (Cond.code yX4_canGo cX4_canGo 2 (some .boolean) :: T0) ({ frames := 1, cells := 0, slots := 0, locals := 22 }) (va_Pc [.ref a0, .int x1] (s_W dC dI sz L F [(cs 0, .int), (cs 1, .byte), (cs 2, .long), (cs 3, .object RX5), (cs 4, .object RX4), (cs 5, .array .int), (cs 6, .char), (cs 7, .boolean)])) (va_Qi (fun (r : Int32) (G : Nat → va_E) => (0 ≤ r.toInt ∧ r.toInt ≤ 1) ∧ True ∧ s_I K cs D G ∧ ∀ b, K b ∉ ([] : List Nat) → G b = F b) (fun (G : Nat → va_E) (t : State) => va_P (dC, dI) vwCl (va_pl L G) t.heap ∧ va_K (dC, dI) vwCl [(cs 0, .int), (cs 1, .byte), (cs 2, .long), (cs 3, .object RX5), (cs 4, .object RX4), (cs 5, .array .int), (cs 6, .char), (cs 7, .boolean)] t) (fun q => q ∈ L)) 0 0 (fun q => q ∈ L) := by
  refine Met.ofW (cc := cX4_canGo) (maxL := 2) (ret := (some .boolean)) (by decide) rfl ?_
  intro p e s m args below meth c s₁ B hml hv
  obtain ⟨rfl, hsz, hP, hK, hD, hN⟩ := hv
  have hx := B.exec
  have hb := B.bytes
  have hr := B.returns
  have hts : ∀ w ∈ T0, w.before _ s = true := fun w h => atoms_spec (ws := Cond.code yX4_canGo cX4_canGo 2 (some .boolean) :: T0) B.pre w (List.mem_cons_of_mem _ h)
  have hown : s.vm.findClass RX4 = some m.cls := findClass_of_methodNamed B.named
  have hlocks := B.notSynchronized
  have hS : va_S (fun q => q ∈ L) s.heap s.heap [] := va_S.rf
  have hfr : ∀ b, K b ∉ ([] : List Nat) → F b = F b := fun _ _ => rfl
  have hl := lv_entry ([.ref a0, .int x1]) (n := 2) (Nat.le_of_ble_eq_true rfl)
  rw [lg_entry_eq]
  generalize (lg_sl ([.ref a0, .int x1]) ++ List.replicate (2 - (lg_sl ([.ref a0, .int x1])).length) Slot.unset).toArray = ls at hl ⊢
  have hl : lv_has ls 2 [(0, .ref a0), (1, .int x1)] := hl
  refine s_gen hP hS (fun H locs hP hS => ?_)
  refine lv_aload_n hx hb dX4_canGo_0 rfl (lv_at hl 0 rfl) ?_
  obtain ⟨z1, z3, z5, z7, z9, z11, z13, z15, z17, z18, z19, z21, z22, z24, z25, o27, h2, h4, h6, h8, h10, h12, h14, h16, h20, h23, h26, -⟩ := s_op5 hI ha0
  refine th_get (D := (dC, dI)) (ci := 4) (v := .ref z1) (C := RX4) (T := TX4) (N := 15) hx hb hts inX4 hown hK hP (hLK _ ha0 (by decide)) o27 rfl 0 (by decide) (hts _ T_107) (fun _ h9 => h9) rfl dX4_canGo_1 ?_
  refine lv_iload_n hx hb dX4_canGo_4 rfl (lv_at hl 1 rfl) ?_
  obtain ⟨f28, o29, h30⟩ := s_op26 hI h2
  obtain ⟨z31, o33, h32⟩ := h30 (x1 : Int32).toNatClampNeg (th_cl ⟨by omega, by omega⟩)
  refine th_aald hx hb hK hP (hLK _ h2 (by decide)) 3 o29 rfl (th_in ⟨by omega, by omega⟩) o33 dX4_canGo_5 ?_
  obtain ⟨z34, z36, z38, z40, z42, z44, z46, z47, z48, z49, z50, o52, h35, h37, h39, h41, h43, h45, h51, -⟩ := s_op6 hI h32
  refine th_getN (D := (dC, dI)) (ci := 5) (v := .int z48) (C := RX5) (T := TX5) (N := 11) hx hb hts inX5 hown hK hP (hLK _ h32 (by decide)) o52 rfl 8 (by decide) (va_Nw.use rfl (ax_n44 hN)) (fun _ h9 => h9) rfl dX4_canGo_6 ?_
  refine lv_aload_n hx hb dX4_canGo_9 rfl (lv_at hl 0 rfl) ?_
  refine th_get (D := (dC, dI)) (ci := 4) (v := .int z21) (C := RX4) (T := TX4) (N := 15) hx hb hts inX4 hown hK hP (hLK _ ha0 (by decide)) o27 rfl 11 (by decide) (hts _ T_837) (fun _ h9 => h9) rfl dX4_canGo_10 ?_
  refine lv_icmp_gt (tgt := 36) hx hb dX4_canGo_13 (by decide) (fun c53 => ?_) (fun c53 => ?_)
  · have c53 := Int32.lt_iff_toInt_lt.mp c53
    refine lv_iconst (v := 0) hx hb dX4_canGo_36 (by decide) ?_
    exact W.zret (v := 0) (ty := .boolean) hx hb hr (by decide) (fun t ht hW => ⟨⟨0, F, rfl, ⟨(by decide), trivial, hI, hfr⟩, by rw [ht]; exact hP, va_K.moved hW.alike hK⟩, hS.F ht⟩) hS.2.2 dX4_canGo_37
  · have c53 := mt Int32.lt_iff_toInt_lt.mpr c53
    refine lv_aload_n hx hb dX4_canGo_16 rfl (lv_at hl 0 rfl) ?_
    refine th_get (D := (dC, dI)) (ci := 4) (v := .ref z1) (C := RX4) (T := TX4) (N := 15) hx hb hts inX4 hown hK hP (hLK _ ha0 (by decide)) o27 rfl 0 (by decide) (hts _ T_107) (fun _ h9 => h9) rfl dX4_canGo_17 ?_
    refine lv_iload_n hx hb dX4_canGo_20 rfl (lv_at hl 1 rfl) ?_
    obtain ⟨f54, o55, h56⟩ := s_op26 hI h2
    obtain ⟨z57, o59, h58⟩ := h56 (x1 : Int32).toNatClampNeg (th_cl ⟨by omega, by omega⟩)
    refine th_aald hx hb hK hP (hLK _ h2 (by decide)) 3 o55 rfl (th_in ⟨by omega, by omega⟩) o59 dX4_canGo_21 ?_
    refine lv_aload_n hx hb dX4_canGo_22 rfl (lv_at hl 0 rfl) ?_
    refine th_get (D := (dC, dI)) (ci := 4) (v := .int z17) (C := RX4) (T := TX4) (N := 15) hx hb hts inX4 hown hK hP (hLK _ ha0 (by decide)) o27 rfl 8 (by decide) (hts _ T_838) (fun _ h9 => h9) rfl dX4_canGo_23 ?_
    obtain ⟨z60, z62, z64, z66, z68, z70, z72, z73, z74, z75, z76, o78, h61, h63, h65, h67, h69, h71, h77, -⟩ := s_op6 hI h58
    refine va_calli (va_runV (As := [.int z17]) (rest := []) ⟨hx, hb, hml, hown, hts⟩ (s_X5_movable l dC dI H.size hLK D F z57 z17 h58 hI) (cwV 1 hts (ax_gV T_839 T_695 T_696 T_116 T_694) rfl rfl rfl (by decide +kernel) ⟨Nat.le_of_ble_eq_true rfl, Nat.le_of_ble_eq_true rfl⟩) ⟨fun a U g mk q => ⟨q.1, s_pc (U := U) rfl rfl q.2⟩, s_recv hK hP (hLK _ h58 (by decide)) (ci := 5) rfl o78, fun U hU hW => ⟨rfl, s_pw hU hW hP hK hD hN⟩⟩ rfl rfl hl.1 rfl (lv_room (Nat.le_of_ble_eq_true rfl)) dX4_canGo_26 ⟨Nat.zero_le _, Nat.zero_le _⟩) hS (fun q _ h => h) (fun q h => h) (fun r79 F80 t H1 locs ht hvm hw hB hz1 hk1 hS => ?_)
    obtain ⟨hP, hK1⟩ := hB
    rw [ht] at hP
    generalize H1 = H at hP hS ⊢
    clear hz1 hk1
    obtain ⟨h81, h82, hI, hfr1⟩ := hw
    have o83 : F80 a0 = .inr (4, [.ref z1, .ref z3, .ref z5, .ref z7, .ref z9, .ref z11, .ref z13, .int z15, .int z17, .int z18, .int z19, .int z21, .int z22, .int z24, .int z25]) := (hfr1 _ (by rw [ha0]; decide)).trans o27
    have o84 : F80 z31 = .inr (5, [.ref z34, .ref z36, .ref z38, .ref z40, .ref z42, .int z44, .int z46, .int z47, .int z48, .int z49, .int z50]) := (hfr1 _ (by rw [h32]; decide)).trans o52
    have o85 : F80 z57 = .inr (5, [.ref z60, .ref z62, .ref z64, .ref z66, .ref z68, .int z70, .int z72, .int z73, .int z74, .int z75, .int z76]) := (hfr1 _ (by rw [h58]; decide)).trans o78
    have hfr : ∀ b, K b ∉ ([] : List Nat) → F80 b = F b := fun b hb9 => (hfr1 b (fun q => hb9 (s_sub (by decide) q))).trans (hfr b hb9)
    refine lv_if_eq (tgt := 36) hx hb dX4_canGo_29 (by decide) (fun c86 => ?_) (fun c86 => ?_)
    · have c86 := (ax_eq (n := 0) (by decide)).mp c86
      refine lv_iconst (v := 0) hx hb dX4_canGo_36 (by decide) ?_
      exact W.zret (v := 0) (ty := .boolean) hx hb hr (by decide) (fun t ht hW => ⟨⟨0, F80, rfl, ⟨(by decide), trivial, hI, hfr⟩, by rw [ht]; exact hP, va_K.moved hW.alike hK⟩, hS.F ht⟩) hS.2.2 dX4_canGo_37
    · have c86 := mt (ax_eq (n := 0) (by decide)).mpr c86
      refine lv_iconst (v := 1) hx hb dX4_canGo_32 (by decide) ?_
      refine lv_goto (tgt := 37) hx hb dX4_canGo_33 (by decide) ?_
      exact W.zret (v := 1) (ty := .boolean) hx hb hr (by decide) (fun t ht hW => ⟨⟨1, F80, rfl, ⟨(by decide), trivial, hI, hfr⟩, by rw [ht]; exact hP, va_K.moved hW.alike hK⟩, hS.F ht⟩) hS.2.2 dX4_canGo_37

set_option maxHeartbeats 4000000 in
set_option maxRecDepth 100000 in
theorem s_X4_hasEnded (l : Launch) (dC : Nat → ClassId) (dI : Nat → Nat → Nat) (sz : Nat) {L : List Nat} {K : Nat → Nat} {cs : Nat → ClassId} (hLK : ∀ a {k : Nat}, K a = k → k ≠ 0 → a ∈ L) (D : Nat) (F : Nat → va_E) (a0 : Nat) (ha0 : K a0 = 5) (hI : s_I K cs D F) : Met l yX4_hasEnded (Cond.code yX4_hasEnded cX4_hasEnded 3 (some .boolean) :: T0) ({ frames := 0, cells := 0, slots := 0, locals := 0 }) (va_Pc [.ref a0] (s_W dC dI sz L F [(cs 0, .int), (cs 1, .byte), (cs 2, .long), (cs 3, .object RX5), (cs 4, .object RX4), (cs 5, .array .int), (cs 6, .char), (cs 7, .boolean)])) (va_Qi (fun (r : Int32) (G : Nat → va_E) => (0 ≤ r.toInt ∧ r.toInt ≤ 1) ∧ True ∧ s_I K cs D G ∧ ∀ b, K b ∉ ([] : List Nat) → G b = F b) (fun (G : Nat → va_E) (t : State) => va_P (dC, dI) vwCl (va_pl L G) t.heap ∧ va_K (dC, dI) vwCl [(cs 0, .int), (cs 1, .byte), (cs 2, .long), (cs 3, .object RX5), (cs 4, .object RX4), (cs 5, .array .int), (cs 6, .char), (cs 7, .boolean)] t) (fun q => q ∈ L)) 0 0 (fun q => q ∈ L) := by
  refine Met.ofW (cc := cX4_hasEnded) (maxL := 3) (ret := (some .boolean)) (by decide) rfl ?_
  intro p e s m args below meth c s₁ B hml hv
  obtain ⟨rfl, hsz, hP, hK, hD, hN⟩ := hv
  have hx := B.exec
  have hb := B.bytes
  have hr := B.returns
  have hts : ∀ w ∈ T0, w.before _ s = true := fun w h => atoms_spec (ws := Cond.code yX4_hasEnded cX4_hasEnded 3 (some .boolean) :: T0) B.pre w (List.mem_cons_of_mem _ h)
  have hown : s.vm.findClass RX4 = some m.cls := findClass_of_methodNamed B.named
  have hlocks := B.notSynchronized
  have hS : va_S (fun q => q ∈ L) s.heap s.heap [] := va_S.rf
  have hfr : ∀ b, K b ∉ ([] : List Nat) → F b = F b := fun _ _ => rfl
  have hl := lv_entry ([.ref a0]) (n := 3) (Nat.le_of_ble_eq_true rfl)
  rw [lg_entry_eq]
  generalize (lg_sl ([.ref a0]) ++ List.replicate (3 - (lg_sl ([.ref a0])).length) Slot.unset).toArray = ls at hl ⊢
  have hl : lv_has ls 3 [(0, .ref a0)] := hl
  refine s_gen hP hS (fun H locs hP hS => ?_)
  refine lv_iconst (v := 0) hx hb dX4_hasEnded_0 (by decide) ?_
  refine lv_istore_n (lv' := [(1, .int 0), (0, .ref a0)]) hx hb dX4_hasEnded_1 rfl hl (by decide) rfl (fun ls hl => ?_)
  refine lv_iconst (v := 0) hx hb dX4_hasEnded_2 (by decide) ?_
  refine lv_istore_n (lv' := [(2, .int 0), (1, .int 0), (0, .ref a0)]) hx hb dX4_hasEnded_3 rfl hl (by decide) rfl (fun ls hl => ?_)
  refine th_loop (fun n g H locs => ∃ (G : Nat → va_E) (ls : Array Slot) (w1 : Int32) (w2 : Int32), g = F0 m 4 ls [] ∧ lv_has ls 3 [(0, .ref a0), (1, .int w1), (2, .int w2)] ∧ s_I K cs D G ∧ va_P (dC, dI) vwCl (va_pl L G) H ∧ va_S (fun q => q ∈ L) s.heap H locs ∧ (∀ b, K b ∉ ([] : List Nat) → G b = F b) ∧ True ∧ (0 ≤ w2.toInt ∧ w2.toInt ≤ 4) ∧ n = (5 - w2.toInt).toNat) _ ⟨F, _, 0, 0, rfl, lv_sub hl [2, 1, 0] rfl, hI, hP, hS, hfr, trivial, (by decide), rfl⟩ (fun n ih4 g H locs hq => ?_)
  obtain ⟨F9, ls, w1, w2, rfl, hl, hI, hP, hS, hfr, h3, h4, hn⟩ := hq
  have hn_4 := hn
  obtain ⟨n_4, hn9_4⟩ : ∃ q, q = n := ⟨_, rfl⟩
  refine lv_iload_n hx hb dX4_hasEnded_4 rfl (lv_at hl 2 rfl) ?_
  refine lv_aload_n hx hb dX4_hasEnded_5 rfl (lv_at hl 0 rfl) ?_
  obtain ⟨z5, z7, z9, z11, z13, z15, z17, z19, z21, z22, z23, z25, z26, z28, z29, o31, h6, h8, h10, h12, h14, h16, h18, h20, h24, h27, h30, -⟩ := s_op5 hI ha0
  refine th_get (D := (dC, dI)) (ci := 4) (v := .int z19) (C := RX4) (T := TX4) (N := 15) hx hb hts inX4 hown hK hP (hLK _ ha0 (by decide)) o31 rfl 7 (by decide) (hts _ T_840) (fun _ h9 => h9) rfl dX4_hasEnded_6 ?_
  refine lv_icmp_ge (tgt := 30) hx hb dX4_hasEnded_9 (by decide) (fun c32 => ?_) (fun c32 => ?_)
  · have c32 := Int32.le_iff_toInt_le.mp c32
    refine lv_iload_n hx hb dX4_hasEnded_30 rfl (lv_at hl 1 rfl) ?_
    refine lv_if_ne (tgt := 38) hx hb dX4_hasEnded_31 (by decide) (fun c33 => ?_) (fun c33 => ?_)
    · have c33 := mt (ax_eq (n := 0) (by decide)).mpr c33
      refine lv_iconst (v := 0) hx hb dX4_hasEnded_38 (by decide) ?_
      exact W.zret (v := 0) (ty := .boolean) hx hb hr (by decide) (fun t ht hW => ⟨⟨0, F9, rfl, ⟨(by decide), trivial, hI, hfr⟩, by rw [ht]; exact hP, va_K.moved hW.alike hK⟩, hS.F ht⟩) hS.2.2 dX4_hasEnded_39
    · have c33 := (ax_eq (n := 0) (by decide)).mp c33
      refine lv_iconst (v := 1) hx hb dX4_hasEnded_34 (by decide) ?_
      refine lv_goto (tgt := 39) hx hb dX4_hasEnded_35 (by decide) ?_
      exact W.zret (v := 1) (ty := .boolean) hx hb hr (by decide) (fun t ht hW => ⟨⟨1, F9, rfl, ⟨(by decide), trivial, hI, hfr⟩, by rw [ht]; exact hP, va_K.moved hW.alike hK⟩, hS.F ht⟩) hS.2.2 dX4_hasEnded_39
  · have c32 := mt Int32.le_iff_toInt_le.mpr c32
    refine lv_iload_n hx hb dX4_hasEnded_12 rfl (lv_at hl 1 rfl) ?_
    refine lv_aload_n hx hb dX4_hasEnded_13 rfl (lv_at hl 0 rfl) ?_
    refine th_get (D := (dC, dI)) (ci := 4) (v := .ref z5) (C := RX4) (T := TX4) (N := 15) hx hb hts inX4 hown hK hP (hLK _ ha0 (by decide)) o31 rfl 0 (by decide) (hts _ T_107) (fun _ h9 => h9) rfl dX4_hasEnded_14 ?_
    refine lv_iload_n hx hb dX4_hasEnded_17 rfl (lv_at hl 2 rfl) ?_
    obtain ⟨f34, o35, h36⟩ := s_op26 hI h6
    obtain ⟨z37, o39, h38⟩ := h36 (w2 : Int32).toNatClampNeg (th_cl ⟨by omega, by omega⟩)
    refine th_aald hx hb hK hP (hLK _ h6 (by decide)) 3 o35 rfl (th_in ⟨by omega, by omega⟩) o39 dX4_hasEnded_18 ?_
    obtain ⟨z40, z42, z44, z46, z48, z50, z52, z53, z54, z55, z56, o58, h41, h43, h45, h47, h49, h51, h57, -⟩ := s_op6 hI h38
    refine th_getN (D := (dC, dI)) (ci := 5) (v := .int z52) (C := RX5) (T := TX5) (N := 11) hx hb hts inX5 hown hK hP (hLK _ h38 (by decide)) o58 rfl 6 (by decide) (va_Nw.use rfl (ax_n45 hN)) (fun _ h9 => h9) rfl dX4_hasEnded_19 ?_
    refine lv_ior hx hb dX4_hasEnded_22 ?_
    refine lv_topi (fun v59 ev59 => ?_)
    refine lv_istore_n (lv' := [(1, .int v59), (0, .ref a0), (2, .int w2)]) hx hb dX4_hasEnded_23 rfl hl (by decide) rfl (fun ls hl => ?_)
    obtain ⟨v60, ev60⟩ : ∃ y : Int32, w2 + 1 = y := ⟨_, rfl⟩
    have qv60 : v60.toInt = w2.toInt + 1 := by rw [← ev60]; exact th_add rfl (by decide) ⟨by omega, by omega⟩
    refine lv_iinc (v := v60) (lv' := [(2, .int v60), (1, .int v59), (0, .ref a0)]) hx hb dX4_hasEnded_24 hl (k := 2) rfl ev60 (by decide) rfl (fun ls hl => ?_)
    refine lv_goto (tgt := 4) hx hb dX4_hasEnded_27 (by decide) ?_
    exact ih4 _ _ _ _ (by omega) ⟨F9, _, v59, v60, rfl, lv_sub hl [2, 1, 0] rfl, hI, hP, hS, hfr, trivial, ⟨by omega, by omega⟩, rfl⟩

set_option maxHeartbeats 4000000 in
set_option maxRecDepth 100000 in
theorem s_X4_hasNoneToGo (l : Launch) (dC : Nat → ClassId) (dI : Nat → Nat → Nat) (sz : Nat) {L : List Nat} {K : Nat → Nat} {cs : Nat → ClassId} (hLK : ∀ a {k : Nat}, K a = k → k ≠ 0 → a ∈ L) (D : Nat) (F : Nat → va_E) (a0 : Nat) (ha0 : K a0 = 5) (hI : s_I K cs D F) : Met l yX4_hasNoneToGo (Cond.code yX4_hasNoneToGo cX4_hasNoneToGo 3 (some .boolean) :: T0) ({ frames := 1, cells := 0, slots := 0, locals := 22 }) (va_Pc [.ref a0] (s_W dC dI sz L F [(cs 0, .int), (cs 1, .byte), (cs 2, .long), (cs 3, .object RX5), (cs 4, .object RX4), (cs 5, .array .int), (cs 6, .char), (cs 7, .boolean)])) (va_Qi (fun (r : Int32) (G : Nat → va_E) => (0 ≤ r.toInt ∧ r.toInt ≤ 1) ∧ True ∧ s_I K cs D G ∧ ∀ b, K b ∉ ([] : List Nat) → G b = F b) (fun (G : Nat → va_E) (t : State) => va_P (dC, dI) vwCl (va_pl L G) t.heap ∧ va_K (dC, dI) vwCl [(cs 0, .int), (cs 1, .byte), (cs 2, .long), (cs 3, .object RX5), (cs 4, .object RX4), (cs 5, .array .int), (cs 6, .char), (cs 7, .boolean)] t) (fun q => q ∈ L)) 0 0 (fun q => q ∈ L) := by
  refine Met.ofW (cc := cX4_hasNoneToGo) (maxL := 3) (ret := (some .boolean)) (by decide) rfl ?_
  intro p e s m args below meth c s₁ B hml hv
  obtain ⟨rfl, hsz, hP, hK, hD, hN⟩ := hv
  have hx := B.exec
  have hb := B.bytes
  have hr := B.returns
  have hts : ∀ w ∈ T0, w.before _ s = true := fun w h => atoms_spec (ws := Cond.code yX4_hasNoneToGo cX4_hasNoneToGo 3 (some .boolean) :: T0) B.pre w (List.mem_cons_of_mem _ h)
  have hown : s.vm.findClass RX4 = some m.cls := findClass_of_methodNamed B.named
  have hlocks := B.notSynchronized
  have hS : va_S (fun q => q ∈ L) s.heap s.heap [] := va_S.rf
  have hfr : ∀ b, K b ∉ ([] : List Nat) → F b = F b := fun _ _ => rfl
  have hl := lv_entry ([.ref a0]) (n := 3) (Nat.le_of_ble_eq_true rfl)
  rw [lg_entry_eq]
  generalize (lg_sl ([.ref a0]) ++ List.replicate (3 - (lg_sl ([.ref a0])).length) Slot.unset).toArray = ls at hl ⊢
  have hl : lv_has ls 3 [(0, .ref a0)] := hl
  refine s_gen hP hS (fun H locs hP hS => ?_)
  refine lv_iconst (v := 0) hx hb dX4_hasNoneToGo_0 (by decide) ?_
  refine lv_istore_n (lv' := [(1, .int 0), (0, .ref a0)]) hx hb dX4_hasNoneToGo_1 rfl hl (by decide) rfl (fun ls hl => ?_)
  refine lv_iconst (v := 0) hx hb dX4_hasNoneToGo_2 (by decide) ?_
  refine lv_istore_n (lv' := [(2, .int 0), (1, .int 0), (0, .ref a0)]) hx hb dX4_hasNoneToGo_3 rfl hl (by decide) rfl (fun ls hl => ?_)
  refine th_loop (fun n g H locs => ∃ (G : Nat → va_E) (ls : Array Slot) (w1 : Int32) (w2 : Int32), g = F0 m 4 ls [] ∧ lv_has ls 3 [(0, .ref a0), (1, .int w1), (2, .int w2)] ∧ s_I K cs D G ∧ va_P (dC, dI) vwCl (va_pl L G) H ∧ va_S (fun q => q ∈ L) s.heap H locs ∧ (∀ b, K b ∉ ([] : List Nat) → G b = F b) ∧ True ∧ (0 ≤ w2.toInt ∧ w2.toInt ≤ 4) ∧ n = (5 - w2.toInt).toNat) _ ⟨F, _, 0, 0, rfl, lv_sub hl [2, 1, 0] rfl, hI, hP, hS, hfr, trivial, (by decide), rfl⟩ (fun n ih4 g H locs hq => ?_)
  obtain ⟨F9, ls, w1, w2, rfl, hl, hI, hP, hS, hfr, h3, h4, hn⟩ := hq
  have hn_4 := hn
  obtain ⟨n_4, hn9_4⟩ : ∃ q, q = n := ⟨_, rfl⟩
  refine lv_iload_n hx hb dX4_hasNoneToGo_4 rfl (lv_at hl 2 rfl) ?_
  refine lv_aload_n hx hb dX4_hasNoneToGo_5 rfl (lv_at hl 0 rfl) ?_
  obtain ⟨z5, z7, z9, z11, z13, z15, z17, z19, z21, z22, z23, z25, z26, z28, z29, o31, h6, h8, h10, h12, h14, h16, h18, h20, h24, h27, h30, -⟩ := s_op5 hI ha0
  refine th_get (D := (dC, dI)) (ci := 4) (v := .int z19) (C := RX4) (T := TX4) (N := 15) hx hb hts inX4 hown hK hP (hLK _ ha0 (by decide)) o31 rfl 7 (by decide) (hts _ T_840) (fun _ h9 => h9) rfl dX4_hasNoneToGo_6 ?_
  refine lv_icmp_ge (tgt := 34) hx hb dX4_hasNoneToGo_9 (by decide) (fun c32 => ?_) (fun c32 => ?_)
  · have c32 := Int32.le_iff_toInt_le.mp c32
    refine lv_iload_n hx hb dX4_hasNoneToGo_34 rfl (lv_at hl 1 rfl) ?_
    refine lv_if_ne (tgt := 42) hx hb dX4_hasNoneToGo_35 (by decide) (fun c33 => ?_) (fun c33 => ?_)
    · have c33 := mt (ax_eq (n := 0) (by decide)).mpr c33
      refine lv_iconst (v := 0) hx hb dX4_hasNoneToGo_42 (by decide) ?_
      exact W.zret (v := 0) (ty := .boolean) hx hb hr (by decide) (fun t ht hW => ⟨⟨0, F9, rfl, ⟨(by decide), trivial, hI, hfr⟩, by rw [ht]; exact hP, va_K.moved hW.alike hK⟩, hS.F ht⟩) hS.2.2 dX4_hasNoneToGo_43
    · have c33 := (ax_eq (n := 0) (by decide)).mp c33
      refine lv_iconst (v := 1) hx hb dX4_hasNoneToGo_38 (by decide) ?_
      refine lv_goto (tgt := 43) hx hb dX4_hasNoneToGo_39 (by decide) ?_
      exact W.zret (v := 1) (ty := .boolean) hx hb hr (by decide) (fun t ht hW => ⟨⟨1, F9, rfl, ⟨(by decide), trivial, hI, hfr⟩, by rw [ht]; exact hP, va_K.moved hW.alike hK⟩, hS.F ht⟩) hS.2.2 dX4_hasNoneToGo_43
  · have c32 := mt Int32.le_iff_toInt_le.mpr c32
    refine lv_iload_n hx hb dX4_hasNoneToGo_12 rfl (lv_at hl 1 rfl) ?_
    refine lv_aload_n hx hb dX4_hasNoneToGo_13 rfl (lv_at hl 0 rfl) ?_
    refine th_get (D := (dC, dI)) (ci := 4) (v := .ref z5) (C := RX4) (T := TX4) (N := 15) hx hb hts inX4 hown hK hP (hLK _ ha0 (by decide)) o31 rfl 0 (by decide) (hts _ T_107) (fun _ h9 => h9) rfl dX4_hasNoneToGo_14 ?_
    refine lv_iload_n hx hb dX4_hasNoneToGo_17 rfl (lv_at hl 2 rfl) ?_
    obtain ⟨f34, o35, h36⟩ := s_op26 hI h6
    obtain ⟨z37, o39, h38⟩ := h36 (w2 : Int32).toNatClampNeg (th_cl ⟨by omega, by omega⟩)
    refine th_aald hx hb hK hP (hLK _ h6 (by decide)) 3 o35 rfl (th_in ⟨by omega, by omega⟩) o39 dX4_hasNoneToGo_18 ?_
    refine lv_aload_n hx hb dX4_hasNoneToGo_19 rfl (lv_at hl 0 rfl) ?_
    refine th_get (D := (dC, dI)) (ci := 4) (v := .int z21) (C := RX4) (T := TX4) (N := 15) hx hb hts inX4 hown hK hP (hLK _ ha0 (by decide)) o31 rfl 8 (by decide) (hts _ T_838) (fun _ h9 => h9) rfl dX4_hasNoneToGo_20 ?_
    obtain ⟨z40, z42, z44, z46, z48, z50, z52, z53, z54, z55, z56, o58, h41, h43, h45, h47, h49, h51, h57, -⟩ := s_op6 hI h38
    refine va_calli (va_runV (As := [.int z21]) (rest := [.int w1]) ⟨hx, hb, hml, hown, hts⟩ (s_X5_movable l dC dI H.size hLK D F9 z37 z21 h38 hI) (cwV 1 hts (ax_gV T_839 T_695 T_696 T_116 T_694) rfl rfl rfl (by decide +kernel) ⟨Nat.le_of_ble_eq_true rfl, Nat.le_of_ble_eq_true rfl⟩) ⟨fun a U g mk q => ⟨q.1, s_pc (U := U) rfl rfl q.2⟩, s_recv hK hP (hLK _ h38 (by decide)) (ci := 5) rfl o58, fun U hU hW => ⟨rfl, s_pw hU hW hP hK hD hN⟩⟩ rfl rfl hl.1 rfl (lv_room (Nat.le_of_ble_eq_true rfl)) dX4_hasNoneToGo_23 ⟨Nat.zero_le _, Nat.zero_le _⟩) hS (fun q _ h => h) (fun q h => h) (fun r59 F60 t H1 locs ht hvm hw hB hz1 hk1 hS => ?_)
    obtain ⟨hP, hK1⟩ := hB
    rw [ht] at hP
    generalize H1 = H at hP hS ⊢
    clear hz1 hk1
    obtain ⟨h61, h62, hI, hfr1⟩ := hw
    have o63 : F60 a0 = .inr (4, [.ref z5, .ref z7, .ref z9, .ref z11, .ref z13, .ref z15, .ref z17, .int z19, .int z21, .int z22, .int z23, .int z25, .int z26, .int z28, .int z29]) := (hfr1 _ (by rw [ha0]; decide)).trans o31
    have o64 : F60 z37 = .inr (5, [.ref z40, .ref z42, .ref z44, .ref z46, .ref z48, .int z50, .int z52, .int z53, .int z54, .int z55, .int z56]) := (hfr1 _ (by rw [h38]; decide)).trans o58
    have hfr : ∀ b, K b ∉ ([] : List Nat) → F60 b = F b := fun b hb9 => (hfr1 b (fun q => hb9 (s_sub (by decide) q))).trans (hfr b hb9)
    refine lv_ior hx hb dX4_hasNoneToGo_26 ?_
    refine lv_topi (fun v65 ev65 => ?_)
    refine lv_istore_n (lv' := [(1, .int v65), (0, .ref a0), (2, .int w2)]) hx hb dX4_hasNoneToGo_27 rfl hl (by decide) rfl (fun ls hl => ?_)
    obtain ⟨v66, ev66⟩ : ∃ y : Int32, w2 + 1 = y := ⟨_, rfl⟩
    have qv66 : v66.toInt = w2.toInt + 1 := by rw [← ev66]; exact th_add rfl (by decide) ⟨by omega, by omega⟩
    refine lv_iinc (v := v66) (lv' := [(2, .int v66), (1, .int v65), (0, .ref a0)]) hx hb dX4_hasNoneToGo_28 hl (k := 2) rfl ev66 (by decide) rfl (fun ls hl => ?_)
    refine lv_goto (tgt := 4) hx hb dX4_hasNoneToGo_31 (by decide) ?_
    exact ih4 _ _ _ _ (by omega) ⟨F60, _, v65, v66, rfl, lv_sub hl [2, 1, 0] rfl, hI, hP, hS, hfr, trivial, ⟨by omega, by omega⟩, rfl⟩

set_option maxHeartbeats 4000000 in
set_option maxRecDepth 100000 in
theorem s_X4_living (l : Launch) (dC : Nat → ClassId) (dI : Nat → Nat → Nat) (sz : Nat) {L : List Nat} {K : Nat → Nat} {cs : Nat → ClassId} (hLK : ∀ a {k : Nat}, K a = k → k ≠ 0 → a ∈ L) (D : Nat) (F : Nat → va_E) (a0 : Nat) (ha0 : K a0 = 5) (hI : s_I K cs D F) : Met l yX4_living (Cond.code yX4_living cX4_living 3 (some .int) :: T0) ({ frames := 1, cells := 0, slots := 0, locals := 20 }) (va_Pc [.ref a0] (s_W dC dI sz L F [(cs 0, .int), (cs 1, .byte), (cs 2, .long), (cs 3, .object RX5), (cs 4, .object RX4), (cs 5, .array .int), (cs 6, .char), (cs 7, .boolean)])) (va_Qi (fun (r : Int32) (G : Nat → va_E) => True ∧ True ∧ s_I K cs D G ∧ ∀ b, K b ∉ ([] : List Nat) → G b = F b) (fun (G : Nat → va_E) (t : State) => va_P (dC, dI) vwCl (va_pl L G) t.heap ∧ va_K (dC, dI) vwCl [(cs 0, .int), (cs 1, .byte), (cs 2, .long), (cs 3, .object RX5), (cs 4, .object RX4), (cs 5, .array .int), (cs 6, .char), (cs 7, .boolean)] t) (fun q => q ∈ L)) 0 0 (fun q => q ∈ L) := by
  refine Met.ofW (cc := cX4_living) (maxL := 3) (ret := (some .int)) (by decide) rfl ?_
  intro p e s m args below meth c s₁ B hml hv
  obtain ⟨rfl, hsz, hP, hK, hD, hN⟩ := hv
  have hx := B.exec
  have hb := B.bytes
  have hr := B.returns
  have hts : ∀ w ∈ T0, w.before _ s = true := fun w h => atoms_spec (ws := Cond.code yX4_living cX4_living 3 (some .int) :: T0) B.pre w (List.mem_cons_of_mem _ h)
  have hown : s.vm.findClass RX4 = some m.cls := findClass_of_methodNamed B.named
  have hlocks := B.notSynchronized
  have hS : va_S (fun q => q ∈ L) s.heap s.heap [] := va_S.rf
  have hfr : ∀ b, K b ∉ ([] : List Nat) → F b = F b := fun _ _ => rfl
  have hl := lv_entry ([.ref a0]) (n := 3) (Nat.le_of_ble_eq_true rfl)
  rw [lg_entry_eq]
  generalize (lg_sl ([.ref a0]) ++ List.replicate (3 - (lg_sl ([.ref a0])).length) Slot.unset).toArray = ls at hl ⊢
  have hl : lv_has ls 3 [(0, .ref a0)] := hl
  refine s_gen hP hS (fun H locs hP hS => ?_)
  refine lv_iconst (v := 0) hx hb dX4_living_0 (by decide) ?_
  refine lv_istore_n (lv' := [(1, .int 0), (0, .ref a0)]) hx hb dX4_living_1 rfl hl (by decide) rfl (fun ls hl => ?_)
  refine lv_iconst (v := 0) hx hb dX4_living_2 (by decide) ?_
  refine lv_istore_n (lv' := [(2, .int 0), (1, .int 0), (0, .ref a0)]) hx hb dX4_living_3 rfl hl (by decide) rfl (fun ls hl => ?_)
  refine th_loop (fun n g H locs => ∃ (G : Nat → va_E) (ls : Array Slot) (w1 : Int32) (w2 : Int32), g = F0 m 4 ls [] ∧ lv_has ls 3 [(0, .ref a0), (1, .int w1), (2, .int w2)] ∧ s_I K cs D G ∧ va_P (dC, dI) vwCl (va_pl L G) H ∧ va_S (fun q => q ∈ L) s.heap H locs ∧ (∀ b, K b ∉ ([] : List Nat) → G b = F b) ∧ True ∧ (0 ≤ w2.toInt ∧ w2.toInt ≤ 4) ∧ n = (5 - w2.toInt).toNat) _ ⟨F, _, 0, 0, rfl, lv_sub hl [2, 1, 0] rfl, hI, hP, hS, hfr, trivial, (by decide), rfl⟩ (fun n ih4 g H locs hq => ?_)
  obtain ⟨F9, ls, w1, w2, rfl, hl, hI, hP, hS, hfr, h3, h4, hn⟩ := hq
  have hn_4 := hn
  obtain ⟨n_4, hn9_4⟩ : ∃ q, q = n := ⟨_, rfl⟩
  refine lv_iload_n hx hb dX4_living_4 rfl (lv_at hl 2 rfl) ?_
  refine lv_aload_n hx hb dX4_living_5 rfl (lv_at hl 0 rfl) ?_
  obtain ⟨z5, z7, z9, z11, z13, z15, z17, z19, z21, z22, z23, z25, z26, z28, z29, o31, h6, h8, h10, h12, h14, h16, h18, h20, h24, h27, h30, -⟩ := s_op5 hI ha0
  refine th_get (D := (dC, dI)) (ci := 4) (v := .int z19) (C := RX4) (T := TX4) (N := 15) hx hb hts inX4 hown hK hP (hLK _ ha0 (by decide)) o31 rfl 7 (by decide) (hts _ T_840) (fun _ h9 => h9) rfl dX4_living_6 ?_
  refine lv_icmp_ge (tgt := 33) hx hb dX4_living_9 (by decide) (fun c32 => ?_) (fun c32 => ?_)
  · have c32 := Int32.le_iff_toInt_le.mp c32
    refine lv_iload_n hx hb dX4_living_33 rfl (lv_at hl 1 rfl) ?_
    exact W.iret (v := w1) hx hb hr (fun t ht hW => ⟨⟨w1, F9, rfl, ⟨trivial, trivial, hI, hfr⟩, by rw [ht]; exact hP, va_K.moved hW.alike hK⟩, hS.F ht⟩) hS.2.2 dX4_living_34
  · have c32 := mt Int32.le_iff_toInt_le.mpr c32
    refine lv_iload_n hx hb dX4_living_12 rfl (lv_at hl 1 rfl) ?_
    refine lv_aload_n hx hb dX4_living_13 rfl (lv_at hl 0 rfl) ?_
    refine th_get (D := (dC, dI)) (ci := 4) (v := .ref z5) (C := RX4) (T := TX4) (N := 15) hx hb hts inX4 hown hK hP (hLK _ ha0 (by decide)) o31 rfl 0 (by decide) (hts _ T_107) (fun _ h9 => h9) rfl dX4_living_14 ?_
    refine lv_iload_n hx hb dX4_living_17 rfl (lv_at hl 2 rfl) ?_
    obtain ⟨f33, o34, h35⟩ := s_op26 hI h6
    obtain ⟨z36, o38, h37⟩ := h35 (w2 : Int32).toNatClampNeg (th_cl ⟨by omega, by omega⟩)
    refine th_aald hx hb hK hP (hLK _ h6 (by decide)) 3 o34 rfl (th_in ⟨by omega, by omega⟩) o38 dX4_living_18 ?_
    obtain ⟨z39, z41, z43, z45, z47, z49, z51, z52, z53, z54, z55, o57, h40, h42, h44, h46, h48, h50, h56, -⟩ := s_op6 hI h37
    refine th_getN (D := (dC, dI)) (ci := 5) (v := .int z51) (C := RX5) (T := TX5) (N := 11) hx hb hts inX5 hown hK hP (hLK _ h37 (by decide)) o57 rfl 6 (by decide) (va_Nw.use rfl (ax_n45 hN)) (fun _ h9 => h9) rfl dX4_living_19 ?_
    refine va_calli (va_runS (As := [.int z51]) (rest := [.int w1]) ⟨hx, hb, hml, hown, hts⟩ (s_J6_bitCount_0f7a4 l dC dI H.size hLK D F9 z51 hI) ⟨callB_of 1 hts (ax_gT T_653) rfl rfl rfl (hts _ T_652) (hts _ T_868) (by decide +kernel) ⟨Nat.le_of_ble_eq_true rfl, Nat.le_of_ble_eq_true rfl⟩, hts _ T_654⟩ ⟨fun a U g mk q => ⟨q.1, s_pc (U := U) rfl rfl q.2⟩, fun U hU hW => ⟨rfl, s_pw hU hW hP hK hD hN⟩⟩ rfl rfl hl.1 rfl (lv_room (Nat.le_of_ble_eq_true rfl)) dX4_living_22 ⟨Nat.zero_le _, Nat.zero_le _⟩) hS (fun q _ h => h) (fun q h => h) (fun r58 F59 t H1 locs ht hvm hw hB hz1 hk1 hS => ?_)
    obtain ⟨hP, hK1⟩ := hB
    rw [ht] at hP
    generalize H1 = H at hP hS ⊢
    clear hz1 hk1
    obtain ⟨h60, h61, hI, hfr1⟩ := hw
    have o62 : F59 a0 = .inr (4, [.ref z5, .ref z7, .ref z9, .ref z11, .ref z13, .ref z15, .ref z17, .int z19, .int z21, .int z22, .int z23, .int z25, .int z26, .int z28, .int z29]) := (hfr1 _ (by rw [ha0]; decide)).trans o31
    have o63 : F59 z36 = .inr (5, [.ref z39, .ref z41, .ref z43, .ref z45, .ref z47, .int z49, .int z51, .int z52, .int z53, .int z54, .int z55]) := (hfr1 _ (by rw [h37]; decide)).trans o57
    have hfr : ∀ b, K b ∉ ([] : List Nat) → F59 b = F b := fun b hb9 => (hfr1 b (fun q => hb9 (s_sub (by decide) q))).trans (hfr b hb9)
    refine lv_iadd hx hb dX4_living_25 ?_
    refine lv_topi (fun v64 ev64 => ?_)
    refine lv_istore_n (lv' := [(1, .int v64), (0, .ref a0), (2, .int w2)]) hx hb dX4_living_26 rfl hl (by decide) rfl (fun ls hl => ?_)
    obtain ⟨v65, ev65⟩ : ∃ y : Int32, w2 + 1 = y := ⟨_, rfl⟩
    have qv65 : v65.toInt = w2.toInt + 1 := by rw [← ev65]; exact th_add rfl (by decide) ⟨by omega, by omega⟩
    refine lv_iinc (v := v65) (lv' := [(2, .int v65), (1, .int v64), (0, .ref a0)]) hx hb dX4_living_27 hl (k := 2) rfl ev65 (by decide) rfl (fun ls hl => ?_)
    refine lv_goto (tgt := 4) hx hb dX4_living_30 (by decide) ?_
    exact ih4 _ _ _ _ (by omega) ⟨F59, _, v64, v65, rfl, lv_sub hl [2, 1, 0] rfl, hI, hP, hS, hfr, trivial, ⟨by omega, by omega⟩, rfl⟩

set_option maxHeartbeats 4000000 in
set_option maxRecDepth 100000 in
theorem s_X4_waiting (l : Launch) (dC : Nat → ClassId) (dI : Nat → Nat → Nat) (sz : Nat) {L : List Nat} {K : Nat → Nat} {cs : Nat → ClassId} (hLK : ∀ a {k : Nat}, K a = k → k ≠ 0 → a ∈ L) (D : Nat) (F : Nat → va_E) (a0 : Nat) (ha0 : K a0 = 5) (hI : s_I K cs D F) : Met l yX4_waiting (Cond.code yX4_waiting cX4_waiting 3 (some .int) :: T0) ({ frames := 1, cells := 0, slots := 0, locals := 20 }) (va_Pc [.ref a0] (s_W dC dI sz L F [(cs 0, .int), (cs 1, .byte), (cs 2, .long), (cs 3, .object RX5), (cs 4, .object RX4), (cs 5, .array .int), (cs 6, .char), (cs 7, .boolean)])) (va_Qi (fun (r : Int32) (G : Nat → va_E) => True ∧ True ∧ s_I K cs D G ∧ ∀ b, K b ∉ ([] : List Nat) → G b = F b) (fun (G : Nat → va_E) (t : State) => va_P (dC, dI) vwCl (va_pl L G) t.heap ∧ va_K (dC, dI) vwCl [(cs 0, .int), (cs 1, .byte), (cs 2, .long), (cs 3, .object RX5), (cs 4, .object RX4), (cs 5, .array .int), (cs 6, .char), (cs 7, .boolean)] t) (fun q => q ∈ L)) 0 0 (fun q => q ∈ L) := by
  refine Met.ofW (cc := cX4_waiting) (maxL := 3) (ret := (some .int)) (by decide) rfl ?_
  intro p e s m args below meth c s₁ B hml hv
  obtain ⟨rfl, hsz, hP, hK, hD, hN⟩ := hv
  have hx := B.exec
  have hb := B.bytes
  have hr := B.returns
  have hts : ∀ w ∈ T0, w.before _ s = true := fun w h => atoms_spec (ws := Cond.code yX4_waiting cX4_waiting 3 (some .int) :: T0) B.pre w (List.mem_cons_of_mem _ h)
  have hown : s.vm.findClass RX4 = some m.cls := findClass_of_methodNamed B.named
  have hlocks := B.notSynchronized
  have hS : va_S (fun q => q ∈ L) s.heap s.heap [] := va_S.rf
  have hfr : ∀ b, K b ∉ ([] : List Nat) → F b = F b := fun _ _ => rfl
  have hl := lv_entry ([.ref a0]) (n := 3) (Nat.le_of_ble_eq_true rfl)
  rw [lg_entry_eq]
  generalize (lg_sl ([.ref a0]) ++ List.replicate (3 - (lg_sl ([.ref a0])).length) Slot.unset).toArray = ls at hl ⊢
  have hl : lv_has ls 3 [(0, .ref a0)] := hl
  refine s_gen hP hS (fun H locs hP hS => ?_)
  refine lv_iconst (v := 0) hx hb dX4_waiting_0 (by decide) ?_
  refine lv_istore_n (lv' := [(1, .int 0), (0, .ref a0)]) hx hb dX4_waiting_1 rfl hl (by decide) rfl (fun ls hl => ?_)
  refine lv_iconst (v := 0) hx hb dX4_waiting_2 (by decide) ?_
  refine lv_istore_n (lv' := [(2, .int 0), (1, .int 0), (0, .ref a0)]) hx hb dX4_waiting_3 rfl hl (by decide) rfl (fun ls hl => ?_)
  refine th_loop (fun n g H locs => ∃ (G : Nat → va_E) (ls : Array Slot) (w1 : Int32) (w2 : Int32), g = F0 m 4 ls [] ∧ lv_has ls 3 [(0, .ref a0), (1, .int w1), (2, .int w2)] ∧ s_I K cs D G ∧ va_P (dC, dI) vwCl (va_pl L G) H ∧ va_S (fun q => q ∈ L) s.heap H locs ∧ (∀ b, K b ∉ ([] : List Nat) → G b = F b) ∧ True ∧ (0 ≤ w2.toInt ∧ w2.toInt ≤ 4) ∧ n = (5 - w2.toInt).toNat) _ ⟨F, _, 0, 0, rfl, lv_sub hl [2, 1, 0] rfl, hI, hP, hS, hfr, trivial, (by decide), rfl⟩ (fun n ih4 g H locs hq => ?_)
  obtain ⟨F9, ls, w1, w2, rfl, hl, hI, hP, hS, hfr, h3, h4, hn⟩ := hq
  have hn_4 := hn
  obtain ⟨n_4, hn9_4⟩ : ∃ q, q = n := ⟨_, rfl⟩
  refine lv_iload_n hx hb dX4_waiting_4 rfl (lv_at hl 2 rfl) ?_
  refine lv_aload_n hx hb dX4_waiting_5 rfl (lv_at hl 0 rfl) ?_
  obtain ⟨z5, z7, z9, z11, z13, z15, z17, z19, z21, z22, z23, z25, z26, z28, z29, o31, h6, h8, h10, h12, h14, h16, h18, h20, h24, h27, h30, -⟩ := s_op5 hI ha0
  refine th_get (D := (dC, dI)) (ci := 4) (v := .int z19) (C := RX4) (T := TX4) (N := 15) hx hb hts inX4 hown hK hP (hLK _ ha0 (by decide)) o31 rfl 7 (by decide) (hts _ T_840) (fun _ h9 => h9) rfl dX4_waiting_6 ?_
  refine lv_icmp_ge (tgt := 33) hx hb dX4_waiting_9 (by decide) (fun c32 => ?_) (fun c32 => ?_)
  · have c32 := Int32.le_iff_toInt_le.mp c32
    refine lv_iload_n hx hb dX4_waiting_33 rfl (lv_at hl 1 rfl) ?_
    exact W.iret (v := w1) hx hb hr (fun t ht hW => ⟨⟨w1, F9, rfl, ⟨trivial, trivial, hI, hfr⟩, by rw [ht]; exact hP, va_K.moved hW.alike hK⟩, hS.F ht⟩) hS.2.2 dX4_waiting_34
  · have c32 := mt Int32.le_iff_toInt_le.mpr c32
    refine lv_iload_n hx hb dX4_waiting_12 rfl (lv_at hl 1 rfl) ?_
    refine lv_aload_n hx hb dX4_waiting_13 rfl (lv_at hl 0 rfl) ?_
    refine th_get (D := (dC, dI)) (ci := 4) (v := .ref z5) (C := RX4) (T := TX4) (N := 15) hx hb hts inX4 hown hK hP (hLK _ ha0 (by decide)) o31 rfl 0 (by decide) (hts _ T_107) (fun _ h9 => h9) rfl dX4_waiting_14 ?_
    refine lv_iload_n hx hb dX4_waiting_17 rfl (lv_at hl 2 rfl) ?_
    obtain ⟨f33, o34, h35⟩ := s_op26 hI h6
    obtain ⟨z36, o38, h37⟩ := h35 (w2 : Int32).toNatClampNeg (th_cl ⟨by omega, by omega⟩)
    refine th_aald hx hb hK hP (hLK _ h6 (by decide)) 3 o34 rfl (th_in ⟨by omega, by omega⟩) o38 dX4_waiting_18 ?_
    obtain ⟨z39, z41, z43, z45, z47, z49, z51, z52, z53, z54, z55, o57, h40, h42, h44, h46, h48, h50, h56, -⟩ := s_op6 hI h37
    refine th_getN (D := (dC, dI)) (ci := 5) (v := .int z52) (C := RX5) (T := TX5) (N := 11) hx hb hts inX5 hown hK hP (hLK _ h37 (by decide)) o57 rfl 7 (by decide) (va_Nw.use rfl (ax_n47 hN)) (fun _ h9 => h9) rfl dX4_waiting_19 ?_
    refine va_calli (va_runS (As := [.int z52]) (rest := [.int w1]) ⟨hx, hb, hml, hown, hts⟩ (s_J6_bitCount_0f7a4 l dC dI H.size hLK D F9 z52 hI) ⟨callB_of 1 hts (ax_gT T_653) rfl rfl rfl (hts _ T_652) (hts _ T_868) (by decide +kernel) ⟨Nat.le_of_ble_eq_true rfl, Nat.le_of_ble_eq_true rfl⟩, hts _ T_654⟩ ⟨fun a U g mk q => ⟨q.1, s_pc (U := U) rfl rfl q.2⟩, fun U hU hW => ⟨rfl, s_pw hU hW hP hK hD hN⟩⟩ rfl rfl hl.1 rfl (lv_room (Nat.le_of_ble_eq_true rfl)) dX4_waiting_22 ⟨Nat.zero_le _, Nat.zero_le _⟩) hS (fun q _ h => h) (fun q h => h) (fun r58 F59 t H1 locs ht hvm hw hB hz1 hk1 hS => ?_)
    obtain ⟨hP, hK1⟩ := hB
    rw [ht] at hP
    generalize H1 = H at hP hS ⊢
    clear hz1 hk1
    obtain ⟨h60, h61, hI, hfr1⟩ := hw
    have o62 : F59 a0 = .inr (4, [.ref z5, .ref z7, .ref z9, .ref z11, .ref z13, .ref z15, .ref z17, .int z19, .int z21, .int z22, .int z23, .int z25, .int z26, .int z28, .int z29]) := (hfr1 _ (by rw [ha0]; decide)).trans o31
    have o63 : F59 z36 = .inr (5, [.ref z39, .ref z41, .ref z43, .ref z45, .ref z47, .int z49, .int z51, .int z52, .int z53, .int z54, .int z55]) := (hfr1 _ (by rw [h37]; decide)).trans o57
    have hfr : ∀ b, K b ∉ ([] : List Nat) → F59 b = F b := fun b hb9 => (hfr1 b (fun q => hb9 (s_sub (by decide) q))).trans (hfr b hb9)
    refine lv_iadd hx hb dX4_waiting_25 ?_
    refine lv_topi (fun v64 ev64 => ?_)
    refine lv_istore_n (lv' := [(1, .int v64), (0, .ref a0), (2, .int w2)]) hx hb dX4_waiting_26 rfl hl (by decide) rfl (fun ls hl => ?_)
    obtain ⟨v65, ev65⟩ : ∃ y : Int32, w2 + 1 = y := ⟨_, rfl⟩
    have qv65 : v65.toInt = w2.toInt + 1 := by rw [← ev65]; exact th_add rfl (by decide) ⟨by omega, by omega⟩
    refine lv_iinc (v := v65) (lv' := [(2, .int v65), (1, .int v64), (0, .ref a0)]) hx hb dX4_waiting_27 hl (k := 2) rfl ev65 (by decide) rfl (fun ls hl => ?_)
    refine lv_goto (tgt := 4) hx hb dX4_waiting_30 (by decide) ?_
    exact ih4 _ _ _ _ (by omega) ⟨F59, _, v64, v65, rfl, lv_sub hl [2, 1, 0] rfl, hI, hP, hS, hfr, trivial, ⟨by omega, by omega⟩, rfl⟩

set_option maxHeartbeats 4000000 in
set_option maxRecDepth 100000 in
theorem s_X4_racedWords (l : Launch) (dC : Nat → ClassId) (dI : Nat → Nat → Nat) (sz : Nat) {L : List Nat} {K : Nat → Nat} {cs : Nat → ClassId} (hLK : ∀ a {k : Nat}, K a = k → k ≠ 0 → a ∈ L) (D : Nat) (F : Nat → va_E) (a0 : Nat) (ha0 : K a0 = 5) (hI : s_I K cs D F) : Met l yX4_racedWords (Cond.code yX4_racedWords cX4_racedWords 3 (some .int) :: T0) ({ frames := 0, cells := 0, slots := 0, locals := 0 }) (va_Pc [.ref a0] (s_W dC dI sz L F [(cs 0, .int), (cs 1, .byte), (cs 2, .long), (cs 3, .object RX5), (cs 4, .object RX4), (cs 5, .array .int), (cs 6, .char), (cs 7, .boolean)])) (va_Qi (fun (r : Int32) (G : Nat → va_E) => True ∧ True ∧ s_I K cs D G ∧ ∀ b, K b ∉ ([] : List Nat) → G b = F b) (fun (G : Nat → va_E) (t : State) => va_P (dC, dI) vwCl (va_pl L G) t.heap ∧ va_K (dC, dI) vwCl [(cs 0, .int), (cs 1, .byte), (cs 2, .long), (cs 3, .object RX5), (cs 4, .object RX4), (cs 5, .array .int), (cs 6, .char), (cs 7, .boolean)] t) (fun q => q ∈ L)) 0 0 (fun q => q ∈ L) := by
  refine Met.ofW (cc := cX4_racedWords) (maxL := 3) (ret := (some .int)) (by decide) rfl ?_
  intro p e s m args below meth c s₁ B hml hv
  obtain ⟨rfl, hsz, hP, hK, hD, hN⟩ := hv
  have hx := B.exec
  have hb := B.bytes
  have hr := B.returns
  have hts : ∀ w ∈ T0, w.before _ s = true := fun w h => atoms_spec (ws := Cond.code yX4_racedWords cX4_racedWords 3 (some .int) :: T0) B.pre w (List.mem_cons_of_mem _ h)
  have hown : s.vm.findClass RX4 = some m.cls := findClass_of_methodNamed B.named
  have hlocks := B.notSynchronized
  have hS : va_S (fun q => q ∈ L) s.heap s.heap [] := va_S.rf
  have hfr : ∀ b, K b ∉ ([] : List Nat) → F b = F b := fun _ _ => rfl
  have hl := lv_entry ([.ref a0]) (n := 3) (Nat.le_of_ble_eq_true rfl)
  rw [lg_entry_eq]
  generalize (lg_sl ([.ref a0]) ++ List.replicate (3 - (lg_sl ([.ref a0])).length) Slot.unset).toArray = ls at hl ⊢
  have hl : lv_has ls 3 [(0, .ref a0)] := hl
  refine s_gen hP hS (fun H locs hP hS => ?_)
  refine lv_iconst (v := 0) hx hb dX4_racedWords_0 (by decide) ?_
  refine lv_istore_n (lv' := [(1, .int 0), (0, .ref a0)]) hx hb dX4_racedWords_1 rfl hl (by decide) rfl (fun ls hl => ?_)
  refine lv_iconst (v := 0) hx hb dX4_racedWords_2 (by decide) ?_
  refine lv_istore_n (lv' := [(2, .int 0), (1, .int 0), (0, .ref a0)]) hx hb dX4_racedWords_3 rfl hl (by decide) rfl (fun ls hl => ?_)
  refine th_loop (fun n g H locs => ∃ (G : Nat → va_E) (ls : Array Slot) (w1 : Int32) (w2 : Int32), g = F0 m 4 ls [] ∧ lv_has ls 3 [(0, .ref a0), (1, .int w1), (2, .int w2)] ∧ s_I K cs D G ∧ va_P (dC, dI) vwCl (va_pl L G) H ∧ va_S (fun q => q ∈ L) s.heap H locs ∧ (∀ b, K b ∉ ([] : List Nat) → G b = F b) ∧ True ∧ (0 ≤ w2.toInt ∧ w2.toInt ≤ 96) ∧ n = (97 - w2.toInt).toNat) _ ⟨F, _, 0, 0, rfl, lv_sub hl [2, 1, 0] rfl, hI, hP, hS, hfr, trivial, (by decide), rfl⟩ (fun n ih4 g H locs hq => ?_)
  obtain ⟨F9, ls, w1, w2, rfl, hl, hI, hP, hS, hfr, h3, h4, hn⟩ := hq
  have hn_4 := hn
  obtain ⟨n_4, hn9_4⟩ : ∃ q, q = n := ⟨_, rfl⟩
  refine lv_iload_n hx hb dX4_racedWords_4 rfl (lv_at hl 2 rfl) ?_
  refine lv_aload_n hx hb dX4_racedWords_5 rfl (lv_at hl 0 rfl) ?_
  obtain ⟨z5, z7, z9, z11, z13, z15, z17, z19, z21, z22, z23, z25, z26, z28, z29, o31, h6, h8, h10, h12, h14, h16, h18, h20, h24, h27, h30, -⟩ := s_op5 hI ha0
  refine th_get (D := (dC, dI)) (ci := 4) (v := .ref z15) (C := RX4) (T := TX4) (N := 15) hx hb hts inX4 hown hK hP (hLK _ ha0 (by decide)) o31 rfl 5 (by decide) (hts _ T_112) (fun _ h9 => h9) rfl dX4_racedWords_6 ?_
  obtain ⟨f32, o33, h34⟩ := s_op28 hI h16
  refine th_alen hx hb hK hP (hLK _ h16 (by decide)) 0 o33 rfl (v := 96) rfl dX4_racedWords_9 ?_
  refine lv_icmp_ge (tgt := 28) hx hb dX4_racedWords_10 (by decide) (fun c35 => ?_) (fun c35 => ?_)
  · have c35 := (ax_ge (n := 96) (by decide)).mp c35
    refine lv_iload_n hx hb dX4_racedWords_28 rfl (lv_at hl 1 rfl) ?_
    exact W.iret (v := w1) hx hb hr (fun t ht hW => ⟨⟨w1, F9, rfl, ⟨trivial, trivial, hI, hfr⟩, by rw [ht]; exact hP, va_K.moved hW.alike hK⟩, hS.F ht⟩) hS.2.2 dX4_racedWords_29
  · have c35 := mt (ax_ge (n := 96) (by decide)).mpr c35
    refine lv_iload_n hx hb dX4_racedWords_13 rfl (lv_at hl 1 rfl) ?_
    refine lv_aload_n hx hb dX4_racedWords_14 rfl (lv_at hl 0 rfl) ?_
    refine th_get (D := (dC, dI)) (ci := 4) (v := .ref z15) (C := RX4) (T := TX4) (N := 15) hx hb hts inX4 hown hK hP (hLK _ ha0 (by decide)) o31 rfl 5 (by decide) (hts _ T_112) (fun _ h9 => h9) rfl dX4_racedWords_15 ?_
    refine lv_iload_n hx hb dX4_racedWords_18 rfl (lv_at hl 2 rfl) ?_
    obtain ⟨f36, o37, h38⟩ := s_op28 hI h16
    refine th_iald hx hb hK hP (hLK _ h16 (by decide)) 0 o37 rfl (th_in ⟨by omega, by omega⟩) dX4_racedWords_19 ?_
    refine lv_topi (fun v39 ev39 => ?_)
    refine lv_iadd hx hb dX4_racedWords_20 ?_
    refine lv_topi (fun v40 ev40 => ?_)
    refine lv_istore_n (lv' := [(1, .int v40), (0, .ref a0), (2, .int w2)]) hx hb dX4_racedWords_21 rfl hl (by decide) rfl (fun ls hl => ?_)
    obtain ⟨v41, ev41⟩ : ∃ y : Int32, w2 + 1 = y := ⟨_, rfl⟩
    have qv41 : v41.toInt = w2.toInt + 1 := by rw [← ev41]; exact th_add rfl (by decide) ⟨by omega, by omega⟩
    refine lv_iinc (v := v41) (lv' := [(2, .int v41), (1, .int v40), (0, .ref a0)]) hx hb dX4_racedWords_22 hl (k := 2) rfl ev41 (by decide) rfl (fun ls hl => ?_)
    refine lv_goto (tgt := 4) hx hb dX4_racedWords_25 (by decide) ?_
    exact ih4 _ _ _ _ (by omega) ⟨F9, _, v40, v41, rfl, lv_sub hl [2, 1, 0] rfl, hI, hP, hS, hfr, trivial, ⟨by omega, by omega⟩, rfl⟩

set_option maxHeartbeats 4000000 in
set_option maxRecDepth 100000 in
theorem s_X4_touch (l : Launch) (dC : Nat → ClassId) (dI : Nat → Nat → Nat) (sz : Nat) {L : List Nat} {K : Nat → Nat} {cs : Nat → ClassId} (hLK : ∀ a {k : Nat}, K a = k → k ≠ 0 → a ∈ L) (D : Nat) (F : Nat → va_E) (a0 : Nat) (x1 : Int32) (x2 : Int32) (x3 : Int32) (ha0 : K a0 = 5) (hx1 : 0 ≤ x1.toInt ∧ x1.toInt ≤ 95) (hx3 : 0 ≤ x3.toInt ∧ x3.toInt ≤ 1) (hI : s_I K cs D F) : Met l yX4_touch (Cond.code yX4_touch cX4_touch 4 none :: T0) ({ frames := 1, cells := 0, slots := 0, locals := 20 }) (va_Pc [.ref a0, .int x1, .int x2, .int x3] (s_W dC dI sz L F [(cs 0, .int), (cs 1, .byte), (cs 2, .long), (cs 3, .object RX5), (cs 4, .object RX4), (cs 5, .array .int), (cs 6, .char), (cs 7, .boolean)])) (va_Qv (fun (G : Nat → va_E) => True ∧ True ∧ s_I K cs D G ∧ ∀ b, K b ∉ [28] → G b = F b) (fun (G : Nat → va_E) (t : State) => va_P (dC, dI) vwCl (va_pl L G) t.heap ∧ va_K (dC, dI) vwCl [(cs 0, .int), (cs 1, .byte), (cs 2, .long), (cs 3, .object RX5), (cs 4, .object RX4), (cs 5, .array .int), (cs 6, .char), (cs 7, .boolean)] t) (fun q => q ∈ L)) 0 0 (fun q => q ∈ L) := by
  refine Met.ofW (cc := cX4_touch) (maxL := 4) (ret := none) (by decide) rfl ?_
  intro p e s m args below meth c s₁ B hml hv
  obtain ⟨rfl, hsz, hP, hK, hD, hN⟩ := hv
  have hx := B.exec
  have hb := B.bytes
  have hr := B.returns
  have hts : ∀ w ∈ T0, w.before _ s = true := fun w h => atoms_spec (ws := Cond.code yX4_touch cX4_touch 4 none :: T0) B.pre w (List.mem_cons_of_mem _ h)
  have hown : s.vm.findClass RX4 = some m.cls := findClass_of_methodNamed B.named
  have hlocks := B.notSynchronized
  have hS : va_S (fun q => q ∈ L) s.heap s.heap [] := va_S.rf
  have hfr : ∀ b, K b ∉ [28] → F b = F b := fun _ _ => rfl
  have hl := lv_entry ([.ref a0, .int x1, .int x2, .int x3]) (n := 4) (Nat.le_of_ble_eq_true rfl)
  rw [lg_entry_eq]
  generalize (lg_sl ([.ref a0, .int x1, .int x2, .int x3]) ++ List.replicate (4 - (lg_sl ([.ref a0, .int x1, .int x2, .int x3])).length) Slot.unset).toArray = ls at hl ⊢
  have hl : lv_has ls 4 [(0, .ref a0), (1, .int x1), (2, .int x2), (3, .int x3)] := hl
  refine s_gen hP hS (fun H locs hP hS => ?_)
  refine th_join (fun g H locs => ∃ (G : Nat → va_E) (ls : Array Slot), g = F0 m 23 ls [] ∧ lv_has ls 4 [(0, .ref a0), (1, .int x1)] ∧ s_I K cs D G ∧ va_P (dC, dI) vwCl (va_pl L G) H ∧ va_S (fun q => q ∈ L) s.heap H locs ∧ (∀ b, K b ∉ [28] → G b = F b) ∧ (0 ≤ x1.toInt ∧ x1.toInt ≤ 95)) (fun K23 => ?_) ?_
  · refine lv_aload_n hx hb dX4_touch_0 rfl (lv_at hl 0 rfl) ?_
    obtain ⟨z1, z3, z5, z7, z9, z11, z13, z15, z17, z18, z19, z21, z22, z24, z25, o27, h2, h4, h6, h8, h10, h12, h14, h16, h20, h23, h26, -⟩ := s_op5 hI ha0
    refine th_get (D := (dC, dI)) (ci := 4) (v := .ref z7) (C := RX4) (T := TX4) (N := 15) hx hb hts inX4 hown hK hP (hLK _ ha0 (by decide)) o27 rfl 3 (by decide) (hts _ T_110) (fun _ h9 => h9) rfl dX4_touch_1 ?_
    refine lv_iload_n hx hb dX4_touch_4 rfl (lv_at hl 1 rfl) ?_
    refine lv_dup2_11 hx hb dX4_touch_5 rfl rfl ?_
    obtain ⟨f28, o29, h30⟩ := s_op28 hI h8
    refine th_iald hx hb hK hP (hLK _ h8 (by decide)) 0 o29 rfl (th_in ⟨by omega, by omega⟩) dX4_touch_6 ?_
    refine lv_topi (fun v31 ev31 => ?_)
    refine lv_iconst (v := 1) hx hb dX4_touch_7 (by decide) ?_
    refine lv_iload_n hx hb dX4_touch_8 rfl (lv_at hl 2 rfl) ?_
    refine lv_ishl hx hb dX4_touch_9 ?_
    refine lv_topi (fun v32 ev32 => ?_)
    refine lv_ior hx hb dX4_touch_10 ?_
    refine lv_topi (fun v33 ev33 => ?_)
    obtain ⟨f34, o35, h36⟩ := s_op28 hI h8
    refine th_iast hx hb hK hP hD hS (hLK _ h8 (by decide)) 0 o35 rfl (th_in ⟨by omega, by omega⟩) dX4_touch_11 (fun H locs hP hS => ?_)
    have hP : va_P (dC, dI) vwCl (va_pl L (va_up F z7 (.inl (cs 0, 96, .inl (upd f34 (x1 : Int32).toNatClampNeg v33))))) H := hP
    obtain ⟨F37, hF38⟩ : ∃ G : Nat → va_E, G = va_up F z7 (.inl (cs 0, 96, .inl (upd f34 (x1 : Int32).toNatClampNeg v33))) := ⟨_, rfl⟩
    rw [← hF38] at hP
    have hI : s_I K cs D F37 := by rw [hF38]; exact s_cl28 hI h8 ⟨_, rfl, trivial⟩
    have hfr : ∀ b, K b ∉ [28] → F37 b = F b := by rw [hF38]; exact s_fr hfr h8 (by decide)
    have o39 : F37 a0 = .inr (4, [.ref z1, .ref z3, .ref z5, .ref z7, .ref z9, .ref z11, .ref z13, .int z15, .int z17, .int z18, .int z19, .int z21, .int z22, .int z24, .int z25]) := by rw [hF38]; exact th_ne (th_kd ha0 h8 (by decide)) o27
    refine lv_iload_n hx hb dX4_touch_12 rfl (lv_at hl 3 rfl) ?_
    refine lv_if_eq (tgt := 23) hx hb dX4_touch_13 (by decide) (fun c40 => ?_) (fun c40 => ?_)
    · have c40 := (ax_eq (n := 0) (by decide)).mp c40
      exact K23 _ _ _ ⟨F37, _, rfl, lv_sub hl [0, 1] rfl, hI, hP, hS, hfr, ⟨by omega, by omega⟩⟩
    · have c40 := mt (ax_eq (n := 0) (by decide)).mpr c40
      refine lv_aload_n hx hb dX4_touch_16 rfl (lv_at hl 0 rfl) ?_
      refine th_get (D := (dC, dI)) (ci := 4) (v := .ref z9) (C := RX4) (T := TX4) (N := 15) hx hb hts inX4 hown hK hP (hLK _ ha0 (by decide)) o39 rfl 4 (by decide) (hts _ T_111) (fun _ h9 => h9) rfl dX4_touch_17 ?_
      refine lv_iload_n hx hb dX4_touch_20 rfl (lv_at hl 1 rfl) ?_
      refine lv_iconst (v := 1) hx hb dX4_touch_21 (by decide) ?_
      obtain ⟨f41, o42, h43⟩ := s_op28 hI h10
      refine th_iast hx hb hK hP hD hS (hLK _ h10 (by decide)) 0 o42 rfl (th_in ⟨by omega, by omega⟩) dX4_touch_22 (fun H locs hP hS => ?_)
      have hP : va_P (dC, dI) vwCl (va_pl L (va_up F37 z9 (.inl (cs 0, 96, .inl (upd f41 (x1 : Int32).toNatClampNeg 1))))) H := hP
      obtain ⟨F44, hF45⟩ : ∃ G : Nat → va_E, G = va_up F37 z9 (.inl (cs 0, 96, .inl (upd f41 (x1 : Int32).toNatClampNeg 1))) := ⟨_, rfl⟩
      rw [← hF45] at hP
      have hI : s_I K cs D F44 := by rw [hF45]; exact s_cl28 hI h10 ⟨_, rfl, trivial⟩
      have hfr : ∀ b, K b ∉ [28] → F44 b = F b := by rw [hF45]; exact s_fr hfr h10 (by decide)
      have o46 : F44 a0 = .inr (4, [.ref z1, .ref z3, .ref z5, .ref z7, .ref z9, .ref z11, .ref z13, .int z15, .int z17, .int z18, .int z19, .int z21, .int z22, .int z24, .int z25]) := by rw [hF45]; exact th_ne (th_kd ha0 h10 (by decide)) o39
      exact K23 _ _ _ ⟨F44, _, rfl, lv_sub hl [0, 1] rfl, hI, hP, hS, hfr, ⟨by omega, by omega⟩⟩
  · intro g H locs hq
    obtain ⟨F9, ls, rfl, hl, hI, hP, hS, hfr, h47⟩ := hq
    refine lv_aload_n hx hb dX4_touch_23 rfl (lv_at hl 0 rfl) ?_
    obtain ⟨z48, z50, z52, z54, z56, z58, z60, z62, z64, z65, z66, z68, z69, z71, z72, o74, h49, h51, h53, h55, h57, h59, h61, h63, h67, h70, h73, -⟩ := s_op5 hI ha0
    refine th_get (D := (dC, dI)) (ci := 4) (v := .ref z56) (C := RX4) (T := TX4) (N := 15) hx hb hts inX4 hown hK hP (hLK _ ha0 (by decide)) o74 rfl 4 (by decide) (hts _ T_111) (fun _ h9 => h9) rfl dX4_touch_24 ?_
    refine lv_iload_n hx hb dX4_touch_27 rfl (lv_at hl 1 rfl) ?_
    obtain ⟨f75, o76, h77⟩ := s_op28 hI h57
    refine th_iald hx hb hK hP (hLK _ h57 (by decide)) 0 o76 rfl (th_in ⟨by omega, by omega⟩) dX4_touch_28 ?_
    refine lv_topi (fun v78 ev78 => ?_)
    refine lv_if_eq (tgt := 52) hx hb dX4_touch_29 (by decide) (fun c79 => ?_) (fun c79 => ?_)
    · have c79 := (ax_eq (n := 0) (by decide)).mp c79
      exact W.vret hx hb hr (fun t ht hW => ⟨⟨F9, rfl, ⟨trivial, trivial, hI, hfr⟩, by rw [ht]; exact hP, va_K.moved hW.alike hK⟩, hS.F ht⟩) hS.2.2 dX4_touch_52
    · have c79 := mt (ax_eq (n := 0) (by decide)).mpr c79
      refine lv_aload_n hx hb dX4_touch_32 rfl (lv_at hl 0 rfl) ?_
      refine th_get (D := (dC, dI)) (ci := 4) (v := .ref z54) (C := RX4) (T := TX4) (N := 15) hx hb hts inX4 hown hK hP (hLK _ ha0 (by decide)) o74 rfl 3 (by decide) (hts _ T_110) (fun _ h9 => h9) rfl dX4_touch_33 ?_
      refine lv_iload_n hx hb dX4_touch_36 rfl (lv_at hl 1 rfl) ?_
      obtain ⟨f80, o81, h82⟩ := s_op28 hI h55
      refine th_iald hx hb hK hP (hLK _ h55 (by decide)) 0 o81 rfl (th_in ⟨by omega, by omega⟩) dX4_touch_37 ?_
      refine lv_topi (fun v83 ev83 => ?_)
      refine va_calli (va_runS (As := [.int v83]) (rest := []) ⟨hx, hb, hml, hown, hts⟩ (s_J6_bitCount_0f7a4 l dC dI H.size hLK D F9 v83 hI) ⟨callB_of 1 hts (ax_gT T_653) rfl rfl rfl (hts _ T_652) (hts _ T_868) (by decide +kernel) ⟨Nat.le_of_ble_eq_true rfl, Nat.le_of_ble_eq_true rfl⟩, hts _ T_654⟩ ⟨fun a U g mk q => ⟨q.1, s_pc (U := U) rfl rfl q.2⟩, fun U hU hW => ⟨rfl, s_pw hU hW hP hK hD hN⟩⟩ rfl rfl hl.1 rfl (lv_room (Nat.le_of_ble_eq_true rfl)) dX4_touch_38 ⟨Nat.zero_le _, Nat.zero_le _⟩) hS (fun q _ h => h) (fun q h => h) (fun r84 F85 t H1 locs ht hvm hw hB hz1 hk1 hS => ?_)
      obtain ⟨hP, hK1⟩ := hB
      rw [ht] at hP
      generalize H1 = H at hP hS ⊢
      clear hz1 hk1
      obtain ⟨h86, h87, hI, hfr1⟩ := hw
      have o88 : F85 a0 = .inr (4, [.ref z48, .ref z50, .ref z52, .ref z54, .ref z56, .ref z58, .ref z60, .int z62, .int z64, .int z65, .int z66, .int z68, .int z69, .int z71, .int z72]) := (hfr1 _ (by rw [ha0]; decide)).trans o74
      have hfr : ∀ b, K b ∉ [28] → F85 b = F b := fun b hb9 => (hfr1 b (fun q => hb9 (s_sub (by decide) q))).trans (hfr b hb9)
      refine lv_iconst (v := 1) hx hb dX4_touch_41 (by decide) ?_
      refine lv_icmp_le (tgt := 52) hx hb dX4_touch_42 (by decide) (fun c89 => ?_) (fun c89 => ?_)
      · have c89 := (ax_le (n := 1) (by decide)).mp c89
        exact W.vret hx hb hr (fun t ht hW => ⟨⟨F85, rfl, ⟨trivial, trivial, hI, hfr⟩, by rw [ht]; exact hP, va_K.moved hW.alike hK⟩, hS.F ht⟩) hS.2.2 dX4_touch_52
      · have c89 := mt (ax_le (n := 1) (by decide)).mpr c89
        refine lv_aload_n hx hb dX4_touch_45 rfl (lv_at hl 0 rfl) ?_
        refine th_get (D := (dC, dI)) (ci := 4) (v := .ref z58) (C := RX4) (T := TX4) (N := 15) hx hb hts inX4 hown hK hP (hLK _ ha0 (by decide)) o88 rfl 5 (by decide) (hts _ T_112) (fun _ h9 => h9) rfl dX4_touch_46 ?_
        refine lv_iload_n hx hb dX4_touch_49 rfl (lv_at hl 1 rfl) ?_
        refine lv_iconst (v := 1) hx hb dX4_touch_50 (by decide) ?_
        obtain ⟨f90, o91, h92⟩ := s_op28 hI h59
        refine th_iast hx hb hK hP hD hS (hLK _ h59 (by decide)) 0 o91 rfl (th_in ⟨by omega, by omega⟩) dX4_touch_51 (fun H locs hP hS => ?_)
        have hP : va_P (dC, dI) vwCl (va_pl L (va_up F85 z58 (.inl (cs 0, 96, .inl (upd f90 (x1 : Int32).toNatClampNeg 1))))) H := hP
        obtain ⟨F93, hF94⟩ : ∃ G : Nat → va_E, G = va_up F85 z58 (.inl (cs 0, 96, .inl (upd f90 (x1 : Int32).toNatClampNeg 1))) := ⟨_, rfl⟩
        rw [← hF94] at hP
        have hI : s_I K cs D F93 := by rw [hF94]; exact s_cl28 hI h59 ⟨_, rfl, trivial⟩
        have hfr : ∀ b, K b ∉ [28] → F93 b = F b := by rw [hF94]; exact s_fr hfr h59 (by decide)
        have o95 : F93 a0 = .inr (4, [.ref z48, .ref z50, .ref z52, .ref z54, .ref z56, .ref z58, .ref z60, .int z62, .int z64, .int z65, .int z66, .int z68, .int z69, .int z71, .int z72]) := by rw [hF94]; exact th_ne (th_kd ha0 h59 (by decide)) o88
        exact W.vret hx hb hr (fun t ht hW => ⟨⟨F93, rfl, ⟨trivial, trivial, hI, hfr⟩, by rw [ht]; exact hP, va_K.moved hW.alike hK⟩, hS.F ht⟩) hS.2.2 dX4_touch_52

set_option maxHeartbeats 4000000 in
set_option maxRecDepth 100000 in
theorem s_X4_passBarIfAllWait (l : Launch) (dC : Nat → ClassId) (dI : Nat → Nat → Nat) (sz : Nat) {L : List Nat} {K : Nat → Nat} {cs : Nat → ClassId} (hLK : ∀ a {k : Nat}, K a = k → k ≠ 0 → a ∈ L) (D : Nat) (F : Nat → va_E) (a0 : Nat) (x1 : Int32) (ha0 : K a0 = 5) (hI : s_I K cs D F) : Met l yX4_passBarIfAllWait (Cond.code yX4_passBarIfAllWait cX4_passBarIfAllWait 5 none :: T0) ({ frames := 2, cells := 0, slots := 0, locals := 49 }) (va_Pc [.ref a0, .int x1] (s_W dC dI sz L F [(cs 0, .int), (cs 1, .byte), (cs 2, .long), (cs 3, .object RX5), (cs 4, .object RX4), (cs 5, .array .int), (cs 6, .char), (cs 7, .boolean)])) (va_Qv (fun (G : Nat → va_E) => True ∧ True ∧ s_I K cs D G ∧ ∀ b, K b ∉ [5, 6, 28, 31, 32] → G b = F b) (fun (G : Nat → va_E) (t : State) => va_P (dC, dI) vwCl (va_pl L G) t.heap ∧ va_K (dC, dI) vwCl [(cs 0, .int), (cs 1, .byte), (cs 2, .long), (cs 3, .object RX5), (cs 4, .object RX4), (cs 5, .array .int), (cs 6, .char), (cs 7, .boolean)] t) (fun q => q ∈ L)) 0 0 (fun q => q ∈ L) := by
  refine Met.ofW (cc := cX4_passBarIfAllWait) (maxL := 5) (ret := none) (by decide) rfl ?_
  intro p e s m args below meth c s₁ B hml hv
  obtain ⟨rfl, hsz, hP, hK, hD, hN⟩ := hv
  have hx := B.exec
  have hb := B.bytes
  have hr := B.returns
  have hts : ∀ w ∈ T0, w.before _ s = true := fun w h => atoms_spec (ws := Cond.code yX4_passBarIfAllWait cX4_passBarIfAllWait 5 none :: T0) B.pre w (List.mem_cons_of_mem _ h)
  have hown : s.vm.findClass RX4 = some m.cls := findClass_of_methodNamed B.named
  have hlocks := B.notSynchronized
  have hS : va_S (fun q => q ∈ L) s.heap s.heap [] := va_S.rf
  have hfr : ∀ b, K b ∉ [5, 6, 28, 31, 32] → F b = F b := fun _ _ => rfl
  have hl := lv_entry ([.ref a0, .int x1]) (n := 5) (Nat.le_of_ble_eq_true rfl)
  rw [lg_entry_eq]
  generalize (lg_sl ([.ref a0, .int x1]) ++ List.replicate (5 - (lg_sl ([.ref a0, .int x1])).length) Slot.unset).toArray = ls at hl ⊢
  have hl : lv_has ls 5 [(0, .ref a0), (1, .int x1)] := hl
  refine s_gen hP hS (fun H locs hP hS => ?_)
  refine lv_iconst (v := 0) hx hb dX4_passBarIfAllWait_0 (by decide) ?_
  refine lv_istore_n (lv' := [(2, .int 0), (0, .ref a0), (1, .int x1)]) hx hb dX4_passBarIfAllWait_1 rfl hl (by decide) rfl (fun ls hl => ?_)
  refine lv_iconst (v := 0) hx hb dX4_passBarIfAllWait_2 (by decide) ?_
  refine lv_istore_n (lv' := [(3, .int 0), (2, .int 0), (0, .ref a0), (1, .int x1)]) hx hb dX4_passBarIfAllWait_3 rfl hl (by decide) rfl (fun ls hl => ?_)
  refine lv_iconst (v := 0) hx hb dX4_passBarIfAllWait_4 (by decide) ?_
  refine lv_istore (lv' := [(4, .int 0), (3, .int 0), (2, .int 0), (0, .ref a0), (1, .int x1)]) hx hb dX4_passBarIfAllWait_5 hl (by decide) rfl (fun ls hl => ?_)
  refine th_loop (fun n g H locs => ∃ (G : Nat → va_E) (ls : Array Slot) (w1 : Int32) (w2 : Int32) (w3 : Int32), g = F0 m 7 ls [] ∧ lv_has ls 5 [(0, .ref a0), (1, .int x1), (2, .int w1), (3, .int w2), (4, .int w3)] ∧ s_I K cs D G ∧ va_P (dC, dI) vwCl (va_pl L G) H ∧ va_S (fun q => q ∈ L) s.heap H locs ∧ (∀ b, K b ∉ [5, 6, 28, 31, 32] → G b = F b) ∧ True ∧ True ∧ (0 ≤ w3.toInt ∧ w3.toInt ≤ 4) ∧ n = (5 - w3.toInt).toNat) _ ⟨F, _, 0, 0, 0, rfl, lv_sub hl [3, 4, 2, 1, 0] rfl, hI, hP, hS, hfr, trivial, trivial, (by decide), rfl⟩ (fun n ih7 g H locs hq => ?_)
  obtain ⟨F9, ls, w1, w2, w3, rfl, hl, hI, hP, hS, hfr, h4, h5, h6, hn⟩ := hq
  have hn_7 := hn
  obtain ⟨n_7, hn9_7⟩ : ∃ q, q = n := ⟨_, rfl⟩
  refine lv_iload hx hb dX4_passBarIfAllWait_7 (lv_at hl 4 rfl) ?_
  refine lv_aload_n hx hb dX4_passBarIfAllWait_9 rfl (lv_at hl 0 rfl) ?_
  obtain ⟨z7, z9, z11, z13, z15, z17, z19, z21, z23, z24, z25, z27, z28, z30, z31, o33, h8, h10, h12, h14, h16, h18, h20, h22, h26, h29, h32, -⟩ := s_op5 hI ha0
  refine th_get (D := (dC, dI)) (ci := 4) (v := .int z21) (C := RX4) (T := TX4) (N := 15) hx hb hts inX4 hown hK hP (hLK _ ha0 (by decide)) o33 rfl 7 (by decide) (hts _ T_840) (fun _ h9 => h9) rfl dX4_passBarIfAllWait_10 ?_
  refine lv_icmp_ge (tgt := 61) hx hb dX4_passBarIfAllWait_13 (by decide) (fun c34 => ?_) (fun c34 => ?_)
  · have c34 := Int32.le_iff_toInt_le.mp c34
    refine lv_iload_n hx hb dX4_passBarIfAllWait_61 rfl (lv_at hl 2 rfl) ?_
    refine lv_if_eq (tgt := 69) hx hb dX4_passBarIfAllWait_62 (by decide) (fun c35 => ?_) (fun c35 => ?_)
    · have c35 := (ax_eq (n := 0) (by decide)).mp c35
      exact W.vret hx hb hr (fun t ht hW => ⟨⟨F9, rfl, ⟨trivial, trivial, hI, hfr⟩, by rw [ht]; exact hP, va_K.moved hW.alike hK⟩, hS.F ht⟩) hS.2.2 dX4_passBarIfAllWait_69
    · have c35 := mt (ax_eq (n := 0) (by decide)).mpr c35
      refine lv_iload_n hx hb dX4_passBarIfAllWait_65 rfl (lv_at hl 3 rfl) ?_
      refine lv_if_eq (tgt := 70) hx hb dX4_passBarIfAllWait_66 (by decide) (fun c36 => ?_) (fun c36 => ?_)
      · have c36 := (ax_eq (n := 0) (by decide)).mp c36
        refine lv_iconst (v := 0) hx hb dX4_passBarIfAllWait_70 (by decide) ?_
        refine lv_istore (lv' := [(4, .int 0), (0, .ref a0), (1, .int x1), (2, .int w1), (3, .int w2)]) hx hb dX4_passBarIfAllWait_71 hl (by decide) rfl (fun ls hl => ?_)
        refine th_loop (fun n g H locs => ∃ (G : Nat → va_E) (ls : Array Slot) (w37 : Int32), g = F0 m 73 ls [] ∧ lv_has ls 5 [(0, .ref a0), (1, .int x1), (4, .int w37)] ∧ s_I K cs D G ∧ va_P (dC, dI) vwCl (va_pl L G) H ∧ va_S (fun q => q ∈ L) s.heap H locs ∧ (∀ b, K b ∉ [5, 6, 28, 31, 32] → G b = F b) ∧ (0 ≤ w37.toInt ∧ w37.toInt ≤ 4) ∧ n = (5 - w37.toInt).toNat) _ ⟨F9, _, 0, rfl, lv_sub hl [1, 2, 0] rfl, hI, hP, hS, hfr, (by decide), rfl⟩ (fun n ih73 g H locs hq => ?_)
        obtain ⟨F9, ls, w37, rfl, hl, hI, hP, hS, hfr, h38, hn⟩ := hq
        have hn_73 := hn
        obtain ⟨n_73, hn9_73⟩ : ∃ q, q = n := ⟨_, rfl⟩
        refine lv_iload hx hb dX4_passBarIfAllWait_73 (lv_at hl 2 rfl) ?_
        refine lv_aload_n hx hb dX4_passBarIfAllWait_75 rfl (lv_at hl 0 rfl) ?_
        obtain ⟨z39, z41, z43, z45, z47, z49, z51, z53, z55, z56, z57, z59, z60, z62, z63, o65, h40, h42, h44, h46, h48, h50, h52, h54, h58, h61, h64, -⟩ := s_op5 hI ha0
        refine th_get (D := (dC, dI)) (ci := 4) (v := .int z53) (C := RX4) (T := TX4) (N := 15) hx hb hts inX4 hown hK hP (hLK _ ha0 (by decide)) o65 rfl 7 (by decide) (hts _ T_840) (fun _ h9 => h9) rfl dX4_passBarIfAllWait_76 ?_
        refine lv_icmp_ge (tgt := 103) hx hb dX4_passBarIfAllWait_79 (by decide) (fun c66 => ?_) (fun c66 => ?_)
        · have c66 := Int32.le_iff_toInt_le.mp c66
          refine lv_aload_n hx hb dX4_passBarIfAllWait_103 rfl (lv_at hl 0 rfl) ?_
          refine lv_dup hx hb dX4_passBarIfAllWait_104 rfl ?_
          refine th_get (D := (dC, dI)) (ci := 4) (v := .int z62) (C := RX4) (T := TX4) (N := 15) hx hb hts inX4 hown hK hP (hLK _ ha0 (by decide)) o65 rfl 13 (by decide) (hts _ T_845) (fun _ h9 => h9) rfl dX4_passBarIfAllWait_105 ?_
          refine lv_iconst (v := 1) hx hb dX4_passBarIfAllWait_108 (by decide) ?_
          refine lv_iadd hx hb dX4_passBarIfAllWait_109 ?_
          refine lv_topi (fun v67 ev67 => ?_)
          refine th_put (D := (dC, dI)) (ci := 4) (v := .int v67) (ty := .int) (C := RX4) (T := TX4) (N := 15) hx hb hts inX4 tyX4 tyX4_ok nmX4 hown hK hP hD hS (hLK _ ha0 (by decide)) o65 rfl 13 (by decide) (hts _ T_845) (fun _ h9 => h9) rfl (by decide +kernel) rfl rfl (Nat.le_of_ble_eq_true rfl) dX4_passBarIfAllWait_110 (fun H locs hP hS => ?_)
          have hP : va_P (dC, dI) vwCl (va_pl L (va_up F9 a0 (.inr (4, [.ref z39, .ref z41, .ref z43, .ref z45, .ref z47, .ref z49, .ref z51, .int z53, .int z55, .int z56, .int z57, .int z59, .int z60, .int v67, .int z63])))) H := hP
          obtain ⟨F68, hF69⟩ : ∃ G : Nat → va_E, G = va_up F9 a0 (.inr (4, [.ref z39, .ref z41, .ref z43, .ref z45, .ref z47, .ref z49, .ref z51, .int z53, .int z55, .int z56, .int z57, .int z59, .int z60, .int v67, .int z63])) := ⟨_, rfl⟩
          rw [← hF69] at hP
          have hI : s_I K cs D F68 := by rw [hF69]; exact s_cl5 hI ha0 ⟨z39, z41, z43, z45, z47, z49, z51, z53, z55, z56, z57, z59, z60, v67, z63, rfl, h40, h42, h44, h46, h48, h50, h52, ⟨by omega, by omega⟩, ⟨by omega, by omega⟩, ⟨by omega, by omega⟩, ⟨by omega, by omega⟩, trivial⟩
          have hfr : ∀ b, K b ∉ [5, 6, 28, 31, 32] → F68 b = F b := by rw [hF69]; exact s_fr hfr ha0 (by decide)
          have o70 : F68 a0 = .inr (4, [.ref z39, .ref z41, .ref z43, .ref z45, .ref z47, .ref z49, .ref z51, .int z53, .int z55, .int z56, .int z57, .int z59, .int z60, .int v67, .int z63]) := by rw [hF69]; exact th_up
          refine lv_aload_n hx hb dX4_passBarIfAllWait_113 rfl (lv_at hl 0 rfl) ?_
          refine th_get (D := (dC, dI)) (ci := 4) (v := .ref z45) (C := RX4) (T := TX4) (N := 15) hx hb hts inX4 hown hK hP (hLK _ ha0 (by decide)) o70 rfl 3 (by decide) (hts _ T_110) (fun _ h9 => h9) rfl dX4_passBarIfAllWait_114 ?_
          refine lv_iconst (v := 0) hx hb dX4_passBarIfAllWait_117 (by decide) ?_
          refine va_callv (va_runS (As := [.ref z45, .int 0]) (rest := []) ⟨hx, hb, hml, hown, hts⟩ (s_J7_fill_53178_touch l dC dI H.size hLK D F68 z45 0 h46 hI) ⟨callB_of 2 hts (ax_gT T_11) rfl rfl rfl (hts _ T_197) (hts _ T_873) (by decide +kernel) ⟨Nat.le_of_ble_eq_true rfl, Nat.le_of_ble_eq_true rfl⟩, hts _ T_199⟩ ⟨fun a U g mk q => ⟨q.1, s_pc (U := U) rfl rfl q.2⟩, fun U hU hW => ⟨rfl, s_pw hU hW hP hK hD hN⟩⟩ rfl rfl hl.1 rfl (lv_room (Nat.le_of_ble_eq_true rfl)) dX4_passBarIfAllWait_118 ⟨Nat.zero_le _, Nat.zero_le _⟩) hS (fun q _ h => h) (fun q h => h) (fun F71 t H1 locs ht hvm hw hB hz1 hk1 hS => ?_)
          obtain ⟨hP, hK1⟩ := hB
          rw [ht] at hP
          generalize H1 = H at hP hS ⊢
          clear hz1 hk1
          obtain ⟨h72, h73, hI, hfr1⟩ := hw
          have o74 : F71 a0 = .inr (4, [.ref z39, .ref z41, .ref z43, .ref z45, .ref z47, .ref z49, .ref z51, .int z53, .int z55, .int z56, .int z57, .int z59, .int z60, .int v67, .int z63]) := (hfr1 _ (by rw [ha0]; decide)).trans o70
          have hfr : ∀ b, K b ∉ [5, 6, 28, 31, 32] → F71 b = F b := fun b hb9 => (hfr1 b (fun q => hb9 (s_sub (by decide) q))).trans (hfr b hb9)
          refine lv_aload_n hx hb dX4_passBarIfAllWait_121 rfl (lv_at hl 0 rfl) ?_
          refine th_get (D := (dC, dI)) (ci := 4) (v := .ref z47) (C := RX4) (T := TX4) (N := 15) hx hb hts inX4 hown hK hP (hLK _ ha0 (by decide)) o74 rfl 4 (by decide) (hts _ T_111) (fun _ h9 => h9) rfl dX4_passBarIfAllWait_122 ?_
          refine lv_iconst (v := 0) hx hb dX4_passBarIfAllWait_125 (by decide) ?_
          refine va_callv (va_runS (As := [.ref z47, .int 0]) (rest := []) ⟨hx, hb, hml, hown, hts⟩ (s_J7_fill_53178_touch l dC dI H.size hLK D F71 z47 0 h48 hI) ⟨callB_of 2 hts (ax_gT T_11) rfl rfl rfl (hts _ T_197) (hts _ T_873) (by decide +kernel) ⟨Nat.le_of_ble_eq_true rfl, Nat.le_of_ble_eq_true rfl⟩, hts _ T_199⟩ ⟨fun a U g mk q => ⟨q.1, s_pc (U := U) rfl rfl q.2⟩, fun U hU hW => ⟨rfl, s_pw hU hW hP hK hD hN⟩⟩ rfl rfl hl.1 rfl (lv_room (Nat.le_of_ble_eq_true rfl)) dX4_passBarIfAllWait_126 ⟨Nat.zero_le _, Nat.zero_le _⟩) hS (fun q _ h => h) (fun q h => h) (fun F75 t H1 locs ht hvm hw hB hz1 hk1 hS => ?_)
          obtain ⟨hP, hK1⟩ := hB
          rw [ht] at hP
          generalize H1 = H at hP hS ⊢
          clear hz1 hk1
          obtain ⟨h76, h77, hI, hfr1⟩ := hw
          have o78 : F75 a0 = .inr (4, [.ref z39, .ref z41, .ref z43, .ref z45, .ref z47, .ref z49, .ref z51, .int z53, .int z55, .int z56, .int z57, .int z59, .int z60, .int v67, .int z63]) := (hfr1 _ (by rw [ha0]; decide)).trans o74
          have hfr : ∀ b, K b ∉ [5, 6, 28, 31, 32] → F75 b = F b := fun b hb9 => (hfr1 b (fun q => hb9 (s_sub (by decide) q))).trans (hfr b hb9)
          exact W.vret hx hb hr (fun t ht hW => ⟨⟨F75, rfl, ⟨trivial, trivial, hI, hfr⟩, by rw [ht]; exact hP, va_K.moved hW.alike hK⟩, hS.F ht⟩) hS.2.2 dX4_passBarIfAllWait_129
        · have c66 := mt Int32.le_iff_toInt_le.mpr c66
          refine lv_aload_n hx hb dX4_passBarIfAllWait_82 rfl (lv_at hl 0 rfl) ?_
          refine th_get (D := (dC, dI)) (ci := 4) (v := .ref z39) (C := RX4) (T := TX4) (N := 15) hx hb hts inX4 hown hK hP (hLK _ ha0 (by decide)) o65 rfl 0 (by decide) (hts _ T_107) (fun _ h9 => h9) rfl dX4_passBarIfAllWait_83 ?_
          refine lv_iload hx hb dX4_passBarIfAllWait_86 (lv_at hl 2 rfl) ?_
          obtain ⟨f79, o80, h81⟩ := s_op26 hI h40
          obtain ⟨z82, o84, h83⟩ := h81 (w37 : Int32).toNatClampNeg (th_cl ⟨by omega, by omega⟩)
          refine th_aald hx hb hK hP (hLK _ h40 (by decide)) 3 o80 rfl (th_in ⟨by omega, by omega⟩) o84 dX4_passBarIfAllWait_88 ?_
          refine lv_aload_n hx hb dX4_passBarIfAllWait_89 rfl (lv_at hl 0 rfl) ?_
          refine th_get (D := (dC, dI)) (ci := 4) (v := .int z55) (C := RX4) (T := TX4) (N := 15) hx hb hts inX4 hown hK hP (hLK _ ha0 (by decide)) o65 rfl 8 (by decide) (hts _ T_838) (fun _ h9 => h9) rfl dX4_passBarIfAllWait_90 ?_
          refine lv_iload_n hx hb dX4_passBarIfAllWait_93 rfl (lv_at hl 1 rfl) ?_
          obtain ⟨z85, z87, z89, z91, z93, z95, z97, z98, z99, z100, z101, o103, h86, h88, h90, h92, h94, h96, h102, -⟩ := s_op6 hI h83
          refine va_callv (va_runV (As := [.int z55, .int x1]) (rest := []) ⟨hx, hb, hml, hown, hts⟩ (s_X5_passBar l dC dI H.size hLK D F9 z82 z55 x1 h83 hI) (cwV 2 hts (ax_gV T_869 T_871 T_872 T_116 T_870) rfl rfl rfl (by decide +kernel) ⟨Nat.le_of_ble_eq_true rfl, Nat.le_of_ble_eq_true rfl⟩) ⟨fun a U g mk q => ⟨q.1, s_pc (U := U) rfl rfl q.2⟩, s_recv hK hP (hLK _ h83 (by decide)) (ci := 5) rfl o103, fun U hU hW => ⟨rfl, s_pw hU hW hP hK hD hN⟩⟩ rfl rfl hl.1 rfl (lv_room (Nat.le_of_ble_eq_true rfl)) dX4_passBarIfAllWait_94 ⟨Nat.zero_le _, Nat.zero_le _⟩) hS (fun q _ h => h) (fun q h => h) (fun F104 t H1 locs ht hvm hw hB hz1 hk1 hS => ?_)
          obtain ⟨hP, hK1⟩ := hB
          rw [ht] at hP
          generalize H1 = H at hP hS ⊢
          clear hz1 hk1
          obtain ⟨h105, h106, hI, hfr1⟩ := hw
          have o107 : F104 a0 = .inr (4, [.ref z39, .ref z41, .ref z43, .ref z45, .ref z47, .ref z49, .ref z51, .int z53, .int z55, .int z56, .int z57, .int z59, .int z60, .int z62, .int z63]) := (hfr1 _ (by rw [ha0]; decide)).trans o65
          have hfr : ∀ b, K b ∉ [5, 6, 28, 31, 32] → F104 b = F b := fun b hb9 => (hfr1 b (fun q => hb9 (s_sub (by decide) q))).trans (hfr b hb9)
          obtain ⟨v108, ev108⟩ : ∃ y : Int32, w37 + 1 = y := ⟨_, rfl⟩
          have qv108 : v108.toInt = w37.toInt + 1 := by rw [← ev108]; exact th_add rfl (by decide) ⟨by omega, by omega⟩
          refine lv_iinc (v := v108) (lv' := [(4, .int v108), (0, .ref a0), (1, .int x1)]) hx hb dX4_passBarIfAllWait_97 hl (k := 2) rfl ev108 (by decide) rfl (fun ls hl => ?_)
          refine lv_goto (tgt := 73) hx hb dX4_passBarIfAllWait_100 (by decide) ?_
          exact ih73 _ _ _ _ (by omega) ⟨F104, _, v108, rfl, lv_sub hl [1, 2, 0] rfl, hI, hP, hS, hfr, ⟨by omega, by omega⟩, rfl⟩
      · have c36 := mt (ax_eq (n := 0) (by decide)).mpr c36
        exact W.vret hx hb hr (fun t ht hW => ⟨⟨F9, rfl, ⟨trivial, trivial, hI, hfr⟩, by rw [ht]; exact hP, va_K.moved hW.alike hK⟩, hS.F ht⟩) hS.2.2 dX4_passBarIfAllWait_69
  · have c34 := mt Int32.le_iff_toInt_le.mpr c34
    refine lv_iload_n hx hb dX4_passBarIfAllWait_16 rfl (lv_at hl 2 rfl) ?_
    refine lv_aload_n hx hb dX4_passBarIfAllWait_17 rfl (lv_at hl 0 rfl) ?_
    refine th_get (D := (dC, dI)) (ci := 4) (v := .ref z7) (C := RX4) (T := TX4) (N := 15) hx hb hts inX4 hown hK hP (hLK _ ha0 (by decide)) o33 rfl 0 (by decide) (hts _ T_107) (fun _ h9 => h9) rfl dX4_passBarIfAllWait_18 ?_
    refine lv_iload hx hb dX4_passBarIfAllWait_21 (lv_at hl 4 rfl) ?_
    obtain ⟨f109, o110, h111⟩ := s_op26 hI h8
    obtain ⟨z112, o114, h113⟩ := h111 (w3 : Int32).toNatClampNeg (th_cl ⟨by omega, by omega⟩)
    refine th_aald hx hb hK hP (hLK _ h8 (by decide)) 3 o110 rfl (th_in ⟨by omega, by omega⟩) o114 dX4_passBarIfAllWait_23 ?_
    obtain ⟨z115, z117, z119, z121, z123, z125, z127, z128, z129, z130, z131, o133, h116, h118, h120, h122, h124, h126, h132, -⟩ := s_op6 hI h113
    refine th_getN (D := (dC, dI)) (ci := 5) (v := .int z127) (C := RX5) (T := TX5) (N := 11) hx hb hts inX5 hown hK hP (hLK _ h113 (by decide)) o133 rfl 6 (by decide) (va_Nw.use rfl (ax_n45 hN)) (fun _ h9 => h9) rfl dX4_passBarIfAllWait_24 ?_
    refine lv_ior hx hb dX4_passBarIfAllWait_27 ?_
    refine lv_topi (fun v134 ev134 => ?_)
    refine lv_istore_n (lv' := [(2, .int v134), (0, .ref a0), (1, .int x1), (3, .int w2), (4, .int w3)]) hx hb dX4_passBarIfAllWait_28 rfl hl (by decide) rfl (fun ls hl => ?_)
    refine lv_iload_n hx hb dX4_passBarIfAllWait_29 rfl (lv_at hl 3 rfl) ?_
    refine lv_aload_n hx hb dX4_passBarIfAllWait_30 rfl (lv_at hl 1 rfl) ?_
    refine th_get (D := (dC, dI)) (ci := 4) (v := .ref z7) (C := RX4) (T := TX4) (N := 15) hx hb hts inX4 hown hK hP (hLK _ ha0 (by decide)) o33 rfl 0 (by decide) (hts _ T_107) (fun _ h9 => h9) rfl dX4_passBarIfAllWait_31 ?_
    refine lv_iload hx hb dX4_passBarIfAllWait_34 (lv_at hl 4 rfl) ?_
    obtain ⟨f135, o136, h137⟩ := s_op26 hI h8
    obtain ⟨z138, o140, h139⟩ := h137 (w3 : Int32).toNatClampNeg (th_cl ⟨by omega, by omega⟩)
    refine th_aald hx hb hK hP (hLK _ h8 (by decide)) 3 o136 rfl (th_in ⟨by omega, by omega⟩) o140 dX4_passBarIfAllWait_36 ?_
    obtain ⟨z141, z143, z145, z147, z149, z151, z153, z154, z155, z156, z157, o159, h142, h144, h146, h148, h150, h152, h158, -⟩ := s_op6 hI h139
    refine th_getN (D := (dC, dI)) (ci := 5) (v := .int z153) (C := RX5) (T := TX5) (N := 11) hx hb hts inX5 hown hK hP (hLK _ h139 (by decide)) o159 rfl 6 (by decide) (va_Nw.use rfl (ax_n45 hN)) (fun _ h9 => h9) rfl dX4_passBarIfAllWait_37 ?_
    refine lv_aload_n hx hb dX4_passBarIfAllWait_40 rfl (lv_at hl 1 rfl) ?_
    refine th_get (D := (dC, dI)) (ci := 4) (v := .ref z7) (C := RX4) (T := TX4) (N := 15) hx hb hts inX4 hown hK hP (hLK _ ha0 (by decide)) o33 rfl 0 (by decide) (hts _ T_107) (fun _ h9 => h9) rfl dX4_passBarIfAllWait_41 ?_
    refine lv_iload hx hb dX4_passBarIfAllWait_44 (lv_at hl 4 rfl) ?_
    obtain ⟨f160, o161, h162⟩ := s_op26 hI h8
    obtain ⟨z163, o165, h164⟩ := h162 (w3 : Int32).toNatClampNeg (th_cl ⟨by omega, by omega⟩)
    refine th_aald hx hb hK hP (hLK _ h8 (by decide)) 3 o161 rfl (th_in ⟨by omega, by omega⟩) o165 dX4_passBarIfAllWait_46 ?_
    obtain ⟨z166, z168, z170, z172, z174, z176, z178, z179, z180, z181, z182, o184, h167, h169, h171, h173, h175, h177, h183, -⟩ := s_op6 hI h164
    refine th_getN (D := (dC, dI)) (ci := 5) (v := .int z179) (C := RX5) (T := TX5) (N := 11) hx hb hts inX5 hown hK hP (hLK _ h164 (by decide)) o184 rfl 7 (by decide) (va_Nw.use rfl (ax_n47 hN)) (fun _ h9 => h9) rfl dX4_passBarIfAllWait_47 ?_
    refine lv_iconst (v := (-1)) hx hb dX4_passBarIfAllWait_50 (by decide) ?_
    refine lv_ixor hx hb dX4_passBarIfAllWait_51 ?_
    refine lv_topi (fun v185 ev185 => ?_)
    refine lv_iand hx hb dX4_passBarIfAllWait_52 ?_
    refine lv_topi (fun v186 ev186 => ?_)
    refine lv_ior hx hb dX4_passBarIfAllWait_53 ?_
    refine lv_topi (fun v187 ev187 => ?_)
    refine lv_istore_n (lv' := [(3, .int v187), (2, .int v134), (0, .ref a0), (1, .int x1), (4, .int w3)]) hx hb dX4_passBarIfAllWait_54 rfl hl (by decide) rfl (fun ls hl => ?_)
    obtain ⟨v188, ev188⟩ : ∃ y : Int32, w3 + 1 = y := ⟨_, rfl⟩
    have qv188 : v188.toInt = w3.toInt + 1 := by rw [← ev188]; exact th_add rfl (by decide) ⟨by omega, by omega⟩
    refine lv_iinc (v := v188) (lv' := [(4, .int v188), (3, .int v187), (2, .int v134), (0, .ref a0), (1, .int x1)]) hx hb dX4_passBarIfAllWait_55 hl (k := 4) rfl ev188 (by decide) rfl (fun ls hl => ?_)
    refine lv_goto (tgt := 7) hx hb dX4_passBarIfAllWait_58 (by decide) ?_
    exact ih7 _ _ _ _ (by omega) ⟨F9, _, v134, v187, v188, rfl, lv_sub hl [3, 4, 2, 1, 0] rfl, hI, hP, hS, hfr, trivial, trivial, ⟨by omega, by omega⟩, rfl⟩

