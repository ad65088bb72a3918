set_option maxHeartbeats 4000000 in
set_option maxRecDepth 100000 in
theorem s_X4_lay (l : Launch) (dC : Nat → ClassId) (dI : Nat → Nat → Nat) (sz : Nat) {L : List Nat} {K : Nat → Nat} {cs : Nat → ClassId} (hLK : ∀ a {k : Nat}, K a = k → k ≠ 0 → a ∈ L) (D : Nat) (F : Nat → va_E) (a0 : Nat) (x1 : Int32) (x2 : Int32) (x3 : Int32) (ha0 : K a0 = 5) (hx3 : 0 ≤ x3.toInt ∧ x3.toInt ≤ 3) (hI : s_I K cs D F) : Met l yX4_lay (Cond.code yX4_lay cX4_lay 4 none :: T0) ({ frames := 0, cells := 0, slots := 0, locals := 0 }) (va_Pc [.ref a0, .int x1, .int x2, .int x3] (s_W dC dI sz L F [(cs 0, .int), (cs 1, .byte), (cs 2, .long), (cs 3, .object RX5), (cs 4, .object RX4), (cs 5, .array .int)])) (va_Qv (fun (G : Nat → va_E) => True ∧ True ∧ s_I K cs D G ∧ ∀ b, K b ∉ [5] → G b = F b) (fun (G : Nat → va_E) (t : State) => va_P (dC, dI) vwCl (va_pl L G) t.heap ∧ va_K (dC, dI) vwCl [(cs 0, .int), (cs 1, .byte), (cs 2, .long), (cs 3, .object RX5), (cs 4, .object RX4), (cs 5, .array .int)] t) (fun q => q ∈ L)) 0 0 (fun q => q ∈ L) := by
  refine Met.ofW (cc := cX4_lay) (maxL := 4) (ret := none) (by decide) rfl ?_
  intro p e s m args below meth c s₁ B hml hv
  obtain ⟨rfl, hsz, hP, hK, hD, hN⟩ := hv
  have hx := B.exec
  have hb := B.bytes
  have hr := B.returns
  have hts : ∀ w ∈ T0, w.before _ s = true := fun w h => atoms_spec (ws := Cond.code yX4_lay cX4_lay 4 none :: T0) B.pre w (List.mem_cons_of_mem _ h)
  have hown : s.vm.findClass RX4 = some m.cls := findClass_of_methodNamed B.named
  have hlocks := B.notSynchronized
  have hS : va_S (fun q => q ∈ L) s.heap s.heap [] := va_S.rf
  have hfr : ∀ b, K b ∉ [5] → F b = F b := fun _ _ => rfl
  have hl := lv_entry ([.ref a0, .int x1, .int x2, .int x3]) (n := 4) (Nat.le_of_ble_eq_true rfl)
  rw [lg_entry_eq]
  generalize (lg_sl ([.ref a0, .int x1, .int x2, .int x3]) ++ List.replicate (4 - (lg_sl ([.ref a0, .int x1, .int x2, .int x3])).length) Slot.unset).toArray = ls at hl ⊢
  have hl : lv_has ls 4 [(0, .ref a0), (1, .int x1), (2, .int x2), (3, .int x3)] := hl
  refine s_gen hP hS (fun H locs hP hS => ?_)
  refine lv_aload_n hx hb dX4_lay_0 rfl (lv_at hl 0 rfl) ?_
  refine lv_iload_n hx hb dX4_lay_1 rfl (lv_at hl 1 rfl) ?_
  obtain ⟨z1, z3, z5, z7, z9, z11, z13, z15, z17, z18, z19, z21, z22, z24, z25, o27, h2, h4, h6, h8, h10, h12, h14, h16, h20, h23, h26, -⟩ := s_op5 hI ha0
  refine th_put (D := (dC, dI)) (ci := 4) (v := .int x1) (ty := .int) (C := RX4) (T := TX4) (N := 15) hx hb hts inX4 tyX4 tyX4_ok nmX4 hown hK hP hD hS (hLK _ ha0 (by decide)) o27 rfl 8 (by decide) (hts _ T_35) (fun _ h9 => h9) rfl (by decide +kernel) rfl rfl (Nat.le_of_ble_eq_true rfl) dX4_lay_2 (fun H locs hP hS => ?_)
  have hP : va_P (dC, dI) vwCl (va_pl L (va_up F a0 (.inr (4, [.ref z1, .ref z3, .ref z5, .ref z7, .ref z9, .ref z11, .ref z13, .int z15, .int x1, .int z18, .int z19, .int z21, .int z22, .int z24, .int z25])))) H := hP
  obtain ⟨F28, hF29⟩ : ∃ G : Nat → va_E, G = va_up F a0 (.inr (4, [.ref z1, .ref z3, .ref z5, .ref z7, .ref z9, .ref z11, .ref z13, .int z15, .int x1, .int z18, .int z19, .int z21, .int z22, .int z24, .int z25])) := ⟨_, rfl⟩
  rw [← hF29] at hP
  have hI : s_I K cs D F28 := by rw [hF29]; exact s_cl5 hI ha0 ⟨z1, z3, z5, z7, z9, z11, z13, z15, x1, z18, z19, z21, z22, z24, z25, rfl, h2, h4, h6, h8, h10, h12, h14, ⟨by omega, by omega⟩, ⟨by omega, by omega⟩, ⟨by omega, by omega⟩, ⟨by omega, by omega⟩, trivial⟩
  have hfr : ∀ b, K b ∉ [5] → F28 b = F b := by rw [hF29]; exact s_fr hfr ha0 (by decide)
  have o30 : F28 a0 = .inr (4, [.ref z1, .ref z3, .ref z5, .ref z7, .ref z9, .ref z11, .ref z13, .int z15, .int x1, .int z18, .int z19, .int z21, .int z22, .int z24, .int z25]) := by rw [hF29]; exact th_up
  refine lv_aload_n hx hb dX4_lay_5 rfl (lv_at hl 0 rfl) ?_
  refine lv_iload_n hx hb dX4_lay_6 rfl (lv_at hl 2 rfl) ?_
  refine th_put (D := (dC, dI)) (ci := 4) (v := .int x2) (ty := .int) (C := RX4) (T := TX4) (N := 15) hx hb hts inX4 tyX4 tyX4_ok nmX4 hown hK hP hD hS (hLK _ ha0 (by decide)) o30 rfl 9 (by decide) (hts _ T_36) (fun _ h9 => h9) rfl (by decide +kernel) rfl rfl (Nat.le_of_ble_eq_true rfl) dX4_lay_7 (fun H locs hP hS => ?_)
  have hP : va_P (dC, dI) vwCl (va_pl L (va_up F28 a0 (.inr (4, [.ref z1, .ref z3, .ref z5, .ref z7, .ref z9, .ref z11, .ref z13, .int z15, .int x1, .int x2, .int z19, .int z21, .int z22, .int z24, .int z25])))) H := hP
  obtain ⟨F31, hF32⟩ : ∃ G : Nat → va_E, G = va_up F28 a0 (.inr (4, [.ref z1, .ref z3, .ref z5, .ref z7, .ref z9, .ref z11, .ref z13, .int z15, .int x1, .int x2, .int z19, .int z21, .int z22, .int z24, .int z25])) := ⟨_, rfl⟩
  rw [← hF32] at hP
  have hI : s_I K cs D F31 := by rw [hF32]; exact s_cl5 hI ha0 ⟨z1, z3, z5, z7, z9, z11, z13, z15, x1, x2, z19, z21, z22, z24, z25, rfl, h2, h4, h6, h8, h10, h12, h14, ⟨by omega, by omega⟩, ⟨by omega, by omega⟩, ⟨by omega, by omega⟩, ⟨by omega, by omega⟩, trivial⟩
  have hfr : ∀ b, K b ∉ [5] → F31 b = F b := by rw [hF32]; exact s_fr hfr ha0 (by decide)
  have o33 : F31 a0 = .inr (4, [.ref z1, .ref z3, .ref z5, .ref z7, .ref z9, .ref z11, .ref z13, .int z15, .int x1, .int x2, .int z19, .int z21, .int z22, .int z24, .int z25]) := by rw [hF32]; exact th_up
  refine lv_aload_n hx hb dX4_lay_10 rfl (lv_at hl 0 rfl) ?_
  refine lv_iload_n hx hb dX4_lay_11 rfl (lv_at hl 3 rfl) ?_
  refine th_put (D := (dC, dI)) (ci := 4) (v := .int x3) (ty := .int) (C := RX4) (T := TX4) (N := 15) hx hb hts inX4 tyX4 tyX4_ok nmX4 hown hK hP hD hS (hLK _ ha0 (by decide)) o33 rfl 10 (by decide) (hts _ T_37) (fun _ h9 => h9) rfl (by decide +kernel) rfl rfl (Nat.le_of_ble_eq_true rfl) dX4_lay_12 (fun H locs hP hS => ?_)
  have hP : va_P (dC, dI) vwCl (va_pl L (va_up F31 a0 (.inr (4, [.ref z1, .ref z3, .ref z5, .ref z7, .ref z9, .ref z11, .ref z13, .int z15, .int x1, .int x2, .int x3, .int z21, .int z22, .int z24, .int z25])))) H := hP
  obtain ⟨F34, hF35⟩ : ∃ G : Nat → va_E, G = va_up F31 a0 (.inr (4, [.ref z1, .ref z3, .ref z5, .ref z7, .ref z9, .ref z11, .ref z13, .int z15, .int x1, .int x2, .int x3, .int z21, .int z22, .int z24, .int z25])) := ⟨_, rfl⟩
  rw [← hF35] at hP
  have hI : s_I K cs D F34 := by rw [hF35]; exact s_cl5 hI ha0 ⟨z1, z3, z5, z7, z9, z11, z13, z15, x1, x2, x3, z21, z22, z24, z25, rfl, h2, h4, h6, h8, h10, h12, h14, ⟨by omega, by omega⟩, ⟨by omega, by omega⟩, ⟨by omega, by omega⟩, ⟨by omega, by omega⟩, trivial⟩
  have hfr : ∀ b, K b ∉ [5] → F34 b = F b := by rw [hF35]; exact s_fr hfr ha0 (by decide)
  have o36 : F34 a0 = .inr (4, [.ref z1, .ref z3, .ref z5, .ref z7, .ref z9, .ref z11, .ref z13, .int z15, .int x1, .int x2, .int x3, .int z21, .int z22, .int z24, .int z25]) := by rw [hF35]; exact th_up
  exact W.vret hx hb hr (fun t ht hW => ⟨⟨F34, rfl, ⟨trivial, trivial, hI, hfr⟩, by rw [ht]; exact hP, va_K.moved hW.alike hK⟩, hS.F ht⟩) hS.2.2 dX4_lay_15

set_option maxHeartbeats 4000000 in
set_option maxRecDepth 100000 in
theorem s_X4_restOfReady (l : Launch) (dC : Nat → ClassId) (dI : Nat → Nat → Nat) (sz : Nat) {L : List Nat} {K : Nat → Nat} {cs : Nat → ClassId} (hLK : ∀ a {k : Nat}, K a = k → k ≠ 0 → a ∈ L) (D : Nat) (F : Nat → va_E) (a0 : Nat) (x1 : Int32) (ha0 : K a0 = 5) (hx1 : 0 ≤ x1.toInt ∧ x1.toInt ≤ 3) (hI : s_I K cs D F) : Met l yX4_restOfReady (Cond.code yX4_restOfReady cX4_restOfReady 2 (some .int) :: T0) ({ frames := 1, cells := 0, slots := 0, locals := 13 }) (va_Pc [.ref a0, .int x1] (s_W dC dI sz L F [(cs 0, .int), (cs 1, .byte), (cs 2, .long), (cs 3, .object RX5), (cs 4, .object RX4), (cs 5, .array .int)])) (va_Qi (fun (r : Int32) (G : Nat → va_E) => (0 ≤ r.toInt ∧ r.toInt ≤ 2147483647) ∧ True ∧ s_I K cs D G ∧ ∀ b, K b ∉ ([] : List Nat) → G b = F b) (fun (G : Nat → va_E) (t : State) => va_P (dC, dI) vwCl (va_pl L G) t.heap ∧ va_K (dC, dI) vwCl [(cs 0, .int), (cs 1, .byte), (cs 2, .long), (cs 3, .object RX5), (cs 4, .object RX4), (cs 5, .array .int)] t) (fun q => q ∈ L)) 0 0 (fun q => q ∈ L) := by
  refine Met.ofW (cc := cX4_restOfReady) (maxL := 2) (ret := (some .int)) (by decide) rfl ?_
  intro p e s m args below meth c s₁ B hml hv
  obtain ⟨rfl, hsz, hP, hK, hD, hN⟩ := hv
  have hx := B.exec
  have hb := B.bytes
  have hr := B.returns
  have hts : ∀ w ∈ T0, w.before _ s = true := fun w h => atoms_spec (ws := Cond.code yX4_restOfReady cX4_restOfReady 2 (some .int) :: T0) B.pre w (List.mem_cons_of_mem _ h)
  have hown : s.vm.findClass RX4 = some m.cls := findClass_of_methodNamed B.named
  have hlocks := B.notSynchronized
  have hS : va_S (fun q => q ∈ L) s.heap s.heap [] := va_S.rf
  have hfr : ∀ b, K b ∉ ([] : List Nat) → F b = F b := fun _ _ => rfl
  have hl := lv_entry ([.ref a0, .int x1]) (n := 2) (Nat.le_of_ble_eq_true rfl)
  rw [lg_entry_eq]
  generalize (lg_sl ([.ref a0, .int x1]) ++ List.replicate (2 - (lg_sl ([.ref a0, .int x1])).length) Slot.unset).toArray = ls at hl ⊢
  have hl : lv_has ls 2 [(0, .ref a0), (1, .int x1)] := hl
  refine s_gen hP hS (fun H locs hP hS => ?_)
  refine lv_aload_n hx hb dX4_restOfReady_0 rfl (lv_at hl 0 rfl) ?_
  obtain ⟨z1, z3, z5, z7, z9, z11, z13, z15, z17, z18, z19, z21, z22, z24, z25, o27, h2, h4, h6, h8, h10, h12, h14, h16, h20, h23, h26, -⟩ := s_op5 hI ha0
  refine th_get (D := (dC, dI)) (ci := 4) (v := .ref z1) (C := RX4) (T := TX4) (N := 15) hx hb hts inX4 hown hK hP (hLK _ ha0 (by decide)) o27 rfl 0 (by decide) (hts _ T_56) (fun _ h9 => h9) rfl dX4_restOfReady_1 ?_
  refine lv_iload_n hx hb dX4_restOfReady_4 rfl (lv_at hl 1 rfl) ?_
  obtain ⟨f28, o29, h30⟩ := s_op26 hI h2
  obtain ⟨z31, o33, h32⟩ := h30 (x1 : Int32).toNatClampNeg (th_cl ⟨by omega, by omega⟩)
  refine th_aald hx hb hK hP (hLK _ h2 (by decide)) 3 o29 rfl (th_in ⟨by omega, by omega⟩) o33 dX4_restOfReady_5 ?_
  obtain ⟨z34, z36, z38, z40, z42, z44, z46, z47, z48, z49, z50, o52, h35, h37, h39, h41, h43, h45, h51, -⟩ := s_op6 hI h32
  refine th_getN (D := (dC, dI)) (ci := 5) (v := .int z48) (C := RX5) (T := TX5) (N := 11) hx hb hts inX5 hown hK hP (hLK _ h32 (by decide)) o52 rfl 8 (by decide) (va_Nw.use rfl hN.2.2) (fun _ h9 => h9) rfl dX4_restOfReady_6 ?_
  refine lv_aload_n hx hb dX4_restOfReady_9 rfl (lv_at hl 0 rfl) ?_
  refine th_get (D := (dC, dI)) (ci := 4) (v := .int z21) (C := RX4) (T := TX4) (N := 15) hx hb hts inX4 hown hK hP (hLK _ ha0 (by decide)) o27 rfl 11 (by decide) (hts _ T_46) (fun _ h9 => h9) rfl dX4_restOfReady_10 ?_
  refine lv_isub hx hb dX4_restOfReady_13 ?_
  refine lv_topi (fun v53 ev53 => ?_)
  refine lv_iconst (v := 0) hx hb dX4_restOfReady_14 (by decide) ?_
  refine va_mmax hx hb (by rw [hml]; exact hl.1.symm) hown (hts _ T_57) (hts _ T_58) (hts _ T_59) (hts _ T_60) (Nat.le_of_ble_eq_true rfl) (Nat.le_of_ble_eq_true rfl) (Nat.zero_le _) (Nat.zero_le _) dX4_restOfReady_15 ?_
  refine lv_topi (fun v54 ev54 => ?_)
  have qv54 := th_mmax (a := v53.toInt) (b := 0) ev54 rfl (by decide)
  exact W.iret (v := v54) hx hb hr (fun t ht hW => ⟨⟨v54, F, rfl, ⟨⟨by omega, by omega⟩, trivial, hI, hfr⟩, by rw [ht]; exact hP, va_K.moved hW.alike hK⟩, hS.F ht⟩) hS.2.2 dX4_restOfReady_18

set_option maxHeartbeats 4000000 in
set_option maxRecDepth 100000 in
theorem s_X4_canGo (l : Launch) (dC : Nat → ClassId) (dI : Nat → Nat → Nat) (sz : Nat) {L : List Nat} {K : Nat → Nat} {cs : Nat → ClassId} (hLK : ∀ a {k : Nat}, K a = k → k ≠ 0 → a ∈ L) (D : Nat) (F : Nat → va_E) (a0 : Nat) (x1 : Int32) (ha0 : K a0 = 5) (hx1 : 0 ≤ x1.toInt ∧ x1.toInt ≤ 3) (hI : s_I K cs D F) : Met l yX4_canGo (Cond.code yX4_canGo cX4_canGo 2 (some .boolean) :: T0) ({ frames := 1, cells := 0, slots := 0, locals := 22 }) (va_Pc [.ref a0, .int x1] (s_W dC dI sz L F [(cs 0, .int), (cs 1, .byte), (cs 2, .long), (cs 3, .object RX5), (cs 4, .object RX4), (cs 5, .array .int)])) (va_Qi (fun (r : Int32) (G : Nat → va_E) => (0 ≤ r.toInt ∧ r.toInt ≤ 1) ∧ True ∧ s_I K cs D G ∧ ∀ b, K b ∉ ([] : List Nat) → G b = F b) (fun (G : Nat → va_E) (t : State) => va_P (dC, dI) vwCl (va_pl L G) t.heap ∧ va_K (dC, dI) vwCl [(cs 0, .int), (cs 1, .byte), (cs 2, .long), (cs 3, .object RX5), (cs 4, .object RX4), (cs 5, .array .int)] t) (fun q => q ∈ L)) 0 0 (fun q => q ∈ L) := by
  refine Met.ofW (cc := cX4_canGo) (maxL := 2) (ret := (some .boolean)) (by decide) rfl ?_
  intro p e s m args below meth c s₁ B hml hv
  obtain ⟨rfl, hsz, hP, hK, hD, hN⟩ := hv
  have hx := B.exec
  have hb := B.bytes
  have hr := B.returns
  have hts : ∀ w ∈ T0, w.before _ s = true := fun w h => atoms_spec (ws := Cond.code yX4_canGo cX4_canGo 2 (some .boolean) :: T0) B.pre w (List.mem_cons_of_mem _ h)
  have hown : s.vm.findClass RX4 = some m.cls := findClass_of_methodNamed B.named
  have hlocks := B.notSynchronized
  have hS : va_S (fun q => q ∈ L) s.heap s.heap [] := va_S.rf
  have hfr : ∀ b, K b ∉ ([] : List Nat) → F b = F b := fun _ _ => rfl
  have hl := lv_entry ([.ref a0, .int x1]) (n := 2) (Nat.le_of_ble_eq_true rfl)
  rw [lg_entry_eq]
  generalize (lg_sl ([.ref a0, .int x1]) ++ List.replicate (2 - (lg_sl ([.ref a0, .int x1])).length) Slot.unset).toArray = ls at hl ⊢
  have hl : lv_has ls 2 [(0, .ref a0), (1, .int x1)] := hl
  refine s_gen hP hS (fun H locs hP hS => ?_)
  refine lv_aload_n hx hb dX4_canGo_0 rfl (lv_at hl 0 rfl) ?_
  obtain ⟨z1, z3, z5, z7, z9, z11, z13, z15, z17, z18, z19, z21, z22, z24, z25, o27, h2, h4, h6, h8, h10, h12, h14, h16, h20, h23, h26, -⟩ := s_op5 hI ha0
  refine th_get (D := (dC, dI)) (ci := 4) (v := .ref z1) (C := RX4) (T := TX4) (N := 15) hx hb hts inX4 hown hK hP (hLK _ ha0 (by decide)) o27 rfl 0 (by decide) (hts _ T_56) (fun _ h9 => h9) rfl dX4_canGo_1 ?_
  refine lv_iload_n hx hb dX4_canGo_4 rfl (lv_at hl 1 rfl) ?_
  obtain ⟨f28, o29, h30⟩ := s_op26 hI h2
  obtain ⟨z31, o33, h32⟩ := h30 (x1 : Int32).toNatClampNeg (th_cl ⟨by omega, by omega⟩)
  refine th_aald hx hb hK hP (hLK _ h2 (by decide)) 3 o29 rfl (th_in ⟨by omega, by omega⟩) o33 dX4_canGo_5 ?_
  obtain ⟨z34, z36, z38, z40, z42, z44, z46, z47, z48, z49, z50, o52, h35, h37, h39, h41, h43, h45, h51, -⟩ := s_op6 hI h32
  refine th_getN (D := (dC, dI)) (ci := 5) (v := .int z48) (C := RX5) (T := TX5) (N := 11) hx hb hts inX5 hown hK hP (hLK _ h32 (by decide)) o52 rfl 8 (by decide) (va_Nw.use rfl hN.2.2) (fun _ h9 => h9) rfl dX4_canGo_6 ?_
  refine lv_aload_n hx hb dX4_canGo_9 rfl (lv_at hl 0 rfl) ?_
  refine th_get (D := (dC, dI)) (ci := 4) (v := .int z21) (C := RX4) (T := TX4) (N := 15) hx hb hts inX4 hown hK hP (hLK _ ha0 (by decide)) o27 rfl 11 (by decide) (hts _ T_46) (fun _ h9 => h9) rfl dX4_canGo_10 ?_
  refine lv_icmp_gt (tgt := 36) hx hb dX4_canGo_13 (by decide) (fun c53 => ?_) (fun c53 => ?_)
  · have c53 := Int32.lt_iff_toInt_lt.mp c53
    refine lv_iconst (v := 0) hx hb dX4_canGo_36 (by decide) ?_
    exact W.zret (v := 0) (ty := .boolean) hx hb hr (by decide) (fun t ht hW => ⟨⟨0, F, rfl, ⟨(by decide), trivial, hI, hfr⟩, by rw [ht]; exact hP, va_K.moved hW.alike hK⟩, hS.F ht⟩) hS.2.2 dX4_canGo_37
  · have c53 := mt Int32.lt_iff_toInt_lt.mpr c53
    refine lv_aload_n hx hb dX4_canGo_16 rfl (lv_at hl 0 rfl) ?_
    refine th_get (D := (dC, dI)) (ci := 4) (v := .ref z1) (C := RX4) (T := TX4) (N := 15) hx hb hts inX4 hown hK hP (hLK _ ha0 (by decide)) o27 rfl 0 (by decide) (hts _ T_56) (fun _ h9 => h9) rfl dX4_canGo_17 ?_
    refine lv_iload_n hx hb dX4_canGo_20 rfl (lv_at hl 1 rfl) ?_
    obtain ⟨f54, o55, h56⟩ := s_op26 hI h2
    obtain ⟨z57, o59, h58⟩ := h56 (x1 : Int32).toNatClampNeg (th_cl ⟨by omega, by omega⟩)
    refine th_aald hx hb hK hP (hLK _ h2 (by decide)) 3 o55 rfl (th_in ⟨by omega, by omega⟩) o59 dX4_canGo_21 ?_
    refine lv_aload_n hx hb dX4_canGo_22 rfl (lv_at hl 0 rfl) ?_
    refine th_get (D := (dC, dI)) (ci := 4) (v := .int z17) (C := RX4) (T := TX4) (N := 15) hx hb hts inX4 hown hK hP (hLK _ ha0 (by decide)) o27 rfl 8 (by decide) (hts _ T_35) (fun _ h9 => h9) rfl dX4_canGo_23 ?_
    obtain ⟨z60, z62, z64, z66, z68, z70, z72, z73, z74, z75, z76, o78, h61, h63, h65, h67, h69, h71, h77, -⟩ := s_op6 hI h58
    refine va_calli (va_runV (As := [.int z17]) (rest := []) ⟨hx, hb, hml, hown, hts⟩ (s_X5_movable l dC dI H.size hLK D F z57 z17 h58 hI) (cwV 1 hts (ax_gV T_62 T_63 T_64 T_11 T_61) rfl rfl rfl (by decide +kernel) ⟨Nat.le_of_ble_eq_true rfl, Nat.le_of_ble_eq_true rfl⟩) ⟨fun a U g mk q => ⟨q.1, s_pc rfl rfl q.2⟩, s_recv hK hP (hLK _ h58 (by decide)) (ci := 5) rfl o78, fun U hU hW => ⟨rfl, s_pw hU hW hP hK hD hN⟩⟩ rfl rfl hl.1 rfl (lv_room (Nat.le_of_ble_eq_true rfl)) dX4_canGo_26 ⟨Nat.zero_le _, Nat.zero_le _⟩) hS (fun q _ h => h) (fun q h => h) (fun r79 F80 t H1 locs ht hvm hw hB hz1 hk1 hS => ?_)
    obtain ⟨hP, hK1⟩ := hB
    rw [ht] at hP
    generalize H1 = H at hP hS ⊢
    obtain ⟨h81, h82, hI, hfr1⟩ := hw
    have o83 : F80 a0 = .inr (4, [.ref z1, .ref z3, .ref z5, .ref z7, .ref z9, .ref z11, .ref z13, .int z15, .int z17, .int z18, .int z19, .int z21, .int z22, .int z24, .int z25]) := (hfr1 _ (by rw [ha0]; decide)).trans o27
    have o84 : F80 z31 = .inr (5, [.ref z34, .ref z36, .ref z38, .ref z40, .ref z42, .int z44, .int z46, .int z47, .int z48, .int z49, .int z50]) := (hfr1 _ (by rw [h32]; decide)).trans o52
    have o85 : F80 z57 = .inr (5, [.ref z60, .ref z62, .ref z64, .ref z66, .ref z68, .int z70, .int z72, .int z73, .int z74, .int z75, .int z76]) := (hfr1 _ (by rw [h58]; decide)).trans o78
    have hfr : ∀ b, K b ∉ ([] : List Nat) → F80 b = F b := fun b hb9 => (hfr1 b (fun q => hb9 (s_sub (by decide) q))).trans (hfr b hb9)
    refine lv_if_eq (tgt := 36) hx hb dX4_canGo_29 (by decide) (fun c86 => ?_) (fun c86 => ?_)
    · have c86 := (ax_eq (n := 0) (by decide)).mp c86
      refine lv_iconst (v := 0) hx hb dX4_canGo_36 (by decide) ?_
      exact W.zret (v := 0) (ty := .boolean) hx hb hr (by decide) (fun t ht hW => ⟨⟨0, F80, rfl, ⟨(by decide), trivial, hI, hfr⟩, by rw [ht]; exact hP, va_K.moved hW.alike hK⟩, hS.F ht⟩) hS.2.2 dX4_canGo_37
    · have c86 := mt (ax_eq (n := 0) (by decide)).mpr c86
      refine lv_iconst (v := 1) hx hb dX4_canGo_32 (by decide) ?_
      refine lv_goto (tgt := 37) hx hb dX4_canGo_33 (by decide) ?_
      exact W.zret (v := 1) (ty := .boolean) hx hb hr (by decide) (fun t ht hW => ⟨⟨1, F80, rfl, ⟨(by decide), trivial, hI, hfr⟩, by rw [ht]; exact hP, va_K.moved hW.alike hK⟩, hS.F ht⟩) hS.2.2 dX4_canGo_37

set_option maxHeartbeats 4000000 in
set_option maxRecDepth 100000 in
theorem s_X4_touch (l : Launch) (dC : Nat → ClassId) (dI : Nat → Nat → Nat) (sz : Nat) {L : List Nat} {K : Nat → Nat} {cs : Nat → ClassId} (hLK : ∀ a {k : Nat}, K a = k → k ≠ 0 → a ∈ L) (D : Nat) (F : Nat → va_E) (a0 : Nat) (x1 : Int32) (x2 : Int32) (x3 : Int32) (ha0 : K a0 = 5) (hx1 : 0 ≤ x1.toInt ∧ x1.toInt ≤ 95) (hx3 : 0 ≤ x3.toInt ∧ x3.toInt ≤ 1) (hI : s_I K cs D F) : Met l yX4_touch (Cond.code yX4_touch cX4_touch 4 none :: T0) ({ frames := 1, cells := 0, slots := 0, locals := 20 }) (va_Pc [.ref a0, .int x1, .int x2, .int x3] (s_W dC dI sz L F [(cs 0, .int), (cs 1, .byte), (cs 2, .long), (cs 3, .object RX5), (cs 4, .object RX4), (cs 5, .array .int)])) (va_Qv (fun (G : Nat → va_E) => True ∧ True ∧ s_I K cs D G ∧ ∀ b, K b ∉ [28] → G b = F b) (fun (G : Nat → va_E) (t : State) => va_P (dC, dI) vwCl (va_pl L G) t.heap ∧ va_K (dC, dI) vwCl [(cs 0, .int), (cs 1, .byte), (cs 2, .long), (cs 3, .object RX5), (cs 4, .object RX4), (cs 5, .array .int)] t) (fun q => q ∈ L)) 0 0 (fun q => q ∈ L) := by
  refine Met.ofW (cc := cX4_touch) (maxL := 4) (ret := none) (by decide) rfl ?_
  intro p e s m args below meth c s₁ B hml hv
  obtain ⟨rfl, hsz, hP, hK, hD, hN⟩ := hv
  have hx := B.exec
  have hb := B.bytes
  have hr := B.returns
  have hts : ∀ w ∈ T0, w.before _ s = true := fun w h => atoms_spec (ws := Cond.code yX4_touch cX4_touch 4 none :: T0) B.pre w (List.mem_cons_of_mem _ h)
  have hown : s.vm.findClass RX4 = some m.cls := findClass_of_methodNamed B.named
  have hlocks := B.notSynchronized
  have hS : va_S (fun q => q ∈ L) s.heap s.heap [] := va_S.rf
  have hfr : ∀ b, K b ∉ [28] → F b = F b := fun _ _ => rfl
  have hl := lv_entry ([.ref a0, .int x1, .int x2, .int x3]) (n := 4) (Nat.le_of_ble_eq_true rfl)
  rw [lg_entry_eq]
  generalize (lg_sl ([.ref a0, .int x1, .int x2, .int x3]) ++ List.replicate (4 - (lg_sl ([.ref a0, .int x1, .int x2, .int x3])).length) Slot.unset).toArray = ls at hl ⊢
  have hl : lv_has ls 4 [(0, .ref a0), (1, .int x1), (2, .int x2), (3, .int x3)] := hl
  refine s_gen hP hS (fun H locs hP hS => ?_)
  refine th_join (fun g H locs => ∃ (G : Nat → va_E) (ls : Array Slot), g = F0 m 23 ls [] ∧ lv_has ls 4 [(0, .ref a0), (1, .int x1)] ∧ s_I K cs D G ∧ va_P (dC, dI) vwCl (va_pl L G) H ∧ va_S (fun q => q ∈ L) s.heap H locs ∧ (∀ b, K b ∉ [28] → G b = F b) ∧ (0 ≤ x1.toInt ∧ x1.toInt ≤ 95)) (fun K23 => ?_) ?_
  · refine lv_aload_n hx hb dX4_touch_0 rfl (lv_at hl 0 rfl) ?_
    obtain ⟨z1, z3, z5, z7, z9, z11, z13, z15, z17, z18, z19, z21, z22, z24, z25, o27, h2, h4, h6, h8, h10, h12, h14, h16, h20, h23, h26, -⟩ := s_op5 hI ha0
    refine th_get (D := (dC, dI)) (ci := 4) (v := .ref z7) (C := RX4) (T := TX4) (N := 15) hx hb hts inX4 hown hK hP (hLK _ ha0 (by decide)) o27 rfl 3 (by decide) (hts _ T_43) (fun _ h9 => h9) rfl dX4_touch_1 ?_
    refine lv_iload_n hx hb dX4_touch_4 rfl (lv_at hl 1 rfl) ?_
    refine lv_dup2_11 hx hb dX4_touch_5 rfl rfl ?_
    obtain ⟨f28, o29, h30⟩ := s_op28 hI h8
    refine th_iald hx hb hK hP (hLK _ h8 (by decide)) 0 o29 rfl (th_in ⟨by omega, by omega⟩) dX4_touch_6 ?_
    refine lv_topi (fun v31 ev31 => ?_)
    refine lv_iconst (v := 1) hx hb dX4_touch_7 (by decide) ?_
    refine lv_iload_n hx hb dX4_touch_8 rfl (lv_at hl 2 rfl) ?_
    refine lv_ishl hx hb dX4_touch_9 ?_
    refine lv_topi (fun v32 ev32 => ?_)
    refine lv_ior hx hb dX4_touch_10 ?_
    refine lv_topi (fun v33 ev33 => ?_)
    obtain ⟨f34, o35, h36⟩ := s_op28 hI h8
    refine th_iast hx hb hK hP hD hS (hLK _ h8 (by decide)) 0 o35 rfl (th_in ⟨by omega, by omega⟩) dX4_touch_11 (fun H locs hP hS => ?_)
    have hP : va_P (dC, dI) vwCl (va_pl L (va_up F z7 (.inl (cs 0, 96, .inl (upd f34 (x1 : Int32).toNatClampNeg v33))))) H := hP
    obtain ⟨F37, hF38⟩ : ∃ G : Nat → va_E, G = va_up F z7 (.inl (cs 0, 96, .inl (upd f34 (x1 : Int32).toNatClampNeg v33))) := ⟨_, rfl⟩
    rw [← hF38] at hP
    have hI : s_I K cs D F37 := by rw [hF38]; exact s_cl28 hI h8 ⟨_, rfl, trivial⟩
    have hfr : ∀ b, K b ∉ [28] → F37 b = F b := by rw [hF38]; exact s_fr hfr h8 (by decide)
    have o39 : F37 a0 = .inr (4, [.ref z1, .ref z3, .ref z5, .ref z7, .ref z9, .ref z11, .ref z13, .int z15, .int z17, .int z18, .int z19, .int z21, .int z22, .int z24, .int z25]) := by rw [hF38]; exact th_ne (th_kd ha0 h8 (by decide)) o27
    refine lv_iload_n hx hb dX4_touch_12 rfl (lv_at hl 3 rfl) ?_
    refine lv_if_eq (tgt := 23) hx hb dX4_touch_13 (by decide) (fun c40 => ?_) (fun c40 => ?_)
    · have c40 := (ax_eq (n := 0) (by decide)).mp c40
      exact K23 _ _ _ ⟨F37, _, rfl, lv_sub hl [0, 1] rfl, hI, hP, hS, hfr, ⟨by omega, by omega⟩⟩
    · have c40 := mt (ax_eq (n := 0) (by decide)).mpr c40
      refine lv_aload_n hx hb dX4_touch_16 rfl (lv_at hl 0 rfl) ?_
      refine th_get (D := (dC, dI)) (ci := 4) (v := .ref z9) (C := RX4) (T := TX4) (N := 15) hx hb hts inX4 hown hK hP (hLK _ ha0 (by decide)) o39 rfl 4 (by decide) (hts _ T_44) (fun _ h9 => h9) rfl dX4_touch_17 ?_
      refine lv_iload_n hx hb dX4_touch_20 rfl (lv_at hl 1 rfl) ?_
      refine lv_iconst (v := 1) hx hb dX4_touch_21 (by decide) ?_
      obtain ⟨f41, o42, h43⟩ := s_op28 hI h10
      refine th_iast hx hb hK hP hD hS (hLK _ h10 (by decide)) 0 o42 rfl (th_in ⟨by omega, by omega⟩) dX4_touch_22 (fun H locs hP hS => ?_)
      have hP : va_P (dC, dI) vwCl (va_pl L (va_up F37 z9 (.inl (cs 0, 96, .inl (upd f41 (x1 : Int32).toNatClampNeg 1))))) H := hP
      obtain ⟨F44, hF45⟩ : ∃ G : Nat → va_E, G = va_up F37 z9 (.inl (cs 0, 96, .inl (upd f41 (x1 : Int32).toNatClampNeg 1))) := ⟨_, rfl⟩
      rw [← hF45] at hP
      have hI : s_I K cs D F44 := by rw [hF45]; exact s_cl28 hI h10 ⟨_, rfl, trivial⟩
      have hfr : ∀ b, K b ∉ [28] → F44 b = F b := by rw [hF45]; exact s_fr hfr h10 (by decide)
      have o46 : F44 a0 = .inr (4, [.ref z1, .ref z3, .ref z5, .ref z7, .ref z9, .ref z11, .ref z13, .int z15, .int z17, .int z18, .int z19, .int z21, .int z22, .int z24, .int z25]) := by rw [hF45]; exact th_ne (th_kd ha0 h10 (by decide)) o39
      exact K23 _ _ _ ⟨F44, _, rfl, lv_sub hl [0, 1] rfl, hI, hP, hS, hfr, ⟨by omega, by omega⟩⟩
  · intro g H locs hq
    obtain ⟨F9, ls, rfl, hl, hI, hP, hS, hfr, h47⟩ := hq
    refine lv_aload_n hx hb dX4_touch_23 rfl (lv_at hl 0 rfl) ?_
    obtain ⟨z49, z51, z53, z55, z57, z59, z61, z63, z65, z66, z67, z69, z70, z72, z73, o75, h50, h52, h54, h56, h58, h60, h62, h64, h68, h71, h74, -⟩ := s_op5 hI ha0
    refine th_get (D := (dC, dI)) (ci := 4) (v := .ref z57) (C := RX4) (T := TX4) (N := 15) hx hb hts inX4 hown hK hP (hLK _ ha0 (by decide)) o75 rfl 4 (by decide) (hts _ T_44) (fun _ h9 => h9) rfl dX4_touch_24 ?_
    refine lv_iload_n hx hb dX4_touch_27 rfl (lv_at hl 1 rfl) ?_
    obtain ⟨f76, o77, h78⟩ := s_op28 hI h58
    refine th_iald hx hb hK hP (hLK _ h58 (by decide)) 0 o77 rfl (th_in ⟨by omega, by omega⟩) dX4_touch_28 ?_
    refine lv_topi (fun v79 ev79 => ?_)
    refine lv_if_eq (tgt := 52) hx hb dX4_touch_29 (by decide) (fun c80 => ?_) (fun c80 => ?_)
    · have c80 := (ax_eq (n := 0) (by decide)).mp c80
      exact W.vret hx hb hr (fun t ht hW => ⟨⟨F9, rfl, ⟨trivial, trivial, hI, hfr⟩, by rw [ht]; exact hP, va_K.moved hW.alike hK⟩, hS.F ht⟩) hS.2.2 dX4_touch_52
    · have c80 := mt (ax_eq (n := 0) (by decide)).mpr c80
      refine lv_aload_n hx hb dX4_touch_32 rfl (lv_at hl 0 rfl) ?_
      refine th_get (D := (dC, dI)) (ci := 4) (v := .ref z55) (C := RX4) (T := TX4) (N := 15) hx hb hts inX4 hown hK hP (hLK _ ha0 (by decide)) o75 rfl 3 (by decide) (hts _ T_43) (fun _ h9 => h9) rfl dX4_touch_33 ?_
      refine lv_iload_n hx hb dX4_touch_36 rfl (lv_at hl 1 rfl) ?_
      obtain ⟨f81, o82, h83⟩ := s_op28 hI h56
      refine th_iald hx hb hK hP (hLK _ h56 (by decide)) 0 o82 rfl (th_in ⟨by omega, by omega⟩) dX4_touch_37 ?_
      refine lv_topi (fun v84 ev84 => ?_)
      refine va_calli (va_runS (As := [.int v84]) (rest := []) ⟨hx, hb, hml, hown, hts⟩ (s_J6_bitCount_0f7a4 l dC dI H.size hLK D F9 v84 hI) ⟨callB_of 1 hts (ax_gT T_65) rfl rfl rfl (hts _ T_66) (hts _ T_67) (by decide +kernel) ⟨Nat.le_of_ble_eq_true rfl, Nat.le_of_ble_eq_true rfl⟩, hts _ T_68⟩ ⟨fun a U g mk q => ⟨q.1, s_pc rfl rfl q.2⟩, fun U hU hW => ⟨rfl, s_pw hU hW hP hK hD hN⟩⟩ rfl rfl hl.1 rfl (lv_room (Nat.le_of_ble_eq_true rfl)) dX4_touch_38 ⟨Nat.zero_le _, Nat.zero_le _⟩) hS (fun q _ h => h) (fun q h => h) (fun r85 F86 t H1 locs ht hvm hw hB hz1 hk1 hS => ?_)
      obtain ⟨hP, hK1⟩ := hB
      rw [ht] at hP
      generalize H1 = H at hP hS ⊢
      obtain ⟨h87, h88, hI, hfr1⟩ := hw
      have o89 : F86 a0 = .inr (4, [.ref z49, .ref z51, .ref z53, .ref z55, .ref z57, .ref z59, .ref z61, .int z63, .int z65, .int z66, .int z67, .int z69, .int z70, .int z72, .int z73]) := (hfr1 _ (by rw [ha0]; decide)).trans o75
      have hfr : ∀ b, K b ∉ [28] → F86 b = F b := fun b hb9 => (hfr1 b (fun q => hb9 (s_sub (by decide) q))).trans (hfr b hb9)
      refine lv_iconst (v := 1) hx hb dX4_touch_41 (by decide) ?_
      refine lv_icmp_le (tgt := 52) hx hb dX4_touch_42 (by decide) (fun c90 => ?_) (fun c90 => ?_)
      · have c90 := (ax_le (n := 1) (by decide)).mp c90
        exact W.vret hx hb hr (fun t ht hW => ⟨⟨F86, rfl, ⟨trivial, trivial, hI, hfr⟩, by rw [ht]; exact hP, va_K.moved hW.alike hK⟩, hS.F ht⟩) hS.2.2 dX4_touch_52
      · have c90 := mt (ax_le (n := 1) (by decide)).mpr c90
        refine lv_aload_n hx hb dX4_touch_45 rfl (lv_at hl 0 rfl) ?_
        refine th_get (D := (dC, dI)) (ci := 4) (v := .ref z59) (C := RX4) (T := TX4) (N := 15) hx hb hts inX4 hown hK hP (hLK _ ha0 (by decide)) o89 rfl 5 (by decide) (hts _ T_45) (fun _ h9 => h9) rfl dX4_touch_46 ?_
        refine lv_iload_n hx hb dX4_touch_49 rfl (lv_at hl 1 rfl) ?_
        refine lv_iconst (v := 1) hx hb dX4_touch_50 (by decide) ?_
        obtain ⟨f91, o92, h93⟩ := s_op28 hI h60
        refine th_iast hx hb hK hP hD hS (hLK _ h60 (by decide)) 0 o92 rfl (th_in ⟨by omega, by omega⟩) dX4_touch_51 (fun H locs hP hS => ?_)
        have hP : va_P (dC, dI) vwCl (va_pl L (va_up F86 z59 (.inl (cs 0, 96, .inl (upd f91 (x1 : Int32).toNatClampNeg 1))))) H := hP
        obtain ⟨F94, hF95⟩ : ∃ G : Nat → va_E, G = va_up F86 z59 (.inl (cs 0, 96, .inl (upd f91 (x1 : Int32).toNatClampNeg 1))) := ⟨_, rfl⟩
        rw [← hF95] at hP
        have hI : s_I K cs D F94 := by rw [hF95]; exact s_cl28 hI h60 ⟨_, rfl, trivial⟩
        have hfr : ∀ b, K b ∉ [28] → F94 b = F b := by rw [hF95]; exact s_fr hfr h60 (by decide)
        have o96 : F94 a0 = .inr (4, [.ref z49, .ref z51, .ref z53, .ref z55, .ref z57, .ref z59, .ref z61, .int z63, .int z65, .int z66, .int z67, .int z69, .int z70, .int z72, .int z73]) := by rw [hF95]; exact th_ne (th_kd ha0 h60 (by decide)) o89
        exact W.vret hx hb hr (fun t ht hW => ⟨⟨F94, rfl, ⟨trivial, trivial, hI, hfr⟩, by rw [ht]; exact hP, va_K.moved hW.alike hK⟩, hS.F ht⟩) hS.2.2 dX4_touch_52

