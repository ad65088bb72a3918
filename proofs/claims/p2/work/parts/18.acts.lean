set_option maxHeartbeats 4000000 in
set_option maxRecDepth 100000 in
theorem s_X6_next (l : Launch) (dC : Nat → ClassId) (dI : Nat → Nat → Nat) (sz : Nat) {L : List Nat} {K : Nat → Nat} {cs : Nat → ClassId} (hLK : ∀ a {k : Nat}, K a = k → k ≠ 0 → a ∈ L) (D : Nat) (F : Nat → va_E) (a0 : Nat) (x1 : Int32) (ha0 : K a0 = 7) (hI : s_I K cs D F) (hPG : s_PG K cs F) : Met l yX6_next (Cond.code yX6_next cX6_next 2 (some .int) :: T0) ({ frames := 4, cells := 0, slots := 0, locals := 92 }) (va_Pc [.ref a0, .int x1] (s_W dC dI sz L F [(cs 0, .int), (cs 1, .byte), (cs 2, .long), (cs 3, .object RX5), (cs 4, .object RX4), (cs 5, .array .int), (cs 6, .char), (cs 7, .boolean)])) (va_Qi (fun (r : Int32) (G : Nat → va_E) => True ∧ True ∧ s_I K cs D G ∧ ∀ b, K b ∉ [2, 34, 35] → G b = F b) (fun (G : Nat → va_E) (t : State) => va_P (dC, dI) vwCl (va_pl L G) t.heap ∧ va_K (dC, dI) vwCl [(cs 0, .int), (cs 1, .byte), (cs 2, .long), (cs 3, .object RX5), (cs 4, .object RX4), (cs 5, .array .int), (cs 6, .char), (cs 7, .boolean)] t) (fun q => q ∈ L)) 0 0 (fun q => q ∈ L) := by
  refine Met.ofW (cc := cX6_next) (maxL := 2) (ret := (some .int)) (by decide) rfl ?_
  intro p e s m args below meth c s₁ B hml hv
  obtain ⟨rfl, hsz, hP, hK, hD, hN⟩ := hv
  have hx := B.exec
  have hb := B.bytes
  have hr := B.returns
  have hts : ∀ w ∈ T0, w.before _ s = true := fun w h => atoms_spec (ws := Cond.code yX6_next cX6_next 2 (some .int) :: T0) B.pre w (List.mem_cons_of_mem _ h)
  have hown : s.vm.findClass RX6 = some m.cls := findClass_of_methodNamed B.named
  have hlocks := B.notSynchronized
  have hS : va_S (fun q => q ∈ L) s.heap s.heap [] := va_S.rf
  have hfr : ∀ b, K b ∉ [2, 34, 35] → F b = F b := fun _ _ => rfl
  have hl := lv_entry ([.ref a0, .int x1]) (n := 2) (Nat.le_of_ble_eq_true rfl)
  rw [lg_entry_eq]
  generalize (lg_sl ([.ref a0, .int x1]) ++ List.replicate (2 - (lg_sl ([.ref a0, .int x1])).length) Slot.unset).toArray = ls at hl ⊢
  have hl : lv_has ls 2 [(0, .ref a0), (1, .int x1)] := hl
  have hI0 := hI
  refine s_gen hP hS (fun H locs hP hS => ?_)
  refine lv_aload_n hx hb dX6_next_0 rfl (lv_at hl 0 rfl) ?_
  obtain ⟨z1, z3, z5, z7, z9, z11, z12, z14, z16, z18, z20, z22, z24, z26, o28, h2, h4, h6, h8, h10, h13, h15, h17, h19, h21, h23, h25, h27, -⟩ := s_op7 hI ha0
  refine th_get (D := (dC, dI)) (ci := 6) (v := .int z11) (C := RX6) (T := TX6) (N := 14) hx hb hts inX6 hown hK hP (hLK _ ha0 (by decide)) o28 rfl 5 (by decide) (hts _ T_224) (fun _ h9 => h9) rfl dX6_next_1 ?_
  refine lv_if_eq (tgt := 34) hx hb dX6_next_4 (by decide) (fun c29 => ?_) (fun c29 => ?_)
  · have c29 := (ax_eq (n := 0) (by decide)).mp c29
    refine lv_iconst (v := (-1)) hx hb dX6_next_34 (by decide) ?_
    exact W.iret (v := (-1)) hx hb hr (fun t ht hW => ⟨⟨(-1), F, rfl, ⟨trivial, trivial, hI, hfr⟩, by rw [ht]; exact hP, va_K.moved hW.alike hK⟩, hS.F ht⟩) hS.2.2 dX6_next_35
  · have c29 := mt (ax_eq (n := 0) (by decide)).mpr c29
    refine lv_aload_n hx hb dX6_next_7 rfl (lv_at hl 0 rfl) ?_
    refine th_get (D := (dC, dI)) (ci := 6) (v := .ref z12) (C := RX6) (T := TX6) (N := 14) hx hb hts inX6 hown hK hP (hLK _ ha0 (by decide)) o28 rfl 6 (by decide) (hts _ T_174) (fun _ h9 => h9) rfl dX6_next_8 ?_
    obtain ⟨z30, z32, z34, z36, z38, z40, z42, z44, z46, z48, z50, z52, z53, z55, z56, o58, h31, h33, h35, h37, h39, h41, h43, h45, h47, h49, h51, h54, h57, -⟩ := s_op5 hI h13
    refine th_getN (D := (dC, dI)) (ci := 4) (v := .int z52) (C := RX4) (T := TX4) (N := 15) hx hb hts inX4 hown hK hP (hLK _ h13 (by decide)) o58 rfl 11 (by decide) (va_Nw.use rfl (ax_n59 hN)) (fun _ h9 => h9) rfl dX6_next_11 ?_
    refine lv_sipush (v := 9999) hx hb dX6_next_14 (by decide) ?_
    refine lv_icmp_ge (tgt := 34) hx hb dX6_next_17 (by decide) (fun c59 => ?_) (fun c59 => ?_)
    · have c59 := (ax_ge (n := 9999) (by decide)).mp c59
      refine lv_iconst (v := (-1)) hx hb dX6_next_34 (by decide) ?_
      exact W.iret (v := (-1)) hx hb hr (fun t ht hW => ⟨⟨(-1), F, rfl, ⟨trivial, trivial, hI, hfr⟩, by rw [ht]; exact hP, va_K.moved hW.alike hK⟩, hS.F ht⟩) hS.2.2 dX6_next_35
    · have c59 := mt (ax_ge (n := 9999) (by decide)).mpr c59
      refine lv_aload_n hx hb dX6_next_20 rfl (lv_at hl 0 rfl) ?_
      refine th_get (D := (dC, dI)) (ci := 6) (v := .ref z20) (C := RX6) (T := TX6) (N := 14) hx hb hts inX6 hown hK hP (hLK _ ha0 (by decide)) o28 rfl 10 (by decide) (hts _ T_177) (fun _ h9 => h9) rfl dX6_next_21 ?_
      refine lv_aload_n hx hb dX6_next_24 rfl (lv_at hl 0 rfl) ?_
      refine th_get (D := (dC, dI)) (ci := 6) (v := .ref z12) (C := RX6) (T := TX6) (N := 14) hx hb hts inX6 hown hK hP (hLK _ ha0 (by decide)) o28 rfl 6 (by decide) (hts _ T_174) (fun _ h9 => h9) rfl dX6_next_25 ?_
      obtain ⟨z60, z62, z64, z66, z68, z70, z71, z73, z74, z75, z77, z78, o79, h61, h63, h65, h67, h69, h72, h76, -⟩ := s_op2 hI h21
      refine va_calli (va_runV (As := [.ref z12]) (rest := []) ⟨hx, hb, hml, hown, hts⟩ (s_X1_foresee l dC dI H.size hLK D F z20 z12 h21 h13 hI (s_PGt hI0 hfr (by decide) hPG)) (cwV 1 hts (ax_gV T_969 T_703 T_704 T_137 T_702) rfl rfl rfl (by decide +kernel) ⟨Nat.le_of_ble_eq_true rfl, Nat.le_of_ble_eq_true rfl⟩) ⟨fun a U g mk q => ⟨q.1, s_pc (U := U) rfl rfl q.2⟩, s_recv hK hP (hLK _ h21 (by decide)) (ci := 1) rfl o79, fun U hU hW => ⟨rfl, s_pw hU hW hP hK hD hN⟩⟩ rfl rfl hl.1 rfl (lv_room (Nat.le_of_ble_eq_true rfl)) dX6_next_28 ⟨Nat.zero_le _, Nat.zero_le _⟩) hS (fun q _ h => h) (fun q h => h) (fun r80 F81 t H1 locs ht hvm hw hB hz1 hk1 hS => ?_)
      obtain ⟨hP, hK1⟩ := hB
      rw [ht] at hP
      generalize H1 = H at hP hS ⊢
      clear hz1 hk1
      obtain ⟨h82, h83, hI, hfr1, h84⟩ := hw
      have o85 : F81 a0 = .inr (6, [.ref z1, .int z3, .ref z5, .ref z7, .ref z9, .int z11, .ref z12, .ref z14, .int z16, .int z18, .ref z20, .ref z22, .ref z24, .long z26]) := (hfr1 _ (by rw [ha0]; decide)).trans o28
      have o86 : F81 z12 = .inr (4, [.ref z30, .ref z32, .ref z34, .ref z36, .ref z38, .ref z40, .ref z42, .int z44, .int z46, .int z48, .int z50, .int z52, .int z53, .int z55, .int z56]) := (hfr1 _ (by rw [h13]; decide)).trans o58
      have hfr : ∀ b, K b ∉ [2, 34, 35] → F81 b = F b := fun b hb9 => (hfr1 b (fun q => hb9 (s_sub (by decide) q))).trans (hfr b hb9)
      obtain ⟨h83, h87⟩ := h83
      have h87 : (¬ r80 = 0 → (∀ z0 z1 z2 z3 z4 z5 z6 z7 z8 z9 z10 z11 f g, F81 z20 = .inr (1, [.ref z0, .ref z1, .ref z2, .ref z3, .ref z4, .ref z5, .int z6, .int z7, .int z8, .int z9, .int z10, .long z11]) → F81 z0 = .inl (cs 0, 8, .inl f) → F81 z5 = .inl (cs 0, 7, .inl g) → ∀ i : Int32, 0 ≤ i.toInt → i.toInt < 8 → ¬ (z8 >>> (i &&& 31) &&& 1) = 0 → 9 ≤ (g 0).toInt → (g 0).toInt ≤ 11 → (f i.toNatClampNeg).toInt ≤ 31) ∧ (∀ z0 z1 z2 z3 z4 z5 z6 z7 z8 z9 z10 z11 g, F81 z20 = .inr (1, [.ref z0, .ref z1, .ref z2, .ref z3, .ref z4, .ref z5, .int z6, .int z7, .int z8, .int z9, .int z10, .long z11]) → F81 z5 = .inl (cs 0, 7, .inl g) → (g 0).toInt < 7 → 0 ≤ (g 1).toInt)) := h87
      refine lv_if_ne (tgt := 36) hx hb dX6_next_31 (by decide) (fun c88 => ?_) (fun c88 => ?_)
      · have c88 := mt (ax_eq (n := 0) (by decide)).mpr c88
        obtain ⟨z89, z91, z93, z95, z97, z99, z101, z103, z104, z105, z107, z108, o109, h90, h92, h94, h96, h98, h100, h102, h106, -⟩ := h84 (fun q => c88 (by rw [q]; decide))
        refine lv_iload_n hx hb dX6_next_36 rfl (lv_at hl 1 rfl) ?_
        by_cases c110 : x1 = 0
        · refine ax_eqi c110 ?_
          refine lv_tableIn (off := 31) (tgt := 68) hx hb dX6_next_37 (by decide) (by decide) (by decide) (by decide) ?_
          have c110 := (ax_eq (n := 0) (by decide)).mp c110
          refine lv_aload_n hx hb dX6_next_68 rfl (lv_at hl 0 rfl) ?_
          refine th_get (D := (dC, dI)) (ci := 6) (v := .ref z20) (C := RX6) (T := TX6) (N := 14) hx hb hts inX6 hown hK hP (hLK _ ha0 (by decide)) o85 rfl 10 (by decide) (hts _ T_177) (fun _ h9 => h9) rfl dX6_next_69 ?_
          refine th_getN (D := (dC, dI)) (ci := 1) (v := .int z101) (C := RX1) (T := TX1) (N := 12) hx hb hts inX1 hown hK hP (hLK _ h21 (by decide)) o109 rfl 6 (by decide) (va_Nw.use rfl (ax_n67 hN)) (fun _ h9 => h9) rfl dX6_next_72 ?_
          exact W.iret (v := z101) hx hb hr (fun t ht hW => ⟨⟨z101, F81, rfl, ⟨trivial, trivial, hI, hfr⟩, by rw [ht]; exact hP, va_K.moved hW.alike hK⟩, hS.F ht⟩) hS.2.2 dX6_next_75
        · have c110 := mt (ax_eq (n := 0) (by decide)).mpr c110
          by_cases c111 : x1 = 1
          · refine ax_eqi c111 ?_
            refine lv_tableIn (off := 39) (tgt := 76) hx hb dX6_next_37 (by decide) (by decide) (by decide) (by decide) ?_
            have c111 := (ax_eq (n := 1) (by decide)).mp c111
            refine lv_aload_n hx hb dX6_next_76 rfl (lv_at hl 0 rfl) ?_
            refine th_get (D := (dC, dI)) (ci := 6) (v := .ref z20) (C := RX6) (T := TX6) (N := 14) hx hb hts inX6 hown hK hP (hLK _ ha0 (by decide)) o85 rfl 10 (by decide) (hts _ T_177) (fun _ h9 => h9) rfl dX6_next_77 ?_
            refine th_getN (D := (dC, dI)) (ci := 1) (v := .int z103) (C := RX1) (T := TX1) (N := 12) hx hb hts inX1 hown hK hP (hLK _ h21 (by decide)) o109 rfl 7 (by decide) (va_Nw.use rfl (ax_n68 hN)) (fun _ h9 => h9) rfl dX6_next_80 ?_
            exact W.iret (v := z103) hx hb hr (fun t ht hW => ⟨⟨z103, F81, rfl, ⟨trivial, trivial, hI, hfr⟩, by rw [ht]; exact hP, va_K.moved hW.alike hK⟩, hS.F ht⟩) hS.2.2 dX6_next_83
          · have c111 := mt (ax_eq (n := 1) (by decide)).mpr c111
            by_cases c112 : x1 = 2
            · refine ax_eqi c112 ?_
              refine lv_tableIn (off := 47) (tgt := 84) hx hb dX6_next_37 (by decide) (by decide) (by decide) (by decide) ?_
              have c112 := (ax_eq (n := 2) (by decide)).mp c112
              refine lv_aload_n hx hb dX6_next_84 rfl (lv_at hl 0 rfl) ?_
              refine th_get (D := (dC, dI)) (ci := 6) (v := .ref z20) (C := RX6) (T := TX6) (N := 14) hx hb hts inX6 hown hK hP (hLK _ ha0 (by decide)) o85 rfl 10 (by decide) (hts _ T_177) (fun _ h9 => h9) rfl dX6_next_85 ?_
              refine th_getN (D := (dC, dI)) (ci := 1) (v := .int z104) (C := RX1) (T := TX1) (N := 12) hx hb hts inX1 hown hK hP (hLK _ h21 (by decide)) o109 rfl 8 (by decide) (va_Nw.use rfl (ax_n69 hN)) (fun _ h9 => h9) rfl dX6_next_88 ?_
              exact W.iret (v := z104) hx hb hr (fun t ht hW => ⟨⟨z104, F81, rfl, ⟨trivial, trivial, hI, hfr⟩, by rw [ht]; exact hP, va_K.moved hW.alike hK⟩, hS.F ht⟩) hS.2.2 dX6_next_91
            · have c112 := mt (ax_eq (n := 2) (by decide)).mpr c112
              by_cases c113 : x1 = 3
              · refine ax_eqi c113 ?_
                refine lv_tableIn (off := 55) (tgt := 92) hx hb dX6_next_37 (by decide) (by decide) (by decide) (by decide) ?_
                have c113 := (ax_eq (n := 3) (by decide)).mp c113
                refine lv_aload_n hx hb dX6_next_92 rfl (lv_at hl 0 rfl) ?_
                refine th_get (D := (dC, dI)) (ci := 6) (v := .ref z20) (C := RX6) (T := TX6) (N := 14) hx hb hts inX6 hown hK hP (hLK _ ha0 (by decide)) o85 rfl 10 (by decide) (hts _ T_177) (fun _ h9 => h9) rfl dX6_next_93 ?_
                refine th_getN (D := (dC, dI)) (ci := 1) (v := .int z107) (C := RX1) (T := TX1) (N := 12) hx hb hts inX1 hown hK hP (hLK _ h21 (by decide)) o109 rfl 10 (by decide) (va_Nw.use rfl (ax_n70 hN)) (fun _ h9 => h9) rfl dX6_next_96 ?_
                exact W.iret (v := z107) hx hb hr (fun t ht hW => ⟨⟨z107, F81, rfl, ⟨trivial, trivial, hI, hfr⟩, by rw [ht]; exact hP, va_K.moved hW.alike hK⟩, hS.F ht⟩) hS.2.2 dX6_next_99
              · have c113 := mt (ax_eq (n := 3) (by decide)).mpr c113
                refine lv_tableOut (tgt := 100) hx hb dX6_next_37 (by omega) (by decide) ?_
                refine lv_iconst (v := (-1)) hx hb dX6_next_100 (by decide) ?_
                exact W.iret (v := (-1)) hx hb hr (fun t ht hW => ⟨⟨(-1), F81, rfl, ⟨trivial, trivial, hI, hfr⟩, by rw [ht]; exact hP, va_K.moved hW.alike hK⟩, hS.F ht⟩) hS.2.2 dX6_next_101
      · have c88 := (ax_eq (n := 0) (by decide)).mp c88
        refine lv_iconst (v := (-1)) hx hb dX6_next_34 (by decide) ?_
        exact W.iret (v := (-1)) hx hb hr (fun t ht hW => ⟨⟨(-1), F81, rfl, ⟨trivial, trivial, hI, hfr⟩, by rw [ht]; exact hP, va_K.moved hW.alike hK⟩, hS.F ht⟩) hS.2.2 dX6_next_35

set_option maxHeartbeats 4000000 in
set_option maxRecDepth 100000 in
theorem s_X6_goes (l : Launch) (dC : Nat → ClassId) (dI : Nat → Nat → Nat) (sz : Nat) {L : List Nat} {K : Nat → Nat} {cs : Nat → ClassId} (hLK : ∀ a {k : Nat}, K a = k → k ≠ 0 → a ∈ L) (D : Nat) (Dm : Nat) (hDm : D + 2007 ≤ Dm) (hDM : Dm < 2147483647) (F : Nat → va_E) (a0 : Nat) (x1 : Int32) (ha0 : K a0 = 7) (hI : s_I K cs D F) (hPG : s_PG K cs F) : Met l yX6_goes (Cond.code yX6_goes cX6_goes 2 (some .int) :: T0) ({ frames := 7, cells := 0, slots := 0, locals := 163 }) (va_Pc [.ref a0, .int x1] (s_W dC dI sz L F [(cs 0, .int), (cs 1, .byte), (cs 2, .long), (cs 3, .object RX5), (cs 4, .object RX4), (cs 5, .array .int), (cs 6, .char), (cs 7, .boolean)])) (va_Qi (fun (r : Int32) (G : Nat → va_E) => True ∧ True ∧ s_I K cs Dm G ∧ ∀ b, K b ∉ [1, 2, 5, 6, 24, 27, 28, 29, 30, 31, 32, 34, 35, 36] → G b = F b) (fun (G : Nat → va_E) (t : State) => va_P (dC, dI) vwCl (va_pl L G) t.heap ∧ va_K (dC, dI) vwCl [(cs 0, .int), (cs 1, .byte), (cs 2, .long), (cs 3, .object RX5), (cs 4, .object RX4), (cs 5, .array .int), (cs 6, .char), (cs 7, .boolean)] t) (fun q => q ∈ L)) 0 0 (fun q => q ∈ L) := by
  refine Met.ofW (cc := cX6_goes) (maxL := 2) (ret := (some .int)) (by decide) rfl ?_
  intro p e s m args below meth c s₁ B hml hv
  obtain ⟨rfl, hsz, hP, hK, hD, hN⟩ := hv
  have hx := B.exec
  have hb := B.bytes
  have hr := B.returns
  have hts : ∀ w ∈ T0, w.before _ s = true := fun w h => atoms_spec (ws := Cond.code yX6_goes cX6_goes 2 (some .int) :: T0) B.pre w (List.mem_cons_of_mem _ h)
  have hown : s.vm.findClass RX6 = some m.cls := findClass_of_methodNamed B.named
  have hlocks := B.notSynchronized
  have hS : va_S (fun q => q ∈ L) s.heap s.heap [] := va_S.rf
  have hfr : ∀ b, K b ∉ [1, 2, 5, 6, 24, 27, 28, 29, 30, 31, 32, 34, 35, 36] → F b = F b := fun _ _ => rfl
  have hl := lv_entry ([.ref a0, .int x1]) (n := 2) (Nat.le_of_ble_eq_true rfl)
  rw [lg_entry_eq]
  generalize (lg_sl ([.ref a0, .int x1]) ++ List.replicate (2 - (lg_sl ([.ref a0, .int x1])).length) Slot.unset).toArray = ls at hl ⊢
  have hl : lv_has ls 2 [(0, .ref a0), (1, .int x1)] := hl
  have hI0 := hI
  refine s_gen hP hS (fun H locs hP hS => ?_)
  refine lv_aload_n hx hb dX6_goes_0 rfl (lv_at hl 0 rfl) ?_
  obtain ⟨z1, z3, z5, z7, z9, z11, z12, z14, z16, z18, z20, z22, z24, z26, o28, h2, h4, h6, h8, h10, h13, h15, h17, h19, h21, h23, h25, h27, -⟩ := s_op7 hI ha0
  refine th_get (D := (dC, dI)) (ci := 6) (v := .int z11) (C := RX6) (T := TX6) (N := 14) hx hb hts inX6 hown hK hP (hLK _ ha0 (by decide)) o28 rfl 5 (by decide) (hts _ T_224) (fun _ h9 => h9) rfl dX6_goes_1 ?_
  refine lv_if_eq (tgt := 16) hx hb dX6_goes_4 (by decide) (fun c29 => ?_) (fun c29 => ?_)
  · have c29 := (ax_eq (n := 0) (by decide)).mp c29
    refine lv_iconst (v := (-1)) hx hb dX6_goes_16 (by decide) ?_
    exact W.iret (v := (-1)) hx hb hr (fun t ht hW => ⟨⟨(-1), F, rfl, ⟨trivial, trivial, (s_mono (by omega) hI), hfr⟩, by rw [ht]; exact hP, va_K.moved hW.alike hK⟩, hS.F ht⟩) hS.2.2 dX6_goes_17
  · have c29 := mt (ax_eq (n := 0) (by decide)).mpr c29
    refine lv_iload_n hx hb dX6_goes_7 rfl (lv_at hl 1 rfl) ?_
    refine lv_if_lt (tgt := 16) hx hb dX6_goes_8 (by decide) (fun c30 => ?_) (fun c30 => ?_)
    · have c30 := (ax_lt (n := 0) (by decide)).mp c30
      refine lv_iconst (v := (-1)) hx hb dX6_goes_16 (by decide) ?_
      exact W.iret (v := (-1)) hx hb hr (fun t ht hW => ⟨⟨(-1), F, rfl, ⟨trivial, trivial, (s_mono (by omega) hI), hfr⟩, by rw [ht]; exact hP, va_K.moved hW.alike hK⟩, hS.F ht⟩) hS.2.2 dX6_goes_17
    · have c30 := mt (ax_lt (n := 0) (by decide)).mpr c30
      refine lv_iload_n hx hb dX6_goes_11 rfl (lv_at hl 1 rfl) ?_
      refine lv_iconst (v := 3) hx hb dX6_goes_12 (by decide) ?_
      refine lv_icmp_lt (tgt := 18) hx hb dX6_goes_13 (by decide) (fun c31 => ?_) (fun c31 => ?_)
      · have c31 := (ax_lt (n := 3) (by decide)).mp c31
        refine lv_aload_n hx hb dX6_goes_18 rfl (lv_at hl 0 rfl) ?_
        refine th_get (D := (dC, dI)) (ci := 6) (v := .ref z22) (C := RX6) (T := TX6) (N := 14) hx hb hts inX6 hown hK hP (hLK _ ha0 (by decide)) o28 rfl 11 (by decide) (hts _ T_182) (fun _ h9 => h9) rfl dX6_goes_19 ?_
        refine lv_aload_n hx hb dX6_goes_22 rfl (lv_at hl 0 rfl) ?_
        refine th_get (D := (dC, dI)) (ci := 6) (v := .ref z12) (C := RX6) (T := TX6) (N := 14) hx hb hts inX6 hown hK hP (hLK _ ha0 (by decide)) o28 rfl 6 (by decide) (hts _ T_174) (fun _ h9 => h9) rfl dX6_goes_23 ?_
        refine lv_bipush (v := 16) hx hb dX6_goes_26 (by decide) ?_
        refine lv_iload_n hx hb dX6_goes_28 rfl (lv_at hl 1 rfl) ?_
        obtain ⟨z32, z34, z36, z38, z40, z42, z43, z45, z46, z48, z49, z51, z53, z55, o58, h33, h35, h37, h39, h41, h44, h47, h50, h52, h54, h56, h57, -⟩ := s_op1 hI h23
        refine va_calli (va_runV (As := [.ref z12, .int 16, .int x1]) (rest := []) ⟨hx, hb, hml, hown, hts⟩ (s_X0_course l dC dI H.size hLK D (D + 2007) (Nat.le_refl _) (by omega) F z22 z12 16 x1 h23 h13 (by decide) (⟨by omega, by omega⟩) hI (s_PGt hI0 hfr (by decide) hPG)) (cwV 3 hts (ax_gV T_921 T_923 T_924 T_180 T_922) rfl rfl rfl (by decide +kernel) ⟨Nat.le_of_ble_eq_true rfl, Nat.le_of_ble_eq_true rfl⟩) ⟨fun a U g mk q => ⟨q.1, s_pc (U := U) rfl rfl q.2⟩, s_recv hK hP (hLK _ h23 (by decide)) (ci := 0) rfl o58, fun U hU hW => ⟨rfl, s_pw hU hW hP hK hD hN⟩⟩ rfl rfl hl.1 rfl (lv_room (Nat.le_of_ble_eq_true rfl)) dX6_goes_29 ⟨Nat.zero_le _, Nat.zero_le _⟩) hS (fun q _ h => h) (fun q h => h) (fun r59 F60 t H1 locs ht hvm hw hB hz1 hk1 hS => ?_)
        obtain ⟨hP, hK1⟩ := hB
        rw [ht] at hP
        generalize H1 = H at hP hS ⊢
        clear hz1 hk1
        obtain ⟨h61, h62, hI, hfr1⟩ := hw
        have o63 : F60 a0 = .inr (6, [.ref z1, .int z3, .ref z5, .ref z7, .ref z9, .int z11, .ref z12, .ref z14, .int z16, .int z18, .ref z20, .ref z22, .ref z24, .long z26]) := (hfr1 _ (by rw [ha0]; decide)).trans o28
        have hfr : ∀ b, K b ∉ [1, 2, 5, 6, 24, 27, 28, 29, 30, 31, 32, 34, 35, 36] → F60 b = F b := fun b hb9 => (hfr1 b (fun q => hb9 (s_sub (by decide) q))).trans (hfr b hb9)
        exact W.iret (v := r59) hx hb hr (fun t ht hW => ⟨⟨r59, F60, rfl, ⟨trivial, trivial, (s_mono (by omega) hI), hfr⟩, by rw [ht]; exact hP, va_K.moved hW.alike hK⟩, hS.F ht⟩) hS.2.2 dX6_goes_32
      · have c31 := mt (ax_lt (n := 3) (by decide)).mpr c31
        refine lv_iconst (v := (-1)) hx hb dX6_goes_16 (by decide) ?_
        exact W.iret (v := (-1)) hx hb hr (fun t ht hW => ⟨⟨(-1), F, rfl, ⟨trivial, trivial, (s_mono (by omega) hI), hfr⟩, by rw [ht]; exact hP, va_K.moved hW.alike hK⟩, hS.F ht⟩) hS.2.2 dX6_goes_17

set_option maxHeartbeats 4000000 in
set_option maxRecDepth 100000 in
theorem s_X6_later (l : Launch) (dC : Nat → ClassId) (dI : Nat → Nat → Nat) (sz : Nat) {L : List Nat} {K : Nat → Nat} {cs : Nat → ClassId} (hLK : ∀ a {k : Nat}, K a = k → k ≠ 0 → a ∈ L) (D : Nat) (Dm : Nat) (hDm : D + 401 ≤ Dm) (hDM : Dm < 2147483647) (F : Nat → va_E) (a0 : Nat) (x1 : Int32) (x2 : Int32) (x3 : Int32) (x4 : Int32) (ha0 : K a0 = 7) (hI : s_I K cs D F) (hPG : s_PG K cs F) : Met l yX6_later (Cond.code yX6_later cX6_later 6 (some .int) :: T0) ({ frames := 6, cells := 0, slots := 0, locals := 137 }) (va_Pc [.ref a0, .int x1, .int x2, .int x3, .int x4] (s_W dC dI sz L F [(cs 0, .int), (cs 1, .byte), (cs 2, .long), (cs 3, .object RX5), (cs 4, .object RX4), (cs 5, .array .int), (cs 6, .char), (cs 7, .boolean)])) (va_Qi (fun (r : Int32) (G : Nat → va_E) => True ∧ True ∧ s_I K cs Dm G ∧ ∀ b, K b ∉ [2, 5, 6, 24, 27, 28, 29, 30, 31, 32, 34, 35] → G b = F b) (fun (G : Nat → va_E) (t : State) => va_P (dC, dI) vwCl (va_pl L G) t.heap ∧ va_K (dC, dI) vwCl [(cs 0, .int), (cs 1, .byte), (cs 2, .long), (cs 3, .object RX5), (cs 4, .object RX4), (cs 5, .array .int), (cs 6, .char), (cs 7, .boolean)] t) (fun q => q ∈ L)) 0 0 (fun q => q ∈ L) := by
  refine Met.ofW (cc := cX6_later) (maxL := 6) (ret := (some .int)) (by decide) rfl ?_
  intro p e s m args below meth c s₁ B hml hv
  obtain ⟨rfl, hsz, hP, hK, hD, hN⟩ := hv
  have hx := B.exec
  have hb := B.bytes
  have hr := B.returns
  have hts : ∀ w ∈ T0, w.before _ s = true := fun w h => atoms_spec (ws := Cond.code yX6_later cX6_later 6 (some .int) :: T0) B.pre w (List.mem_cons_of_mem _ h)
  have hown : s.vm.findClass RX6 = some m.cls := findClass_of_methodNamed B.named
  have hlocks := B.notSynchronized
  have hS : va_S (fun q => q ∈ L) s.heap s.heap [] := va_S.rf
  have hfr : ∀ b, K b ∉ [2, 5, 6, 24, 27, 28, 29, 30, 31, 32, 34, 35] → F b = F b := fun _ _ => rfl
  have hl := lv_entry ([.ref a0, .int x1, .int x2, .int x3, .int x4]) (n := 6) (Nat.le_of_ble_eq_true rfl)
  rw [lg_entry_eq]
  generalize (lg_sl ([.ref a0, .int x1, .int x2, .int x3, .int x4]) ++ List.replicate (6 - (lg_sl ([.ref a0, .int x1, .int x2, .int x3, .int x4])).length) Slot.unset).toArray = ls at hl ⊢
  have hl : lv_has ls 6 [(0, .ref a0), (1, .int x1), (2, .int x2), (3, .int x3), (4, .int x4)] := hl
  have hI0 := hI
  refine s_gen hP hS (fun H locs hP hS => ?_)
  refine lv_aload_n hx hb dX6_later_0 rfl (lv_at hl 0 rfl) ?_
  refine lv_iload_n hx hb dX6_later_1 rfl (lv_at hl 2 rfl) ?_
  refine lv_iload_n hx hb dX6_later_2 rfl (lv_at hl 3 rfl) ?_
  obtain ⟨z1, z3, z5, z7, z9, z11, z12, z14, z16, z18, z20, z22, z24, z26, o28, h2, h4, h6, h8, h10, h13, h15, h17, h19, h21, h23, h25, h27, -⟩ := s_op7 hI ha0
  refine va_calli (va_runV (As := [.int x2, .int x3]) (rest := []) ⟨hx, hb, hml, hown, hts⟩ (s_X6_hasLane l dC dI H.size hLK D F a0 x2 x3 ha0 hI) (cwV 2 hts (ax_gV T_229 T_230 T_231 T_193 T_17) rfl rfl rfl (by decide +kernel) ⟨Nat.le_of_ble_eq_true rfl, Nat.le_of_ble_eq_true rfl⟩) ⟨fun a U g mk q => ⟨q.1, s_pc (U := U) rfl rfl q.2⟩, s_recv hK hP (hLK _ ha0 (by decide)) (ci := 6) rfl o28, fun U hU hW => ⟨rfl, s_pw hU hW hP hK hD hN⟩⟩ rfl rfl hl.1 rfl (lv_room (Nat.le_of_ble_eq_true rfl)) dX6_later_3 ⟨Nat.zero_le _, Nat.zero_le _⟩) hS (fun q _ h => h) (fun q h => h) (fun r29 F30 t H1 locs ht hvm hw hB hz1 hk1 hS => ?_)
  obtain ⟨hP, hK1⟩ := hB
  rw [ht] at hP
  generalize H1 = H at hP hS ⊢
  clear hz1 hk1
  obtain ⟨h31, h32, hI, hfr1⟩ := hw
  have o33 : F30 a0 = .inr (6, [.ref z1, .int z3, .ref z5, .ref z7, .ref z9, .int z11, .ref z12, .ref z14, .int z16, .int z18, .ref z20, .ref z22, .ref z24, .long z26]) := (hfr1 _ (by rw [ha0]; decide)).trans o28
  have hfr : ∀ b, K b ∉ [2, 5, 6, 24, 27, 28, 29, 30, 31, 32, 34, 35] → F30 b = F b := fun b hb9 => (hfr1 b (fun q => hb9 (s_sub (by decide) q))).trans (hfr b hb9)
  refine lv_if_eq (tgt := 31) hx hb dX6_later_6 (by decide) (fun c34 => ?_) (fun c34 => ?_)
  · have c34 := (ax_eq (n := 0) (by decide)).mp c34
    refine lv_ldc (v := (-1000000)) hx hb hown (hts _ T_228) dX6_later_31 ?_
    exact W.iret (v := (-1000000)) hx hb hr (fun t ht hW => ⟨⟨(-1000000), F30, rfl, ⟨trivial, trivial, (s_mono (by omega) hI), hfr⟩, by rw [ht]; exact hP, va_K.moved hW.alike hK⟩, hS.F ht⟩) hS.2.2 dX6_later_33
  · have c34 := mt (ax_eq (n := 0) (by decide)).mpr c34
    have h35 := h32 (fun q => c34 (by rw [q]; decide))
    refine lv_iload hx hb dX6_later_9 (lv_at hl 4 rfl) ?_
    refine lv_if_lt (tgt := 31) hx hb dX6_later_11 (by decide) (fun c36 => ?_) (fun c36 => ?_)
    · have c36 := (ax_lt (n := 0) (by decide)).mp c36
      refine lv_ldc (v := (-1000000)) hx hb hown (hts _ T_228) dX6_later_31 ?_
      exact W.iret (v := (-1000000)) hx hb hr (fun t ht hW => ⟨⟨(-1000000), F30, rfl, ⟨trivial, trivial, (s_mono (by omega) hI), hfr⟩, by rw [ht]; exact hP, va_K.moved hW.alike hK⟩, hS.F ht⟩) hS.2.2 dX6_later_33
    · have c36 := mt (ax_lt (n := 0) (by decide)).mpr c36
      refine lv_iload hx hb dX6_later_14 (lv_at hl 4 rfl) ?_
      refine lv_iconst (v := 4) hx hb dX6_later_16 (by decide) ?_
      refine lv_icmp_ge (tgt := 31) hx hb dX6_later_17 (by decide) (fun c37 => ?_) (fun c37 => ?_)
      · have c37 := (ax_ge (n := 4) (by decide)).mp c37
        refine lv_ldc (v := (-1000000)) hx hb hown (hts _ T_228) dX6_later_31 ?_
        exact W.iret (v := (-1000000)) hx hb hr (fun t ht hW => ⟨⟨(-1000000), F30, rfl, ⟨trivial, trivial, (s_mono (by omega) hI), hfr⟩, by rw [ht]; exact hP, va_K.moved hW.alike hK⟩, hS.F ht⟩) hS.2.2 dX6_later_33
      · have c37 := mt (ax_ge (n := 4) (by decide)).mpr c37
        refine lv_iload_n hx hb dX6_later_20 rfl (lv_at hl 1 rfl) ?_
        refine lv_if_lt (tgt := 31) hx hb dX6_later_21 (by decide) (fun c38 => ?_) (fun c38 => ?_)
        · have c38 := (ax_lt (n := 0) (by decide)).mp c38
          refine lv_ldc (v := (-1000000)) hx hb hown (hts _ T_228) dX6_later_31 ?_
          exact W.iret (v := (-1000000)) hx hb hr (fun t ht hW => ⟨⟨(-1000000), F30, rfl, ⟨trivial, trivial, (s_mono (by omega) hI), hfr⟩, by rw [ht]; exact hP, va_K.moved hW.alike hK⟩, hS.F ht⟩) hS.2.2 dX6_later_33
        · have c38 := mt (ax_lt (n := 0) (by decide)).mpr c38
          refine lv_iload_n hx hb dX6_later_24 rfl (lv_at hl 1 rfl) ?_
          refine lv_sipush (v := 400) hx hb dX6_later_25 (by decide) ?_
          refine lv_icmp_le (tgt := 34) hx hb dX6_later_28 (by decide) (fun c39 => ?_) (fun c39 => ?_)
          · have c39 := (ax_le (n := 400) (by decide)).mp c39
            refine lv_aload_n hx hb dX6_later_34 rfl (lv_at hl 0 rfl) ?_
            refine th_get (D := (dC, dI)) (ci := 6) (v := .ref z22) (C := RX6) (T := TX6) (N := 14) hx hb hts inX6 hown hK hP (hLK _ ha0 (by decide)) o33 rfl 11 (by decide) (hts _ T_182) (fun _ h9 => h9) rfl dX6_later_35 ?_
            refine lv_aload_n hx hb dX6_later_38 rfl (lv_at hl 0 rfl) ?_
            refine th_get (D := (dC, dI)) (ci := 6) (v := .ref z12) (C := RX6) (T := TX6) (N := 14) hx hb hts inX6 hown hK hP (hLK _ ha0 (by decide)) o33 rfl 6 (by decide) (hts _ T_174) (fun _ h9 => h9) rfl dX6_later_39 ?_
            refine lv_iload_n hx hb dX6_later_42 rfl (lv_at hl 1 rfl) ?_
            obtain ⟨z40, z42, z44, z46, z48, z50, z51, z53, z54, z56, z57, z59, z61, z63, o66, h41, h43, h45, h47, h49, h52, h55, h58, h60, h62, h64, h65, -⟩ := s_op1 hI h23
            refine va_callr (va_runV (As := [.ref z12, .int x1]) (rest := []) ⟨hx, hb, hml, hown, hts⟩ (s_X0_behind l dC dI H.size hLK D (D + 401) (Nat.le_refl _) (by omega) F30 z22 z12 x1 h23 h13 (⟨by omega, by omega⟩) hI (s_PGt hI0 hfr (by decide) hPG)) (cwV 2 hts (ax_gV T_960 T_962 T_963 T_180 T_961) rfl rfl rfl (by decide +kernel) ⟨Nat.le_of_ble_eq_true rfl, Nat.le_of_ble_eq_true rfl⟩) ⟨fun a U g mk q => ⟨q.1, s_pc (U := U) rfl rfl q.2⟩, s_recv hK hP (hLK _ h23 (by decide)) (ci := 0) rfl o66, fun U hU hW => ⟨rfl, s_pw hU hW hP hK hD hN⟩⟩ rfl rfl hl.1 rfl (lv_room (Nat.le_of_ble_eq_true rfl)) dX6_later_43 ⟨Nat.zero_le _, Nat.zero_le _⟩) hS (fun q _ h => h) (fun q h => h) (fun F68 r67 t H1 locs ht hvm hw hB hz1 hk1 hS => ?_)
            obtain ⟨hk_r67, hP, hK1⟩ := hB
            rw [ht] at hP
            generalize H1 = H at hP hS ⊢
            clear hz1 hk1
            obtain ⟨h69, h70, hI, hfr1⟩ := hw
            have o71 : F68 a0 = .inr (6, [.ref z1, .int z3, .ref z5, .ref z7, .ref z9, .int z11, .ref z12, .ref z14, .int z16, .int z18, .ref z20, .ref z22, .ref z24, .long z26]) := (hfr1 _ (by rw [ha0]; decide)).trans o33
            have o72 : F68 z22 = .inr (0, [.ref z40, .ref z42, .ref z44, .ref z46, .ref z48, .int z50, .ref z51, .long z53, .ref z54, .int z56, .ref z57, .int z59, .int z61, .int z63]) := (hfr1 _ (by rw [h23]; decide)).trans o66
            have hfr : ∀ b, K b ∉ [2, 5, 6, 24, 27, 28, 29, 30, 31, 32, 34, 35] → F68 b = F b := fun b hb9 => (hfr1 b (fun q => hb9 (s_sub (by decide) q))).trans (hfr b hb9)
            refine lv_astore (lv' := [(5, .ref r67), (0, .ref a0), (1, .int x1), (2, .int x2), (3, .int x3), (4, .int x4)]) hx hb dX6_later_46 hl (by decide) rfl (fun ls hl => ?_)
            refine lv_aload hx hb dX6_later_48 (lv_at hl 0 rfl) ?_
            obtain ⟨z73, z75, z77, z79, z81, z83, z85, z87, z89, z91, z93, z95, z96, z98, z99, o101, h74, h76, h78, h80, h82, h84, h86, h88, h90, h92, h94, h97, h100, -⟩ := s_op5 hI hk_r67
            refine th_getN (D := (dC, dI)) (ci := 4) (v := .ref z73) (C := RX4) (T := TX4) (N := 15) hx hb hts inX4 hown hK hP (hLK _ hk_r67 (by decide)) o101 rfl 0 (by decide) (va_Nw.use rfl (ax_n56 hN)) (fun _ h9 => h9) rfl dX6_later_50 ?_
            refine lv_iload_n hx hb dX6_later_53 rfl (lv_at hl 3 rfl) ?_
            obtain ⟨f102, o103, h104⟩ := s_op26 hI h74
            obtain ⟨z105, o107, h106⟩ := h104 (x2 : Int32).toNatClampNeg (th_cl ⟨by omega, by omega⟩)
            refine th_aald hx hb hK hP (hLK _ h74 (by decide)) 3 o103 rfl (th_in ⟨by omega, by omega⟩) o107 dX6_later_54 ?_
            obtain ⟨z108, z110, z112, z114, z116, z118, z120, z121, z122, z123, z124, o126, h109, h111, h113, h115, h117, h119, h125, -⟩ := s_op6 hI h106
            refine th_getN (D := (dC, dI)) (ci := 5) (v := .ref z108) (C := RX5) (T := TX5) (N := 11) hx hb hts inX5 hown hK hP (hLK _ h106 (by decide)) o126 rfl 0 (by decide) (va_Nw.use rfl (ax_n63 hN)) (fun _ h9 => h9) rfl dX6_later_55 ?_
            refine lv_iload_n hx hb dX6_later_58 rfl (lv_at hl 4 rfl) ?_
            refine lv_iconst (v := 4) hx hb dX6_later_59 (by decide) ?_
            refine lv_imul hx hb dX6_later_60 ?_
            refine lv_topi (fun v127 ev127 => ?_)
            have qv127 : v127.toInt = x3.toInt * 4 := by rw [ev127]; exact th_mul rfl (by decide) ⟨by omega, by omega⟩
            refine lv_iload hx hb dX6_later_61 (lv_at hl 5 rfl) ?_
            refine lv_iadd hx hb dX6_later_63 ?_
            refine lv_topi (fun v128 ev128 => ?_)
            have qv128 : v128.toInt = v127.toInt + x4.toInt := by rw [ev128]; exact th_add rfl rfl ⟨by omega, by omega⟩
            obtain ⟨f129, o130, h131⟩ := s_op30 hI h109
            refine th_iald hx hb hK hP (hLK _ h109 (by decide)) 0 o130 rfl (th_in ⟨by omega, by omega⟩) dX6_later_64 ?_
            refine lv_topi (fun v132 ev132 => ?_)
            exact W.iret (v := v132) hx hb hr (fun t ht hW => ⟨⟨v132, F68, rfl, ⟨trivial, trivial, (s_mono (by omega) hI), hfr⟩, by rw [ht]; exact hP, va_K.moved hW.alike hK⟩, hS.F ht⟩) hS.2.2 dX6_later_65
          · have c39 := mt (ax_le (n := 400) (by decide)).mpr c39
            refine lv_ldc (v := (-1000000)) hx hb hown (hts _ T_228) dX6_later_31 ?_
            exact W.iret (v := (-1000000)) hx hb hr (fun t ht hW => ⟨⟨(-1000000), F30, rfl, ⟨trivial, trivial, (s_mono (by omega) hI), hfr⟩, by rw [ht]; exact hP, va_K.moved hW.alike hK⟩, hS.F ht⟩) hS.2.2 dX6_later_33

set_option maxHeartbeats 4000000 in
set_option maxRecDepth 100000 in
theorem s_X6_by (l : Launch) (dC : Nat → ClassId) (dI : Nat → Nat → Nat) (sz : Nat) {L : List Nat} {K : Nat → Nat} {cs : Nat → ClassId} (hLK : ∀ a {k : Nat}, K a = k → k ≠ 0 → a ∈ L) (D : Nat) (Dm : Nat) (hDm : D + 2007 ≤ Dm) (hDM : Dm < 2147483647) (F : Nat → va_E) (a0 : Nat) (x1 : Int32) (x2 : Int32) (x3 : Int32) (ha0 : K a0 = 7) (hI : s_I K cs D F) (hPG : s_PG K cs F) : Met l yX6_by (Cond.code yX6_by cX6_by 4 (some .int) :: T0) ({ frames := 7, cells := 0, slots := 0, locals := 163 }) (va_Pc [.ref a0, .int x1, .int x2, .int x3] (s_W dC dI sz L F [(cs 0, .int), (cs 1, .byte), (cs 2, .long), (cs 3, .object RX5), (cs 4, .object RX4), (cs 5, .array .int), (cs 6, .char), (cs 7, .boolean)])) (va_Qi (fun (r : Int32) (G : Nat → va_E) => True ∧ True ∧ s_I K cs Dm G ∧ ∀ b, K b ∉ [1, 2, 5, 6, 24, 27, 28, 29, 30, 31, 32, 34, 35, 36] → G b = F b) (fun (G : Nat → va_E) (t : State) => va_P (dC, dI) vwCl (va_pl L G) t.heap ∧ va_K (dC, dI) vwCl [(cs 0, .int), (cs 1, .byte), (cs 2, .long), (cs 3, .object RX5), (cs 4, .object RX4), (cs 5, .array .int), (cs 6, .char), (cs 7, .boolean)] t) (fun q => q ∈ L)) 0 0 (fun q => q ∈ L) := by
  refine Met.ofW (cc := cX6_by) (maxL := 4) (ret := (some .int)) (by decide) rfl ?_
  intro p e s m args below meth c s₁ B hml hv
  obtain ⟨rfl, hsz, hP, hK, hD, hN⟩ := hv
  have hx := B.exec
  have hb := B.bytes
  have hr := B.returns
  have hts : ∀ w ∈ T0, w.before _ s = true := fun w h => atoms_spec (ws := Cond.code yX6_by cX6_by 4 (some .int) :: T0) B.pre w (List.mem_cons_of_mem _ h)
  have hown : s.vm.findClass RX6 = some m.cls := findClass_of_methodNamed B.named
  have hlocks := B.notSynchronized
  have hS : va_S (fun q => q ∈ L) s.heap s.heap [] := va_S.rf
  have hfr : ∀ b, K b ∉ [1, 2, 5, 6, 24, 27, 28, 29, 30, 31, 32, 34, 35, 36] → F b = F b := fun _ _ => rfl
  have hl := lv_entry ([.ref a0, .int x1, .int x2, .int x3]) (n := 4) (Nat.le_of_ble_eq_true rfl)
  rw [lg_entry_eq]
  generalize (lg_sl ([.ref a0, .int x1, .int x2, .int x3]) ++ List.replicate (4 - (lg_sl ([.ref a0, .int x1, .int x2, .int x3])).length) Slot.unset).toArray = ls at hl ⊢
  have hl : lv_has ls 4 [(0, .ref a0), (1, .int x1), (2, .int x2), (3, .int x3)] := hl
  have hI0 := hI
  refine s_gen hP hS (fun H locs hP hS => ?_)
  refine lv_aload_n hx hb dX6_by_0 rfl (lv_at hl 0 rfl) ?_
  obtain ⟨z1, z3, z5, z7, z9, z11, z12, z14, z16, z18, z20, z22, z24, z26, o28, h2, h4, h6, h8, h10, h13, h15, h17, h19, h21, h23, h25, h27, -⟩ := s_op7 hI ha0
  refine th_get (D := (dC, dI)) (ci := 6) (v := .int z11) (C := RX6) (T := TX6) (N := 14) hx hb hts inX6 hown hK hP (hLK _ ha0 (by decide)) o28 rfl 5 (by decide) (hts _ T_224) (fun _ h9 => h9) rfl dX6_by_1 ?_
  refine lv_if_eq (tgt := 30) hx hb dX6_by_4 (by decide) (fun c29 => ?_) (fun c29 => ?_)
  · have c29 := (ax_eq (n := 0) (by decide)).mp c29
    refine lv_iconst (v := (-1)) hx hb dX6_by_30 (by decide) ?_
    exact W.iret (v := (-1)) hx hb hr (fun t ht hW => ⟨⟨(-1), F, rfl, ⟨trivial, trivial, (s_mono (by omega) hI), hfr⟩, by rw [ht]; exact hP, va_K.moved hW.alike hK⟩, hS.F ht⟩) hS.2.2 dX6_by_31
  · have c29 := mt (ax_eq (n := 0) (by decide)).mpr c29
    refine lv_iload_n hx hb dX6_by_7 rfl (lv_at hl 1 rfl) ?_
    refine va_calli (va_runS (As := [.int x1]) (rest := []) ⟨hx, hb, hml, hown, hts⟩ (s_X6_isMode l dC dI H.size hLK D F x1 hI) (cwS 1 hts (ax_gS T_911 T_913 T_193 T_912) rfl rfl rfl (by decide +kernel) ⟨Nat.le_of_ble_eq_true rfl, Nat.le_of_ble_eq_true rfl⟩) ⟨fun a U g mk q => ⟨q.1, s_pc (U := U) rfl rfl q.2⟩, fun U hU hW => ⟨rfl, s_pw hU hW hP hK hD hN⟩⟩ rfl rfl hl.1 rfl (lv_room (Nat.le_of_ble_eq_true rfl)) dX6_by_8 ⟨Nat.zero_le _, Nat.zero_le _⟩) hS (fun q _ h => h) (fun q h => h) (fun r30 F31 t H1 locs ht hvm hw hB hz1 hk1 hS => ?_)
    obtain ⟨hP, hK1⟩ := hB
    rw [ht] at hP
    generalize H1 = H at hP hS ⊢
    clear hz1 hk1
    obtain ⟨h32, h33, hI, hfr1⟩ := hw
    have o34 : F31 a0 = .inr (6, [.ref z1, .int z3, .ref z5, .ref z7, .ref z9, .int z11, .ref z12, .ref z14, .int z16, .int z18, .ref z20, .ref z22, .ref z24, .long z26]) := (hfr1 _ (by rw [ha0]; decide)).trans o28
    have hfr : ∀ b, K b ∉ [1, 2, 5, 6, 24, 27, 28, 29, 30, 31, 32, 34, 35, 36] → F31 b = F b := fun b hb9 => (hfr1 b (fun q => hb9 (s_sub (by decide) q))).trans (hfr b hb9)
    refine lv_if_eq (tgt := 30) hx hb dX6_by_11 (by decide) (fun c35 => ?_) (fun c35 => ?_)
    · have c35 := (ax_eq (n := 0) (by decide)).mp c35
      refine lv_iconst (v := (-1)) hx hb dX6_by_30 (by decide) ?_
      exact W.iret (v := (-1)) hx hb hr (fun t ht hW => ⟨⟨(-1), F31, rfl, ⟨trivial, trivial, (s_mono (by omega) hI), hfr⟩, by rw [ht]; exact hP, va_K.moved hW.alike hK⟩, hS.F ht⟩) hS.2.2 dX6_by_31
    · have c35 := mt (ax_eq (n := 0) (by decide)).mpr c35
      have h36 := h33 (fun q => c35 (by rw [q]; decide))
      refine lv_iload_n hx hb dX6_by_14 rfl (lv_at hl 2 rfl) ?_
      refine va_calli (va_runS (As := [.int x2]) (rest := []) ⟨hx, hb, hml, hown, hts⟩ (s_X6_isOrder l dC dI H.size hLK D F31 x2 hI) (cwS 1 hts (ax_gS T_914 T_916 T_193 T_915) rfl rfl rfl (by decide +kernel) ⟨Nat.le_of_ble_eq_true rfl, Nat.le_of_ble_eq_true rfl⟩) ⟨fun a U g mk q => ⟨q.1, s_pc (U := U) rfl rfl q.2⟩, fun U hU hW => ⟨rfl, s_pw hU hW hP hK hD hN⟩⟩ rfl rfl hl.1 rfl (lv_room (Nat.le_of_ble_eq_true rfl)) dX6_by_15 ⟨Nat.zero_le _, Nat.zero_le _⟩) hS (fun q _ h => h) (fun q h => h) (fun r37 F38 t H1 locs ht hvm hw hB hz1 hk1 hS => ?_)
      obtain ⟨hP, hK1⟩ := hB
      rw [ht] at hP
      generalize H1 = H at hP hS ⊢
      clear hz1 hk1
      obtain ⟨h39, h40, hI, hfr1⟩ := hw
      have o41 : F38 a0 = .inr (6, [.ref z1, .int z3, .ref z5, .ref z7, .ref z9, .int z11, .ref z12, .ref z14, .int z16, .int z18, .ref z20, .ref z22, .ref z24, .long z26]) := (hfr1 _ (by rw [ha0]; decide)).trans o34
      have hfr : ∀ b, K b ∉ [1, 2, 5, 6, 24, 27, 28, 29, 30, 31, 32, 34, 35, 36] → F38 b = F b := fun b hb9 => (hfr1 b (fun q => hb9 (s_sub (by decide) q))).trans (hfr b hb9)
      refine lv_if_eq (tgt := 30) hx hb dX6_by_18 (by decide) (fun c42 => ?_) (fun c42 => ?_)
      · have c42 := (ax_eq (n := 0) (by decide)).mp c42
        refine lv_iconst (v := (-1)) hx hb dX6_by_30 (by decide) ?_
        exact W.iret (v := (-1)) hx hb hr (fun t ht hW => ⟨⟨(-1), F38, rfl, ⟨trivial, trivial, (s_mono (by omega) hI), hfr⟩, by rw [ht]; exact hP, va_K.moved hW.alike hK⟩, hS.F ht⟩) hS.2.2 dX6_by_31
      · have c42 := mt (ax_eq (n := 0) (by decide)).mpr c42
        have h43 := h40 (fun q => c42 (by rw [q]; decide))
        refine lv_iload_n hx hb dX6_by_21 rfl (lv_at hl 3 rfl) ?_
        refine lv_if_lt (tgt := 30) hx hb dX6_by_22 (by decide) (fun c44 => ?_) (fun c44 => ?_)
        · have c44 := (ax_lt (n := 0) (by decide)).mp c44
          refine lv_iconst (v := (-1)) hx hb dX6_by_30 (by decide) ?_
          exact W.iret (v := (-1)) hx hb hr (fun t ht hW => ⟨⟨(-1), F38, rfl, ⟨trivial, trivial, (s_mono (by omega) hI), hfr⟩, by rw [ht]; exact hP, va_K.moved hW.alike hK⟩, hS.F ht⟩) hS.2.2 dX6_by_31
        · have c44 := mt (ax_lt (n := 0) (by decide)).mpr c44
          refine lv_iload_n hx hb dX6_by_25 rfl (lv_at hl 3 rfl) ?_
          refine lv_iconst (v := 3) hx hb dX6_by_26 (by decide) ?_
          refine lv_icmp_lt (tgt := 32) hx hb dX6_by_27 (by decide) (fun c45 => ?_) (fun c45 => ?_)
          · have c45 := (ax_lt (n := 3) (by decide)).mp c45
            refine lv_aload_n hx hb dX6_by_32 rfl (lv_at hl 0 rfl) ?_
            refine th_get (D := (dC, dI)) (ci := 6) (v := .ref z22) (C := RX6) (T := TX6) (N := 14) hx hb hts inX6 hown hK hP (hLK _ ha0 (by decide)) o41 rfl 11 (by decide) (hts _ T_182) (fun _ h9 => h9) rfl dX6_by_33 ?_
            refine lv_aload_n hx hb dX6_by_36 rfl (lv_at hl 0 rfl) ?_
            refine th_get (D := (dC, dI)) (ci := 6) (v := .ref z22) (C := RX6) (T := TX6) (N := 14) hx hb hts inX6 hown hK hP (hLK _ ha0 (by decide)) o41 rfl 11 (by decide) (hts _ T_182) (fun _ h9 => h9) rfl dX6_by_37 ?_
            refine lv_iload_n hx hb dX6_by_40 rfl (lv_at hl 1 rfl) ?_
            refine lv_iload_n hx hb dX6_by_41 rfl (lv_at hl 2 rfl) ?_
            refine lv_aload_n hx hb dX6_by_42 rfl (lv_at hl 0 rfl) ?_
            refine th_get (D := (dC, dI)) (ci := 6) (v := .ref z12) (C := RX6) (T := TX6) (N := 14) hx hb hts inX6 hown hK hP (hLK _ ha0 (by decide)) o41 rfl 6 (by decide) (hts _ T_174) (fun _ h9 => h9) rfl dX6_by_43 ?_
            obtain ⟨z46, z48, z50, z52, z54, z56, z58, z60, z62, z64, z66, z68, z69, z71, z72, o74, h47, h49, h51, h53, h55, h57, h59, h61, h63, h65, h67, h70, h73, -⟩ := s_op5 hI h13
            refine th_getN (D := (dC, dI)) (ci := 4) (v := .int z66) (C := RX4) (T := TX4) (N := 15) hx hb hts inX4 hown hK hP (hLK _ h13 (by decide)) o74 rfl 10 (by decide) (va_Nw.use rfl (ax_n54 hN)) (fun _ h9 => h9) rfl dX6_by_46 ?_
            obtain ⟨z75, z77, z79, z81, z83, z85, z86, z88, z89, z91, z92, z94, z96, z98, o101, h76, h78, h80, h82, h84, h87, h90, h93, h95, h97, h99, h100, -⟩ := s_op1 hI h23
            refine va_callr (va_runV (As := [.int x1, .int x2, .int z66]) (rest := [.ref z22]) ⟨hx, hb, hml, hown, hts⟩ (s_X0_begun l dC dI H.size hLK D F38 z22 x1 x2 z66 h23 (⟨by omega, by omega⟩) (⟨by omega, by omega⟩) (⟨by omega, by omega⟩) hI) (cwV 3 hts (ax_gV T_917 T_596 T_597 T_180 T_595) rfl rfl rfl (by decide +kernel) ⟨Nat.le_of_ble_eq_true rfl, Nat.le_of_ble_eq_true rfl⟩) ⟨fun a U g mk q => ⟨q.1, s_pc (U := U) rfl rfl q.2⟩, s_recv hK hP (hLK _ h23 (by decide)) (ci := 0) rfl o101, fun U hU hW => ⟨rfl, s_pw hU hW hP hK hD hN⟩⟩ rfl rfl hl.1 rfl (lv_room (Nat.le_of_ble_eq_true rfl)) dX6_by_49 ⟨Nat.zero_le _, Nat.zero_le _⟩) hS (fun q _ h => h) (fun q h => h) (fun F103 r102 t H1 locs ht hvm hw hB hz1 hk1 hS => ?_)
            obtain ⟨hk_r102, hP, hK1⟩ := hB
            rw [ht] at hP
            generalize H1 = H at hP hS ⊢
            clear hz1 hk1
            obtain ⟨h104, h105, hI, hfr1⟩ := hw
            have o106 : F103 a0 = .inr (6, [.ref z1, .int z3, .ref z5, .ref z7, .ref z9, .int z11, .ref z12, .ref z14, .int z16, .int z18, .ref z20, .ref z22, .ref z24, .long z26]) := (hfr1 _ (by rw [ha0]; decide)).trans o41
            have o107 : F103 z22 = .inr (0, [.ref z75, .ref z77, .ref z79, .ref z81, .ref z83, .int z85, .ref z86, .long z88, .ref z89, .int z91, .ref z92, .int z94, .int z96, .int z98]) := (hfr1 _ (by rw [h23]; decide)).trans o101
            have hfr : ∀ b, K b ∉ [1, 2, 5, 6, 24, 27, 28, 29, 30, 31, 32, 34, 35, 36] → F103 b = F b := fun b hb9 => (hfr1 b (fun q => hb9 (s_sub (by decide) q))).trans (hfr b hb9)
            refine lv_iload_n hx hb dX6_by_52 rfl (lv_at hl 1 rfl) ?_
            refine lv_iload_n hx hb dX6_by_53 rfl (lv_at hl 2 rfl) ?_
            refine lv_aload_n hx hb dX6_by_54 rfl (lv_at hl 0 rfl) ?_
            refine th_get (D := (dC, dI)) (ci := 6) (v := .ref z12) (C := RX6) (T := TX6) (N := 14) hx hb hts inX6 hown hK hP (hLK _ ha0 (by decide)) o106 rfl 6 (by decide) (hts _ T_174) (fun _ h9 => h9) rfl dX6_by_55 ?_
            obtain ⟨z108, z110, z112, z114, z116, z118, z120, z122, z124, z126, z128, z130, z131, z133, z134, o136, h109, h111, h113, h115, h117, h119, h121, h123, h125, h127, h129, h132, h135, -⟩ := s_op5 hI h13
            refine th_getN (D := (dC, dI)) (ci := 4) (v := .int z128) (C := RX4) (T := TX4) (N := 15) hx hb hts inX4 hown hK hP (hLK _ h13 (by decide)) o136 rfl 10 (by decide) (va_Nw.use rfl (ax_n54 hN)) (fun _ h9 => h9) rfl dX6_by_58 ?_
            refine va_calli (va_runS (As := [.int x1, .int x2, .int z128]) (rest := [.ref r102, .ref z22]) ⟨hx, hb, hml, hown, hts⟩ (s_X6_layout l dC dI H.size hLK D F103 x1 x2 z128 (⟨by omega, by omega⟩) (⟨by omega, by omega⟩) (⟨by omega, by omega⟩) hI) (cwS 3 hts (ax_gS T_918 T_920 T_193 T_919) rfl rfl rfl (by decide +kernel) ⟨Nat.le_of_ble_eq_true rfl, Nat.le_of_ble_eq_true rfl⟩) ⟨fun a U g mk q => ⟨q.1, s_pc (U := U) rfl rfl q.2⟩, fun U hU hW => ⟨rfl, s_pw hU hW hP hK hD hN⟩⟩ rfl rfl hl.1 rfl (lv_room (Nat.le_of_ble_eq_true rfl)) dX6_by_61 ⟨Nat.zero_le _, Nat.zero_le _⟩) hS (fun q _ h => h) (fun q h => h) (fun r137 F138 t H1 locs ht hvm hw hB hz1 hk1 hS => ?_)
            obtain ⟨hP, hK1⟩ := hB
            rw [ht] at hP
            generalize H1 = H at hP hS ⊢
            clear hz1 hk1
            obtain ⟨h139, h140, hI, hfr1⟩ := hw
            have o141 : F138 a0 = .inr (6, [.ref z1, .int z3, .ref z5, .ref z7, .ref z9, .int z11, .ref z12, .ref z14, .int z16, .int z18, .ref z20, .ref z22, .ref z24, .long z26]) := (hfr1 _ (by rw [ha0]; decide)).trans o106
            have o142 : F138 z22 = .inr (0, [.ref z75, .ref z77, .ref z79, .ref z81, .ref z83, .int z85, .ref z86, .long z88, .ref z89, .int z91, .ref z92, .int z94, .int z96, .int z98]) := (hfr1 _ (by rw [h23]; decide)).trans o107
            have o143 : F138 z12 = .inr (4, [.ref z108, .ref z110, .ref z112, .ref z114, .ref z116, .ref z118, .ref z120, .int z122, .int z124, .int z126, .int z128, .int z130, .int z131, .int z133, .int z134]) := (hfr1 _ (by rw [h13]; decide)).trans o136
            have hfr : ∀ b, K b ∉ [1, 2, 5, 6, 24, 27, 28, 29, 30, 31, 32, 34, 35, 36] → F138 b = F b := fun b hb9 => (hfr1 b (fun q => hb9 (s_sub (by decide) q))).trans (hfr b hb9)
            refine lv_iload_n hx hb dX6_by_64 rfl (lv_at hl 3 rfl) ?_
            refine va_calli (va_runV (As := [.ref r102, .int r137, .int x3]) (rest := []) ⟨hx, hb, hml, hown, hts⟩ (s_X0_course l dC dI H.size hLK D (D + 2007) (Nat.le_refl _) (by omega) F138 z22 r102 r137 x3 h23 hk_r102 (⟨by omega, by omega⟩) (⟨by omega, by omega⟩) hI (s_PGt hI0 hfr (by decide) hPG)) (cwV 3 hts (ax_gV T_921 T_923 T_924 T_180 T_922) rfl rfl rfl (by decide +kernel) ⟨Nat.le_of_ble_eq_true rfl, Nat.le_of_ble_eq_true rfl⟩) ⟨fun a U g mk q => ⟨q.1, s_pc (U := U) rfl rfl q.2⟩, s_recv hK hP (hLK _ h23 (by decide)) (ci := 0) rfl o142, fun U hU hW => ⟨rfl, s_pw hU hW hP hK hD hN⟩⟩ rfl rfl hl.1 rfl (lv_room (Nat.le_of_ble_eq_true rfl)) dX6_by_65 ⟨Nat.zero_le _, Nat.zero_le _⟩) hS (fun q _ h => h) (fun q h => h) (fun r144 F145 t H1 locs ht hvm hw hB hz1 hk1 hS => ?_)
            obtain ⟨hP, hK1⟩ := hB
            rw [ht] at hP
            generalize H1 = H at hP hS ⊢
            clear hz1 hk1
            obtain ⟨h146, h147, hI, hfr1⟩ := hw
            have o148 : F145 a0 = .inr (6, [.ref z1, .int z3, .ref z5, .ref z7, .ref z9, .int z11, .ref z12, .ref z14, .int z16, .int z18, .ref z20, .ref z22, .ref z24, .long z26]) := (hfr1 _ (by rw [ha0]; decide)).trans o141
            have hfr : ∀ b, K b ∉ [1, 2, 5, 6, 24, 27, 28, 29, 30, 31, 32, 34, 35, 36] → F145 b = F b := fun b hb9 => (hfr1 b (fun q => hb9 (s_sub (by decide) q))).trans (hfr b hb9)
            exact W.iret (v := r144) hx hb hr (fun t ht hW => ⟨⟨r144, F145, rfl, ⟨trivial, trivial, (s_mono (by omega) hI), hfr⟩, by rw [ht]; exact hP, va_K.moved hW.alike hK⟩, hS.F ht⟩) hS.2.2 dX6_by_68
          · have c45 := mt (ax_lt (n := 3) (by decide)).mpr c45
            refine lv_iconst (v := (-1)) hx hb dX6_by_30 (by decide) ?_
            exact W.iret (v := (-1)) hx hb hr (fun t ht hW => ⟨⟨(-1), F38, rfl, ⟨trivial, trivial, (s_mono (by omega) hI), hfr⟩, by rw [ht]; exact hP, va_K.moved hW.alike hK⟩, hS.F ht⟩) hS.2.2 dX6_by_31

set_option maxHeartbeats 4000000 in
set_option maxRecDepth 100000 in
theorem s_X6_skew (l : Launch) (dC : Nat → ClassId) (dI : Nat → Nat → Nat) (sz : Nat) {L : List Nat} {K : Nat → Nat} {cs : Nat → ClassId} (hLK : ∀ a {k : Nat}, K a = k → k ≠ 0 → a ∈ L) (D : Nat) (Dm : Nat) (hDm : D + 20070 ≤ Dm) (hDM : Dm < 2147483647) (F : Nat → va_E) (a0 : Nat) (x1 : Int32) (ha0 : K a0 = 7) (hI : s_I K cs D F) (hPG : s_PG K cs F) : Met l yX6_skew (Cond.code yX6_skew cX6_skew 9 (some .int) :: T0) ({ frames := 7, cells := 0, slots := 0, locals := 163 }) (va_Pc [.ref a0, .int x1] (s_W dC dI sz L F [(cs 0, .int), (cs 1, .byte), (cs 2, .long), (cs 3, .object RX5), (cs 4, .object RX4), (cs 5, .array .int), (cs 6, .char), (cs 7, .boolean)])) (va_Qi (fun (r : Int32) (G : Nat → va_E) => True ∧ True ∧ s_I K cs Dm G ∧ ∀ b, K b ∉ [1, 2, 5, 6, 24, 27, 28, 29, 30, 31, 32, 34, 35, 36] → G b = F b) (fun (G : Nat → va_E) (t : State) => va_P (dC, dI) vwCl (va_pl L G) t.heap ∧ va_K (dC, dI) vwCl [(cs 0, .int), (cs 1, .byte), (cs 2, .long), (cs 3, .object RX5), (cs 4, .object RX4), (cs 5, .array .int), (cs 6, .char), (cs 7, .boolean)] t) (fun q => q ∈ L)) 0 0 (fun q => q ∈ L) := by
  refine Met.ofW (cc := cX6_skew) (maxL := 9) (ret := (some .int)) (by decide) rfl ?_
  intro p e s m args below meth c s₁ B hml hv
  obtain ⟨rfl, hsz, hP, hK, hD, hN⟩ := hv
  have hx := B.exec
  have hb := B.bytes
  have hr := B.returns
  have hts : ∀ w ∈ T0, w.before _ s = true := fun w h => atoms_spec (ws := Cond.code yX6_skew cX6_skew 9 (some .int) :: T0) B.pre w (List.mem_cons_of_mem _ h)
  have hown : s.vm.findClass RX6 = some m.cls := findClass_of_methodNamed B.named
  have hlocks := B.notSynchronized
  have hS : va_S (fun q => q ∈ L) s.heap s.heap [] := va_S.rf
  have hfr : ∀ b, K b ∉ [1, 2, 5, 6, 24, 27, 28, 29, 30, 31, 32, 34, 35, 36] → F b = F b := fun _ _ => rfl
  have hl := lv_entry ([.ref a0, .int x1]) (n := 9) (Nat.le_of_ble_eq_true rfl)
  rw [lg_entry_eq]
  generalize (lg_sl ([.ref a0, .int x1]) ++ List.replicate (9 - (lg_sl ([.ref a0, .int x1])).length) Slot.unset).toArray = ls at hl ⊢
  have hl : lv_has ls 9 [(0, .ref a0), (1, .int x1)] := hl
  have hI0 := hI
  refine s_gen hP hS (fun H locs hP hS => ?_)
  refine lv_aload_n hx hb dX6_skew_0 rfl (lv_at hl 0 rfl) ?_
  obtain ⟨z1, z3, z5, z7, z9, z11, z12, z14, z16, z18, z20, z22, z24, z26, o28, h2, h4, h6, h8, h10, h13, h15, h17, h19, h21, h23, h25, h27, -⟩ := s_op7 hI ha0
  refine th_get (D := (dC, dI)) (ci := 6) (v := .int z11) (C := RX6) (T := TX6) (N := 14) hx hb hts inX6 hown hK hP (hLK _ ha0 (by decide)) o28 rfl 5 (by decide) (hts _ T_224) (fun _ h9 => h9) rfl dX6_skew_1 ?_
  refine lv_if_eq (tgt := 16) hx hb dX6_skew_4 (by decide) (fun c29 => ?_) (fun c29 => ?_)
  · have c29 := (ax_eq (n := 0) (by decide)).mp c29
    refine lv_iconst (v := (-1)) hx hb dX6_skew_16 (by decide) ?_
    exact W.iret (v := (-1)) hx hb hr (fun t ht hW => ⟨⟨(-1), F, rfl, ⟨trivial, trivial, (s_mono (by omega) hI), hfr⟩, by rw [ht]; exact hP, va_K.moved hW.alike hK⟩, hS.F ht⟩) hS.2.2 dX6_skew_17
  · have c29 := mt (ax_eq (n := 0) (by decide)).mpr c29
    refine lv_iload_n hx hb dX6_skew_7 rfl (lv_at hl 1 rfl) ?_
    refine lv_if_lt (tgt := 16) hx hb dX6_skew_8 (by decide) (fun c30 => ?_) (fun c30 => ?_)
    · have c30 := (ax_lt (n := 0) (by decide)).mp c30
      refine lv_iconst (v := (-1)) hx hb dX6_skew_16 (by decide) ?_
      exact W.iret (v := (-1)) hx hb hr (fun t ht hW => ⟨⟨(-1), F, rfl, ⟨trivial, trivial, (s_mono (by omega) hI), hfr⟩, by rw [ht]; exact hP, va_K.moved hW.alike hK⟩, hS.F ht⟩) hS.2.2 dX6_skew_17
    · have c30 := mt (ax_lt (n := 0) (by decide)).mpr c30
      refine lv_iload_n hx hb dX6_skew_11 rfl (lv_at hl 1 rfl) ?_
      refine lv_iconst (v := 1) hx hb dX6_skew_12 (by decide) ?_
      refine lv_icmp_le (tgt := 18) hx hb dX6_skew_13 (by decide) (fun c31 => ?_) (fun c31 => ?_)
      · have c31 := (ax_le (n := 1) (by decide)).mp c31
        refine lv_iconst (v := (-1)) hx hb dX6_skew_18 (by decide) ?_
        refine lv_istore_n (lv' := [(2, .int (-1)), (0, .ref a0), (1, .int x1)]) hx hb dX6_skew_19 rfl hl (by decide) rfl (fun ls hl => ?_)
        refine lv_iconst (v := (-1)) hx hb dX6_skew_20 (by decide) ?_
        refine lv_istore_n (lv' := [(3, .int (-1)), (2, .int (-1)), (0, .ref a0), (1, .int x1)]) hx hb dX6_skew_21 rfl hl (by decide) rfl (fun ls hl => ?_)
        refine lv_iconst (v := 0) hx hb dX6_skew_22 (by decide) ?_
        refine lv_istore (lv' := [(4, .int 0), (3, .int (-1)), (2, .int (-1)), (0, .ref a0), (1, .int x1)]) hx hb dX6_skew_23 hl (by decide) rfl (fun ls hl => ?_)
        refine th_loop (fun n g H locs => ∃ (G : Nat → va_E) (ls : Array Slot) (Dn : Nat) (w32 : Int32) (w33 : Int32) (w34 : Int32), g = F0 m 25 ls [] ∧ lv_has ls 9 [(0, .ref a0), (1, .int x1), (2, .int w32), (3, .int w33), (4, .int w34)] ∧ Dn + 4014 * n + 0 ≤ Dm ∧ s_I K cs Dn G ∧ va_P (dC, dI) vwCl (va_pl L G) H ∧ va_S (fun q => q ∈ L) s.heap H locs ∧ (∀ b, K b ∉ [1, 2, 5, 6, 24, 27, 28, 29, 30, 31, 32, 34, 35, 36] → G b = F b) ∧ (-1 ≤ w32.toInt ∧ w32.toInt ≤ 3) ∧ True ∧ (0 ≤ w34.toInt ∧ w34.toInt ≤ 4) ∧ (0 ≤ x1.toInt ∧ x1.toInt ≤ 1) ∧ n = (5 - w34.toInt).toNat) _ ⟨F, _, D, (-1), (-1), 0, rfl, lv_sub hl [3, 4, 2, 1, 0] rfl, by have q7a : ((-1) : Int32).toInt = (-1) := (by decide); have q7b : (0 : Int32).toInt = 0 := (by decide); omega, hI, hP, hS, hfr, (by decide), trivial, (by decide), ⟨by omega, by omega⟩, rfl⟩ (fun n ih25 g H locs hq => ?_)
        obtain ⟨F9, ls, D39, w32, w33, w34, rfl, hl, h40, hI, hP, hS, hfr, h35, h36, h37, h38, hn⟩ := hq
        have hn_25 := hn
        obtain ⟨n_25, hn9_25⟩ : ∃ q, q = n := ⟨_, rfl⟩
        refine th_join (fun g H locs => ∃ (G : Nat → va_E) (ls : Array Slot) (Dn : Nat) (w41 : Int32) (w42 : Int32), g = F0 m 135 ls [] ∧ lv_has ls 9 [(0, .ref a0), (1, .int x1), (2, .int w41), (3, .int w42), (4, .int w34)] ∧ Dn + 0 + 4014 * (n_25 - 1) + 0 ≤ Dm ∧ s_I K cs Dn G ∧ va_P (dC, dI) vwCl (va_pl L G) H ∧ va_S (fun q => q ∈ L) s.heap H locs ∧ (∀ b, K b ∉ [1, 2, 5, 6, 24, 27, 28, 29, 30, 31, 32, 34, 35, 36] → G b = F b) ∧ (-1 ≤ w41.toInt ∧ w41.toInt ≤ 3) ∧ True ∧ (0 ≤ x1.toInt ∧ x1.toInt ≤ 1) ∧ (0 ≤ w34.toInt ∧ w34.toInt ≤ 3)) (fun K135 => ?_) ?_
        refine th_join (fun g H locs => ∃ (G : Nat → va_E) (ls : Array Slot) (Dn : Nat) (w43 : Int32), g = F0 m 129 ls [] ∧ lv_has ls 9 [(0, .ref a0), (1, .int x1), (4, .int w34), (8, .int w43)] ∧ Dn + 0 + 4014 * (n_25 - 1) + 0 ≤ Dm ∧ s_I K cs Dn G ∧ va_P (dC, dI) vwCl (va_pl L G) H ∧ va_S (fun q => q ∈ L) s.heap H locs ∧ (∀ b, K b ∉ [1, 2, 5, 6, 24, 27, 28, 29, 30, 31, 32, 34, 35, 36] → G b = F b) ∧ True ∧ (0 ≤ x1.toInt ∧ x1.toInt ≤ 1) ∧ (0 ≤ w34.toInt ∧ w34.toInt ≤ 3)) (fun K129 => ?_) ?_
        refine th_join (fun g H locs => ∃ (G : Nat → va_E) (ls : Array Slot) (Dn : Nat) (w44 : Int32) (w45 : Nat) (w46 : Int32), g = F0 m 97 ls [.int w46] ∧ lv_has ls 9 [(0, .ref a0), (1, .int x1), (2, .int w32), (3, .int w33), (4, .int w34), (5, .int w44), (6, .ref w45)] ∧ Dn + 2007 + 4014 * (n_25 - 1) + 0 ≤ Dm ∧ s_I K cs Dn G ∧ va_P (dC, dI) vwCl (va_pl L G) H ∧ va_S (fun q => q ∈ L) s.heap H locs ∧ (∀ b, K b ∉ [1, 2, 5, 6, 24, 27, 28, 29, 30, 31, 32, 34, 35, 36] → G b = F b) ∧ (0 ≤ w44.toInt ∧ w44.toInt ≤ 15) ∧ K w45 = 5 ∧ (0 ≤ w46.toInt ∧ w46.toInt ≤ 1) ∧ (0 ≤ x1.toInt ∧ x1.toInt ≤ 1) ∧ (-1 ≤ w32.toInt ∧ w32.toInt ≤ 3) ∧ (0 ≤ w34.toInt ∧ w34.toInt ≤ 3)) (fun K97 => ?_) ?_
        · refine lv_iload hx hb dX6_skew_25 (lv_at hl 4 rfl) ?_
          refine lv_iconst (v := 4) hx hb dX6_skew_27 (by decide) ?_
          refine lv_icmp_ge (tgt := 141) hx hb dX6_skew_28 (by decide) (fun c47 => ?_) (fun c47 => ?_)
          · have c47 := (ax_ge (n := 4) (by decide)).mp c47
            refine lv_iload_n hx hb dX6_skew_141 rfl (lv_at hl 1 rfl) ?_
            refine lv_if_ne (tgt := 149) hx hb dX6_skew_142 (by decide) (fun c48 => ?_) (fun c48 => ?_)
            · have c48 := mt (ax_eq (n := 0) (by decide)).mpr c48
              refine lv_iload_n hx hb dX6_skew_149 rfl (lv_at hl 3 rfl) ?_
              exact W.iret (v := w33) hx hb hr (fun t ht hW => ⟨⟨w33, F9, rfl, ⟨trivial, trivial, (s_mono (by omega) hI), hfr⟩, by rw [ht]; exact hP, va_K.moved hW.alike hK⟩, hS.F ht⟩) hS.2.2 dX6_skew_150
            · have c48 := (ax_eq (n := 0) (by decide)).mp c48
              refine lv_iload_n hx hb dX6_skew_145 rfl (lv_at hl 2 rfl) ?_
              refine lv_goto (tgt := 150) hx hb dX6_skew_146 (by decide) ?_
              exact W.iret (v := w32) hx hb hr (fun t ht hW => ⟨⟨w32, F9, rfl, ⟨trivial, trivial, (s_mono (by omega) hI), hfr⟩, by rw [ht]; exact hP, va_K.moved hW.alike hK⟩, hS.F ht⟩) hS.2.2 dX6_skew_150
          · have c47 := mt (ax_ge (n := 4) (by decide)).mpr c47
            refine lv_aload_n hx hb dX6_skew_31 rfl (lv_at hl 0 rfl) ?_
            obtain ⟨z49, z51, z53, z55, z57, z59, z60, z62, z64, z66, z68, z70, z72, z74, o76, h50, h52, h54, h56, h58, h61, h63, h65, h67, h69, h71, h73, h75, -⟩ := s_op7 hI ha0
            refine th_get (D := (dC, dI)) (ci := 6) (v := .ref z60) (C := RX6) (T := TX6) (N := 14) hx hb hts inX6 hown hK hP (hLK _ ha0 (by decide)) o76 rfl 6 (by decide) (hts _ T_174) (fun _ h9 => h9) rfl dX6_skew_32 ?_
            obtain ⟨z77, z79, z81, z83, z85, z87, z89, z91, z93, z95, z97, z99, z100, z102, z103, o105, h78, h80, h82, h84, h86, h88, h90, h92, h94, h96, h98, h101, h104, -⟩ := s_op5 hI h61
            refine th_getN (D := (dC, dI)) (ci := 4) (v := .int z93) (C := RX4) (T := TX4) (N := 15) hx hb hts inX4 hown hK hP (hLK _ h61 (by decide)) o105 rfl 8 (by decide) (va_Nw.use rfl (ax_n52 hN)) (fun _ h9 => h9) rfl dX6_skew_35 ?_
            refine lv_aload_n hx hb dX6_skew_38 rfl (lv_at hl 0 rfl) ?_
            refine th_get (D := (dC, dI)) (ci := 6) (v := .ref z60) (C := RX6) (T := TX6) (N := 14) hx hb hts inX6 hown hK hP (hLK _ ha0 (by decide)) o76 rfl 6 (by decide) (hts _ T_174) (fun _ h9 => h9) rfl dX6_skew_39 ?_
            refine th_getN (D := (dC, dI)) (ci := 4) (v := .int z95) (C := RX4) (T := TX4) (N := 15) hx hb hts inX4 hown hK hP (hLK _ h61 (by decide)) o105 rfl 9 (by decide) (va_Nw.use rfl (ax_n53 hN)) (fun _ h9 => h9) rfl dX6_skew_42 ?_
            refine lv_iload hx hb dX6_skew_45 (lv_at hl 4 rfl) ?_
            refine va_calli (va_runS (As := [.int z93, .int z95, .int w34]) (rest := []) ⟨hx, hb, hml, hown, hts⟩ (s_X6_layout l dC dI H.size hLK D39 F9 z93 z95 w34 (⟨by omega, by omega⟩) (⟨by omega, by omega⟩) (⟨by omega, by omega⟩) hI) (cwS 3 hts (ax_gS T_918 T_920 T_193 T_919) rfl rfl rfl (by decide +kernel) ⟨Nat.le_of_ble_eq_true rfl, Nat.le_of_ble_eq_true rfl⟩) ⟨fun a U g mk q => ⟨q.1, s_pc (U := U) rfl rfl q.2⟩, fun U hU hW => ⟨rfl, s_pw hU hW hP hK hD hN⟩⟩ rfl rfl hl.1 rfl (lv_room (Nat.le_of_ble_eq_true rfl)) dX6_skew_47 ⟨Nat.zero_le _, Nat.zero_le _⟩) hS (fun q _ h => h) (fun q h => h) (fun r106 F107 t H1 locs ht hvm hw hB hz1 hk1 hS => ?_)
            obtain ⟨hP, hK1⟩ := hB
            rw [ht] at hP
            generalize H1 = H at hP hS ⊢
            clear hz1 hk1
            obtain ⟨h108, h109, hI, hfr1⟩ := hw
            have o110 : F107 a0 = .inr (6, [.ref z49, .int z51, .ref z53, .ref z55, .ref z57, .int z59, .ref z60, .ref z62, .int z64, .int z66, .ref z68, .ref z70, .ref z72, .long z74]) := (hfr1 _ (by rw [ha0]; decide)).trans o76
            have o111 : F107 z60 = .inr (4, [.ref z77, .ref z79, .ref z81, .ref z83, .ref z85, .ref z87, .ref z89, .int z91, .int z93, .int z95, .int z97, .int z99, .int z100, .int z102, .int z103]) := (hfr1 _ (by rw [h61]; decide)).trans o105
            have hfr : ∀ b, K b ∉ [1, 2, 5, 6, 24, 27, 28, 29, 30, 31, 32, 34, 35, 36] → F107 b = F b := fun b hb9 => (hfr1 b (fun q => hb9 (s_sub (by decide) q))).trans (hfr b hb9)
            refine lv_istore (lv' := [(5, .int r106), (0, .ref a0), (1, .int x1), (2, .int w32), (3, .int w33), (4, .int w34)]) hx hb dX6_skew_50 hl (by decide) rfl (fun ls hl => ?_)
            refine lv_aload_n hx hb dX6_skew_52 rfl (lv_at hl 1 rfl) ?_
            refine th_get (D := (dC, dI)) (ci := 6) (v := .ref z70) (C := RX6) (T := TX6) (N := 14) hx hb hts inX6 hown hK hP (hLK _ ha0 (by decide)) o110 rfl 11 (by decide) (hts _ T_182) (fun _ h9 => h9) rfl dX6_skew_53 ?_
            refine lv_aload_n hx hb dX6_skew_56 rfl (lv_at hl 1 rfl) ?_
            refine th_get (D := (dC, dI)) (ci := 6) (v := .ref z60) (C := RX6) (T := TX6) (N := 14) hx hb hts inX6 hown hK hP (hLK _ ha0 (by decide)) o110 rfl 6 (by decide) (hts _ T_174) (fun _ h9 => h9) rfl dX6_skew_57 ?_
            refine th_getN (D := (dC, dI)) (ci := 4) (v := .int z93) (C := RX4) (T := TX4) (N := 15) hx hb hts inX4 hown hK hP (hLK _ h61 (by decide)) o111 rfl 8 (by decide) (va_Nw.use rfl (ax_n52 hN)) (fun _ h9 => h9) rfl dX6_skew_60 ?_
            refine lv_aload_n hx hb dX6_skew_63 rfl (lv_at hl 1 rfl) ?_
            refine th_get (D := (dC, dI)) (ci := 6) (v := .ref z60) (C := RX6) (T := TX6) (N := 14) hx hb hts inX6 hown hK hP (hLK _ ha0 (by decide)) o110 rfl 6 (by decide) (hts _ T_174) (fun _ h9 => h9) rfl dX6_skew_64 ?_
            refine th_getN (D := (dC, dI)) (ci := 4) (v := .int z95) (C := RX4) (T := TX4) (N := 15) hx hb hts inX4 hown hK hP (hLK _ h61 (by decide)) o111 rfl 9 (by decide) (va_Nw.use rfl (ax_n53 hN)) (fun _ h9 => h9) rfl dX6_skew_67 ?_
            refine lv_iload hx hb dX6_skew_70 (lv_at hl 5 rfl) ?_
            obtain ⟨z112, z114, z116, z118, z120, z122, z123, z125, z126, z128, z129, z131, z133, z135, o138, h113, h115, h117, h119, h121, h124, h127, h130, h132, h134, h136, h137, -⟩ := s_op1 hI h71
            refine va_callr (va_runV (As := [.int z93, .int z95, .int w34]) (rest := []) ⟨hx, hb, hml, hown, hts⟩ (s_X0_begun l dC dI H.size hLK D39 F107 z70 z93 z95 w34 h71 (⟨by omega, by omega⟩) (⟨by omega, by omega⟩) (⟨by omega, by omega⟩) hI) (cwV 3 hts (ax_gV T_917 T_596 T_597 T_180 T_595) rfl rfl rfl (by decide +kernel) ⟨Nat.le_of_ble_eq_true rfl, Nat.le_of_ble_eq_true rfl⟩) ⟨fun a U g mk q => ⟨q.1, s_pc (U := U) rfl rfl q.2⟩, s_recv hK hP (hLK _ h71 (by decide)) (ci := 0) rfl o138, fun U hU hW => ⟨rfl, s_pw hU hW hP hK hD hN⟩⟩ rfl rfl hl.1 rfl (lv_room (Nat.le_of_ble_eq_true rfl)) dX6_skew_72 ⟨Nat.zero_le _, Nat.zero_le _⟩) hS (fun q _ h => h) (fun q h => h) (fun F140 r139 t H1 locs ht hvm hw hB hz1 hk1 hS => ?_)
            obtain ⟨hk_r139, hP, hK1⟩ := hB
            rw [ht] at hP
            generalize H1 = H at hP hS ⊢
            clear hz1 hk1
            obtain ⟨h141, h142, hI, hfr1⟩ := hw
            have o143 : F140 a0 = .inr (6, [.ref z49, .int z51, .ref z53, .ref z55, .ref z57, .int z59, .ref z60, .ref z62, .int z64, .int z66, .ref z68, .ref z70, .ref z72, .long z74]) := (hfr1 _ (by rw [ha0]; decide)).trans o110
            have o144 : F140 z70 = .inr (0, [.ref z112, .ref z114, .ref z116, .ref z118, .ref z120, .int z122, .ref z123, .long z125, .ref z126, .int z128, .ref z129, .int z131, .int z133, .int z135]) := (hfr1 _ (by rw [h71]; decide)).trans o138
            have hfr : ∀ b, K b ∉ [1, 2, 5, 6, 24, 27, 28, 29, 30, 31, 32, 34, 35, 36] → F140 b = F b := fun b hb9 => (hfr1 b (fun q => hb9 (s_sub (by decide) q))).trans (hfr b hb9)
            refine lv_astore (lv' := [(6, .ref r139), (5, .int r106), (0, .ref a0), (1, .int x1), (2, .int w32), (3, .int w33), (4, .int w34)]) hx hb dX6_skew_75 hl (by decide) rfl (fun ls hl => ?_)
            refine lv_aload_n hx hb dX6_skew_77 rfl (lv_at hl 2 rfl) ?_
            refine th_get (D := (dC, dI)) (ci := 6) (v := .ref z70) (C := RX6) (T := TX6) (N := 14) hx hb hts inX6 hown hK hP (hLK _ ha0 (by decide)) o143 rfl 11 (by decide) (hts _ T_182) (fun _ h9 => h9) rfl dX6_skew_78 ?_
            refine lv_aload hx hb dX6_skew_81 (lv_at hl 0 rfl) ?_
            refine lv_iload hx hb dX6_skew_83 (lv_at hl 1 rfl) ?_
            refine lv_iconst (v := 0) hx hb dX6_skew_85 (by decide) ?_
            refine va_calli (va_runV (As := [.ref r139, .int r106, .int 0]) (rest := []) ⟨hx, hb, hml, hown, hts⟩ (s_X0_course l dC dI H.size hLK D39 (D39 + 2007) (Nat.le_refl _) (by omega) F140 z70 r139 r106 0 h71 hk_r139 (⟨by omega, by omega⟩) (by decide) hI (s_PGt hI0 hfr (by decide) hPG)) (cwV 3 hts (ax_gV T_921 T_923 T_924 T_180 T_922) rfl rfl rfl (by decide +kernel) ⟨Nat.le_of_ble_eq_true rfl, Nat.le_of_ble_eq_true rfl⟩) ⟨fun a U g mk q => ⟨q.1, s_pc (U := U) rfl rfl q.2⟩, s_recv hK hP (hLK _ h71 (by decide)) (ci := 0) rfl o144, fun U hU hW => ⟨rfl, s_pw hU hW hP hK hD hN⟩⟩ rfl rfl hl.1 rfl (lv_room (Nat.le_of_ble_eq_true rfl)) dX6_skew_86 ⟨Nat.zero_le _, Nat.zero_le _⟩) hS (fun q _ h => h) (fun q h => h) (fun r145 F146 t H1 locs ht hvm hw hB hz1 hk1 hS => ?_)
            obtain ⟨hP, hK1⟩ := hB
            rw [ht] at hP
            generalize H1 = H at hP hS ⊢
            clear hz1 hk1
            obtain ⟨h147, h148, hI, hfr1⟩ := hw
            have o149 : F146 a0 = .inr (6, [.ref z49, .int z51, .ref z53, .ref z55, .ref z57, .int z59, .ref z60, .ref z62, .int z64, .int z66, .ref z68, .ref z70, .ref z72, .long z74]) := (hfr1 _ (by rw [ha0]; decide)).trans o143
            have hfr : ∀ b, K b ∉ [1, 2, 5, 6, 24, 27, 28, 29, 30, 31, 32, 34, 35, 36] → F146 b = F b := fun b hb9 => (hfr1 b (fun q => hb9 (s_sub (by decide) q))).trans (hfr b hb9)
            refine lv_if_ne (tgt := 96) hx hb dX6_skew_89 (by decide) (fun c150 => ?_) (fun c150 => ?_)
            · have c150 := mt (ax_eq (n := 0) (by decide)).mpr c150
              refine lv_iconst (v := 0) hx hb dX6_skew_96 (by decide) ?_
              exact K97 _ _ _ ⟨F146, _, (D39 + 2007), r106, r139, 0, rfl, lv_sub hl [2, 3, 4, 5, 6, 1, 0] rfl, by omega, hI, hP, hS, hfr, ⟨by omega, by omega⟩, hk_r139, (by decide), ⟨by omega, by omega⟩, ⟨by omega, by omega⟩, ⟨by omega, by omega⟩⟩
            · have c150 := (ax_eq (n := 0) (by decide)).mp c150
              refine lv_iconst (v := 1) hx hb dX6_skew_92 (by decide) ?_
              refine lv_goto (tgt := 97) hx hb dX6_skew_93 (by decide) ?_
              exact K97 _ _ _ ⟨F146, _, (D39 + 2007), r106, r139, 1, rfl, lv_sub hl [2, 3, 4, 5, 6, 1, 0] rfl, by omega, hI, hP, hS, hfr, ⟨by omega, by omega⟩, hk_r139, (by decide), ⟨by omega, by omega⟩, ⟨by omega, by omega⟩, ⟨by omega, by omega⟩⟩
        · intro g H locs hq
          obtain ⟨F9, ls, D157, w44, w45, w46, rfl, hl, h158, hI, hP, hS, hfr, h151, h152, h153, h154, h155, h156⟩ := hq
          refine lv_istore (lv' := [(7, .int w46), (0, .ref a0), (1, .int x1), (2, .int w32), (3, .int w33), (4, .int w34), (5, .int w44), (6, .ref w45)]) hx hb dX6_skew_97 hl (by decide) rfl (fun ls hl => ?_)
          refine lv_aload_n hx hb dX6_skew_99 rfl (lv_at hl 1 rfl) ?_
          obtain ⟨z159, z161, z163, z165, z167, z169, z170, z172, z174, z176, z178, z180, z182, z184, o186, h160, h162, h164, h166, h168, h171, h173, h175, h177, h179, h181, h183, h185, -⟩ := s_op7 hI ha0
          refine th_get (D := (dC, dI)) (ci := 6) (v := .ref z180) (C := RX6) (T := TX6) (N := 14) hx hb hts inX6 hown hK hP (hLK _ ha0 (by decide)) o186 rfl 11 (by decide) (hts _ T_182) (fun _ h9 => h9) rfl dX6_skew_100 ?_
          refine lv_aload hx hb dX6_skew_103 (lv_at hl 7 rfl) ?_
          refine lv_iload hx hb dX6_skew_105 (lv_at hl 6 rfl) ?_
          refine lv_iconst (v := 1) hx hb dX6_skew_107 (by decide) ?_
          obtain ⟨z187, z189, z191, z193, z195, z197, z198, z200, z201, z203, z204, z206, z208, z210, o213, h188, h190, h192, h194, h196, h199, h202, h205, h207, h209, h211, h212, -⟩ := s_op1 hI h181
          refine va_calli (va_runV (As := [.ref w45, .int w44, .int 1]) (rest := []) ⟨hx, hb, hml, hown, hts⟩ (s_X0_course l dC dI H.size hLK D157 (D157 + 2007) (Nat.le_refl _) (by omega) F9 z180 w45 w44 1 h181 h152 (⟨by omega, by omega⟩) (by decide) hI (s_PGt hI0 hfr (by decide) hPG)) (cwV 3 hts (ax_gV T_921 T_923 T_924 T_180 T_922) rfl rfl rfl (by decide +kernel) ⟨Nat.le_of_ble_eq_true rfl, Nat.le_of_ble_eq_true rfl⟩) ⟨fun a U g mk q => ⟨q.1, s_pc (U := U) rfl rfl q.2⟩, s_recv hK hP (hLK _ h181 (by decide)) (ci := 0) rfl o213, fun U hU hW => ⟨rfl, s_pw hU hW hP hK hD hN⟩⟩ rfl rfl hl.1 rfl (lv_room (Nat.le_of_ble_eq_true rfl)) dX6_skew_108 ⟨Nat.zero_le _, Nat.zero_le _⟩) hS (fun q _ h => h) (fun q h => h) (fun r214 F215 t H1 locs ht hvm hw hB hz1 hk1 hS => ?_)
          obtain ⟨hP, hK1⟩ := hB
          rw [ht] at hP
          generalize H1 = H at hP hS ⊢
          clear hz1 hk1
          obtain ⟨h216, h217, hI, hfr1⟩ := hw
          have o218 : F215 a0 = .inr (6, [.ref z159, .int z161, .ref z163, .ref z165, .ref z167, .int z169, .ref z170, .ref z172, .int z174, .int z176, .ref z178, .ref z180, .ref z182, .long z184]) := (hfr1 _ (by rw [ha0]; decide)).trans o186
          have hfr : ∀ b, K b ∉ [1, 2, 5, 6, 24, 27, 28, 29, 30, 31, 32, 34, 35, 36] → F215 b = F b := fun b hb9 => (hfr1 b (fun q => hb9 (s_sub (by decide) q))).trans (hfr b hb9)
          refine lv_istore (lv' := [(8, .int r214), (7, .int w46), (0, .ref a0), (1, .int x1), (2, .int w32), (3, .int w33), (4, .int w34), (5, .int w44), (6, .ref w45)]) hx hb dX6_skew_111 hl (by decide) rfl (fun ls hl => ?_)
          refine lv_iload hx hb dX6_skew_113 (lv_at hl 1 rfl) ?_
          refine lv_if_eq (tgt := 135) hx hb dX6_skew_115 (by decide) (fun c219 => ?_) (fun c219 => ?_)
          · have c219 := (ax_eq (n := 0) (by decide)).mp c219
            exact K135 _ _ _ ⟨F215, _, (D157 + 2007), w32, w33, rfl, lv_sub hl [2, 3, 4, 5, 6] rfl, by omega, hI, hP, hS, hfr, ⟨by omega, by omega⟩, trivial, ⟨by omega, by omega⟩, ⟨by omega, by omega⟩⟩
          · have c219 := mt (ax_eq (n := 0) (by decide)).mpr c219
            refine lv_iload_n hx hb dX6_skew_118 rfl (lv_at hl 4 rfl) ?_
            refine lv_iconst (v := (-1)) hx hb dX6_skew_119 (by decide) ?_
            refine lv_icmp_eq (tgt := 129) hx hb dX6_skew_120 (by decide) (fun c220 => ?_) (fun c220 => ?_)
            · have c220 := (ax_eq (n := (-1)) (by decide)).mp c220
              exact K129 _ _ _ ⟨F215, _, (D157 + 2007), r214, rfl, lv_sub hl [2, 3, 6, 0] rfl, by omega, hI, hP, hS, hfr, trivial, ⟨by omega, by omega⟩, ⟨by omega, by omega⟩⟩
            · have c220 := mt (ax_eq (n := (-1)) (by decide)).mpr c220
              refine lv_iload hx hb dX6_skew_123 (lv_at hl 0 rfl) ?_
              refine lv_iload_n hx hb dX6_skew_125 rfl (lv_at hl 5 rfl) ?_
              refine lv_icmp_ge (tgt := 135) hx hb dX6_skew_126 (by decide) (fun c221 => ?_) (fun c221 => ?_)
              · have c221 := Int32.le_iff_toInt_le.mp c221
                exact K135 _ _ _ ⟨F215, _, (D157 + 2007), w32, w33, rfl, lv_sub hl [2, 3, 4, 5, 6] rfl, by omega, hI, hP, hS, hfr, ⟨by omega, by omega⟩, trivial, ⟨by omega, by omega⟩, ⟨by omega, by omega⟩⟩
              · have c221 := mt Int32.le_iff_toInt_le.mpr c221
                exact K129 _ _ _ ⟨F215, _, (D157 + 2007), r214, rfl, lv_sub hl [2, 3, 6, 0] rfl, by omega, hI, hP, hS, hfr, trivial, ⟨by omega, by omega⟩, ⟨by omega, by omega⟩⟩
        · intro g H locs hq
          obtain ⟨F9, ls, D225, w43, rfl, hl, h226, hI, hP, hS, hfr, h222, h223, h224⟩ := hq
          refine lv_iload hx hb dX6_skew_129 (lv_at hl 2 rfl) ?_
          refine lv_istore_n (lv' := [(2, .int w34), (0, .ref a0), (1, .int x1), (4, .int w34), (8, .int w43)]) hx hb dX6_skew_131 rfl hl (by decide) rfl (fun ls hl => ?_)
          refine lv_iload hx hb dX6_skew_132 (lv_at hl 4 rfl) ?_
          refine lv_istore_n (lv' := [(3, .int w43), (2, .int w34), (0, .ref a0), (1, .int x1), (4, .int w34), (8, .int w43)]) hx hb dX6_skew_134 rfl hl (by decide) rfl (fun ls hl => ?_)
          exact K135 _ _ _ ⟨F9, _, D225, w34, w43, rfl, lv_sub hl [2, 3, 1, 0, 4] rfl, by omega, hI, hP, hS, hfr, ⟨by omega, by omega⟩, trivial, ⟨by omega, by omega⟩, ⟨by omega, by omega⟩⟩
        · intro g H locs hq
          obtain ⟨F9, ls, D231, w41, w42, rfl, hl, h232, hI, hP, hS, hfr, h227, h228, h229, h230⟩ := hq
          obtain ⟨v233, ev233⟩ : ∃ y : Int32, w34 + 1 = y := ⟨_, rfl⟩
          have qv233 : v233.toInt = w34.toInt + 1 := by rw [← ev233]; exact th_add rfl (by decide) ⟨by omega, by omega⟩
          refine lv_iinc (v := v233) (lv' := [(4, .int v233), (0, .ref a0), (1, .int x1), (2, .int w41), (3, .int w42)]) hx hb dX6_skew_135 hl (k := 4) rfl ev233 (by decide) rfl (fun ls hl => ?_)
          refine lv_goto (tgt := 25) hx hb dX6_skew_138 (by decide) ?_
          exact ih25 _ _ _ _ (by omega) ⟨F9, _, D231, w41, w42, v233, rfl, lv_sub hl [1, 2, 3, 4, 0] rfl, by omega, hI, hP, hS, hfr, ⟨by omega, by omega⟩, trivial, ⟨by omega, by omega⟩, ⟨by omega, by omega⟩, rfl⟩
      · have c31 := mt (ax_le (n := 1) (by decide)).mpr c31
        refine lv_iconst (v := (-1)) hx hb dX6_skew_16 (by decide) ?_
        exact W.iret (v := (-1)) hx hb hr (fun t ht hW => ⟨⟨(-1), F, rfl, ⟨trivial, trivial, (s_mono (by omega) hI), hfr⟩, by rw [ht]; exact hP, va_K.moved hW.alike hK⟩, hS.F ht⟩) hS.2.2 dX6_skew_17

set_option maxHeartbeats 4000000 in
set_option maxRecDepth 100000 in
theorem s_X6_alone (l : Launch) (dC : Nat → ClassId) (dI : Nat → Nat → Nat) (sz : Nat) {L : List Nat} {K : Nat → Nat} {cs : Nat → ClassId} (hLK : ∀ a {k : Nat}, K a = k → k ≠ 0 → a ∈ L) (D : Nat) (Dm : Nat) (hDm : D + 401 ≤ Dm) (hDM : Dm < 2147483647) (F : Nat → va_E) (a0 : Nat) (x1 : Int32) (x2 : Int32) (x3 : Int32) (ha0 : K a0 = 7) (hI : s_I K cs D F) (hPG : s_PG K cs F) : Met l yX6_alone (Cond.code yX6_alone cX6_alone 4 (some .int) :: T0) ({ frames := 7, cells := 0, slots := 0, locals := 163 }) (va_Pc [.ref a0, .int x1, .int x2, .int x3] (s_W dC dI sz L F [(cs 0, .int), (cs 1, .byte), (cs 2, .long), (cs 3, .object RX5), (cs 4, .object RX4), (cs 5, .array .int), (cs 6, .char), (cs 7, .boolean)])) (va_Qi (fun (r : Int32) (G : Nat → va_E) => True ∧ True ∧ s_I K cs Dm G ∧ ∀ b, K b ∉ [1, 2, 5, 6, 24, 27, 28, 29, 30, 31, 32, 34, 35, 38] → G b = F b) (fun (G : Nat → va_E) (t : State) => va_P (dC, dI) vwCl (va_pl L G) t.heap ∧ va_K (dC, dI) vwCl [(cs 0, .int), (cs 1, .byte), (cs 2, .long), (cs 3, .object RX5), (cs 4, .object RX4), (cs 5, .array .int), (cs 6, .char), (cs 7, .boolean)] t) (fun q => q ∈ L)) 0 0 (fun q => q ∈ L) := by
  refine Met.ofW (cc := cX6_alone) (maxL := 4) (ret := (some .int)) (by decide) rfl ?_
  intro p e s m args below meth c s₁ B hml hv
  obtain ⟨rfl, hsz, hP, hK, hD, hN⟩ := hv
  have hx := B.exec
  have hb := B.bytes
  have hr := B.returns
  have hts : ∀ w ∈ T0, w.before _ s = true := fun w h => atoms_spec (ws := Cond.code yX6_alone cX6_alone 4 (some .int) :: T0) B.pre w (List.mem_cons_of_mem _ h)
  have hown : s.vm.findClass RX6 = some m.cls := findClass_of_methodNamed B.named
  have hlocks := B.notSynchronized
  have hS : va_S (fun q => q ∈ L) s.heap s.heap [] := va_S.rf
  have hfr : ∀ b, K b ∉ [1, 2, 5, 6, 24, 27, 28, 29, 30, 31, 32, 34, 35, 38] → F b = F b := fun _ _ => rfl
  have hl := lv_entry ([.ref a0, .int x1, .int x2, .int x3]) (n := 4) (Nat.le_of_ble_eq_true rfl)
  rw [lg_entry_eq]
  generalize (lg_sl ([.ref a0, .int x1, .int x2, .int x3]) ++ List.replicate (4 - (lg_sl ([.ref a0, .int x1, .int x2, .int x3])).length) Slot.unset).toArray = ls at hl ⊢
  have hl : lv_has ls 4 [(0, .ref a0), (1, .int x1), (2, .int x2), (3, .int x3)] := hl
  have hI0 := hI
  refine s_gen hP hS (fun H locs hP hS => ?_)
  refine lv_aload_n hx hb dX6_alone_0 rfl (lv_at hl 0 rfl) ?_
  refine lv_iload_n hx hb dX6_alone_1 rfl (lv_at hl 1 rfl) ?_
  refine lv_iload_n hx hb dX6_alone_2 rfl (lv_at hl 2 rfl) ?_
  obtain ⟨z1, z3, z5, z7, z9, z11, z12, z14, z16, z18, z20, z22, z24, z26, o28, h2, h4, h6, h8, h10, h13, h15, h17, h19, h21, h23, h25, h27, -⟩ := s_op7 hI ha0
  refine va_calli (va_runV (As := [.int x1, .int x2]) (rest := []) ⟨hx, hb, hml, hown, hts⟩ (s_X6_hasLane l dC dI H.size hLK D F a0 x1 x2 ha0 hI) (cwV 2 hts (ax_gV T_229 T_230 T_231 T_193 T_17) rfl rfl rfl (by decide +kernel) ⟨Nat.le_of_ble_eq_true rfl, Nat.le_of_ble_eq_true rfl⟩) ⟨fun a U g mk q => ⟨q.1, s_pc (U := U) rfl rfl q.2⟩, s_recv hK hP (hLK _ ha0 (by decide)) (ci := 6) rfl o28, fun U hU hW => ⟨rfl, s_pw hU hW hP hK hD hN⟩⟩ rfl rfl hl.1 rfl (lv_room (Nat.le_of_ble_eq_true rfl)) dX6_alone_3 ⟨Nat.zero_le _, Nat.zero_le _⟩) hS (fun q _ h => h) (fun q h => h) (fun r29 F30 t H1 locs ht hvm hw hB hz1 hk1 hS => ?_)
  obtain ⟨hP, hK1⟩ := hB
  rw [ht] at hP
  generalize H1 = H at hP hS ⊢
  clear hz1 hk1
  obtain ⟨h31, h32, hI, hfr1⟩ := hw
  have o33 : F30 a0 = .inr (6, [.ref z1, .int z3, .ref z5, .ref z7, .ref z9, .int z11, .ref z12, .ref z14, .int z16, .int z18, .ref z20, .ref z22, .ref z24, .long z26]) := (hfr1 _ (by rw [ha0]; decide)).trans o28
  have hfr : ∀ b, K b ∉ [1, 2, 5, 6, 24, 27, 28, 29, 30, 31, 32, 34, 35, 38] → F30 b = F b := fun b hb9 => (hfr1 b (fun q => hb9 (s_sub (by decide) q))).trans (hfr b hb9)
  refine lv_if_eq (tgt := 18) hx hb dX6_alone_6 (by decide) (fun c34 => ?_) (fun c34 => ?_)
  · have c34 := (ax_eq (n := 0) (by decide)).mp c34
    refine lv_ldc (v := (-1000000)) hx hb hown (hts _ T_228) dX6_alone_18 ?_
    exact W.iret (v := (-1000000)) hx hb hr (fun t ht hW => ⟨⟨(-1000000), F30, rfl, ⟨trivial, trivial, (s_mono (by omega) hI), hfr⟩, by rw [ht]; exact hP, va_K.moved hW.alike hK⟩, hS.F ht⟩) hS.2.2 dX6_alone_20
  · have c34 := mt (ax_eq (n := 0) (by decide)).mpr c34
    have h35 := h32 (fun q => c34 (by rw [q]; decide))
    refine lv_iload_n hx hb dX6_alone_9 rfl (lv_at hl 3 rfl) ?_
    refine lv_if_lt (tgt := 18) hx hb dX6_alone_10 (by decide) (fun c36 => ?_) (fun c36 => ?_)
    · have c36 := (ax_lt (n := 0) (by decide)).mp c36
      refine lv_ldc (v := (-1000000)) hx hb hown (hts _ T_228) dX6_alone_18 ?_
      exact W.iret (v := (-1000000)) hx hb hr (fun t ht hW => ⟨⟨(-1000000), F30, rfl, ⟨trivial, trivial, (s_mono (by omega) hI), hfr⟩, by rw [ht]; exact hP, va_K.moved hW.alike hK⟩, hS.F ht⟩) hS.2.2 dX6_alone_20
    · have c36 := mt (ax_lt (n := 0) (by decide)).mpr c36
      refine lv_iload_n hx hb dX6_alone_13 rfl (lv_at hl 3 rfl) ?_
      refine lv_iconst (v := 5) hx hb dX6_alone_14 (by decide) ?_
      refine lv_icmp_lt (tgt := 21) hx hb dX6_alone_15 (by decide) (fun c37 => ?_) (fun c37 => ?_)
      · have c37 := (ax_lt (n := 5) (by decide)).mp c37
        refine lv_aload_n hx hb dX6_alone_21 rfl (lv_at hl 0 rfl) ?_
        refine th_get (D := (dC, dI)) (ci := 6) (v := .ref z22) (C := RX6) (T := TX6) (N := 14) hx hb hts inX6 hown hK hP (hLK _ ha0 (by decide)) o33 rfl 11 (by decide) (hts _ T_182) (fun _ h9 => h9) rfl dX6_alone_22 ?_
        refine lv_aload_n hx hb dX6_alone_25 rfl (lv_at hl 0 rfl) ?_
        refine th_get (D := (dC, dI)) (ci := 6) (v := .ref z12) (C := RX6) (T := TX6) (N := 14) hx hb hts inX6 hown hK hP (hLK _ ha0 (by decide)) o33 rfl 6 (by decide) (hts _ T_174) (fun _ h9 => h9) rfl dX6_alone_26 ?_
        obtain ⟨z38, z40, z42, z44, z46, z48, z50, z52, z54, z56, z58, z60, z61, z63, z64, o66, h39, h41, h43, h45, h47, h49, h51, h53, h55, h57, h59, h62, h65, -⟩ := s_op5 hI h13
        refine th_getN (D := (dC, dI)) (ci := 4) (v := .int z54) (C := RX4) (T := TX4) (N := 15) hx hb hts inX4 hown hK hP (hLK _ h13 (by decide)) o66 rfl 8 (by decide) (va_Nw.use rfl (ax_n52 hN)) (fun _ h9 => h9) rfl dX6_alone_29 ?_
        refine lv_aload_n hx hb dX6_alone_32 rfl (lv_at hl 0 rfl) ?_
        refine th_get (D := (dC, dI)) (ci := 6) (v := .ref z12) (C := RX6) (T := TX6) (N := 14) hx hb hts inX6 hown hK hP (hLK _ ha0 (by decide)) o33 rfl 6 (by decide) (hts _ T_174) (fun _ h9 => h9) rfl dX6_alone_33 ?_
        refine th_getN (D := (dC, dI)) (ci := 4) (v := .int z56) (C := RX4) (T := TX4) (N := 15) hx hb hts inX4 hown hK hP (hLK _ h13 (by decide)) o66 rfl 9 (by decide) (va_Nw.use rfl (ax_n53 hN)) (fun _ h9 => h9) rfl dX6_alone_36 ?_
        refine lv_aload_n hx hb dX6_alone_39 rfl (lv_at hl 0 rfl) ?_
        refine th_get (D := (dC, dI)) (ci := 6) (v := .ref z12) (C := RX6) (T := TX6) (N := 14) hx hb hts inX6 hown hK hP (hLK _ ha0 (by decide)) o33 rfl 6 (by decide) (hts _ T_174) (fun _ h9 => h9) rfl dX6_alone_40 ?_
        refine th_getN (D := (dC, dI)) (ci := 4) (v := .int z58) (C := RX4) (T := TX4) (N := 15) hx hb hts inX4 hown hK hP (hLK _ h13 (by decide)) o66 rfl 10 (by decide) (va_Nw.use rfl (ax_n54 hN)) (fun _ h9 => h9) rfl dX6_alone_43 ?_
        obtain ⟨z67, z69, z71, z73, z75, z77, z78, z80, z81, z83, z84, z86, z88, z90, o93, h68, h70, h72, h74, h76, h79, h82, h85, h87, h89, h91, h92, -⟩ := s_op1 hI h23
        refine va_callv (va_runV (As := [.int z54, .int z56, .int z58]) (rest := []) ⟨hx, hb, hml, hown, hts⟩ (s_X0_tryBy l dC dI H.size hLK D F30 z22 z54 z56 z58 h23 (⟨by omega, by omega⟩) (⟨by omega, by omega⟩) (⟨by omega, by omega⟩) hI) (cwV 3 hts (ax_gV T_890 T_892 T_893 T_180 T_891) rfl rfl rfl (by decide +kernel) ⟨Nat.le_of_ble_eq_true rfl, Nat.le_of_ble_eq_true rfl⟩) ⟨fun a U g mk q => ⟨q.1, s_pc (U := U) rfl rfl q.2⟩, s_recv hK hP (hLK _ h23 (by decide)) (ci := 0) rfl o93, fun U hU hW => ⟨rfl, s_pw hU hW hP hK hD hN⟩⟩ rfl rfl hl.1 rfl (lv_room (Nat.le_of_ble_eq_true rfl)) dX6_alone_46 ⟨Nat.zero_le _, Nat.zero_le _⟩) hS (fun q _ h => h) (fun q h => h) (fun F94 t H1 locs ht hvm hw hB hz1 hk1 hS => ?_)
        obtain ⟨hP, hK1⟩ := hB
        rw [ht] at hP
        generalize H1 = H at hP hS ⊢
        clear hz1 hk1
        obtain ⟨h95, h96, hI, hfr1⟩ := hw
        have o97 : F94 a0 = .inr (6, [.ref z1, .int z3, .ref z5, .ref z7, .ref z9, .int z11, .ref z12, .ref z14, .int z16, .int z18, .ref z20, .ref z22, .ref z24, .long z26]) := (hfr1 _ (by rw [ha0]; decide)).trans o33
        have o98 : F94 z12 = .inr (4, [.ref z38, .ref z40, .ref z42, .ref z44, .ref z46, .ref z48, .ref z50, .int z52, .int z54, .int z56, .int z58, .int z60, .int z61, .int z63, .int z64]) := (hfr1 _ (by rw [h13]; decide)).trans o66
        have hfr : ∀ b, K b ∉ [1, 2, 5, 6, 24, 27, 28, 29, 30, 31, 32, 34, 35, 38] → F94 b = F b := fun b hb9 => (hfr1 b (fun q => hb9 (s_sub (by decide) q))).trans (hfr b hb9)
        refine lv_aload_n hx hb dX6_alone_49 rfl (lv_at hl 0 rfl) ?_
        refine th_get (D := (dC, dI)) (ci := 6) (v := .ref z22) (C := RX6) (T := TX6) (N := 14) hx hb hts inX6 hown hK hP (hLK _ ha0 (by decide)) o97 rfl 11 (by decide) (hts _ T_182) (fun _ h9 => h9) rfl dX6_alone_50 ?_
        refine lv_iload_n hx hb dX6_alone_53 rfl (lv_at hl 1 rfl) ?_
        refine lv_iload_n hx hb dX6_alone_54 rfl (lv_at hl 2 rfl) ?_
        obtain ⟨z99, z101, z103, z105, z107, z109, z110, z112, z113, z115, z116, z118, z120, z122, o125, h100, h102, h104, h106, h108, h111, h114, h117, h119, h121, h123, h124, -⟩ := s_op1 hI h23
        refine va_callv (va_runV (As := [.int x1, .int x2]) (rest := []) ⟨hx, hb, hml, hown, hts⟩ (s_X0_tryLane l dC dI H.size hLK D (D + 401) (Nat.le_refl _) (by omega) F94 z22 x1 x2 h23 (⟨by omega, by omega⟩) (⟨by omega, by omega⟩) hI (s_PGt hI0 hfr (by decide) hPG)) (cwV 2 hts (ax_gV T_894 T_896 T_897 T_180 T_895) rfl rfl rfl (by decide +kernel) ⟨Nat.le_of_ble_eq_true rfl, Nat.le_of_ble_eq_true rfl⟩) ⟨fun a U g mk q => ⟨q.1, s_pc (U := U) rfl rfl q.2⟩, s_recv hK hP (hLK _ h23 (by decide)) (ci := 0) rfl o125, fun U hU hW => ⟨rfl, s_pw hU hW hP hK hD hN⟩⟩ rfl rfl hl.1 rfl (lv_room (Nat.le_of_ble_eq_true rfl)) dX6_alone_55 ⟨Nat.zero_le _, Nat.zero_le _⟩) hS (fun q _ h => h) (fun q h => h) (fun F126 t H1 locs ht hvm hw hB hz1 hk1 hS => ?_)
        obtain ⟨hP, hK1⟩ := hB
        rw [ht] at hP
        generalize H1 = H at hP hS ⊢
        clear hz1 hk1
        obtain ⟨h127, h128, hI, hfr1⟩ := hw
        have o129 : F126 a0 = .inr (6, [.ref z1, .int z3, .ref z5, .ref z7, .ref z9, .int z11, .ref z12, .ref z14, .int z16, .int z18, .ref z20, .ref z22, .ref z24, .long z26]) := (hfr1 _ (by rw [ha0]; decide)).trans o97
        have hfr : ∀ b, K b ∉ [1, 2, 5, 6, 24, 27, 28, 29, 30, 31, 32, 34, 35, 38] → F126 b = F b := fun b hb9 => (hfr1 b (fun q => hb9 (s_sub (by decide) q))).trans (hfr b hb9)
        refine lv_aload_n hx hb dX6_alone_58 rfl (lv_at hl 0 rfl) ?_
        refine th_get (D := (dC, dI)) (ci := 6) (v := .ref z22) (C := RX6) (T := TX6) (N := 14) hx hb hts inX6 hown hK hP (hLK _ ha0 (by decide)) o129 rfl 11 (by decide) (hts _ T_182) (fun _ h9 => h9) rfl dX6_alone_59 ?_
        refine lv_iload_n hx hb dX6_alone_62 rfl (lv_at hl 1 rfl) ?_
        refine lv_iload_n hx hb dX6_alone_63 rfl (lv_at hl 2 rfl) ?_
        refine lv_iload_n hx hb dX6_alone_64 rfl (lv_at hl 3 rfl) ?_
        obtain ⟨z130, z132, z134, z136, z138, z140, z141, z143, z144, z146, z147, z149, z151, z153, o156, h131, h133, h135, h137, h139, h142, h145, h148, h150, h152, h154, h155, -⟩ := s_op1 hI h23
        refine va_calli (va_runV (As := [.int x1, .int x2, .int x3]) (rest := []) ⟨hx, hb, hml, hown, hts⟩ (s_X0_solo l dC dI H.size hLK (D + 401) F126 z22 x1 x2 x3 h23 (⟨by omega, by omega⟩) (⟨by omega, by omega⟩) (⟨by omega, by omega⟩) hI) (cwV 3 hts (ax_gV T_902 T_904 T_905 T_180 T_903) rfl rfl rfl (by decide +kernel) ⟨Nat.le_of_ble_eq_true rfl, Nat.le_of_ble_eq_true rfl⟩) ⟨fun a U g mk q => ⟨q.1, s_pc (U := U) rfl rfl q.2⟩, s_recv hK hP (hLK _ h23 (by decide)) (ci := 0) rfl o156, fun U hU hW => ⟨rfl, s_pw hU hW hP hK hD hN⟩⟩ rfl rfl hl.1 rfl (lv_room (Nat.le_of_ble_eq_true rfl)) dX6_alone_65 ⟨Nat.zero_le _, Nat.zero_le _⟩) hS (fun q _ h => h) (fun q h => h) (fun r157 F158 t H1 locs ht hvm hw hB hz1 hk1 hS => ?_)
        obtain ⟨hP, hK1⟩ := hB
        rw [ht] at hP
        generalize H1 = H at hP hS ⊢
        clear hz1 hk1
        obtain ⟨h159, h160, hI, hfr1⟩ := hw
        have o161 : F158 a0 = .inr (6, [.ref z1, .int z3, .ref z5, .ref z7, .ref z9, .int z11, .ref z12, .ref z14, .int z16, .int z18, .ref z20, .ref z22, .ref z24, .long z26]) := (hfr1 _ (by rw [ha0]; decide)).trans o129
        have o162 : F158 z22 = .inr (0, [.ref z130, .ref z132, .ref z134, .ref z136, .ref z138, .int z140, .ref z141, .long z143, .ref z144, .int z146, .ref z147, .int z149, .int z151, .int z153]) := (hfr1 _ (by rw [h23]; decide)).trans o156
        have hfr : ∀ b, K b ∉ [1, 2, 5, 6, 24, 27, 28, 29, 30, 31, 32, 34, 35, 38] → F158 b = F b := fun b hb9 => (hfr1 b (fun q => hb9 (s_sub (by decide) q))).trans (hfr b hb9)
        exact W.iret (v := r157) hx hb hr (fun t ht hW => ⟨⟨r157, F158, rfl, ⟨trivial, trivial, (s_mono (by omega) hI), hfr⟩, by rw [ht]; exact hP, va_K.moved hW.alike hK⟩, hS.F ht⟩) hS.2.2 dX6_alone_68
      · have c37 := mt (ax_lt (n := 5) (by decide)).mpr c37
        refine lv_ldc (v := (-1000000)) hx hb hown (hts _ T_228) dX6_alone_18 ?_
        exact W.iret (v := (-1000000)) hx hb hr (fun t ht hW => ⟨⟨(-1000000), F30, rfl, ⟨trivial, trivial, (s_mono (by omega) hI), hfr⟩, by rw [ht]; exact hP, va_K.moved hW.alike hK⟩, hS.F ht⟩) hS.2.2 dX6_alone_20

set_option maxHeartbeats 4000000 in
set_option maxRecDepth 100000 in
theorem s_X6_isAsAlone (l : Launch) (dC : Nat → ClassId) (dI : Nat → Nat → Nat) (sz : Nat) {L : List Nat} {K : Nat → Nat} {cs : Nat → ClassId} (hLK : ∀ a {k : Nat}, K a = k → k ≠ 0 → a ∈ L) (D : Nat) (F : Nat → va_E) (a0 : Nat) (x1 : Int32) (x2 : Int32) (ha0 : K a0 = 7) (hx1 : 0 ≤ x1.toInt ∧ x1.toInt ≤ 3) (hx2 : 0 ≤ x2.toInt ∧ x2.toInt ≤ 7) (hI : s_I K cs D F) : Met l yX6_isAsAlone (Cond.code yX6_isAsAlone cX6_isAsAlone 4 (some .boolean) :: T0) ({ frames := 1, cells := 0, slots := 0, locals := 23 }) (va_Pc [.ref a0, .int x1, .int x2] (s_W dC dI sz L F [(cs 0, .int), (cs 1, .byte), (cs 2, .long), (cs 3, .object RX5), (cs 4, .object RX4), (cs 5, .array .int), (cs 6, .char), (cs 7, .boolean)])) (va_Qi (fun (r : Int32) (G : Nat → va_E) => (0 ≤ r.toInt ∧ r.toInt ≤ 1) ∧ True ∧ s_I K cs D G ∧ ∀ b, K b ∉ ([] : List Nat) → G b = F b) (fun (G : Nat → va_E) (t : State) => va_P (dC, dI) vwCl (va_pl L G) t.heap ∧ va_K (dC, dI) vwCl [(cs 0, .int), (cs 1, .byte), (cs 2, .long), (cs 3, .object RX5), (cs 4, .object RX4), (cs 5, .array .int), (cs 6, .char), (cs 7, .boolean)] t) (fun q => q ∈ L)) 0 0 (fun q => q ∈ L) := by
  refine Met.ofW (cc := cX6_isAsAlone) (maxL := 4) (ret := (some .boolean)) (by decide) rfl ?_
  intro p e s m args below meth c s₁ B hml hv
  obtain ⟨rfl, hsz, hP, hK, hD, hN⟩ := hv
  have hx := B.exec
  have hb := B.bytes
  have hr := B.returns
  have hts : ∀ w ∈ T0, w.before _ s = true := fun w h => atoms_spec (ws := Cond.code yX6_isAsAlone cX6_isAsAlone 4 (some .boolean) :: T0) B.pre w (List.mem_cons_of_mem _ h)
  have hown : s.vm.findClass RX6 = some m.cls := findClass_of_methodNamed B.named
  have hlocks := B.notSynchronized
  have hS : va_S (fun q => q ∈ L) s.heap s.heap [] := va_S.rf
  have hfr : ∀ b, K b ∉ ([] : List Nat) → F b = F b := fun _ _ => rfl
  have hl := lv_entry ([.ref a0, .int x1, .int x2]) (n := 4) (Nat.le_of_ble_eq_true rfl)
  rw [lg_entry_eq]
  generalize (lg_sl ([.ref a0, .int x1, .int x2]) ++ List.replicate (4 - (lg_sl ([.ref a0, .int x1, .int x2])).length) Slot.unset).toArray = ls at hl ⊢
  have hl : lv_has ls 4 [(0, .ref a0), (1, .int x1), (2, .int x2)] := hl
  refine s_gen hP hS (fun H locs hP hS => ?_)
  refine lv_iconst (v := 0) hx hb dX6_isAsAlone_0 (by decide) ?_
  refine lv_istore_n (lv' := [(3, .int 0), (0, .ref a0), (1, .int x1), (2, .int x2)]) hx hb dX6_isAsAlone_1 rfl hl (by decide) rfl (fun ls hl => ?_)
  refine th_loop (fun n g H locs => ∃ (G : Nat → va_E) (ls : Array Slot) (w1 : Int32), g = F0 m 2 ls [] ∧ lv_has ls 4 [(0, .ref a0), (1, .int x1), (2, .int x2), (3, .int w1)] ∧ s_I K cs D G ∧ va_P (dC, dI) vwCl (va_pl L G) H ∧ va_S (fun q => q ∈ L) s.heap H locs ∧ (∀ b, K b ∉ ([] : List Nat) → G b = F b) ∧ (0 ≤ w1.toInt ∧ w1.toInt ≤ 4) ∧ (0 ≤ x1.toInt ∧ x1.toInt ≤ 3) ∧ (0 ≤ x2.toInt ∧ x2.toInt ≤ 7) ∧ n = (5 - w1.toInt).toNat) _ ⟨F, _, 0, rfl, lv_sub hl [1, 2, 3, 0] rfl, hI, hP, hS, hfr, (by decide), ⟨by omega, by omega⟩, ⟨by omega, by omega⟩, rfl⟩ (fun n ih2 g H locs hq => ?_)
  obtain ⟨F9, ls, w1, rfl, hl, hI, hP, hS, hfr, h2, h3, h4, hn⟩ := hq
  have hn_2 := hn
  obtain ⟨n_2, hn9_2⟩ : ∃ q, q = n := ⟨_, rfl⟩
  refine lv_iload_n hx hb dX6_isAsAlone_2 rfl (lv_at hl 3 rfl) ?_
  refine lv_iconst (v := 4) hx hb dX6_isAsAlone_3 (by decide) ?_
  refine lv_icmp_ge (tgt := 46) hx hb dX6_isAsAlone_4 (by decide) (fun c5 => ?_) (fun c5 => ?_)
  · have c5 := (ax_ge (n := 4) (by decide)).mp c5
    refine lv_iconst (v := 1) hx hb dX6_isAsAlone_46 (by decide) ?_
    exact W.zret (v := 1) (ty := .boolean) hx hb hr (by decide) (fun t ht hW => ⟨⟨1, F9, rfl, ⟨(by decide), trivial, hI, hfr⟩, by rw [ht]; exact hP, va_K.moved hW.alike hK⟩, hS.F ht⟩) hS.2.2 dX6_isAsAlone_47
  · have c5 := mt (ax_ge (n := 4) (by decide)).mpr c5
    refine lv_aload_n hx hb dX6_isAsAlone_7 rfl (lv_at hl 0 rfl) ?_
    obtain ⟨z6, z8, z10, z12, z14, z16, z17, z19, z21, z23, z25, z27, z29, z31, o33, h7, h9, h11, h13, h15, h18, h20, h22, h24, h26, h28, h30, h32, -⟩ := s_op7 hI ha0
    refine th_get (D := (dC, dI)) (ci := 6) (v := .ref z27) (C := RX6) (T := TX6) (N := 14) hx hb hts inX6 hown hK hP (hLK _ ha0 (by decide)) o33 rfl 11 (by decide) (hts _ T_182) (fun _ h9 => h9) rfl dX6_isAsAlone_8 ?_
    refine lv_iload_n hx hb dX6_isAsAlone_11 rfl (lv_at hl 1 rfl) ?_
    refine lv_iload_n hx hb dX6_isAsAlone_12 rfl (lv_at hl 2 rfl) ?_
    refine lv_iload_n hx hb dX6_isAsAlone_13 rfl (lv_at hl 3 rfl) ?_
    obtain ⟨z34, z36, z38, z40, z42, z44, z45, z47, z48, z50, z51, z53, z55, z57, o60, h35, h37, h39, h41, h43, h46, h49, h52, h54, h56, h58, h59, -⟩ := s_op1 hI h28
    refine va_calli (va_runV (As := [.int x1, .int x2, .int w1]) (rest := []) ⟨hx, hb, hml, hown, hts⟩ (s_X0_solo l dC dI H.size hLK D F9 z27 x1 x2 w1 h28 (⟨by omega, by omega⟩) (⟨by omega, by omega⟩) (⟨by omega, by omega⟩) hI) (cwV 3 hts (ax_gV T_902 T_904 T_905 T_180 T_903) rfl rfl rfl (by decide +kernel) ⟨Nat.le_of_ble_eq_true rfl, Nat.le_of_ble_eq_true rfl⟩) ⟨fun a U g mk q => ⟨q.1, s_pc (U := U) rfl rfl q.2⟩, s_recv hK hP (hLK _ h28 (by decide)) (ci := 0) rfl o60, fun U hU hW => ⟨rfl, s_pw hU hW hP hK hD hN⟩⟩ rfl rfl hl.1 rfl (lv_room (Nat.le_of_ble_eq_true rfl)) dX6_isAsAlone_14 ⟨Nat.zero_le _, Nat.zero_le _⟩) hS (fun q _ h => h) (fun q h => h) (fun r61 F62 t H1 locs ht hvm hw hB hz1 hk1 hS => ?_)
    obtain ⟨hP, hK1⟩ := hB
    rw [ht] at hP
    generalize H1 = H at hP hS ⊢
    clear hz1 hk1
    obtain ⟨h63, h64, hI, hfr1⟩ := hw
    have o65 : F62 a0 = .inr (6, [.ref z6, .int z8, .ref z10, .ref z12, .ref z14, .int z16, .ref z17, .ref z19, .int z21, .int z23, .ref z25, .ref z27, .ref z29, .long z31]) := (hfr1 _ (by rw [ha0]; decide)).trans o33
    have o66 : F62 z27 = .inr (0, [.ref z34, .ref z36, .ref z38, .ref z40, .ref z42, .int z44, .ref z45, .long z47, .ref z48, .int z50, .ref z51, .int z53, .int z55, .int z57]) := (hfr1 _ (by rw [h28]; decide)).trans o60
    have hfr : ∀ b, K b ∉ ([] : List Nat) → F62 b = F b := fun b hb9 => (hfr1 b (fun q => hb9 (s_sub (by decide) q))).trans (hfr b hb9)
    refine lv_aload_n hx hb dX6_isAsAlone_17 rfl (lv_at hl 0 rfl) ?_
    refine th_get (D := (dC, dI)) (ci := 6) (v := .ref z17) (C := RX6) (T := TX6) (N := 14) hx hb hts inX6 hown hK hP (hLK _ ha0 (by decide)) o65 rfl 6 (by decide) (hts _ T_174) (fun _ h9 => h9) rfl dX6_isAsAlone_18 ?_
    obtain ⟨z67, z69, z71, z73, z75, z77, z79, z81, z83, z85, z87, z89, z90, z92, z93, o95, h68, h70, h72, h74, h76, h78, h80, h82, h84, h86, h88, h91, h94, -⟩ := s_op5 hI h18
    refine th_getN (D := (dC, dI)) (ci := 4) (v := .ref z67) (C := RX4) (T := TX4) (N := 15) hx hb hts inX4 hown hK hP (hLK _ h18 (by decide)) o95 rfl 0 (by decide) (va_Nw.use rfl (ax_n56 hN)) (fun _ h9 => h9) rfl dX6_isAsAlone_21 ?_
    refine lv_iload_n hx hb dX6_isAsAlone_24 rfl (lv_at hl 1 rfl) ?_
    obtain ⟨f96, o97, h98⟩ := s_op26 hI h68
    obtain ⟨z99, o101, h100⟩ := h98 (x1 : Int32).toNatClampNeg (th_cl ⟨by omega, by omega⟩)
    refine th_aald hx hb hK hP (hLK _ h68 (by decide)) 3 o97 rfl (th_in ⟨by omega, by omega⟩) o101 dX6_isAsAlone_25 ?_
    obtain ⟨z102, z104, z106, z108, z110, z112, z114, z115, z116, z117, z118, o120, h103, h105, h107, h109, h111, h113, h119, -⟩ := s_op6 hI h100
    refine th_getN (D := (dC, dI)) (ci := 5) (v := .ref z102) (C := RX5) (T := TX5) (N := 11) hx hb hts inX5 hown hK hP (hLK _ h100 (by decide)) o120 rfl 0 (by decide) (va_Nw.use rfl (ax_n63 hN)) (fun _ h9 => h9) rfl dX6_isAsAlone_26 ?_
    refine lv_iload_n hx hb dX6_isAsAlone_29 rfl (lv_at hl 2 rfl) ?_
    refine lv_iconst (v := 4) hx hb dX6_isAsAlone_30 (by decide) ?_
    refine lv_imul hx hb dX6_isAsAlone_31 ?_
    refine lv_topi (fun v121 ev121 => ?_)
    have qv121 : v121.toInt = x2.toInt * 4 := by rw [ev121]; exact th_mul rfl (by decide) ⟨by omega, by omega⟩
    refine lv_iload_n hx hb dX6_isAsAlone_32 rfl (lv_at hl 3 rfl) ?_
    refine lv_iadd hx hb dX6_isAsAlone_33 ?_
    refine lv_topi (fun v122 ev122 => ?_)
    have qv122 : v122.toInt = v121.toInt + w1.toInt := by rw [ev122]; exact th_add rfl rfl ⟨by omega, by omega⟩
    obtain ⟨f123, o124, h125⟩ := s_op30 hI h103
    refine th_iald hx hb hK hP (hLK _ h103 (by decide)) 0 o124 rfl (th_in ⟨by omega, by omega⟩) dX6_isAsAlone_34 ?_
    refine lv_topi (fun v126 ev126 => ?_)
    refine lv_icmp_eq (tgt := 40) hx hb dX6_isAsAlone_35 (by decide) (fun c127 => ?_) (fun c127 => ?_)
    · have c127 := Int32.toInt_inj.symm.mp c127
      obtain ⟨v128, ev128⟩ : ∃ y : Int32, w1 + 1 = y := ⟨_, rfl⟩
      have qv128 : v128.toInt = w1.toInt + 1 := by rw [← ev128]; exact th_add rfl (by decide) ⟨by omega, by omega⟩
      refine lv_iinc (v := v128) (lv' := [(3, .int v128), (0, .ref a0), (1, .int x1), (2, .int x2)]) hx hb dX6_isAsAlone_40 hl (k := 3) rfl ev128 (by decide) rfl (fun ls hl => ?_)
      refine lv_goto (tgt := 2) hx hb dX6_isAsAlone_43 (by decide) ?_
      exact ih2 _ _ _ _ (by omega) ⟨F62, _, v128, rfl, lv_sub hl [1, 2, 3, 0] rfl, hI, hP, hS, hfr, ⟨by omega, by omega⟩, ⟨by omega, by omega⟩, ⟨by omega, by omega⟩, rfl⟩
    · have c127 := mt Int32.toInt_inj.symm.mpr c127
      refine lv_iconst (v := 0) hx hb dX6_isAsAlone_38 (by decide) ?_
      exact W.zret (v := 0) (ty := .boolean) hx hb hr (by decide) (fun t ht hW => ⟨⟨0, F62, rfl, ⟨(by decide), trivial, hI, hfr⟩, by rw [ht]; exact hP, va_K.moved hW.alike hK⟩, hS.F ht⟩) hS.2.2 dX6_isAsAlone_39

set_option maxHeartbeats 4000000 in
set_option maxRecDepth 100000 in
theorem s_X6_agrees (l : Launch) (dC : Nat → ClassId) (dI : Nat → Nat → Nat) (sz : Nat) {L : List Nat} {K : Nat → Nat} {cs : Nat → ClassId} (hLK : ∀ a {k : Nat}, K a = k → k ≠ 0 → a ∈ L) (D : Nat) (Dm : Nat) (hDm : D + 18045 ≤ Dm) (hDM : Dm < 2147483647) (F : Nat → va_E) (a0 : Nat) (ha0 : K a0 = 7) (hI : s_I K cs D F) (hPG : s_PG K cs F) : Met l yX6_agrees (Cond.code yX6_agrees cX6_agrees 4 (some .int) :: T0) ({ frames := 7, cells := 0, slots := 0, locals := 163 }) (va_Pc [.ref a0] (s_W dC dI sz L F [(cs 0, .int), (cs 1, .byte), (cs 2, .long), (cs 3, .object RX5), (cs 4, .object RX4), (cs 5, .array .int), (cs 6, .char), (cs 7, .boolean)])) (va_Qi (fun (r : Int32) (G : Nat → va_E) => True ∧ True ∧ s_I K cs Dm G ∧ ∀ b, K b ∉ [1, 2, 5, 6, 24, 27, 28, 29, 30, 31, 32, 34, 35, 38] → G b = F b) (fun (G : Nat → va_E) (t : State) => va_P (dC, dI) vwCl (va_pl L G) t.heap ∧ va_K (dC, dI) vwCl [(cs 0, .int), (cs 1, .byte), (cs 2, .long), (cs 3, .object RX5), (cs 4, .object RX4), (cs 5, .array .int), (cs 6, .char), (cs 7, .boolean)] t) (fun q => q ∈ L)) 0 0 (fun q => q ∈ L) := by
  refine Met.ofW (cc := cX6_agrees) (maxL := 4) (ret := (some .int)) (by decide) rfl ?_
  intro p e s m args below meth c s₁ B hml hv
  obtain ⟨rfl, hsz, hP, hK, hD, hN⟩ := hv
  have hx := B.exec
  have hb := B.bytes
  have hr := B.returns
  have hts : ∀ w ∈ T0, w.before _ s = true := fun w h => atoms_spec (ws := Cond.code yX6_agrees cX6_agrees 4 (some .int) :: T0) B.pre w (List.mem_cons_of_mem _ h)
  have hown : s.vm.findClass RX6 = some m.cls := findClass_of_methodNamed B.named
  have hlocks := B.notSynchronized
  have hS : va_S (fun q => q ∈ L) s.heap s.heap [] := va_S.rf
  have hfr : ∀ b, K b ∉ [1, 2, 5, 6, 24, 27, 28, 29, 30, 31, 32, 34, 35, 38] → F b = F b := fun _ _ => rfl
  have hl := lv_entry ([.ref a0]) (n := 4) (Nat.le_of_ble_eq_true rfl)
  rw [lg_entry_eq]
  generalize (lg_sl ([.ref a0]) ++ List.replicate (4 - (lg_sl ([.ref a0])).length) Slot.unset).toArray = ls at hl ⊢
  have hl : lv_has ls 4 [(0, .ref a0)] := hl
  have hI0 := hI
  refine s_gen hP hS (fun H locs hP hS => ?_)
  refine lv_aload_n hx hb dX6_agrees_0 rfl (lv_at hl 0 rfl) ?_
  obtain ⟨z1, z3, z5, z7, z9, z11, z12, z14, z16, z18, z20, z22, z24, z26, o28, h2, h4, h6, h8, h10, h13, h15, h17, h19, h21, h23, h25, h27, -⟩ := s_op7 hI ha0
  refine th_get (D := (dC, dI)) (ci := 6) (v := .int z11) (C := RX6) (T := TX6) (N := 14) hx hb hts inX6 hown hK hP (hLK _ ha0 (by decide)) o28 rfl 5 (by decide) (hts _ T_224) (fun _ h9 => h9) rfl dX6_agrees_1 ?_
  refine lv_if_ne (tgt := 9) hx hb dX6_agrees_4 (by decide) (fun c29 => ?_) (fun c29 => ?_)
  · have c29 := mt (ax_eq (n := 0) (by decide)).mpr c29
    refine lv_aload_n hx hb dX6_agrees_9 rfl (lv_at hl 0 rfl) ?_
    refine th_get (D := (dC, dI)) (ci := 6) (v := .ref z22) (C := RX6) (T := TX6) (N := 14) hx hb hts inX6 hown hK hP (hLK _ ha0 (by decide)) o28 rfl 11 (by decide) (hts _ T_182) (fun _ h9 => h9) rfl dX6_agrees_10 ?_
    refine lv_aload_n hx hb dX6_agrees_13 rfl (lv_at hl 0 rfl) ?_
    refine th_get (D := (dC, dI)) (ci := 6) (v := .ref z12) (C := RX6) (T := TX6) (N := 14) hx hb hts inX6 hown hK hP (hLK _ ha0 (by decide)) o28 rfl 6 (by decide) (hts _ T_174) (fun _ h9 => h9) rfl dX6_agrees_14 ?_
    obtain ⟨z30, z32, z34, z36, z38, z40, z42, z44, z46, z48, z50, z52, z53, z55, z56, o58, h31, h33, h35, h37, h39, h41, h43, h45, h47, h49, h51, h54, h57, -⟩ := s_op5 hI h13
    refine th_getN (D := (dC, dI)) (ci := 4) (v := .int z46) (C := RX4) (T := TX4) (N := 15) hx hb hts inX4 hown hK hP (hLK _ h13 (by decide)) o58 rfl 8 (by decide) (va_Nw.use rfl (ax_n52 hN)) (fun _ h9 => h9) rfl dX6_agrees_17 ?_
    refine lv_aload_n hx hb dX6_agrees_20 rfl (lv_at hl 0 rfl) ?_
    refine th_get (D := (dC, dI)) (ci := 6) (v := .ref z12) (C := RX6) (T := TX6) (N := 14) hx hb hts inX6 hown hK hP (hLK _ ha0 (by decide)) o28 rfl 6 (by decide) (hts _ T_174) (fun _ h9 => h9) rfl dX6_agrees_21 ?_
    refine th_getN (D := (dC, dI)) (ci := 4) (v := .int z48) (C := RX4) (T := TX4) (N := 15) hx hb hts inX4 hown hK hP (hLK _ h13 (by decide)) o58 rfl 9 (by decide) (va_Nw.use rfl (ax_n53 hN)) (fun _ h9 => h9) rfl dX6_agrees_24 ?_
    refine lv_aload_n hx hb dX6_agrees_27 rfl (lv_at hl 0 rfl) ?_
    refine th_get (D := (dC, dI)) (ci := 6) (v := .ref z12) (C := RX6) (T := TX6) (N := 14) hx hb hts inX6 hown hK hP (hLK _ ha0 (by decide)) o28 rfl 6 (by decide) (hts _ T_174) (fun _ h9 => h9) rfl dX6_agrees_28 ?_
    refine th_getN (D := (dC, dI)) (ci := 4) (v := .int z50) (C := RX4) (T := TX4) (N := 15) hx hb hts inX4 hown hK hP (hLK _ h13 (by decide)) o58 rfl 10 (by decide) (va_Nw.use rfl (ax_n54 hN)) (fun _ h9 => h9) rfl dX6_agrees_31 ?_
    obtain ⟨z59, z61, z63, z65, z67, z69, z70, z72, z73, z75, z76, z78, z80, z82, o85, h60, h62, h64, h66, h68, h71, h74, h77, h79, h81, h83, h84, -⟩ := s_op1 hI h23
    refine va_callv (va_runV (As := [.int z46, .int z48, .int z50]) (rest := []) ⟨hx, hb, hml, hown, hts⟩ (s_X0_tryBy l dC dI H.size hLK D F z22 z46 z48 z50 h23 (⟨by omega, by omega⟩) (⟨by omega, by omega⟩) (⟨by omega, by omega⟩) hI) (cwV 3 hts (ax_gV T_890 T_892 T_893 T_180 T_891) rfl rfl rfl (by decide +kernel) ⟨Nat.le_of_ble_eq_true rfl, Nat.le_of_ble_eq_true rfl⟩) ⟨fun a U g mk q => ⟨q.1, s_pc (U := U) rfl rfl q.2⟩, s_recv hK hP (hLK _ h23 (by decide)) (ci := 0) rfl o85, fun U hU hW => ⟨rfl, s_pw hU hW hP hK hD hN⟩⟩ rfl rfl hl.1 rfl (lv_room (Nat.le_of_ble_eq_true rfl)) dX6_agrees_34 ⟨Nat.zero_le _, Nat.zero_le _⟩) hS (fun q _ h => h) (fun q h => h) (fun F86 t H1 locs ht hvm hw hB hz1 hk1 hS => ?_)
    obtain ⟨hP, hK1⟩ := hB
    rw [ht] at hP
    generalize H1 = H at hP hS ⊢
    clear hz1 hk1
    obtain ⟨h87, h88, hI, hfr1⟩ := hw
    have o89 : F86 a0 = .inr (6, [.ref z1, .int z3, .ref z5, .ref z7, .ref z9, .int z11, .ref z12, .ref z14, .int z16, .int z18, .ref z20, .ref z22, .ref z24, .long z26]) := (hfr1 _ (by rw [ha0]; decide)).trans o28
    have o90 : F86 z12 = .inr (4, [.ref z30, .ref z32, .ref z34, .ref z36, .ref z38, .ref z40, .ref z42, .int z44, .int z46, .int z48, .int z50, .int z52, .int z53, .int z55, .int z56]) := (hfr1 _ (by rw [h13]; decide)).trans o58
    have hfr : ∀ b, K b ∉ [1, 2, 5, 6, 24, 27, 28, 29, 30, 31, 32, 34, 35, 38] → F86 b = F b := fun b hb9 => (hfr1 b (fun q => hb9 (s_sub (by decide) q))).trans (hfr b hb9)
    refine lv_iconst (v := 0) hx hb dX6_agrees_37 (by decide) ?_
    refine lv_istore_n (lv' := [(1, .int 0), (0, .ref a0)]) hx hb dX6_agrees_38 rfl hl (by decide) rfl (fun ls hl => ?_)
    refine lv_iconst (v := 0) hx hb dX6_agrees_39 (by decide) ?_
    refine lv_istore_n (lv' := [(2, .int 0), (1, .int 0), (0, .ref a0)]) hx hb dX6_agrees_40 rfl hl (by decide) rfl (fun ls hl => ?_)
    refine th_loop (fun n g H locs => ∃ (G : Nat → va_E) (ls : Array Slot) (Dn : Nat) (w91 : Int32) (w92 : Int32), g = F0 m 41 ls [] ∧ lv_has ls 4 [(0, .ref a0), (1, .int w91), (2, .int w92)] ∧ Dn + 3609 * n + 0 ≤ Dm ∧ s_I K cs Dn G ∧ va_P (dC, dI) vwCl (va_pl L G) H ∧ va_S (fun q => q ∈ L) s.heap H locs ∧ (∀ b, K b ∉ [1, 2, 5, 6, 24, 27, 28, 29, 30, 31, 32, 34, 35, 38] → G b = F b) ∧ True ∧ (0 ≤ w92.toInt ∧ w92.toInt ≤ 4) ∧ n = (5 - w92.toInt).toNat) _ ⟨F86, _, D, 0, 0, rfl, lv_sub hl [2, 1, 0] rfl, by have q7a : (0 : Int32).toInt = 0 := (by decide); omega, hI, hP, hS, hfr, trivial, (by decide), rfl⟩ (fun n ih41 g H locs hq => ?_)
    obtain ⟨F9, ls, D95, w91, w92, rfl, hl, h96, hI, hP, hS, hfr, h93, h94, hn⟩ := hq
    have hn_41 := hn
    obtain ⟨n_41, hn9_41⟩ : ∃ q, q = n := ⟨_, rfl⟩
    refine lv_iload_n hx hb dX6_agrees_41 rfl (lv_at hl 2 rfl) ?_
    refine lv_aload_n hx hb dX6_agrees_42 rfl (lv_at hl 0 rfl) ?_
    obtain ⟨z97, z99, z101, z103, z105, z107, z108, z110, z112, z114, z116, z118, z120, z122, o124, h98, h100, h102, h104, h106, h109, h111, h113, h115, h117, h119, h121, h123, -⟩ := s_op7 hI ha0
    refine th_get (D := (dC, dI)) (ci := 6) (v := .ref z103) (C := RX6) (T := TX6) (N := 14) hx hb hts inX6 hown hK hP (hLK _ ha0 (by decide)) o124 rfl 3 (by decide) (hts _ T_170) (fun _ h9 => h9) rfl dX6_agrees_43 ?_
    obtain ⟨z125, z127, z129, z131, z133, z135, z136, o137, h126, h128, h130, h132, h134, -⟩ := s_op3 hI h104
    refine th_getN (D := (dC, dI)) (ci := 2) (v := .int z133) (C := RX2) (T := TX2) (N := 7) hx hb hts inX2 hown hK hP (hLK _ h104 (by decide)) o137 rfl 4 (by decide) (va_Nw.use rfl (ax_n55 hN)) (fun _ h9 => h9) rfl dX6_agrees_46 ?_
    refine lv_icmp_ge (tgt := 117) hx hb dX6_agrees_49 (by decide) (fun c138 => ?_) (fun c138 => ?_)
    · have c138 := Int32.le_iff_toInt_le.mp c138
      refine lv_iload_n hx hb dX6_agrees_117 rfl (lv_at hl 1 rfl) ?_
      exact W.iret (v := w91) hx hb hr (fun t ht hW => ⟨⟨w91, F9, rfl, ⟨trivial, trivial, (s_mono (by omega) hI), hfr⟩, by rw [ht]; exact hP, va_K.moved hW.alike hK⟩, hS.F ht⟩) hS.2.2 dX6_agrees_118
    · have c138 := mt Int32.le_iff_toInt_le.mpr c138
      refine lv_iconst (v := 0) hx hb dX6_agrees_52 (by decide) ?_
      refine lv_istore_n (lv' := [(3, .int 0), (0, .ref a0), (1, .int w91), (2, .int w92)]) hx hb dX6_agrees_53 rfl hl (by decide) rfl (fun ls hl => ?_)
      refine th_loop (fun n g H locs => ∃ (G : Nat → va_E) (ls : Array Slot) (Dn : Nat) (w139 : Int32) (w140 : Int32), g = F0 m 54 ls [] ∧ lv_has ls 4 [(0, .ref a0), (1, .int w139), (2, .int w92), (3, .int w140)] ∧ Dn + 401 * n + 0 + 3609 * (n_41 - 1) + 0 ≤ Dm ∧ s_I K cs Dn G ∧ va_P (dC, dI) vwCl (va_pl L G) H ∧ va_S (fun q => q ∈ L) s.heap H locs ∧ (∀ b, K b ∉ [1, 2, 5, 6, 24, 27, 28, 29, 30, 31, 32, 34, 35, 38] → G b = F b) ∧ True ∧ (0 ≤ w140.toInt ∧ w140.toInt ≤ 8) ∧ (0 ≤ w92.toInt ∧ w92.toInt ≤ 3) ∧ n = (9 - w140.toInt).toNat) _ ⟨F9, _, D95, w91, 0, rfl, lv_sub hl [1, 2, 3, 0] rfl, by have q7a : (0 : Int32).toInt = 0 := (by decide); omega, hI, hP, hS, hfr, trivial, (by decide), ⟨by omega, by omega⟩, rfl⟩ (fun n ih54 g H locs hq => ?_)
      obtain ⟨F9, ls, D144, w139, w140, rfl, hl, h145, hI, hP, hS, hfr, h141, h142, h143, hn⟩ := hq
      have hn_54 := hn
      obtain ⟨n_54, hn9_54⟩ : ∃ q, q = n := ⟨_, rfl⟩
      refine th_join (fun g H locs => ∃ (G : Nat → va_E) (ls : Array Slot) (Dn : Nat) (w146 : Int32), g = F0 m 105 ls [] ∧ lv_has ls 4 [(0, .ref a0), (1, .int w146), (2, .int w92), (3, .int w140)] ∧ Dn + 0 + 401 * (n_54 - 1) + 0 + 3609 * (n_41 - 1) + 0 ≤ Dm ∧ s_I K cs Dn G ∧ va_P (dC, dI) vwCl (va_pl L G) H ∧ va_S (fun q => q ∈ L) s.heap H locs ∧ (∀ b, K b ∉ [1, 2, 5, 6, 24, 27, 28, 29, 30, 31, 32, 34, 35, 38] → G b = F b) ∧ True ∧ (0 ≤ w92.toInt ∧ w92.toInt ≤ 3) ∧ (0 ≤ w140.toInt ∧ w140.toInt ≤ 7)) (fun K105 => ?_) ?_
      refine th_join (fun g H locs => ∃ (G : Nat → va_E) (ls : Array Slot) (Dn : Nat) (w147 : Int32) (w148 : Int32), g = F0 m 103 ls [.int w147, .int w148] ∧ lv_has ls 4 [(0, .ref a0), (2, .int w92), (3, .int w140)] ∧ Dn + 0 + 401 * (n_54 - 1) + 0 + 3609 * (n_41 - 1) + 0 ≤ Dm ∧ s_I K cs Dn G ∧ va_P (dC, dI) vwCl (va_pl L G) H ∧ va_S (fun q => q ∈ L) s.heap H locs ∧ (∀ b, K b ∉ [1, 2, 5, 6, 24, 27, 28, 29, 30, 31, 32, 34, 35, 38] → G b = F b) ∧ (0 ≤ w147.toInt ∧ w147.toInt ≤ 1) ∧ True ∧ (0 ≤ w92.toInt ∧ w92.toInt ≤ 3) ∧ (0 ≤ w140.toInt ∧ w140.toInt ≤ 7)) (fun K103 => ?_) ?_
      · refine lv_iload_n hx hb dX6_agrees_54 rfl (lv_at hl 3 rfl) ?_
        refine lv_bipush (v := 8) hx hb dX6_agrees_55 (by decide) ?_
        refine lv_icmp_ge (tgt := 111) hx hb dX6_agrees_57 (by decide) (fun c149 => ?_) (fun c149 => ?_)
        · have c149 := (ax_ge (n := 8) (by decide)).mp c149
          obtain ⟨v150, ev150⟩ : ∃ y : Int32, w92 + 1 = y := ⟨_, rfl⟩
          have qv150 : v150.toInt = w92.toInt + 1 := by rw [← ev150]; exact th_add rfl (by decide) ⟨by omega, by omega⟩
          refine lv_iinc (v := v150) (lv' := [(2, .int v150), (0, .ref a0), (1, .int w139), (3, .int w140)]) hx hb dX6_agrees_111 hl (k := 2) rfl ev150 (by decide) rfl (fun ls hl => ?_)
          refine lv_goto (tgt := 41) hx hb dX6_agrees_114 (by decide) ?_
          exact ih41 _ _ _ _ (by omega) ⟨F9, _, D144, w139, v150, rfl, lv_sub hl [1, 2, 0] rfl, by omega, hI, hP, hS, hfr, trivial, ⟨by omega, by omega⟩, rfl⟩
        · have c149 := mt (ax_ge (n := 8) (by decide)).mpr c149
          refine lv_aload_n hx hb dX6_agrees_60 rfl (lv_at hl 0 rfl) ?_
          obtain ⟨z151, z153, z155, z157, z159, z161, z162, z164, z166, z168, z170, z172, z174, z176, o178, h152, h154, h156, h158, h160, h163, h165, h167, h169, h171, h173, h175, h177, -⟩ := s_op7 hI ha0
          refine th_get (D := (dC, dI)) (ci := 6) (v := .ref z162) (C := RX6) (T := TX6) (N := 14) hx hb hts inX6 hown hK hP (hLK _ ha0 (by decide)) o178 rfl 6 (by decide) (hts _ T_174) (fun _ h9 => h9) rfl dX6_agrees_61 ?_
          obtain ⟨z179, z181, z183, z185, z187, z189, z191, z193, z195, z197, z199, z201, z202, z204, z205, o207, h180, h182, h184, h186, h188, h190, h192, h194, h196, h198, h200, h203, h206, -⟩ := s_op5 hI h163
          refine th_getN (D := (dC, dI)) (ci := 4) (v := .ref z179) (C := RX4) (T := TX4) (N := 15) hx hb hts inX4 hown hK hP (hLK _ h163 (by decide)) o207 rfl 0 (by decide) (va_Nw.use rfl (ax_n56 hN)) (fun _ h9 => h9) rfl dX6_agrees_64 ?_
          refine lv_iload_n hx hb dX6_agrees_67 rfl (lv_at hl 2 rfl) ?_
          obtain ⟨f208, o209, h210⟩ := s_op26 hI h180
          obtain ⟨z211, o213, h212⟩ := h210 (w92 : Int32).toNatClampNeg (th_cl ⟨by omega, by omega⟩)
          refine th_aald hx hb hK hP (hLK _ h180 (by decide)) 3 o209 rfl (th_in ⟨by omega, by omega⟩) o213 dX6_agrees_68 ?_
          obtain ⟨z214, z216, z218, z220, z222, z224, z226, z227, z228, z229, z230, o232, h215, h217, h219, h221, h223, h225, h231, -⟩ := s_op6 hI h212
          refine th_getN (D := (dC, dI)) (ci := 5) (v := .int z226) (C := RX5) (T := TX5) (N := 11) hx hb hts inX5 hown hK hP (hLK _ h212 (by decide)) o232 rfl 6 (by decide) (va_Nw.use rfl (ax_n57 hN)) (fun _ h9 => h9) rfl dX6_agrees_69 ?_
          refine lv_iload_n hx hb dX6_agrees_72 rfl (lv_at hl 3 rfl) ?_
          refine lv_ishr hx hb dX6_agrees_73 ?_
          refine lv_topi (fun v233 ev233 => ?_)
          refine lv_iconst (v := 1) hx hb dX6_agrees_74 (by decide) ?_
          refine lv_iand hx hb dX6_agrees_75 ?_
          refine lv_topi (fun v234 ev234 => ?_)
          have qv234 : 0 ≤ v234.toInt ∧ v234.toInt ≤ 1 := by rw [ev234]; exact th_and 1 (by decide) (by decide)
          refine lv_if_ne (tgt := 105) hx hb dX6_agrees_76 (by decide) (fun c235 => ?_) (fun c235 => ?_)
          · have c235 := mt (ax_eq (n := 0) (by decide)).mpr c235
            exact K105 _ _ _ ⟨F9, _, D144, w139, rfl, lv_sub hl [0, 1, 2, 3] rfl, by omega, hI, hP, hS, hfr, trivial, ⟨by omega, by omega⟩, ⟨by omega, by omega⟩⟩
          · have c235 := (ax_eq (n := 0) (by decide)).mp c235
            refine lv_aload_n hx hb dX6_agrees_79 rfl (lv_at hl 0 rfl) ?_
            refine th_get (D := (dC, dI)) (ci := 6) (v := .ref z172) (C := RX6) (T := TX6) (N := 14) hx hb hts inX6 hown hK hP (hLK _ ha0 (by decide)) o178 rfl 11 (by decide) (hts _ T_182) (fun _ h9 => h9) rfl dX6_agrees_80 ?_
            refine lv_iload_n hx hb dX6_agrees_83 rfl (lv_at hl 2 rfl) ?_
            refine lv_iload_n hx hb dX6_agrees_84 rfl (lv_at hl 3 rfl) ?_
            obtain ⟨z236, z238, z240, z242, z244, z246, z247, z249, z250, z252, z253, z255, z257, z259, o262, h237, h239, h241, h243, h245, h248, h251, h254, h256, h258, h260, h261, -⟩ := s_op1 hI h173
            refine va_callv (va_runV (As := [.int w92, .int w140]) (rest := []) ⟨hx, hb, hml, hown, hts⟩ (s_X0_tryLane l dC dI H.size hLK D144 (D144 + 401) (Nat.le_refl _) (by omega) F9 z172 w92 w140 h173 (⟨by omega, by omega⟩) (⟨by omega, by omega⟩) hI (s_PGt hI0 hfr (by decide) hPG)) (cwV 2 hts (ax_gV T_894 T_896 T_897 T_180 T_895) rfl rfl rfl (by decide +kernel) ⟨Nat.le_of_ble_eq_true rfl, Nat.le_of_ble_eq_true rfl⟩) ⟨fun a U g mk q => ⟨q.1, s_pc (U := U) rfl rfl q.2⟩, s_recv hK hP (hLK _ h173 (by decide)) (ci := 0) rfl o262, fun U hU hW => ⟨rfl, s_pw hU hW hP hK hD hN⟩⟩ rfl rfl hl.1 rfl (lv_room (Nat.le_of_ble_eq_true rfl)) dX6_agrees_85 ⟨Nat.zero_le _, Nat.zero_le _⟩) hS (fun q _ h => h) (fun q h => h) (fun F263 t H1 locs ht hvm hw hB hz1 hk1 hS => ?_)
            obtain ⟨hP, hK1⟩ := hB
            rw [ht] at hP
            generalize H1 = H at hP hS ⊢
            clear hz1 hk1
            obtain ⟨h264, h265, hI, hfr1⟩ := hw
            have o266 : F263 a0 = .inr (6, [.ref z151, .int z153, .ref z155, .ref z157, .ref z159, .int z161, .ref z162, .ref z164, .int z166, .int z168, .ref z170, .ref z172, .ref z174, .long z176]) := (hfr1 _ (by rw [ha0]; decide)).trans o178
            have hfr : ∀ b, K b ∉ [1, 2, 5, 6, 24, 27, 28, 29, 30, 31, 32, 34, 35, 38] → F263 b = F b := fun b hb9 => (hfr1 b (fun q => hb9 (s_sub (by decide) q))).trans (hfr b hb9)
            refine lv_iload_n hx hb dX6_agrees_88 rfl (lv_at hl 1 rfl) ?_
            refine lv_aload_n hx hb dX6_agrees_89 rfl (lv_at hl 0 rfl) ?_
            refine lv_iload_n hx hb dX6_agrees_90 rfl (lv_at hl 2 rfl) ?_
            refine lv_iload_n hx hb dX6_agrees_91 rfl (lv_at hl 3 rfl) ?_
            refine va_calli (va_runV (As := [.int w92, .int w140]) (rest := [.int w139]) ⟨hx, hb, hml, hown, hts⟩ (s_X6_isAsAlone l dC dI H.size hLK (D144 + 401) F263 a0 w92 w140 ha0 (⟨by omega, by omega⟩) (⟨by omega, by omega⟩) hI) (cwV 2 hts (ax_gV T_898 T_900 T_901 T_193 T_899) rfl rfl rfl (by decide +kernel) ⟨Nat.le_of_ble_eq_true rfl, Nat.le_of_ble_eq_true rfl⟩) ⟨fun a U g mk q => ⟨q.1, s_pc (U := U) rfl rfl q.2⟩, s_recv hK hP (hLK _ ha0 (by decide)) (ci := 6) rfl o266, fun U hU hW => ⟨rfl, s_pw hU hW hP hK hD hN⟩⟩ rfl rfl hl.1 rfl (lv_room (Nat.le_of_ble_eq_true rfl)) dX6_agrees_92 ⟨Nat.zero_le _, Nat.zero_le _⟩) hS (fun q _ h => h) (fun q h => h) (fun r267 F268 t H1 locs ht hvm hw hB hz1 hk1 hS => ?_)
            obtain ⟨hP, hK1⟩ := hB
            rw [ht] at hP
            generalize H1 = H at hP hS ⊢
            clear hz1 hk1
            obtain ⟨h269, h270, hI, hfr1⟩ := hw
            have o271 : F268 a0 = .inr (6, [.ref z151, .int z153, .ref z155, .ref z157, .ref z159, .int z161, .ref z162, .ref z164, .int z166, .int z168, .ref z170, .ref z172, .ref z174, .long z176]) := (hfr1 _ (by rw [ha0]; decide)).trans o266
            have hfr : ∀ b, K b ∉ [1, 2, 5, 6, 24, 27, 28, 29, 30, 31, 32, 34, 35, 38] → F268 b = F b := fun b hb9 => (hfr1 b (fun q => hb9 (s_sub (by decide) q))).trans (hfr b hb9)
            refine lv_if_eq (tgt := 102) hx hb dX6_agrees_95 (by decide) (fun c272 => ?_) (fun c272 => ?_)
            · have c272 := (ax_eq (n := 0) (by decide)).mp c272
              refine lv_iconst (v := 0) hx hb dX6_agrees_102 (by decide) ?_
              exact K103 _ _ _ ⟨F268, _, (D144 + 401), 0, w139, rfl, lv_sub hl [0, 2, 3] rfl, by omega, hI, hP, hS, hfr, (by decide), trivial, ⟨by omega, by omega⟩, ⟨by omega, by omega⟩⟩
            · have c272 := mt (ax_eq (n := 0) (by decide)).mpr c272
              refine lv_iconst (v := 1) hx hb dX6_agrees_98 (by decide) ?_
              refine lv_goto (tgt := 103) hx hb dX6_agrees_99 (by decide) ?_
              exact K103 _ _ _ ⟨F268, _, (D144 + 401), 1, w139, rfl, lv_sub hl [0, 2, 3] rfl, by omega, hI, hP, hS, hfr, (by decide), trivial, ⟨by omega, by omega⟩, ⟨by omega, by omega⟩⟩
      · intro g H locs hq
        obtain ⟨F9, ls, D277, w147, w148, rfl, hl, h278, hI, hP, hS, hfr, h273, h274, h275, h276⟩ := hq
        refine lv_iadd hx hb dX6_agrees_103 ?_
        refine lv_topi (fun v279 ev279 => ?_)
        refine lv_istore_n (lv' := [(1, .int v279), (0, .ref a0), (2, .int w92), (3, .int w140)]) hx hb dX6_agrees_104 rfl hl (by decide) rfl (fun ls hl => ?_)
        exact K105 _ _ _ ⟨F9, _, D277, v279, rfl, lv_sub hl [1, 0, 2, 3] rfl, by omega, hI, hP, hS, hfr, trivial, ⟨by omega, by omega⟩, ⟨by omega, by omega⟩⟩
      · intro g H locs hq
        obtain ⟨F9, ls, D283, w146, rfl, hl, h284, hI, hP, hS, hfr, h280, h281, h282⟩ := hq
        obtain ⟨v285, ev285⟩ : ∃ y : Int32, w140 + 1 = y := ⟨_, rfl⟩
        have qv285 : v285.toInt = w140.toInt + 1 := by rw [← ev285]; exact th_add rfl (by decide) ⟨by omega, by omega⟩
        refine lv_iinc (v := v285) (lv' := [(3, .int v285), (0, .ref a0), (1, .int w146), (2, .int w92)]) hx hb dX6_agrees_105 hl (k := 3) rfl ev285 (by decide) rfl (fun ls hl => ?_)
        refine lv_goto (tgt := 54) hx hb dX6_agrees_108 (by decide) ?_
        exact ih54 _ _ _ _ (by omega) ⟨F9, _, D283, w146, v285, rfl, lv_sub hl [1, 2, 3, 0] rfl, by omega, hI, hP, hS, hfr, trivial, ⟨by omega, by omega⟩, ⟨by omega, by omega⟩, rfl⟩
  · have c29 := (ax_eq (n := 0) (by decide)).mp c29
    refine lv_iconst (v := (-1)) hx hb dX6_agrees_7 (by decide) ?_
    exact W.iret (v := (-1)) hx hb hr (fun t ht hW => ⟨⟨(-1), F, rfl, ⟨trivial, trivial, (s_mono (by omega) hI), hfr⟩, by rw [ht]; exact hP, va_K.moved hW.alike hK⟩, hS.F ht⟩) hS.2.2 dX6_agrees_8

set_option maxHeartbeats 4000000 in
set_option maxRecDepth 100000 in
theorem s_X6_likely (l : Launch) (dC : Nat → ClassId) (dI : Nat → Nat → Nat) (sz : Nat) {L : List Nat} {K : Nat → Nat} {cs : Nat → ClassId} (hLK : ∀ a {k : Nat}, K a = k → k ≠ 0 → a ∈ L) (D : Nat) (Dm : Nat) (hDm : D + 6817 ≤ Dm) (hDM : Dm < 2147483647) (F : Nat → va_E) (a0 : Nat) (x1 : Int32) (x2 : Int32) (x3 : Int32) (ha0 : K a0 = 7) (hI : s_I K cs D F) (hPG : s_PG K cs F) : Met l yX6_likely (Cond.code yX6_likely cX6_likely 6 (some .int) :: T0) ({ frames := 7, cells := 0, slots := 0, locals := 161 }) (va_Pc [.ref a0, .int x1, .int x2, .int x3] (s_W dC dI sz L F [(cs 0, .int), (cs 1, .byte), (cs 2, .long), (cs 3, .object RX5), (cs 4, .object RX4), (cs 5, .array .int), (cs 6, .char), (cs 7, .boolean)])) (va_Qi (fun (r : Int32) (G : Nat → va_E) => True ∧ True ∧ s_I K cs Dm G ∧ ∀ b, K b ∉ [1, 2, 5, 6, 24, 27, 28, 29, 30, 31, 32, 34, 35, 37] → G b = F b) (fun (G : Nat → va_E) (t : State) => va_P (dC, dI) vwCl (va_pl L G) t.heap ∧ va_K (dC, dI) vwCl [(cs 0, .int), (cs 1, .byte), (cs 2, .long), (cs 3, .object RX5), (cs 4, .object RX4), (cs 5, .array .int), (cs 6, .char), (cs 7, .boolean)] t) (fun q => q ∈ L)) 0 0 (fun q => q ∈ L) := by
  refine Met.ofW (cc := cX6_likely) (maxL := 6) (ret := (some .int)) (by decide) rfl ?_
  intro p e s m args below meth c s₁ B hml hv
  obtain ⟨rfl, hsz, hP, hK, hD, hN⟩ := hv
  have hx := B.exec
  have hb := B.bytes
  have hr := B.returns
  have hts : ∀ w ∈ T0, w.before _ s = true := fun w h => atoms_spec (ws := Cond.code yX6_likely cX6_likely 6 (some .int) :: T0) B.pre w (List.mem_cons_of_mem _ h)
  have hown : s.vm.findClass RX6 = some m.cls := findClass_of_methodNamed B.named
  have hlocks := B.notSynchronized
  have hS : va_S (fun q => q ∈ L) s.heap s.heap [] := va_S.rf
  have hfr : ∀ b, K b ∉ [1, 2, 5, 6, 24, 27, 28, 29, 30, 31, 32, 34, 35, 37] → F b = F b := fun _ _ => rfl
  have hl := lv_entry ([.ref a0, .int x1, .int x2, .int x3]) (n := 6) (Nat.le_of_ble_eq_true rfl)
  rw [lg_entry_eq]
  generalize (lg_sl ([.ref a0, .int x1, .int x2, .int x3]) ++ List.replicate (6 - (lg_sl ([.ref a0, .int x1, .int x2, .int x3])).length) Slot.unset).toArray = ls at hl ⊢
  have hl : lv_has ls 6 [(0, .ref a0), (1, .int x1), (2, .int x2), (3, .int x3)] := hl
  have hI0 := hI
  refine s_gen hP hS (fun H locs hP hS => ?_)
  refine lv_aload_n hx hb dX6_likely_0 rfl (lv_at hl 0 rfl) ?_
  obtain ⟨z1, z3, z5, z7, z9, z11, z12, z14, z16, z18, z20, z22, z24, z26, o28, h2, h4, h6, h8, h10, h13, h15, h17, h19, h21, h23, h25, h27, -⟩ := s_op7 hI ha0
  refine th_get (D := (dC, dI)) (ci := 6) (v := .int z11) (C := RX6) (T := TX6) (N := 14) hx hb hts inX6 hown hK hP (hLK _ ha0 (by decide)) o28 rfl 5 (by decide) (hts _ T_224) (fun _ h9 => h9) rfl dX6_likely_1 ?_
  refine lv_if_eq (tgt := 33) hx hb dX6_likely_4 (by decide) (fun c29 => ?_) (fun c29 => ?_)
  · have c29 := (ax_eq (n := 0) (by decide)).mp c29
    refine lv_iconst (v := (-1)) hx hb dX6_likely_33 (by decide) ?_
    exact W.iret (v := (-1)) hx hb hr (fun t ht hW => ⟨⟨(-1), F, rfl, ⟨trivial, trivial, (s_mono (by omega) hI), hfr⟩, by rw [ht]; exact hP, va_K.moved hW.alike hK⟩, hS.F ht⟩) hS.2.2 dX6_likely_34
  · have c29 := mt (ax_eq (n := 0) (by decide)).mpr c29
    refine lv_iload_n hx hb dX6_likely_7 rfl (lv_at hl 1 rfl) ?_
    refine lv_if_lt (tgt := 33) hx hb dX6_likely_8 (by decide) (fun c30 => ?_) (fun c30 => ?_)
    · have c30 := (ax_lt (n := 0) (by decide)).mp c30
      refine lv_iconst (v := (-1)) hx hb dX6_likely_33 (by decide) ?_
      exact W.iret (v := (-1)) hx hb hr (fun t ht hW => ⟨⟨(-1), F, rfl, ⟨trivial, trivial, (s_mono (by omega) hI), hfr⟩, by rw [ht]; exact hP, va_K.moved hW.alike hK⟩, hS.F ht⟩) hS.2.2 dX6_likely_34
    · have c30 := mt (ax_lt (n := 0) (by decide)).mpr c30
      refine lv_iload_n hx hb dX6_likely_11 rfl (lv_at hl 1 rfl) ?_
      refine lv_bipush (v := 64) hx hb dX6_likely_12 (by decide) ?_
      refine lv_icmp_ge (tgt := 33) hx hb dX6_likely_14 (by decide) (fun c31 => ?_) (fun c31 => ?_)
      · have c31 := (ax_ge (n := 64) (by decide)).mp c31
        refine lv_iconst (v := (-1)) hx hb dX6_likely_33 (by decide) ?_
        exact W.iret (v := (-1)) hx hb hr (fun t ht hW => ⟨⟨(-1), F, rfl, ⟨trivial, trivial, (s_mono (by omega) hI), hfr⟩, by rw [ht]; exact hP, va_K.moved hW.alike hK⟩, hS.F ht⟩) hS.2.2 dX6_likely_34
      · have c31 := mt (ax_ge (n := 64) (by decide)).mpr c31
        refine lv_iload_n hx hb dX6_likely_17 rfl (lv_at hl 2 rfl) ?_
        refine lv_if_lt (tgt := 33) hx hb dX6_likely_18 (by decide) (fun c32 => ?_) (fun c32 => ?_)
        · have c32 := (ax_lt (n := 0) (by decide)).mp c32
          refine lv_iconst (v := (-1)) hx hb dX6_likely_33 (by decide) ?_
          exact W.iret (v := (-1)) hx hb hr (fun t ht hW => ⟨⟨(-1), F, rfl, ⟨trivial, trivial, (s_mono (by omega) hI), hfr⟩, by rw [ht]; exact hP, va_K.moved hW.alike hK⟩, hS.F ht⟩) hS.2.2 dX6_likely_34
        · have c32 := mt (ax_lt (n := 0) (by decide)).mpr c32
          refine lv_iload_n hx hb dX6_likely_21 rfl (lv_at hl 2 rfl) ?_
          refine lv_sipush (v := 400) hx hb dX6_likely_22 (by decide) ?_
          refine lv_icmp_gt (tgt := 33) hx hb dX6_likely_25 (by decide) (fun c33 => ?_) (fun c33 => ?_)
          · have c33 := (ax_gt (n := 400) (by decide)).mp c33
            refine lv_iconst (v := (-1)) hx hb dX6_likely_33 (by decide) ?_
            exact W.iret (v := (-1)) hx hb hr (fun t ht hW => ⟨⟨(-1), F, rfl, ⟨trivial, trivial, (s_mono (by omega) hI), hfr⟩, by rw [ht]; exact hP, va_K.moved hW.alike hK⟩, hS.F ht⟩) hS.2.2 dX6_likely_34
          · have c33 := mt (ax_gt (n := 400) (by decide)).mpr c33
            refine lv_iload_n hx hb dX6_likely_28 rfl (lv_at hl 3 rfl) ?_
            refine lv_iconst (v := (-1)) hx hb dX6_likely_29 (by decide) ?_
            refine lv_icmp_ge (tgt := 35) hx hb dX6_likely_30 (by decide) (fun c34 => ?_) (fun c34 => ?_)
            · have c34 := (ax_ge (n := (-1)) (by decide)).mp c34
              refine lv_aload_n hx hb dX6_likely_35 rfl (lv_at hl 0 rfl) ?_
              refine th_get (D := (dC, dI)) (ci := 6) (v := .ref z22) (C := RX6) (T := TX6) (N := 14) hx hb hts inX6 hown hK hP (hLK _ ha0 (by decide)) o28 rfl 11 (by decide) (hts _ T_182) (fun _ h9 => h9) rfl dX6_likely_36 ?_
              refine lv_aload_n hx hb dX6_likely_39 rfl (lv_at hl 0 rfl) ?_
              refine th_get (D := (dC, dI)) (ci := 6) (v := .ref z12) (C := RX6) (T := TX6) (N := 14) hx hb hts inX6 hown hK hP (hLK _ ha0 (by decide)) o28 rfl 6 (by decide) (hts _ T_174) (fun _ h9 => h9) rfl dX6_likely_40 ?_
              obtain ⟨z35, z37, z39, z41, z43, z45, z47, z49, z51, z53, z55, z57, z58, z60, z61, o63, h36, h38, h40, h42, h44, h46, h48, h50, h52, h54, h56, h59, h62, -⟩ := s_op5 hI h13
              refine th_getN (D := (dC, dI)) (ci := 4) (v := .int z51) (C := RX4) (T := TX4) (N := 15) hx hb hts inX4 hown hK hP (hLK _ h13 (by decide)) o63 rfl 8 (by decide) (va_Nw.use rfl (ax_n52 hN)) (fun _ h9 => h9) rfl dX6_likely_43 ?_
              refine lv_aload_n hx hb dX6_likely_46 rfl (lv_at hl 0 rfl) ?_
              refine th_get (D := (dC, dI)) (ci := 6) (v := .ref z12) (C := RX6) (T := TX6) (N := 14) hx hb hts inX6 hown hK hP (hLK _ ha0 (by decide)) o28 rfl 6 (by decide) (hts _ T_174) (fun _ h9 => h9) rfl dX6_likely_47 ?_
              refine th_getN (D := (dC, dI)) (ci := 4) (v := .int z53) (C := RX4) (T := TX4) (N := 15) hx hb hts inX4 hown hK hP (hLK _ h13 (by decide)) o63 rfl 9 (by decide) (va_Nw.use rfl (ax_n53 hN)) (fun _ h9 => h9) rfl dX6_likely_50 ?_
              refine lv_aload_n hx hb dX6_likely_53 rfl (lv_at hl 0 rfl) ?_
              refine th_get (D := (dC, dI)) (ci := 6) (v := .ref z12) (C := RX6) (T := TX6) (N := 14) hx hb hts inX6 hown hK hP (hLK _ ha0 (by decide)) o28 rfl 6 (by decide) (hts _ T_174) (fun _ h9 => h9) rfl dX6_likely_54 ?_
              refine th_getN (D := (dC, dI)) (ci := 4) (v := .int z55) (C := RX4) (T := TX4) (N := 15) hx hb hts inX4 hown hK hP (hLK _ h13 (by decide)) o63 rfl 10 (by decide) (va_Nw.use rfl (ax_n54 hN)) (fun _ h9 => h9) rfl dX6_likely_57 ?_
              obtain ⟨z64, z66, z68, z70, z72, z74, z75, z77, z78, z80, z81, z83, z85, z87, o90, h65, h67, h69, h71, h73, h76, h79, h82, h84, h86, h88, h89, -⟩ := s_op1 hI h23
              refine va_callv (va_runV (As := [.int z51, .int z53, .int z55]) (rest := []) ⟨hx, hb, hml, hown, hts⟩ (s_X0_tryBy l dC dI H.size hLK D F z22 z51 z53 z55 h23 (⟨by omega, by omega⟩) (⟨by omega, by omega⟩) (⟨by omega, by omega⟩) hI) (cwV 3 hts (ax_gV T_890 T_892 T_893 T_180 T_891) rfl rfl rfl (by decide +kernel) ⟨Nat.le_of_ble_eq_true rfl, Nat.le_of_ble_eq_true rfl⟩) ⟨fun a U g mk q => ⟨q.1, s_pc (U := U) rfl rfl q.2⟩, s_recv hK hP (hLK _ h23 (by decide)) (ci := 0) rfl o90, fun U hU hW => ⟨rfl, s_pw hU hW hP hK hD hN⟩⟩ rfl rfl hl.1 rfl (lv_room (Nat.le_of_ble_eq_true rfl)) dX6_likely_60 ⟨Nat.zero_le _, Nat.zero_le _⟩) hS (fun q _ h => h) (fun q h => h) (fun F91 t H1 locs ht hvm hw hB hz1 hk1 hS => ?_)
              obtain ⟨hP, hK1⟩ := hB
              rw [ht] at hP
              generalize H1 = H at hP hS ⊢
              clear hz1 hk1
              obtain ⟨h92, h93, hI, hfr1⟩ := hw
              have o94 : F91 a0 = .inr (6, [.ref z1, .int z3, .ref z5, .ref z7, .ref z9, .int z11, .ref z12, .ref z14, .int z16, .int z18, .ref z20, .ref z22, .ref z24, .long z26]) := (hfr1 _ (by rw [ha0]; decide)).trans o28
              have o95 : F91 z12 = .inr (4, [.ref z35, .ref z37, .ref z39, .ref z41, .ref z43, .ref z45, .ref z47, .int z49, .int z51, .int z53, .int z55, .int z57, .int z58, .int z60, .int z61]) := (hfr1 _ (by rw [h13]; decide)).trans o63
              have hfr : ∀ b, K b ∉ [1, 2, 5, 6, 24, 27, 28, 29, 30, 31, 32, 34, 35, 37] → F91 b = F b := fun b hb9 => (hfr1 b (fun q => hb9 (s_sub (by decide) q))).trans (hfr b hb9)
              refine lv_aload_n hx hb dX6_likely_63 rfl (lv_at hl 0 rfl) ?_
              refine th_get (D := (dC, dI)) (ci := 6) (v := .ref z22) (C := RX6) (T := TX6) (N := 14) hx hb hts inX6 hown hK hP (hLK _ ha0 (by decide)) o94 rfl 11 (by decide) (hts _ T_182) (fun _ h9 => h9) rfl dX6_likely_64 ?_
              refine lv_iload_n hx hb dX6_likely_67 rfl (lv_at hl 1 rfl) ?_
              obtain ⟨z96, z98, z100, z102, z104, z106, z107, z109, z110, z112, z113, z115, z117, z119, o122, h97, h99, h101, h103, h105, h108, h111, h114, h116, h118, h120, h121, -⟩ := s_op1 hI h23
              refine va_callv (va_runV (As := [.int x1]) (rest := []) ⟨hx, hb, hml, hown, hts⟩ (s_X0_tryWord l dC dI H.size hLK D (D + 6817) (Nat.le_refl _) (by omega) F91 z22 x1 h23 (⟨by omega, by omega⟩) hI (s_PGt hI0 hfr (by decide) hPG)) (cwV 1 hts (ax_gV T_964 T_966 T_967 T_180 T_965) rfl rfl rfl (by decide +kernel) ⟨Nat.le_of_ble_eq_true rfl, Nat.le_of_ble_eq_true rfl⟩) ⟨fun a U g mk q => ⟨q.1, s_pc (U := U) rfl rfl q.2⟩, s_recv hK hP (hLK _ h23 (by decide)) (ci := 0) rfl o122, fun U hU hW => ⟨rfl, s_pw hU hW hP hK hD hN⟩⟩ rfl rfl hl.1 rfl (lv_room (Nat.le_of_ble_eq_true rfl)) dX6_likely_68 ⟨Nat.zero_le _, Nat.zero_le _⟩) hS (fun q _ h => h) (fun q h => h) (fun F123 t H1 locs ht hvm hw hB hz1 hk1 hS => ?_)
              obtain ⟨hP, hK1⟩ := hB
              rw [ht] at hP
              generalize H1 = H at hP hS ⊢
              clear hz1 hk1
              obtain ⟨h124, h125, hI, hfr1⟩ := hw
              have o126 : F123 a0 = .inr (6, [.ref z1, .int z3, .ref z5, .ref z7, .ref z9, .int z11, .ref z12, .ref z14, .int z16, .int z18, .ref z20, .ref z22, .ref z24, .long z26]) := (hfr1 _ (by rw [ha0]; decide)).trans o94
              have hfr : ∀ b, K b ∉ [1, 2, 5, 6, 24, 27, 28, 29, 30, 31, 32, 34, 35, 37] → F123 b = F b := fun b hb9 => (hfr1 b (fun q => hb9 (s_sub (by decide) q))).trans (hfr b hb9)
              refine lv_iconst (v := 0) hx hb dX6_likely_71 (by decide) ?_
              refine lv_istore (lv' := [(4, .int 0), (0, .ref a0), (1, .int x1), (2, .int x2), (3, .int x3)]) hx hb dX6_likely_72 hl (by decide) rfl (fun ls hl => ?_)
              refine lv_iconst (v := 0) hx hb dX6_likely_74 (by decide) ?_
              refine lv_istore (lv' := [(5, .int 0), (4, .int 0), (0, .ref a0), (1, .int x1), (2, .int x2), (3, .int x3)]) hx hb dX6_likely_75 hl (by decide) rfl (fun ls hl => ?_)
              refine th_loop (fun n g H locs => ∃ (G : Nat → va_E) (ls : Array Slot) (Dn : Nat) (w127 : Int32) (w128 : Int32), g = F0 m 77 ls [] ∧ lv_has ls 6 [(0, .ref a0), (1, .int x1), (2, .int x2), (3, .int x3), (4, .int w127), (5, .int w128)] ∧ Dn + 0 * n + 0 ≤ Dm ∧ s_I K cs Dn G ∧ va_P (dC, dI) vwCl (va_pl L G) H ∧ va_S (fun q => q ∈ L) s.heap H locs ∧ (∀ b, K b ∉ [1, 2, 5, 6, 24, 27, 28, 29, 30, 31, 32, 34, 35, 37] → G b = F b) ∧ True ∧ (0 ≤ w128.toInt ∧ w128.toInt ≤ 16) ∧ (0 ≤ x1.toInt ∧ x1.toInt ≤ 63) ∧ (0 ≤ x2.toInt ∧ x2.toInt ≤ 400) ∧ (-1 ≤ x3.toInt ∧ x3.toInt ≤ 2147483647) ∧ n = (17 - w128.toInt).toNat) _ ⟨F123, _, (D + 6817), 0, 0, rfl, lv_sub hl [2, 3, 4, 5, 1, 0] rfl, by have q7a : (0 : Int32).toInt = 0 := (by decide); omega, hI, hP, hS, hfr, trivial, (by decide), ⟨by omega, by omega⟩, ⟨by omega, by omega⟩, ⟨by omega, by have q9 := th_hi x3; omega⟩, rfl⟩ (fun n ih77 g H locs hq => ?_)
              obtain ⟨F9, ls, D134, w127, w128, rfl, hl, h135, hI, hP, hS, hfr, h129, h130, h131, h132, h133, hn⟩ := hq
              have hn_77 := hn
              obtain ⟨n_77, hn9_77⟩ : ∃ q, q = n := ⟨_, rfl⟩
              refine th_join (fun g H locs => ∃ (G : Nat → va_E) (ls : Array Slot) (Dn : Nat) (w136 : Int32), g = F0 m 110 ls [] ∧ lv_has ls 6 [(0, .ref a0), (1, .int x1), (2, .int x2), (3, .int x3), (4, .int w136), (5, .int w128)] ∧ Dn + 0 + 0 * (n_77 - 1) + 0 ≤ Dm ∧ s_I K cs Dn G ∧ va_P (dC, dI) vwCl (va_pl L G) H ∧ va_S (fun q => q ∈ L) s.heap H locs ∧ (∀ b, K b ∉ [1, 2, 5, 6, 24, 27, 28, 29, 30, 31, 32, 34, 35, 37] → G b = F b) ∧ True ∧ (0 ≤ x1.toInt ∧ x1.toInt ≤ 63) ∧ (0 ≤ x2.toInt ∧ x2.toInt ≤ 400) ∧ (-1 ≤ x3.toInt ∧ x3.toInt ≤ 2147483647) ∧ (0 ≤ w128.toInt ∧ w128.toInt ≤ 15)) (fun K110 => ?_) ?_
              · refine lv_iload hx hb dX6_likely_77 (lv_at hl 5 rfl) ?_
                refine lv_bipush (v := 16) hx hb dX6_likely_79 (by decide) ?_
                refine lv_icmp_ge (tgt := 116) hx hb dX6_likely_81 (by decide) (fun c137 => ?_) (fun c137 => ?_)
                · have c137 := (ax_ge (n := 16) (by decide)).mp c137
                  refine lv_iload_n hx hb dX6_likely_116 rfl (lv_at hl 3 rfl) ?_
                  refine lv_iconst (v := (-1)) hx hb dX6_likely_117 (by decide) ?_
                  refine lv_icmp_ne (tgt := 126) hx hb dX6_likely_118 (by decide) (fun c138 => ?_) (fun c138 => ?_)
                  · have c138 := mt (ax_eq (n := (-1)) (by decide)).mpr c138
                    refine lv_iconst (v := (-1)) hx hb dX6_likely_126 (by decide) ?_
                    exact W.iret (v := (-1)) hx hb hr (fun t ht hW => ⟨⟨(-1), F9, rfl, ⟨trivial, trivial, (s_mono (by omega) hI), hfr⟩, by rw [ht]; exact hP, va_K.moved hW.alike hK⟩, hS.F ht⟩) hS.2.2 dX6_likely_127
                  · have c138 := (ax_eq (n := (-1)) (by decide)).mp c138
                    refine lv_iload hx hb dX6_likely_121 (lv_at hl 4 rfl) ?_
                    refine lv_goto (tgt := 127) hx hb dX6_likely_123 (by decide) ?_
                    exact W.iret (v := w127) hx hb hr (fun t ht hW => ⟨⟨w127, F9, rfl, ⟨trivial, trivial, (s_mono (by omega) hI), hfr⟩, by rw [ht]; exact hP, va_K.moved hW.alike hK⟩, hS.F ht⟩) hS.2.2 dX6_likely_127
                · have c137 := mt (ax_ge (n := 16) (by decide)).mpr c137
                  refine lv_aload_n hx hb dX6_likely_84 rfl (lv_at hl 0 rfl) ?_
                  obtain ⟨z139, z141, z143, z145, z147, z149, z150, z152, z154, z156, z158, z160, z162, z164, o166, h140, h142, h144, h146, h148, h151, h153, h155, h157, h159, h161, h163, h165, -⟩ := s_op7 hI ha0
                  refine th_get (D := (dC, dI)) (ci := 6) (v := .ref z160) (C := RX6) (T := TX6) (N := 14) hx hb hts inX6 hown hK hP (hLK _ ha0 (by decide)) o166 rfl 11 (by decide) (hts _ T_182) (fun _ h9 => h9) rfl dX6_likely_85 ?_
                  refine lv_iload_n hx hb dX6_likely_88 rfl (lv_at hl 1 rfl) ?_
                  refine lv_iload hx hb dX6_likely_89 (lv_at hl 5 rfl) ?_
                  obtain ⟨z167, z169, z171, z173, z175, z177, z178, z180, z181, z183, z184, z186, z188, z190, o193, h168, h170, h172, h174, h176, h179, h182, h185, h187, h189, h191, h192, -⟩ := s_op1 hI h161
                  refine va_calli (va_runV (As := [.int x1, .int w128]) (rest := []) ⟨hx, hb, hml, hown, hts⟩ (s_X0_cyclesWith l dC dI H.size hLK D134 F9 z160 x1 w128 h161 (⟨by omega, by omega⟩) (⟨by omega, by omega⟩) hI) (cwV 2 hts (ax_gV T_968 T_605 T_606 T_180 T_604) rfl rfl rfl (by decide +kernel) ⟨Nat.le_of_ble_eq_true rfl, Nat.le_of_ble_eq_true rfl⟩) ⟨fun a U g mk q => ⟨q.1, s_pc (U := U) rfl rfl q.2⟩, s_recv hK hP (hLK _ h161 (by decide)) (ci := 0) rfl o193, fun U hU hW => ⟨rfl, s_pw hU hW hP hK hD hN⟩⟩ rfl rfl hl.1 rfl (lv_room (Nat.le_of_ble_eq_true rfl)) dX6_likely_91 ⟨Nat.zero_le _, Nat.zero_le _⟩) hS (fun q _ h => h) (fun q h => h) (fun r194 F195 t H1 locs ht hvm hw hB hz1 hk1 hS => ?_)
                  obtain ⟨hP, hK1⟩ := hB
                  rw [ht] at hP
                  generalize H1 = H at hP hS ⊢
                  clear hz1 hk1
                  obtain ⟨h196, h197, hI, hfr1⟩ := hw
                  have o198 : F195 a0 = .inr (6, [.ref z139, .int z141, .ref z143, .ref z145, .ref z147, .int z149, .ref z150, .ref z152, .int z154, .int z156, .ref z158, .ref z160, .ref z162, .long z164]) := (hfr1 _ (by rw [ha0]; decide)).trans o166
                  have o199 : F195 z160 = .inr (0, [.ref z167, .ref z169, .ref z171, .ref z173, .ref z175, .int z177, .ref z178, .long z180, .ref z181, .int z183, .ref z184, .int z186, .int z188, .int z190]) := (hfr1 _ (by rw [h161]; decide)).trans o193
                  have hfr : ∀ b, K b ∉ [1, 2, 5, 6, 24, 27, 28, 29, 30, 31, 32, 34, 35, 37] → F195 b = F b := fun b hb9 => (hfr1 b (fun q => hb9 (s_sub (by decide) q))).trans (hfr b hb9)
                  refine lv_iload_n hx hb dX6_likely_94 rfl (lv_at hl 2 rfl) ?_
                  refine lv_icmp_ne (tgt := 110) hx hb dX6_likely_95 (by decide) (fun c200 => ?_) (fun c200 => ?_)
                  · have c200 := mt Int32.toInt_inj.symm.mpr c200
                    exact K110 _ _ _ ⟨F195, _, D134, w127, rfl, lv_sub hl [0, 1, 2, 3, 4, 5] rfl, by omega, hI, hP, hS, hfr, trivial, ⟨by omega, by omega⟩, ⟨by omega, by omega⟩, ⟨by omega, by have q9 := th_hi x3; omega⟩, ⟨by omega, by omega⟩⟩
                  · have c200 := Int32.toInt_inj.symm.mp c200
                    refine lv_iload hx hb dX6_likely_98 (lv_at hl 4 rfl) ?_
                    refine lv_iload_n hx hb dX6_likely_100 rfl (lv_at hl 3 rfl) ?_
                    refine lv_icmp_ne (tgt := 107) hx hb dX6_likely_101 (by decide) (fun c201 => ?_) (fun c201 => ?_)
                    · have c201 := mt Int32.toInt_inj.symm.mpr c201
                      obtain ⟨v202, ev202⟩ : ∃ y : Int32, w127 + 1 = y := ⟨_, rfl⟩
                      refine lv_iinc (v := v202) (lv' := [(4, .int v202), (0, .ref a0), (1, .int x1), (2, .int x2), (3, .int x3), (5, .int w128)]) hx hb dX6_likely_107 hl (k := 4) rfl ev202 (by decide) rfl (fun ls hl => ?_)
                      exact K110 _ _ _ ⟨F195, _, D134, v202, rfl, lv_sub hl [1, 2, 3, 4, 0, 5] rfl, by omega, hI, hP, hS, hfr, trivial, ⟨by omega, by omega⟩, ⟨by omega, by omega⟩, ⟨by omega, by have q9 := th_hi x3; omega⟩, ⟨by omega, by omega⟩⟩
                    · have c201 := Int32.toInt_inj.symm.mp c201
                      refine lv_iload hx hb dX6_likely_104 (lv_at hl 5 rfl) ?_
                      exact W.iret (v := w128) hx hb hr (fun t ht hW => ⟨⟨w128, F195, rfl, ⟨trivial, trivial, (s_mono (by omega) hI), hfr⟩, by rw [ht]; exact hP, va_K.moved hW.alike hK⟩, hS.F ht⟩) hS.2.2 dX6_likely_106
              · intro g H locs hq
                obtain ⟨F9, ls, D208, w136, rfl, hl, h209, hI, hP, hS, hfr, h203, h204, h205, h206, h207⟩ := hq
                obtain ⟨v210, ev210⟩ : ∃ y : Int32, w128 + 1 = y := ⟨_, rfl⟩
                have qv210 : v210.toInt = w128.toInt + 1 := by rw [← ev210]; exact th_add rfl (by decide) ⟨by omega, by omega⟩
                refine lv_iinc (v := v210) (lv' := [(5, .int v210), (0, .ref a0), (1, .int x1), (2, .int x2), (3, .int x3), (4, .int w136)]) hx hb dX6_likely_110 hl (k := 5) rfl ev210 (by decide) rfl (fun ls hl => ?_)
                refine lv_goto (tgt := 77) hx hb dX6_likely_113 (by decide) ?_
                exact ih77 _ _ _ _ (by omega) ⟨F9, _, D208, w136, v210, rfl, lv_sub hl [1, 2, 3, 4, 5, 0] rfl, by omega, hI, hP, hS, hfr, trivial, ⟨by omega, by omega⟩, ⟨by omega, by omega⟩, ⟨by omega, by omega⟩, ⟨by omega, by have q9 := th_hi x3; omega⟩, rfl⟩
            · have c34 := mt (ax_ge (n := (-1)) (by decide)).mpr c34
              refine lv_iconst (v := (-1)) hx hb dX6_likely_33 (by decide) ?_
              exact W.iret (v := (-1)) hx hb hr (fun t ht hW => ⟨⟨(-1), F, rfl, ⟨trivial, trivial, (s_mono (by omega) hI), hfr⟩, by rw [ht]; exact hP, va_K.moved hW.alike hK⟩, hS.F ht⟩) hS.2.2 dX6_likely_34

set_option maxHeartbeats 4000000 in
set_option maxRecDepth 100000 in
theorem s_X6_tells (l : Launch) (dC : Nat → ClassId) (dI : Nat → Nat → Nat) (sz : Nat) {L : List Nat} {K : Nat → Nat} {cs : Nat → ClassId} (hLK : ∀ a {k : Nat}, K a = k → k ≠ 0 → a ∈ L) (D : Nat) (Dm : Nat) (hDm : D + 61353 ≤ Dm) (hDM : Dm < 2147483647) (F : Nat → va_E) (a0 : Nat) (x1 : Int32) (ha0 : K a0 = 7) (hI : s_I K cs D F) (hPG : s_PG K cs F) : Met l yX6_tells (Cond.code yX6_tells cX6_tells 6 (some .int) :: T0) ({ frames := 7, cells := 0, slots := 0, locals := 161 }) (va_Pc [.ref a0, .int x1] (s_W dC dI sz L F [(cs 0, .int), (cs 1, .byte), (cs 2, .long), (cs 3, .object RX5), (cs 4, .object RX4), (cs 5, .array .int), (cs 6, .char), (cs 7, .boolean)])) (va_Qi (fun (r : Int32) (G : Nat → va_E) => (-1 ≤ r.toInt ∧ r.toInt ≤ 2147483647) ∧ True ∧ s_I K cs Dm G ∧ ∀ b, K b ∉ [1, 2, 5, 6, 24, 27, 28, 29, 30, 31, 32, 34, 35, 37] → G b = F b) (fun (G : Nat → va_E) (t : State) => va_P (dC, dI) vwCl (va_pl L G) t.heap ∧ va_K (dC, dI) vwCl [(cs 0, .int), (cs 1, .byte), (cs 2, .long), (cs 3, .object RX5), (cs 4, .object RX4), (cs 5, .array .int), (cs 6, .char), (cs 7, .boolean)] t) (fun q => q ∈ L)) 0 0 (fun q => q ∈ L) := by
  refine Met.ofW (cc := cX6_tells) (maxL := 6) (ret := (some .int)) (by decide) rfl ?_
  intro p e s m args below meth c s₁ B hml hv
  obtain ⟨rfl, hsz, hP, hK, hD, hN⟩ := hv
  have hx := B.exec
  have hb := B.bytes
  have hr := B.returns
  have hts : ∀ w ∈ T0, w.before _ s = true := fun w h => atoms_spec (ws := Cond.code yX6_tells cX6_tells 6 (some .int) :: T0) B.pre w (List.mem_cons_of_mem _ h)
  have hown : s.vm.findClass RX6 = some m.cls := findClass_of_methodNamed B.named
  have hlocks := B.notSynchronized
  have hS : va_S (fun q => q ∈ L) s.heap s.heap [] := va_S.rf
  have hfr : ∀ b, K b ∉ [1, 2, 5, 6, 24, 27, 28, 29, 30, 31, 32, 34, 35, 37] → F b = F b := fun _ _ => rfl
  have hl := lv_entry ([.ref a0, .int x1]) (n := 6) (Nat.le_of_ble_eq_true rfl)
  rw [lg_entry_eq]
  generalize (lg_sl ([.ref a0, .int x1]) ++ List.replicate (6 - (lg_sl ([.ref a0, .int x1])).length) Slot.unset).toArray = ls at hl ⊢
  have hl : lv_has ls 6 [(0, .ref a0), (1, .int x1)] := hl
  have hI0 := hI
  refine s_gen hP hS (fun H locs hP hS => ?_)
  refine lv_aload_n hx hb dX6_tells_0 rfl (lv_at hl 0 rfl) ?_
  obtain ⟨z1, z3, z5, z7, z9, z11, z12, z14, z16, z18, z20, z22, z24, z26, o28, h2, h4, h6, h8, h10, h13, h15, h17, h19, h21, h23, h25, h27, -⟩ := s_op7 hI ha0
  refine th_get (D := (dC, dI)) (ci := 6) (v := .int z11) (C := RX6) (T := TX6) (N := 14) hx hb hts inX6 hown hK hP (hLK _ ha0 (by decide)) o28 rfl 5 (by decide) (hts _ T_224) (fun _ h9 => h9) rfl dX6_tells_1 ?_
  refine lv_if_eq (tgt := 16) hx hb dX6_tells_4 (by decide) (fun c29 => ?_) (fun c29 => ?_)
  · have c29 := (ax_eq (n := 0) (by decide)).mp c29
    refine lv_iconst (v := (-1)) hx hb dX6_tells_16 (by decide) ?_
    exact W.iret (v := (-1)) hx hb hr (fun t ht hW => ⟨⟨(-1), F, rfl, ⟨(by decide), trivial, (s_mono (by omega) hI), hfr⟩, by rw [ht]; exact hP, va_K.moved hW.alike hK⟩, hS.F ht⟩) hS.2.2 dX6_tells_17
  · have c29 := mt (ax_eq (n := 0) (by decide)).mpr c29
    refine lv_iload_n hx hb dX6_tells_7 rfl (lv_at hl 1 rfl) ?_
    refine lv_if_lt (tgt := 16) hx hb dX6_tells_8 (by decide) (fun c30 => ?_) (fun c30 => ?_)
    · have c30 := (ax_lt (n := 0) (by decide)).mp c30
      refine lv_iconst (v := (-1)) hx hb dX6_tells_16 (by decide) ?_
      exact W.iret (v := (-1)) hx hb hr (fun t ht hW => ⟨⟨(-1), F, rfl, ⟨(by decide), trivial, (s_mono (by omega) hI), hfr⟩, by rw [ht]; exact hP, va_K.moved hW.alike hK⟩, hS.F ht⟩) hS.2.2 dX6_tells_17
    · have c30 := mt (ax_lt (n := 0) (by decide)).mpr c30
      refine lv_iload_n hx hb dX6_tells_11 rfl (lv_at hl 1 rfl) ?_
      refine lv_iconst (v := 1) hx hb dX6_tells_12 (by decide) ?_
      refine lv_icmp_le (tgt := 18) hx hb dX6_tells_13 (by decide) (fun c31 => ?_) (fun c31 => ?_)
      · have c31 := (ax_le (n := 1) (by decide)).mp c31
        refine lv_aload_n hx hb dX6_tells_18 rfl (lv_at hl 0 rfl) ?_
        refine th_get (D := (dC, dI)) (ci := 6) (v := .ref z22) (C := RX6) (T := TX6) (N := 14) hx hb hts inX6 hown hK hP (hLK _ ha0 (by decide)) o28 rfl 11 (by decide) (hts _ T_182) (fun _ h9 => h9) rfl dX6_tells_19 ?_
        refine lv_aload_n hx hb dX6_tells_22 rfl (lv_at hl 0 rfl) ?_
        refine th_get (D := (dC, dI)) (ci := 6) (v := .ref z12) (C := RX6) (T := TX6) (N := 14) hx hb hts inX6 hown hK hP (hLK _ ha0 (by decide)) o28 rfl 6 (by decide) (hts _ T_174) (fun _ h9 => h9) rfl dX6_tells_23 ?_
        obtain ⟨z32, z34, z36, z38, z40, z42, z44, z46, z48, z50, z52, z54, z55, z57, z58, o60, h33, h35, h37, h39, h41, h43, h45, h47, h49, h51, h53, h56, h59, -⟩ := s_op5 hI h13
        refine th_getN (D := (dC, dI)) (ci := 4) (v := .int z48) (C := RX4) (T := TX4) (N := 15) hx hb hts inX4 hown hK hP (hLK _ h13 (by decide)) o60 rfl 8 (by decide) (va_Nw.use rfl (ax_n52 hN)) (fun _ h9 => h9) rfl dX6_tells_26 ?_
        refine lv_aload_n hx hb dX6_tells_29 rfl (lv_at hl 0 rfl) ?_
        refine th_get (D := (dC, dI)) (ci := 6) (v := .ref z12) (C := RX6) (T := TX6) (N := 14) hx hb hts inX6 hown hK hP (hLK _ ha0 (by decide)) o28 rfl 6 (by decide) (hts _ T_174) (fun _ h9 => h9) rfl dX6_tells_30 ?_
        refine th_getN (D := (dC, dI)) (ci := 4) (v := .int z50) (C := RX4) (T := TX4) (N := 15) hx hb hts inX4 hown hK hP (hLK _ h13 (by decide)) o60 rfl 9 (by decide) (va_Nw.use rfl (ax_n53 hN)) (fun _ h9 => h9) rfl dX6_tells_33 ?_
        refine lv_aload_n hx hb dX6_tells_36 rfl (lv_at hl 0 rfl) ?_
        refine th_get (D := (dC, dI)) (ci := 6) (v := .ref z12) (C := RX6) (T := TX6) (N := 14) hx hb hts inX6 hown hK hP (hLK _ ha0 (by decide)) o28 rfl 6 (by decide) (hts _ T_174) (fun _ h9 => h9) rfl dX6_tells_37 ?_
        refine th_getN (D := (dC, dI)) (ci := 4) (v := .int z52) (C := RX4) (T := TX4) (N := 15) hx hb hts inX4 hown hK hP (hLK _ h13 (by decide)) o60 rfl 10 (by decide) (va_Nw.use rfl (ax_n54 hN)) (fun _ h9 => h9) rfl dX6_tells_40 ?_
        obtain ⟨z61, z63, z65, z67, z69, z71, z72, z74, z75, z77, z78, z80, z82, z84, o87, h62, h64, h66, h68, h70, h73, h76, h79, h81, h83, h85, h86, -⟩ := s_op1 hI h23
        refine va_callv (va_runV (As := [.int z48, .int z50, .int z52]) (rest := []) ⟨hx, hb, hml, hown, hts⟩ (s_X0_tryBy l dC dI H.size hLK D F z22 z48 z50 z52 h23 (⟨by omega, by omega⟩) (⟨by omega, by omega⟩) (⟨by omega, by omega⟩) hI) (cwV 3 hts (ax_gV T_890 T_892 T_893 T_180 T_891) rfl rfl rfl (by decide +kernel) ⟨Nat.le_of_ble_eq_true rfl, Nat.le_of_ble_eq_true rfl⟩) ⟨fun a U g mk q => ⟨q.1, s_pc (U := U) rfl rfl q.2⟩, s_recv hK hP (hLK _ h23 (by decide)) (ci := 0) rfl o87, fun U hU hW => ⟨rfl, s_pw hU hW hP hK hD hN⟩⟩ rfl rfl hl.1 rfl (lv_room (Nat.le_of_ble_eq_true rfl)) dX6_tells_43 ⟨Nat.zero_le _, Nat.zero_le _⟩) hS (fun q _ h => h) (fun q h => h) (fun F88 t H1 locs ht hvm hw hB hz1 hk1 hS => ?_)
        obtain ⟨hP, hK1⟩ := hB
        rw [ht] at hP
        generalize H1 = H at hP hS ⊢
        clear hz1 hk1
        obtain ⟨h89, h90, hI, hfr1⟩ := hw
        have o91 : F88 a0 = .inr (6, [.ref z1, .int z3, .ref z5, .ref z7, .ref z9, .int z11, .ref z12, .ref z14, .int z16, .int z18, .ref z20, .ref z22, .ref z24, .long z26]) := (hfr1 _ (by rw [ha0]; decide)).trans o28
        have o92 : F88 z12 = .inr (4, [.ref z32, .ref z34, .ref z36, .ref z38, .ref z40, .ref z42, .ref z44, .int z46, .int z48, .int z50, .int z52, .int z54, .int z55, .int z57, .int z58]) := (hfr1 _ (by rw [h13]; decide)).trans o60
        have hfr : ∀ b, K b ∉ [1, 2, 5, 6, 24, 27, 28, 29, 30, 31, 32, 34, 35, 37] → F88 b = F b := fun b hb9 => (hfr1 b (fun q => hb9 (s_sub (by decide) q))).trans (hfr b hb9)
        refine lv_iconst (v := (-1)) hx hb dX6_tells_46 (by decide) ?_
        refine lv_istore_n (lv' := [(2, .int (-1)), (0, .ref a0), (1, .int x1)]) hx hb dX6_tells_47 rfl hl (by decide) rfl (fun ls hl => ?_)
        refine lv_iconst (v := 0) hx hb dX6_tells_48 (by decide) ?_
        refine lv_istore_n (lv' := [(3, .int 0), (2, .int (-1)), (0, .ref a0), (1, .int x1)]) hx hb dX6_tells_49 rfl hl (by decide) rfl (fun ls hl => ?_)
        refine lv_iconst (v := 0) hx hb dX6_tells_50 (by decide) ?_
        refine lv_istore (lv' := [(4, .int 0), (3, .int 0), (2, .int (-1)), (0, .ref a0), (1, .int x1)]) hx hb dX6_tells_51 hl (by decide) rfl (fun ls hl => ?_)
        refine th_loop (fun n g H locs => ∃ (G : Nat → va_E) (ls : Array Slot) (Dn : Nat) (w93 : Int32) (w94 : Int32) (w95 : Int32), g = F0 m 53 ls [] ∧ lv_has ls 6 [(0, .ref a0), (1, .int x1), (2, .int w93), (3, .int w94), (4, .int w95)] ∧ Dn + 6817 * n + 0 ≤ Dm ∧ s_I K cs Dn G ∧ va_P (dC, dI) vwCl (va_pl L G) H ∧ va_S (fun q => q ∈ L) s.heap H locs ∧ (∀ b, K b ∉ [1, 2, 5, 6, 24, 27, 28, 29, 30, 31, 32, 34, 35, 37] → G b = F b) ∧ (-1 ≤ w93.toInt ∧ w93.toInt ≤ 7) ∧ (0 ≤ w94.toInt ∧ w94.toInt ≤ 2147483647) ∧ (0 ≤ w95.toInt ∧ w95.toInt ≤ 8) ∧ (0 ≤ x1.toInt ∧ x1.toInt ≤ 1) ∧ n = (9 - w95.toInt).toNat) _ ⟨F88, _, D, (-1), 0, 0, rfl, lv_sub hl [3, 4, 2, 1, 0] rfl, by have q7a : ((-1) : Int32).toInt = (-1) := (by decide); have q7b : (0 : Int32).toInt = 0 := (by decide); omega, hI, hP, hS, hfr, (by decide), (by decide), (by decide), ⟨by omega, by omega⟩, rfl⟩ (fun n ih53 g H locs hq => ?_)
        obtain ⟨F9, ls, D100, w93, w94, w95, rfl, hl, h101, hI, hP, hS, hfr, h96, h97, h98, h99, hn⟩ := hq
        have hn_53 := hn
        obtain ⟨n_53, hn9_53⟩ : ∃ q, q = n := ⟨_, rfl⟩
        refine th_join (fun g H locs => ∃ (G : Nat → va_E) (ls : Array Slot) (Dn : Nat) (w102 : Int32) (w103 : Int32), g = F0 m 92 ls [] ∧ lv_has ls 6 [(0, .ref a0), (1, .int x1), (2, .int w102), (3, .int w103), (4, .int w95)] ∧ Dn + 0 + 6817 * (n_53 - 1) + 0 ≤ Dm ∧ s_I K cs Dn G ∧ va_P (dC, dI) vwCl (va_pl L G) H ∧ va_S (fun q => q ∈ L) s.heap H locs ∧ (∀ b, K b ∉ [1, 2, 5, 6, 24, 27, 28, 29, 30, 31, 32, 34, 35, 37] → G b = F b) ∧ (-1 ≤ w102.toInt ∧ w102.toInt ≤ 7) ∧ (0 ≤ w103.toInt ∧ w103.toInt ≤ 2147483647) ∧ (0 ≤ x1.toInt ∧ x1.toInt ≤ 1) ∧ (0 ≤ w95.toInt ∧ w95.toInt ≤ 7)) (fun K92 => ?_) ?_
        · refine lv_iload hx hb dX6_tells_53 (lv_at hl 4 rfl) ?_
          refine lv_bipush (v := 8) hx hb dX6_tells_55 (by decide) ?_
          refine lv_icmp_ge (tgt := 98) hx hb dX6_tells_57 (by decide) (fun c104 => ?_) (fun c104 => ?_)
          · have c104 := (ax_ge (n := 8) (by decide)).mp c104
            refine lv_iload_n hx hb dX6_tells_98 rfl (lv_at hl 1 rfl) ?_
            refine lv_if_ne (tgt := 106) hx hb dX6_tells_99 (by decide) (fun c105 => ?_) (fun c105 => ?_)
            · have c105 := mt (ax_eq (n := 0) (by decide)).mpr c105
              refine lv_iload_n hx hb dX6_tells_106 rfl (lv_at hl 3 rfl) ?_
              exact W.iret (v := w94) hx hb hr (fun t ht hW => ⟨⟨w94, F9, rfl, ⟨⟨by omega, by have q9 := th_hi w94; omega⟩, trivial, (s_mono (by omega) hI), hfr⟩, by rw [ht]; exact hP, va_K.moved hW.alike hK⟩, hS.F ht⟩) hS.2.2 dX6_tells_107
            · have c105 := (ax_eq (n := 0) (by decide)).mp c105
              refine lv_iload_n hx hb dX6_tells_102 rfl (lv_at hl 2 rfl) ?_
              refine lv_goto (tgt := 107) hx hb dX6_tells_103 (by decide) ?_
              exact W.iret (v := w93) hx hb hr (fun t ht hW => ⟨⟨w93, F9, rfl, ⟨⟨by omega, by have q9 := th_hi w93; omega⟩, trivial, (s_mono (by omega) hI), hfr⟩, by rw [ht]; exact hP, va_K.moved hW.alike hK⟩, hS.F ht⟩) hS.2.2 dX6_tells_107
          · have c104 := mt (ax_ge (n := 8) (by decide)).mpr c104
            refine lv_aload_n hx hb dX6_tells_60 rfl (lv_at hl 0 rfl) ?_
            obtain ⟨z106, z108, z110, z112, z114, z116, z117, z119, z121, z123, z125, z127, z129, z131, o133, h107, h109, h111, h113, h115, h118, h120, h122, h124, h126, h128, h130, h132, -⟩ := s_op7 hI ha0
            refine th_get (D := (dC, dI)) (ci := 6) (v := .ref z127) (C := RX6) (T := TX6) (N := 14) hx hb hts inX6 hown hK hP (hLK _ ha0 (by decide)) o133 rfl 11 (by decide) (hts _ T_182) (fun _ h9 => h9) rfl dX6_tells_61 ?_
            refine lv_iload hx hb dX6_tells_64 (lv_at hl 4 rfl) ?_
            obtain ⟨z134, z136, z138, z140, z142, z144, z145, z147, z148, z150, z151, z153, z155, z157, o160, h135, h137, h139, h141, h143, h146, h149, h152, h154, h156, h158, h159, -⟩ := s_op1 hI h128
            refine va_callv (va_runV (As := [.int w95]) (rest := []) ⟨hx, hb, hml, hown, hts⟩ (s_X0_tryWord l dC dI H.size hLK D100 (D100 + 6817) (Nat.le_refl _) (by omega) F9 z127 w95 h128 (⟨by omega, by omega⟩) hI (s_PGt hI0 hfr (by decide) hPG)) (cwV 1 hts (ax_gV T_964 T_966 T_967 T_180 T_965) rfl rfl rfl (by decide +kernel) ⟨Nat.le_of_ble_eq_true rfl, Nat.le_of_ble_eq_true rfl⟩) ⟨fun a U g mk q => ⟨q.1, s_pc (U := U) rfl rfl q.2⟩, s_recv hK hP (hLK _ h128 (by decide)) (ci := 0) rfl o160, fun U hU hW => ⟨rfl, s_pw hU hW hP hK hD hN⟩⟩ rfl rfl hl.1 rfl (lv_room (Nat.le_of_ble_eq_true rfl)) dX6_tells_66 ⟨Nat.zero_le _, Nat.zero_le _⟩) hS (fun q _ h => h) (fun q h => h) (fun F161 t H1 locs ht hvm hw hB hz1 hk1 hS => ?_)
            obtain ⟨hP, hK1⟩ := hB
            rw [ht] at hP
            generalize H1 = H at hP hS ⊢
            clear hz1 hk1
            obtain ⟨h162, h163, hI, hfr1⟩ := hw
            have o164 : F161 a0 = .inr (6, [.ref z106, .int z108, .ref z110, .ref z112, .ref z114, .int z116, .ref z117, .ref z119, .int z121, .int z123, .ref z125, .ref z127, .ref z129, .long z131]) := (hfr1 _ (by rw [ha0]; decide)).trans o133
            have hfr : ∀ b, K b ∉ [1, 2, 5, 6, 24, 27, 28, 29, 30, 31, 32, 34, 35, 37] → F161 b = F b := fun b hb9 => (hfr1 b (fun q => hb9 (s_sub (by decide) q))).trans (hfr b hb9)
            refine lv_aload_n hx hb dX6_tells_69 rfl (lv_at hl 0 rfl) ?_
            refine th_get (D := (dC, dI)) (ci := 6) (v := .ref z127) (C := RX6) (T := TX6) (N := 14) hx hb hts inX6 hown hK hP (hLK _ ha0 (by decide)) o164 rfl 11 (by decide) (hts _ T_182) (fun _ h9 => h9) rfl dX6_tells_70 ?_
            refine lv_iload hx hb dX6_tells_73 (lv_at hl 4 rfl) ?_
            obtain ⟨z165, z167, z169, z171, z173, z175, z176, z178, z179, z181, z182, z184, z186, z188, o191, h166, h168, h170, h172, h174, h177, h180, h183, h185, h187, h189, h190, -⟩ := s_op1 hI h128
            refine va_calli (va_runV (As := [.int w95]) (rest := []) ⟨hx, hb, hml, hown, hts⟩ (s_X0_unlike l dC dI H.size hLK (D100 + 6817) F161 z127 w95 h128 (⟨by omega, by omega⟩) hI) (cwV 1 hts (ax_gV T_976 T_978 T_979 T_180 T_977) rfl rfl rfl (by decide +kernel) ⟨Nat.le_of_ble_eq_true rfl, Nat.le_of_ble_eq_true rfl⟩) ⟨fun a U g mk q => ⟨q.1, s_pc (U := U) rfl rfl q.2⟩, s_recv hK hP (hLK _ h128 (by decide)) (ci := 0) rfl o191, fun U hU hW => ⟨rfl, s_pw hU hW hP hK hD hN⟩⟩ rfl rfl hl.1 rfl (lv_room (Nat.le_of_ble_eq_true rfl)) dX6_tells_75 ⟨Nat.zero_le _, Nat.zero_le _⟩) hS (fun q _ h => h) (fun q h => h) (fun r192 F193 t H1 locs ht hvm hw hB hz1 hk1 hS => ?_)
            obtain ⟨hP, hK1⟩ := hB
            rw [ht] at hP
            generalize H1 = H at hP hS ⊢
            clear hz1 hk1
            obtain ⟨h194, h195, hI, hfr1⟩ := hw
            have o196 : F193 a0 = .inr (6, [.ref z106, .int z108, .ref z110, .ref z112, .ref z114, .int z116, .ref z117, .ref z119, .int z121, .int z123, .ref z125, .ref z127, .ref z129, .long z131]) := (hfr1 _ (by rw [ha0]; decide)).trans o164
            have o197 : F193 z127 = .inr (0, [.ref z165, .ref z167, .ref z169, .ref z171, .ref z173, .int z175, .ref z176, .long z178, .ref z179, .int z181, .ref z182, .int z184, .int z186, .int z188]) := (hfr1 _ (by rw [h128]; decide)).trans o191
            have hfr : ∀ b, K b ∉ [1, 2, 5, 6, 24, 27, 28, 29, 30, 31, 32, 34, 35, 37] → F193 b = F b := fun b hb9 => (hfr1 b (fun q => hb9 (s_sub (by decide) q))).trans (hfr b hb9)
            refine lv_istore (lv' := [(5, .int r192), (0, .ref a0), (1, .int x1), (2, .int w93), (3, .int w94), (4, .int w95)]) hx hb dX6_tells_78 hl (by decide) rfl (fun ls hl => ?_)
            refine lv_iload hx hb dX6_tells_80 (lv_at hl 0 rfl) ?_
            refine lv_iload_n hx hb dX6_tells_82 rfl (lv_at hl 4 rfl) ?_
            refine lv_icmp_le (tgt := 92) hx hb dX6_tells_83 (by decide) (fun c198 => ?_) (fun c198 => ?_)
            · have c198 := Int32.le_iff_toInt_le.mp c198
              exact K92 _ _ _ ⟨F193, _, (D100 + 6817), w93, w94, rfl, lv_sub hl [1, 2, 3, 4, 5] rfl, by omega, hI, hP, hS, hfr, ⟨by omega, by omega⟩, ⟨by omega, by have q9 := th_hi w94; omega⟩, ⟨by omega, by omega⟩, ⟨by omega, by omega⟩⟩
            · have c198 := mt Int32.le_iff_toInt_le.mpr c198
              refine lv_iload hx hb dX6_tells_86 (lv_at hl 5 rfl) ?_
              refine lv_istore_n (lv' := [(2, .int w95), (5, .int r192), (0, .ref a0), (1, .int x1), (3, .int w94), (4, .int w95)]) hx hb dX6_tells_88 rfl hl (by decide) rfl (fun ls hl => ?_)
              refine lv_iload hx hb dX6_tells_89 (lv_at hl 1 rfl) ?_
              refine lv_istore_n (lv' := [(3, .int r192), (2, .int w95), (5, .int r192), (0, .ref a0), (1, .int x1), (4, .int w95)]) hx hb dX6_tells_91 rfl hl (by decide) rfl (fun ls hl => ?_)
              exact K92 _ _ _ ⟨F193, _, (D100 + 6817), w95, r192, rfl, lv_sub hl [3, 4, 1, 0, 5] rfl, by omega, hI, hP, hS, hfr, ⟨by omega, by omega⟩, ⟨by omega, by have q9 := th_hi r192; omega⟩, ⟨by omega, by omega⟩, ⟨by omega, by omega⟩⟩
        · intro g H locs hq
          obtain ⟨F9, ls, D203, w102, w103, rfl, hl, h204, hI, hP, hS, hfr, h199, h200, h201, h202⟩ := hq
          obtain ⟨v205, ev205⟩ : ∃ y : Int32, w95 + 1 = y := ⟨_, rfl⟩
          have qv205 : v205.toInt = w95.toInt + 1 := by rw [← ev205]; exact th_add rfl (by decide) ⟨by omega, by omega⟩
          refine lv_iinc (v := v205) (lv' := [(4, .int v205), (0, .ref a0), (1, .int x1), (2, .int w102), (3, .int w103)]) hx hb dX6_tells_92 hl (k := 4) rfl ev205 (by decide) rfl (fun ls hl => ?_)
          refine lv_goto (tgt := 53) hx hb dX6_tells_95 (by decide) ?_
          exact ih53 _ _ _ _ (by omega) ⟨F9, _, D203, w102, w103, v205, rfl, lv_sub hl [1, 2, 3, 4, 0] rfl, by omega, hI, hP, hS, hfr, ⟨by omega, by omega⟩, ⟨by omega, by have q9 := th_hi w103; omega⟩, ⟨by omega, by omega⟩, ⟨by omega, by omega⟩, rfl⟩
      · have c31 := mt (ax_le (n := 1) (by decide)).mpr c31
        refine lv_iconst (v := (-1)) hx hb dX6_tells_16 (by decide) ?_
        exact W.iret (v := (-1)) hx hb hr (fun t ht hW => ⟨⟨(-1), F, rfl, ⟨(by decide), trivial, (s_mono (by omega) hI), hfr⟩, by rw [ht]; exact hP, va_K.moved hW.alike hK⟩, hS.F ht⟩) hS.2.2 dX6_tells_17

set_option maxHeartbeats 4000000 in
set_option maxRecDepth 100000 in
theorem s_X6_keepForUndo (l : Launch) (dC : Nat → ClassId) (dI : Nat → Nat → Nat) (sz : Nat) {L : List Nat} {K : Nat → Nat} {cs : Nat → ClassId} (hLK : ∀ a {k : Nat}, K a = k → k ≠ 0 → a ∈ L) (D : Nat) (F : Nat → va_E) (a0 : Nat) (ha0 : K a0 = 7) (hI : s_I K cs D F) : Met l yX6_keepForUndo (Cond.code yX6_keepForUndo cX6_keepForUndo 1 none :: T0) ({ frames := 3, cells := 0, slots := 0, locals := 103 }) (va_Pc [.ref a0] (s_W dC dI sz L F [(cs 0, .int), (cs 1, .byte), (cs 2, .long), (cs 3, .object RX5), (cs 4, .object RX4), (cs 5, .array .int), (cs 6, .char), (cs 7, .boolean)])) (va_Qv (fun (G : Nat → va_E) => True ∧ True ∧ s_I K cs D G ∧ ∀ b, K b ∉ [1, 5, 6, 7, 24, 27, 28, 29, 30, 31, 32] → G b = F b) (fun (G : Nat → va_E) (t : State) => va_P (dC, dI) vwCl (va_pl L G) t.heap ∧ va_K (dC, dI) vwCl [(cs 0, .int), (cs 1, .byte), (cs 2, .long), (cs 3, .object RX5), (cs 4, .object RX4), (cs 5, .array .int), (cs 6, .char), (cs 7, .boolean)] t) (fun q => q ∈ L)) 0 0 (fun q => q ∈ L) := by
  refine Met.ofW (cc := cX6_keepForUndo) (maxL := 1) (ret := none) (by decide) rfl ?_
  intro p e s m args below meth c s₁ B hml hv
  obtain ⟨rfl, hsz, hP, hK, hD, hN⟩ := hv
  have hx := B.exec
  have hb := B.bytes
  have hr := B.returns
  have hts : ∀ w ∈ T0, w.before _ s = true := fun w h => atoms_spec (ws := Cond.code yX6_keepForUndo cX6_keepForUndo 1 none :: T0) B.pre w (List.mem_cons_of_mem _ h)
  have hown : s.vm.findClass RX6 = some m.cls := findClass_of_methodNamed B.named
  have hlocks := B.notSynchronized
  have hS : va_S (fun q => q ∈ L) s.heap s.heap [] := va_S.rf
  have hfr : ∀ b, K b ∉ [1, 5, 6, 7, 24, 27, 28, 29, 30, 31, 32] → F b = F b := fun _ _ => rfl
  have hl := lv_entry ([.ref a0]) (n := 1) (Nat.le_of_ble_eq_true rfl)
  rw [lg_entry_eq]
  generalize (lg_sl ([.ref a0]) ++ List.replicate (1 - (lg_sl ([.ref a0])).length) Slot.unset).toArray = ls at hl ⊢
  have hl : lv_has ls 1 [(0, .ref a0)] := hl
  refine s_gen hP hS (fun H locs hP hS => ?_)
  refine th_join (fun g H locs => ∃ (G : Nat → va_E) (ls : Array Slot), g = F0 m 35 ls [] ∧ lv_has ls 1 [(0, .ref a0)] ∧ s_I K cs D G ∧ va_P (dC, dI) vwCl (va_pl L G) H ∧ va_S (fun q => q ∈ L) s.heap H locs ∧ (∀ b, K b ∉ [1, 5, 6, 7, 24, 27, 28, 29, 30, 31, 32] → G b = F b) ∧ (∀ vs z, G a0 = .inr (6, vs) → vs[9]? = some (.int z) → 1 ≤ z.toInt)) (fun K35 => ?_) ?_
  · refine lv_aload_n hx hb dX6_keepForUndo_0 rfl (lv_at hl 0 rfl) ?_
    obtain ⟨z1, z3, z5, z7, z9, z11, z12, z14, z16, z18, z20, z22, z24, z26, o28, h2, h4, h6, h8, h10, h13, h15, h17, h19, h21, h23, h25, h27, -⟩ := s_op7 hI ha0
    refine th_get (D := (dC, dI)) (ci := 6) (v := .int z18) (C := RX6) (T := TX6) (N := 14) hx hb hts inX6 hown hK hP (hLK _ ha0 (by decide)) o28 rfl 9 (by decide) (hts _ T_238) (fun _ h9 => h9) rfl dX6_keepForUndo_1 ?_
    refine lv_bipush (v := 20) hx hb dX6_keepForUndo_4 (by decide) ?_
    refine lv_icmp_ne (tgt := 25) hx hb dX6_keepForUndo_6 (by decide) (fun c29 => ?_) (fun c29 => ?_)
    · have c29 := mt (ax_eq (n := 20) (by decide)).mpr c29
      refine lv_aload_n hx hb dX6_keepForUndo_25 rfl (lv_at hl 0 rfl) ?_
      refine lv_dup hx hb dX6_keepForUndo_26 rfl ?_
      refine th_get (D := (dC, dI)) (ci := 6) (v := .int z18) (C := RX6) (T := TX6) (N := 14) hx hb hts inX6 hown hK hP (hLK _ ha0 (by decide)) o28 rfl 9 (by decide) (hts _ T_238) (fun _ h9 => h9) rfl dX6_keepForUndo_27 ?_
      refine lv_iconst (v := 1) hx hb dX6_keepForUndo_30 (by decide) ?_
      refine lv_iadd hx hb dX6_keepForUndo_31 ?_
      refine lv_topi (fun v30 ev30 => ?_)
      have qv30 : v30.toInt = z18.toInt + 1 := by rw [ev30]; exact th_add rfl (by decide) ⟨by omega, by omega⟩
      refine th_put (D := (dC, dI)) (ci := 6) (v := .int v30) (ty := .int) (C := RX6) (T := TX6) (N := 14) hx hb hts inX6 tyX6 tyX6_ok nmX6 hown hK hP hD hS (hLK _ ha0 (by decide)) o28 rfl 9 (by decide) (hts _ T_238) (fun _ h9 => h9) rfl (by decide +kernel) rfl rfl (Nat.le_of_ble_eq_true rfl) dX6_keepForUndo_32 (fun H locs hP hS => ?_)
      have hP : va_P (dC, dI) vwCl (va_pl L (va_up F a0 (.inr (6, [.ref z1, .int z3, .ref z5, .ref z7, .ref z9, .int z11, .ref z12, .ref z14, .int z16, .int v30, .ref z20, .ref z22, .ref z24, .long z26])))) H := hP
      obtain ⟨F31, hF32⟩ : ∃ G : Nat → va_E, G = va_up F a0 (.inr (6, [.ref z1, .int z3, .ref z5, .ref z7, .ref z9, .int z11, .ref z12, .ref z14, .int z16, .int v30, .ref z20, .ref z22, .ref z24, .long z26])) := ⟨_, rfl⟩
      rw [← hF32] at hP
      have hI : s_I K cs D F31 := by rw [hF32]; exact s_cl7 hI ha0 ⟨z1, z3, z5, z7, z9, z11, z12, z14, z16, v30, z20, z22, z24, z26, rfl, h2, ⟨by omega, by omega⟩, h6, h8, h10, h13, h15, ⟨by omega, by omega⟩, ⟨by omega, by omega⟩, h21, h23, h25, h27, trivial⟩
      have hfr : ∀ b, K b ∉ [1, 5, 6, 7, 24, 27, 28, 29, 30, 31, 32] → F31 b = F b := by rw [hF32]; exact s_fr hfr ha0 (by decide)
      have o33 : F31 a0 = .inr (6, [.ref z1, .int z3, .ref z5, .ref z7, .ref z9, .int z11, .ref z12, .ref z14, .int z16, .int v30, .ref z20, .ref z22, .ref z24, .long z26]) := by rw [hF32]; exact th_up
      exact K35 _ _ _ ⟨F31, _, rfl, lv_sub hl [0] rfl, hI, hP, hS, hfr, (fun vs z q q2 => by rw [o33] at q; cases q; cases q2; omega)⟩
    · have c29 := (ax_eq (n := 20) (by decide)).mp c29
      refine lv_aload_n hx hb dX6_keepForUndo_9 rfl (lv_at hl 0 rfl) ?_
      refine lv_aload_n hx hb dX6_keepForUndo_10 rfl (lv_at hl 0 rfl) ?_
      refine th_get (D := (dC, dI)) (ci := 6) (v := .int z16) (C := RX6) (T := TX6) (N := 14) hx hb hts inX6 hown hK hP (hLK _ ha0 (by decide)) o28 rfl 8 (by decide) (hts _ T_950) (fun _ h9 => h9) rfl dX6_keepForUndo_11 ?_
      refine lv_iconst (v := 1) hx hb dX6_keepForUndo_14 (by decide) ?_
      refine lv_iadd hx hb dX6_keepForUndo_15 ?_
      refine lv_topi (fun v34 ev34 => ?_)
      have qv34 : v34.toInt = z16.toInt + 1 := by rw [ev34]; exact th_add rfl (by decide) ⟨by omega, by omega⟩
      refine lv_bipush (v := 20) hx hb dX6_keepForUndo_16 (by decide) ?_
      refine lv_irem hx hb dX6_keepForUndo_18 (by decide) ?_
      refine lv_topi (fun v35 ev35 => ?_)
      have qv35 : v35.toInt = v34.toInt % 20 := by rw [ev35]; exact th_rem rfl (by decide) (by omega) (by decide)
      refine th_put (D := (dC, dI)) (ci := 6) (v := .int v35) (ty := .int) (C := RX6) (T := TX6) (N := 14) hx hb hts inX6 tyX6 tyX6_ok nmX6 hown hK hP hD hS (hLK _ ha0 (by decide)) o28 rfl 8 (by decide) (hts _ T_950) (fun _ h9 => h9) rfl (by decide +kernel) rfl rfl (Nat.le_of_ble_eq_true rfl) dX6_keepForUndo_19 (fun H locs hP hS => ?_)
      have hP : va_P (dC, dI) vwCl (va_pl L (va_up F a0 (.inr (6, [.ref z1, .int z3, .ref z5, .ref z7, .ref z9, .int z11, .ref z12, .ref z14, .int v35, .int z18, .ref z20, .ref z22, .ref z24, .long z26])))) H := hP
      obtain ⟨F36, hF37⟩ : ∃ G : Nat → va_E, G = va_up F a0 (.inr (6, [.ref z1, .int z3, .ref z5, .ref z7, .ref z9, .int z11, .ref z12, .ref z14, .int v35, .int z18, .ref z20, .ref z22, .ref z24, .long z26])) := ⟨_, rfl⟩
      rw [← hF37] at hP
      have hI : s_I K cs D F36 := by rw [hF37]; exact s_cl7 hI ha0 ⟨z1, z3, z5, z7, z9, z11, z12, z14, v35, z18, z20, z22, z24, z26, rfl, h2, ⟨by omega, by omega⟩, h6, h8, h10, h13, h15, ⟨by omega, by omega⟩, ⟨by omega, by omega⟩, h21, h23, h25, h27, trivial⟩
      have hfr : ∀ b, K b ∉ [1, 5, 6, 7, 24, 27, 28, 29, 30, 31, 32] → F36 b = F b := by rw [hF37]; exact s_fr hfr ha0 (by decide)
      have o38 : F36 a0 = .inr (6, [.ref z1, .int z3, .ref z5, .ref z7, .ref z9, .int z11, .ref z12, .ref z14, .int v35, .int z18, .ref z20, .ref z22, .ref z24, .long z26]) := by rw [hF37]; exact th_up
      refine lv_goto (tgt := 35) hx hb dX6_keepForUndo_22 (by decide) ?_
      exact K35 _ _ _ ⟨F36, _, rfl, lv_sub hl [0] rfl, hI, hP, hS, hfr, (fun vs z q q2 => by rw [o38] at q; cases q; cases q2; omega)⟩
  · intro g H locs hq
    obtain ⟨F9, ls, rfl, hl, hI, hP, hS, hfr, h39⟩ := hq
    obtain ⟨z40, z42, z44, z46, z48, z50, z51, z53, z55, z57, z59, z61, z63, z65, o67, h41, h43, h45, h47, h49, h52, h54, h56, h58, h60, h62, h64, h66, -⟩ := s_op7 hI ha0
    have h39 := h39 _ _ o67 rfl
    refine lv_aload_n hx hb dX6_keepForUndo_35 rfl (lv_at hl 0 rfl) ?_
    refine th_get (D := (dC, dI)) (ci := 6) (v := .ref z53) (C := RX6) (T := TX6) (N := 14) hx hb hts inX6 hown hK hP (hLK _ ha0 (by decide)) o67 rfl 7 (by decide) (hts _ T_175) (fun _ h9 => h9) rfl dX6_keepForUndo_36 ?_
    refine lv_aload_n hx hb dX6_keepForUndo_39 rfl (lv_at hl 0 rfl) ?_
    refine th_get (D := (dC, dI)) (ci := 6) (v := .int z55) (C := RX6) (T := TX6) (N := 14) hx hb hts inX6 hown hK hP (hLK _ ha0 (by decide)) o67 rfl 8 (by decide) (hts _ T_950) (fun _ h9 => h9) rfl dX6_keepForUndo_40 ?_
    refine lv_aload_n hx hb dX6_keepForUndo_43 rfl (lv_at hl 0 rfl) ?_
    refine th_get (D := (dC, dI)) (ci := 6) (v := .int z57) (C := RX6) (T := TX6) (N := 14) hx hb hts inX6 hown hK hP (hLK _ ha0 (by decide)) o67 rfl 9 (by decide) (hts _ T_238) (fun _ h9 => h9) rfl dX6_keepForUndo_44 ?_
    refine lv_iadd hx hb dX6_keepForUndo_47 ?_
    refine lv_topi (fun v68 ev68 => ?_)
    have qv68 : v68.toInt = z55.toInt + z57.toInt := by rw [ev68]; exact th_add rfl rfl ⟨by omega, by omega⟩
    refine lv_iconst (v := 1) hx hb dX6_keepForUndo_48 (by decide) ?_
    refine lv_isub hx hb dX6_keepForUndo_49 ?_
    refine lv_topi (fun v69 ev69 => ?_)
    have qv69 : v69.toInt = v68.toInt - 1 := by rw [ev69]; exact th_sub rfl (by decide) ⟨by omega, by omega⟩
    refine lv_bipush (v := 20) hx hb dX6_keepForUndo_50 (by decide) ?_
    refine lv_irem hx hb dX6_keepForUndo_52 (by decide) ?_
    refine lv_topi (fun v70 ev70 => ?_)
    have qv70 : v70.toInt = v69.toInt % 20 := by rw [ev70]; exact th_rem rfl (by decide) (by omega) (by decide)
    obtain ⟨f71, o72, h73⟩ := s_op33 hI h54
    obtain ⟨z74, o76, h75⟩ := h73 (v70 : Int32).toNatClampNeg (th_cl ⟨by omega, by omega⟩)
    refine th_aald hx hb hK hP (hLK _ h54 (by decide)) 4 o72 rfl (th_in ⟨by omega, by omega⟩) o76 dX6_keepForUndo_53 ?_
    refine lv_aload_n hx hb dX6_keepForUndo_54 rfl (lv_at hl 0 rfl) ?_
    refine th_get (D := (dC, dI)) (ci := 6) (v := .ref z51) (C := RX6) (T := TX6) (N := 14) hx hb hts inX6 hown hK hP (hLK _ ha0 (by decide)) o67 rfl 6 (by decide) (hts _ T_174) (fun _ h9 => h9) rfl dX6_keepForUndo_55 ?_
    obtain ⟨z77, z79, z81, z83, z85, z87, z89, z91, z93, z95, z97, z99, z100, z102, z103, o105, h78, h80, h82, h84, h86, h88, h90, h92, h94, h96, h98, h101, h104, -⟩ := s_op5 hI h75
    refine va_callv (va_runV (As := [.ref z51]) (rest := []) ⟨hx, hb, hml, hown, hts⟩ (s_X4_copyFrom l dC dI H.size hLK D F9 z74 z51 h75 h52 hI) (cwV 1 hts (ax_gV T_951 T_560 T_561 T_142 T_559) rfl rfl rfl (by decide +kernel) ⟨Nat.le_of_ble_eq_true rfl, Nat.le_of_ble_eq_true rfl⟩) ⟨fun a U g mk q => ⟨q.1, s_pc (U := U) rfl rfl q.2⟩, s_recv hK hP (hLK _ h75 (by decide)) (ci := 4) rfl o105, fun U hU hW => ⟨rfl, s_pw hU hW hP hK hD hN⟩⟩ rfl rfl hl.1 rfl (lv_room (Nat.le_of_ble_eq_true rfl)) dX6_keepForUndo_58 ⟨Nat.zero_le _, Nat.zero_le _⟩) hS (fun q _ h => h) (fun q h => h) (fun F106 t H1 locs ht hvm hw hB hz1 hk1 hS => ?_)
    obtain ⟨hP, hK1⟩ := hB
    rw [ht] at hP
    generalize H1 = H at hP hS ⊢
    clear hz1 hk1
    obtain ⟨h107, h108, hI, hfr1⟩ := hw
    have o109 : F106 a0 = .inr (6, [.ref z40, .int z42, .ref z44, .ref z46, .ref z48, .int z50, .ref z51, .ref z53, .int z55, .int z57, .ref z59, .ref z61, .ref z63, .long z65]) := (hfr1 _ (by rw [ha0]; decide)).trans o67
    have hfr : ∀ b, K b ∉ [1, 5, 6, 7, 24, 27, 28, 29, 30, 31, 32] → F106 b = F b := fun b hb9 => (hfr1 b (fun q => hb9 (s_sub (by decide) q))).trans (hfr b hb9)
    refine lv_aload_n hx hb dX6_keepForUndo_61 rfl (lv_at hl 0 rfl) ?_
    refine th_get (D := (dC, dI)) (ci := 6) (v := .ref z61) (C := RX6) (T := TX6) (N := 14) hx hb hts inX6 hown hK hP (hLK _ ha0 (by decide)) o109 rfl 11 (by decide) (hts _ T_182) (fun _ h9 => h9) rfl dX6_keepForUndo_62 ?_
    obtain ⟨z110, z112, z114, z116, z118, z120, z121, z123, z124, z126, z127, z129, z131, z133, o136, h111, h113, h115, h117, h119, h122, h125, h128, h130, h132, h134, h135, -⟩ := s_op1 hI h62
    refine va_callv (va_runV (As := []) (rest := []) ⟨hx, hb, hml, hown, hts⟩ (s_X0_forgetAhead l dC dI H.size hLK D F106 z61 h62 hI) (cwV 0 hts (ax_gV T_952 T_954 T_955 T_180 T_953) rfl rfl rfl (by decide +kernel) ⟨Nat.le_of_ble_eq_true rfl, Nat.le_of_ble_eq_true rfl⟩) ⟨fun a U g mk q => ⟨q.1, s_pc (U := U) rfl rfl q.2⟩, s_recv hK hP (hLK _ h62 (by decide)) (ci := 0) rfl o136, fun U hU hW => ⟨rfl, s_pw hU hW hP hK hD hN⟩⟩ rfl rfl hl.1 rfl (lv_room (Nat.le_of_ble_eq_true rfl)) dX6_keepForUndo_65 ⟨Nat.zero_le _, Nat.zero_le _⟩) hS (fun q _ h => h) (fun q h => h) (fun F137 t H1 locs ht hvm hw hB hz1 hk1 hS => ?_)
    obtain ⟨hP, hK1⟩ := hB
    rw [ht] at hP
    generalize H1 = H at hP hS ⊢
    clear hz1 hk1
    obtain ⟨h138, h139, hI, hfr1⟩ := hw
    have o140 : F137 a0 = .inr (6, [.ref z40, .int z42, .ref z44, .ref z46, .ref z48, .int z50, .ref z51, .ref z53, .int z55, .int z57, .ref z59, .ref z61, .ref z63, .long z65]) := (hfr1 _ (by rw [ha0]; decide)).trans o109
    have hfr : ∀ b, K b ∉ [1, 5, 6, 7, 24, 27, 28, 29, 30, 31, 32] → F137 b = F b := fun b hb9 => (hfr1 b (fun q => hb9 (s_sub (by decide) q))).trans (hfr b hb9)
    exact W.vret hx hb hr (fun t ht hW => ⟨⟨F137, rfl, ⟨trivial, trivial, hI, hfr⟩, by rw [ht]; exact hP, va_K.moved hW.alike hK⟩, hS.F ht⟩) hS.2.2 dX6_keepForUndo_68

set_option maxHeartbeats 4000000 in
set_option maxRecDepth 100000 in
theorem s_X6_run (l : Launch) (dC : Nat → ClassId) (dI : Nat → Nat → Nat) (sz : Nat) {L : List Nat} {K : Nat → Nat} {cs : Nat → ClassId} (hLK : ∀ a {k : Nat}, K a = k → k ≠ 0 → a ∈ L) (D : Nat) (Dm : Nat) (hDm : D + 401 ≤ Dm) (hDM : Dm < 2147483647) (F : Nat → va_E) (a0 : Nat) (x1 : Int32) (ha0 : K a0 = 7) (hx1 : -2147483648 ≤ x1.toInt ∧ x1.toInt ≤ 400) (hI : s_I K cs D F) (hPG : s_PG K cs F) : Met l yX6_run (Cond.code yX6_run cX6_run 4 (some .int) :: T0) ({ frames := 5, cells := 0, slots := 0, locals := 114 }) (va_Pc [.ref a0, .int x1] (s_W dC dI sz L F [(cs 0, .int), (cs 1, .byte), (cs 2, .long), (cs 3, .object RX5), (cs 4, .object RX4), (cs 5, .array .int), (cs 6, .char), (cs 7, .boolean)])) (va_Qi (fun (r : Int32) (G : Nat → va_E) => True ∧ True ∧ s_I K cs Dm G ∧ ∀ b, K b ∉ [2, 5, 6, 24, 27, 28, 29, 30, 31, 32, 34, 35] → G b = F b) (fun (G : Nat → va_E) (t : State) => va_P (dC, dI) vwCl (va_pl L G) t.heap ∧ va_K (dC, dI) vwCl [(cs 0, .int), (cs 1, .byte), (cs 2, .long), (cs 3, .object RX5), (cs 4, .object RX4), (cs 5, .array .int), (cs 6, .char), (cs 7, .boolean)] t) (fun q => q ∈ L)) 0 0 (fun q => q ∈ L) := by
  refine Met.ofW (cc := cX6_run) (maxL := 4) (ret := (some .int)) (by decide) rfl ?_
  intro p e s m args below meth c s₁ B hml hv
  obtain ⟨rfl, hsz, hP, hK, hD, hN⟩ := hv
  have hx := B.exec
  have hb := B.bytes
  have hr := B.returns
  have hts : ∀ w ∈ T0, w.before _ s = true := fun w h => atoms_spec (ws := Cond.code yX6_run cX6_run 4 (some .int) :: T0) B.pre w (List.mem_cons_of_mem _ h)
  have hown : s.vm.findClass RX6 = some m.cls := findClass_of_methodNamed B.named
  have hlocks := B.notSynchronized
  have hS : va_S (fun q => q ∈ L) s.heap s.heap [] := va_S.rf
  have hfr : ∀ b, K b ∉ [2, 5, 6, 24, 27, 28, 29, 30, 31, 32, 34, 35] → F b = F b := fun _ _ => rfl
  have hl := lv_entry ([.ref a0, .int x1]) (n := 4) (Nat.le_of_ble_eq_true rfl)
  rw [lg_entry_eq]
  generalize (lg_sl ([.ref a0, .int x1]) ++ List.replicate (4 - (lg_sl ([.ref a0, .int x1])).length) Slot.unset).toArray = ls at hl ⊢
  have hl : lv_has ls 4 [(0, .ref a0), (1, .int x1)] := hl
  have hI0 := hI
  refine s_gen hP hS (fun H locs hP hS => ?_)
  refine lv_iconst (v := 0) hx hb dX6_run_0 (by decide) ?_
  refine lv_istore_n (lv' := [(2, .int 0), (0, .ref a0), (1, .int x1)]) hx hb dX6_run_1 rfl hl (by decide) rfl (fun ls hl => ?_)
  refine lv_iconst (v := 0) hx hb dX6_run_2 (by decide) ?_
  refine lv_istore_n (lv' := [(3, .int 0), (2, .int 0), (0, .ref a0), (1, .int x1)]) hx hb dX6_run_3 rfl hl (by decide) rfl (fun ls hl => ?_)
  refine th_loop (fun n g H locs => ∃ (G : Nat → va_E) (ls : Array Slot) (Dn : Nat) (w1 : Int32) (w2 : Int32), g = F0 m 4 ls [] ∧ lv_has ls 4 [(0, .ref a0), (1, .int x1), (2, .int w1), (3, .int w2)] ∧ Dn + 1 * n + 0 ≤ Dm ∧ s_I K cs Dn G ∧ va_P (dC, dI) vwCl (va_pl L G) H ∧ va_S (fun q => q ∈ L) s.heap H locs ∧ (∀ b, K b ∉ [2, 5, 6, 24, 27, 28, 29, 30, 31, 32, 34, 35] → G b = F b) ∧ True ∧ (0 ≤ w2.toInt ∧ w2.toInt ≤ 400) ∧ (-2147483648 ≤ x1.toInt ∧ x1.toInt ≤ 400) ∧ n = (401 - w2.toInt).toNat) _ ⟨F, _, D, 0, 0, rfl, lv_sub hl [2, 3, 1, 0] rfl, by have q7a : (0 : Int32).toInt = 0 := (by decide); omega, hI, hP, hS, hfr, trivial, (by decide), ⟨th_lo x1, by omega⟩, rfl⟩ (fun n ih4 g H locs hq => ?_)
  obtain ⟨F9, ls, D6, w1, w2, rfl, hl, h7, hI, hP, hS, hfr, h3, h4, h5, hn⟩ := hq
  have hn_4 := hn
  obtain ⟨n_4, hn9_4⟩ : ∃ q, q = n := ⟨_, rfl⟩
  refine th_join (fun g H locs => ∃ (G : Nat → va_E) (ls : Array Slot) (Dn : Nat) (w8 : Int32), g = F0 m 26 ls [] ∧ lv_has ls 4 [(0, .ref a0), (1, .int x1), (2, .int w8), (3, .int w2)] ∧ Dn + 0 + 1 * (n_4 - 1) + 0 ≤ Dm ∧ s_I K cs Dn G ∧ va_P (dC, dI) vwCl (va_pl L G) H ∧ va_S (fun q => q ∈ L) s.heap H locs ∧ (∀ b, K b ∉ [2, 5, 6, 24, 27, 28, 29, 30, 31, 32, 34, 35] → G b = F b) ∧ True ∧ (1 ≤ x1.toInt ∧ x1.toInt ≤ 400) ∧ (0 ≤ w2.toInt ∧ w2.toInt ≤ 399)) (fun K26 => ?_) ?_
  · refine lv_iload_n hx hb dX6_run_4 rfl (lv_at hl 3 rfl) ?_
    refine lv_iload_n hx hb dX6_run_5 rfl (lv_at hl 1 rfl) ?_
    refine lv_icmp_ge (tgt := 32) hx hb dX6_run_6 (by decide) (fun c9 => ?_) (fun c9 => ?_)
    · have c9 := Int32.le_iff_toInt_le.mp c9
      refine lv_iload_n hx hb dX6_run_32 rfl (lv_at hl 2 rfl) ?_
      exact W.iret (v := w1) hx hb hr (fun t ht hW => ⟨⟨w1, F9, rfl, ⟨trivial, trivial, (s_mono (by omega) hI), hfr⟩, by rw [ht]; exact hP, va_K.moved hW.alike hK⟩, hS.F ht⟩) hS.2.2 dX6_run_33
    · have c9 := mt Int32.le_iff_toInt_le.mpr c9
      refine lv_aload_n hx hb dX6_run_9 rfl (lv_at hl 0 rfl) ?_
      obtain ⟨z10, z12, z14, z16, z18, z20, z21, z23, z25, z27, z29, z31, z33, z35, o37, h11, h13, h15, h17, h19, h22, h24, h26, h28, h30, h32, h34, h36, -⟩ := s_op7 hI ha0
      refine th_get (D := (dC, dI)) (ci := 6) (v := .ref z29) (C := RX6) (T := TX6) (N := 14) hx hb hts inX6 hown hK hP (hLK _ ha0 (by decide)) o37 rfl 10 (by decide) (hts _ T_177) (fun _ h9 => h9) rfl dX6_run_10 ?_
      refine lv_aload_n hx hb dX6_run_13 rfl (lv_at hl 0 rfl) ?_
      refine th_get (D := (dC, dI)) (ci := 6) (v := .ref z21) (C := RX6) (T := TX6) (N := 14) hx hb hts inX6 hown hK hP (hLK _ ha0 (by decide)) o37 rfl 6 (by decide) (hts _ T_174) (fun _ h9 => h9) rfl dX6_run_14 ?_
      obtain ⟨z38, z40, z42, z44, z46, z48, z49, z51, z52, z53, z55, z56, o57, h39, h41, h43, h45, h47, h50, h54, -⟩ := s_op2 hI h30
      refine va_calli (va_runV (As := [.ref z21]) (rest := []) ⟨hx, hb, hml, hown, hts⟩ (s_X1_step l dC dI H.size hLK D6 (D6 + 1) (Nat.le_refl _) (by omega) F9 z29 z21 h30 h22 hI (s_PGt hI0 hfr (by decide) hPG)) (cwV 1 hts (ax_gV T_975 T_564 T_565 T_137 T_563) rfl rfl rfl (by decide +kernel) ⟨Nat.le_of_ble_eq_true rfl, Nat.le_of_ble_eq_true rfl⟩) ⟨fun a U g mk q => ⟨q.1, s_pc (U := U) rfl rfl q.2⟩, s_recv hK hP (hLK _ h30 (by decide)) (ci := 1) rfl o57, fun U hU hW => ⟨rfl, s_pw hU hW hP hK hD hN⟩⟩ rfl rfl hl.1 rfl (lv_room (Nat.le_of_ble_eq_true rfl)) dX6_run_17 ⟨Nat.zero_le _, Nat.zero_le _⟩) hS (fun q _ h => h) (fun q h => h) (fun r58 F59 t H1 locs ht hvm hw hB hz1 hk1 hS => ?_)
      obtain ⟨hP, hK1⟩ := hB
      rw [ht] at hP
      generalize H1 = H at hP hS ⊢
      clear hz1 hk1
      obtain ⟨h60, h61, hI, hfr1⟩ := hw
      have o62 : F59 a0 = .inr (6, [.ref z10, .int z12, .ref z14, .ref z16, .ref z18, .int z20, .ref z21, .ref z23, .int z25, .int z27, .ref z29, .ref z31, .ref z33, .long z35]) := (hfr1 _ (by rw [ha0]; decide)).trans o37
      have hfr : ∀ b, K b ∉ [2, 5, 6, 24, 27, 28, 29, 30, 31, 32, 34, 35] → F59 b = F b := fun b hb9 => (hfr1 b (fun q => hb9 (s_sub (by decide) q))).trans (hfr b hb9)
      refine lv_if_eq (tgt := 26) hx hb dX6_run_20 (by decide) (fun c63 => ?_) (fun c63 => ?_)
      · have c63 := (ax_eq (n := 0) (by decide)).mp c63
        exact K26 _ _ _ ⟨F59, _, (D6 + 1), w1, rfl, lv_sub hl [0, 1, 2, 3] rfl, by omega, hI, hP, hS, hfr, trivial, ⟨by omega, by omega⟩, ⟨by omega, by omega⟩⟩
      · have c63 := mt (ax_eq (n := 0) (by decide)).mpr c63
        obtain ⟨v64, ev64⟩ : ∃ y : Int32, w1 + 1 = y := ⟨_, rfl⟩
        refine lv_iinc (v := v64) (lv' := [(2, .int v64), (0, .ref a0), (1, .int x1), (3, .int w2)]) hx hb dX6_run_23 hl (k := 2) rfl ev64 (by decide) rfl (fun ls hl => ?_)
        exact K26 _ _ _ ⟨F59, _, (D6 + 1), v64, rfl, lv_sub hl [1, 2, 0, 3] rfl, by omega, hI, hP, hS, hfr, trivial, ⟨by omega, by omega⟩, ⟨by omega, by omega⟩⟩
  · intro g H locs hq
    obtain ⟨F9, ls, D68, w8, rfl, hl, h69, hI, hP, hS, hfr, h65, h66, h67⟩ := hq
    obtain ⟨v70, ev70⟩ : ∃ y : Int32, w2 + 1 = y := ⟨_, rfl⟩
    have qv70 : v70.toInt = w2.toInt + 1 := by rw [← ev70]; exact th_add rfl (by decide) ⟨by omega, by omega⟩
    refine lv_iinc (v := v70) (lv' := [(3, .int v70), (0, .ref a0), (1, .int x1), (2, .int w8)]) hx hb dX6_run_26 hl (k := 3) rfl ev70 (by decide) rfl (fun ls hl => ?_)
    refine lv_goto (tgt := 4) hx hb dX6_run_29 (by decide) ?_
    exact ih4 _ _ _ _ (by omega) ⟨F9, _, D68, w8, v70, rfl, lv_sub hl [1, 2, 3, 0] rfl, by omega, hI, hP, hS, hfr, trivial, ⟨by omega, by omega⟩, ⟨th_lo x1, by omega⟩, rfl⟩

set_option maxHeartbeats 4000000 in
set_option maxRecDepth 100000 in
theorem s_X6_draw (l : Launch) (dC : Nat → ClassId) (dI : Nat → Nat → Nat) (sz : Nat) {L : List Nat} {K : Nat → Nat} {cs : Nat → ClassId} (hLK : ∀ a {k : Nat}, K a = k → k ≠ 0 → a ∈ L) (D : Nat) (F : Nat → va_E) (a0 : Nat) (x1 : Int32) (ha0 : K a0 = 7) (hx1 : 1 ≤ x1.toInt ∧ x1.toInt ≤ 64) (hI : s_I K cs D F) : Met l yX6_draw (Cond.code yX6_draw cX6_draw 2 (some .int) :: T0) ({ frames := 0, cells := 0, slots := 0, locals := 0 }) (va_Pc [.ref a0, .int x1] (s_W dC dI sz L F [(cs 0, .int), (cs 1, .byte), (cs 2, .long), (cs 3, .object RX5), (cs 4, .object RX4), (cs 5, .array .int), (cs 6, .char), (cs 7, .boolean)])) (va_Qi (fun (r : Int32) (G : Nat → va_E) => (0 ≤ r.toInt ∧ r.toInt ≤ 63) ∧ (True ∧ (0 ≤ r.toInt ∧ r.toInt < x1.toInt)) ∧ s_I K cs D G ∧ ∀ b, K b ∉ [7] → G b = F b) (fun (G : Nat → va_E) (t : State) => va_P (dC, dI) vwCl (va_pl L G) t.heap ∧ va_K (dC, dI) vwCl [(cs 0, .int), (cs 1, .byte), (cs 2, .long), (cs 3, .object RX5), (cs 4, .object RX4), (cs 5, .array .int), (cs 6, .char), (cs 7, .boolean)] t) (fun q => q ∈ L)) 0 0 (fun q => q ∈ L) := by
  refine Met.ofW (cc := cX6_draw) (maxL := 2) (ret := (some .int)) (by decide) rfl ?_
  intro p e s m args below meth c s₁ B hml hv
  obtain ⟨rfl, hsz, hP, hK, hD, hN⟩ := hv
  have hx := B.exec
  have hb := B.bytes
  have hr := B.returns
  have hts : ∀ w ∈ T0, w.before _ s = true := fun w h => atoms_spec (ws := Cond.code yX6_draw cX6_draw 2 (some .int) :: T0) B.pre w (List.mem_cons_of_mem _ h)
  have hown : s.vm.findClass RX6 = some m.cls := findClass_of_methodNamed B.named
  have hlocks := B.notSynchronized
  have hS : va_S (fun q => q ∈ L) s.heap s.heap [] := va_S.rf
  have hfr : ∀ b, K b ∉ [7] → F b = F b := fun _ _ => rfl
  have hl := lv_entry ([.ref a0, .int x1]) (n := 2) (Nat.le_of_ble_eq_true rfl)
  rw [lg_entry_eq]
  generalize (lg_sl ([.ref a0, .int x1]) ++ List.replicate (2 - (lg_sl ([.ref a0, .int x1])).length) Slot.unset).toArray = ls at hl ⊢
  have hl : lv_has ls 2 [(0, .ref a0), (1, .int x1)] := hl
  refine s_gen hP hS (fun H locs hP hS => ?_)
  refine lv_aload_n hx hb dX6_draw_0 rfl (lv_at hl 0 rfl) ?_
  refine lv_ldc2 hx hb hown (hts _ T_933) dX6_draw_1 ?_
  refine lv_aload_n hx hb dX6_draw_4 rfl (lv_at hl 0 rfl) ?_
  obtain ⟨z1, z3, z5, z7, z9, z11, z12, z14, z16, z18, z20, z22, z24, z26, o28, h2, h4, h6, h8, h10, h13, h15, h17, h19, h21, h23, h25, h27, -⟩ := s_op7 hI ha0
  refine th_get (D := (dC, dI)) (ci := 6) (v := .long z26) (C := RX6) (T := TX6) (N := 14) hx hb hts inX6 hown hK hP (hLK _ ha0 (by decide)) o28 rfl 13 (by decide) (hts _ T_184) (fun _ h9 => h9) rfl dX6_draw_5 ?_
  refine lv_lmul hx hb dX6_draw_8 ?_
  refine lv_topl (fun v29 ev29 => ?_)
  refine lv_ldc2 hx hb hown (hts _ T_934) dX6_draw_9 ?_
  refine lv_ladd hx hb dX6_draw_12 ?_
  refine lv_topl (fun v30 ev30 => ?_)
  refine lv_ldc2 hx hb hown (hts _ T_935) dX6_draw_13 ?_
  refine lv_land hx hb dX6_draw_16 ?_
  refine lv_topl (fun v31 ev31 => ?_)
  refine th_put (D := (dC, dI)) (ci := 6) (v := .long v31) (ty := .long) (C := RX6) (T := TX6) (N := 14) hx hb hts inX6 tyX6 tyX6_ok nmX6 hown hK hP hD hS (hLK _ ha0 (by decide)) o28 rfl 13 (by decide) (hts _ T_184) (fun _ h9 => h9) rfl (by decide +kernel) rfl rfl (Nat.le_of_ble_eq_true rfl) dX6_draw_17 (fun H locs hP hS => ?_)
  have hP : va_P (dC, dI) vwCl (va_pl L (va_up F a0 (.inr (6, [.ref z1, .int z3, .ref z5, .ref z7, .ref z9, .int z11, .ref z12, .ref z14, .int z16, .int z18, .ref z20, .ref z22, .ref z24, .long v31])))) H := hP
  obtain ⟨F32, hF33⟩ : ∃ G : Nat → va_E, G = va_up F a0 (.inr (6, [.ref z1, .int z3, .ref z5, .ref z7, .ref z9, .int z11, .ref z12, .ref z14, .int z16, .int z18, .ref z20, .ref z22, .ref z24, .long v31])) := ⟨_, rfl⟩
  rw [← hF33] at hP
  have hI : s_I K cs D F32 := by rw [hF33]; exact s_cl7 hI ha0 ⟨z1, z3, z5, z7, z9, z11, z12, z14, z16, z18, z20, z22, z24, v31, rfl, h2, ⟨by omega, by omega⟩, h6, h8, h10, h13, h15, ⟨by omega, by omega⟩, ⟨by omega, by omega⟩, h21, h23, h25, h27, trivial⟩
  have hfr : ∀ b, K b ∉ [7] → F32 b = F b := by rw [hF33]; exact s_fr hfr ha0 (by decide)
  have o34 : F32 a0 = .inr (6, [.ref z1, .int z3, .ref z5, .ref z7, .ref z9, .int z11, .ref z12, .ref z14, .int z16, .int z18, .ref z20, .ref z22, .ref z24, .long v31]) := by rw [hF33]; exact th_up
  refine lv_aload_n hx hb dX6_draw_20 rfl (lv_at hl 0 rfl) ?_
  refine th_get (D := (dC, dI)) (ci := 6) (v := .long v31) (C := RX6) (T := TX6) (N := 14) hx hb hts inX6 hown hK hP (hLK _ ha0 (by decide)) o34 rfl 13 (by decide) (hts _ T_184) (fun _ h9 => h9) rfl dX6_draw_21 ?_
  refine lv_ldc2 hx hb hown (hts _ T_936) dX6_draw_24 ?_
  refine lv_ldiv hx hb dX6_draw_27 (by decide) ?_
  refine lv_topl (fun v35 ev35 => ?_)
  refine lv_iload_n hx hb dX6_draw_28 rfl (lv_at hl 1 rfl) ?_
  refine lv_i2l hx hb dX6_draw_29 rfl ?_
  refine lv_topl (fun v36 ev36 => ?_)
  refine lv_lrem hx hb dX6_draw_30 (by rw [ev36]; exact th_nzL (by omega)) ?_
  refine lv_topl (fun v37 ev37 => ?_)
  refine lv_l2i hx hb dX6_draw_31 rfl ?_
  refine lv_topi (fun v38 ev38 => ?_)
  have qv38 : 0 ≤ v38.toInt ∧ v38.toInt < x1.toInt := by rw [ev38, ev37, ev36, ev35, ev31]; exact th_draw (by omega)
  exact W.iret (v := v38) hx hb hr (fun t ht hW => ⟨⟨v38, F32, rfl, ⟨⟨by omega, by omega⟩, ⟨trivial, ⟨by omega, by omega⟩⟩, hI, hfr⟩, by rw [ht]; exact hP, va_K.moved hW.alike hK⟩, hS.F ht⟩) hS.2.2 dX6_draw_32

set_option maxHeartbeats 4000000 in
set_option maxRecDepth 100000 in
theorem s_X6_cycles (l : Launch) (dC : Nat → ClassId) (dI : Nat → Nat → Nat) (sz : Nat) {L : List Nat} {K : Nat → Nat} {cs : Nat → ClassId} (hLK : ∀ a {k : Nat}, K a = k → k ≠ 0 → a ∈ L) (D : Nat) (Dm : Nat) (hDm : D + 401 ≤ Dm) (hDM : Dm < 2147483647) (F : Nat → va_E) (a0 : Nat) (x1 : Int32) (ha0 : K a0 = 7) (hI : s_I K cs D F) (hPG : s_PG K cs F) : Met l yX6_cycles (Cond.code yX6_cycles cX6_cycles 2 (some .int) :: T0) ({ frames := 6, cells := 0, slots := 0, locals := 137 }) (va_Pc [.ref a0, .int x1] (s_W dC dI sz L F [(cs 0, .int), (cs 1, .byte), (cs 2, .long), (cs 3, .object RX5), (cs 4, .object RX4), (cs 5, .array .int), (cs 6, .char), (cs 7, .boolean)])) (va_Qi (fun (r : Int32) (G : Nat → va_E) => True ∧ True ∧ s_I K cs Dm G ∧ ∀ b, K b ∉ [1, 2, 5, 6, 7, 24, 27, 28, 29, 30, 31, 32, 34, 35, 39] → G b = F b) (fun (G : Nat → va_E) (t : State) => va_P (dC, dI) vwCl (va_pl L G) t.heap ∧ va_K (dC, dI) vwCl [(cs 0, .int), (cs 1, .byte), (cs 2, .long), (cs 3, .object RX5), (cs 4, .object RX4), (cs 5, .array .int), (cs 6, .char), (cs 7, .boolean)] t) (fun q => q ∈ L)) 0 0 (fun q => q ∈ L) := by
  refine Met.ofW (cc := cX6_cycles) (maxL := 2) (ret := (some .int)) (by decide) rfl ?_
  intro p e s m args below meth c s₁ B hml hv
  obtain ⟨rfl, hsz, hP, hK, hD, hN⟩ := hv
  have hx := B.exec
  have hb := B.bytes
  have hr := B.returns
  have hts : ∀ w ∈ T0, w.before _ s = true := fun w h => atoms_spec (ws := Cond.code yX6_cycles cX6_cycles 2 (some .int) :: T0) B.pre w (List.mem_cons_of_mem _ h)
  have hown : s.vm.findClass RX6 = some m.cls := findClass_of_methodNamed B.named
  have hlocks := B.notSynchronized
  have hS : va_S (fun q => q ∈ L) s.heap s.heap [] := va_S.rf
  have hfr : ∀ b, K b ∉ [1, 2, 5, 6, 7, 24, 27, 28, 29, 30, 31, 32, 34, 35, 39] → F b = F b := fun _ _ => rfl
  have hl := lv_entry ([.ref a0, .int x1]) (n := 2) (Nat.le_of_ble_eq_true rfl)
  rw [lg_entry_eq]
  generalize (lg_sl ([.ref a0, .int x1]) ++ List.replicate (2 - (lg_sl ([.ref a0, .int x1])).length) Slot.unset).toArray = ls at hl ⊢
  have hl : lv_has ls 2 [(0, .ref a0), (1, .int x1)] := hl
  have hI0 := hI
  refine s_gen hP hS (fun H locs hP hS => ?_)
  refine th_join (fun g H locs => ∃ (G : Nat → va_E) (ls : Array Slot) (Dn : Nat), g = F0 m 34 ls [] ∧ lv_has ls 2 [(0, .ref a0)] ∧ Dn + 0 ≤ Dm ∧ s_I K cs Dn G ∧ va_P (dC, dI) vwCl (va_pl L G) H ∧ va_S (fun q => q ∈ L) s.heap H locs ∧ (∀ b, K b ∉ [1, 2, 5, 6, 7, 24, 27, 28, 29, 30, 31, 32, 34, 35, 39] → G b = F b)) (fun K34 => ?_) ?_
  · refine lv_aload_n hx hb dX6_cycles_0 rfl (lv_at hl 0 rfl) ?_
    obtain ⟨z1, z3, z5, z7, z9, z11, z12, z14, z16, z18, z20, z22, z24, z26, o28, h2, h4, h6, h8, h10, h13, h15, h17, h19, h21, h23, h25, h27, -⟩ := s_op7 hI ha0
    refine th_get (D := (dC, dI)) (ci := 6) (v := .int z11) (C := RX6) (T := TX6) (N := 14) hx hb hts inX6 hown hK hP (hLK _ ha0 (by decide)) o28 rfl 5 (by decide) (hts _ T_224) (fun _ h9 => h9) rfl dX6_cycles_1 ?_
    refine lv_if_eq (tgt := 34) hx hb dX6_cycles_4 (by decide) (fun c29 => ?_) (fun c29 => ?_)
    · have c29 := (ax_eq (n := 0) (by decide)).mp c29
      exact K34 _ _ _ ⟨F, _, D, rfl, lv_sub hl [0] rfl, by omega, hI, hP, hS, hfr⟩
    · have c29 := mt (ax_eq (n := 0) (by decide)).mpr c29
      refine lv_iload_n hx hb dX6_cycles_7 rfl (lv_at hl 1 rfl) ?_
      refine lv_iconst (v := 1) hx hb dX6_cycles_8 (by decide) ?_
      refine lv_icmp_lt (tgt := 34) hx hb dX6_cycles_9 (by decide) (fun c30 => ?_) (fun c30 => ?_)
      · have c30 := (ax_lt (n := 1) (by decide)).mp c30
        exact K34 _ _ _ ⟨F, _, D, rfl, lv_sub hl [0] rfl, by omega, hI, hP, hS, hfr⟩
      · have c30 := mt (ax_lt (n := 1) (by decide)).mpr c30
        refine lv_iload_n hx hb dX6_cycles_12 rfl (lv_at hl 1 rfl) ?_
        refine lv_sipush (v := 400) hx hb dX6_cycles_13 (by decide) ?_
        refine lv_icmp_gt (tgt := 34) hx hb dX6_cycles_16 (by decide) (fun c31 => ?_) (fun c31 => ?_)
        · have c31 := (ax_gt (n := 400) (by decide)).mp c31
          exact K34 _ _ _ ⟨F, _, D, rfl, lv_sub hl [0] rfl, by omega, hI, hP, hS, hfr⟩
        · have c31 := mt (ax_gt (n := 400) (by decide)).mpr c31
          refine lv_aload_n hx hb dX6_cycles_19 rfl (lv_at hl 0 rfl) ?_
          refine th_get (D := (dC, dI)) (ci := 6) (v := .ref z12) (C := RX6) (T := TX6) (N := 14) hx hb hts inX6 hown hK hP (hLK _ ha0 (by decide)) o28 rfl 6 (by decide) (hts _ T_174) (fun _ h9 => h9) rfl dX6_cycles_20 ?_
          obtain ⟨z32, z34, z36, z38, z40, z42, z44, z46, z48, z50, z52, z54, z55, z57, z58, o60, h33, h35, h37, h39, h41, h43, h45, h47, h49, h51, h53, h56, h59, -⟩ := s_op5 hI h13
          refine th_getN (D := (dC, dI)) (ci := 4) (v := .int z54) (C := RX4) (T := TX4) (N := 15) hx hb hts inX4 hown hK hP (hLK _ h13 (by decide)) o60 rfl 11 (by decide) (va_Nw.use rfl (ax_n59 hN)) (fun _ h9 => h9) rfl dX6_cycles_23 ?_
          refine lv_iload_n hx hb dX6_cycles_26 rfl (lv_at hl 1 rfl) ?_
          refine lv_iadd hx hb dX6_cycles_27 ?_
          refine lv_topi (fun v61 ev61 => ?_)
          refine lv_sipush (v := 9999) hx hb dX6_cycles_28 (by decide) ?_
          refine lv_icmp_le (tgt := 40) hx hb dX6_cycles_31 (by decide) (fun c62 => ?_) (fun c62 => ?_)
          · have c62 := (ax_le (n := 9999) (by decide)).mp c62
            refine lv_aload_n hx hb dX6_cycles_40 rfl (lv_at hl 0 rfl) ?_
            refine va_callv (va_runV (As := []) (rest := []) ⟨hx, hb, hml, hown, hts⟩ (s_X6_keepForUndo l dC dI H.size hLK D F a0 ha0 hI) (cwV 0 hts (ax_gV T_906 T_908 T_909 T_193 T_907) rfl rfl rfl (by decide +kernel) ⟨Nat.le_of_ble_eq_true rfl, Nat.le_of_ble_eq_true rfl⟩) ⟨fun a U g mk q => ⟨q.1, s_pc (U := U) rfl rfl q.2⟩, s_recv hK hP (hLK _ ha0 (by decide)) (ci := 6) rfl o28, fun U hU hW => ⟨rfl, s_pw hU hW hP hK hD hN⟩⟩ rfl rfl hl.1 rfl (lv_room (Nat.le_of_ble_eq_true rfl)) dX6_cycles_41 ⟨Nat.zero_le _, Nat.zero_le _⟩) hS (fun q _ h => h) (fun q h => h) (fun F63 t H1 locs ht hvm hw hB hz1 hk1 hS => ?_)
            obtain ⟨hP, hK1⟩ := hB
            rw [ht] at hP
            generalize H1 = H at hP hS ⊢
            clear hz1 hk1
            obtain ⟨h64, h65, hI, hfr1⟩ := hw
            have hfr : ∀ b, K b ∉ [1, 2, 5, 6, 7, 24, 27, 28, 29, 30, 31, 32, 34, 35, 39] → F63 b = F b := fun b hb9 => (hfr1 b (fun q => hb9 (s_sub (by decide) q))).trans (hfr b hb9)
            refine lv_aload_n hx hb dX6_cycles_44 rfl (lv_at hl 0 rfl) ?_
            refine lv_iload_n hx hb dX6_cycles_45 rfl (lv_at hl 1 rfl) ?_
            obtain ⟨z66, z68, z70, z72, z74, z76, z77, z79, z81, z83, z85, z87, z89, z91, o93, h67, h69, h71, h73, h75, h78, h80, h82, h84, h86, h88, h90, h92, -⟩ := s_op7 hI ha0
            refine va_calli (va_runV (As := [.int x1]) (rest := []) ⟨hx, hb, hml, hown, hts⟩ (s_X6_run l dC dI H.size hLK D (D + 401) (Nat.le_refl _) (by omega) F63 a0 x1 ha0 (⟨th_lo x1, by omega⟩) hI (s_PGt hI0 hfr (by decide) hPG)) (cwV 1 hts (ax_gV T_929 T_931 T_932 T_193 T_930) rfl rfl rfl (by decide +kernel) ⟨Nat.le_of_ble_eq_true rfl, Nat.le_of_ble_eq_true rfl⟩) ⟨fun a U g mk q => ⟨q.1, s_pc (U := U) rfl rfl q.2⟩, s_recv hK hP (hLK _ ha0 (by decide)) (ci := 6) rfl o93, fun U hU hW => ⟨rfl, s_pw hU hW hP hK hD hN⟩⟩ rfl rfl hl.1 rfl (lv_room (Nat.le_of_ble_eq_true rfl)) dX6_cycles_46 ⟨Nat.zero_le _, Nat.zero_le _⟩) hS (fun q _ h => h) (fun q h => h) (fun r94 F95 t H1 locs ht hvm hw hB hz1 hk1 hS => ?_)
            obtain ⟨hP, hK1⟩ := hB
            rw [ht] at hP
            generalize H1 = H at hP hS ⊢
            clear hz1 hk1
            obtain ⟨h96, h97, hI, hfr1⟩ := hw
            have o98 : F95 a0 = .inr (6, [.ref z66, .int z68, .ref z70, .ref z72, .ref z74, .int z76, .ref z77, .ref z79, .int z81, .int z83, .ref z85, .ref z87, .ref z89, .long z91]) := (hfr1 _ (by rw [ha0]; decide)).trans o93
            have hfr : ∀ b, K b ∉ [1, 2, 5, 6, 7, 24, 27, 28, 29, 30, 31, 32, 34, 35, 39] → F95 b = F b := fun b hb9 => (hfr1 b (fun q => hb9 (s_sub (by decide) q))).trans (hfr b hb9)
            exact W.iret (v := r94) hx hb hr (fun t ht hW => ⟨⟨r94, F95, rfl, ⟨trivial, trivial, (s_mono (by omega) hI), hfr⟩, by rw [ht]; exact hP, va_K.moved hW.alike hK⟩, hS.F ht⟩) hS.2.2 dX6_cycles_49
          · have c62 := mt (ax_le (n := 9999) (by decide)).mpr c62
            exact K34 _ _ _ ⟨F, _, D, rfl, lv_sub hl [0] rfl, by omega, hI, hP, hS, hfr⟩
  · intro g H locs hq
    obtain ⟨F9, ls, D99, rfl, hl, h100, hI, hP, hS, hfr⟩ := hq
    refine lv_aload_n hx hb dX6_cycles_34 rfl (lv_at hl 0 rfl) ?_
    refine lv_iconst (v := 2) hx hb dX6_cycles_35 (by decide) ?_
    obtain ⟨z101, z103, z105, z107, z109, z111, z112, z114, z116, z118, z120, z122, z124, z126, o128, h102, h104, h106, h108, h110, h113, h115, h117, h119, h121, h123, h125, h127, -⟩ := s_op7 hI ha0
    refine va_calli (va_runV (As := [.int 2]) (rest := []) ⟨hx, hb, hml, hown, hts⟩ (s_X6_refuse l dC dI H.size hLK D99 F9 a0 2 ha0 (by decide) hI) (cwV 1 hts (ax_gV T_194 T_195 T_196 T_193 T_10) rfl rfl rfl (by decide +kernel) ⟨Nat.le_of_ble_eq_true rfl, Nat.le_of_ble_eq_true rfl⟩) ⟨fun a U g mk q => ⟨q.1, s_pc (U := U) rfl rfl q.2⟩, s_recv hK hP (hLK _ ha0 (by decide)) (ci := 6) rfl o128, fun U hU hW => ⟨rfl, s_pw hU hW hP hK hD hN⟩⟩ rfl rfl hl.1 rfl (lv_room (Nat.le_of_ble_eq_true rfl)) dX6_cycles_36 ⟨Nat.zero_le _, Nat.zero_le _⟩) hS (fun q _ h => h) (fun q h => h) (fun r129 F130 t H1 locs ht hvm hw hB hz1 hk1 hS => ?_)
    obtain ⟨hP, hK1⟩ := hB
    rw [ht] at hP
    generalize H1 = H at hP hS ⊢
    clear hz1 hk1
    obtain ⟨h131, h132, hI, hfr1⟩ := hw
    have o133 : F130 a0 = .inr (6, [.ref z101, .int z103, .ref z105, .ref z107, .ref z109, .int z111, .ref z112, .ref z114, .int z116, .int z118, .ref z120, .ref z122, .ref z124, .long z126]) := (hfr1 _ (by rw [ha0]; decide)).trans o128
    have hfr : ∀ b, K b ∉ [1, 2, 5, 6, 7, 24, 27, 28, 29, 30, 31, 32, 34, 35, 39] → F130 b = F b := fun b hb9 => (hfr1 b (fun q => hb9 (s_sub (by decide) q))).trans (hfr b hb9)
    exact W.iret (v := r129) hx hb hr (fun t ht hW => ⟨⟨r129, F130, rfl, ⟨trivial, trivial, (s_mono (by omega) hI), hfr⟩, by rw [ht]; exact hP, va_K.moved hW.alike hK⟩, hS.F ht⟩) hS.2.2 dX6_cycles_39

set_option maxHeartbeats 4000000 in
set_option maxRecDepth 100000 in
theorem s_X6_poke (l : Launch) (dC : Nat → ClassId) (dI : Nat → Nat → Nat) (sz : Nat) {L : List Nat} {K : Nat → Nat} {cs : Nat → ClassId} (hLK : ∀ a {k : Nat}, K a = k → k ≠ 0 → a ∈ L) (D : Nat) (F : Nat → va_E) (a0 : Nat) (x1 : Int32) (x2 : Int32) (x3 : Int32) (ha0 : K a0 = 7) (hx1 : 0 ≤ x1.toInt ∧ x1.toInt ≤ 1) (hI : s_I K cs D F) : Met l yX6_poke (Cond.code yX6_poke cX6_poke 6 (some .int) :: T0) ({ frames := 4, cells := 0, slots := 0, locals := 123 }) (va_Pc [.ref a0, .int x1, .int x2, .int x3] (s_W dC dI sz L F [(cs 0, .int), (cs 1, .byte), (cs 2, .long), (cs 3, .object RX5), (cs 4, .object RX4), (cs 5, .array .int), (cs 6, .char), (cs 7, .boolean)])) (va_Qi (fun (r : Int32) (G : Nat → va_E) => True ∧ True ∧ s_I K cs D G ∧ ∀ b, K b ∉ [1, 5, 6, 7, 24, 27, 28, 29, 30, 31, 32, 39] → G b = F b) (fun (G : Nat → va_E) (t : State) => va_P (dC, dI) vwCl (va_pl L G) t.heap ∧ va_K (dC, dI) vwCl [(cs 0, .int), (cs 1, .byte), (cs 2, .long), (cs 3, .object RX5), (cs 4, .object RX4), (cs 5, .array .int), (cs 6, .char), (cs 7, .boolean)] t) (fun q => q ∈ L)) 0 0 (fun q => q ∈ L) := by
  refine Met.ofW (cc := cX6_poke) (maxL := 6) (ret := (some .int)) (by decide) rfl ?_
  intro p e s m args below meth c s₁ B hml hv
  obtain ⟨rfl, hsz, hP, hK, hD, hN⟩ := hv
  have hx := B.exec
  have hb := B.bytes
  have hr := B.returns
  have hts : ∀ w ∈ T0, w.before _ s = true := fun w h => atoms_spec (ws := Cond.code yX6_poke cX6_poke 6 (some .int) :: T0) B.pre w (List.mem_cons_of_mem _ h)
  have hown : s.vm.findClass RX6 = some m.cls := findClass_of_methodNamed B.named
  have hlocks := B.notSynchronized
  have hS : va_S (fun q => q ∈ L) s.heap s.heap [] := va_S.rf
  have hfr : ∀ b, K b ∉ [1, 5, 6, 7, 24, 27, 28, 29, 30, 31, 32, 39] → F b = F b := fun _ _ => rfl
  have hl := lv_entry ([.ref a0, .int x1, .int x2, .int x3]) (n := 6) (Nat.le_of_ble_eq_true rfl)
  rw [lg_entry_eq]
  generalize (lg_sl ([.ref a0, .int x1, .int x2, .int x3]) ++ List.replicate (6 - (lg_sl ([.ref a0, .int x1, .int x2, .int x3])).length) Slot.unset).toArray = ls at hl ⊢
  have hl : lv_has ls 6 [(0, .ref a0), (1, .int x1), (2, .int x2), (3, .int x3)] := hl
  refine s_gen hP hS (fun H locs hP hS => ?_)
  refine lv_aload_n hx hb dX6_poke_0 rfl (lv_at hl 0 rfl) ?_
  refine lv_iload_n hx hb dX6_poke_1 rfl (lv_at hl 1 rfl) ?_
  refine lv_iload_n hx hb dX6_poke_2 rfl (lv_at hl 2 rfl) ?_
  obtain ⟨z1, z3, z5, z7, z9, z11, z12, z14, z16, z18, z20, z22, z24, z26, o28, h2, h4, h6, h8, h10, h13, h15, h17, h19, h21, h23, h25, h27, -⟩ := s_op7 hI ha0
  refine va_calli (va_runV (As := [.int x1, .int x2]) (rest := []) ⟨hx, hb, hml, hown, hts⟩ (s_X6_hasWord l dC dI H.size hLK D F a0 x1 x2 ha0 (⟨by omega, by omega⟩) hI) (cwV 2 hts (ax_gV T_232 T_233 T_234 T_193 T_18) rfl rfl rfl (by decide +kernel) ⟨Nat.le_of_ble_eq_true rfl, Nat.le_of_ble_eq_true rfl⟩) ⟨fun a U g mk q => ⟨q.1, s_pc (U := U) rfl rfl q.2⟩, s_recv hK hP (hLK _ ha0 (by decide)) (ci := 6) rfl o28, fun U hU hW => ⟨rfl, s_pw hU hW hP hK hD hN⟩⟩ rfl rfl hl.1 rfl (lv_room (Nat.le_of_ble_eq_true rfl)) dX6_poke_3 ⟨Nat.zero_le _, Nat.zero_le _⟩) hS (fun q _ h => h) (fun q h => h) (fun r29 F30 t H1 locs ht hvm hw hB hz1 hk1 hS => ?_)
  obtain ⟨hP, hK1⟩ := hB
  rw [ht] at hP
  generalize H1 = H at hP hS ⊢
  clear hz1 hk1
  obtain ⟨h31, h32, hI, hfr1⟩ := hw
  have o33 : F30 a0 = .inr (6, [.ref z1, .int z3, .ref z5, .ref z7, .ref z9, .int z11, .ref z12, .ref z14, .int z16, .int z18, .ref z20, .ref z22, .ref z24, .long z26]) := (hfr1 _ (by rw [ha0]; decide)).trans o28
  have hfr : ∀ b, K b ∉ [1, 5, 6, 7, 24, 27, 28, 29, 30, 31, 32, 39] → F30 b = F b := fun b hb9 => (hfr1 b (fun q => hb9 (s_sub (by decide) q))).trans (hfr b hb9)
  obtain ⟨h32, h34⟩ := h32
  have h34 : (r29.toInt = 0 ∨ x1.toInt = 0 ∨ x2.toInt ≤ 31) := h34
  refine lv_if_eq (tgt := 23) hx hb dX6_poke_6 (by decide) (fun c35 => ?_) (fun c35 => ?_)
  · have c35 := (ax_eq (n := 0) (by decide)).mp c35
    refine lv_aload_n hx hb dX6_poke_23 rfl (lv_at hl 0 rfl) ?_
    refine lv_iconst (v := 3) hx hb dX6_poke_24 (by decide) ?_
    refine va_calli (va_runV (As := [.int 3]) (rest := []) ⟨hx, hb, hml, hown, hts⟩ (s_X6_refuse l dC dI H.size hLK D F30 a0 3 ha0 (by decide) hI) (cwV 1 hts (ax_gV T_194 T_195 T_196 T_193 T_10) rfl rfl rfl (by decide +kernel) ⟨Nat.le_of_ble_eq_true rfl, Nat.le_of_ble_eq_true rfl⟩) ⟨fun a U g mk q => ⟨q.1, s_pc (U := U) rfl rfl q.2⟩, s_recv hK hP (hLK _ ha0 (by decide)) (ci := 6) rfl o33, fun U hU hW => ⟨rfl, s_pw hU hW hP hK hD hN⟩⟩ rfl rfl hl.1 rfl (lv_room (Nat.le_of_ble_eq_true rfl)) dX6_poke_25 ⟨Nat.zero_le _, Nat.zero_le _⟩) hS (fun q _ h => h) (fun q h => h) (fun r36 F37 t H1 locs ht hvm hw hB hz1 hk1 hS => ?_)
    obtain ⟨hP, hK1⟩ := hB
    rw [ht] at hP
    generalize H1 = H at hP hS ⊢
    clear hz1 hk1
    obtain ⟨h38, h39, hI, hfr1⟩ := hw
    have o40 : F37 a0 = .inr (6, [.ref z1, .int z3, .ref z5, .ref z7, .ref z9, .int z11, .ref z12, .ref z14, .int z16, .int z18, .ref z20, .ref z22, .ref z24, .long z26]) := (hfr1 _ (by rw [ha0]; decide)).trans o33
    have hfr : ∀ b, K b ∉ [1, 5, 6, 7, 24, 27, 28, 29, 30, 31, 32, 39] → F37 b = F b := fun b hb9 => (hfr1 b (fun q => hb9 (s_sub (by decide) q))).trans (hfr b hb9)
    refine lv_pop hx hb dX6_poke_28 rfl ?_
    refine lv_ldc (v := (-1000000)) hx hb hown (hts _ T_228) dX6_poke_29 ?_
    exact W.iret (v := (-1000000)) hx hb hr (fun t ht hW => ⟨⟨(-1000000), F37, rfl, ⟨trivial, trivial, hI, hfr⟩, by rw [ht]; exact hP, va_K.moved hW.alike hK⟩, hS.F ht⟩) hS.2.2 dX6_poke_31
  · have c35 := mt (ax_eq (n := 0) (by decide)).mpr c35
    have h41 := h32 (fun q => c35 (by rw [q]; decide))
    refine lv_iload_n hx hb dX6_poke_9 rfl (lv_at hl 3 rfl) ?_
    refine lv_sipush (v := (-9999)) hx hb dX6_poke_10 (by decide) ?_
    refine lv_icmp_lt (tgt := 23) hx hb dX6_poke_13 (by decide) (fun c42 => ?_) (fun c42 => ?_)
    · have c42 := (ax_lt (n := (-9999)) (by decide)).mp c42
      refine lv_aload_n hx hb dX6_poke_23 rfl (lv_at hl 0 rfl) ?_
      refine lv_iconst (v := 3) hx hb dX6_poke_24 (by decide) ?_
      refine va_calli (va_runV (As := [.int 3]) (rest := []) ⟨hx, hb, hml, hown, hts⟩ (s_X6_refuse l dC dI H.size hLK D F30 a0 3 ha0 (by decide) hI) (cwV 1 hts (ax_gV T_194 T_195 T_196 T_193 T_10) rfl rfl rfl (by decide +kernel) ⟨Nat.le_of_ble_eq_true rfl, Nat.le_of_ble_eq_true rfl⟩) ⟨fun a U g mk q => ⟨q.1, s_pc (U := U) rfl rfl q.2⟩, s_recv hK hP (hLK _ ha0 (by decide)) (ci := 6) rfl o33, fun U hU hW => ⟨rfl, s_pw hU hW hP hK hD hN⟩⟩ rfl rfl hl.1 rfl (lv_room (Nat.le_of_ble_eq_true rfl)) dX6_poke_25 ⟨Nat.zero_le _, Nat.zero_le _⟩) hS (fun q _ h => h) (fun q h => h) (fun r43 F44 t H1 locs ht hvm hw hB hz1 hk1 hS => ?_)
      obtain ⟨hP, hK1⟩ := hB
      rw [ht] at hP
      generalize H1 = H at hP hS ⊢
      clear hz1 hk1
      obtain ⟨h45, h46, hI, hfr1⟩ := hw
      have o47 : F44 a0 = .inr (6, [.ref z1, .int z3, .ref z5, .ref z7, .ref z9, .int z11, .ref z12, .ref z14, .int z16, .int z18, .ref z20, .ref z22, .ref z24, .long z26]) := (hfr1 _ (by rw [ha0]; decide)).trans o33
      have hfr : ∀ b, K b ∉ [1, 5, 6, 7, 24, 27, 28, 29, 30, 31, 32, 39] → F44 b = F b := fun b hb9 => (hfr1 b (fun q => hb9 (s_sub (by decide) q))).trans (hfr b hb9)
      refine lv_pop hx hb dX6_poke_28 rfl ?_
      refine lv_ldc (v := (-1000000)) hx hb hown (hts _ T_228) dX6_poke_29 ?_
      exact W.iret (v := (-1000000)) hx hb hr (fun t ht hW => ⟨⟨(-1000000), F44, rfl, ⟨trivial, trivial, hI, hfr⟩, by rw [ht]; exact hP, va_K.moved hW.alike hK⟩, hS.F ht⟩) hS.2.2 dX6_poke_31
    · have c42 := mt (ax_lt (n := (-9999)) (by decide)).mpr c42
      refine lv_iload_n hx hb dX6_poke_16 rfl (lv_at hl 3 rfl) ?_
      refine lv_sipush (v := 9999) hx hb dX6_poke_17 (by decide) ?_
      refine lv_icmp_le (tgt := 32) hx hb dX6_poke_20 (by decide) (fun c48 => ?_) (fun c48 => ?_)
      · have c48 := (ax_le (n := 9999) (by decide)).mp c48
        refine lv_aload_n hx hb dX6_poke_32 rfl (lv_at hl 0 rfl) ?_
        refine va_callv (va_runV (As := []) (rest := []) ⟨hx, hb, hml, hown, hts⟩ (s_X6_keepForUndo l dC dI H.size hLK D F30 a0 ha0 hI) (cwV 0 hts (ax_gV T_906 T_908 T_909 T_193 T_907) rfl rfl rfl (by decide +kernel) ⟨Nat.le_of_ble_eq_true rfl, Nat.le_of_ble_eq_true rfl⟩) ⟨fun a U g mk q => ⟨q.1, s_pc (U := U) rfl rfl q.2⟩, s_recv hK hP (hLK _ ha0 (by decide)) (ci := 6) rfl o33, fun U hU hW => ⟨rfl, s_pw hU hW hP hK hD hN⟩⟩ rfl rfl hl.1 rfl (lv_room (Nat.le_of_ble_eq_true rfl)) dX6_poke_33 ⟨Nat.zero_le _, Nat.zero_le _⟩) hS (fun q _ h => h) (fun q h => h) (fun F49 t H1 locs ht hvm hw hB hz1 hk1 hS => ?_)
        obtain ⟨hP, hK1⟩ := hB
        rw [ht] at hP
        generalize H1 = H at hP hS ⊢
        clear hz1 hk1
        obtain ⟨h50, h51, hI, hfr1⟩ := hw
        have hfr : ∀ b, K b ∉ [1, 5, 6, 7, 24, 27, 28, 29, 30, 31, 32, 39] → F49 b = F b := fun b hb9 => (hfr1 b (fun q => hb9 (s_sub (by decide) q))).trans (hfr b hb9)
        refine lv_iload_n hx hb dX6_poke_36 rfl (lv_at hl 1 rfl) ?_
        refine lv_if_eq (tgt := 50) hx hb dX6_poke_37 (by decide) (fun c52 => ?_) (fun c52 => ?_)
        · have c52 := (ax_eq (n := 0) (by decide)).mp c52
          refine lv_aload_n hx hb dX6_poke_50 rfl (lv_at hl 0 rfl) ?_
          obtain ⟨z53, z55, z57, z59, z61, z63, z64, z66, z68, z70, z72, z74, z76, z78, o80, h54, h56, h58, h60, h62, h65, h67, h69, h71, h73, h75, h77, h79, -⟩ := s_op7 hI ha0
          refine th_get (D := (dC, dI)) (ci := 6) (v := .ref z64) (C := RX6) (T := TX6) (N := 14) hx hb hts inX6 hown hK hP (hLK _ ha0 (by decide)) o80 rfl 6 (by decide) (hts _ T_174) (fun _ h9 => h9) rfl dX6_poke_51 ?_
          obtain ⟨z81, z83, z85, z87, z89, z91, z93, z95, z97, z99, z101, z103, z104, z106, z107, o109, h82, h84, h86, h88, h90, h92, h94, h96, h98, h100, h102, h105, h108, -⟩ := s_op5 hI h65
          refine th_getN (D := (dC, dI)) (ci := 4) (v := .ref z83) (C := RX4) (T := TX4) (N := 15) hx hb hts inX4 hown hK hP (hLK _ h65 (by decide)) o109 rfl 1 (by decide) (va_Nw.use rfl (ax_n58 hN)) (fun _ h9 => h9) rfl dX6_poke_54 ?_
          refine lv_astore (lv' := [(4, .ref z83), (0, .ref a0), (1, .int x1), (2, .int x2), (3, .int x3)]) hx hb dX6_poke_57 hl (by decide) rfl (fun ls hl => ?_)
          refine lv_aload hx hb dX6_poke_59 (lv_at hl 0 rfl) ?_
          refine lv_iload_n hx hb dX6_poke_61 rfl (lv_at hl 3 rfl) ?_
          obtain ⟨f110, o111, h112⟩ := s_op24 hI h84
          refine th_iald hx hb hK hP (hLK _ h84 (by decide)) 0 o111 rfl (th_in ⟨by omega, by omega⟩) dX6_poke_62 ?_
          refine lv_topi (fun v113 ev113 => ?_)
          refine lv_istore (lv' := [(5, .int v113), (4, .ref z83), (0, .ref a0), (1, .int x1), (2, .int x2), (3, .int x3)]) hx hb dX6_poke_63 hl (by decide) rfl (fun ls hl => ?_)
          refine lv_aload hx hb dX6_poke_65 (lv_at hl 1 rfl) ?_
          refine lv_iload_n hx hb dX6_poke_67 rfl (lv_at hl 4 rfl) ?_
          refine lv_iload_n hx hb dX6_poke_68 rfl (lv_at hl 5 rfl) ?_
          obtain ⟨f114, o115, h116⟩ := s_op24 hI h84
          refine th_iast hx hb hK hP hD hS (hLK _ h84 (by decide)) 0 o115 rfl (th_in ⟨by omega, by omega⟩) dX6_poke_69 (fun H locs hP hS => ?_)
          have hP : va_P (dC, dI) vwCl (va_pl L (va_up F49 z83 (.inl (cs 0, 64, .inl (upd f114 (x2 : Int32).toNatClampNeg x3))))) H := hP
          obtain ⟨F117, hF118⟩ : ∃ G : Nat → va_E, G = va_up F49 z83 (.inl (cs 0, 64, .inl (upd f114 (x2 : Int32).toNatClampNeg x3))) := ⟨_, rfl⟩
          rw [← hF118] at hP
          have hI : s_I K cs D F117 := by rw [hF118]; exact s_cl24 hI h84 ⟨_, rfl, trivial⟩
          have hfr : ∀ b, K b ∉ [1, 5, 6, 7, 24, 27, 28, 29, 30, 31, 32, 39] → F117 b = F b := by rw [hF118]; exact s_fr hfr h84 (by decide)
          have o119 : F117 a0 = .inr (6, [.ref z53, .int z55, .ref z57, .ref z59, .ref z61, .int z63, .ref z64, .ref z66, .int z68, .int z70, .ref z72, .ref z74, .ref z76, .long z78]) := by rw [hF118]; exact th_ne (th_kd ha0 h84 (by decide)) o80
          have o120 : F117 z64 = .inr (4, [.ref z81, .ref z83, .ref z85, .ref z87, .ref z89, .ref z91, .ref z93, .int z95, .int z97, .int z99, .int z101, .int z103, .int z104, .int z106, .int z107]) := by rw [hF118]; exact th_ne (th_kd h65 h84 (by decide)) o109
          refine lv_iload hx hb dX6_poke_70 (lv_at hl 0 rfl) ?_
          exact W.iret (v := v113) hx hb hr (fun t ht hW => ⟨⟨v113, F117, rfl, ⟨trivial, trivial, hI, hfr⟩, by rw [ht]; exact hP, va_K.moved hW.alike hK⟩, hS.F ht⟩) hS.2.2 dX6_poke_72
        · have c52 := mt (ax_eq (n := 0) (by decide)).mpr c52
          refine lv_aload_n hx hb dX6_poke_40 rfl (lv_at hl 0 rfl) ?_
          obtain ⟨z121, z123, z125, z127, z129, z131, z132, z134, z136, z138, z140, z142, z144, z146, o148, h122, h124, h126, h128, h130, h133, h135, h137, h139, h141, h143, h145, h147, -⟩ := s_op7 hI ha0
          refine th_get (D := (dC, dI)) (ci := 6) (v := .ref z132) (C := RX6) (T := TX6) (N := 14) hx hb hts inX6 hown hK hP (hLK _ ha0 (by decide)) o148 rfl 6 (by decide) (hts _ T_174) (fun _ h9 => h9) rfl dX6_poke_41 ?_
          obtain ⟨z149, z151, z153, z155, z157, z159, z161, z163, z165, z167, z169, z171, z172, z174, z175, o177, h150, h152, h154, h156, h158, h160, h162, h164, h166, h168, h170, h173, h176, -⟩ := s_op5 hI h133
          refine th_getN (D := (dC, dI)) (ci := 4) (v := .ref z153) (C := RX4) (T := TX4) (N := 15) hx hb hts inX4 hown hK hP (hLK _ h133 (by decide)) o177 rfl 2 (by decide) (va_Nw.use rfl (ax_n75 hN)) (fun _ h9 => h9) rfl dX6_poke_44 ?_
          refine lv_goto (tgt := 57) hx hb dX6_poke_47 (by decide) ?_
          refine lv_astore (lv' := [(4, .ref z153), (0, .ref a0), (1, .int x1), (2, .int x2), (3, .int x3)]) hx hb dX6_poke_57 hl (by decide) rfl (fun ls hl => ?_)
          refine lv_aload hx hb dX6_poke_59 (lv_at hl 0 rfl) ?_
          refine lv_iload_n hx hb dX6_poke_61 rfl (lv_at hl 3 rfl) ?_
          obtain ⟨f178, o179, h180⟩ := s_op27 hI h154
          refine th_iald hx hb hK hP (hLK _ h154 (by decide)) 0 o179 rfl (th_in ⟨by omega, by omega⟩) dX6_poke_62 ?_
          refine lv_topi (fun v181 ev181 => ?_)
          refine lv_istore (lv' := [(5, .int v181), (4, .ref z153), (0, .ref a0), (1, .int x1), (2, .int x2), (3, .int x3)]) hx hb dX6_poke_63 hl (by decide) rfl (fun ls hl => ?_)
          refine lv_aload hx hb dX6_poke_65 (lv_at hl 1 rfl) ?_
          refine lv_iload_n hx hb dX6_poke_67 rfl (lv_at hl 4 rfl) ?_
          refine lv_iload_n hx hb dX6_poke_68 rfl (lv_at hl 5 rfl) ?_
          obtain ⟨f182, o183, h184⟩ := s_op27 hI h154
          refine th_iast hx hb hK hP hD hS (hLK _ h154 (by decide)) 0 o183 rfl (th_in ⟨by omega, by omega⟩) dX6_poke_69 (fun H locs hP hS => ?_)
          have hP : va_P (dC, dI) vwCl (va_pl L (va_up F49 z153 (.inl (cs 0, 32, .inl (upd f182 (x2 : Int32).toNatClampNeg x3))))) H := hP
          obtain ⟨F185, hF186⟩ : ∃ G : Nat → va_E, G = va_up F49 z153 (.inl (cs 0, 32, .inl (upd f182 (x2 : Int32).toNatClampNeg x3))) := ⟨_, rfl⟩
          rw [← hF186] at hP
          have hI : s_I K cs D F185 := by rw [hF186]; exact s_cl27 hI h154 ⟨_, rfl, trivial⟩
          have hfr : ∀ b, K b ∉ [1, 5, 6, 7, 24, 27, 28, 29, 30, 31, 32, 39] → F185 b = F b := by rw [hF186]; exact s_fr hfr h154 (by decide)
          have o187 : F185 a0 = .inr (6, [.ref z121, .int z123, .ref z125, .ref z127, .ref z129, .int z131, .ref z132, .ref z134, .int z136, .int z138, .ref z140, .ref z142, .ref z144, .long z146]) := by rw [hF186]; exact th_ne (th_kd ha0 h154 (by decide)) o148
          have o188 : F185 z132 = .inr (4, [.ref z149, .ref z151, .ref z153, .ref z155, .ref z157, .ref z159, .ref z161, .int z163, .int z165, .int z167, .int z169, .int z171, .int z172, .int z174, .int z175]) := by rw [hF186]; exact th_ne (th_kd h133 h154 (by decide)) o177
          refine lv_iload hx hb dX6_poke_70 (lv_at hl 0 rfl) ?_
          exact W.iret (v := v181) hx hb hr (fun t ht hW => ⟨⟨v181, F185, rfl, ⟨trivial, trivial, hI, hfr⟩, by rw [ht]; exact hP, va_K.moved hW.alike hK⟩, hS.F ht⟩) hS.2.2 dX6_poke_72
      · have c48 := mt (ax_le (n := 9999) (by decide)).mpr c48
        refine lv_aload_n hx hb dX6_poke_23 rfl (lv_at hl 0 rfl) ?_
        refine lv_iconst (v := 3) hx hb dX6_poke_24 (by decide) ?_
        refine va_calli (va_runV (As := [.int 3]) (rest := []) ⟨hx, hb, hml, hown, hts⟩ (s_X6_refuse l dC dI H.size hLK D F30 a0 3 ha0 (by decide) hI) (cwV 1 hts (ax_gV T_194 T_195 T_196 T_193 T_10) rfl rfl rfl (by decide +kernel) ⟨Nat.le_of_ble_eq_true rfl, Nat.le_of_ble_eq_true rfl⟩) ⟨fun a U g mk q => ⟨q.1, s_pc (U := U) rfl rfl q.2⟩, s_recv hK hP (hLK _ ha0 (by decide)) (ci := 6) rfl o33, fun U hU hW => ⟨rfl, s_pw hU hW hP hK hD hN⟩⟩ rfl rfl hl.1 rfl (lv_room (Nat.le_of_ble_eq_true rfl)) dX6_poke_25 ⟨Nat.zero_le _, Nat.zero_le _⟩) hS (fun q _ h => h) (fun q h => h) (fun r189 F190 t H1 locs ht hvm hw hB hz1 hk1 hS => ?_)
        obtain ⟨hP, hK1⟩ := hB
        rw [ht] at hP
        generalize H1 = H at hP hS ⊢
        clear hz1 hk1
        obtain ⟨h191, h192, hI, hfr1⟩ := hw
        have o193 : F190 a0 = .inr (6, [.ref z1, .int z3, .ref z5, .ref z7, .ref z9, .int z11, .ref z12, .ref z14, .int z16, .int z18, .ref z20, .ref z22, .ref z24, .long z26]) := (hfr1 _ (by rw [ha0]; decide)).trans o33
        have hfr : ∀ b, K b ∉ [1, 5, 6, 7, 24, 27, 28, 29, 30, 31, 32, 39] → F190 b = F b := fun b hb9 => (hfr1 b (fun q => hb9 (s_sub (by decide) q))).trans (hfr b hb9)
        refine lv_pop hx hb dX6_poke_28 rfl ?_
        refine lv_ldc (v := (-1000000)) hx hb hown (hts _ T_228) dX6_poke_29 ?_
        exact W.iret (v := (-1000000)) hx hb hr (fun t ht hW => ⟨⟨(-1000000), F190, rfl, ⟨trivial, trivial, hI, hfr⟩, by rw [ht]; exact hP, va_K.moved hW.alike hK⟩, hS.F ht⟩) hS.2.2 dX6_poke_31

set_option maxHeartbeats 4000000 in
set_option maxRecDepth 100000 in
theorem s_X6_set (l : Launch) (dC : Nat → ClassId) (dI : Nat → Nat → Nat) (sz : Nat) {L : List Nat} {K : Nat → Nat} {cs : Nat → ClassId} (hLK : ∀ a {k : Nat}, K a = k → k ≠ 0 → a ∈ L) (D : Nat) (F : Nat → va_E) (a0 : Nat) (x1 : Int32) (x2 : Int32) (x3 : Int32) (ha0 : K a0 = 7) (hI : s_I K cs D F) : Met l yX6_set (Cond.code yX6_set cX6_set 4 (some .boolean) :: T0) ({ frames := 4, cells := 0, slots := 0, locals := 123 }) (va_Pc [.ref a0, .int x1, .int x2, .int x3] (s_W dC dI sz L F [(cs 0, .int), (cs 1, .byte), (cs 2, .long), (cs 3, .object RX5), (cs 4, .object RX4), (cs 5, .array .int), (cs 6, .char), (cs 7, .boolean)])) (va_Qi (fun (r : Int32) (G : Nat → va_E) => (0 ≤ r.toInt ∧ r.toInt ≤ 1) ∧ (¬ r = 0 → 0 ≤ x1.toInt ∧ x1.toInt ≤ 1 ∧ 0 ≤ x2.toInt ∧ x2.toInt ≤ 1 ∧ 0 ≤ x3.toInt ∧ x3.toInt ≤ 3) ∧ s_I K cs D G ∧ ∀ b, K b ∉ [1, 5, 6, 7, 24, 27, 28, 29, 30, 31, 32, 39] → G b = F b) (fun (G : Nat → va_E) (t : State) => va_P (dC, dI) vwCl (va_pl L G) t.heap ∧ va_K (dC, dI) vwCl [(cs 0, .int), (cs 1, .byte), (cs 2, .long), (cs 3, .object RX5), (cs 4, .object RX4), (cs 5, .array .int), (cs 6, .char), (cs 7, .boolean)] t) (fun q => q ∈ L)) 0 0 (fun q => q ∈ L) := by
  refine Met.ofW (cc := cX6_set) (maxL := 4) (ret := (some .boolean)) (by decide) rfl ?_
  intro p e s m args below meth c s₁ B hml hv
  obtain ⟨rfl, hsz, hP, hK, hD, hN⟩ := hv
  have hx := B.exec
  have hb := B.bytes
  have hr := B.returns
  have hts : ∀ w ∈ T0, w.before _ s = true := fun w h => atoms_spec (ws := Cond.code yX6_set cX6_set 4 (some .boolean) :: T0) B.pre w (List.mem_cons_of_mem _ h)
  have hown : s.vm.findClass RX6 = some m.cls := findClass_of_methodNamed B.named
  have hlocks := B.notSynchronized
  have hS : va_S (fun q => q ∈ L) s.heap s.heap [] := va_S.rf
  have hfr : ∀ b, K b ∉ [1, 5, 6, 7, 24, 27, 28, 29, 30, 31, 32, 39] → F b = F b := fun _ _ => rfl
  have hl := lv_entry ([.ref a0, .int x1, .int x2, .int x3]) (n := 4) (Nat.le_of_ble_eq_true rfl)
  rw [lg_entry_eq]
  generalize (lg_sl ([.ref a0, .int x1, .int x2, .int x3]) ++ List.replicate (4 - (lg_sl ([.ref a0, .int x1, .int x2, .int x3])).length) Slot.unset).toArray = ls at hl ⊢
  have hl : lv_has ls 4 [(0, .ref a0), (1, .int x1), (2, .int x2), (3, .int x3)] := hl
  refine s_gen hP hS (fun H locs hP hS => ?_)
  refine th_join (fun g H locs => ∃ (G : Nat → va_E) (ls : Array Slot), g = F0 m 30 ls [] ∧ lv_has ls 4 [(0, .ref a0)] ∧ s_I K cs D G ∧ va_P (dC, dI) vwCl (va_pl L G) H ∧ va_S (fun q => q ∈ L) s.heap H locs ∧ (∀ b, K b ∉ [1, 5, 6, 7, 24, 27, 28, 29, 30, 31, 32, 39] → G b = F b)) (fun K30 => ?_) ?_
  · refine lv_aload_n hx hb dX6_set_0 rfl (lv_at hl 0 rfl) ?_
    obtain ⟨z1, z3, z5, z7, z9, z11, z12, z14, z16, z18, z20, z22, z24, z26, o28, h2, h4, h6, h8, h10, h13, h15, h17, h19, h21, h23, h25, h27, -⟩ := s_op7 hI ha0
    refine th_get (D := (dC, dI)) (ci := 6) (v := .int z11) (C := RX6) (T := TX6) (N := 14) hx hb hts inX6 hown hK hP (hLK _ ha0 (by decide)) o28 rfl 5 (by decide) (hts _ T_224) (fun _ h9 => h9) rfl dX6_set_1 ?_
    refine lv_if_eq (tgt := 30) hx hb dX6_set_4 (by decide) (fun c29 => ?_) (fun c29 => ?_)
    · have c29 := (ax_eq (n := 0) (by decide)).mp c29
      exact K30 _ _ _ ⟨F, _, rfl, lv_sub hl [0] rfl, hI, hP, hS, hfr⟩
    · have c29 := mt (ax_eq (n := 0) (by decide)).mpr c29
      refine lv_iload_n hx hb dX6_set_7 rfl (lv_at hl 1 rfl) ?_
      refine va_calli (va_runS (As := [.int x1]) (rest := []) ⟨hx, hb, hml, hown, hts⟩ (s_X6_isMode l dC dI H.size hLK D F x1 hI) (cwS 1 hts (ax_gS T_911 T_913 T_193 T_912) rfl rfl rfl (by decide +kernel) ⟨Nat.le_of_ble_eq_true rfl, Nat.le_of_ble_eq_true rfl⟩) ⟨fun a U g mk q => ⟨q.1, s_pc (U := U) rfl rfl q.2⟩, fun U hU hW => ⟨rfl, s_pw hU hW hP hK hD hN⟩⟩ rfl rfl hl.1 rfl (lv_room (Nat.le_of_ble_eq_true rfl)) dX6_set_8 ⟨Nat.zero_le _, Nat.zero_le _⟩) hS (fun q _ h => h) (fun q h => h) (fun r30 F31 t H1 locs ht hvm hw hB hz1 hk1 hS => ?_)
      obtain ⟨hP, hK1⟩ := hB
      rw [ht] at hP
      generalize H1 = H at hP hS ⊢
      clear hz1 hk1
      obtain ⟨h32, h33, hI, hfr1⟩ := hw
      have o34 : F31 a0 = .inr (6, [.ref z1, .int z3, .ref z5, .ref z7, .ref z9, .int z11, .ref z12, .ref z14, .int z16, .int z18, .ref z20, .ref z22, .ref z24, .long z26]) := (hfr1 _ (by rw [ha0]; decide)).trans o28
      have hfr : ∀ b, K b ∉ [1, 5, 6, 7, 24, 27, 28, 29, 30, 31, 32, 39] → F31 b = F b := fun b hb9 => (hfr1 b (fun q => hb9 (s_sub (by decide) q))).trans (hfr b hb9)
      refine lv_if_eq (tgt := 30) hx hb dX6_set_11 (by decide) (fun c35 => ?_) (fun c35 => ?_)
      · have c35 := (ax_eq (n := 0) (by decide)).mp c35
        exact K30 _ _ _ ⟨F31, _, rfl, lv_sub hl [0] rfl, hI, hP, hS, hfr⟩
      · have c35 := mt (ax_eq (n := 0) (by decide)).mpr c35
        have h36 := h33 (fun q => c35 (by rw [q]; decide))
        refine lv_iload_n hx hb dX6_set_14 rfl (lv_at hl 2 rfl) ?_
        refine va_calli (va_runS (As := [.int x2]) (rest := []) ⟨hx, hb, hml, hown, hts⟩ (s_X6_isOrder l dC dI H.size hLK D F31 x2 hI) (cwS 1 hts (ax_gS T_914 T_916 T_193 T_915) rfl rfl rfl (by decide +kernel) ⟨Nat.le_of_ble_eq_true rfl, Nat.le_of_ble_eq_true rfl⟩) ⟨fun a U g mk q => ⟨q.1, s_pc (U := U) rfl rfl q.2⟩, fun U hU hW => ⟨rfl, s_pw hU hW hP hK hD hN⟩⟩ rfl rfl hl.1 rfl (lv_room (Nat.le_of_ble_eq_true rfl)) dX6_set_15 ⟨Nat.zero_le _, Nat.zero_le _⟩) hS (fun q _ h => h) (fun q h => h) (fun r37 F38 t H1 locs ht hvm hw hB hz1 hk1 hS => ?_)
        obtain ⟨hP, hK1⟩ := hB
        rw [ht] at hP
        generalize H1 = H at hP hS ⊢
        clear hz1 hk1
        obtain ⟨h39, h40, hI, hfr1⟩ := hw
        have o41 : F38 a0 = .inr (6, [.ref z1, .int z3, .ref z5, .ref z7, .ref z9, .int z11, .ref z12, .ref z14, .int z16, .int z18, .ref z20, .ref z22, .ref z24, .long z26]) := (hfr1 _ (by rw [ha0]; decide)).trans o34
        have hfr : ∀ b, K b ∉ [1, 5, 6, 7, 24, 27, 28, 29, 30, 31, 32, 39] → F38 b = F b := fun b hb9 => (hfr1 b (fun q => hb9 (s_sub (by decide) q))).trans (hfr b hb9)
        refine lv_if_eq (tgt := 30) hx hb dX6_set_18 (by decide) (fun c42 => ?_) (fun c42 => ?_)
        · have c42 := (ax_eq (n := 0) (by decide)).mp c42
          exact K30 _ _ _ ⟨F38, _, rfl, lv_sub hl [0] rfl, hI, hP, hS, hfr⟩
        · have c42 := mt (ax_eq (n := 0) (by decide)).mpr c42
          have h43 := h40 (fun q => c42 (by rw [q]; decide))
          refine lv_iload_n hx hb dX6_set_21 rfl (lv_at hl 3 rfl) ?_
          refine lv_if_lt (tgt := 30) hx hb dX6_set_22 (by decide) (fun c44 => ?_) (fun c44 => ?_)
          · have c44 := (ax_lt (n := 0) (by decide)).mp c44
            exact K30 _ _ _ ⟨F38, _, rfl, lv_sub hl [0] rfl, hI, hP, hS, hfr⟩
          · have c44 := mt (ax_lt (n := 0) (by decide)).mpr c44
            refine lv_iload_n hx hb dX6_set_25 rfl (lv_at hl 3 rfl) ?_
            refine lv_iconst (v := 4) hx hb dX6_set_26 (by decide) ?_
            refine lv_icmp_lt (tgt := 38) hx hb dX6_set_27 (by decide) (fun c45 => ?_) (fun c45 => ?_)
            · have c45 := (ax_lt (n := 4) (by decide)).mp c45
              refine lv_aload_n hx hb dX6_set_38 rfl (lv_at hl 0 rfl) ?_
              refine va_callv (va_runV (As := []) (rest := []) ⟨hx, hb, hml, hown, hts⟩ (s_X6_keepForUndo l dC dI H.size hLK D F38 a0 ha0 hI) (cwV 0 hts (ax_gV T_906 T_908 T_909 T_193 T_907) rfl rfl rfl (by decide +kernel) ⟨Nat.le_of_ble_eq_true rfl, Nat.le_of_ble_eq_true rfl⟩) ⟨fun a U g mk q => ⟨q.1, s_pc (U := U) rfl rfl q.2⟩, s_recv hK hP (hLK _ ha0 (by decide)) (ci := 6) rfl o41, fun U hU hW => ⟨rfl, s_pw hU hW hP hK hD hN⟩⟩ rfl rfl hl.1 rfl (lv_room (Nat.le_of_ble_eq_true rfl)) dX6_set_39 ⟨Nat.zero_le _, Nat.zero_le _⟩) hS (fun q _ h => h) (fun q h => h) (fun F46 t H1 locs ht hvm hw hB hz1 hk1 hS => ?_)
              obtain ⟨hP, hK1⟩ := hB
              rw [ht] at hP
              generalize H1 = H at hP hS ⊢
              clear hz1 hk1
              obtain ⟨h47, h48, hI, hfr1⟩ := hw
              have hfr : ∀ b, K b ∉ [1, 5, 6, 7, 24, 27, 28, 29, 30, 31, 32, 39] → F46 b = F b := fun b hb9 => (hfr1 b (fun q => hb9 (s_sub (by decide) q))).trans (hfr b hb9)
              refine lv_aload_n hx hb dX6_set_42 rfl (lv_at hl 0 rfl) ?_
              obtain ⟨z49, z51, z53, z55, z57, z59, z60, z62, z64, z66, z68, z70, z72, z74, o76, h50, h52, h54, h56, h58, h61, h63, h65, h67, h69, h71, h73, h75, -⟩ := s_op7 hI ha0
              refine th_get (D := (dC, dI)) (ci := 6) (v := .ref z60) (C := RX6) (T := TX6) (N := 14) hx hb hts inX6 hown hK hP (hLK _ ha0 (by decide)) o76 rfl 6 (by decide) (hts _ T_174) (fun _ h9 => h9) rfl dX6_set_43 ?_
              refine lv_iload_n hx hb dX6_set_46 rfl (lv_at hl 1 rfl) ?_
              refine lv_iload_n hx hb dX6_set_47 rfl (lv_at hl 2 rfl) ?_
              refine lv_iload_n hx hb dX6_set_48 rfl (lv_at hl 3 rfl) ?_
              obtain ⟨z77, z79, z81, z83, z85, z87, z89, z91, z93, z95, z97, z99, z100, z102, z103, o105, h78, h80, h82, h84, h86, h88, h90, h92, h94, h96, h98, h101, h104, -⟩ := s_op5 hI h61
              refine va_callv (va_runV (As := [.int x1, .int x2, .int x3]) (rest := []) ⟨hx, hb, hml, hown, hts⟩ (s_X4_lay l dC dI H.size hLK D F46 z60 x1 x2 x3 h61 (⟨by omega, by omega⟩) (⟨by omega, by omega⟩) (⟨by omega, by omega⟩) hI) (cwV 3 hts (ax_gV T_974 T_552 T_553 T_142 T_551) rfl rfl rfl (by decide +kernel) ⟨Nat.le_of_ble_eq_true rfl, Nat.le_of_ble_eq_true rfl⟩) ⟨fun a U g mk q => ⟨q.1, s_pc (U := U) rfl rfl q.2⟩, s_recv hK hP (hLK _ h61 (by decide)) (ci := 4) rfl o105, fun U hU hW => ⟨rfl, s_pw hU hW hP hK hD hN⟩⟩ rfl rfl hl.1 rfl (lv_room (Nat.le_of_ble_eq_true rfl)) dX6_set_49 ⟨Nat.zero_le _, Nat.zero_le _⟩) hS (fun q _ h => h) (fun q h => h) (fun F106 t H1 locs ht hvm hw hB hz1 hk1 hS => ?_)
              obtain ⟨hP, hK1⟩ := hB
              rw [ht] at hP
              generalize H1 = H at hP hS ⊢
              clear hz1 hk1
              obtain ⟨h107, h108, hI, hfr1⟩ := hw
              have o109 : F106 a0 = .inr (6, [.ref z49, .int z51, .ref z53, .ref z55, .ref z57, .int z59, .ref z60, .ref z62, .int z64, .int z66, .ref z68, .ref z70, .ref z72, .long z74]) := (hfr1 _ (by rw [ha0]; decide)).trans o76
              have hfr : ∀ b, K b ∉ [1, 5, 6, 7, 24, 27, 28, 29, 30, 31, 32, 39] → F106 b = F b := fun b hb9 => (hfr1 b (fun q => hb9 (s_sub (by decide) q))).trans (hfr b hb9)
              refine lv_aload_n hx hb dX6_set_52 rfl (lv_at hl 0 rfl) ?_
              refine th_get (D := (dC, dI)) (ci := 6) (v := .ref z60) (C := RX6) (T := TX6) (N := 14) hx hb hts inX6 hown hK hP (hLK _ ha0 (by decide)) o109 rfl 6 (by decide) (hts _ T_174) (fun _ h9 => h9) rfl dX6_set_53 ?_
              refine lv_aload_n hx hb dX6_set_56 rfl (lv_at hl 0 rfl) ?_
              refine th_get (D := (dC, dI)) (ci := 6) (v := .ref z55) (C := RX6) (T := TX6) (N := 14) hx hb hts inX6 hown hK hP (hLK _ ha0 (by decide)) o109 rfl 3 (by decide) (hts _ T_170) (fun _ h9 => h9) rfl dX6_set_57 ?_
              obtain ⟨z110, z112, z114, z116, z118, z120, z122, z124, z126, z128, z130, z132, z133, z135, z136, o138, h111, h113, h115, h117, h119, h121, h123, h125, h127, h129, h131, h134, h137, -⟩ := s_op5 hI h61
              refine va_callv (va_runV (As := [.ref z55]) (rest := []) ⟨hx, hb, hml, hown, hts⟩ (s_X4_restart l dC dI H.size hLK D F106 z60 z55 h61 h56 hI) (cwV 1 hts (ax_gV T_910 T_556 T_557 T_142 T_555) rfl rfl rfl (by decide +kernel) ⟨Nat.le_of_ble_eq_true rfl, Nat.le_of_ble_eq_true rfl⟩) ⟨fun a U g mk q => ⟨q.1, s_pc (U := U) rfl rfl q.2⟩, s_recv hK hP (hLK _ h61 (by decide)) (ci := 4) rfl o138, fun U hU hW => ⟨rfl, s_pw hU hW hP hK hD hN⟩⟩ rfl rfl hl.1 rfl (lv_room (Nat.le_of_ble_eq_true rfl)) dX6_set_60 ⟨Nat.zero_le _, Nat.zero_le _⟩) hS (fun q _ h => h) (fun q h => h) (fun F139 t H1 locs ht hvm hw hB hz1 hk1 hS => ?_)
              obtain ⟨hP, hK1⟩ := hB
              rw [ht] at hP
              generalize H1 = H at hP hS ⊢
              clear hz1 hk1
              obtain ⟨h140, h141, hI, hfr1⟩ := hw
              have o142 : F139 a0 = .inr (6, [.ref z49, .int z51, .ref z53, .ref z55, .ref z57, .int z59, .ref z60, .ref z62, .int z64, .int z66, .ref z68, .ref z70, .ref z72, .long z74]) := (hfr1 _ (by rw [ha0]; decide)).trans o109
              have hfr : ∀ b, K b ∉ [1, 5, 6, 7, 24, 27, 28, 29, 30, 31, 32, 39] → F139 b = F b := fun b hb9 => (hfr1 b (fun q => hb9 (s_sub (by decide) q))).trans (hfr b hb9)
              refine lv_iconst (v := 1) hx hb dX6_set_63 (by decide) ?_
              exact W.zret (v := 1) (ty := .boolean) hx hb hr (by decide) (fun t ht hW => ⟨⟨1, F139, rfl, ⟨(by decide), (fun q => ⟨by omega, by omega, by omega, by omega, by omega, by omega⟩), hI, hfr⟩, by rw [ht]; exact hP, va_K.moved hW.alike hK⟩, hS.F ht⟩) hS.2.2 dX6_set_64
            · have c45 := mt (ax_lt (n := 4) (by decide)).mpr c45
              exact K30 _ _ _ ⟨F38, _, rfl, lv_sub hl [0] rfl, hI, hP, hS, hfr⟩
  · intro g H locs hq
    obtain ⟨F9, ls, rfl, hl, hI, hP, hS, hfr⟩ := hq
    refine lv_aload_n hx hb dX6_set_30 rfl (lv_at hl 0 rfl) ?_
    refine lv_iconst (v := 3) hx hb dX6_set_31 (by decide) ?_
    obtain ⟨z143, z145, z147, z149, z151, z153, z154, z156, z158, z160, z162, z164, z166, z168, o170, h144, h146, h148, h150, h152, h155, h157, h159, h161, h163, h165, h167, h169, -⟩ := s_op7 hI ha0
    refine va_calli (va_runV (As := [.int 3]) (rest := []) ⟨hx, hb, hml, hown, hts⟩ (s_X6_refuse l dC dI H.size hLK D F9 a0 3 ha0 (by decide) hI) (cwV 1 hts (ax_gV T_194 T_195 T_196 T_193 T_10) rfl rfl rfl (by decide +kernel) ⟨Nat.le_of_ble_eq_true rfl, Nat.le_of_ble_eq_true rfl⟩) ⟨fun a U g mk q => ⟨q.1, s_pc (U := U) rfl rfl q.2⟩, s_recv hK hP (hLK _ ha0 (by decide)) (ci := 6) rfl o170, fun U hU hW => ⟨rfl, s_pw hU hW hP hK hD hN⟩⟩ rfl rfl hl.1 rfl (lv_room (Nat.le_of_ble_eq_true rfl)) dX6_set_32 ⟨Nat.zero_le _, Nat.zero_le _⟩) hS (fun q _ h => h) (fun q h => h) (fun r171 F172 t H1 locs ht hvm hw hB hz1 hk1 hS => ?_)
    obtain ⟨hP, hK1⟩ := hB
    rw [ht] at hP
    generalize H1 = H at hP hS ⊢
    clear hz1 hk1
    obtain ⟨h173, h174, hI, hfr1⟩ := hw
    have o175 : F172 a0 = .inr (6, [.ref z143, .int z145, .ref z147, .ref z149, .ref z151, .int z153, .ref z154, .ref z156, .int z158, .int z160, .ref z162, .ref z164, .ref z166, .long z168]) := (hfr1 _ (by rw [ha0]; decide)).trans o170
    have hfr : ∀ b, K b ∉ [1, 5, 6, 7, 24, 27, 28, 29, 30, 31, 32, 39] → F172 b = F b := fun b hb9 => (hfr1 b (fun q => hb9 (s_sub (by decide) q))).trans (hfr b hb9)
    refine lv_pop hx hb dX6_set_35 rfl ?_
    refine lv_iconst (v := 0) hx hb dX6_set_36 (by decide) ?_
    exact W.zret (v := 0) (ty := .boolean) hx hb hr (by decide) (fun t ht hW => ⟨⟨0, F172, rfl, ⟨(by decide), (fun q => absurd (by decide) q), hI, hfr⟩, by rw [ht]; exact hP, va_K.moved hW.alike hK⟩, hS.F ht⟩) hS.2.2 dX6_set_37

set_option maxHeartbeats 4000000 in
set_option maxRecDepth 100000 in
theorem s_X6_begin (l : Launch) (dC : Nat → ClassId) (dI : Nat → Nat → Nat) (sz : Nat) {L : List Nat} {K : Nat → Nat} {cs : Nat → ClassId} (hLK : ∀ a {k : Nat}, K a = k → k ≠ 0 → a ∈ L) (D : Nat) (F : Nat → va_E) (a0 : Nat) (ha0 : K a0 = 7) (hI : s_I K cs D F) : Met l yX6_begin (Cond.code yX6_begin cX6_begin 1 (some .boolean) :: T0) ({ frames := 4, cells := 0, slots := 0, locals := 123 }) (va_Pc [.ref a0] (s_W dC dI sz L F [(cs 0, .int), (cs 1, .byte), (cs 2, .long), (cs 3, .object RX5), (cs 4, .object RX4), (cs 5, .array .int), (cs 6, .char), (cs 7, .boolean)])) (va_Qi (fun (r : Int32) (G : Nat → va_E) => (0 ≤ r.toInt ∧ r.toInt ≤ 1) ∧ True ∧ s_I K cs D G ∧ ∀ b, K b ∉ [1, 5, 6, 7, 24, 27, 28, 29, 30, 31, 32, 39] → G b = F b) (fun (G : Nat → va_E) (t : State) => va_P (dC, dI) vwCl (va_pl L G) t.heap ∧ va_K (dC, dI) vwCl [(cs 0, .int), (cs 1, .byte), (cs 2, .long), (cs 3, .object RX5), (cs 4, .object RX4), (cs 5, .array .int), (cs 6, .char), (cs 7, .boolean)] t) (fun q => q ∈ L)) 0 0 (fun q => q ∈ L) := by
  refine Met.ofW (cc := cX6_begin) (maxL := 1) (ret := (some .boolean)) (by decide) rfl ?_
  intro p e s m args below meth c s₁ B hml hv
  obtain ⟨rfl, hsz, hP, hK, hD, hN⟩ := hv
  have hx := B.exec
  have hb := B.bytes
  have hr := B.returns
  have hts : ∀ w ∈ T0, w.before _ s = true := fun w h => atoms_spec (ws := Cond.code yX6_begin cX6_begin 1 (some .boolean) :: T0) B.pre w (List.mem_cons_of_mem _ h)
  have hown : s.vm.findClass RX6 = some m.cls := findClass_of_methodNamed B.named
  have hlocks := B.notSynchronized
  have hS : va_S (fun q => q ∈ L) s.heap s.heap [] := va_S.rf
  have hfr : ∀ b, K b ∉ [1, 5, 6, 7, 24, 27, 28, 29, 30, 31, 32, 39] → F b = F b := fun _ _ => rfl
  have hl := lv_entry ([.ref a0]) (n := 1) (Nat.le_of_ble_eq_true rfl)
  rw [lg_entry_eq]
  generalize (lg_sl ([.ref a0]) ++ List.replicate (1 - (lg_sl ([.ref a0])).length) Slot.unset).toArray = ls at hl ⊢
  have hl : lv_has ls 1 [(0, .ref a0)] := hl
  refine s_gen hP hS (fun H locs hP hS => ?_)
  refine lv_aload_n hx hb dX6_begin_0 rfl (lv_at hl 0 rfl) ?_
  obtain ⟨z1, z3, z5, z7, z9, z11, z12, z14, z16, z18, z20, z22, z24, z26, o28, h2, h4, h6, h8, h10, h13, h15, h17, h19, h21, h23, h25, h27, -⟩ := s_op7 hI ha0
  refine th_get (D := (dC, dI)) (ci := 6) (v := .int z11) (C := RX6) (T := TX6) (N := 14) hx hb hts inX6 hown hK hP (hLK _ ha0 (by decide)) o28 rfl 5 (by decide) (hts _ T_224) (fun _ h9 => h9) rfl dX6_begin_1 ?_
  refine lv_if_ne (tgt := 15) hx hb dX6_begin_4 (by decide) (fun c29 => ?_) (fun c29 => ?_)
  · have c29 := mt (ax_eq (n := 0) (by decide)).mpr c29
    refine lv_aload_n hx hb dX6_begin_15 rfl (lv_at hl 0 rfl) ?_
    refine va_callv (va_runV (As := []) (rest := []) ⟨hx, hb, hml, hown, hts⟩ (s_X6_keepForUndo l dC dI H.size hLK D F a0 ha0 hI) (cwV 0 hts (ax_gV T_906 T_908 T_909 T_193 T_907) rfl rfl rfl (by decide +kernel) ⟨Nat.le_of_ble_eq_true rfl, Nat.le_of_ble_eq_true rfl⟩) ⟨fun a U g mk q => ⟨q.1, s_pc (U := U) rfl rfl q.2⟩, s_recv hK hP (hLK _ ha0 (by decide)) (ci := 6) rfl o28, fun U hU hW => ⟨rfl, s_pw hU hW hP hK hD hN⟩⟩ rfl rfl hl.1 rfl (lv_room (Nat.le_of_ble_eq_true rfl)) dX6_begin_16 ⟨Nat.zero_le _, Nat.zero_le _⟩) hS (fun q _ h => h) (fun q h => h) (fun F30 t H1 locs ht hvm hw hB hz1 hk1 hS => ?_)
    obtain ⟨hP, hK1⟩ := hB
    rw [ht] at hP
    generalize H1 = H at hP hS ⊢
    clear hz1 hk1
    obtain ⟨h31, h32, hI, hfr1⟩ := hw
    have hfr : ∀ b, K b ∉ [1, 5, 6, 7, 24, 27, 28, 29, 30, 31, 32, 39] → F30 b = F b := fun b hb9 => (hfr1 b (fun q => hb9 (s_sub (by decide) q))).trans (hfr b hb9)
    refine lv_aload_n hx hb dX6_begin_19 rfl (lv_at hl 0 rfl) ?_
    obtain ⟨z33, z35, z37, z39, z41, z43, z44, z46, z48, z50, z52, z54, z56, z58, o60, h34, h36, h38, h40, h42, h45, h47, h49, h51, h53, h55, h57, h59, -⟩ := s_op7 hI ha0
    refine th_get (D := (dC, dI)) (ci := 6) (v := .ref z44) (C := RX6) (T := TX6) (N := 14) hx hb hts inX6 hown hK hP (hLK _ ha0 (by decide)) o60 rfl 6 (by decide) (hts _ T_174) (fun _ h9 => h9) rfl dX6_begin_20 ?_
    refine lv_aload_n hx hb dX6_begin_23 rfl (lv_at hl 0 rfl) ?_
    refine th_get (D := (dC, dI)) (ci := 6) (v := .ref z39) (C := RX6) (T := TX6) (N := 14) hx hb hts inX6 hown hK hP (hLK _ ha0 (by decide)) o60 rfl 3 (by decide) (hts _ T_170) (fun _ h9 => h9) rfl dX6_begin_24 ?_
    obtain ⟨z61, z63, z65, z67, z69, z71, z73, z75, z77, z79, z81, z83, z84, z86, z87, o89, h62, h64, h66, h68, h70, h72, h74, h76, h78, h80, h82, h85, h88, -⟩ := s_op5 hI h45
    refine va_callv (va_runV (As := [.ref z39]) (rest := []) ⟨hx, hb, hml, hown, hts⟩ (s_X4_restart l dC dI H.size hLK D F30 z44 z39 h45 h40 hI) (cwV 1 hts (ax_gV T_910 T_556 T_557 T_142 T_555) rfl rfl rfl (by decide +kernel) ⟨Nat.le_of_ble_eq_true rfl, Nat.le_of_ble_eq_true rfl⟩) ⟨fun a U g mk q => ⟨q.1, s_pc (U := U) rfl rfl q.2⟩, s_recv hK hP (hLK _ h45 (by decide)) (ci := 4) rfl o89, fun U hU hW => ⟨rfl, s_pw hU hW hP hK hD hN⟩⟩ rfl rfl hl.1 rfl (lv_room (Nat.le_of_ble_eq_true rfl)) dX6_begin_27 ⟨Nat.zero_le _, Nat.zero_le _⟩) hS (fun q _ h => h) (fun q h => h) (fun F90 t H1 locs ht hvm hw hB hz1 hk1 hS => ?_)
    obtain ⟨hP, hK1⟩ := hB
    rw [ht] at hP
    generalize H1 = H at hP hS ⊢
    clear hz1 hk1
    obtain ⟨h91, h92, hI, hfr1⟩ := hw
    have o93 : F90 a0 = .inr (6, [.ref z33, .int z35, .ref z37, .ref z39, .ref z41, .int z43, .ref z44, .ref z46, .int z48, .int z50, .ref z52, .ref z54, .ref z56, .long z58]) := (hfr1 _ (by rw [ha0]; decide)).trans o60
    have hfr : ∀ b, K b ∉ [1, 5, 6, 7, 24, 27, 28, 29, 30, 31, 32, 39] → F90 b = F b := fun b hb9 => (hfr1 b (fun q => hb9 (s_sub (by decide) q))).trans (hfr b hb9)
    refine lv_iconst (v := 1) hx hb dX6_begin_30 (by decide) ?_
    exact W.zret (v := 1) (ty := .boolean) hx hb hr (by decide) (fun t ht hW => ⟨⟨1, F90, rfl, ⟨(by decide), trivial, hI, hfr⟩, by rw [ht]; exact hP, va_K.moved hW.alike hK⟩, hS.F ht⟩) hS.2.2 dX6_begin_31
  · have c29 := (ax_eq (n := 0) (by decide)).mp c29
    refine lv_aload_n hx hb dX6_begin_7 rfl (lv_at hl 0 rfl) ?_
    refine lv_iconst (v := 3) hx hb dX6_begin_8 (by decide) ?_
    refine va_calli (va_runV (As := [.int 3]) (rest := []) ⟨hx, hb, hml, hown, hts⟩ (s_X6_refuse l dC dI H.size hLK D F a0 3 ha0 (by decide) hI) (cwV 1 hts (ax_gV T_194 T_195 T_196 T_193 T_10) rfl rfl rfl (by decide +kernel) ⟨Nat.le_of_ble_eq_true rfl, Nat.le_of_ble_eq_true rfl⟩) ⟨fun a U g mk q => ⟨q.1, s_pc (U := U) rfl rfl q.2⟩, s_recv hK hP (hLK _ ha0 (by decide)) (ci := 6) rfl o28, fun U hU hW => ⟨rfl, s_pw hU hW hP hK hD hN⟩⟩ rfl rfl hl.1 rfl (lv_room (Nat.le_of_ble_eq_true rfl)) dX6_begin_9 ⟨Nat.zero_le _, Nat.zero_le _⟩) hS (fun q _ h => h) (fun q h => h) (fun r94 F95 t H1 locs ht hvm hw hB hz1 hk1 hS => ?_)
    obtain ⟨hP, hK1⟩ := hB
    rw [ht] at hP
    generalize H1 = H at hP hS ⊢
    clear hz1 hk1
    obtain ⟨h96, h97, hI, hfr1⟩ := hw
    have o98 : F95 a0 = .inr (6, [.ref z1, .int z3, .ref z5, .ref z7, .ref z9, .int z11, .ref z12, .ref z14, .int z16, .int z18, .ref z20, .ref z22, .ref z24, .long z26]) := (hfr1 _ (by rw [ha0]; decide)).trans o28
    have hfr : ∀ b, K b ∉ [1, 5, 6, 7, 24, 27, 28, 29, 30, 31, 32, 39] → F95 b = F b := fun b hb9 => (hfr1 b (fun q => hb9 (s_sub (by decide) q))).trans (hfr b hb9)
    refine lv_pop hx hb dX6_begin_12 rfl ?_
    refine lv_iconst (v := 0) hx hb dX6_begin_13 (by decide) ?_
    exact W.zret (v := 0) (ty := .boolean) hx hb hr (by decide) (fun t ht hW => ⟨⟨0, F95, rfl, ⟨(by decide), trivial, hI, hfr⟩, by rw [ht]; exact hP, va_K.moved hW.alike hK⟩, hS.F ht⟩) hS.2.2 dX6_begin_14

set_option maxHeartbeats 4000000 in
set_option maxRecDepth 100000 in
theorem s_X6_undo (l : Launch) (dC : Nat → ClassId) (dI : Nat → Nat → Nat) (sz : Nat) {L : List Nat} {K : Nat → Nat} {cs : Nat → ClassId} (hLK : ∀ a {k : Nat}, K a = k → k ≠ 0 → a ∈ L) (D : Nat) (F : Nat → va_E) (a0 : Nat) (ha0 : K a0 = 7) (hI : s_I K cs D F) : Met l yX6_undo (Cond.code yX6_undo cX6_undo 1 (some .boolean) :: T0) ({ frames := 3, cells := 0, slots := 0, locals := 103 }) (va_Pc [.ref a0] (s_W dC dI sz L F [(cs 0, .int), (cs 1, .byte), (cs 2, .long), (cs 3, .object RX5), (cs 4, .object RX4), (cs 5, .array .int), (cs 6, .char), (cs 7, .boolean)])) (va_Qi (fun (r : Int32) (G : Nat → va_E) => (0 ≤ r.toInt ∧ r.toInt ≤ 1) ∧ True ∧ s_I K cs D G ∧ ∀ b, K b ∉ [1, 5, 6, 7, 24, 27, 28, 29, 30, 31, 32, 39] → G b = F b) (fun (G : Nat → va_E) (t : State) => va_P (dC, dI) vwCl (va_pl L G) t.heap ∧ va_K (dC, dI) vwCl [(cs 0, .int), (cs 1, .byte), (cs 2, .long), (cs 3, .object RX5), (cs 4, .object RX4), (cs 5, .array .int), (cs 6, .char), (cs 7, .boolean)] t) (fun q => q ∈ L)) 0 0 (fun q => q ∈ L) := by
  refine Met.ofW (cc := cX6_undo) (maxL := 1) (ret := (some .boolean)) (by decide) rfl ?_
  intro p e s m args below meth c s₁ B hml hv
  obtain ⟨rfl, hsz, hP, hK, hD, hN⟩ := hv
  have hx := B.exec
  have hb := B.bytes
  have hr := B.returns
  have hts : ∀ w ∈ T0, w.before _ s = true := fun w h => atoms_spec (ws := Cond.code yX6_undo cX6_undo 1 (some .boolean) :: T0) B.pre w (List.mem_cons_of_mem _ h)
  have hown : s.vm.findClass RX6 = some m.cls := findClass_of_methodNamed B.named
  have hlocks := B.notSynchronized
  have hS : va_S (fun q => q ∈ L) s.heap s.heap [] := va_S.rf
  have hfr : ∀ b, K b ∉ [1, 5, 6, 7, 24, 27, 28, 29, 30, 31, 32, 39] → F b = F b := fun _ _ => rfl
  have hl := lv_entry ([.ref a0]) (n := 1) (Nat.le_of_ble_eq_true rfl)
  rw [lg_entry_eq]
  generalize (lg_sl ([.ref a0]) ++ List.replicate (1 - (lg_sl ([.ref a0])).length) Slot.unset).toArray = ls at hl ⊢
  have hl : lv_has ls 1 [(0, .ref a0)] := hl
  refine s_gen hP hS (fun H locs hP hS => ?_)
  refine lv_aload_n hx hb dX6_undo_0 rfl (lv_at hl 0 rfl) ?_
  obtain ⟨z1, z3, z5, z7, z9, z11, z12, z14, z16, z18, z20, z22, z24, z26, o28, h2, h4, h6, h8, h10, h13, h15, h17, h19, h21, h23, h25, h27, -⟩ := s_op7 hI ha0
  refine th_get (D := (dC, dI)) (ci := 6) (v := .int z18) (C := RX6) (T := TX6) (N := 14) hx hb hts inX6 hown hK hP (hLK _ ha0 (by decide)) o28 rfl 9 (by decide) (hts _ T_238) (fun _ h9 => h9) rfl dX6_undo_1 ?_
  refine lv_if_ne (tgt := 15) hx hb dX6_undo_4 (by decide) (fun c29 => ?_) (fun c29 => ?_)
  · have c29 := mt (ax_eq (n := 0) (by decide)).mpr c29
    refine lv_aload_n hx hb dX6_undo_15 rfl (lv_at hl 0 rfl) ?_
    refine lv_dup hx hb dX6_undo_16 rfl ?_
    refine th_get (D := (dC, dI)) (ci := 6) (v := .int z18) (C := RX6) (T := TX6) (N := 14) hx hb hts inX6 hown hK hP (hLK _ ha0 (by decide)) o28 rfl 9 (by decide) (hts _ T_238) (fun _ h9 => h9) rfl dX6_undo_17 ?_
    refine lv_iconst (v := 1) hx hb dX6_undo_20 (by decide) ?_
    refine lv_isub hx hb dX6_undo_21 ?_
    refine lv_topi (fun v30 ev30 => ?_)
    have qv30 : v30.toInt = z18.toInt - 1 := by rw [ev30]; exact th_sub rfl (by decide) ⟨by omega, by omega⟩
    refine th_put (D := (dC, dI)) (ci := 6) (v := .int v30) (ty := .int) (C := RX6) (T := TX6) (N := 14) hx hb hts inX6 tyX6 tyX6_ok nmX6 hown hK hP hD hS (hLK _ ha0 (by decide)) o28 rfl 9 (by decide) (hts _ T_238) (fun _ h9 => h9) rfl (by decide +kernel) rfl rfl (Nat.le_of_ble_eq_true rfl) dX6_undo_22 (fun H locs hP hS => ?_)
    have hP : va_P (dC, dI) vwCl (va_pl L (va_up F a0 (.inr (6, [.ref z1, .int z3, .ref z5, .ref z7, .ref z9, .int z11, .ref z12, .ref z14, .int z16, .int v30, .ref z20, .ref z22, .ref z24, .long z26])))) H := hP
    obtain ⟨F31, hF32⟩ : ∃ G : Nat → va_E, G = va_up F a0 (.inr (6, [.ref z1, .int z3, .ref z5, .ref z7, .ref z9, .int z11, .ref z12, .ref z14, .int z16, .int v30, .ref z20, .ref z22, .ref z24, .long z26])) := ⟨_, rfl⟩
    rw [← hF32] at hP
    have hI : s_I K cs D F31 := by rw [hF32]; exact s_cl7 hI ha0 ⟨z1, z3, z5, z7, z9, z11, z12, z14, z16, v30, z20, z22, z24, z26, rfl, h2, ⟨by omega, by omega⟩, h6, h8, h10, h13, h15, ⟨by omega, by omega⟩, ⟨by omega, by omega⟩, h21, h23, h25, h27, trivial⟩
    have hfr : ∀ b, K b ∉ [1, 5, 6, 7, 24, 27, 28, 29, 30, 31, 32, 39] → F31 b = F b := by rw [hF32]; exact s_fr hfr ha0 (by decide)
    have o33 : F31 a0 = .inr (6, [.ref z1, .int z3, .ref z5, .ref z7, .ref z9, .int z11, .ref z12, .ref z14, .int z16, .int v30, .ref z20, .ref z22, .ref z24, .long z26]) := by rw [hF32]; exact th_up
    refine lv_aload_n hx hb dX6_undo_25 rfl (lv_at hl 0 rfl) ?_
    refine th_get (D := (dC, dI)) (ci := 6) (v := .ref z12) (C := RX6) (T := TX6) (N := 14) hx hb hts inX6 hown hK hP (hLK _ ha0 (by decide)) o33 rfl 6 (by decide) (hts _ T_174) (fun _ h9 => h9) rfl dX6_undo_26 ?_
    refine lv_aload_n hx hb dX6_undo_29 rfl (lv_at hl 0 rfl) ?_
    refine th_get (D := (dC, dI)) (ci := 6) (v := .ref z14) (C := RX6) (T := TX6) (N := 14) hx hb hts inX6 hown hK hP (hLK _ ha0 (by decide)) o33 rfl 7 (by decide) (hts _ T_175) (fun _ h9 => h9) rfl dX6_undo_30 ?_
    refine lv_aload_n hx hb dX6_undo_33 rfl (lv_at hl 0 rfl) ?_
    refine th_get (D := (dC, dI)) (ci := 6) (v := .int z16) (C := RX6) (T := TX6) (N := 14) hx hb hts inX6 hown hK hP (hLK _ ha0 (by decide)) o33 rfl 8 (by decide) (hts _ T_950) (fun _ h9 => h9) rfl dX6_undo_34 ?_
    refine lv_aload_n hx hb dX6_undo_37 rfl (lv_at hl 0 rfl) ?_
    refine th_get (D := (dC, dI)) (ci := 6) (v := .int v30) (C := RX6) (T := TX6) (N := 14) hx hb hts inX6 hown hK hP (hLK _ ha0 (by decide)) o33 rfl 9 (by decide) (hts _ T_238) (fun _ h9 => h9) rfl dX6_undo_38 ?_
    refine lv_iadd hx hb dX6_undo_41 ?_
    refine lv_topi (fun v34 ev34 => ?_)
    have qv34 : v34.toInt = z16.toInt + v30.toInt := by rw [ev34]; exact th_add rfl rfl ⟨by omega, by omega⟩
    refine lv_bipush (v := 20) hx hb dX6_undo_42 (by decide) ?_
    refine lv_irem hx hb dX6_undo_44 (by decide) ?_
    refine lv_topi (fun v35 ev35 => ?_)
    have qv35 : v35.toInt = v34.toInt % 20 := by rw [ev35]; exact th_rem rfl (by decide) (by omega) (by decide)
    obtain ⟨f36, o37, h38⟩ := s_op33 hI h15
    obtain ⟨z39, o41, h40⟩ := h38 (v35 : Int32).toNatClampNeg (th_cl ⟨by omega, by omega⟩)
    refine th_aald hx hb hK hP (hLK _ h15 (by decide)) 4 o37 rfl (th_in ⟨by omega, by omega⟩) o41 dX6_undo_45 ?_
    obtain ⟨z42, z44, z46, z48, z50, z52, z54, z56, z58, z60, z62, z64, z65, z67, z68, o70, h43, h45, h47, h49, h51, h53, h55, h57, h59, h61, h63, h66, h69, -⟩ := s_op5 hI h13
    refine va_callv (va_runV (As := [.ref z39]) (rest := []) ⟨hx, hb, hml, hown, hts⟩ (s_X4_copyFrom l dC dI H.size hLK D F31 z12 z39 h13 h40 hI) (cwV 1 hts (ax_gV T_951 T_560 T_561 T_142 T_559) rfl rfl rfl (by decide +kernel) ⟨Nat.le_of_ble_eq_true rfl, Nat.le_of_ble_eq_true rfl⟩) ⟨fun a U g mk q => ⟨q.1, s_pc (U := U) rfl rfl q.2⟩, s_recv hK hP (hLK _ h13 (by decide)) (ci := 4) rfl o70, fun U hU hW => ⟨rfl, s_pw hU hW hP hK hD hN⟩⟩ rfl rfl hl.1 rfl (lv_room (Nat.le_of_ble_eq_true rfl)) dX6_undo_46 ⟨Nat.zero_le _, Nat.zero_le _⟩) hS (fun q _ h => h) (fun q h => h) (fun F71 t H1 locs ht hvm hw hB hz1 hk1 hS => ?_)
    obtain ⟨hP, hK1⟩ := hB
    rw [ht] at hP
    generalize H1 = H at hP hS ⊢
    clear hz1 hk1
    obtain ⟨h72, h73, hI, hfr1⟩ := hw
    have o74 : F71 a0 = .inr (6, [.ref z1, .int z3, .ref z5, .ref z7, .ref z9, .int z11, .ref z12, .ref z14, .int z16, .int v30, .ref z20, .ref z22, .ref z24, .long z26]) := (hfr1 _ (by rw [ha0]; decide)).trans o33
    have hfr : ∀ b, K b ∉ [1, 5, 6, 7, 24, 27, 28, 29, 30, 31, 32, 39] → F71 b = F b := fun b hb9 => (hfr1 b (fun q => hb9 (s_sub (by decide) q))).trans (hfr b hb9)
    refine lv_aload_n hx hb dX6_undo_49 rfl (lv_at hl 0 rfl) ?_
    refine th_get (D := (dC, dI)) (ci := 6) (v := .ref z22) (C := RX6) (T := TX6) (N := 14) hx hb hts inX6 hown hK hP (hLK _ ha0 (by decide)) o74 rfl 11 (by decide) (hts _ T_182) (fun _ h9 => h9) rfl dX6_undo_50 ?_
    obtain ⟨z75, z77, z79, z81, z83, z85, z86, z88, z89, z91, z92, z94, z96, z98, o101, h76, h78, h80, h82, h84, h87, h90, h93, h95, h97, h99, h100, -⟩ := s_op1 hI h23
    refine va_callv (va_runV (As := []) (rest := []) ⟨hx, hb, hml, hown, hts⟩ (s_X0_forgetAhead l dC dI H.size hLK D F71 z22 h23 hI) (cwV 0 hts (ax_gV T_952 T_954 T_955 T_180 T_953) rfl rfl rfl (by decide +kernel) ⟨Nat.le_of_ble_eq_true rfl, Nat.le_of_ble_eq_true rfl⟩) ⟨fun a U g mk q => ⟨q.1, s_pc (U := U) rfl rfl q.2⟩, s_recv hK hP (hLK _ h23 (by decide)) (ci := 0) rfl o101, fun U hU hW => ⟨rfl, s_pw hU hW hP hK hD hN⟩⟩ rfl rfl hl.1 rfl (lv_room (Nat.le_of_ble_eq_true rfl)) dX6_undo_53 ⟨Nat.zero_le _, Nat.zero_le _⟩) hS (fun q _ h => h) (fun q h => h) (fun F102 t H1 locs ht hvm hw hB hz1 hk1 hS => ?_)
    obtain ⟨hP, hK1⟩ := hB
    rw [ht] at hP
    generalize H1 = H at hP hS ⊢
    clear hz1 hk1
    obtain ⟨h103, h104, hI, hfr1⟩ := hw
    have o105 : F102 a0 = .inr (6, [.ref z1, .int z3, .ref z5, .ref z7, .ref z9, .int z11, .ref z12, .ref z14, .int z16, .int v30, .ref z20, .ref z22, .ref z24, .long z26]) := (hfr1 _ (by rw [ha0]; decide)).trans o74
    have hfr : ∀ b, K b ∉ [1, 5, 6, 7, 24, 27, 28, 29, 30, 31, 32, 39] → F102 b = F b := fun b hb9 => (hfr1 b (fun q => hb9 (s_sub (by decide) q))).trans (hfr b hb9)
    refine lv_iconst (v := 1) hx hb dX6_undo_56 (by decide) ?_
    exact W.zret (v := 1) (ty := .boolean) hx hb hr (by decide) (fun t ht hW => ⟨⟨1, F102, rfl, ⟨(by decide), trivial, hI, hfr⟩, by rw [ht]; exact hP, va_K.moved hW.alike hK⟩, hS.F ht⟩) hS.2.2 dX6_undo_57
  · have c29 := (ax_eq (n := 0) (by decide)).mp c29
    refine lv_aload_n hx hb dX6_undo_7 rfl (lv_at hl 0 rfl) ?_
    refine lv_iconst (v := 4) hx hb dX6_undo_8 (by decide) ?_
    refine va_calli (va_runV (As := [.int 4]) (rest := []) ⟨hx, hb, hml, hown, hts⟩ (s_X6_refuse l dC dI H.size hLK D F a0 4 ha0 (by decide) hI) (cwV 1 hts (ax_gV T_194 T_195 T_196 T_193 T_10) rfl rfl rfl (by decide +kernel) ⟨Nat.le_of_ble_eq_true rfl, Nat.le_of_ble_eq_true rfl⟩) ⟨fun a U g mk q => ⟨q.1, s_pc (U := U) rfl rfl q.2⟩, s_recv hK hP (hLK _ ha0 (by decide)) (ci := 6) rfl o28, fun U hU hW => ⟨rfl, s_pw hU hW hP hK hD hN⟩⟩ rfl rfl hl.1 rfl (lv_room (Nat.le_of_ble_eq_true rfl)) dX6_undo_9 ⟨Nat.zero_le _, Nat.zero_le _⟩) hS (fun q _ h => h) (fun q h => h) (fun r106 F107 t H1 locs ht hvm hw hB hz1 hk1 hS => ?_)
    obtain ⟨hP, hK1⟩ := hB
    rw [ht] at hP
    generalize H1 = H at hP hS ⊢
    clear hz1 hk1
    obtain ⟨h108, h109, hI, hfr1⟩ := hw
    have o110 : F107 a0 = .inr (6, [.ref z1, .int z3, .ref z5, .ref z7, .ref z9, .int z11, .ref z12, .ref z14, .int z16, .int z18, .ref z20, .ref z22, .ref z24, .long z26]) := (hfr1 _ (by rw [ha0]; decide)).trans o28
    have hfr : ∀ b, K b ∉ [1, 5, 6, 7, 24, 27, 28, 29, 30, 31, 32, 39] → F107 b = F b := fun b hb9 => (hfr1 b (fun q => hb9 (s_sub (by decide) q))).trans (hfr b hb9)
    refine lv_pop hx hb dX6_undo_12 rfl ?_
    refine lv_iconst (v := 0) hx hb dX6_undo_13 (by decide) ?_
    exact W.zret (v := 0) (ty := .boolean) hx hb hr (by decide) (fun t ht hW => ⟨⟨0, F107, rfl, ⟨(by decide), trivial, hI, hfr⟩, by rw [ht]; exact hP, va_K.moved hW.alike hK⟩, hS.F ht⟩) hS.2.2 dX6_undo_14

set_option maxHeartbeats 4000000 in
set_option maxRecDepth 100000 in
theorem s_X6_chance (l : Launch) (dC : Nat → ClassId) (dI : Nat → Nat → Nat) (sz : Nat) {L : List Nat} {K : Nat → Nat} {cs : Nat → ClassId} (hLK : ∀ a {k : Nat}, K a = k → k ≠ 0 → a ∈ L) (D : Nat) (Dm : Nat) (hDm : D + 8421 ≤ Dm) (hDM : Dm < 2147483647) (F : Nat → va_E) (a0 : Nat) (x1 : Int32) (ha0 : K a0 = 7) (hI : s_I K cs D F) (hPG : s_PG K cs F) : Met l yX6_chance (Cond.code yX6_chance cX6_chance 6 (some .int) :: T0) ({ frames := 6, cells := 0, slots := 0, locals := 137 }) (va_Pc [.ref a0, .int x1] (s_W dC dI sz L F [(cs 0, .int), (cs 1, .byte), (cs 2, .long), (cs 3, .object RX5), (cs 4, .object RX4), (cs 5, .array .int), (cs 6, .char), (cs 7, .boolean)])) (va_Qi (fun (r : Int32) (G : Nat → va_E) => True ∧ True ∧ s_I K cs Dm G ∧ ∀ b, K b ∉ [1, 2, 5, 6, 7, 24, 27, 28, 29, 30, 31, 32, 34, 35, 39] → G b = F b) (fun (G : Nat → va_E) (t : State) => va_P (dC, dI) vwCl (va_pl L G) t.heap ∧ va_K (dC, dI) vwCl [(cs 0, .int), (cs 1, .byte), (cs 2, .long), (cs 3, .object RX5), (cs 4, .object RX4), (cs 5, .array .int), (cs 6, .char), (cs 7, .boolean)] t) (fun q => q ∈ L)) 0 0 (fun q => q ∈ L) := by
  refine Met.ofW (cc := cX6_chance) (maxL := 6) (ret := (some .int)) (by decide) rfl ?_
  intro p e s m args below meth c s₁ B hml hv
  obtain ⟨rfl, hsz, hP, hK, hD, hN⟩ := hv
  have hx := B.exec
  have hb := B.bytes
  have hr := B.returns
  have hts : ∀ w ∈ T0, w.before _ s = true := fun w h => atoms_spec (ws := Cond.code yX6_chance cX6_chance 6 (some .int) :: T0) B.pre w (List.mem_cons_of_mem _ h)
  have hown : s.vm.findClass RX6 = some m.cls := findClass_of_methodNamed B.named
  have hlocks := B.notSynchronized
  have hS : va_S (fun q => q ∈ L) s.heap s.heap [] := va_S.rf
  have hfr : ∀ b, K b ∉ [1, 2, 5, 6, 7, 24, 27, 28, 29, 30, 31, 32, 34, 35, 39] → F b = F b := fun _ _ => rfl
  have hl := lv_entry ([.ref a0, .int x1]) (n := 6) (Nat.le_of_ble_eq_true rfl)
  rw [lg_entry_eq]
  generalize (lg_sl ([.ref a0, .int x1]) ++ List.replicate (6 - (lg_sl ([.ref a0, .int x1])).length) Slot.unset).toArray = ls at hl ⊢
  have hl : lv_has ls 6 [(0, .ref a0), (1, .int x1)] := hl
  have hI0 := hI
  refine s_gen hP hS (fun H locs hP hS => ?_)
  refine th_join (fun g H locs => ∃ (G : Nat → va_E) (ls : Array Slot) (Dn : Nat), g = F0 m 18 ls [] ∧ lv_has ls 6 [(0, .ref a0)] ∧ Dn + 0 ≤ Dm ∧ s_I K cs Dn G ∧ va_P (dC, dI) vwCl (va_pl L G) H ∧ va_S (fun q => q ∈ L) s.heap H locs ∧ (∀ b, K b ∉ [1, 2, 5, 6, 7, 24, 27, 28, 29, 30, 31, 32, 34, 35, 39] → G b = F b)) (fun K18 => ?_) ?_
  · refine lv_aload_n hx hb dX6_chance_0 rfl (lv_at hl 0 rfl) ?_
    obtain ⟨z1, z3, z5, z7, z9, z11, z12, z14, z16, z18, z20, z22, z24, z26, o28, h2, h4, h6, h8, h10, h13, h15, h17, h19, h21, h23, h25, h27, -⟩ := s_op7 hI ha0
    refine th_get (D := (dC, dI)) (ci := 6) (v := .int z11) (C := RX6) (T := TX6) (N := 14) hx hb hts inX6 hown hK hP (hLK _ ha0 (by decide)) o28 rfl 5 (by decide) (hts _ T_224) (fun _ h9 => h9) rfl dX6_chance_1 ?_
    refine lv_if_eq (tgt := 18) hx hb dX6_chance_4 (by decide) (fun c29 => ?_) (fun c29 => ?_)
    · have c29 := (ax_eq (n := 0) (by decide)).mp c29
      exact K18 _ _ _ ⟨F, _, D, rfl, lv_sub hl [0] rfl, by omega, hI, hP, hS, hfr⟩
    · have c29 := mt (ax_eq (n := 0) (by decide)).mpr c29
      refine lv_iload_n hx hb dX6_chance_7 rfl (lv_at hl 1 rfl) ?_
      refine lv_iconst (v := 1) hx hb dX6_chance_8 (by decide) ?_
      refine lv_icmp_lt (tgt := 18) hx hb dX6_chance_9 (by decide) (fun c30 => ?_) (fun c30 => ?_)
      · have c30 := (ax_lt (n := 1) (by decide)).mp c30
        exact K18 _ _ _ ⟨F, _, D, rfl, lv_sub hl [0] rfl, by omega, hI, hP, hS, hfr⟩
      · have c30 := mt (ax_lt (n := 1) (by decide)).mpr c30
        refine lv_iload_n hx hb dX6_chance_12 rfl (lv_at hl 1 rfl) ?_
        refine lv_bipush (v := 20) hx hb dX6_chance_13 (by decide) ?_
        refine lv_icmp_le (tgt := 24) hx hb dX6_chance_15 (by decide) (fun c31 => ?_) (fun c31 => ?_)
        · have c31 := (ax_le (n := 20) (by decide)).mp c31
          refine lv_aload_n hx hb dX6_chance_24 rfl (lv_at hl 0 rfl) ?_
          refine va_callv (va_runV (As := []) (rest := []) ⟨hx, hb, hml, hown, hts⟩ (s_X6_keepForUndo l dC dI H.size hLK D F a0 ha0 hI) (cwV 0 hts (ax_gV T_906 T_908 T_909 T_193 T_907) rfl rfl rfl (by decide +kernel) ⟨Nat.le_of_ble_eq_true rfl, Nat.le_of_ble_eq_true rfl⟩) ⟨fun a U g mk q => ⟨q.1, s_pc (U := U) rfl rfl q.2⟩, s_recv hK hP (hLK _ ha0 (by decide)) (ci := 6) rfl o28, fun U hU hW => ⟨rfl, s_pw hU hW hP hK hD hN⟩⟩ rfl rfl hl.1 rfl (lv_room (Nat.le_of_ble_eq_true rfl)) dX6_chance_25 ⟨Nat.zero_le _, Nat.zero_le _⟩) hS (fun q _ h => h) (fun q h => h) (fun F32 t H1 locs ht hvm hw hB hz1 hk1 hS => ?_)
          obtain ⟨hP, hK1⟩ := hB
          rw [ht] at hP
          generalize H1 = H at hP hS ⊢
          clear hz1 hk1
          obtain ⟨h33, h34, hI, hfr1⟩ := hw
          have hfr : ∀ b, K b ∉ [1, 2, 5, 6, 7, 24, 27, 28, 29, 30, 31, 32, 34, 35, 39] → F32 b = F b := fun b hb9 => (hfr1 b (fun q => hb9 (s_sub (by decide) q))).trans (hfr b hb9)
          refine lv_iconst (v := 0) hx hb dX6_chance_28 (by decide) ?_
          refine lv_istore_n (lv' := [(2, .int 0), (0, .ref a0), (1, .int x1)]) hx hb dX6_chance_29 rfl hl (by decide) rfl (fun ls hl => ?_)
          refine lv_iconst (v := 0) hx hb dX6_chance_30 (by decide) ?_
          refine lv_istore_n (lv' := [(3, .int 0), (2, .int 0), (0, .ref a0), (1, .int x1)]) hx hb dX6_chance_31 rfl hl (by decide) rfl (fun ls hl => ?_)
          refine th_loop (fun n g H locs => ∃ (G : Nat → va_E) (ls : Array Slot) (Dn : Nat) (w35 : Int32) (w36 : Int32), g = F0 m 32 ls [] ∧ lv_has ls 6 [(0, .ref a0), (1, .int x1), (2, .int w35), (3, .int w36)] ∧ Dn + 401 * n + 0 ≤ Dm ∧ s_I K cs Dn G ∧ va_P (dC, dI) vwCl (va_pl L G) H ∧ va_S (fun q => q ∈ L) s.heap H locs ∧ (∀ b, K b ∉ [1, 2, 5, 6, 7, 24, 27, 28, 29, 30, 31, 32, 34, 35, 39] → G b = F b) ∧ True ∧ (0 ≤ w36.toInt ∧ w36.toInt ≤ 20) ∧ (1 ≤ x1.toInt ∧ x1.toInt ≤ 20) ∧ n = (21 - w36.toInt).toNat) _ ⟨F32, _, D, 0, 0, rfl, lv_sub hl [2, 3, 1, 0] rfl, by have q7a : (0 : Int32).toInt = 0 := (by decide); omega, hI, hP, hS, hfr, trivial, (by decide), ⟨by omega, by omega⟩, rfl⟩ (fun n ih32 g H locs hq => ?_)
          obtain ⟨F9, ls, D40, w35, w36, rfl, hl, h41, hI, hP, hS, hfr, h37, h38, h39, hn⟩ := hq
          have hn_32 := hn
          obtain ⟨n_32, hn9_32⟩ : ∃ q, q = n := ⟨_, rfl⟩
          refine lv_iload_n hx hb dX6_chance_32 rfl (lv_at hl 3 rfl) ?_
          refine lv_iload_n hx hb dX6_chance_33 rfl (lv_at hl 1 rfl) ?_
          refine lv_icmp_ge (tgt := 100) hx hb dX6_chance_34 (by decide) (fun c42 => ?_) (fun c42 => ?_)
          · have c42 := Int32.le_iff_toInt_le.mp c42
            refine lv_iload_n hx hb dX6_chance_100 rfl (lv_at hl 2 rfl) ?_
            exact W.iret (v := w35) hx hb hr (fun t ht hW => ⟨⟨w35, F9, rfl, ⟨trivial, trivial, (s_mono (by omega) hI), hfr⟩, by rw [ht]; exact hP, va_K.moved hW.alike hK⟩, hS.F ht⟩) hS.2.2 dX6_chance_101
          · have c42 := mt Int32.le_iff_toInt_le.mpr c42
            refine lv_aload_n hx hb dX6_chance_37 rfl (lv_at hl 0 rfl) ?_
            refine lv_bipush (v := 64) hx hb dX6_chance_38 (by decide) ?_
            obtain ⟨z43, z45, z47, z49, z51, z53, z54, z56, z58, z60, z62, z64, z66, z68, o70, h44, h46, h48, h50, h52, h55, h57, h59, h61, h63, h65, h67, h69, -⟩ := s_op7 hI ha0
            refine va_calli (va_runV (As := [.int 64]) (rest := []) ⟨hx, hb, hml, hown, hts⟩ (s_X6_draw l dC dI H.size hLK D40 F9 a0 64 ha0 (by decide) hI) (cwV 1 hts (ax_gV T_925 T_927 T_928 T_193 T_926) rfl rfl rfl (by decide +kernel) ⟨Nat.le_of_ble_eq_true rfl, Nat.le_of_ble_eq_true rfl⟩) ⟨fun a U g mk q => ⟨q.1, s_pc (U := U) rfl rfl q.2⟩, s_recv hK hP (hLK _ ha0 (by decide)) (ci := 6) rfl o70, fun U hU hW => ⟨rfl, s_pw hU hW hP hK hD hN⟩⟩ rfl rfl hl.1 rfl (lv_room (Nat.le_of_ble_eq_true rfl)) dX6_chance_40 ⟨Nat.zero_le _, Nat.zero_le _⟩) hS (fun q _ h => h) (fun q h => h) (fun r71 F72 t H1 locs ht hvm hw hB hz1 hk1 hS => ?_)
            obtain ⟨hP, hK1⟩ := hB
            rw [ht] at hP
            generalize H1 = H at hP hS ⊢
            clear hz1 hk1
            obtain ⟨h73, h74, hI, hfr1⟩ := hw
            have hfr : ∀ b, K b ∉ [1, 2, 5, 6, 7, 24, 27, 28, 29, 30, 31, 32, 34, 35, 39] → F72 b = F b := fun b hb9 => (hfr1 b (fun q => hb9 (s_sub (by decide) q))).trans (hfr b hb9)
            obtain ⟨h74, h75⟩ := h74
            have h75 : (0 ≤ r71.toInt ∧ r71.toInt < 64) := h75
            refine lv_istore (lv' := [(4, .int r71), (0, .ref a0), (1, .int x1), (2, .int w35), (3, .int w36)]) hx hb dX6_chance_43 hl (by decide) rfl (fun ls hl => ?_)
            refine lv_aload_n hx hb dX6_chance_45 rfl (lv_at hl 1 rfl) ?_
            obtain ⟨z76, z78, z80, z82, z84, z86, z87, z89, z91, z93, z95, z97, z99, z101, o103, h77, h79, h81, h83, h85, h88, h90, h92, h94, h96, h98, h100, h102, -⟩ := s_op7 hI ha0
            refine th_get (D := (dC, dI)) (ci := 6) (v := .ref z87) (C := RX6) (T := TX6) (N := 14) hx hb hts inX6 hown hK hP (hLK _ ha0 (by decide)) o103 rfl 6 (by decide) (hts _ T_174) (fun _ h9 => h9) rfl dX6_chance_46 ?_
            obtain ⟨z104, z106, z108, z110, z112, z114, z116, z118, z120, z122, z124, z126, z127, z129, z130, o132, h105, h107, h109, h111, h113, h115, h117, h119, h121, h123, h125, h128, h131, -⟩ := s_op5 hI h88
            refine th_getN (D := (dC, dI)) (ci := 4) (v := .ref z106) (C := RX4) (T := TX4) (N := 15) hx hb hts inX4 hown hK hP (hLK _ h88 (by decide)) o132 rfl 1 (by decide) (va_Nw.use rfl (ax_n58 hN)) (fun _ h9 => h9) rfl dX6_chance_49 ?_
            refine lv_iload hx hb dX6_chance_52 (lv_at hl 0 rfl) ?_
            refine lv_aload_n hx hb dX6_chance_54 rfl (lv_at hl 1 rfl) ?_
            refine lv_bipush (v := 16) hx hb dX6_chance_55 (by decide) ?_
            refine va_calli (va_runV (As := [.int 16]) (rest := [.int r71, .ref z106]) ⟨hx, hb, hml, hown, hts⟩ (s_X6_draw l dC dI H.size hLK D40 F72 a0 16 ha0 (by decide) hI) (cwV 1 hts (ax_gV T_925 T_927 T_928 T_193 T_926) rfl rfl rfl (by decide +kernel) ⟨Nat.le_of_ble_eq_true rfl, Nat.le_of_ble_eq_true rfl⟩) ⟨fun a U g mk q => ⟨q.1, s_pc (U := U) rfl rfl q.2⟩, s_recv hK hP (hLK _ ha0 (by decide)) (ci := 6) rfl o103, fun U hU hW => ⟨rfl, s_pw hU hW hP hK hD hN⟩⟩ rfl rfl hl.1 rfl (lv_room (Nat.le_of_ble_eq_true rfl)) dX6_chance_57 ⟨Nat.zero_le _, Nat.zero_le _⟩) hS (fun q _ h => h) (fun q h => h) (fun r133 F134 t H1 locs ht hvm hw hB hz1 hk1 hS => ?_)
            obtain ⟨hP, hK1⟩ := hB
            rw [ht] at hP
            generalize H1 = H at hP hS ⊢
            clear hz1 hk1
            obtain ⟨h135, h136, hI, hfr1⟩ := hw
            have o137 : F134 z87 = .inr (4, [.ref z104, .ref z106, .ref z108, .ref z110, .ref z112, .ref z114, .ref z116, .int z118, .int z120, .int z122, .int z124, .int z126, .int z127, .int z129, .int z130]) := (hfr1 _ (by rw [h88]; decide)).trans o132
            have hfr : ∀ b, K b ∉ [1, 2, 5, 6, 7, 24, 27, 28, 29, 30, 31, 32, 34, 35, 39] → F134 b = F b := fun b hb9 => (hfr1 b (fun q => hb9 (s_sub (by decide) q))).trans (hfr b hb9)
            obtain ⟨h136, h138⟩ := h136
            have h138 : (0 ≤ r133.toInt ∧ r133.toInt < 16) := h138
            obtain ⟨f139, o140, h141⟩ := s_op24 hI h107
            refine th_iast hx hb hK hP hD hS (hLK _ h107 (by decide)) 0 o140 rfl (th_in ⟨by omega, by omega⟩) dX6_chance_60 (fun H locs hP hS => ?_)
            have hP : va_P (dC, dI) vwCl (va_pl L (va_up F134 z106 (.inl (cs 0, 64, .inl (upd f139 (r71 : Int32).toNatClampNeg r133))))) H := hP
            obtain ⟨F142, hF143⟩ : ∃ G : Nat → va_E, G = va_up F134 z106 (.inl (cs 0, 64, .inl (upd f139 (r71 : Int32).toNatClampNeg r133))) := ⟨_, rfl⟩
            rw [← hF143] at hP
            have hI : s_I K cs D40 F142 := by rw [hF143]; exact s_cl24 hI h107 ⟨_, rfl, trivial⟩
            have hfr : ∀ b, K b ∉ [1, 2, 5, 6, 7, 24, 27, 28, 29, 30, 31, 32, 34, 35, 39] → F142 b = F b := by rw [hF143]; exact s_fr hfr h107 (by decide)
            have o144 : F142 z87 = .inr (4, [.ref z104, .ref z106, .ref z108, .ref z110, .ref z112, .ref z114, .ref z116, .int z118, .int z120, .int z122, .int z124, .int z126, .int z127, .int z129, .int z130]) := by rw [hF143]; exact th_ne (th_kd h88 h107 (by decide)) o137
            refine lv_aload_n hx hb dX6_chance_61 rfl (lv_at hl 1 rfl) ?_
            refine lv_bipush (v := 8) hx hb dX6_chance_62 (by decide) ?_
            obtain ⟨z145, z147, z149, z151, z153, z155, z156, z158, z160, z162, z164, z166, z168, z170, o172, h146, h148, h150, h152, h154, h157, h159, h161, h163, h165, h167, h169, h171, -⟩ := s_op7 hI ha0
            refine va_calli (va_runV (As := [.int 8]) (rest := []) ⟨hx, hb, hml, hown, hts⟩ (s_X6_draw l dC dI H.size hLK D40 F142 a0 8 ha0 (by decide) hI) (cwV 1 hts (ax_gV T_925 T_927 T_928 T_193 T_926) rfl rfl rfl (by decide +kernel) ⟨Nat.le_of_ble_eq_true rfl, Nat.le_of_ble_eq_true rfl⟩) ⟨fun a U g mk q => ⟨q.1, s_pc (U := U) rfl rfl q.2⟩, s_recv hK hP (hLK _ ha0 (by decide)) (ci := 6) rfl o172, fun U hU hW => ⟨rfl, s_pw hU hW hP hK hD hN⟩⟩ rfl rfl hl.1 rfl (lv_room (Nat.le_of_ble_eq_true rfl)) dX6_chance_64 ⟨Nat.zero_le _, Nat.zero_le _⟩) hS (fun q _ h => h) (fun q h => h) (fun r173 F174 t H1 locs ht hvm hw hB hz1 hk1 hS => ?_)
            obtain ⟨hP, hK1⟩ := hB
            rw [ht] at hP
            generalize H1 = H at hP hS ⊢
            clear hz1 hk1
            obtain ⟨h175, h176, hI, hfr1⟩ := hw
            have o177 : F174 z87 = .inr (4, [.ref z104, .ref z106, .ref z108, .ref z110, .ref z112, .ref z114, .ref z116, .int z118, .int z120, .int z122, .int z124, .int z126, .int z127, .int z129, .int z130]) := (hfr1 _ (by rw [h88]; decide)).trans o144
            have hfr : ∀ b, K b ∉ [1, 2, 5, 6, 7, 24, 27, 28, 29, 30, 31, 32, 34, 35, 39] → F174 b = F b := fun b hb9 => (hfr1 b (fun q => hb9 (s_sub (by decide) q))).trans (hfr b hb9)
            obtain ⟨h176, h178⟩ := h176
            have h178 : (0 ≤ r173.toInt ∧ r173.toInt < 8) := h178
            refine lv_iconst (v := 1) hx hb dX6_chance_67 (by decide) ?_
            refine lv_iadd hx hb dX6_chance_68 ?_
            refine lv_topi (fun v179 ev179 => ?_)
            have qv179 : v179.toInt = r173.toInt + 1 := by rw [ev179]; exact th_add rfl (by decide) ⟨by omega, by omega⟩
            refine lv_istore (lv' := [(5, .int v179), (4, .int r71), (0, .ref a0), (1, .int x1), (2, .int w35), (3, .int w36)]) hx hb dX6_chance_69 hl (by decide) rfl (fun ls hl => ?_)
            refine lv_iload_n hx hb dX6_chance_71 rfl (lv_at hl 4 rfl) ?_
            refine lv_aload_n hx hb dX6_chance_72 rfl (lv_at hl 2 rfl) ?_
            refine lv_iload hx hb dX6_chance_73 (lv_at hl 0 rfl) ?_
            refine lv_sipush (v := 9999) hx hb dX6_chance_75 (by decide) ?_
            refine lv_aload_n hx hb dX6_chance_78 rfl (lv_at hl 2 rfl) ?_
            obtain ⟨z180, z182, z184, z186, z188, z190, z191, z193, z195, z197, z199, z201, z203, z205, o207, h181, h183, h185, h187, h189, h192, h194, h196, h198, h200, h202, h204, h206, -⟩ := s_op7 hI ha0
            refine th_get (D := (dC, dI)) (ci := 6) (v := .ref z191) (C := RX6) (T := TX6) (N := 14) hx hb hts inX6 hown hK hP (hLK _ ha0 (by decide)) o207 rfl 6 (by decide) (hts _ T_174) (fun _ h9 => h9) rfl dX6_chance_79 ?_
            obtain ⟨z208, z210, z212, z214, z216, z218, z220, z222, z224, z226, z228, z230, z231, z233, z234, o236, h209, h211, h213, h215, h217, h219, h221, h223, h225, h227, h229, h232, h235, -⟩ := s_op5 hI h192
            refine th_getN (D := (dC, dI)) (ci := 4) (v := .int z230) (C := RX4) (T := TX4) (N := 15) hx hb hts inX4 hown hK hP (hLK _ h192 (by decide)) o236 rfl 11 (by decide) (va_Nw.use rfl (ax_n59 hN)) (fun _ h9 => h9) rfl dX6_chance_82 ?_
            refine lv_isub hx hb dX6_chance_85 ?_
            refine lv_topi (fun v237 ev237 => ?_)
            refine va_mmin hx hb (by rw [hml]; exact hl.1.symm) hown (hts _ T_235) (hts _ T_236) (hts _ T_237) (hts _ T_19) (Nat.le_of_ble_eq_true rfl) (Nat.le_of_ble_eq_true rfl) (Nat.zero_le _) (Nat.zero_le _) dX6_chance_86 ?_
            refine lv_topi (fun v238 ev238 => ?_)
            have qv238 := th_mmin (a := v179.toInt) (b := v237.toInt) ev238 rfl rfl
            refine va_calli (va_runV (As := [.int v238]) (rest := [.int w35]) ⟨hx, hb, hml, hown, hts⟩ (s_X6_run l dC dI H.size hLK D40 (D40 + 401) (Nat.le_refl _) (by omega) F174 a0 v238 ha0 (⟨th_lo v238, by omega⟩) hI (s_PGt hI0 hfr (by decide) hPG)) (cwV 1 hts (ax_gV T_929 T_931 T_932 T_193 T_930) rfl rfl rfl (by decide +kernel) ⟨Nat.le_of_ble_eq_true rfl, Nat.le_of_ble_eq_true rfl⟩) ⟨fun a U g mk q => ⟨q.1, s_pc (U := U) rfl rfl q.2⟩, s_recv hK hP (hLK _ ha0 (by decide)) (ci := 6) rfl o207, fun U hU hW => ⟨rfl, s_pw hU hW hP hK hD hN⟩⟩ rfl rfl hl.1 rfl (lv_room (Nat.le_of_ble_eq_true rfl)) dX6_chance_89 ⟨Nat.zero_le _, Nat.zero_le _⟩) hS (fun q _ h => h) (fun q h => h) (fun r239 F240 t H1 locs ht hvm hw hB hz1 hk1 hS => ?_)
            obtain ⟨hP, hK1⟩ := hB
            rw [ht] at hP
            generalize H1 = H at hP hS ⊢
            clear hz1 hk1
            obtain ⟨h241, h242, hI, hfr1⟩ := hw
            have o243 : F240 a0 = .inr (6, [.ref z180, .int z182, .ref z184, .ref z186, .ref z188, .int z190, .ref z191, .ref z193, .int z195, .int z197, .ref z199, .ref z201, .ref z203, .long z205]) := (hfr1 _ (by rw [ha0]; decide)).trans o207
            have hfr : ∀ b, K b ∉ [1, 2, 5, 6, 7, 24, 27, 28, 29, 30, 31, 32, 34, 35, 39] → F240 b = F b := fun b hb9 => (hfr1 b (fun q => hb9 (s_sub (by decide) q))).trans (hfr b hb9)
            refine lv_iadd hx hb dX6_chance_92 ?_
            refine lv_topi (fun v244 ev244 => ?_)
            refine lv_istore_n (lv' := [(2, .int v244), (5, .int v179), (4, .int r71), (0, .ref a0), (1, .int x1), (3, .int w36)]) hx hb dX6_chance_93 rfl hl (by decide) rfl (fun ls hl => ?_)
            obtain ⟨v245, ev245⟩ : ∃ y : Int32, w36 + 1 = y := ⟨_, rfl⟩
            have qv245 : v245.toInt = w36.toInt + 1 := by rw [← ev245]; exact th_add rfl (by decide) ⟨by omega, by omega⟩
            refine lv_iinc (v := v245) (lv' := [(3, .int v245), (2, .int v244), (5, .int v179), (4, .int r71), (0, .ref a0), (1, .int x1)]) hx hb dX6_chance_94 hl (k := 5) rfl ev245 (by decide) rfl (fun ls hl => ?_)
            refine lv_goto (tgt := 32) hx hb dX6_chance_97 (by decide) ?_
            exact ih32 _ _ _ _ (by omega) ⟨F240, _, (D40 + 401), v244, v245, rfl, lv_sub hl [4, 5, 1, 0] rfl, by omega, hI, hP, hS, hfr, trivial, ⟨by omega, by omega⟩, ⟨by omega, by omega⟩, rfl⟩
        · have c31 := mt (ax_le (n := 20) (by decide)).mpr c31
          exact K18 _ _ _ ⟨F, _, D, rfl, lv_sub hl [0] rfl, by omega, hI, hP, hS, hfr⟩
  · intro g H locs hq
    obtain ⟨F9, ls, D246, rfl, hl, h247, hI, hP, hS, hfr⟩ := hq
    refine lv_aload_n hx hb dX6_chance_18 rfl (lv_at hl 0 rfl) ?_
    refine lv_iconst (v := 2) hx hb dX6_chance_19 (by decide) ?_
    obtain ⟨z248, z250, z252, z254, z256, z258, z259, z261, z263, z265, z267, z269, z271, z273, o275, h249, h251, h253, h255, h257, h260, h262, h264, h266, h268, h270, h272, h274, -⟩ := s_op7 hI ha0
    refine va_calli (va_runV (As := [.int 2]) (rest := []) ⟨hx, hb, hml, hown, hts⟩ (s_X6_refuse l dC dI H.size hLK D246 F9 a0 2 ha0 (by decide) hI) (cwV 1 hts (ax_gV T_194 T_195 T_196 T_193 T_10) rfl rfl rfl (by decide +kernel) ⟨Nat.le_of_ble_eq_true rfl, Nat.le_of_ble_eq_true rfl⟩) ⟨fun a U g mk q => ⟨q.1, s_pc (U := U) rfl rfl q.2⟩, s_recv hK hP (hLK _ ha0 (by decide)) (ci := 6) rfl o275, fun U hU hW => ⟨rfl, s_pw hU hW hP hK hD hN⟩⟩ rfl rfl hl.1 rfl (lv_room (Nat.le_of_ble_eq_true rfl)) dX6_chance_20 ⟨Nat.zero_le _, Nat.zero_le _⟩) hS (fun q _ h => h) (fun q h => h) (fun r276 F277 t H1 locs ht hvm hw hB hz1 hk1 hS => ?_)
    obtain ⟨hP, hK1⟩ := hB
    rw [ht] at hP
    generalize H1 = H at hP hS ⊢
    clear hz1 hk1
    obtain ⟨h278, h279, hI, hfr1⟩ := hw
    have o280 : F277 a0 = .inr (6, [.ref z248, .int z250, .ref z252, .ref z254, .ref z256, .int z258, .ref z259, .ref z261, .int z263, .int z265, .ref z267, .ref z269, .ref z271, .long z273]) := (hfr1 _ (by rw [ha0]; decide)).trans o275
    have hfr : ∀ b, K b ∉ [1, 2, 5, 6, 7, 24, 27, 28, 29, 30, 31, 32, 34, 35, 39] → F277 b = F b := fun b hb9 => (hfr1 b (fun q => hb9 (s_sub (by decide) q))).trans (hfr b hb9)
    exact W.iret (v := r276) hx hb hr (fun t ht hW => ⟨⟨r276, F277, rfl, ⟨trivial, trivial, (s_mono (by omega) hI), hfr⟩, by rw [ht]; exact hP, va_K.moved hW.alike hK⟩, hS.F ht⟩) hS.2.2 dX6_chance_23

