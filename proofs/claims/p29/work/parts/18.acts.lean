set_option maxHeartbeats 4000000 in
set_option maxRecDepth 100000 in
theorem s_X6_next (l : Launch) (dC : Nat → ClassId) (dI : Nat → Nat → Nat) (sz : Nat) {L : List Nat} {K : Nat → Nat} {cs : Nat → ClassId} (hLK : ∀ a {k : Nat}, K a = k → k ≠ 0 → a ∈ L) (D : Nat) (F : Nat → va_E) (a0 : Nat) (x1 : Int32) (ha0 : K a0 = 7) (hI : s_I K cs D F) (hPG : s_PG K cs F) : Met l yX6_next (Cond.code yX6_next cX6_next 2 (some .int) :: T0) ({ frames := 4, cells := 0, slots := 0, locals := 92 }) (va_Pc [.ref a0, .int x1] (s_W dC dI sz L F [(cs 0, .int), (cs 1, .byte), (cs 2, .long), (cs 3, .object RX5), (cs 4, .object RX4), (cs 5, .array .int), (cs 6, .char), (cs 7, .boolean)])) (va_Qi (fun (r : Int32) (G : Nat → va_E) => True ∧ True ∧ s_I K cs D G ∧ ∀ b, K b ∉ [2, 34, 35] → G b = F b) (fun (G : Nat → va_E) (t : State) => va_P (dC, dI) vwCl (va_pl L G) t.heap ∧ va_K (dC, dI) vwCl [(cs 0, .int), (cs 1, .byte), (cs 2, .long), (cs 3, .object RX5), (cs 4, .object RX4), (cs 5, .array .int), (cs 6, .char), (cs 7, .boolean)] t) (fun q => q ∈ L)) 0 0 (fun q => q ∈ L) := by
  refine Met.ofW (cc := cX6_next) (maxL := 2) (ret := (some .int)) (by decide) rfl ?_
  intro p e s m args below meth c s₁ B hml hv
  obtain ⟨rfl, hsz, hP, hK, hD, hN⟩ := hv
  have hx := B.exec
  have hb := B.bytes
  have hr := B.returns
  have hts : ∀ w ∈ T0, w.before _ s = true := fun w h => atoms_spec (ws := Cond.code yX6_next cX6_next 2 (some .int) :: T0) B.pre w (List.mem_cons_of_mem _ h)
  have hown : s.vm.findClass RX6 = some m.cls := findClass_of_methodNamed B.named
  have hlocks := B.notSynchronized
  have hS : va_S (fun q => q ∈ L) s.heap s.heap [] := va_S.rf
  have hfr : ∀ b, K b ∉ [2, 34, 35] → F b = F b := fun _ _ => rfl
  have hl := lv_entry ([.ref a0, .int x1]) (n := 2) (Nat.le_of_ble_eq_true rfl)
  rw [lg_entry_eq]
  generalize (lg_sl ([.ref a0, .int x1]) ++ List.replicate (2 - (lg_sl ([.ref a0, .int x1])).length) Slot.unset).toArray = ls at hl ⊢
  have hl : lv_has ls 2 [(0, .ref a0), (1, .int x1)] := hl
  have hI0 := hI
  refine s_gen hP hS (fun H locs hP hS => ?_)
  refine lv_aload_n hx hb dX6_next_0 rfl (lv_at hl 0 rfl) ?_
  obtain ⟨z1, z3, z5, z7, z9, z11, z12, z14, z16, z18, z20, z22, z24, z26, o27, h2, h4, h6, h8, h10, h13, h15, h17, h19, h21, h23, h25, -⟩ := s_op7 hI ha0
  refine th_get (D := (dC, dI)) (ci := 6) (v := .int z11) (C := RX6) (T := TX6) (N := 14) hx hb hts inX6 hown hK hP (hLK _ ha0 (by decide)) o27 rfl 5 (by decide) (hts _ T_224) (fun _ h9 => h9) rfl dX6_next_1 ?_
  refine lv_if_eq (tgt := 34) hx hb dX6_next_4 (by decide) (fun c28 => ?_) (fun c28 => ?_)
  · have c28 := (ax_eq (n := 0) (by decide)).mp c28
    refine lv_iconst (v := (-1)) hx hb dX6_next_34 (by decide) ?_
    exact W.iret (v := (-1)) hx hb hr (fun t ht hW => ⟨⟨(-1), F, rfl, ⟨trivial, trivial, hI, hfr⟩, by rw [ht]; exact hP, va_K.moved hW.alike hK⟩, hS.F ht⟩) hS.2.2 dX6_next_35
  · have c28 := mt (ax_eq (n := 0) (by decide)).mpr c28
    refine lv_aload_n hx hb dX6_next_7 rfl (lv_at hl 0 rfl) ?_
    refine th_get (D := (dC, dI)) (ci := 6) (v := .ref z12) (C := RX6) (T := TX6) (N := 14) hx hb hts inX6 hown hK hP (hLK _ ha0 (by decide)) o27 rfl 6 (by decide) (hts _ T_174) (fun _ h9 => h9) rfl dX6_next_8 ?_
    obtain ⟨z29, z31, z33, z35, z37, z39, z41, z43, z45, z46, z47, z49, z50, z52, z53, o55, h30, h32, h34, h36, h38, h40, h42, h44, h48, h51, h54, -⟩ := s_op5 hI h13
    refine th_getN (D := (dC, dI)) (ci := 4) (v := .int z49) (C := RX4) (T := TX4) (N := 15) hx hb hts inX4 hown hK hP (hLK _ h13 (by decide)) o55 rfl 11 (by decide) (va_Nw.use rfl (ax_n59 hN)) (fun _ h9 => h9) rfl dX6_next_11 ?_
    refine lv_sipush (v := 9999) hx hb dX6_next_14 (by decide) ?_
    refine lv_icmp_ge (tgt := 34) hx hb dX6_next_17 (by decide) (fun c56 => ?_) (fun c56 => ?_)
    · have c56 := (ax_ge (n := 9999) (by decide)).mp c56
      refine lv_iconst (v := (-1)) hx hb dX6_next_34 (by decide) ?_
      exact W.iret (v := (-1)) hx hb hr (fun t ht hW => ⟨⟨(-1), F, rfl, ⟨trivial, trivial, hI, hfr⟩, by rw [ht]; exact hP, va_K.moved hW.alike hK⟩, hS.F ht⟩) hS.2.2 dX6_next_35
    · have c56 := mt (ax_ge (n := 9999) (by decide)).mpr c56
      refine lv_aload_n hx hb dX6_next_20 rfl (lv_at hl 0 rfl) ?_
      refine th_get (D := (dC, dI)) (ci := 6) (v := .ref z20) (C := RX6) (T := TX6) (N := 14) hx hb hts inX6 hown hK hP (hLK _ ha0 (by decide)) o27 rfl 10 (by decide) (hts _ T_177) (fun _ h9 => h9) rfl dX6_next_21 ?_
      refine lv_aload_n hx hb dX6_next_24 rfl (lv_at hl 0 rfl) ?_
      refine th_get (D := (dC, dI)) (ci := 6) (v := .ref z12) (C := RX6) (T := TX6) (N := 14) hx hb hts inX6 hown hK hP (hLK _ ha0 (by decide)) o27 rfl 6 (by decide) (hts _ T_174) (fun _ h9 => h9) rfl dX6_next_25 ?_
      obtain ⟨z57, z59, z61, z63, z65, z67, z68, z70, z71, z72, z74, z75, o76, h58, h60, h62, h64, h66, h69, h73, -⟩ := s_op2 hI h21
      refine va_calli (va_runV (As := [.ref z12]) (rest := []) ⟨hx, hb, hml, hown, hts⟩ (s_X1_foresee l dC dI H.size hLK D F z20 z12 h21 h13 hI (s_PGt hI0 hfr (by decide) hPG)) (cwV 1 hts (ax_gV T_969 T_703 T_704 T_137 T_702) rfl rfl rfl (by decide +kernel) ⟨Nat.le_of_ble_eq_true rfl, Nat.le_of_ble_eq_true rfl⟩) ⟨fun a U g mk q => ⟨q.1, s_pc rfl rfl q.2⟩, s_recv hK hP (hLK _ h21 (by decide)) (ci := 1) rfl o76, fun U hU hW => ⟨rfl, s_pw hU hW hP hK hD hN⟩⟩ rfl rfl hl.1 rfl (lv_room (Nat.le_of_ble_eq_true rfl)) dX6_next_28 ⟨Nat.zero_le _, Nat.zero_le _⟩) hS (fun q _ h => h) (fun q h => h) (fun r77 F78 t H1 locs ht hvm hw hB hz1 hk1 hS => ?_)
      obtain ⟨hP, hK1⟩ := hB
      rw [ht] at hP
      generalize H1 = H at hP hS ⊢
      obtain ⟨h79, h80, hI, hfr1, h81⟩ := hw
      have o82 : F78 a0 = .inr (6, [.ref z1, .int z3, .ref z5, .ref z7, .ref z9, .int z11, .ref z12, .ref z14, .int z16, .int z18, .ref z20, .ref z22, .ref z24, .long z26]) := (hfr1 _ (by rw [ha0]; decide)).trans o27
      have o83 : F78 z12 = .inr (4, [.ref z29, .ref z31, .ref z33, .ref z35, .ref z37, .ref z39, .ref z41, .int z43, .int z45, .int z46, .int z47, .int z49, .int z50, .int z52, .int z53]) := (hfr1 _ (by rw [h13]; decide)).trans o55
      have hfr : ∀ b, K b ∉ [2, 34, 35] → F78 b = F b := fun b hb9 => (hfr1 b (fun q => hb9 (s_sub (by decide) q))).trans (hfr b hb9)
      obtain ⟨h80, h84⟩ := h80
      have h84 : (¬ r77 = 0 → (∀ z0 z1 z2 z3 z4 z5 z6 z7 z8 z9 z10 z11 f g, F78 z20 = .inr (1, [.ref z0, .ref z1, .ref z2, .ref z3, .ref z4, .ref z5, .int z6, .int z7, .int z8, .int z9, .int z10, .long z11]) → F78 z0 = .inl (cs 0, 8, .inl f) → F78 z5 = .inl (cs 0, 7, .inl g) → ∀ i : Int32, 0 ≤ i.toInt → i.toInt < 8 → ¬ (z8 >>> (i &&& 31) &&& 1) = 0 → 9 ≤ (g 0).toInt → (g 0).toInt ≤ 11 → (f i.toNatClampNeg).toInt ≤ 31) ∧ (∀ z0 z1 z2 z3 z4 z5 z6 z7 z8 z9 z10 z11 g, F78 z20 = .inr (1, [.ref z0, .ref z1, .ref z2, .ref z3, .ref z4, .ref z5, .int z6, .int z7, .int z8, .int z9, .int z10, .long z11]) → F78 z5 = .inl (cs 0, 7, .inl g) → (g 0).toInt < 7 → 0 ≤ (g 1).toInt)) := h84
      refine lv_if_ne (tgt := 36) hx hb dX6_next_31 (by decide) (fun c85 => ?_) (fun c85 => ?_)
      · have c85 := mt (ax_eq (n := 0) (by decide)).mpr c85
        obtain ⟨z86, z88, z90, z92, z94, z96, z98, z100, z101, z102, z104, z105, o106, h87, h89, h91, h93, h95, h97, h99, h103, -⟩ := h81 (fun q => c85 (by rw [q]; decide))
        refine lv_iload_n hx hb dX6_next_36 rfl (lv_at hl 1 rfl) ?_
        by_cases c107 : x1 = 0
        · refine ax_eqi c107 ?_
          refine lv_tableIn (off := 31) (tgt := 68) hx hb dX6_next_37 (by decide) (by decide) (by decide) (by decide) ?_
          have c107 := (ax_eq (n := 0) (by decide)).mp c107
          refine lv_aload_n hx hb dX6_next_68 rfl (lv_at hl 0 rfl) ?_
          refine th_get (D := (dC, dI)) (ci := 6) (v := .ref z20) (C := RX6) (T := TX6) (N := 14) hx hb hts inX6 hown hK hP (hLK _ ha0 (by decide)) o82 rfl 10 (by decide) (hts _ T_177) (fun _ h9 => h9) rfl dX6_next_69 ?_
          refine th_getN (D := (dC, dI)) (ci := 1) (v := .int z98) (C := RX1) (T := TX1) (N := 12) hx hb hts inX1 hown hK hP (hLK _ h21 (by decide)) o106 rfl 6 (by decide) (va_Nw.use rfl (ax_n67 hN)) (fun _ h9 => h9) rfl dX6_next_72 ?_
          exact W.iret (v := z98) hx hb hr (fun t ht hW => ⟨⟨z98, F78, rfl, ⟨trivial, trivial, hI, hfr⟩, by rw [ht]; exact hP, va_K.moved hW.alike hK⟩, hS.F ht⟩) hS.2.2 dX6_next_75
        · have c107 := mt (ax_eq (n := 0) (by decide)).mpr c107
          by_cases c108 : x1 = 1
          · refine ax_eqi c108 ?_
            refine lv_tableIn (off := 39) (tgt := 76) hx hb dX6_next_37 (by decide) (by decide) (by decide) (by decide) ?_
            have c108 := (ax_eq (n := 1) (by decide)).mp c108
            refine lv_aload_n hx hb dX6_next_76 rfl (lv_at hl 0 rfl) ?_
            refine th_get (D := (dC, dI)) (ci := 6) (v := .ref z20) (C := RX6) (T := TX6) (N := 14) hx hb hts inX6 hown hK hP (hLK _ ha0 (by decide)) o82 rfl 10 (by decide) (hts _ T_177) (fun _ h9 => h9) rfl dX6_next_77 ?_
            refine th_getN (D := (dC, dI)) (ci := 1) (v := .int z100) (C := RX1) (T := TX1) (N := 12) hx hb hts inX1 hown hK hP (hLK _ h21 (by decide)) o106 rfl 7 (by decide) (va_Nw.use rfl (ax_n68 hN)) (fun _ h9 => h9) rfl dX6_next_80 ?_
            exact W.iret (v := z100) hx hb hr (fun t ht hW => ⟨⟨z100, F78, rfl, ⟨trivial, trivial, hI, hfr⟩, by rw [ht]; exact hP, va_K.moved hW.alike hK⟩, hS.F ht⟩) hS.2.2 dX6_next_83
          · have c108 := mt (ax_eq (n := 1) (by decide)).mpr c108
            by_cases c109 : x1 = 2
            · refine ax_eqi c109 ?_
              refine lv_tableIn (off := 47) (tgt := 84) hx hb dX6_next_37 (by decide) (by decide) (by decide) (by decide) ?_
              have c109 := (ax_eq (n := 2) (by decide)).mp c109
              refine lv_aload_n hx hb dX6_next_84 rfl (lv_at hl 0 rfl) ?_
              refine th_get (D := (dC, dI)) (ci := 6) (v := .ref z20) (C := RX6) (T := TX6) (N := 14) hx hb hts inX6 hown hK hP (hLK _ ha0 (by decide)) o82 rfl 10 (by decide) (hts _ T_177) (fun _ h9 => h9) rfl dX6_next_85 ?_
              refine th_getN (D := (dC, dI)) (ci := 1) (v := .int z101) (C := RX1) (T := TX1) (N := 12) hx hb hts inX1 hown hK hP (hLK _ h21 (by decide)) o106 rfl 8 (by decide) (va_Nw.use rfl (ax_n69 hN)) (fun _ h9 => h9) rfl dX6_next_88 ?_
              exact W.iret (v := z101) hx hb hr (fun t ht hW => ⟨⟨z101, F78, rfl, ⟨trivial, trivial, hI, hfr⟩, by rw [ht]; exact hP, va_K.moved hW.alike hK⟩, hS.F ht⟩) hS.2.2 dX6_next_91
            · have c109 := mt (ax_eq (n := 2) (by decide)).mpr c109
              by_cases c110 : x1 = 3
              · refine ax_eqi c110 ?_
                refine lv_tableIn (off := 55) (tgt := 92) hx hb dX6_next_37 (by decide) (by decide) (by decide) (by decide) ?_
                have c110 := (ax_eq (n := 3) (by decide)).mp c110
                refine lv_aload_n hx hb dX6_next_92 rfl (lv_at hl 0 rfl) ?_
                refine th_get (D := (dC, dI)) (ci := 6) (v := .ref z20) (C := RX6) (T := TX6) (N := 14) hx hb hts inX6 hown hK hP (hLK _ ha0 (by decide)) o82 rfl 10 (by decide) (hts _ T_177) (fun _ h9 => h9) rfl dX6_next_93 ?_
                refine th_getN (D := (dC, dI)) (ci := 1) (v := .int z104) (C := RX1) (T := TX1) (N := 12) hx hb hts inX1 hown hK hP (hLK _ h21 (by decide)) o106 rfl 10 (by decide) (va_Nw.use rfl (ax_n70 hN)) (fun _ h9 => h9) rfl dX6_next_96 ?_
                exact W.iret (v := z104) hx hb hr (fun t ht hW => ⟨⟨z104, F78, rfl, ⟨trivial, trivial, hI, hfr⟩, by rw [ht]; exact hP, va_K.moved hW.alike hK⟩, hS.F ht⟩) hS.2.2 dX6_next_99
              · have c110 := mt (ax_eq (n := 3) (by decide)).mpr c110
                refine lv_tableOut (tgt := 100) hx hb dX6_next_37 (by omega) (by decide) ?_
                refine lv_iconst (v := (-1)) hx hb dX6_next_100 (by decide) ?_
                exact W.iret (v := (-1)) hx hb hr (fun t ht hW => ⟨⟨(-1), F78, rfl, ⟨trivial, trivial, hI, hfr⟩, by rw [ht]; exact hP, va_K.moved hW.alike hK⟩, hS.F ht⟩) hS.2.2 dX6_next_101
      · have c85 := (ax_eq (n := 0) (by decide)).mp c85
        refine lv_iconst (v := (-1)) hx hb dX6_next_34 (by decide) ?_
        exact W.iret (v := (-1)) hx hb hr (fun t ht hW => ⟨⟨(-1), F78, rfl, ⟨trivial, trivial, hI, hfr⟩, by rw [ht]; exact hP, va_K.moved hW.alike hK⟩, hS.F ht⟩) hS.2.2 dX6_next_35

set_option maxHeartbeats 4000000 in
set_option maxRecDepth 100000 in
theorem s_X6_goes (l : Launch) (dC : Nat → ClassId) (dI : Nat → Nat → Nat) (sz : Nat) {L : List Nat} {K : Nat → Nat} {cs : Nat → ClassId} (hLK : ∀ a {k : Nat}, K a = k → k ≠ 0 → a ∈ L) (D : Nat) (Dm : Nat) (hDm : D + 2007 ≤ Dm) (hDM : Dm < 2147483647) (F : Nat → va_E) (a0 : Nat) (x1 : Int32) (ha0 : K a0 = 7) (hI : s_I K cs D F) (hPG : s_PG K cs F) : Met l yX6_goes (Cond.code yX6_goes cX6_goes 2 (some .int) :: T0) ({ frames := 7, cells := 0, slots := 0, locals := 163 }) (va_Pc [.ref a0, .int x1] (s_W dC dI sz L F [(cs 0, .int), (cs 1, .byte), (cs 2, .long), (cs 3, .object RX5), (cs 4, .object RX4), (cs 5, .array .int), (cs 6, .char), (cs 7, .boolean)])) (va_Qi (fun (r : Int32) (G : Nat → va_E) => True ∧ True ∧ s_I K cs Dm G ∧ ∀ b, K b ∉ [1, 2, 5, 6, 24, 27, 28, 29, 30, 31, 32, 34, 35, 36] → G b = F b) (fun (G : Nat → va_E) (t : State) => va_P (dC, dI) vwCl (va_pl L G) t.heap ∧ va_K (dC, dI) vwCl [(cs 0, .int), (cs 1, .byte), (cs 2, .long), (cs 3, .object RX5), (cs 4, .object RX4), (cs 5, .array .int), (cs 6, .char), (cs 7, .boolean)] t) (fun q => q ∈ L)) 0 0 (fun q => q ∈ L) := by
  refine Met.ofW (cc := cX6_goes) (maxL := 2) (ret := (some .int)) (by decide) rfl ?_
  intro p e s m args below meth c s₁ B hml hv
  obtain ⟨rfl, hsz, hP, hK, hD, hN⟩ := hv
  have hx := B.exec
  have hb := B.bytes
  have hr := B.returns
  have hts : ∀ w ∈ T0, w.before _ s = true := fun w h => atoms_spec (ws := Cond.code yX6_goes cX6_goes 2 (some .int) :: T0) B.pre w (List.mem_cons_of_mem _ h)
  have hown : s.vm.findClass RX6 = some m.cls := findClass_of_methodNamed B.named
  have hlocks := B.notSynchronized
  have hS : va_S (fun q => q ∈ L) s.heap s.heap [] := va_S.rf
  have hfr : ∀ b, K b ∉ [1, 2, 5, 6, 24, 27, 28, 29, 30, 31, 32, 34, 35, 36] → F b = F b := fun _ _ => rfl
  have hl := lv_entry ([.ref a0, .int x1]) (n := 2) (Nat.le_of_ble_eq_true rfl)
  rw [lg_entry_eq]
  generalize (lg_sl ([.ref a0, .int x1]) ++ List.replicate (2 - (lg_sl ([.ref a0, .int x1])).length) Slot.unset).toArray = ls at hl ⊢
  have hl : lv_has ls 2 [(0, .ref a0), (1, .int x1)] := hl
  have hI0 := hI
  refine s_gen hP hS (fun H locs hP hS => ?_)
  refine lv_aload_n hx hb dX6_goes_0 rfl (lv_at hl 0 rfl) ?_
  obtain ⟨z1, z3, z5, z7, z9, z11, z12, z14, z16, z18, z20, z22, z24, z26, o27, h2, h4, h6, h8, h10, h13, h15, h17, h19, h21, h23, h25, -⟩ := s_op7 hI ha0
  refine th_get (D := (dC, dI)) (ci := 6) (v := .int z11) (C := RX6) (T := TX6) (N := 14) hx hb hts inX6 hown hK hP (hLK _ ha0 (by decide)) o27 rfl 5 (by decide) (hts _ T_224) (fun _ h9 => h9) rfl dX6_goes_1 ?_
  refine lv_if_eq (tgt := 16) hx hb dX6_goes_4 (by decide) (fun c28 => ?_) (fun c28 => ?_)
  · have c28 := (ax_eq (n := 0) (by decide)).mp c28
    refine lv_iconst (v := (-1)) hx hb dX6_goes_16 (by decide) ?_
    exact W.iret (v := (-1)) hx hb hr (fun t ht hW => ⟨⟨(-1), F, rfl, ⟨trivial, trivial, (s_mono (by omega) hI), hfr⟩, by rw [ht]; exact hP, va_K.moved hW.alike hK⟩, hS.F ht⟩) hS.2.2 dX6_goes_17
  · have c28 := mt (ax_eq (n := 0) (by decide)).mpr c28
    refine lv_iload_n hx hb dX6_goes_7 rfl (lv_at hl 1 rfl) ?_
    refine lv_if_lt (tgt := 16) hx hb dX6_goes_8 (by decide) (fun c29 => ?_) (fun c29 => ?_)
    · have c29 := (ax_lt (n := 0) (by decide)).mp c29
      refine lv_iconst (v := (-1)) hx hb dX6_goes_16 (by decide) ?_
      exact W.iret (v := (-1)) hx hb hr (fun t ht hW => ⟨⟨(-1), F, rfl, ⟨trivial, trivial, (s_mono (by omega) hI), hfr⟩, by rw [ht]; exact hP, va_K.moved hW.alike hK⟩, hS.F ht⟩) hS.2.2 dX6_goes_17
    · have c29 := mt (ax_lt (n := 0) (by decide)).mpr c29
      refine lv_iload_n hx hb dX6_goes_11 rfl (lv_at hl 1 rfl) ?_
      refine lv_iconst (v := 3) hx hb dX6_goes_12 (by decide) ?_
      refine lv_icmp_lt (tgt := 18) hx hb dX6_goes_13 (by decide) (fun c30 => ?_) (fun c30 => ?_)
      · have c30 := (ax_lt (n := 3) (by decide)).mp c30
        refine lv_aload_n hx hb dX6_goes_18 rfl (lv_at hl 0 rfl) ?_
        refine th_get (D := (dC, dI)) (ci := 6) (v := .ref z22) (C := RX6) (T := TX6) (N := 14) hx hb hts inX6 hown hK hP (hLK _ ha0 (by decide)) o27 rfl 11 (by decide) (hts _ T_182) (fun _ h9 => h9) rfl dX6_goes_19 ?_
        refine lv_aload_n hx hb dX6_goes_22 rfl (lv_at hl 0 rfl) ?_
        refine th_get (D := (dC, dI)) (ci := 6) (v := .ref z12) (C := RX6) (T := TX6) (N := 14) hx hb hts inX6 hown hK hP (hLK _ ha0 (by decide)) o27 rfl 6 (by decide) (hts _ T_174) (fun _ h9 => h9) rfl dX6_goes_23 ?_
        refine lv_bipush (v := 16) hx hb dX6_goes_26 (by decide) ?_
        refine lv_iload_n hx hb dX6_goes_28 rfl (lv_at hl 1 rfl) ?_
        obtain ⟨z31, z33, z35, z37, z39, z41, z42, z44, z45, z47, z48, z50, z51, z52, o54, h32, h34, h36, h38, h40, h43, h46, h49, h53, -⟩ := s_op1 hI h23
        refine va_calli (va_runV (As := [.ref z12, .int 16, .int x1]) (rest := []) ⟨hx, hb, hml, hown, hts⟩ (s_X0_course l dC dI H.size hLK D (D + 2007) (Nat.le_refl _) (by omega) F z22 z12 16 x1 h23 h13 (by decide) (⟨by omega, by omega⟩) hI (s_PGt hI0 hfr (by decide) hPG)) (cwV 3 hts (ax_gV T_921 T_923 T_924 T_180 T_922) rfl rfl rfl (by decide +kernel) ⟨Nat.le_of_ble_eq_true rfl, Nat.le_of_ble_eq_true rfl⟩) ⟨fun a U g mk q => ⟨q.1, s_pc rfl rfl q.2⟩, s_recv hK hP (hLK _ h23 (by decide)) (ci := 0) rfl o54, fun U hU hW => ⟨rfl, s_pw hU hW hP hK hD hN⟩⟩ rfl rfl hl.1 rfl (lv_room (Nat.le_of_ble_eq_true rfl)) dX6_goes_29 ⟨Nat.zero_le _, Nat.zero_le _⟩) hS (fun q _ h => h) (fun q h => h) (fun r55 F56 t H1 locs ht hvm hw hB hz1 hk1 hS => ?_)
        obtain ⟨hP, hK1⟩ := hB
        rw [ht] at hP
        generalize H1 = H at hP hS ⊢
        obtain ⟨h57, h58, hI, hfr1⟩ := hw
        have o59 : F56 a0 = .inr (6, [.ref z1, .int z3, .ref z5, .ref z7, .ref z9, .int z11, .ref z12, .ref z14, .int z16, .int z18, .ref z20, .ref z22, .ref z24, .long z26]) := (hfr1 _ (by rw [ha0]; decide)).trans o27
        have hfr : ∀ b, K b ∉ [1, 2, 5, 6, 24, 27, 28, 29, 30, 31, 32, 34, 35, 36] → F56 b = F b := fun b hb9 => (hfr1 b (fun q => hb9 (s_sub (by decide) q))).trans (hfr b hb9)
        exact W.iret (v := r55) hx hb hr (fun t ht hW => ⟨⟨r55, F56, rfl, ⟨trivial, trivial, (s_mono (by omega) hI), hfr⟩, by rw [ht]; exact hP, va_K.moved hW.alike hK⟩, hS.F ht⟩) hS.2.2 dX6_goes_32
      · have c30 := mt (ax_lt (n := 3) (by decide)).mpr c30
        refine lv_iconst (v := (-1)) hx hb dX6_goes_16 (by decide) ?_
        exact W.iret (v := (-1)) hx hb hr (fun t ht hW => ⟨⟨(-1), F, rfl, ⟨trivial, trivial, (s_mono (by omega) hI), hfr⟩, by rw [ht]; exact hP, va_K.moved hW.alike hK⟩, hS.F ht⟩) hS.2.2 dX6_goes_17

set_option maxHeartbeats 4000000 in
set_option maxRecDepth 100000 in
theorem s_X6_later (l : Launch) (dC : Nat → ClassId) (dI : Nat → Nat → Nat) (sz : Nat) {L : List Nat} {K : Nat → Nat} {cs : Nat → ClassId} (hLK : ∀ a {k : Nat}, K a = k → k ≠ 0 → a ∈ L) (D : Nat) (Dm : Nat) (hDm : D + 401 ≤ Dm) (hDM : Dm < 2147483647) (F : Nat → va_E) (a0 : Nat) (x1 : Int32) (x2 : Int32) (x3 : Int32) (x4 : Int32) (ha0 : K a0 = 7) (hI : s_I K cs D F) (hPG : s_PG K cs F) : Met l yX6_later (Cond.code yX6_later cX6_later 6 (some .int) :: T0) ({ frames := 6, cells := 0, slots := 0, locals := 137 }) (va_Pc [.ref a0, .int x1, .int x2, .int x3, .int x4] (s_W dC dI sz L F [(cs 0, .int), (cs 1, .byte), (cs 2, .long), (cs 3, .object RX5), (cs 4, .object RX4), (cs 5, .array .int), (cs 6, .char), (cs 7, .boolean)])) (va_Qi (fun (r : Int32) (G : Nat → va_E) => True ∧ True ∧ s_I K cs Dm G ∧ ∀ b, K b ∉ [2, 5, 6, 24, 27, 28, 29, 30, 31, 32, 34, 35] → G b = F b) (fun (G : Nat → va_E) (t : State) => va_P (dC, dI) vwCl (va_pl L G) t.heap ∧ va_K (dC, dI) vwCl [(cs 0, .int), (cs 1, .byte), (cs 2, .long), (cs 3, .object RX5), (cs 4, .object RX4), (cs 5, .array .int), (cs 6, .char), (cs 7, .boolean)] t) (fun q => q ∈ L)) 0 0 (fun q => q ∈ L) := by
  refine Met.ofW (cc := cX6_later) (maxL := 6) (ret := (some .int)) (by decide) rfl ?_
  intro p e s m args below meth c s₁ B hml hv
  obtain ⟨rfl, hsz, hP, hK, hD, hN⟩ := hv
  have hx := B.exec
  have hb := B.bytes
  have hr := B.returns
  have hts : ∀ w ∈ T0, w.before _ s = true := fun w h => atoms_spec (ws := Cond.code yX6_later cX6_later 6 (some .int) :: T0) B.pre w (List.mem_cons_of_mem _ h)
  have hown : s.vm.findClass RX6 = some m.cls := findClass_of_methodNamed B.named
  have hlocks := B.notSynchronized
  have hS : va_S (fun q => q ∈ L) s.heap s.heap [] := va_S.rf
  have hfr : ∀ b, K b ∉ [2, 5, 6, 24, 27, 28, 29, 30, 31, 32, 34, 35] → F b = F b := fun _ _ => rfl
  have hl := lv_entry ([.ref a0, .int x1, .int x2, .int x3, .int x4]) (n := 6) (Nat.le_of_ble_eq_true rfl)
  rw [lg_entry_eq]
  generalize (lg_sl ([.ref a0, .int x1, .int x2, .int x3, .int x4]) ++ List.replicate (6 - (lg_sl ([.ref a0, .int x1, .int x2, .int x3, .int x4])).length) Slot.unset).toArray = ls at hl ⊢
  have hl : lv_has ls 6 [(0, .ref a0), (1, .int x1), (2, .int x2), (3, .int x3), (4, .int x4)] := hl
  have hI0 := hI
  refine s_gen hP hS (fun H locs hP hS => ?_)
  refine lv_aload_n hx hb dX6_later_0 rfl (lv_at hl 0 rfl) ?_
  refine lv_iload_n hx hb dX6_later_1 rfl (lv_at hl 2 rfl) ?_
  refine lv_iload_n hx hb dX6_later_2 rfl (lv_at hl 3 rfl) ?_
  obtain ⟨z1, z3, z5, z7, z9, z11, z12, z14, z16, z18, z20, z22, z24, z26, o27, h2, h4, h6, h8, h10, h13, h15, h17, h19, h21, h23, h25, -⟩ := s_op7 hI ha0
  refine va_calli (va_runV (As := [.int x2, .int x3]) (rest := []) ⟨hx, hb, hml, hown, hts⟩ (s_X6_hasLane l dC dI H.size hLK D F a0 x2 x3 ha0 hI) (cwV 2 hts (ax_gV T_229 T_230 T_231 T_193 T_17) rfl rfl rfl (by decide +kernel) ⟨Nat.le_of_ble_eq_true rfl, Nat.le_of_ble_eq_true rfl⟩) ⟨fun a U g mk q => ⟨q.1, s_pc rfl rfl q.2⟩, s_recv hK hP (hLK _ ha0 (by decide)) (ci := 6) rfl o27, fun U hU hW => ⟨rfl, s_pw hU hW hP hK hD hN⟩⟩ rfl rfl hl.1 rfl (lv_room (Nat.le_of_ble_eq_true rfl)) dX6_later_3 ⟨Nat.zero_le _, Nat.zero_le _⟩) hS (fun q _ h => h) (fun q h => h) (fun r28 F29 t H1 locs ht hvm hw hB hz1 hk1 hS => ?_)
  obtain ⟨hP, hK1⟩ := hB
  rw [ht] at hP
  generalize H1 = H at hP hS ⊢
  obtain ⟨h30, h31, hI, hfr1⟩ := hw
  have o32 : F29 a0 = .inr (6, [.ref z1, .int z3, .ref z5, .ref z7, .ref z9, .int z11, .ref z12, .ref z14, .int z16, .int z18, .ref z20, .ref z22, .ref z24, .long z26]) := (hfr1 _ (by rw [ha0]; decide)).trans o27
  have hfr : ∀ b, K b ∉ [2, 5, 6, 24, 27, 28, 29, 30, 31, 32, 34, 35] → F29 b = F b := fun b hb9 => (hfr1 b (fun q => hb9 (s_sub (by decide) q))).trans (hfr b hb9)
  refine lv_if_eq (tgt := 31) hx hb dX6_later_6 (by decide) (fun c33 => ?_) (fun c33 => ?_)
  · have c33 := (ax_eq (n := 0) (by decide)).mp c33
    refine lv_ldc (v := (-1000000)) hx hb hown (hts _ T_228) dX6_later_31 ?_
    exact W.iret (v := (-1000000)) hx hb hr (fun t ht hW => ⟨⟨(-1000000), F29, rfl, ⟨trivial, trivial, (s_mono (by omega) hI), hfr⟩, by rw [ht]; exact hP, va_K.moved hW.alike hK⟩, hS.F ht⟩) hS.2.2 dX6_later_33
  · have c33 := mt (ax_eq (n := 0) (by decide)).mpr c33
    have h34 := h31 (fun q => c33 (by rw [q]; decide))
    refine lv_iload hx hb dX6_later_9 (lv_at hl 4 rfl) ?_
    refine lv_if_lt (tgt := 31) hx hb dX6_later_11 (by decide) (fun c35 => ?_) (fun c35 => ?_)
    · have c35 := (ax_lt (n := 0) (by decide)).mp c35
      refine lv_ldc (v := (-1000000)) hx hb hown (hts _ T_228) dX6_later_31 ?_
      exact W.iret (v := (-1000000)) hx hb hr (fun t ht hW => ⟨⟨(-1000000), F29, rfl, ⟨trivial, trivial, (s_mono (by omega) hI), hfr⟩, by rw [ht]; exact hP, va_K.moved hW.alike hK⟩, hS.F ht⟩) hS.2.2 dX6_later_33
    · have c35 := mt (ax_lt (n := 0) (by decide)).mpr c35
      refine lv_iload hx hb dX6_later_14 (lv_at hl 4 rfl) ?_
      refine lv_iconst (v := 4) hx hb dX6_later_16 (by decide) ?_
      refine lv_icmp_ge (tgt := 31) hx hb dX6_later_17 (by decide) (fun c36 => ?_) (fun c36 => ?_)
      · have c36 := (ax_ge (n := 4) (by decide)).mp c36
        refine lv_ldc (v := (-1000000)) hx hb hown (hts _ T_228) dX6_later_31 ?_
        exact W.iret (v := (-1000000)) hx hb hr (fun t ht hW => ⟨⟨(-1000000), F29, rfl, ⟨trivial, trivial, (s_mono (by omega) hI), hfr⟩, by rw [ht]; exact hP, va_K.moved hW.alike hK⟩, hS.F ht⟩) hS.2.2 dX6_later_33
      · have c36 := mt (ax_ge (n := 4) (by decide)).mpr c36
        refine lv_iload_n hx hb dX6_later_20 rfl (lv_at hl 1 rfl) ?_
        refine lv_if_lt (tgt := 31) hx hb dX6_later_21 (by decide) (fun c37 => ?_) (fun c37 => ?_)
        · have c37 := (ax_lt (n := 0) (by decide)).mp c37
          refine lv_ldc (v := (-1000000)) hx hb hown (hts _ T_228) dX6_later_31 ?_
          exact W.iret (v := (-1000000)) hx hb hr (fun t ht hW => ⟨⟨(-1000000), F29, rfl, ⟨trivial, trivial, (s_mono (by omega) hI), hfr⟩, by rw [ht]; exact hP, va_K.moved hW.alike hK⟩, hS.F ht⟩) hS.2.2 dX6_later_33
        · have c37 := mt (ax_lt (n := 0) (by decide)).mpr c37
          refine lv_iload_n hx hb dX6_later_24 rfl (lv_at hl 1 rfl) ?_
          refine lv_sipush (v := 400) hx hb dX6_later_25 (by decide) ?_
          refine lv_icmp_le (tgt := 34) hx hb dX6_later_28 (by decide) (fun c38 => ?_) (fun c38 => ?_)
          · have c38 := (ax_le (n := 400) (by decide)).mp c38
            refine lv_aload_n hx hb dX6_later_34 rfl (lv_at hl 0 rfl) ?_
            refine th_get (D := (dC, dI)) (ci := 6) (v := .ref z22) (C := RX6) (T := TX6) (N := 14) hx hb hts inX6 hown hK hP (hLK _ ha0 (by decide)) o32 rfl 11 (by decide) (hts _ T_182) (fun _ h9 => h9) rfl dX6_later_35 ?_
            refine lv_aload_n hx hb dX6_later_38 rfl (lv_at hl 0 rfl) ?_
            refine th_get (D := (dC, dI)) (ci := 6) (v := .ref z12) (C := RX6) (T := TX6) (N := 14) hx hb hts inX6 hown hK hP (hLK _ ha0 (by decide)) o32 rfl 6 (by decide) (hts _ T_174) (fun _ h9 => h9) rfl dX6_later_39 ?_
            refine lv_iload_n hx hb dX6_later_42 rfl (lv_at hl 1 rfl) ?_
            obtain ⟨z39, z41, z43, z45, z47, z49, z50, z52, z53, z55, z56, z58, z59, z60, o62, h40, h42, h44, h46, h48, h51, h54, h57, h61, -⟩ := s_op1 hI h23
            refine va_callr (va_runV (As := [.ref z12, .int x1]) (rest := []) ⟨hx, hb, hml, hown, hts⟩ (s_X0_behind l dC dI H.size hLK D (D + 401) (Nat.le_refl _) (by omega) F29 z22 z12 x1 h23 h13 (⟨by omega, by omega⟩) hI (s_PGt hI0 hfr (by decide) hPG)) (cwV 2 hts (ax_gV T_960 T_962 T_963 T_180 T_961) rfl rfl rfl (by decide +kernel) ⟨Nat.le_of_ble_eq_true rfl, Nat.le_of_ble_eq_true rfl⟩) ⟨fun a U g mk q => ⟨q.1, s_pc rfl rfl q.2⟩, s_recv hK hP (hLK _ h23 (by decide)) (ci := 0) rfl o62, fun U hU hW => ⟨rfl, s_pw hU hW hP hK hD hN⟩⟩ rfl rfl hl.1 rfl (lv_room (Nat.le_of_ble_eq_true rfl)) dX6_later_43 ⟨Nat.zero_le _, Nat.zero_le _⟩) hS (fun q _ h => h) (fun q h => h) (fun F64 r63 t H1 locs ht hvm hw hB hz1 hk1 hS => ?_)
            obtain ⟨hk_r63, hP, hK1⟩ := hB
            rw [ht] at hP
            generalize H1 = H at hP hS ⊢
            obtain ⟨h65, h66, hI, hfr1⟩ := hw
            have o67 : F64 a0 = .inr (6, [.ref z1, .int z3, .ref z5, .ref z7, .ref z9, .int z11, .ref z12, .ref z14, .int z16, .int z18, .ref z20, .ref z22, .ref z24, .long z26]) := (hfr1 _ (by rw [ha0]; decide)).trans o32
            have o68 : F64 z22 = .inr (0, [.ref z39, .ref z41, .ref z43, .ref z45, .ref z47, .int z49, .ref z50, .long z52, .ref z53, .int z55, .ref z56, .int z58, .int z59, .int z60]) := (hfr1 _ (by rw [h23]; decide)).trans o62
            have hfr : ∀ b, K b ∉ [2, 5, 6, 24, 27, 28, 29, 30, 31, 32, 34, 35] → F64 b = F b := fun b hb9 => (hfr1 b (fun q => hb9 (s_sub (by decide) q))).trans (hfr b hb9)
            refine lv_astore (lv' := [(5, .ref r63), (0, .ref a0), (1, .int x1), (2, .int x2), (3, .int x3), (4, .int x4)]) hx hb dX6_later_46 hl (by decide) rfl (fun ls hl => ?_)
            refine lv_aload hx hb dX6_later_48 (lv_at hl 0 rfl) ?_
            obtain ⟨z69, z71, z73, z75, z77, z79, z81, z83, z85, z86, z87, z89, z90, z92, z93, o95, h70, h72, h74, h76, h78, h80, h82, h84, h88, h91, h94, -⟩ := s_op5 hI hk_r63
            refine th_getN (D := (dC, dI)) (ci := 4) (v := .ref z69) (C := RX4) (T := TX4) (N := 15) hx hb hts inX4 hown hK hP (hLK _ hk_r63 (by decide)) o95 rfl 0 (by decide) (va_Nw.use rfl (ax_n56 hN)) (fun _ h9 => h9) rfl dX6_later_50 ?_
            refine lv_iload_n hx hb dX6_later_53 rfl (lv_at hl 3 rfl) ?_
            obtain ⟨f96, o97, h98⟩ := s_op26 hI h70
            obtain ⟨z99, o101, h100⟩ := h98 (x2 : Int32).toNatClampNeg (th_cl ⟨by omega, by omega⟩)
            refine th_aald hx hb hK hP (hLK _ h70 (by decide)) 3 o97 rfl (th_in ⟨by omega, by omega⟩) o101 dX6_later_54 ?_
            obtain ⟨z102, z104, z106, z108, z110, z112, z114, z115, z116, z117, z118, o120, h103, h105, h107, h109, h111, h113, h119, -⟩ := s_op6 hI h100
            refine th_getN (D := (dC, dI)) (ci := 5) (v := .ref z102) (C := RX5) (T := TX5) (N := 11) hx hb hts inX5 hown hK hP (hLK _ h100 (by decide)) o120 rfl 0 (by decide) (va_Nw.use rfl (ax_n63 hN)) (fun _ h9 => h9) rfl dX6_later_55 ?_
            refine lv_iload_n hx hb dX6_later_58 rfl (lv_at hl 4 rfl) ?_
            refine lv_iconst (v := 4) hx hb dX6_later_59 (by decide) ?_
            refine lv_imul hx hb dX6_later_60 ?_
            refine lv_topi (fun v121 ev121 => ?_)
            have qv121 : v121.toInt = x3.toInt * 4 := by rw [ev121]; exact th_mul rfl (by decide) ⟨by omega, by omega⟩
            refine lv_iload hx hb dX6_later_61 (lv_at hl 5 rfl) ?_
            refine lv_iadd hx hb dX6_later_63 ?_
            refine lv_topi (fun v122 ev122 => ?_)
            have qv122 : v122.toInt = v121.toInt + x4.toInt := by rw [ev122]; exact th_add rfl rfl ⟨by omega, by omega⟩
            obtain ⟨f123, o124, h125⟩ := s_op30 hI h103
            refine th_iald hx hb hK hP (hLK _ h103 (by decide)) 0 o124 rfl (th_in ⟨by omega, by omega⟩) dX6_later_64 ?_
            refine lv_topi (fun v126 ev126 => ?_)
            exact W.iret (v := v126) hx hb hr (fun t ht hW => ⟨⟨v126, F64, rfl, ⟨trivial, trivial, (s_mono (by omega) hI), hfr⟩, by rw [ht]; exact hP, va_K.moved hW.alike hK⟩, hS.F ht⟩) hS.2.2 dX6_later_65
          · have c38 := mt (ax_le (n := 400) (by decide)).mpr c38
            refine lv_ldc (v := (-1000000)) hx hb hown (hts _ T_228) dX6_later_31 ?_
            exact W.iret (v := (-1000000)) hx hb hr (fun t ht hW => ⟨⟨(-1000000), F29, rfl, ⟨trivial, trivial, (s_mono (by omega) hI), hfr⟩, by rw [ht]; exact hP, va_K.moved hW.alike hK⟩, hS.F ht⟩) hS.2.2 dX6_later_33

set_option maxHeartbeats 4000000 in
set_option maxRecDepth 100000 in
theorem s_X6_by (l : Launch) (dC : Nat → ClassId) (dI : Nat → Nat → Nat) (sz : Nat) {L : List Nat} {K : Nat → Nat} {cs : Nat → ClassId} (hLK : ∀ a {k : Nat}, K a = k → k ≠ 0 → a ∈ L) (D : Nat) (Dm : Nat) (hDm : D + 2007 ≤ Dm) (hDM : Dm < 2147483647) (F : Nat → va_E) (a0 : Nat) (x1 : Int32) (x2 : Int32) (x3 : Int32) (ha0 : K a0 = 7) (hI : s_I K cs D F) (hPG : s_PG K cs F) : Met l yX6_by (Cond.code yX6_by cX6_by 4 (some .int) :: T0) ({ frames := 7, cells := 0, slots := 0, locals := 163 }) (va_Pc [.ref a0, .int x1, .int x2, .int x3] (s_W dC dI sz L F [(cs 0, .int), (cs 1, .byte), (cs 2, .long), (cs 3, .object RX5), (cs 4, .object RX4), (cs 5, .array .int), (cs 6, .char), (cs 7, .boolean)])) (va_Qi (fun (r : Int32) (G : Nat → va_E) => True ∧ True ∧ s_I K cs Dm G ∧ ∀ b, K b ∉ [1, 2, 5, 6, 24, 27, 28, 29, 30, 31, 32, 34, 35, 36] → G b = F b) (fun (G : Nat → va_E) (t : State) => va_P (dC, dI) vwCl (va_pl L G) t.heap ∧ va_K (dC, dI) vwCl [(cs 0, .int), (cs 1, .byte), (cs 2, .long), (cs 3, .object RX5), (cs 4, .object RX4), (cs 5, .array .int), (cs 6, .char), (cs 7, .boolean)] t) (fun q => q ∈ L)) 0 0 (fun q => q ∈ L) := by
  refine Met.ofW (cc := cX6_by) (maxL := 4) (ret := (some .int)) (by decide) rfl ?_
  intro p e s m args below meth c s₁ B hml hv
  obtain ⟨rfl, hsz, hP, hK, hD, hN⟩ := hv
  have hx := B.exec
  have hb := B.bytes
  have hr := B.returns
  have hts : ∀ w ∈ T0, w.before _ s = true := fun w h => atoms_spec (ws := Cond.code yX6_by cX6_by 4 (some .int) :: T0) B.pre w (List.mem_cons_of_mem _ h)
  have hown : s.vm.findClass RX6 = some m.cls := findClass_of_methodNamed B.named
  have hlocks := B.notSynchronized
  have hS : va_S (fun q => q ∈ L) s.heap s.heap [] := va_S.rf
  have hfr : ∀ b, K b ∉ [1, 2, 5, 6, 24, 27, 28, 29, 30, 31, 32, 34, 35, 36] → F b = F b := fun _ _ => rfl
  have hl := lv_entry ([.ref a0, .int x1, .int x2, .int x3]) (n := 4) (Nat.le_of_ble_eq_true rfl)
  rw [lg_entry_eq]
  generalize (lg_sl ([.ref a0, .int x1, .int x2, .int x3]) ++ List.replicate (4 - (lg_sl ([.ref a0, .int x1, .int x2, .int x3])).length) Slot.unset).toArray = ls at hl ⊢
  have hl : lv_has ls 4 [(0, .ref a0), (1, .int x1), (2, .int x2), (3, .int x3)] := hl
  have hI0 := hI
  refine s_gen hP hS (fun H locs hP hS => ?_)
  refine lv_aload_n hx hb dX6_by_0 rfl (lv_at hl 0 rfl) ?_
  obtain ⟨z1, z3, z5, z7, z9, z11, z12, z14, z16, z18, z20, z22, z24, z26, o27, h2, h4, h6, h8, h10, h13, h15, h17, h19, h21, h23, h25, -⟩ := s_op7 hI ha0
  refine th_get (D := (dC, dI)) (ci := 6) (v := .int z11) (C := RX6) (T := TX6) (N := 14) hx hb hts inX6 hown hK hP (hLK _ ha0 (by decide)) o27 rfl 5 (by decide) (hts _ T_224) (fun _ h9 => h9) rfl dX6_by_1 ?_
  refine lv_if_eq (tgt := 30) hx hb dX6_by_4 (by decide) (fun c28 => ?_) (fun c28 => ?_)
  · have c28 := (ax_eq (n := 0) (by decide)).mp c28
    refine lv_iconst (v := (-1)) hx hb dX6_by_30 (by decide) ?_
    exact W.iret (v := (-1)) hx hb hr (fun t ht hW => ⟨⟨(-1), F, rfl, ⟨trivial, trivial, (s_mono (by omega) hI), hfr⟩, by rw [ht]; exact hP, va_K.moved hW.alike hK⟩, hS.F ht⟩) hS.2.2 dX6_by_31
  · have c28 := mt (ax_eq (n := 0) (by decide)).mpr c28
    refine lv_iload_n hx hb dX6_by_7 rfl (lv_at hl 1 rfl) ?_
    refine va_calli (va_runS (As := [.int x1]) (rest := []) ⟨hx, hb, hml, hown, hts⟩ (s_X6_isMode l dC dI H.size hLK D F x1 hI) (cwS 1 hts (ax_gS T_911 T_913 T_193 T_912) rfl rfl rfl (by decide +kernel) ⟨Nat.le_of_ble_eq_true rfl, Nat.le_of_ble_eq_true rfl⟩) ⟨fun a U g mk q => ⟨q.1, s_pc rfl rfl q.2⟩, fun U hU hW => ⟨rfl, s_pw hU hW hP hK hD hN⟩⟩ rfl rfl hl.1 rfl (lv_room (Nat.le_of_ble_eq_true rfl)) dX6_by_8 ⟨Nat.zero_le _, Nat.zero_le _⟩) hS (fun q _ h => h) (fun q h => h) (fun r29 F30 t H1 locs ht hvm hw hB hz1 hk1 hS => ?_)
    obtain ⟨hP, hK1⟩ := hB
    rw [ht] at hP
    generalize H1 = H at hP hS ⊢
    obtain ⟨h31, h32, hI, hfr1⟩ := hw
    have o33 : F30 a0 = .inr (6, [.ref z1, .int z3, .ref z5, .ref z7, .ref z9, .int z11, .ref z12, .ref z14, .int z16, .int z18, .ref z20, .ref z22, .ref z24, .long z26]) := (hfr1 _ (by rw [ha0]; decide)).trans o27
    have hfr : ∀ b, K b ∉ [1, 2, 5, 6, 24, 27, 28, 29, 30, 31, 32, 34, 35, 36] → F30 b = F b := fun b hb9 => (hfr1 b (fun q => hb9 (s_sub (by decide) q))).trans (hfr b hb9)
    refine lv_if_eq (tgt := 30) hx hb dX6_by_11 (by decide) (fun c34 => ?_) (fun c34 => ?_)
    · have c34 := (ax_eq (n := 0) (by decide)).mp c34
      refine lv_iconst (v := (-1)) hx hb dX6_by_30 (by decide) ?_
      exact W.iret (v := (-1)) hx hb hr (fun t ht hW => ⟨⟨(-1), F30, rfl, ⟨trivial, trivial, (s_mono (by omega) hI), hfr⟩, by rw [ht]; exact hP, va_K.moved hW.alike hK⟩, hS.F ht⟩) hS.2.2 dX6_by_31
    · have c34 := mt (ax_eq (n := 0) (by decide)).mpr c34
      have h35 := h32 (fun q => c34 (by rw [q]; decide))
      refine lv_iload_n hx hb dX6_by_14 rfl (lv_at hl 2 rfl) ?_
      refine va_calli (va_runS (As := [.int x2]) (rest := []) ⟨hx, hb, hml, hown, hts⟩ (s_X6_isOrder l dC dI H.size hLK D F30 x2 hI) (cwS 1 hts (ax_gS T_914 T_916 T_193 T_915) rfl rfl rfl (by decide +kernel) ⟨Nat.le_of_ble_eq_true rfl, Nat.le_of_ble_eq_true rfl⟩) ⟨fun a U g mk q => ⟨q.1, s_pc rfl rfl q.2⟩, fun U hU hW => ⟨rfl, s_pw hU hW hP hK hD hN⟩⟩ rfl rfl hl.1 rfl (lv_room (Nat.le_of_ble_eq_true rfl)) dX6_by_15 ⟨Nat.zero_le _, Nat.zero_le _⟩) hS (fun q _ h => h) (fun q h => h) (fun r36 F37 t H1 locs ht hvm hw hB hz1 hk1 hS => ?_)
      obtain ⟨hP, hK1⟩ := hB
      rw [ht] at hP
      generalize H1 = H at hP hS ⊢
      obtain ⟨h38, h39, hI, hfr1⟩ := hw
      have o40 : F37 a0 = .inr (6, [.ref z1, .int z3, .ref z5, .ref z7, .ref z9, .int z11, .ref z12, .ref z14, .int z16, .int z18, .ref z20, .ref z22, .ref z24, .long z26]) := (hfr1 _ (by rw [ha0]; decide)).trans o33
      have hfr : ∀ b, K b ∉ [1, 2, 5, 6, 24, 27, 28, 29, 30, 31, 32, 34, 35, 36] → F37 b = F b := fun b hb9 => (hfr1 b (fun q => hb9 (s_sub (by decide) q))).trans (hfr b hb9)
      refine lv_if_eq (tgt := 30) hx hb dX6_by_18 (by decide) (fun c41 => ?_) (fun c41 => ?_)
      · have c41 := (ax_eq (n := 0) (by decide)).mp c41
        refine lv_iconst (v := (-1)) hx hb dX6_by_30 (by decide) ?_
        exact W.iret (v := (-1)) hx hb hr (fun t ht hW => ⟨⟨(-1), F37, rfl, ⟨trivial, trivial, (s_mono (by omega) hI), hfr⟩, by rw [ht]; exact hP, va_K.moved hW.alike hK⟩, hS.F ht⟩) hS.2.2 dX6_by_31
      · have c41 := mt (ax_eq (n := 0) (by decide)).mpr c41
        have h42 := h39 (fun q => c41 (by rw [q]; decide))
        refine lv_iload_n hx hb dX6_by_21 rfl (lv_at hl 3 rfl) ?_
        refine lv_if_lt (tgt := 30) hx hb dX6_by_22 (by decide) (fun c43 => ?_) (fun c43 => ?_)
        · have c43 := (ax_lt (n := 0) (by decide)).mp c43
          refine lv_iconst (v := (-1)) hx hb dX6_by_30 (by decide) ?_
          exact W.iret (v := (-1)) hx hb hr (fun t ht hW => ⟨⟨(-1), F37, rfl, ⟨trivial, trivial, (s_mono (by omega) hI), hfr⟩, by rw [ht]; exact hP, va_K.moved hW.alike hK⟩, hS.F ht⟩) hS.2.2 dX6_by_31
        · have c43 := mt (ax_lt (n := 0) (by decide)).mpr c43
          refine lv_iload_n hx hb dX6_by_25 rfl (lv_at hl 3 rfl) ?_
          refine lv_iconst (v := 3) hx hb dX6_by_26 (by decide) ?_
          refine lv_icmp_lt (tgt := 32) hx hb dX6_by_27 (by decide) (fun c44 => ?_) (fun c44 => ?_)
          · have c44 := (ax_lt (n := 3) (by decide)).mp c44
            refine lv_aload_n hx hb dX6_by_32 rfl (lv_at hl 0 rfl) ?_
            refine th_get (D := (dC, dI)) (ci := 6) (v := .ref z22) (C := RX6) (T := TX6) (N := 14) hx hb hts inX6 hown hK hP (hLK _ ha0 (by decide)) o40 rfl 11 (by decide) (hts _ T_182) (fun _ h9 => h9) rfl dX6_by_33 ?_
            refine lv_aload_n hx hb dX6_by_36 rfl (lv_at hl 0 rfl) ?_
            refine th_get (D := (dC, dI)) (ci := 6) (v := .ref z22) (C := RX6) (T := TX6) (N := 14) hx hb hts inX6 hown hK hP (hLK _ ha0 (by decide)) o40 rfl 11 (by decide) (hts _ T_182) (fun _ h9 => h9) rfl dX6_by_37 ?_
            refine lv_iload_n hx hb dX6_by_40 rfl (lv_at hl 1 rfl) ?_
            refine lv_iload_n hx hb dX6_by_41 rfl (lv_at hl 2 rfl) ?_
            refine lv_aload_n hx hb dX6_by_42 rfl (lv_at hl 0 rfl) ?_
            refine th_get (D := (dC, dI)) (ci := 6) (v := .ref z12) (C := RX6) (T := TX6) (N := 14) hx hb hts inX6 hown hK hP (hLK _ ha0 (by decide)) o40 rfl 6 (by decide) (hts _ T_174) (fun _ h9 => h9) rfl dX6_by_43 ?_
            obtain ⟨z45, z47, z49, z51, z53, z55, z57, z59, z61, z62, z63, z65, z66, z68, z69, o71, h46, h48, h50, h52, h54, h56, h58, h60, h64, h67, h70, -⟩ := s_op5 hI h13
            refine th_getN (D := (dC, dI)) (ci := 4) (v := .int z63) (C := RX4) (T := TX4) (N := 15) hx hb hts inX4 hown hK hP (hLK _ h13 (by decide)) o71 rfl 10 (by decide) (va_Nw.use rfl (ax_n54 hN)) (fun _ h9 => h9) rfl dX6_by_46 ?_
            obtain ⟨z72, z74, z76, z78, z80, z82, z83, z85, z86, z88, z89, z91, z92, z93, o95, h73, h75, h77, h79, h81, h84, h87, h90, h94, -⟩ := s_op1 hI h23
            refine va_callr (va_runV (As := [.int x1, .int x2, .int z63]) (rest := [.ref z22]) ⟨hx, hb, hml, hown, hts⟩ (s_X0_begun l dC dI H.size hLK D F37 z22 x1 x2 z63 h23 (⟨by omega, by omega⟩) hI) (cwV 3 hts (ax_gV T_917 T_596 T_597 T_180 T_595) rfl rfl rfl (by decide +kernel) ⟨Nat.le_of_ble_eq_true rfl, Nat.le_of_ble_eq_true rfl⟩) ⟨fun a U g mk q => ⟨q.1, s_pc rfl rfl q.2⟩, s_recv hK hP (hLK _ h23 (by decide)) (ci := 0) rfl o95, fun U hU hW => ⟨rfl, s_pw hU hW hP hK hD hN⟩⟩ rfl rfl hl.1 rfl (lv_room (Nat.le_of_ble_eq_true rfl)) dX6_by_49 ⟨Nat.zero_le _, Nat.zero_le _⟩) hS (fun q _ h => h) (fun q h => h) (fun F97 r96 t H1 locs ht hvm hw hB hz1 hk1 hS => ?_)
            obtain ⟨hk_r96, hP, hK1⟩ := hB
            rw [ht] at hP
            generalize H1 = H at hP hS ⊢
            obtain ⟨h98, h99, hI, hfr1⟩ := hw
            have o100 : F97 a0 = .inr (6, [.ref z1, .int z3, .ref z5, .ref z7, .ref z9, .int z11, .ref z12, .ref z14, .int z16, .int z18, .ref z20, .ref z22, .ref z24, .long z26]) := (hfr1 _ (by rw [ha0]; decide)).trans o40
            have o101 : F97 z22 = .inr (0, [.ref z72, .ref z74, .ref z76, .ref z78, .ref z80, .int z82, .ref z83, .long z85, .ref z86, .int z88, .ref z89, .int z91, .int z92, .int z93]) := (hfr1 _ (by rw [h23]; decide)).trans o95
            have hfr : ∀ b, K b ∉ [1, 2, 5, 6, 24, 27, 28, 29, 30, 31, 32, 34, 35, 36] → F97 b = F b := fun b hb9 => (hfr1 b (fun q => hb9 (s_sub (by decide) q))).trans (hfr b hb9)
            refine lv_iload_n hx hb dX6_by_52 rfl (lv_at hl 1 rfl) ?_
            refine lv_iload_n hx hb dX6_by_53 rfl (lv_at hl 2 rfl) ?_
            refine lv_aload_n hx hb dX6_by_54 rfl (lv_at hl 0 rfl) ?_
            refine th_get (D := (dC, dI)) (ci := 6) (v := .ref z12) (C := RX6) (T := TX6) (N := 14) hx hb hts inX6 hown hK hP (hLK _ ha0 (by decide)) o100 rfl 6 (by decide) (hts _ T_174) (fun _ h9 => h9) rfl dX6_by_55 ?_
            obtain ⟨z102, z104, z106, z108, z110, z112, z114, z116, z118, z119, z120, z122, z123, z125, z126, o128, h103, h105, h107, h109, h111, h113, h115, h117, h121, h124, h127, -⟩ := s_op5 hI h13
            refine th_getN (D := (dC, dI)) (ci := 4) (v := .int z120) (C := RX4) (T := TX4) (N := 15) hx hb hts inX4 hown hK hP (hLK _ h13 (by decide)) o128 rfl 10 (by decide) (va_Nw.use rfl (ax_n54 hN)) (fun _ h9 => h9) rfl dX6_by_58 ?_
            refine va_calli (va_runS (As := [.int x1, .int x2, .int z120]) (rest := [.ref r96, .ref z22]) ⟨hx, hb, hml, hown, hts⟩ (s_X6_layout l dC dI H.size hLK D F97 x1 x2 z120 (⟨by omega, by omega⟩) (⟨by omega, by omega⟩) (⟨by omega, by omega⟩) hI) (cwS 3 hts (ax_gS T_918 T_920 T_193 T_919) rfl rfl rfl (by decide +kernel) ⟨Nat.le_of_ble_eq_true rfl, Nat.le_of_ble_eq_true rfl⟩) ⟨fun a U g mk q => ⟨q.1, s_pc rfl rfl q.2⟩, fun U hU hW => ⟨rfl, s_pw hU hW hP hK hD hN⟩⟩ rfl rfl hl.1 rfl (lv_room (Nat.le_of_ble_eq_true rfl)) dX6_by_61 ⟨Nat.zero_le _, Nat.zero_le _⟩) hS (fun q _ h => h) (fun q h => h) (fun r129 F130 t H1 locs ht hvm hw hB hz1 hk1 hS => ?_)
            obtain ⟨hP, hK1⟩ := hB
            rw [ht] at hP
            generalize H1 = H at hP hS ⊢
            obtain ⟨h131, h132, hI, hfr1⟩ := hw
            have o133 : F130 a0 = .inr (6, [.ref z1, .int z3, .ref z5, .ref z7, .ref z9, .int z11, .ref z12, .ref z14, .int z16, .int z18, .ref z20, .ref z22, .ref z24, .long z26]) := (hfr1 _ (by rw [ha0]; decide)).trans o100
            have o134 : F130 z22 = .inr (0, [.ref z72, .ref z74, .ref z76, .ref z78, .ref z80, .int z82, .ref z83, .long z85, .ref z86, .int z88, .ref z89, .int z91, .int z92, .int z93]) := (hfr1 _ (by rw [h23]; decide)).trans o101
            have o135 : F130 z12 = .inr (4, [.ref z102, .ref z104, .ref z106, .ref z108, .ref z110, .ref z112, .ref z114, .int z116, .int z118, .int z119, .int z120, .int z122, .int z123, .int z125, .int z126]) := (hfr1 _ (by rw [h13]; decide)).trans o128
            have hfr : ∀ b, K b ∉ [1, 2, 5, 6, 24, 27, 28, 29, 30, 31, 32, 34, 35, 36] → F130 b = F b := fun b hb9 => (hfr1 b (fun q => hb9 (s_sub (by decide) q))).trans (hfr b hb9)
            refine lv_iload_n hx hb dX6_by_64 rfl (lv_at hl 3 rfl) ?_
            refine va_calli (va_runV (As := [.ref r96, .int r129, .int x3]) (rest := []) ⟨hx, hb, hml, hown, hts⟩ (s_X0_course l dC dI H.size hLK D (D + 2007) (Nat.le_refl _) (by omega) F130 z22 r96 r129 x3 h23 hk_r96 (⟨by omega, by omega⟩) (⟨by omega, by omega⟩) hI (s_PGt hI0 hfr (by decide) hPG)) (cwV 3 hts (ax_gV T_921 T_923 T_924 T_180 T_922) rfl rfl rfl (by decide +kernel) ⟨Nat.le_of_ble_eq_true rfl, Nat.le_of_ble_eq_true rfl⟩) ⟨fun a U g mk q => ⟨q.1, s_pc rfl rfl q.2⟩, s_recv hK hP (hLK _ h23 (by decide)) (ci := 0) rfl o134, fun U hU hW => ⟨rfl, s_pw hU hW hP hK hD hN⟩⟩ rfl rfl hl.1 rfl (lv_room (Nat.le_of_ble_eq_true rfl)) dX6_by_65 ⟨Nat.zero_le _, Nat.zero_le _⟩) hS (fun q _ h => h) (fun q h => h) (fun r136 F137 t H1 locs ht hvm hw hB hz1 hk1 hS => ?_)
            obtain ⟨hP, hK1⟩ := hB
            rw [ht] at hP
            generalize H1 = H at hP hS ⊢
            obtain ⟨h138, h139, hI, hfr1⟩ := hw
            have o140 : F137 a0 = .inr (6, [.ref z1, .int z3, .ref z5, .ref z7, .ref z9, .int z11, .ref z12, .ref z14, .int z16, .int z18, .ref z20, .ref z22, .ref z24, .long z26]) := (hfr1 _ (by rw [ha0]; decide)).trans o133
            have hfr : ∀ b, K b ∉ [1, 2, 5, 6, 24, 27, 28, 29, 30, 31, 32, 34, 35, 36] → F137 b = F b := fun b hb9 => (hfr1 b (fun q => hb9 (s_sub (by decide) q))).trans (hfr b hb9)
            exact W.iret (v := r136) hx hb hr (fun t ht hW => ⟨⟨r136, F137, rfl, ⟨trivial, trivial, (s_mono (by omega) hI), hfr⟩, by rw [ht]; exact hP, va_K.moved hW.alike hK⟩, hS.F ht⟩) hS.2.2 dX6_by_68
          · have c44 := mt (ax_lt (n := 3) (by decide)).mpr c44
            refine lv_iconst (v := (-1)) hx hb dX6_by_30 (by decide) ?_
            exact W.iret (v := (-1)) hx hb hr (fun t ht hW => ⟨⟨(-1), F37, rfl, ⟨trivial, trivial, (s_mono (by omega) hI), hfr⟩, by rw [ht]; exact hP, va_K.moved hW.alike hK⟩, hS.F ht⟩) hS.2.2 dX6_by_31

set_option maxHeartbeats 4000000 in
set_option maxRecDepth 100000 in
theorem s_X6_skew (l : Launch) (dC : Nat → ClassId) (dI : Nat → Nat → Nat) (sz : Nat) {L : List Nat} {K : Nat → Nat} {cs : Nat → ClassId} (hLK : ∀ a {k : Nat}, K a = k → k ≠ 0 → a ∈ L) (D : Nat) (Dm : Nat) (hDm : D + 20070 ≤ Dm) (hDM : Dm < 2147483647) (F : Nat → va_E) (a0 : Nat) (x1 : Int32) (ha0 : K a0 = 7) (hI : s_I K cs D F) (hPG : s_PG K cs F) : Met l yX6_skew (Cond.code yX6_skew cX6_skew 9 (some .int) :: T0) ({ frames := 7, cells := 0, slots := 0, locals := 163 }) (va_Pc [.ref a0, .int x1] (s_W dC dI sz L F [(cs 0, .int), (cs 1, .byte), (cs 2, .long), (cs 3, .object RX5), (cs 4, .object RX4), (cs 5, .array .int), (cs 6, .char), (cs 7, .boolean)])) (va_Qi (fun (r : Int32) (G : Nat → va_E) => True ∧ True ∧ s_I K cs Dm G ∧ ∀ b, K b ∉ [1, 2, 5, 6, 24, 27, 28, 29, 30, 31, 32, 34, 35, 36] → G b = F b) (fun (G : Nat → va_E) (t : State) => va_P (dC, dI) vwCl (va_pl L G) t.heap ∧ va_K (dC, dI) vwCl [(cs 0, .int), (cs 1, .byte), (cs 2, .long), (cs 3, .object RX5), (cs 4, .object RX4), (cs 5, .array .int), (cs 6, .char), (cs 7, .boolean)] t) (fun q => q ∈ L)) 0 0 (fun q => q ∈ L) := by
  refine Met.ofW (cc := cX6_skew) (maxL := 9) (ret := (some .int)) (by decide) rfl ?_
  intro p e s m args below meth c s₁ B hml hv
  obtain ⟨rfl, hsz, hP, hK, hD, hN⟩ := hv
  have hx := B.exec
  have hb := B.bytes
  have hr := B.returns
  have hts : ∀ w ∈ T0, w.before _ s = true := fun w h => atoms_spec (ws := Cond.code yX6_skew cX6_skew 9 (some .int) :: T0) B.pre w (List.mem_cons_of_mem _ h)
  have hown : s.vm.findClass RX6 = some m.cls := findClass_of_methodNamed B.named
  have hlocks := B.notSynchronized
  have hS : va_S (fun q => q ∈ L) s.heap s.heap [] := va_S.rf
  have hfr : ∀ b, K b ∉ [1, 2, 5, 6, 24, 27, 28, 29, 30, 31, 32, 34, 35, 36] → F b = F b := fun _ _ => rfl
  have hl := lv_entry ([.ref a0, .int x1]) (n := 9) (Nat.le_of_ble_eq_true rfl)
  rw [lg_entry_eq]
  generalize (lg_sl ([.ref a0, .int x1]) ++ List.replicate (9 - (lg_sl ([.ref a0, .int x1])).length) Slot.unset).toArray = ls at hl ⊢
  have hl : lv_has ls 9 [(0, .ref a0), (1, .int x1)] := hl
  have hI0 := hI
  refine s_gen hP hS (fun H locs hP hS => ?_)
  refine lv_aload_n hx hb dX6_skew_0 rfl (lv_at hl 0 rfl) ?_
  obtain ⟨z1, z3, z5, z7, z9, z11, z12, z14, z16, z18, z20, z22, z24, z26, o27, h2, h4, h6, h8, h10, h13, h15, h17, h19, h21, h23, h25, -⟩ := s_op7 hI ha0
  refine th_get (D := (dC, dI)) (ci := 6) (v := .int z11) (C := RX6) (T := TX6) (N := 14) hx hb hts inX6 hown hK hP (hLK _ ha0 (by decide)) o27 rfl 5 (by decide) (hts _ T_224) (fun _ h9 => h9) rfl dX6_skew_1 ?_
  refine lv_if_eq (tgt := 16) hx hb dX6_skew_4 (by decide) (fun c28 => ?_) (fun c28 => ?_)
  · have c28 := (ax_eq (n := 0) (by decide)).mp c28
    refine lv_iconst (v := (-1)) hx hb dX6_skew_16 (by decide) ?_
    exact W.iret (v := (-1)) hx hb hr (fun t ht hW => ⟨⟨(-1), F, rfl, ⟨trivial, trivial, (s_mono (by omega) hI), hfr⟩, by rw [ht]; exact hP, va_K.moved hW.alike hK⟩, hS.F ht⟩) hS.2.2 dX6_skew_17
  · have c28 := mt (ax_eq (n := 0) (by decide)).mpr c28
    refine lv_iload_n hx hb dX6_skew_7 rfl (lv_at hl 1 rfl) ?_
    refine lv_if_lt (tgt := 16) hx hb dX6_skew_8 (by decide) (fun c29 => ?_) (fun c29 => ?_)
    · have c29 := (ax_lt (n := 0) (by decide)).mp c29
      refine lv_iconst (v := (-1)) hx hb dX6_skew_16 (by decide) ?_
      exact W.iret (v := (-1)) hx hb hr (fun t ht hW => ⟨⟨(-1), F, rfl, ⟨trivial, trivial, (s_mono (by omega) hI), hfr⟩, by rw [ht]; exact hP, va_K.moved hW.alike hK⟩, hS.F ht⟩) hS.2.2 dX6_skew_17
    · have c29 := mt (ax_lt (n := 0) (by decide)).mpr c29
      refine lv_iload_n hx hb dX6_skew_11 rfl (lv_at hl 1 rfl) ?_
      refine lv_iconst (v := 1) hx hb dX6_skew_12 (by decide) ?_
      refine lv_icmp_le (tgt := 18) hx hb dX6_skew_13 (by decide) (fun c30 => ?_) (fun c30 => ?_)
      · have c30 := (ax_le (n := 1) (by decide)).mp c30
        refine lv_iconst (v := (-1)) hx hb dX6_skew_18 (by decide) ?_
        refine lv_istore_n (lv' := [(2, .int (-1)), (0, .ref a0), (1, .int x1)]) hx hb dX6_skew_19 rfl hl (by decide) rfl (fun ls hl => ?_)
        refine lv_iconst (v := (-1)) hx hb dX6_skew_20 (by decide) ?_
        refine lv_istore_n (lv' := [(3, .int (-1)), (2, .int (-1)), (0, .ref a0), (1, .int x1)]) hx hb dX6_skew_21 rfl hl (by decide) rfl (fun ls hl => ?_)
        refine lv_iconst (v := 0) hx hb dX6_skew_22 (by decide) ?_
        refine lv_istore (lv' := [(4, .int 0), (3, .int (-1)), (2, .int (-1)), (0, .ref a0), (1, .int x1)]) hx hb dX6_skew_23 hl (by decide) rfl (fun ls hl => ?_)
        refine th_loop (fun n g H locs => ∃ (G : Nat → va_E) (ls : Array Slot) (Dn : Nat) (w31 : Int32) (w32 : Int32) (w33 : Int32), g = F0 m 25 ls [] ∧ lv_has ls 9 [(0, .ref a0), (1, .int x1), (2, .int w31), (3, .int w32), (4, .int w33)] ∧ Dn + 4014 * n + 0 ≤ Dm ∧ s_I K cs Dn G ∧ va_P (dC, dI) vwCl (va_pl L G) H ∧ va_S (fun q => q ∈ L) s.heap H locs ∧ (∀ b, K b ∉ [1, 2, 5, 6, 24, 27, 28, 29, 30, 31, 32, 34, 35, 36] → G b = F b) ∧ (-1 ≤ w31.toInt ∧ w31.toInt ≤ 3) ∧ True ∧ (0 ≤ w33.toInt ∧ w33.toInt ≤ 4) ∧ (0 ≤ x1.toInt ∧ x1.toInt ≤ 1) ∧ n = (5 - w33.toInt).toNat) _ ⟨F, _, D, (-1), (-1), 0, rfl, lv_sub hl [3, 4, 2, 1, 0] rfl, by omega, hI, hP, hS, hfr, (by decide), trivial, (by decide), ⟨by omega, by omega⟩, rfl⟩ (fun n ih25 g H locs hq => ?_)
        obtain ⟨F9, ls, D38, w31, w32, w33, rfl, hl, h39, hI, hP, hS, hfr, h34, h35, h36, h37, hn⟩ := hq
        have hn_25 := hn
        obtain ⟨n_25, hn9_25⟩ : ∃ q, q = n := ⟨_, rfl⟩
        refine th_join (fun g H locs => ∃ (G : Nat → va_E) (ls : Array Slot) (Dn : Nat) (w40 : Int32) (w41 : Int32), g = F0 m 135 ls [] ∧ lv_has ls 9 [(0, .ref a0), (1, .int x1), (2, .int w40), (3, .int w41), (4, .int w33)] ∧ Dn + 0 + 4014 * (n_25 - 1) + 0 ≤ Dm ∧ s_I K cs Dn G ∧ va_P (dC, dI) vwCl (va_pl L G) H ∧ va_S (fun q => q ∈ L) s.heap H locs ∧ (∀ b, K b ∉ [1, 2, 5, 6, 24, 27, 28, 29, 30, 31, 32, 34, 35, 36] → G b = F b) ∧ (-1 ≤ w40.toInt ∧ w40.toInt ≤ 3) ∧ True ∧ (0 ≤ x1.toInt ∧ x1.toInt ≤ 1) ∧ (0 ≤ w33.toInt ∧ w33.toInt ≤ 3)) (fun K135 => ?_) ?_
        refine th_join (fun g H locs => ∃ (G : Nat → va_E) (ls : Array Slot) (Dn : Nat) (w42 : Int32), g = F0 m 129 ls [] ∧ lv_has ls 9 [(0, .ref a0), (1, .int x1), (4, .int w33), (8, .int w42)] ∧ Dn + 0 + 4014 * (n_25 - 1) + 0 ≤ Dm ∧ s_I K cs Dn G ∧ va_P (dC, dI) vwCl (va_pl L G) H ∧ va_S (fun q => q ∈ L) s.heap H locs ∧ (∀ b, K b ∉ [1, 2, 5, 6, 24, 27, 28, 29, 30, 31, 32, 34, 35, 36] → G b = F b) ∧ True ∧ (0 ≤ x1.toInt ∧ x1.toInt ≤ 1) ∧ (0 ≤ w33.toInt ∧ w33.toInt ≤ 3)) (fun K129 => ?_) ?_
        refine th_join (fun g H locs => ∃ (G : Nat → va_E) (ls : Array Slot) (Dn : Nat) (w43 : Int32) (w44 : Nat) (w45 : Int32), g = F0 m 97 ls [.int w45] ∧ lv_has ls 9 [(0, .ref a0), (1, .int x1), (2, .int w31), (3, .int w32), (4, .int w33), (5, .int w43), (6, .ref w44)] ∧ Dn + 2007 + 4014 * (n_25 - 1) + 0 ≤ Dm ∧ s_I K cs Dn G ∧ va_P (dC, dI) vwCl (va_pl L G) H ∧ va_S (fun q => q ∈ L) s.heap H locs ∧ (∀ b, K b ∉ [1, 2, 5, 6, 24, 27, 28, 29, 30, 31, 32, 34, 35, 36] → G b = F b) ∧ (0 ≤ w43.toInt ∧ w43.toInt ≤ 15) ∧ K w44 = 5 ∧ (0 ≤ w45.toInt ∧ w45.toInt ≤ 1) ∧ (0 ≤ x1.toInt ∧ x1.toInt ≤ 1) ∧ (-1 ≤ w31.toInt ∧ w31.toInt ≤ 3) ∧ (0 ≤ w33.toInt ∧ w33.toInt ≤ 3)) (fun K97 => ?_) ?_
        · refine lv_iload hx hb dX6_skew_25 (lv_at hl 4 rfl) ?_
          refine lv_iconst (v := 4) hx hb dX6_skew_27 (by decide) ?_
          refine lv_icmp_ge (tgt := 141) hx hb dX6_skew_28 (by decide) (fun c46 => ?_) (fun c46 => ?_)
          · have c46 := (ax_ge (n := 4) (by decide)).mp c46
            refine lv_iload_n hx hb dX6_skew_141 rfl (lv_at hl 1 rfl) ?_
            refine lv_if_ne (tgt := 149) hx hb dX6_skew_142 (by decide) (fun c47 => ?_) (fun c47 => ?_)
            · have c47 := mt (ax_eq (n := 0) (by decide)).mpr c47
              refine lv_iload_n hx hb dX6_skew_149 rfl (lv_at hl 3 rfl) ?_
              exact W.iret (v := w32) hx hb hr (fun t ht hW => ⟨⟨w32, F9, rfl, ⟨trivial, trivial, (s_mono (by omega) hI), hfr⟩, by rw [ht]; exact hP, va_K.moved hW.alike hK⟩, hS.F ht⟩) hS.2.2 dX6_skew_150
            · have c47 := (ax_eq (n := 0) (by decide)).mp c47
              refine lv_iload_n hx hb dX6_skew_145 rfl (lv_at hl 2 rfl) ?_
              refine lv_goto (tgt := 150) hx hb dX6_skew_146 (by decide) ?_
              exact W.iret (v := w31) hx hb hr (fun t ht hW => ⟨⟨w31, F9, rfl, ⟨trivial, trivial, (s_mono (by omega) hI), hfr⟩, by rw [ht]; exact hP, va_K.moved hW.alike hK⟩, hS.F ht⟩) hS.2.2 dX6_skew_150
          · have c46 := mt (ax_ge (n := 4) (by decide)).mpr c46
            refine lv_aload_n hx hb dX6_skew_31 rfl (lv_at hl 0 rfl) ?_
            obtain ⟨z48, z50, z52, z54, z56, z58, z59, z61, z63, z65, z67, z69, z71, z73, o74, h49, h51, h53, h55, h57, h60, h62, h64, h66, h68, h70, h72, -⟩ := s_op7 hI ha0
            refine th_get (D := (dC, dI)) (ci := 6) (v := .ref z59) (C := RX6) (T := TX6) (N := 14) hx hb hts inX6 hown hK hP (hLK _ ha0 (by decide)) o74 rfl 6 (by decide) (hts _ T_174) (fun _ h9 => h9) rfl dX6_skew_32 ?_
            obtain ⟨z75, z77, z79, z81, z83, z85, z87, z89, z91, z92, z93, z95, z96, z98, z99, o101, h76, h78, h80, h82, h84, h86, h88, h90, h94, h97, h100, -⟩ := s_op5 hI h60
            refine th_getN (D := (dC, dI)) (ci := 4) (v := .int z91) (C := RX4) (T := TX4) (N := 15) hx hb hts inX4 hown hK hP (hLK _ h60 (by decide)) o101 rfl 8 (by decide) (va_Nw.use rfl (ax_n52 hN)) (fun _ h9 => h9) rfl dX6_skew_35 ?_
            refine lv_aload_n hx hb dX6_skew_38 rfl (lv_at hl 0 rfl) ?_
            refine th_get (D := (dC, dI)) (ci := 6) (v := .ref z59) (C := RX6) (T := TX6) (N := 14) hx hb hts inX6 hown hK hP (hLK _ ha0 (by decide)) o74 rfl 6 (by decide) (hts _ T_174) (fun _ h9 => h9) rfl dX6_skew_39 ?_
            refine th_getN (D := (dC, dI)) (ci := 4) (v := .int z92) (C := RX4) (T := TX4) (N := 15) hx hb hts inX4 hown hK hP (hLK _ h60 (by decide)) o101 rfl 9 (by decide) (va_Nw.use rfl (ax_n53 hN)) (fun _ h9 => h9) rfl dX6_skew_42 ?_
            refine lv_iload hx hb dX6_skew_45 (lv_at hl 4 rfl) ?_
            refine va_calli (va_runS (As := [.int z91, .int z92, .int w33]) (rest := []) ⟨hx, hb, hml, hown, hts⟩ (s_X6_layout l dC dI H.size hLK D38 F9 z91 z92 w33 (⟨by omega, by omega⟩) (⟨by omega, by omega⟩) (⟨by omega, by omega⟩) hI) (cwS 3 hts (ax_gS T_918 T_920 T_193 T_919) rfl rfl rfl (by decide +kernel) ⟨Nat.le_of_ble_eq_true rfl, Nat.le_of_ble_eq_true rfl⟩) ⟨fun a U g mk q => ⟨q.1, s_pc rfl rfl q.2⟩, fun U hU hW => ⟨rfl, s_pw hU hW hP hK hD hN⟩⟩ rfl rfl hl.1 rfl (lv_room (Nat.le_of_ble_eq_true rfl)) dX6_skew_47 ⟨Nat.zero_le _, Nat.zero_le _⟩) hS (fun q _ h => h) (fun q h => h) (fun r102 F103 t H1 locs ht hvm hw hB hz1 hk1 hS => ?_)
            obtain ⟨hP, hK1⟩ := hB
            rw [ht] at hP
            generalize H1 = H at hP hS ⊢
            obtain ⟨h104, h105, hI, hfr1⟩ := hw
            have o106 : F103 a0 = .inr (6, [.ref z48, .int z50, .ref z52, .ref z54, .ref z56, .int z58, .ref z59, .ref z61, .int z63, .int z65, .ref z67, .ref z69, .ref z71, .long z73]) := (hfr1 _ (by rw [ha0]; decide)).trans o74
            have o107 : F103 z59 = .inr (4, [.ref z75, .ref z77, .ref z79, .ref z81, .ref z83, .ref z85, .ref z87, .int z89, .int z91, .int z92, .int z93, .int z95, .int z96, .int z98, .int z99]) := (hfr1 _ (by rw [h60]; decide)).trans o101
            have hfr : ∀ b, K b ∉ [1, 2, 5, 6, 24, 27, 28, 29, 30, 31, 32, 34, 35, 36] → F103 b = F b := fun b hb9 => (hfr1 b (fun q => hb9 (s_sub (by decide) q))).trans (hfr b hb9)
            refine lv_istore (lv' := [(5, .int r102), (0, .ref a0), (1, .int x1), (2, .int w31), (3, .int w32), (4, .int w33)]) hx hb dX6_skew_50 hl (by decide) rfl (fun ls hl => ?_)
            refine lv_aload_n hx hb dX6_skew_52 rfl (lv_at hl 1 rfl) ?_
            refine th_get (D := (dC, dI)) (ci := 6) (v := .ref z69) (C := RX6) (T := TX6) (N := 14) hx hb hts inX6 hown hK hP (hLK _ ha0 (by decide)) o106 rfl 11 (by decide) (hts _ T_182) (fun _ h9 => h9) rfl dX6_skew_53 ?_
            refine lv_aload_n hx hb dX6_skew_56 rfl (lv_at hl 1 rfl) ?_
            refine th_get (D := (dC, dI)) (ci := 6) (v := .ref z59) (C := RX6) (T := TX6) (N := 14) hx hb hts inX6 hown hK hP (hLK _ ha0 (by decide)) o106 rfl 6 (by decide) (hts _ T_174) (fun _ h9 => h9) rfl dX6_skew_57 ?_
            refine th_getN (D := (dC, dI)) (ci := 4) (v := .int z91) (C := RX4) (T := TX4) (N := 15) hx hb hts inX4 hown hK hP (hLK _ h60 (by decide)) o107 rfl 8 (by decide) (va_Nw.use rfl (ax_n52 hN)) (fun _ h9 => h9) rfl dX6_skew_60 ?_
            refine lv_aload_n hx hb dX6_skew_63 rfl (lv_at hl 1 rfl) ?_
            refine th_get (D := (dC, dI)) (ci := 6) (v := .ref z59) (C := RX6) (T := TX6) (N := 14) hx hb hts inX6 hown hK hP (hLK _ ha0 (by decide)) o106 rfl 6 (by decide) (hts _ T_174) (fun _ h9 => h9) rfl dX6_skew_64 ?_
            refine th_getN (D := (dC, dI)) (ci := 4) (v := .int z92) (C := RX4) (T := TX4) (N := 15) hx hb hts inX4 hown hK hP (hLK _ h60 (by decide)) o107 rfl 9 (by decide) (va_Nw.use rfl (ax_n53 hN)) (fun _ h9 => h9) rfl dX6_skew_67 ?_
            refine lv_iload hx hb dX6_skew_70 (lv_at hl 5 rfl) ?_
            obtain ⟨z108, z110, z112, z114, z116, z118, z119, z121, z122, z124, z125, z127, z128, z129, o131, h109, h111, h113, h115, h117, h120, h123, h126, h130, -⟩ := s_op1 hI h70
            refine va_callr (va_runV (As := [.int z91, .int z92, .int w33]) (rest := []) ⟨hx, hb, hml, hown, hts⟩ (s_X0_begun l dC dI H.size hLK D38 F103 z69 z91 z92 w33 h70 (⟨by omega, by omega⟩) hI) (cwV 3 hts (ax_gV T_917 T_596 T_597 T_180 T_595) rfl rfl rfl (by decide +kernel) ⟨Nat.le_of_ble_eq_true rfl, Nat.le_of_ble_eq_true rfl⟩) ⟨fun a U g mk q => ⟨q.1, s_pc rfl rfl q.2⟩, s_recv hK hP (hLK _ h70 (by decide)) (ci := 0) rfl o131, fun U hU hW => ⟨rfl, s_pw hU hW hP hK hD hN⟩⟩ rfl rfl hl.1 rfl (lv_room (Nat.le_of_ble_eq_true rfl)) dX6_skew_72 ⟨Nat.zero_le _, Nat.zero_le _⟩) hS (fun q _ h => h) (fun q h => h) (fun F133 r132 t H1 locs ht hvm hw hB hz1 hk1 hS => ?_)
            obtain ⟨hk_r132, hP, hK1⟩ := hB
            rw [ht] at hP
            generalize H1 = H at hP hS ⊢
            obtain ⟨h134, h135, hI, hfr1⟩ := hw
            have o136 : F133 a0 = .inr (6, [.ref z48, .int z50, .ref z52, .ref z54, .ref z56, .int z58, .ref z59, .ref z61, .int z63, .int z65, .ref z67, .ref z69, .ref z71, .long z73]) := (hfr1 _ (by rw [ha0]; decide)).trans o106
            have o137 : F133 z69 = .inr (0, [.ref z108, .ref z110, .ref z112, .ref z114, .ref z116, .int z118, .ref z119, .long z121, .ref z122, .int z124, .ref z125, .int z127, .int z128, .int z129]) := (hfr1 _ (by rw [h70]; decide)).trans o131
            have hfr : ∀ b, K b ∉ [1, 2, 5, 6, 24, 27, 28, 29, 30, 31, 32, 34, 35, 36] → F133 b = F b := fun b hb9 => (hfr1 b (fun q => hb9 (s_sub (by decide) q))).trans (hfr b hb9)
            refine lv_astore (lv' := [(6, .ref r132), (5, .int r102), (0, .ref a0), (1, .int x1), (2, .int w31), (3, .int w32), (4, .int w33)]) hx hb dX6_skew_75 hl (by decide) rfl (fun ls hl => ?_)
            refine lv_aload_n hx hb dX6_skew_77 rfl (lv_at hl 2 rfl) ?_
            refine th_get (D := (dC, dI)) (ci := 6) (v := .ref z69) (C := RX6) (T := TX6) (N := 14) hx hb hts inX6 hown hK hP (hLK _ ha0 (by decide)) o136 rfl 11 (by decide) (hts _ T_182) (fun _ h9 => h9) rfl dX6_skew_78 ?_
            refine lv_aload hx hb dX6_skew_81 (lv_at hl 0 rfl) ?_
            refine lv_iload hx hb dX6_skew_83 (lv_at hl 1 rfl) ?_
            refine lv_iconst (v := 0) hx hb dX6_skew_85 (by decide) ?_
            refine va_calli (va_runV (As := [.ref r132, .int r102, .int 0]) (rest := []) ⟨hx, hb, hml, hown, hts⟩ (s_X0_course l dC dI H.size hLK D38 (D38 + 2007) (Nat.le_refl _) (by omega) F133 z69 r132 r102 0 h70 hk_r132 (⟨by omega, by omega⟩) (by decide) hI (s_PGt hI0 hfr (by decide) hPG)) (cwV 3 hts (ax_gV T_921 T_923 T_924 T_180 T_922) rfl rfl rfl (by decide +kernel) ⟨Nat.le_of_ble_eq_true rfl, Nat.le_of_ble_eq_true rfl⟩) ⟨fun a U g mk q => ⟨q.1, s_pc rfl rfl q.2⟩, s_recv hK hP (hLK _ h70 (by decide)) (ci := 0) rfl o137, fun U hU hW => ⟨rfl, s_pw hU hW hP hK hD hN⟩⟩ rfl rfl hl.1 rfl (lv_room (Nat.le_of_ble_eq_true rfl)) dX6_skew_86 ⟨Nat.zero_le _, Nat.zero_le _⟩) hS (fun q _ h => h) (fun q h => h) (fun r138 F139 t H1 locs ht hvm hw hB hz1 hk1 hS => ?_)
            obtain ⟨hP, hK1⟩ := hB
            rw [ht] at hP
            generalize H1 = H at hP hS ⊢
            obtain ⟨h140, h141, hI, hfr1⟩ := hw
            have o142 : F139 a0 = .inr (6, [.ref z48, .int z50, .ref z52, .ref z54, .ref z56, .int z58, .ref z59, .ref z61, .int z63, .int z65, .ref z67, .ref z69, .ref z71, .long z73]) := (hfr1 _ (by rw [ha0]; decide)).trans o136
            have hfr : ∀ b, K b ∉ [1, 2, 5, 6, 24, 27, 28, 29, 30, 31, 32, 34, 35, 36] → F139 b = F b := fun b hb9 => (hfr1 b (fun q => hb9 (s_sub (by decide) q))).trans (hfr b hb9)
            refine lv_if_ne (tgt := 96) hx hb dX6_skew_89 (by decide) (fun c143 => ?_) (fun c143 => ?_)
            · have c143 := mt (ax_eq (n := 0) (by decide)).mpr c143
              refine lv_iconst (v := 0) hx hb dX6_skew_96 (by decide) ?_
              exact K97 _ _ _ ⟨F139, _, (D38 + 2007), r102, r132, 0, rfl, lv_sub hl [2, 3, 4, 5, 6, 1, 0] rfl, by omega, hI, hP, hS, hfr, ⟨by omega, by omega⟩, hk_r132, (by decide), ⟨by omega, by omega⟩, ⟨by omega, by omega⟩, ⟨by omega, by omega⟩⟩
            · have c143 := (ax_eq (n := 0) (by decide)).mp c143
              refine lv_iconst (v := 1) hx hb dX6_skew_92 (by decide) ?_
              refine lv_goto (tgt := 97) hx hb dX6_skew_93 (by decide) ?_
              exact K97 _ _ _ ⟨F139, _, (D38 + 2007), r102, r132, 1, rfl, lv_sub hl [2, 3, 4, 5, 6, 1, 0] rfl, by omega, hI, hP, hS, hfr, ⟨by omega, by omega⟩, hk_r132, (by decide), ⟨by omega, by omega⟩, ⟨by omega, by omega⟩, ⟨by omega, by omega⟩⟩
        · intro g H locs hq
          obtain ⟨F9, ls, D150, w43, w44, w45, rfl, hl, h151, hI, hP, hS, hfr, h144, h145, h146, h147, h148, h149⟩ := hq
          refine lv_istore (lv' := [(7, .int w45), (0, .ref a0), (1, .int x1), (2, .int w31), (3, .int w32), (4, .int w33), (5, .int w43), (6, .ref w44)]) hx hb dX6_skew_97 hl (by decide) rfl (fun ls hl => ?_)
          refine lv_aload_n hx hb dX6_skew_99 rfl (lv_at hl 1 rfl) ?_
          obtain ⟨z152, z154, z156, z158, z160, z162, z163, z165, z167, z169, z171, z173, z175, z177, o178, h153, h155, h157, h159, h161, h164, h166, h168, h170, h172, h174, h176, -⟩ := s_op7 hI ha0
          refine th_get (D := (dC, dI)) (ci := 6) (v := .ref z173) (C := RX6) (T := TX6) (N := 14) hx hb hts inX6 hown hK hP (hLK _ ha0 (by decide)) o178 rfl 11 (by decide) (hts _ T_182) (fun _ h9 => h9) rfl dX6_skew_100 ?_
          refine lv_aload hx hb dX6_skew_103 (lv_at hl 7 rfl) ?_
          refine lv_iload hx hb dX6_skew_105 (lv_at hl 6 rfl) ?_
          refine lv_iconst (v := 1) hx hb dX6_skew_107 (by decide) ?_
          obtain ⟨z179, z181, z183, z185, z187, z189, z190, z192, z193, z195, z196, z198, z199, z200, o202, h180, h182, h184, h186, h188, h191, h194, h197, h201, -⟩ := s_op1 hI h174
          refine va_calli (va_runV (As := [.ref w44, .int w43, .int 1]) (rest := []) ⟨hx, hb, hml, hown, hts⟩ (s_X0_course l dC dI H.size hLK D150 (D150 + 2007) (Nat.le_refl _) (by omega) F9 z173 w44 w43 1 h174 h145 (⟨by omega, by omega⟩) (by decide) hI (s_PGt hI0 hfr (by decide) hPG)) (cwV 3 hts (ax_gV T_921 T_923 T_924 T_180 T_922) rfl rfl rfl (by decide +kernel) ⟨Nat.le_of_ble_eq_true rfl, Nat.le_of_ble_eq_true rfl⟩) ⟨fun a U g mk q => ⟨q.1, s_pc rfl rfl q.2⟩, s_recv hK hP (hLK _ h174 (by decide)) (ci := 0) rfl o202, fun U hU hW => ⟨rfl, s_pw hU hW hP hK hD hN⟩⟩ rfl rfl hl.1 rfl (lv_room (Nat.le_of_ble_eq_true rfl)) dX6_skew_108 ⟨Nat.zero_le _, Nat.zero_le _⟩) hS (fun q _ h => h) (fun q h => h) (fun r203 F204 t H1 locs ht hvm hw hB hz1 hk1 hS => ?_)
          obtain ⟨hP, hK1⟩ := hB
          rw [ht] at hP
          generalize H1 = H at hP hS ⊢
          obtain ⟨h205, h206, hI, hfr1⟩ := hw
          have o207 : F204 a0 = .inr (6, [.ref z152, .int z154, .ref z156, .ref z158, .ref z160, .int z162, .ref z163, .ref z165, .int z167, .int z169, .ref z171, .ref z173, .ref z175, .long z177]) := (hfr1 _ (by rw [ha0]; decide)).trans o178
          have hfr : ∀ b, K b ∉ [1, 2, 5, 6, 24, 27, 28, 29, 30, 31, 32, 34, 35, 36] → F204 b = F b := fun b hb9 => (hfr1 b (fun q => hb9 (s_sub (by decide) q))).trans (hfr b hb9)
          refine lv_istore (lv' := [(8, .int r203), (7, .int w45), (0, .ref a0), (1, .int x1), (2, .int w31), (3, .int w32), (4, .int w33), (5, .int w43), (6, .ref w44)]) hx hb dX6_skew_111 hl (by decide) rfl (fun ls hl => ?_)
          refine lv_iload hx hb dX6_skew_113 (lv_at hl 1 rfl) ?_
          refine lv_if_eq (tgt := 135) hx hb dX6_skew_115 (by decide) (fun c208 => ?_) (fun c208 => ?_)
          · have c208 := (ax_eq (n := 0) (by decide)).mp c208
            exact K135 _ _ _ ⟨F204, _, (D150 + 2007), w31, w32, rfl, lv_sub hl [2, 3, 4, 5, 6] rfl, by omega, hI, hP, hS, hfr, ⟨by omega, by omega⟩, trivial, ⟨by omega, by omega⟩, ⟨by omega, by omega⟩⟩
          · have c208 := mt (ax_eq (n := 0) (by decide)).mpr c208
            refine lv_iload_n hx hb dX6_skew_118 rfl (lv_at hl 4 rfl) ?_
            refine lv_iconst (v := (-1)) hx hb dX6_skew_119 (by decide) ?_
            refine lv_icmp_eq (tgt := 129) hx hb dX6_skew_120 (by decide) (fun c209 => ?_) (fun c209 => ?_)
            · have c209 := (ax_eq (n := (-1)) (by decide)).mp c209
              exact K129 _ _ _ ⟨F204, _, (D150 + 2007), r203, rfl, lv_sub hl [2, 3, 6, 0] rfl, by omega, hI, hP, hS, hfr, trivial, ⟨by omega, by omega⟩, ⟨by omega, by omega⟩⟩
            · have c209 := mt (ax_eq (n := (-1)) (by decide)).mpr c209
              refine lv_iload hx hb dX6_skew_123 (lv_at hl 0 rfl) ?_
              refine lv_iload_n hx hb dX6_skew_125 rfl (lv_at hl 5 rfl) ?_
              refine lv_icmp_ge (tgt := 135) hx hb dX6_skew_126 (by decide) (fun c210 => ?_) (fun c210 => ?_)
              · have c210 := Int32.le_iff_toInt_le.mp c210
                exact K135 _ _ _ ⟨F204, _, (D150 + 2007), w31, w32, rfl, lv_sub hl [2, 3, 4, 5, 6] rfl, by omega, hI, hP, hS, hfr, ⟨by omega, by omega⟩, trivial, ⟨by omega, by omega⟩, ⟨by omega, by omega⟩⟩
              · have c210 := mt Int32.le_iff_toInt_le.mpr c210
                exact K129 _ _ _ ⟨F204, _, (D150 + 2007), r203, rfl, lv_sub hl [2, 3, 6, 0] rfl, by omega, hI, hP, hS, hfr, trivial, ⟨by omega, by omega⟩, ⟨by omega, by omega⟩⟩
        · intro g H locs hq
          obtain ⟨F9, ls, D214, w42, rfl, hl, h215, hI, hP, hS, hfr, h211, h212, h213⟩ := hq
          refine lv_iload hx hb dX6_skew_129 (lv_at hl 2 rfl) ?_
          refine lv_istore_n (lv' := [(2, .int w33), (0, .ref a0), (1, .int x1), (4, .int w33), (8, .int w42)]) hx hb dX6_skew_131 rfl hl (by decide) rfl (fun ls hl => ?_)
          refine lv_iload hx hb dX6_skew_132 (lv_at hl 4 rfl) ?_
          refine lv_istore_n (lv' := [(3, .int w42), (2, .int w33), (0, .ref a0), (1, .int x1), (4, .int w33), (8, .int w42)]) hx hb dX6_skew_134 rfl hl (by decide) rfl (fun ls hl => ?_)
          exact K135 _ _ _ ⟨F9, _, D214, w33, w42, rfl, lv_sub hl [2, 3, 1, 0, 4] rfl, by omega, hI, hP, hS, hfr, ⟨by omega, by omega⟩, trivial, ⟨by omega, by omega⟩, ⟨by omega, by omega⟩⟩
        · intro g H locs hq
          obtain ⟨F9, ls, D220, w40, w41, rfl, hl, h221, hI, hP, hS, hfr, h216, h217, h218, h219⟩ := hq
          obtain ⟨v222, ev222⟩ : ∃ y : Int32, w33 + 1 = y := ⟨_, rfl⟩
          have qv222 : v222.toInt = w33.toInt + 1 := by rw [← ev222]; exact th_add rfl (by decide) ⟨by omega, by omega⟩
          refine lv_iinc (v := v222) (lv' := [(4, .int v222), (0, .ref a0), (1, .int x1), (2, .int w40), (3, .int w41)]) hx hb dX6_skew_135 hl (k := 4) rfl ev222 (by decide) rfl (fun ls hl => ?_)
          refine lv_goto (tgt := 25) hx hb dX6_skew_138 (by decide) ?_
          exact ih25 _ _ _ _ (by omega) ⟨F9, _, D220, w40, w41, v222, rfl, lv_sub hl [1, 2, 3, 4, 0] rfl, by omega, hI, hP, hS, hfr, ⟨by omega, by omega⟩, trivial, ⟨by omega, by omega⟩, ⟨by omega, by omega⟩, rfl⟩
      · have c30 := mt (ax_le (n := 1) (by decide)).mpr c30
        refine lv_iconst (v := (-1)) hx hb dX6_skew_16 (by decide) ?_
        exact W.iret (v := (-1)) hx hb hr (fun t ht hW => ⟨⟨(-1), F, rfl, ⟨trivial, trivial, (s_mono (by omega) hI), hfr⟩, by rw [ht]; exact hP, va_K.moved hW.alike hK⟩, hS.F ht⟩) hS.2.2 dX6_skew_17

set_option maxHeartbeats 4000000 in
set_option maxRecDepth 100000 in
theorem s_X6_alone (l : Launch) (dC : Nat → ClassId) (dI : Nat → Nat → Nat) (sz : Nat) {L : List Nat} {K : Nat → Nat} {cs : Nat → ClassId} (hLK : ∀ a {k : Nat}, K a = k → k ≠ 0 → a ∈ L) (D : Nat) (Dm : Nat) (hDm : D + 401 ≤ Dm) (hDM : Dm < 2147483647) (F : Nat → va_E) (a0 : Nat) (x1 : Int32) (x2 : Int32) (x3 : Int32) (ha0 : K a0 = 7) (hI : s_I K cs D F) (hPG : s_PG K cs F) : Met l yX6_alone (Cond.code yX6_alone cX6_alone 4 (some .int) :: T0) ({ frames := 7, cells := 0, slots := 0, locals := 163 }) (va_Pc [.ref a0, .int x1, .int x2, .int x3] (s_W dC dI sz L F [(cs 0, .int), (cs 1, .byte), (cs 2, .long), (cs 3, .object RX5), (cs 4, .object RX4), (cs 5, .array .int), (cs 6, .char), (cs 7, .boolean)])) (va_Qi (fun (r : Int32) (G : Nat → va_E) => True ∧ True ∧ s_I K cs Dm G ∧ ∀ b, K b ∉ [1, 2, 5, 6, 24, 27, 28, 29, 30, 31, 32, 34, 35, 38] → G b = F b) (fun (G : Nat → va_E) (t : State) => va_P (dC, dI) vwCl (va_pl L G) t.heap ∧ va_K (dC, dI) vwCl [(cs 0, .int), (cs 1, .byte), (cs 2, .long), (cs 3, .object RX5), (cs 4, .object RX4), (cs 5, .array .int), (cs 6, .char), (cs 7, .boolean)] t) (fun q => q ∈ L)) 0 0 (fun q => q ∈ L) := by
  refine Met.ofW (cc := cX6_alone) (maxL := 4) (ret := (some .int)) (by decide) rfl ?_
  intro p e s m args below meth c s₁ B hml hv
  obtain ⟨rfl, hsz, hP, hK, hD, hN⟩ := hv
  have hx := B.exec
  have hb := B.bytes
  have hr := B.returns
  have hts : ∀ w ∈ T0, w.before _ s = true := fun w h => atoms_spec (ws := Cond.code yX6_alone cX6_alone 4 (some .int) :: T0) B.pre w (List.mem_cons_of_mem _ h)
  have hown : s.vm.findClass RX6 = some m.cls := findClass_of_methodNamed B.named
  have hlocks := B.notSynchronized
  have hS : va_S (fun q => q ∈ L) s.heap s.heap [] := va_S.rf
  have hfr : ∀ b, K b ∉ [1, 2, 5, 6, 24, 27, 28, 29, 30, 31, 32, 34, 35, 38] → F b = F b := fun _ _ => rfl
  have hl := lv_entry ([.ref a0, .int x1, .int x2, .int x3]) (n := 4) (Nat.le_of_ble_eq_true rfl)
  rw [lg_entry_eq]
  generalize (lg_sl ([.ref a0, .int x1, .int x2, .int x3]) ++ List.replicate (4 - (lg_sl ([.ref a0, .int x1, .int x2, .int x3])).length) Slot.unset).toArray = ls at hl ⊢
  have hl : lv_has ls 4 [(0, .ref a0), (1, .int x1), (2, .int x2), (3, .int x3)] := hl
  have hI0 := hI
  refine s_gen hP hS (fun H locs hP hS => ?_)
  refine lv_aload_n hx hb dX6_alone_0 rfl (lv_at hl 0 rfl) ?_
  refine lv_iload_n hx hb dX6_alone_1 rfl (lv_at hl 1 rfl) ?_
  refine lv_iload_n hx hb dX6_alone_2 rfl (lv_at hl 2 rfl) ?_
  obtain ⟨z1, z3, z5, z7, z9, z11, z12, z14, z16, z18, z20, z22, z24, z26, o27, h2, h4, h6, h8, h10, h13, h15, h17, h19, h21, h23, h25, -⟩ := s_op7 hI ha0
  refine va_calli (va_runV (As := [.int x1, .int x2]) (rest := []) ⟨hx, hb, hml, hown, hts⟩ (s_X6_hasLane l dC dI H.size hLK D F a0 x1 x2 ha0 hI) (cwV 2 hts (ax_gV T_229 T_230 T_231 T_193 T_17) rfl rfl rfl (by decide +kernel) ⟨Nat.le_of_ble_eq_true rfl, Nat.le_of_ble_eq_true rfl⟩) ⟨fun a U g mk q => ⟨q.1, s_pc rfl rfl q.2⟩, s_recv hK hP (hLK _ ha0 (by decide)) (ci := 6) rfl o27, fun U hU hW => ⟨rfl, s_pw hU hW hP hK hD hN⟩⟩ rfl rfl hl.1 rfl (lv_room (Nat.le_of_ble_eq_true rfl)) dX6_alone_3 ⟨Nat.zero_le _, Nat.zero_le _⟩) hS (fun q _ h => h) (fun q h => h) (fun r28 F29 t H1 locs ht hvm hw hB hz1 hk1 hS => ?_)
  obtain ⟨hP, hK1⟩ := hB
  rw [ht] at hP
  generalize H1 = H at hP hS ⊢
  obtain ⟨h30, h31, hI, hfr1⟩ := hw
  have o32 : F29 a0 = .inr (6, [.ref z1, .int z3, .ref z5, .ref z7, .ref z9, .int z11, .ref z12, .ref z14, .int z16, .int z18, .ref z20, .ref z22, .ref z24, .long z26]) := (hfr1 _ (by rw [ha0]; decide)).trans o27
  have hfr : ∀ b, K b ∉ [1, 2, 5, 6, 24, 27, 28, 29, 30, 31, 32, 34, 35, 38] → F29 b = F b := fun b hb9 => (hfr1 b (fun q => hb9 (s_sub (by decide) q))).trans (hfr b hb9)
  refine lv_if_eq (tgt := 18) hx hb dX6_alone_6 (by decide) (fun c33 => ?_) (fun c33 => ?_)
  · have c33 := (ax_eq (n := 0) (by decide)).mp c33
    refine lv_ldc (v := (-1000000)) hx hb hown (hts _ T_228) dX6_alone_18 ?_
    exact W.iret (v := (-1000000)) hx hb hr (fun t ht hW => ⟨⟨(-1000000), F29, rfl, ⟨trivial, trivial, (s_mono (by omega) hI), hfr⟩, by rw [ht]; exact hP, va_K.moved hW.alike hK⟩, hS.F ht⟩) hS.2.2 dX6_alone_20
  · have c33 := mt (ax_eq (n := 0) (by decide)).mpr c33
    have h34 := h31 (fun q => c33 (by rw [q]; decide))
    refine lv_iload_n hx hb dX6_alone_9 rfl (lv_at hl 3 rfl) ?_
    refine lv_if_lt (tgt := 18) hx hb dX6_alone_10 (by decide) (fun c35 => ?_) (fun c35 => ?_)
    · have c35 := (ax_lt (n := 0) (by decide)).mp c35
      refine lv_ldc (v := (-1000000)) hx hb hown (hts _ T_228) dX6_alone_18 ?_
      exact W.iret (v := (-1000000)) hx hb hr (fun t ht hW => ⟨⟨(-1000000), F29, rfl, ⟨trivial, trivial, (s_mono (by omega) hI), hfr⟩, by rw [ht]; exact hP, va_K.moved hW.alike hK⟩, hS.F ht⟩) hS.2.2 dX6_alone_20
    · have c35 := mt (ax_lt (n := 0) (by decide)).mpr c35
      refine lv_iload_n hx hb dX6_alone_13 rfl (lv_at hl 3 rfl) ?_
      refine lv_iconst (v := 5) hx hb dX6_alone_14 (by decide) ?_
      refine lv_icmp_lt (tgt := 21) hx hb dX6_alone_15 (by decide) (fun c36 => ?_) (fun c36 => ?_)
      · have c36 := (ax_lt (n := 5) (by decide)).mp c36
        refine lv_aload_n hx hb dX6_alone_21 rfl (lv_at hl 0 rfl) ?_
        refine th_get (D := (dC, dI)) (ci := 6) (v := .ref z22) (C := RX6) (T := TX6) (N := 14) hx hb hts inX6 hown hK hP (hLK _ ha0 (by decide)) o32 rfl 11 (by decide) (hts _ T_182) (fun _ h9 => h9) rfl dX6_alone_22 ?_
        refine lv_aload_n hx hb dX6_alone_25 rfl (lv_at hl 0 rfl) ?_
        refine th_get (D := (dC, dI)) (ci := 6) (v := .ref z12) (C := RX6) (T := TX6) (N := 14) hx hb hts inX6 hown hK hP (hLK _ ha0 (by decide)) o32 rfl 6 (by decide) (hts _ T_174) (fun _ h9 => h9) rfl dX6_alone_26 ?_
        obtain ⟨z37, z39, z41, z43, z45, z47, z49, z51, z53, z54, z55, z57, z58, z60, z61, o63, h38, h40, h42, h44, h46, h48, h50, h52, h56, h59, h62, -⟩ := s_op5 hI h13
        refine th_getN (D := (dC, dI)) (ci := 4) (v := .int z53) (C := RX4) (T := TX4) (N := 15) hx hb hts inX4 hown hK hP (hLK _ h13 (by decide)) o63 rfl 8 (by decide) (va_Nw.use rfl (ax_n52 hN)) (fun _ h9 => h9) rfl dX6_alone_29 ?_
        refine lv_aload_n hx hb dX6_alone_32 rfl (lv_at hl 0 rfl) ?_
        refine th_get (D := (dC, dI)) (ci := 6) (v := .ref z12) (C := RX6) (T := TX6) (N := 14) hx hb hts inX6 hown hK hP (hLK _ ha0 (by decide)) o32 rfl 6 (by decide) (hts _ T_174) (fun _ h9 => h9) rfl dX6_alone_33 ?_
        refine th_getN (D := (dC, dI)) (ci := 4) (v := .int z54) (C := RX4) (T := TX4) (N := 15) hx hb hts inX4 hown hK hP (hLK _ h13 (by decide)) o63 rfl 9 (by decide) (va_Nw.use rfl (ax_n53 hN)) (fun _ h9 => h9) rfl dX6_alone_36 ?_
        refine lv_aload_n hx hb dX6_alone_39 rfl (lv_at hl 0 rfl) ?_
        refine th_get (D := (dC, dI)) (ci := 6) (v := .ref z12) (C := RX6) (T := TX6) (N := 14) hx hb hts inX6 hown hK hP (hLK _ ha0 (by decide)) o32 rfl 6 (by decide) (hts _ T_174) (fun _ h9 => h9) rfl dX6_alone_40 ?_
        refine th_getN (D := (dC, dI)) (ci := 4) (v := .int z55) (C := RX4) (T := TX4) (N := 15) hx hb hts inX4 hown hK hP (hLK _ h13 (by decide)) o63 rfl 10 (by decide) (va_Nw.use rfl (ax_n54 hN)) (fun _ h9 => h9) rfl dX6_alone_43 ?_
        obtain ⟨z64, z66, z68, z70, z72, z74, z75, z77, z78, z80, z81, z83, z84, z85, o87, h65, h67, h69, h71, h73, h76, h79, h82, h86, -⟩ := s_op1 hI h23
        refine va_callv (va_runV (As := [.int z53, .int z54, .int z55]) (rest := []) ⟨hx, hb, hml, hown, hts⟩ (s_X0_tryBy l dC dI H.size hLK D F29 z22 z53 z54 z55 h23 (⟨by omega, by omega⟩) hI) (cwV 3 hts (ax_gV T_890 T_892 T_893 T_180 T_891) rfl rfl rfl (by decide +kernel) ⟨Nat.le_of_ble_eq_true rfl, Nat.le_of_ble_eq_true rfl⟩) ⟨fun a U g mk q => ⟨q.1, s_pc rfl rfl q.2⟩, s_recv hK hP (hLK _ h23 (by decide)) (ci := 0) rfl o87, fun U hU hW => ⟨rfl, s_pw hU hW hP hK hD hN⟩⟩ rfl rfl hl.1 rfl (lv_room (Nat.le_of_ble_eq_true rfl)) dX6_alone_46 ⟨Nat.zero_le _, Nat.zero_le _⟩) hS (fun q _ h => h) (fun q h => h) (fun F88 t H1 locs ht hvm hw hB hz1 hk1 hS => ?_)
        obtain ⟨hP, hK1⟩ := hB
        rw [ht] at hP
        generalize H1 = H at hP hS ⊢
        obtain ⟨h89, h90, hI, hfr1⟩ := hw
        have o91 : F88 a0 = .inr (6, [.ref z1, .int z3, .ref z5, .ref z7, .ref z9, .int z11, .ref z12, .ref z14, .int z16, .int z18, .ref z20, .ref z22, .ref z24, .long z26]) := (hfr1 _ (by rw [ha0]; decide)).trans o32
        have o92 : F88 z12 = .inr (4, [.ref z37, .ref z39, .ref z41, .ref z43, .ref z45, .ref z47, .ref z49, .int z51, .int z53, .int z54, .int z55, .int z57, .int z58, .int z60, .int z61]) := (hfr1 _ (by rw [h13]; decide)).trans o63
        have hfr : ∀ b, K b ∉ [1, 2, 5, 6, 24, 27, 28, 29, 30, 31, 32, 34, 35, 38] → F88 b = F b := fun b hb9 => (hfr1 b (fun q => hb9 (s_sub (by decide) q))).trans (hfr b hb9)
        refine lv_aload_n hx hb dX6_alone_49 rfl (lv_at hl 0 rfl) ?_
        refine th_get (D := (dC, dI)) (ci := 6) (v := .ref z22) (C := RX6) (T := TX6) (N := 14) hx hb hts inX6 hown hK hP (hLK _ ha0 (by decide)) o91 rfl 11 (by decide) (hts _ T_182) (fun _ h9 => h9) rfl dX6_alone_50 ?_
        refine lv_iload_n hx hb dX6_alone_53 rfl (lv_at hl 1 rfl) ?_
        refine lv_iload_n hx hb dX6_alone_54 rfl (lv_at hl 2 rfl) ?_
        obtain ⟨z93, z95, z97, z99, z101, z103, z104, z106, z107, z109, z110, z112, z113, z114, o116, h94, h96, h98, h100, h102, h105, h108, h111, h115, -⟩ := s_op1 hI h23
        refine va_callv (va_runV (As := [.int x1, .int x2]) (rest := []) ⟨hx, hb, hml, hown, hts⟩ (s_X0_tryLane l dC dI H.size hLK D (D + 401) (Nat.le_refl _) (by omega) F88 z22 x1 x2 h23 (⟨by omega, by omega⟩) (⟨by omega, by omega⟩) hI (s_PGt hI0 hfr (by decide) hPG)) (cwV 2 hts (ax_gV T_894 T_896 T_897 T_180 T_895) rfl rfl rfl (by decide +kernel) ⟨Nat.le_of_ble_eq_true rfl, Nat.le_of_ble_eq_true rfl⟩) ⟨fun a U g mk q => ⟨q.1, s_pc rfl rfl q.2⟩, s_recv hK hP (hLK _ h23 (by decide)) (ci := 0) rfl o116, fun U hU hW => ⟨rfl, s_pw hU hW hP hK hD hN⟩⟩ rfl rfl hl.1 rfl (lv_room (Nat.le_of_ble_eq_true rfl)) dX6_alone_55 ⟨Nat.zero_le _, Nat.zero_le _⟩) hS (fun q _ h => h) (fun q h => h) (fun F117 t H1 locs ht hvm hw hB hz1 hk1 hS => ?_)
        obtain ⟨hP, hK1⟩ := hB
        rw [ht] at hP
        generalize H1 = H at hP hS ⊢
        obtain ⟨h118, h119, hI, hfr1⟩ := hw
        have o120 : F117 a0 = .inr (6, [.ref z1, .int z3, .ref z5, .ref z7, .ref z9, .int z11, .ref z12, .ref z14, .int z16, .int z18, .ref z20, .ref z22, .ref z24, .long z26]) := (hfr1 _ (by rw [ha0]; decide)).trans o91
        have hfr : ∀ b, K b ∉ [1, 2, 5, 6, 24, 27, 28, 29, 30, 31, 32, 34, 35, 38] → F117 b = F b := fun b hb9 => (hfr1 b (fun q => hb9 (s_sub (by decide) q))).trans (hfr b hb9)
        refine lv_aload_n hx hb dX6_alone_58 rfl (lv_at hl 0 rfl) ?_
        refine th_get (D := (dC, dI)) (ci := 6) (v := .ref z22) (C := RX6) (T := TX6) (N := 14) hx hb hts inX6 hown hK hP (hLK _ ha0 (by decide)) o120 rfl 11 (by decide) (hts _ T_182) (fun _ h9 => h9) rfl dX6_alone_59 ?_
        refine lv_iload_n hx hb dX6_alone_62 rfl (lv_at hl 1 rfl) ?_
        refine lv_iload_n hx hb dX6_alone_63 rfl (lv_at hl 2 rfl) ?_
        refine lv_iload_n hx hb dX6_alone_64 rfl (lv_at hl 3 rfl) ?_
        obtain ⟨z121, z123, z125, z127, z129, z131, z132, z134, z135, z137, z138, z140, z141, z142, o144, h122, h124, h126, h128, h130, h133, h136, h139, h143, -⟩ := s_op1 hI h23
        refine va_calli (va_runV (As := [.int x1, .int x2, .int x3]) (rest := []) ⟨hx, hb, hml, hown, hts⟩ (s_X0_solo l dC dI H.size hLK (D + 401) F117 z22 x1 x2 x3 h23 (⟨by omega, by omega⟩) (⟨by omega, by omega⟩) (⟨by omega, by omega⟩) hI) (cwV 3 hts (ax_gV T_902 T_904 T_905 T_180 T_903) rfl rfl rfl (by decide +kernel) ⟨Nat.le_of_ble_eq_true rfl, Nat.le_of_ble_eq_true rfl⟩) ⟨fun a U g mk q => ⟨q.1, s_pc rfl rfl q.2⟩, s_recv hK hP (hLK _ h23 (by decide)) (ci := 0) rfl o144, fun U hU hW => ⟨rfl, s_pw hU hW hP hK hD hN⟩⟩ rfl rfl hl.1 rfl (lv_room (Nat.le_of_ble_eq_true rfl)) dX6_alone_65 ⟨Nat.zero_le _, Nat.zero_le _⟩) hS (fun q _ h => h) (fun q h => h) (fun r145 F146 t H1 locs ht hvm hw hB hz1 hk1 hS => ?_)
        obtain ⟨hP, hK1⟩ := hB
        rw [ht] at hP
        generalize H1 = H at hP hS ⊢
        obtain ⟨h147, h148, hI, hfr1⟩ := hw
        have o149 : F146 a0 = .inr (6, [.ref z1, .int z3, .ref z5, .ref z7, .ref z9, .int z11, .ref z12, .ref z14, .int z16, .int z18, .ref z20, .ref z22, .ref z24, .long z26]) := (hfr1 _ (by rw [ha0]; decide)).trans o120
        have o150 : F146 z22 = .inr (0, [.ref z121, .ref z123, .ref z125, .ref z127, .ref z129, .int z131, .ref z132, .long z134, .ref z135, .int z137, .ref z138, .int z140, .int z141, .int z142]) := (hfr1 _ (by rw [h23]; decide)).trans o144
        have hfr : ∀ b, K b ∉ [1, 2, 5, 6, 24, 27, 28, 29, 30, 31, 32, 34, 35, 38] → F146 b = F b := fun b hb9 => (hfr1 b (fun q => hb9 (s_sub (by decide) q))).trans (hfr b hb9)
        exact W.iret (v := r145) hx hb hr (fun t ht hW => ⟨⟨r145, F146, rfl, ⟨trivial, trivial, (s_mono (by omega) hI), hfr⟩, by rw [ht]; exact hP, va_K.moved hW.alike hK⟩, hS.F ht⟩) hS.2.2 dX6_alone_68
      · have c36 := mt (ax_lt (n := 5) (by decide)).mpr c36
        refine lv_ldc (v := (-1000000)) hx hb hown (hts _ T_228) dX6_alone_18 ?_
        exact W.iret (v := (-1000000)) hx hb hr (fun t ht hW => ⟨⟨(-1000000), F29, rfl, ⟨trivial, trivial, (s_mono (by omega) hI), hfr⟩, by rw [ht]; exact hP, va_K.moved hW.alike hK⟩, hS.F ht⟩) hS.2.2 dX6_alone_20

set_option maxHeartbeats 4000000 in
set_option maxRecDepth 100000 in
theorem s_X6_isAsAlone (l : Launch) (dC : Nat → ClassId) (dI : Nat → Nat → Nat) (sz : Nat) {L : List Nat} {K : Nat → Nat} {cs : Nat → ClassId} (hLK : ∀ a {k : Nat}, K a = k → k ≠ 0 → a ∈ L) (D : Nat) (F : Nat → va_E) (a0 : Nat) (x1 : Int32) (x2 : Int32) (ha0 : K a0 = 7) (hx1 : 0 ≤ x1.toInt ∧ x1.toInt ≤ 3) (hx2 : 0 ≤ x2.toInt ∧ x2.toInt ≤ 7) (hI : s_I K cs D F) : Met l yX6_isAsAlone (Cond.code yX6_isAsAlone cX6_isAsAlone 4 (some .boolean) :: T0) ({ frames := 1, cells := 0, slots := 0, locals := 23 }) (va_Pc [.ref a0, .int x1, .int x2] (s_W dC dI sz L F [(cs 0, .int), (cs 1, .byte), (cs 2, .long), (cs 3, .object RX5), (cs 4, .object RX4), (cs 5, .array .int), (cs 6, .char), (cs 7, .boolean)])) (va_Qi (fun (r : Int32) (G : Nat → va_E) => (0 ≤ r.toInt ∧ r.toInt ≤ 1) ∧ True ∧ s_I K cs D G ∧ ∀ b, K b ∉ ([] : List Nat) → G b = F b) (fun (G : Nat → va_E) (t : State) => va_P (dC, dI) vwCl (va_pl L G) t.heap ∧ va_K (dC, dI) vwCl [(cs 0, .int), (cs 1, .byte), (cs 2, .long), (cs 3, .object RX5), (cs 4, .object RX4), (cs 5, .array .int), (cs 6, .char), (cs 7, .boolean)] t) (fun q => q ∈ L)) 0 0 (fun q => q ∈ L) := by
  refine Met.ofW (cc := cX6_isAsAlone) (maxL := 4) (ret := (some .boolean)) (by decide) rfl ?_
  intro p e s m args below meth c s₁ B hml hv
  obtain ⟨rfl, hsz, hP, hK, hD, hN⟩ := hv
  have hx := B.exec
  have hb := B.bytes
  have hr := B.returns
  have hts : ∀ w ∈ T0, w.before _ s = true := fun w h => atoms_spec (ws := Cond.code yX6_isAsAlone cX6_isAsAlone 4 (some .boolean) :: T0) B.pre w (List.mem_cons_of_mem _ h)
  have hown : s.vm.findClass RX6 = some m.cls := findClass_of_methodNamed B.named
  have hlocks := B.notSynchronized
  have hS : va_S (fun q => q ∈ L) s.heap s.heap [] := va_S.rf
  have hfr : ∀ b, K b ∉ ([] : List Nat) → F b = F b := fun _ _ => rfl
  have hl := lv_entry ([.ref a0, .int x1, .int x2]) (n := 4) (Nat.le_of_ble_eq_true rfl)
  rw [lg_entry_eq]
  generalize (lg_sl ([.ref a0, .int x1, .int x2]) ++ List.replicate (4 - (lg_sl ([.ref a0, .int x1, .int x2])).length) Slot.unset).toArray = ls at hl ⊢
  have hl : lv_has ls 4 [(0, .ref a0), (1, .int x1), (2, .int x2)] := hl
  refine s_gen hP hS (fun H locs hP hS => ?_)
  refine lv_iconst (v := 0) hx hb dX6_isAsAlone_0 (by decide) ?_
  refine lv_istore_n (lv' := [(3, .int 0), (0, .ref a0), (1, .int x1), (2, .int x2)]) hx hb dX6_isAsAlone_1 rfl hl (by decide) rfl (fun ls hl => ?_)
  refine th_loop (fun n g H locs => ∃ (G : Nat → va_E) (ls : Array Slot) (w1 : Int32), g = F0 m 2 ls [] ∧ lv_has ls 4 [(0, .ref a0), (1, .int x1), (2, .int x2), (3, .int w1)] ∧ s_I K cs D G ∧ va_P (dC, dI) vwCl (va_pl L G) H ∧ va_S (fun q => q ∈ L) s.heap H locs ∧ (∀ b, K b ∉ ([] : List Nat) → G b = F b) ∧ (0 ≤ w1.toInt ∧ w1.toInt ≤ 4) ∧ (0 ≤ x1.toInt ∧ x1.toInt ≤ 3) ∧ (0 ≤ x2.toInt ∧ x2.toInt ≤ 7) ∧ n = (5 - w1.toInt).toNat) _ ⟨F, _, 0, rfl, lv_sub hl [1, 2, 3, 0] rfl, hI, hP, hS, hfr, (by decide), ⟨by omega, by omega⟩, ⟨by omega, by omega⟩, rfl⟩ (fun n ih2 g H locs hq => ?_)
  obtain ⟨F9, ls, w1, rfl, hl, hI, hP, hS, hfr, h2, h3, h4, hn⟩ := hq
  have hn_2 := hn
  obtain ⟨n_2, hn9_2⟩ : ∃ q, q = n := ⟨_, rfl⟩
  refine lv_iload_n hx hb dX6_isAsAlone_2 rfl (lv_at hl 3 rfl) ?_
  refine lv_iconst (v := 4) hx hb dX6_isAsAlone_3 (by decide) ?_
  refine lv_icmp_ge (tgt := 46) hx hb dX6_isAsAlone_4 (by decide) (fun c5 => ?_) (fun c5 => ?_)
  · have c5 := (ax_ge (n := 4) (by decide)).mp c5
    refine lv_iconst (v := 1) hx hb dX6_isAsAlone_46 (by decide) ?_
    exact W.zret (v := 1) (ty := .boolean) hx hb hr (by decide) (fun t ht hW => ⟨⟨1, F9, rfl, ⟨(by decide), trivial, hI, hfr⟩, by rw [ht]; exact hP, va_K.moved hW.alike hK⟩, hS.F ht⟩) hS.2.2 dX6_isAsAlone_47
  · have c5 := mt (ax_ge (n := 4) (by decide)).mpr c5
    refine lv_aload_n hx hb dX6_isAsAlone_7 rfl (lv_at hl 0 rfl) ?_
    obtain ⟨z6, z8, z10, z12, z14, z16, z17, z19, z21, z23, z25, z27, z29, z31, o32, h7, h9, h11, h13, h15, h18, h20, h22, h24, h26, h28, h30, -⟩ := s_op7 hI ha0
    refine th_get (D := (dC, dI)) (ci := 6) (v := .ref z27) (C := RX6) (T := TX6) (N := 14) hx hb hts inX6 hown hK hP (hLK _ ha0 (by decide)) o32 rfl 11 (by decide) (hts _ T_182) (fun _ h9 => h9) rfl dX6_isAsAlone_8 ?_
    refine lv_iload_n hx hb dX6_isAsAlone_11 rfl (lv_at hl 1 rfl) ?_
    refine lv_iload_n hx hb dX6_isAsAlone_12 rfl (lv_at hl 2 rfl) ?_
    refine lv_iload_n hx hb dX6_isAsAlone_13 rfl (lv_at hl 3 rfl) ?_
    obtain ⟨z33, z35, z37, z39, z41, z43, z44, z46, z47, z49, z50, z52, z53, z54, o56, h34, h36, h38, h40, h42, h45, h48, h51, h55, -⟩ := s_op1 hI h28
    refine va_calli (va_runV (As := [.int x1, .int x2, .int w1]) (rest := []) ⟨hx, hb, hml, hown, hts⟩ (s_X0_solo l dC dI H.size hLK D F9 z27 x1 x2 w1 h28 (⟨by omega, by omega⟩) (⟨by omega, by omega⟩) (⟨by omega, by omega⟩) hI) (cwV 3 hts (ax_gV T_902 T_904 T_905 T_180 T_903) rfl rfl rfl (by decide +kernel) ⟨Nat.le_of_ble_eq_true rfl, Nat.le_of_ble_eq_true rfl⟩) ⟨fun a U g mk q => ⟨q.1, s_pc rfl rfl q.2⟩, s_recv hK hP (hLK _ h28 (by decide)) (ci := 0) rfl o56, fun U hU hW => ⟨rfl, s_pw hU hW hP hK hD hN⟩⟩ rfl rfl hl.1 rfl (lv_room (Nat.le_of_ble_eq_true rfl)) dX6_isAsAlone_14 ⟨Nat.zero_le _, Nat.zero_le _⟩) hS (fun q _ h => h) (fun q h => h) (fun r57 F58 t H1 locs ht hvm hw hB hz1 hk1 hS => ?_)
    obtain ⟨hP, hK1⟩ := hB
    rw [ht] at hP
    generalize H1 = H at hP hS ⊢
    obtain ⟨h59, h60, hI, hfr1⟩ := hw
    have o61 : F58 a0 = .inr (6, [.ref z6, .int z8, .ref z10, .ref z12, .ref z14, .int z16, .ref z17, .ref z19, .int z21, .int z23, .ref z25, .ref z27, .ref z29, .long z31]) := (hfr1 _ (by rw [ha0]; decide)).trans o32
    have o62 : F58 z27 = .inr (0, [.ref z33, .ref z35, .ref z37, .ref z39, .ref z41, .int z43, .ref z44, .long z46, .ref z47, .int z49, .ref z50, .int z52, .int z53, .int z54]) := (hfr1 _ (by rw [h28]; decide)).trans o56
    have hfr : ∀ b, K b ∉ ([] : List Nat) → F58 b = F b := fun b hb9 => (hfr1 b (fun q => hb9 (s_sub (by decide) q))).trans (hfr b hb9)
    refine lv_aload_n hx hb dX6_isAsAlone_17 rfl (lv_at hl 0 rfl) ?_
    refine th_get (D := (dC, dI)) (ci := 6) (v := .ref z17) (C := RX6) (T := TX6) (N := 14) hx hb hts inX6 hown hK hP (hLK _ ha0 (by decide)) o61 rfl 6 (by decide) (hts _ T_174) (fun _ h9 => h9) rfl dX6_isAsAlone_18 ?_
    obtain ⟨z63, z65, z67, z69, z71, z73, z75, z77, z79, z80, z81, z83, z84, z86, z87, o89, h64, h66, h68, h70, h72, h74, h76, h78, h82, h85, h88, -⟩ := s_op5 hI h18
    refine th_getN (D := (dC, dI)) (ci := 4) (v := .ref z63) (C := RX4) (T := TX4) (N := 15) hx hb hts inX4 hown hK hP (hLK _ h18 (by decide)) o89 rfl 0 (by decide) (va_Nw.use rfl (ax_n56 hN)) (fun _ h9 => h9) rfl dX6_isAsAlone_21 ?_
    refine lv_iload_n hx hb dX6_isAsAlone_24 rfl (lv_at hl 1 rfl) ?_
    obtain ⟨f90, o91, h92⟩ := s_op26 hI h64
    obtain ⟨z93, o95, h94⟩ := h92 (x1 : Int32).toNatClampNeg (th_cl ⟨by omega, by omega⟩)
    refine th_aald hx hb hK hP (hLK _ h64 (by decide)) 3 o91 rfl (th_in ⟨by omega, by omega⟩) o95 dX6_isAsAlone_25 ?_
    obtain ⟨z96, z98, z100, z102, z104, z106, z108, z109, z110, z111, z112, o114, h97, h99, h101, h103, h105, h107, h113, -⟩ := s_op6 hI h94
    refine th_getN (D := (dC, dI)) (ci := 5) (v := .ref z96) (C := RX5) (T := TX5) (N := 11) hx hb hts inX5 hown hK hP (hLK _ h94 (by decide)) o114 rfl 0 (by decide) (va_Nw.use rfl (ax_n63 hN)) (fun _ h9 => h9) rfl dX6_isAsAlone_26 ?_
    refine lv_iload_n hx hb dX6_isAsAlone_29 rfl (lv_at hl 2 rfl) ?_
    refine lv_iconst (v := 4) hx hb dX6_isAsAlone_30 (by decide) ?_
    refine lv_imul hx hb dX6_isAsAlone_31 ?_
    refine lv_topi (fun v115 ev115 => ?_)
    have qv115 : v115.toInt = x2.toInt * 4 := by rw [ev115]; exact th_mul rfl (by decide) ⟨by omega, by omega⟩
    refine lv_iload_n hx hb dX6_isAsAlone_32 rfl (lv_at hl 3 rfl) ?_
    refine lv_iadd hx hb dX6_isAsAlone_33 ?_
    refine lv_topi (fun v116 ev116 => ?_)
    have qv116 : v116.toInt = v115.toInt + w1.toInt := by rw [ev116]; exact th_add rfl rfl ⟨by omega, by omega⟩
    obtain ⟨f117, o118, h119⟩ := s_op30 hI h97
    refine th_iald hx hb hK hP (hLK _ h97 (by decide)) 0 o118 rfl (th_in ⟨by omega, by omega⟩) dX6_isAsAlone_34 ?_
    refine lv_topi (fun v120 ev120 => ?_)
    refine lv_icmp_eq (tgt := 40) hx hb dX6_isAsAlone_35 (by decide) (fun c121 => ?_) (fun c121 => ?_)
    · have c121 := Int32.toInt_inj.symm.mp c121
      obtain ⟨v122, ev122⟩ : ∃ y : Int32, w1 + 1 = y := ⟨_, rfl⟩
      have qv122 : v122.toInt = w1.toInt + 1 := by rw [← ev122]; exact th_add rfl (by decide) ⟨by omega, by omega⟩
      refine lv_iinc (v := v122) (lv' := [(3, .int v122), (0, .ref a0), (1, .int x1), (2, .int x2)]) hx hb dX6_isAsAlone_40 hl (k := 3) rfl ev122 (by decide) rfl (fun ls hl => ?_)
      refine lv_goto (tgt := 2) hx hb dX6_isAsAlone_43 (by decide) ?_
      exact ih2 _ _ _ _ (by omega) ⟨F58, _, v122, rfl, lv_sub hl [1, 2, 3, 0] rfl, hI, hP, hS, hfr, ⟨by omega, by omega⟩, ⟨by omega, by omega⟩, ⟨by omega, by omega⟩, rfl⟩
    · have c121 := mt Int32.toInt_inj.symm.mpr c121
      refine lv_iconst (v := 0) hx hb dX6_isAsAlone_38 (by decide) ?_
      exact W.zret (v := 0) (ty := .boolean) hx hb hr (by decide) (fun t ht hW => ⟨⟨0, F58, rfl, ⟨(by decide), trivial, hI, hfr⟩, by rw [ht]; exact hP, va_K.moved hW.alike hK⟩, hS.F ht⟩) hS.2.2 dX6_isAsAlone_39

set_option maxHeartbeats 4000000 in
set_option maxRecDepth 100000 in
theorem s_X6_agrees (l : Launch) (dC : Nat → ClassId) (dI : Nat → Nat → Nat) (sz : Nat) {L : List Nat} {K : Nat → Nat} {cs : Nat → ClassId} (hLK : ∀ a {k : Nat}, K a = k → k ≠ 0 → a ∈ L) (D : Nat) (Dm : Nat) (hDm : D + 18045 ≤ Dm) (hDM : Dm < 2147483647) (F : Nat → va_E) (a0 : Nat) (ha0 : K a0 = 7) (hI : s_I K cs D F) (hPG : s_PG K cs F) : Met l yX6_agrees (Cond.code yX6_agrees cX6_agrees 4 (some .int) :: T0) ({ frames := 7, cells := 0, slots := 0, locals := 163 }) (va_Pc [.ref a0] (s_W dC dI sz L F [(cs 0, .int), (cs 1, .byte), (cs 2, .long), (cs 3, .object RX5), (cs 4, .object RX4), (cs 5, .array .int), (cs 6, .char), (cs 7, .boolean)])) (va_Qi (fun (r : Int32) (G : Nat → va_E) => True ∧ True ∧ s_I K cs Dm G ∧ ∀ b, K b ∉ [1, 2, 5, 6, 24, 27, 28, 29, 30, 31, 32, 34, 35, 38] → G b = F b) (fun (G : Nat → va_E) (t : State) => va_P (dC, dI) vwCl (va_pl L G) t.heap ∧ va_K (dC, dI) vwCl [(cs 0, .int), (cs 1, .byte), (cs 2, .long), (cs 3, .object RX5), (cs 4, .object RX4), (cs 5, .array .int), (cs 6, .char), (cs 7, .boolean)] t) (fun q => q ∈ L)) 0 0 (fun q => q ∈ L) := by
  refine Met.ofW (cc := cX6_agrees) (maxL := 4) (ret := (some .int)) (by decide) rfl ?_
  intro p e s m args below meth c s₁ B hml hv
  obtain ⟨rfl, hsz, hP, hK, hD, hN⟩ := hv
  have hx := B.exec
  have hb := B.bytes
  have hr := B.returns
  have hts : ∀ w ∈ T0, w.before _ s = true := fun w h => atoms_spec (ws := Cond.code yX6_agrees cX6_agrees 4 (some .int) :: T0) B.pre w (List.mem_cons_of_mem _ h)
  have hown : s.vm.findClass RX6 = some m.cls := findClass_of_methodNamed B.named
  have hlocks := B.notSynchronized
  have hS : va_S (fun q => q ∈ L) s.heap s.heap [] := va_S.rf
  have hfr : ∀ b, K b ∉ [1, 2, 5, 6, 24, 27, 28, 29, 30, 31, 32, 34, 35, 38] → F b = F b := fun _ _ => rfl
  have hl := lv_entry ([.ref a0]) (n := 4) (Nat.le_of_ble_eq_true rfl)
  rw [lg_entry_eq]
  generalize (lg_sl ([.ref a0]) ++ List.replicate (4 - (lg_sl ([.ref a0])).length) Slot.unset).toArray = ls at hl ⊢
  have hl : lv_has ls 4 [(0, .ref a0)] := hl
  have hI0 := hI
  refine s_gen hP hS (fun H locs hP hS => ?_)
  refine lv_aload_n hx hb dX6_agrees_0 rfl (lv_at hl 0 rfl) ?_
  obtain ⟨z1, z3, z5, z7, z9, z11, z12, z14, z16, z18, z20, z22, z24, z26, o27, h2, h4, h6, h8, h10, h13, h15, h17, h19, h21, h23, h25, -⟩ := s_op7 hI ha0
  refine th_get (D := (dC, dI)) (ci := 6) (v := .int z11) (C := RX6) (T := TX6) (N := 14) hx hb hts inX6 hown hK hP (hLK _ ha0 (by decide)) o27 rfl 5 (by decide) (hts _ T_224) (fun _ h9 => h9) rfl dX6_agrees_1 ?_
  refine lv_if_ne (tgt := 9) hx hb dX6_agrees_4 (by decide) (fun c28 => ?_) (fun c28 => ?_)
  · have c28 := mt (ax_eq (n := 0) (by decide)).mpr c28
    refine lv_aload_n hx hb dX6_agrees_9 rfl (lv_at hl 0 rfl) ?_
    refine th_get (D := (dC, dI)) (ci := 6) (v := .ref z22) (C := RX6) (T := TX6) (N := 14) hx hb hts inX6 hown hK hP (hLK _ ha0 (by decide)) o27 rfl 11 (by decide) (hts _ T_182) (fun _ h9 => h9) rfl dX6_agrees_10 ?_
    refine lv_aload_n hx hb dX6_agrees_13 rfl (lv_at hl 0 rfl) ?_
    refine th_get (D := (dC, dI)) (ci := 6) (v := .ref z12) (C := RX6) (T := TX6) (N := 14) hx hb hts inX6 hown hK hP (hLK _ ha0 (by decide)) o27 rfl 6 (by decide) (hts _ T_174) (fun _ h9 => h9) rfl dX6_agrees_14 ?_
    obtain ⟨z29, z31, z33, z35, z37, z39, z41, z43, z45, z46, z47, z49, z50, z52, z53, o55, h30, h32, h34, h36, h38, h40, h42, h44, h48, h51, h54, -⟩ := s_op5 hI h13
    refine th_getN (D := (dC, dI)) (ci := 4) (v := .int z45) (C := RX4) (T := TX4) (N := 15) hx hb hts inX4 hown hK hP (hLK _ h13 (by decide)) o55 rfl 8 (by decide) (va_Nw.use rfl (ax_n52 hN)) (fun _ h9 => h9) rfl dX6_agrees_17 ?_
    refine lv_aload_n hx hb dX6_agrees_20 rfl (lv_at hl 0 rfl) ?_
    refine th_get (D := (dC, dI)) (ci := 6) (v := .ref z12) (C := RX6) (T := TX6) (N := 14) hx hb hts inX6 hown hK hP (hLK _ ha0 (by decide)) o27 rfl 6 (by decide) (hts _ T_174) (fun _ h9 => h9) rfl dX6_agrees_21 ?_
    refine th_getN (D := (dC, dI)) (ci := 4) (v := .int z46) (C := RX4) (T := TX4) (N := 15) hx hb hts inX4 hown hK hP (hLK _ h13 (by decide)) o55 rfl 9 (by decide) (va_Nw.use rfl (ax_n53 hN)) (fun _ h9 => h9) rfl dX6_agrees_24 ?_
    refine lv_aload_n hx hb dX6_agrees_27 rfl (lv_at hl 0 rfl) ?_
    refine th_get (D := (dC, dI)) (ci := 6) (v := .ref z12) (C := RX6) (T := TX6) (N := 14) hx hb hts inX6 hown hK hP (hLK _ ha0 (by decide)) o27 rfl 6 (by decide) (hts _ T_174) (fun _ h9 => h9) rfl dX6_agrees_28 ?_
    refine th_getN (D := (dC, dI)) (ci := 4) (v := .int z47) (C := RX4) (T := TX4) (N := 15) hx hb hts inX4 hown hK hP (hLK _ h13 (by decide)) o55 rfl 10 (by decide) (va_Nw.use rfl (ax_n54 hN)) (fun _ h9 => h9) rfl dX6_agrees_31 ?_
    obtain ⟨z56, z58, z60, z62, z64, z66, z67, z69, z70, z72, z73, z75, z76, z77, o79, h57, h59, h61, h63, h65, h68, h71, h74, h78, -⟩ := s_op1 hI h23
    refine va_callv (va_runV (As := [.int z45, .int z46, .int z47]) (rest := []) ⟨hx, hb, hml, hown, hts⟩ (s_X0_tryBy l dC dI H.size hLK D F z22 z45 z46 z47 h23 (⟨by omega, by omega⟩) hI) (cwV 3 hts (ax_gV T_890 T_892 T_893 T_180 T_891) rfl rfl rfl (by decide +kernel) ⟨Nat.le_of_ble_eq_true rfl, Nat.le_of_ble_eq_true rfl⟩) ⟨fun a U g mk q => ⟨q.1, s_pc rfl rfl q.2⟩, s_recv hK hP (hLK _ h23 (by decide)) (ci := 0) rfl o79, fun U hU hW => ⟨rfl, s_pw hU hW hP hK hD hN⟩⟩ rfl rfl hl.1 rfl (lv_room (Nat.le_of_ble_eq_true rfl)) dX6_agrees_34 ⟨Nat.zero_le _, Nat.zero_le _⟩) hS (fun q _ h => h) (fun q h => h) (fun F80 t H1 locs ht hvm hw hB hz1 hk1 hS => ?_)
    obtain ⟨hP, hK1⟩ := hB
    rw [ht] at hP
    generalize H1 = H at hP hS ⊢
    obtain ⟨h81, h82, hI, hfr1⟩ := hw
    have o83 : F80 a0 = .inr (6, [.ref z1, .int z3, .ref z5, .ref z7, .ref z9, .int z11, .ref z12, .ref z14, .int z16, .int z18, .ref z20, .ref z22, .ref z24, .long z26]) := (hfr1 _ (by rw [ha0]; decide)).trans o27
    have o84 : F80 z12 = .inr (4, [.ref z29, .ref z31, .ref z33, .ref z35, .ref z37, .ref z39, .ref z41, .int z43, .int z45, .int z46, .int z47, .int z49, .int z50, .int z52, .int z53]) := (hfr1 _ (by rw [h13]; decide)).trans o55
    have hfr : ∀ b, K b ∉ [1, 2, 5, 6, 24, 27, 28, 29, 30, 31, 32, 34, 35, 38] → F80 b = F b := fun b hb9 => (hfr1 b (fun q => hb9 (s_sub (by decide) q))).trans (hfr b hb9)
    refine lv_iconst (v := 0) hx hb dX6_agrees_37 (by decide) ?_
    refine lv_istore_n (lv' := [(1, .int 0), (0, .ref a0)]) hx hb dX6_agrees_38 rfl hl (by decide) rfl (fun ls hl => ?_)
    refine lv_iconst (v := 0) hx hb dX6_agrees_39 (by decide) ?_
    refine lv_istore_n (lv' := [(2, .int 0), (1, .int 0), (0, .ref a0)]) hx hb dX6_agrees_40 rfl hl (by decide) rfl (fun ls hl => ?_)
    refine th_loop (fun n g H locs => ∃ (G : Nat → va_E) (ls : Array Slot) (Dn : Nat) (w85 : Int32) (w86 : Int32), g = F0 m 41 ls [] ∧ lv_has ls 4 [(0, .ref a0), (1, .int w85), (2, .int w86)] ∧ Dn + 3609 * n + 0 ≤ Dm ∧ s_I K cs Dn G ∧ va_P (dC, dI) vwCl (va_pl L G) H ∧ va_S (fun q => q ∈ L) s.heap H locs ∧ (∀ b, K b ∉ [1, 2, 5, 6, 24, 27, 28, 29, 30, 31, 32, 34, 35, 38] → G b = F b) ∧ True ∧ (0 ≤ w86.toInt ∧ w86.toInt ≤ 4) ∧ n = (5 - w86.toInt).toNat) _ ⟨F80, _, D, 0, 0, rfl, lv_sub hl [2, 1, 0] rfl, by omega, hI, hP, hS, hfr, trivial, (by decide), rfl⟩ (fun n ih41 g H locs hq => ?_)
    obtain ⟨F9, ls, D89, w85, w86, rfl, hl, h90, hI, hP, hS, hfr, h87, h88, hn⟩ := hq
    have hn_41 := hn
    obtain ⟨n_41, hn9_41⟩ : ∃ q, q = n := ⟨_, rfl⟩
    refine lv_iload_n hx hb dX6_agrees_41 rfl (lv_at hl 2 rfl) ?_
    refine lv_aload_n hx hb dX6_agrees_42 rfl (lv_at hl 0 rfl) ?_
    obtain ⟨z91, z93, z95, z97, z99, z101, z102, z104, z106, z108, z110, z112, z114, z116, o117, h92, h94, h96, h98, h100, h103, h105, h107, h109, h111, h113, h115, -⟩ := s_op7 hI ha0
    refine th_get (D := (dC, dI)) (ci := 6) (v := .ref z97) (C := RX6) (T := TX6) (N := 14) hx hb hts inX6 hown hK hP (hLK _ ha0 (by decide)) o117 rfl 3 (by decide) (hts _ T_170) (fun _ h9 => h9) rfl dX6_agrees_43 ?_
    obtain ⟨z118, z120, z122, z124, z126, z128, z129, o130, h119, h121, h123, h125, h127, -⟩ := s_op3 hI h98
    refine th_getN (D := (dC, dI)) (ci := 2) (v := .int z126) (C := RX2) (T := TX2) (N := 7) hx hb hts inX2 hown hK hP (hLK _ h98 (by decide)) o130 rfl 4 (by decide) (va_Nw.use rfl (ax_n55 hN)) (fun _ h9 => h9) rfl dX6_agrees_46 ?_
    refine lv_icmp_ge (tgt := 117) hx hb dX6_agrees_49 (by decide) (fun c131 => ?_) (fun c131 => ?_)
    · have c131 := Int32.le_iff_toInt_le.mp c131
      refine lv_iload_n hx hb dX6_agrees_117 rfl (lv_at hl 1 rfl) ?_
      exact W.iret (v := w85) hx hb hr (fun t ht hW => ⟨⟨w85, F9, rfl, ⟨trivial, trivial, (s_mono (by omega) hI), hfr⟩, by rw [ht]; exact hP, va_K.moved hW.alike hK⟩, hS.F ht⟩) hS.2.2 dX6_agrees_118
    · have c131 := mt Int32.le_iff_toInt_le.mpr c131
      refine lv_iconst (v := 0) hx hb dX6_agrees_52 (by decide) ?_
      refine lv_istore_n (lv' := [(3, .int 0), (0, .ref a0), (1, .int w85), (2, .int w86)]) hx hb dX6_agrees_53 rfl hl (by decide) rfl (fun ls hl => ?_)
      refine th_loop (fun n g H locs => ∃ (G : Nat → va_E) (ls : Array Slot) (Dn : Nat) (w132 : Int32) (w133 : Int32), g = F0 m 54 ls [] ∧ lv_has ls 4 [(0, .ref a0), (1, .int w132), (2, .int w86), (3, .int w133)] ∧ Dn + 401 * n + 0 + 3609 * (n_41 - 1) + 0 ≤ Dm ∧ s_I K cs Dn G ∧ va_P (dC, dI) vwCl (va_pl L G) H ∧ va_S (fun q => q ∈ L) s.heap H locs ∧ (∀ b, K b ∉ [1, 2, 5, 6, 24, 27, 28, 29, 30, 31, 32, 34, 35, 38] → G b = F b) ∧ True ∧ (0 ≤ w133.toInt ∧ w133.toInt ≤ 8) ∧ (0 ≤ w86.toInt ∧ w86.toInt ≤ 3) ∧ n = (9 - w133.toInt).toNat) _ ⟨F9, _, D89, w85, 0, rfl, lv_sub hl [1, 2, 3, 0] rfl, by omega, hI, hP, hS, hfr, trivial, (by decide), ⟨by omega, by omega⟩, rfl⟩ (fun n ih54 g H locs hq => ?_)
      obtain ⟨F9, ls, D137, w132, w133, rfl, hl, h138, hI, hP, hS, hfr, h134, h135, h136, hn⟩ := hq
      have hn_54 := hn
      obtain ⟨n_54, hn9_54⟩ : ∃ q, q = n := ⟨_, rfl⟩
      refine th_join (fun g H locs => ∃ (G : Nat → va_E) (ls : Array Slot) (Dn : Nat) (w139 : Int32), g = F0 m 105 ls [] ∧ lv_has ls 4 [(0, .ref a0), (1, .int w139), (2, .int w86), (3, .int w133)] ∧ Dn + 0 + 401 * (n_54 - 1) + 0 + 3609 * (n_41 - 1) + 0 ≤ Dm ∧ s_I K cs Dn G ∧ va_P (dC, dI) vwCl (va_pl L G) H ∧ va_S (fun q => q ∈ L) s.heap H locs ∧ (∀ b, K b ∉ [1, 2, 5, 6, 24, 27, 28, 29, 30, 31, 32, 34, 35, 38] → G b = F b) ∧ True ∧ (0 ≤ w86.toInt ∧ w86.toInt ≤ 3) ∧ (0 ≤ w133.toInt ∧ w133.toInt ≤ 7)) (fun K105 => ?_) ?_
      refine th_join (fun g H locs => ∃ (G : Nat → va_E) (ls : Array Slot) (Dn : Nat) (w140 : Int32) (w141 : Int32), g = F0 m 103 ls [.int w140, .int w141] ∧ lv_has ls 4 [(0, .ref a0), (2, .int w86), (3, .int w133)] ∧ Dn + 0 + 401 * (n_54 - 1) + 0 + 3609 * (n_41 - 1) + 0 ≤ Dm ∧ s_I K cs Dn G ∧ va_P (dC, dI) vwCl (va_pl L G) H ∧ va_S (fun q => q ∈ L) s.heap H locs ∧ (∀ b, K b ∉ [1, 2, 5, 6, 24, 27, 28, 29, 30, 31, 32, 34, 35, 38] → G b = F b) ∧ (0 ≤ w140.toInt ∧ w140.toInt ≤ 1) ∧ True ∧ (0 ≤ w86.toInt ∧ w86.toInt ≤ 3) ∧ (0 ≤ w133.toInt ∧ w133.toInt ≤ 7)) (fun K103 => ?_) ?_
      · refine lv_iload_n hx hb dX6_agrees_54 rfl (lv_at hl 3 rfl) ?_
        refine lv_bipush (v := 8) hx hb dX6_agrees_55 (by decide) ?_
        refine lv_icmp_ge (tgt := 111) hx hb dX6_agrees_57 (by decide) (fun c142 => ?_) (fun c142 => ?_)
        · have c142 := (ax_ge (n := 8) (by decide)).mp c142
          obtain ⟨v143, ev143⟩ : ∃ y : Int32, w86 + 1 = y := ⟨_, rfl⟩
          have qv143 : v143.toInt = w86.toInt + 1 := by rw [← ev143]; exact th_add rfl (by decide) ⟨by omega, by omega⟩
          refine lv_iinc (v := v143) (lv' := [(2, .int v143), (0, .ref a0), (1, .int w132), (3, .int w133)]) hx hb dX6_agrees_111 hl (k := 2) rfl ev143 (by decide) rfl (fun ls hl => ?_)
          refine lv_goto (tgt := 41) hx hb dX6_agrees_114 (by decide) ?_
          exact ih41 _ _ _ _ (by omega) ⟨F9, _, D137, w132, v143, rfl, lv_sub hl [1, 2, 0] rfl, by omega, hI, hP, hS, hfr, trivial, ⟨by omega, by omega⟩, rfl⟩
        · have c142 := mt (ax_ge (n := 8) (by decide)).mpr c142
          refine lv_aload_n hx hb dX6_agrees_60 rfl (lv_at hl 0 rfl) ?_
          obtain ⟨z144, z146, z148, z150, z152, z154, z155, z157, z159, z161, z163, z165, z167, z169, o170, h145, h147, h149, h151, h153, h156, h158, h160, h162, h164, h166, h168, -⟩ := s_op7 hI ha0
          refine th_get (D := (dC, dI)) (ci := 6) (v := .ref z155) (C := RX6) (T := TX6) (N := 14) hx hb hts inX6 hown hK hP (hLK _ ha0 (by decide)) o170 rfl 6 (by decide) (hts _ T_174) (fun _ h9 => h9) rfl dX6_agrees_61 ?_
          obtain ⟨z171, z173, z175, z177, z179, z181, z183, z185, z187, z188, z189, z191, z192, z194, z195, o197, h172, h174, h176, h178, h180, h182, h184, h186, h190, h193, h196, -⟩ := s_op5 hI h156
          refine th_getN (D := (dC, dI)) (ci := 4) (v := .ref z171) (C := RX4) (T := TX4) (N := 15) hx hb hts inX4 hown hK hP (hLK _ h156 (by decide)) o197 rfl 0 (by decide) (va_Nw.use rfl (ax_n56 hN)) (fun _ h9 => h9) rfl dX6_agrees_64 ?_
          refine lv_iload_n hx hb dX6_agrees_67 rfl (lv_at hl 2 rfl) ?_
          obtain ⟨f198, o199, h200⟩ := s_op26 hI h172
          obtain ⟨z201, o203, h202⟩ := h200 (w86 : Int32).toNatClampNeg (th_cl ⟨by omega, by omega⟩)
          refine th_aald hx hb hK hP (hLK _ h172 (by decide)) 3 o199 rfl (th_in ⟨by omega, by omega⟩) o203 dX6_agrees_68 ?_
          obtain ⟨z204, z206, z208, z210, z212, z214, z216, z217, z218, z219, z220, o222, h205, h207, h209, h211, h213, h215, h221, -⟩ := s_op6 hI h202
          refine th_getN (D := (dC, dI)) (ci := 5) (v := .int z216) (C := RX5) (T := TX5) (N := 11) hx hb hts inX5 hown hK hP (hLK _ h202 (by decide)) o222 rfl 6 (by decide) (va_Nw.use rfl (ax_n57 hN)) (fun _ h9 => h9) rfl dX6_agrees_69 ?_
          refine lv_iload_n hx hb dX6_agrees_72 rfl (lv_at hl 3 rfl) ?_
          refine lv_ishr hx hb dX6_agrees_73 ?_
          refine lv_topi (fun v223 ev223 => ?_)
          refine lv_iconst (v := 1) hx hb dX6_agrees_74 (by decide) ?_
          refine lv_iand hx hb dX6_agrees_75 ?_
          refine lv_topi (fun v224 ev224 => ?_)
          have qv224 : 0 ≤ v224.toInt ∧ v224.toInt ≤ 1 := by rw [ev224]; exact th_and 1 (by decide) (by decide)
          refine lv_if_ne (tgt := 105) hx hb dX6_agrees_76 (by decide) (fun c225 => ?_) (fun c225 => ?_)
          · have c225 := mt (ax_eq (n := 0) (by decide)).mpr c225
            exact K105 _ _ _ ⟨F9, _, D137, w132, rfl, lv_sub hl [0, 1, 2, 3] rfl, by omega, hI, hP, hS, hfr, trivial, ⟨by omega, by omega⟩, ⟨by omega, by omega⟩⟩
          · have c225 := (ax_eq (n := 0) (by decide)).mp c225
            refine lv_aload_n hx hb dX6_agrees_79 rfl (lv_at hl 0 rfl) ?_
            refine th_get (D := (dC, dI)) (ci := 6) (v := .ref z165) (C := RX6) (T := TX6) (N := 14) hx hb hts inX6 hown hK hP (hLK _ ha0 (by decide)) o170 rfl 11 (by decide) (hts _ T_182) (fun _ h9 => h9) rfl dX6_agrees_80 ?_
            refine lv_iload_n hx hb dX6_agrees_83 rfl (lv_at hl 2 rfl) ?_
            refine lv_iload_n hx hb dX6_agrees_84 rfl (lv_at hl 3 rfl) ?_
            obtain ⟨z226, z228, z230, z232, z234, z236, z237, z239, z240, z242, z243, z245, z246, z247, o249, h227, h229, h231, h233, h235, h238, h241, h244, h248, -⟩ := s_op1 hI h166
            refine va_callv (va_runV (As := [.int w86, .int w133]) (rest := []) ⟨hx, hb, hml, hown, hts⟩ (s_X0_tryLane l dC dI H.size hLK D137 (D137 + 401) (Nat.le_refl _) (by omega) F9 z165 w86 w133 h166 (⟨by omega, by omega⟩) (⟨by omega, by omega⟩) hI (s_PGt hI0 hfr (by decide) hPG)) (cwV 2 hts (ax_gV T_894 T_896 T_897 T_180 T_895) rfl rfl rfl (by decide +kernel) ⟨Nat.le_of_ble_eq_true rfl, Nat.le_of_ble_eq_true rfl⟩) ⟨fun a U g mk q => ⟨q.1, s_pc rfl rfl q.2⟩, s_recv hK hP (hLK _ h166 (by decide)) (ci := 0) rfl o249, fun U hU hW => ⟨rfl, s_pw hU hW hP hK hD hN⟩⟩ rfl rfl hl.1 rfl (lv_room (Nat.le_of_ble_eq_true rfl)) dX6_agrees_85 ⟨Nat.zero_le _, Nat.zero_le _⟩) hS (fun q _ h => h) (fun q h => h) (fun F250 t H1 locs ht hvm hw hB hz1 hk1 hS => ?_)
            obtain ⟨hP, hK1⟩ := hB
            rw [ht] at hP
            generalize H1 = H at hP hS ⊢
            obtain ⟨h251, h252, hI, hfr1⟩ := hw
            have o253 : F250 a0 = .inr (6, [.ref z144, .int z146, .ref z148, .ref z150, .ref z152, .int z154, .ref z155, .ref z157, .int z159, .int z161, .ref z163, .ref z165, .ref z167, .long z169]) := (hfr1 _ (by rw [ha0]; decide)).trans o170
            have hfr : ∀ b, K b ∉ [1, 2, 5, 6, 24, 27, 28, 29, 30, 31, 32, 34, 35, 38] → F250 b = F b := fun b hb9 => (hfr1 b (fun q => hb9 (s_sub (by decide) q))).trans (hfr b hb9)
            refine lv_iload_n hx hb dX6_agrees_88 rfl (lv_at hl 1 rfl) ?_
            refine lv_aload_n hx hb dX6_agrees_89 rfl (lv_at hl 0 rfl) ?_
            refine lv_iload_n hx hb dX6_agrees_90 rfl (lv_at hl 2 rfl) ?_
            refine lv_iload_n hx hb dX6_agrees_91 rfl (lv_at hl 3 rfl) ?_
            refine va_calli (va_runV (As := [.int w86, .int w133]) (rest := [.int w132]) ⟨hx, hb, hml, hown, hts⟩ (s_X6_isAsAlone l dC dI H.size hLK (D137 + 401) F250 a0 w86 w133 ha0 (⟨by omega, by omega⟩) (⟨by omega, by omega⟩) hI) (cwV 2 hts (ax_gV T_898 T_900 T_901 T_193 T_899) rfl rfl rfl (by decide +kernel) ⟨Nat.le_of_ble_eq_true rfl, Nat.le_of_ble_eq_true rfl⟩) ⟨fun a U g mk q => ⟨q.1, s_pc rfl rfl q.2⟩, s_recv hK hP (hLK _ ha0 (by decide)) (ci := 6) rfl o253, fun U hU hW => ⟨rfl, s_pw hU hW hP hK hD hN⟩⟩ rfl rfl hl.1 rfl (lv_room (Nat.le_of_ble_eq_true rfl)) dX6_agrees_92 ⟨Nat.zero_le _, Nat.zero_le _⟩) hS (fun q _ h => h) (fun q h => h) (fun r254 F255 t H1 locs ht hvm hw hB hz1 hk1 hS => ?_)
            obtain ⟨hP, hK1⟩ := hB
            rw [ht] at hP
            generalize H1 = H at hP hS ⊢
            obtain ⟨h256, h257, hI, hfr1⟩ := hw
            have o258 : F255 a0 = .inr (6, [.ref z144, .int z146, .ref z148, .ref z150, .ref z152, .int z154, .ref z155, .ref z157, .int z159, .int z161, .ref z163, .ref z165, .ref z167, .long z169]) := (hfr1 _ (by rw [ha0]; decide)).trans o253
            have hfr : ∀ b, K b ∉ [1, 2, 5, 6, 24, 27, 28, 29, 30, 31, 32, 34, 35, 38] → F255 b = F b := fun b hb9 => (hfr1 b (fun q => hb9 (s_sub (by decide) q))).trans (hfr b hb9)
            refine lv_if_eq (tgt := 102) hx hb dX6_agrees_95 (by decide) (fun c259 => ?_) (fun c259 => ?_)
            · have c259 := (ax_eq (n := 0) (by decide)).mp c259
              refine lv_iconst (v := 0) hx hb dX6_agrees_102 (by decide) ?_
              exact K103 _ _ _ ⟨F255, _, (D137 + 401), 0, w132, rfl, lv_sub hl [0, 2, 3] rfl, by omega, hI, hP, hS, hfr, (by decide), trivial, ⟨by omega, by omega⟩, ⟨by omega, by omega⟩⟩
            · have c259 := mt (ax_eq (n := 0) (by decide)).mpr c259
              refine lv_iconst (v := 1) hx hb dX6_agrees_98 (by decide) ?_
              refine lv_goto (tgt := 103) hx hb dX6_agrees_99 (by decide) ?_
              exact K103 _ _ _ ⟨F255, _, (D137 + 401), 1, w132, rfl, lv_sub hl [0, 2, 3] rfl, by omega, hI, hP, hS, hfr, (by decide), trivial, ⟨by omega, by omega⟩, ⟨by omega, by omega⟩⟩
      · intro g H locs hq
        obtain ⟨F9, ls, D264, w140, w141, rfl, hl, h265, hI, hP, hS, hfr, h260, h261, h262, h263⟩ := hq
        refine lv_iadd hx hb dX6_agrees_103 ?_
        refine lv_topi (fun v266 ev266 => ?_)
        refine lv_istore_n (lv' := [(1, .int v266), (0, .ref a0), (2, .int w86), (3, .int w133)]) hx hb dX6_agrees_104 rfl hl (by decide) rfl (fun ls hl => ?_)
        exact K105 _ _ _ ⟨F9, _, D264, v266, rfl, lv_sub hl [1, 0, 2, 3] rfl, by omega, hI, hP, hS, hfr, trivial, ⟨by omega, by omega⟩, ⟨by omega, by omega⟩⟩
      · intro g H locs hq
        obtain ⟨F9, ls, D270, w139, rfl, hl, h271, hI, hP, hS, hfr, h267, h268, h269⟩ := hq
        obtain ⟨v272, ev272⟩ : ∃ y : Int32, w133 + 1 = y := ⟨_, rfl⟩
        have qv272 : v272.toInt = w133.toInt + 1 := by rw [← ev272]; exact th_add rfl (by decide) ⟨by omega, by omega⟩
        refine lv_iinc (v := v272) (lv' := [(3, .int v272), (0, .ref a0), (1, .int w139), (2, .int w86)]) hx hb dX6_agrees_105 hl (k := 3) rfl ev272 (by decide) rfl (fun ls hl => ?_)
        refine lv_goto (tgt := 54) hx hb dX6_agrees_108 (by decide) ?_
        exact ih54 _ _ _ _ (by omega) ⟨F9, _, D270, w139, v272, rfl, lv_sub hl [1, 2, 3, 0] rfl, by omega, hI, hP, hS, hfr, trivial, ⟨by omega, by omega⟩, ⟨by omega, by omega⟩, rfl⟩
  · have c28 := (ax_eq (n := 0) (by decide)).mp c28
    refine lv_iconst (v := (-1)) hx hb dX6_agrees_7 (by decide) ?_
    exact W.iret (v := (-1)) hx hb hr (fun t ht hW => ⟨⟨(-1), F, rfl, ⟨trivial, trivial, (s_mono (by omega) hI), hfr⟩, by rw [ht]; exact hP, va_K.moved hW.alike hK⟩, hS.F ht⟩) hS.2.2 dX6_agrees_8

set_option maxHeartbeats 4000000 in
set_option maxRecDepth 100000 in
theorem s_X6_likely (l : Launch) (dC : Nat → ClassId) (dI : Nat → Nat → Nat) (sz : Nat) {L : List Nat} {K : Nat → Nat} {cs : Nat → ClassId} (hLK : ∀ a {k : Nat}, K a = k → k ≠ 0 → a ∈ L) (D : Nat) (Dm : Nat) (hDm : D + 6817 ≤ Dm) (hDM : Dm < 2147483647) (F : Nat → va_E) (a0 : Nat) (x1 : Int32) (x2 : Int32) (x3 : Int32) (ha0 : K a0 = 7) (hI : s_I K cs D F) (hPG : s_PG K cs F) : Met l yX6_likely (Cond.code yX6_likely cX6_likely 6 (some .int) :: T0) ({ frames := 7, cells := 0, slots := 0, locals := 161 }) (va_Pc [.ref a0, .int x1, .int x2, .int x3] (s_W dC dI sz L F [(cs 0, .int), (cs 1, .byte), (cs 2, .long), (cs 3, .object RX5), (cs 4, .object RX4), (cs 5, .array .int), (cs 6, .char), (cs 7, .boolean)])) (va_Qi (fun (r : Int32) (G : Nat → va_E) => True ∧ True ∧ s_I K cs Dm G ∧ ∀ b, K b ∉ [1, 2, 5, 6, 24, 27, 28, 29, 30, 31, 32, 34, 35, 37] → G b = F b) (fun (G : Nat → va_E) (t : State) => va_P (dC, dI) vwCl (va_pl L G) t.heap ∧ va_K (dC, dI) vwCl [(cs 0, .int), (cs 1, .byte), (cs 2, .long), (cs 3, .object RX5), (cs 4, .object RX4), (cs 5, .array .int), (cs 6, .char), (cs 7, .boolean)] t) (fun q => q ∈ L)) 0 0 (fun q => q ∈ L) := by
  refine Met.ofW (cc := cX6_likely) (maxL := 6) (ret := (some .int)) (by decide) rfl ?_
  intro p e s m args below meth c s₁ B hml hv
  obtain ⟨rfl, hsz, hP, hK, hD, hN⟩ := hv
  have hx := B.exec
  have hb := B.bytes
  have hr := B.returns
  have hts : ∀ w ∈ T0, w.before _ s = true := fun w h => atoms_spec (ws := Cond.code yX6_likely cX6_likely 6 (some .int) :: T0) B.pre w (List.mem_cons_of_mem _ h)
  have hown : s.vm.findClass RX6 = some m.cls := findClass_of_methodNamed B.named
  have hlocks := B.notSynchronized
  have hS : va_S (fun q => q ∈ L) s.heap s.heap [] := va_S.rf
  have hfr : ∀ b, K b ∉ [1, 2, 5, 6, 24, 27, 28, 29, 30, 31, 32, 34, 35, 37] → F b = F b := fun _ _ => rfl
  have hl := lv_entry ([.ref a0, .int x1, .int x2, .int x3]) (n := 6) (Nat.le_of_ble_eq_true rfl)
  rw [lg_entry_eq]
  generalize (lg_sl ([.ref a0, .int x1, .int x2, .int x3]) ++ List.replicate (6 - (lg_sl ([.ref a0, .int x1, .int x2, .int x3])).length) Slot.unset).toArray = ls at hl ⊢
  have hl : lv_has ls 6 [(0, .ref a0), (1, .int x1), (2, .int x2), (3, .int x3)] := hl
  have hI0 := hI
  refine s_gen hP hS (fun H locs hP hS => ?_)
  refine lv_aload_n hx hb dX6_likely_0 rfl (lv_at hl 0 rfl) ?_
  obtain ⟨z1, z3, z5, z7, z9, z11, z12, z14, z16, z18, z20, z22, z24, z26, o27, h2, h4, h6, h8, h10, h13, h15, h17, h19, h21, h23, h25, -⟩ := s_op7 hI ha0
  refine th_get (D := (dC, dI)) (ci := 6) (v := .int z11) (C := RX6) (T := TX6) (N := 14) hx hb hts inX6 hown hK hP (hLK _ ha0 (by decide)) o27 rfl 5 (by decide) (hts _ T_224) (fun _ h9 => h9) rfl dX6_likely_1 ?_
  refine lv_if_eq (tgt := 33) hx hb dX6_likely_4 (by decide) (fun c28 => ?_) (fun c28 => ?_)
  · have c28 := (ax_eq (n := 0) (by decide)).mp c28
    refine lv_iconst (v := (-1)) hx hb dX6_likely_33 (by decide) ?_
    exact W.iret (v := (-1)) hx hb hr (fun t ht hW => ⟨⟨(-1), F, rfl, ⟨trivial, trivial, (s_mono (by omega) hI), hfr⟩, by rw [ht]; exact hP, va_K.moved hW.alike hK⟩, hS.F ht⟩) hS.2.2 dX6_likely_34
  · have c28 := mt (ax_eq (n := 0) (by decide)).mpr c28
    refine lv_iload_n hx hb dX6_likely_7 rfl (lv_at hl 1 rfl) ?_
    refine lv_if_lt (tgt := 33) hx hb dX6_likely_8 (by decide) (fun c29 => ?_) (fun c29 => ?_)
    · have c29 := (ax_lt (n := 0) (by decide)).mp c29
      refine lv_iconst (v := (-1)) hx hb dX6_likely_33 (by decide) ?_
      exact W.iret (v := (-1)) hx hb hr (fun t ht hW => ⟨⟨(-1), F, rfl, ⟨trivial, trivial, (s_mono (by omega) hI), hfr⟩, by rw [ht]; exact hP, va_K.moved hW.alike hK⟩, hS.F ht⟩) hS.2.2 dX6_likely_34
    · have c29 := mt (ax_lt (n := 0) (by decide)).mpr c29
      refine lv_iload_n hx hb dX6_likely_11 rfl (lv_at hl 1 rfl) ?_
      refine lv_bipush (v := 64) hx hb dX6_likely_12 (by decide) ?_
      refine lv_icmp_ge (tgt := 33) hx hb dX6_likely_14 (by decide) (fun c30 => ?_) (fun c30 => ?_)
      · have c30 := (ax_ge (n := 64) (by decide)).mp c30
        refine lv_iconst (v := (-1)) hx hb dX6_likely_33 (by decide) ?_
        exact W.iret (v := (-1)) hx hb hr (fun t ht hW => ⟨⟨(-1), F, rfl, ⟨trivial, trivial, (s_mono (by omega) hI), hfr⟩, by rw [ht]; exact hP, va_K.moved hW.alike hK⟩, hS.F ht⟩) hS.2.2 dX6_likely_34
      · have c30 := mt (ax_ge (n := 64) (by decide)).mpr c30
        refine lv_iload_n hx hb dX6_likely_17 rfl (lv_at hl 2 rfl) ?_
        refine lv_if_lt (tgt := 33) hx hb dX6_likely_18 (by decide) (fun c31 => ?_) (fun c31 => ?_)
        · have c31 := (ax_lt (n := 0) (by decide)).mp c31
          refine lv_iconst (v := (-1)) hx hb dX6_likely_33 (by decide) ?_
          exact W.iret (v := (-1)) hx hb hr (fun t ht hW => ⟨⟨(-1), F, rfl, ⟨trivial, trivial, (s_mono (by omega) hI), hfr⟩, by rw [ht]; exact hP, va_K.moved hW.alike hK⟩, hS.F ht⟩) hS.2.2 dX6_likely_34
        · have c31 := mt (ax_lt (n := 0) (by decide)).mpr c31
          refine lv_iload_n hx hb dX6_likely_21 rfl (lv_at hl 2 rfl) ?_
          refine lv_sipush (v := 400) hx hb dX6_likely_22 (by decide) ?_
          refine lv_icmp_gt (tgt := 33) hx hb dX6_likely_25 (by decide) (fun c32 => ?_) (fun c32 => ?_)
          · have c32 := (ax_gt (n := 400) (by decide)).mp c32
            refine lv_iconst (v := (-1)) hx hb dX6_likely_33 (by decide) ?_
            exact W.iret (v := (-1)) hx hb hr (fun t ht hW => ⟨⟨(-1), F, rfl, ⟨trivial, trivial, (s_mono (by omega) hI), hfr⟩, by rw [ht]; exact hP, va_K.moved hW.alike hK⟩, hS.F ht⟩) hS.2.2 dX6_likely_34
          · have c32 := mt (ax_gt (n := 400) (by decide)).mpr c32
            refine lv_iload_n hx hb dX6_likely_28 rfl (lv_at hl 3 rfl) ?_
            refine lv_iconst (v := (-1)) hx hb dX6_likely_29 (by decide) ?_
            refine lv_icmp_ge (tgt := 35) hx hb dX6_likely_30 (by decide) (fun c33 => ?_) (fun c33 => ?_)
            · have c33 := (ax_ge (n := (-1)) (by decide)).mp c33
              refine lv_aload_n hx hb dX6_likely_35 rfl (lv_at hl 0 rfl) ?_
              refine th_get (D := (dC, dI)) (ci := 6) (v := .ref z22) (C := RX6) (T := TX6) (N := 14) hx hb hts inX6 hown hK hP (hLK _ ha0 (by decide)) o27 rfl 11 (by decide) (hts _ T_182) (fun _ h9 => h9) rfl dX6_likely_36 ?_
              refine lv_aload_n hx hb dX6_likely_39 rfl (lv_at hl 0 rfl) ?_
              refine th_get (D := (dC, dI)) (ci := 6) (v := .ref z12) (C := RX6) (T := TX6) (N := 14) hx hb hts inX6 hown hK hP (hLK _ ha0 (by decide)) o27 rfl 6 (by decide) (hts _ T_174) (fun _ h9 => h9) rfl dX6_likely_40 ?_
              obtain ⟨z34, z36, z38, z40, z42, z44, z46, z48, z50, z51, z52, z54, z55, z57, z58, o60, h35, h37, h39, h41, h43, h45, h47, h49, h53, h56, h59, -⟩ := s_op5 hI h13
              refine th_getN (D := (dC, dI)) (ci := 4) (v := .int z50) (C := RX4) (T := TX4) (N := 15) hx hb hts inX4 hown hK hP (hLK _ h13 (by decide)) o60 rfl 8 (by decide) (va_Nw.use rfl (ax_n52 hN)) (fun _ h9 => h9) rfl dX6_likely_43 ?_
              refine lv_aload_n hx hb dX6_likely_46 rfl (lv_at hl 0 rfl) ?_
              refine th_get (D := (dC, dI)) (ci := 6) (v := .ref z12) (C := RX6) (T := TX6) (N := 14) hx hb hts inX6 hown hK hP (hLK _ ha0 (by decide)) o27 rfl 6 (by decide) (hts _ T_174) (fun _ h9 => h9) rfl dX6_likely_47 ?_
              refine th_getN (D := (dC, dI)) (ci := 4) (v := .int z51) (C := RX4) (T := TX4) (N := 15) hx hb hts inX4 hown hK hP (hLK _ h13 (by decide)) o60 rfl 9 (by decide) (va_Nw.use rfl (ax_n53 hN)) (fun _ h9 => h9) rfl dX6_likely_50 ?_
              refine lv_aload_n hx hb dX6_likely_53 rfl (lv_at hl 0 rfl) ?_
              refine th_get (D := (dC, dI)) (ci := 6) (v := .ref z12) (C := RX6) (T := TX6) (N := 14) hx hb hts inX6 hown hK hP (hLK _ ha0 (by decide)) o27 rfl 6 (by decide) (hts _ T_174) (fun _ h9 => h9) rfl dX6_likely_54 ?_
              refine th_getN (D := (dC, dI)) (ci := 4) (v := .int z52) (C := RX4) (T := TX4) (N := 15) hx hb hts inX4 hown hK hP (hLK _ h13 (by decide)) o60 rfl 10 (by decide) (va_Nw.use rfl (ax_n54 hN)) (fun _ h9 => h9) rfl dX6_likely_57 ?_
              obtain ⟨z61, z63, z65, z67, z69, z71, z72, z74, z75, z77, z78, z80, z81, z82, o84, h62, h64, h66, h68, h70, h73, h76, h79, h83, -⟩ := s_op1 hI h23
              refine va_callv (va_runV (As := [.int z50, .int z51, .int z52]) (rest := []) ⟨hx, hb, hml, hown, hts⟩ (s_X0_tryBy l dC dI H.size hLK D F z22 z50 z51 z52 h23 (⟨by omega, by omega⟩) hI) (cwV 3 hts (ax_gV T_890 T_892 T_893 T_180 T_891) rfl rfl rfl (by decide +kernel) ⟨Nat.le_of_ble_eq_true rfl, Nat.le_of_ble_eq_true rfl⟩) ⟨fun a U g mk q => ⟨q.1, s_pc rfl rfl q.2⟩, s_recv hK hP (hLK _ h23 (by decide)) (ci := 0) rfl o84, fun U hU hW => ⟨rfl, s_pw hU hW hP hK hD hN⟩⟩ rfl rfl hl.1 rfl (lv_room (Nat.le_of_ble_eq_true rfl)) dX6_likely_60 ⟨Nat.zero_le _, Nat.zero_le _⟩) hS (fun q _ h => h) (fun q h => h) (fun F85 t H1 locs ht hvm hw hB hz1 hk1 hS => ?_)
              obtain ⟨hP, hK1⟩ := hB
              rw [ht] at hP
              generalize H1 = H at hP hS ⊢
              obtain ⟨h86, h87, hI, hfr1⟩ := hw
              have o88 : F85 a0 = .inr (6, [.ref z1, .int z3, .ref z5, .ref z7, .ref z9, .int z11, .ref z12, .ref z14, .int z16, .int z18, .ref z20, .ref z22, .ref z24, .long z26]) := (hfr1 _ (by rw [ha0]; decide)).trans o27
              have o89 : F85 z12 = .inr (4, [.ref z34, .ref z36, .ref z38, .ref z40, .ref z42, .ref z44, .ref z46, .int z48, .int z50, .int z51, .int z52, .int z54, .int z55, .int z57, .int z58]) := (hfr1 _ (by rw [h13]; decide)).trans o60
              have hfr : ∀ b, K b ∉ [1, 2, 5, 6, 24, 27, 28, 29, 30, 31, 32, 34, 35, 37] → F85 b = F b := fun b hb9 => (hfr1 b (fun q => hb9 (s_sub (by decide) q))).trans (hfr b hb9)
              refine lv_aload_n hx hb dX6_likely_63 rfl (lv_at hl 0 rfl) ?_
              refine th_get (D := (dC, dI)) (ci := 6) (v := .ref z22) (C := RX6) (T := TX6) (N := 14) hx hb hts inX6 hown hK hP (hLK _ ha0 (by decide)) o88 rfl 11 (by decide) (hts _ T_182) (fun _ h9 => h9) rfl dX6_likely_64 ?_
              refine lv_iload_n hx hb dX6_likely_67 rfl (lv_at hl 1 rfl) ?_
              obtain ⟨z90, z92, z94, z96, z98, z100, z101, z103, z104, z106, z107, z109, z110, z111, o113, h91, h93, h95, h97, h99, h102, h105, h108, h112, -⟩ := s_op1 hI h23
              refine va_callv (va_runV (As := [.int x1]) (rest := []) ⟨hx, hb, hml, hown, hts⟩ (s_X0_tryWord l dC dI H.size hLK D (D + 6817) (Nat.le_refl _) (by omega) F85 z22 x1 h23 (⟨by omega, by omega⟩) hI (s_PGt hI0 hfr (by decide) hPG)) (cwV 1 hts (ax_gV T_964 T_966 T_967 T_180 T_965) rfl rfl rfl (by decide +kernel) ⟨Nat.le_of_ble_eq_true rfl, Nat.le_of_ble_eq_true rfl⟩) ⟨fun a U g mk q => ⟨q.1, s_pc rfl rfl q.2⟩, s_recv hK hP (hLK _ h23 (by decide)) (ci := 0) rfl o113, fun U hU hW => ⟨rfl, s_pw hU hW hP hK hD hN⟩⟩ rfl rfl hl.1 rfl (lv_room (Nat.le_of_ble_eq_true rfl)) dX6_likely_68 ⟨Nat.zero_le _, Nat.zero_le _⟩) hS (fun q _ h => h) (fun q h => h) (fun F114 t H1 locs ht hvm hw hB hz1 hk1 hS => ?_)
              obtain ⟨hP, hK1⟩ := hB
              rw [ht] at hP
              generalize H1 = H at hP hS ⊢
              obtain ⟨h115, h116, hI, hfr1⟩ := hw
              have o117 : F114 a0 = .inr (6, [.ref z1, .int z3, .ref z5, .ref z7, .ref z9, .int z11, .ref z12, .ref z14, .int z16, .int z18, .ref z20, .ref z22, .ref z24, .long z26]) := (hfr1 _ (by rw [ha0]; decide)).trans o88
              have hfr : ∀ b, K b ∉ [1, 2, 5, 6, 24, 27, 28, 29, 30, 31, 32, 34, 35, 37] → F114 b = F b := fun b hb9 => (hfr1 b (fun q => hb9 (s_sub (by decide) q))).trans (hfr b hb9)
              refine lv_iconst (v := 0) hx hb dX6_likely_71 (by decide) ?_
              refine lv_istore (lv' := [(4, .int 0), (0, .ref a0), (1, .int x1), (2, .int x2), (3, .int x3)]) hx hb dX6_likely_72 hl (by decide) rfl (fun ls hl => ?_)
              refine lv_iconst (v := 0) hx hb dX6_likely_74 (by decide) ?_
              refine lv_istore (lv' := [(5, .int 0), (4, .int 0), (0, .ref a0), (1, .int x1), (2, .int x2), (3, .int x3)]) hx hb dX6_likely_75 hl (by decide) rfl (fun ls hl => ?_)
              refine th_loop (fun n g H locs => ∃ (G : Nat → va_E) (ls : Array Slot) (Dn : Nat) (w118 : Int32) (w119 : Int32), g = F0 m 77 ls [] ∧ lv_has ls 6 [(0, .ref a0), (1, .int x1), (2, .int x2), (3, .int x3), (4, .int w118), (5, .int w119)] ∧ Dn + 0 * n + 0 ≤ Dm ∧ s_I K cs Dn G ∧ va_P (dC, dI) vwCl (va_pl L G) H ∧ va_S (fun q => q ∈ L) s.heap H locs ∧ (∀ b, K b ∉ [1, 2, 5, 6, 24, 27, 28, 29, 30, 31, 32, 34, 35, 37] → G b = F b) ∧ True ∧ (0 ≤ w119.toInt ∧ w119.toInt ≤ 16) ∧ (0 ≤ x1.toInt ∧ x1.toInt ≤ 63) ∧ (0 ≤ x2.toInt ∧ x2.toInt ≤ 400) ∧ (-1 ≤ x3.toInt ∧ x3.toInt ≤ 2147483647) ∧ n = (17 - w119.toInt).toNat) _ ⟨F114, _, (D + 6817), 0, 0, rfl, lv_sub hl [2, 3, 4, 5, 1, 0] rfl, by omega, hI, hP, hS, hfr, trivial, (by decide), ⟨by omega, by omega⟩, ⟨by omega, by omega⟩, ⟨by omega, by have q9 := th_hi x3; omega⟩, rfl⟩ (fun n ih77 g H locs hq => ?_)
              obtain ⟨F9, ls, D125, w118, w119, rfl, hl, h126, hI, hP, hS, hfr, h120, h121, h122, h123, h124, hn⟩ := hq
              have hn_77 := hn
              obtain ⟨n_77, hn9_77⟩ : ∃ q, q = n := ⟨_, rfl⟩
              refine th_join (fun g H locs => ∃ (G : Nat → va_E) (ls : Array Slot) (Dn : Nat) (w127 : Int32), g = F0 m 110 ls [] ∧ lv_has ls 6 [(0, .ref a0), (1, .int x1), (2, .int x2), (3, .int x3), (4, .int w127), (5, .int w119)] ∧ Dn + 0 + 0 * (n_77 - 1) + 0 ≤ Dm ∧ s_I K cs Dn G ∧ va_P (dC, dI) vwCl (va_pl L G) H ∧ va_S (fun q => q ∈ L) s.heap H locs ∧ (∀ b, K b ∉ [1, 2, 5, 6, 24, 27, 28, 29, 30, 31, 32, 34, 35, 37] → G b = F b) ∧ True ∧ (0 ≤ x1.toInt ∧ x1.toInt ≤ 63) ∧ (0 ≤ x2.toInt ∧ x2.toInt ≤ 400) ∧ (-1 ≤ x3.toInt ∧ x3.toInt ≤ 2147483647) ∧ (0 ≤ w119.toInt ∧ w119.toInt ≤ 15)) (fun K110 => ?_) ?_
              · refine lv_iload hx hb dX6_likely_77 (lv_at hl 5 rfl) ?_
                refine lv_bipush (v := 16) hx hb dX6_likely_79 (by decide) ?_
                refine lv_icmp_ge (tgt := 116) hx hb dX6_likely_81 (by decide) (fun c128 => ?_) (fun c128 => ?_)
                · have c128 := (ax_ge (n := 16) (by decide)).mp c128
                  refine lv_iload_n hx hb dX6_likely_116 rfl (lv_at hl 3 rfl) ?_
                  refine lv_iconst (v := (-1)) hx hb dX6_likely_117 (by decide) ?_
                  refine lv_icmp_ne (tgt := 126) hx hb dX6_likely_118 (by decide) (fun c129 => ?_) (fun c129 => ?_)
                  · have c129 := mt (ax_eq (n := (-1)) (by decide)).mpr c129
                    refine lv_iconst (v := (-1)) hx hb dX6_likely_126 (by decide) ?_
                    exact W.iret (v := (-1)) hx hb hr (fun t ht hW => ⟨⟨(-1), F9, rfl, ⟨trivial, trivial, (s_mono (by omega) hI), hfr⟩, by rw [ht]; exact hP, va_K.moved hW.alike hK⟩, hS.F ht⟩) hS.2.2 dX6_likely_127
                  · have c129 := (ax_eq (n := (-1)) (by decide)).mp c129
                    refine lv_iload hx hb dX6_likely_121 (lv_at hl 4 rfl) ?_
                    refine lv_goto (tgt := 127) hx hb dX6_likely_123 (by decide) ?_
                    exact W.iret (v := w118) hx hb hr (fun t ht hW => ⟨⟨w118, F9, rfl, ⟨trivial, trivial, (s_mono (by omega) hI), hfr⟩, by rw [ht]; exact hP, va_K.moved hW.alike hK⟩, hS.F ht⟩) hS.2.2 dX6_likely_127
                · have c128 := mt (ax_ge (n := 16) (by decide)).mpr c128
                  refine lv_aload_n hx hb dX6_likely_84 rfl (lv_at hl 0 rfl) ?_
                  obtain ⟨z130, z132, z134, z136, z138, z140, z141, z143, z145, z147, z149, z151, z153, z155, o156, h131, h133, h135, h137, h139, h142, h144, h146, h148, h150, h152, h154, -⟩ := s_op7 hI ha0
                  refine th_get (D := (dC, dI)) (ci := 6) (v := .ref z151) (C := RX6) (T := TX6) (N := 14) hx hb hts inX6 hown hK hP (hLK _ ha0 (by decide)) o156 rfl 11 (by decide) (hts _ T_182) (fun _ h9 => h9) rfl dX6_likely_85 ?_
                  refine lv_iload_n hx hb dX6_likely_88 rfl (lv_at hl 1 rfl) ?_
                  refine lv_iload hx hb dX6_likely_89 (lv_at hl 5 rfl) ?_
                  obtain ⟨z157, z159, z161, z163, z165, z167, z168, z170, z171, z173, z174, z176, z177, z178, o180, h158, h160, h162, h164, h166, h169, h172, h175, h179, -⟩ := s_op1 hI h152
                  refine va_calli (va_runV (As := [.int x1, .int w119]) (rest := []) ⟨hx, hb, hml, hown, hts⟩ (s_X0_cyclesWith l dC dI H.size hLK D125 F9 z151 x1 w119 h152 (⟨by omega, by omega⟩) (⟨by omega, by omega⟩) hI) (cwV 2 hts (ax_gV T_968 T_605 T_606 T_180 T_604) rfl rfl rfl (by decide +kernel) ⟨Nat.le_of_ble_eq_true rfl, Nat.le_of_ble_eq_true rfl⟩) ⟨fun a U g mk q => ⟨q.1, s_pc rfl rfl q.2⟩, s_recv hK hP (hLK _ h152 (by decide)) (ci := 0) rfl o180, fun U hU hW => ⟨rfl, s_pw hU hW hP hK hD hN⟩⟩ rfl rfl hl.1 rfl (lv_room (Nat.le_of_ble_eq_true rfl)) dX6_likely_91 ⟨Nat.zero_le _, Nat.zero_le _⟩) hS (fun q _ h => h) (fun q h => h) (fun r181 F182 t H1 locs ht hvm hw hB hz1 hk1 hS => ?_)
                  obtain ⟨hP, hK1⟩ := hB
                  rw [ht] at hP
                  generalize H1 = H at hP hS ⊢
                  obtain ⟨h183, h184, hI, hfr1⟩ := hw
                  have o185 : F182 a0 = .inr (6, [.ref z130, .int z132, .ref z134, .ref z136, .ref z138, .int z140, .ref z141, .ref z143, .int z145, .int z147, .ref z149, .ref z151, .ref z153, .long z155]) := (hfr1 _ (by rw [ha0]; decide)).trans o156
                  have o186 : F182 z151 = .inr (0, [.ref z157, .ref z159, .ref z161, .ref z163, .ref z165, .int z167, .ref z168, .long z170, .ref z171, .int z173, .ref z174, .int z176, .int z177, .int z178]) := (hfr1 _ (by rw [h152]; decide)).trans o180
                  have hfr : ∀ b, K b ∉ [1, 2, 5, 6, 24, 27, 28, 29, 30, 31, 32, 34, 35, 37] → F182 b = F b := fun b hb9 => (hfr1 b (fun q => hb9 (s_sub (by decide) q))).trans (hfr b hb9)
                  refine lv_iload_n hx hb dX6_likely_94 rfl (lv_at hl 2 rfl) ?_
                  refine lv_icmp_ne (tgt := 110) hx hb dX6_likely_95 (by decide) (fun c187 => ?_) (fun c187 => ?_)
                  · have c187 := mt Int32.toInt_inj.symm.mpr c187
                    exact K110 _ _ _ ⟨F182, _, D125, w118, rfl, lv_sub hl [0, 1, 2, 3, 4, 5] rfl, by omega, hI, hP, hS, hfr, trivial, ⟨by omega, by omega⟩, ⟨by omega, by omega⟩, ⟨by omega, by have q9 := th_hi x3; omega⟩, ⟨by omega, by omega⟩⟩
                  · have c187 := Int32.toInt_inj.symm.mp c187
                    refine lv_iload hx hb dX6_likely_98 (lv_at hl 4 rfl) ?_
                    refine lv_iload_n hx hb dX6_likely_100 rfl (lv_at hl 3 rfl) ?_
                    refine lv_icmp_ne (tgt := 107) hx hb dX6_likely_101 (by decide) (fun c188 => ?_) (fun c188 => ?_)
                    · have c188 := mt Int32.toInt_inj.symm.mpr c188
                      obtain ⟨v189, ev189⟩ : ∃ y : Int32, w118 + 1 = y := ⟨_, rfl⟩
                      refine lv_iinc (v := v189) (lv' := [(4, .int v189), (0, .ref a0), (1, .int x1), (2, .int x2), (3, .int x3), (5, .int w119)]) hx hb dX6_likely_107 hl (k := 4) rfl ev189 (by decide) rfl (fun ls hl => ?_)
                      exact K110 _ _ _ ⟨F182, _, D125, v189, rfl, lv_sub hl [1, 2, 3, 4, 0, 5] rfl, by omega, hI, hP, hS, hfr, trivial, ⟨by omega, by omega⟩, ⟨by omega, by omega⟩, ⟨by omega, by have q9 := th_hi x3; omega⟩, ⟨by omega, by omega⟩⟩
                    · have c188 := Int32.toInt_inj.symm.mp c188
                      refine lv_iload hx hb dX6_likely_104 (lv_at hl 5 rfl) ?_
                      exact W.iret (v := w119) hx hb hr (fun t ht hW => ⟨⟨w119, F182, rfl, ⟨trivial, trivial, (s_mono (by omega) hI), hfr⟩, by rw [ht]; exact hP, va_K.moved hW.alike hK⟩, hS.F ht⟩) hS.2.2 dX6_likely_106
              · intro g H locs hq
                obtain ⟨F9, ls, D195, w127, rfl, hl, h196, hI, hP, hS, hfr, h190, h191, h192, h193, h194⟩ := hq
                obtain ⟨v197, ev197⟩ : ∃ y : Int32, w119 + 1 = y := ⟨_, rfl⟩
                have qv197 : v197.toInt = w119.toInt + 1 := by rw [← ev197]; exact th_add rfl (by decide) ⟨by omega, by omega⟩
                refine lv_iinc (v := v197) (lv' := [(5, .int v197), (0, .ref a0), (1, .int x1), (2, .int x2), (3, .int x3), (4, .int w127)]) hx hb dX6_likely_110 hl (k := 5) rfl ev197 (by decide) rfl (fun ls hl => ?_)
                refine lv_goto (tgt := 77) hx hb dX6_likely_113 (by decide) ?_
                exact ih77 _ _ _ _ (by omega) ⟨F9, _, D195, w127, v197, rfl, lv_sub hl [1, 2, 3, 4, 5, 0] rfl, by omega, hI, hP, hS, hfr, trivial, ⟨by omega, by omega⟩, ⟨by omega, by omega⟩, ⟨by omega, by omega⟩, ⟨by omega, by have q9 := th_hi x3; omega⟩, rfl⟩
            · have c33 := mt (ax_ge (n := (-1)) (by decide)).mpr c33
              refine lv_iconst (v := (-1)) hx hb dX6_likely_33 (by decide) ?_
              exact W.iret (v := (-1)) hx hb hr (fun t ht hW => ⟨⟨(-1), F, rfl, ⟨trivial, trivial, (s_mono (by omega) hI), hfr⟩, by rw [ht]; exact hP, va_K.moved hW.alike hK⟩, hS.F ht⟩) hS.2.2 dX6_likely_34

set_option maxHeartbeats 4000000 in
set_option maxRecDepth 100000 in
theorem s_X6_tells (l : Launch) (dC : Nat → ClassId) (dI : Nat → Nat → Nat) (sz : Nat) {L : List Nat} {K : Nat → Nat} {cs : Nat → ClassId} (hLK : ∀ a {k : Nat}, K a = k → k ≠ 0 → a ∈ L) (D : Nat) (Dm : Nat) (hDm : D + 61353 ≤ Dm) (hDM : Dm < 2147483647) (F : Nat → va_E) (a0 : Nat) (x1 : Int32) (ha0 : K a0 = 7) (hI : s_I K cs D F) (hPG : s_PG K cs F) : Met l yX6_tells (Cond.code yX6_tells cX6_tells 6 (some .int) :: T0) ({ frames := 7, cells := 0, slots := 0, locals := 161 }) (va_Pc [.ref a0, .int x1] (s_W dC dI sz L F [(cs 0, .int), (cs 1, .byte), (cs 2, .long), (cs 3, .object RX5), (cs 4, .object RX4), (cs 5, .array .int), (cs 6, .char), (cs 7, .boolean)])) (va_Qi (fun (r : Int32) (G : Nat → va_E) => (-1 ≤ r.toInt ∧ r.toInt ≤ 2147483647) ∧ True ∧ s_I K cs Dm G ∧ ∀ b, K b ∉ [1, 2, 5, 6, 24, 27, 28, 29, 30, 31, 32, 34, 35, 37] → G b = F b) (fun (G : Nat → va_E) (t : State) => va_P (dC, dI) vwCl (va_pl L G) t.heap ∧ va_K (dC, dI) vwCl [(cs 0, .int), (cs 1, .byte), (cs 2, .long), (cs 3, .object RX5), (cs 4, .object RX4), (cs 5, .array .int), (cs 6, .char), (cs 7, .boolean)] t) (fun q => q ∈ L)) 0 0 (fun q => q ∈ L) := by
  refine Met.ofW (cc := cX6_tells) (maxL := 6) (ret := (some .int)) (by decide) rfl ?_
  intro p e s m args below meth c s₁ B hml hv
  obtain ⟨rfl, hsz, hP, hK, hD, hN⟩ := hv
  have hx := B.exec
  have hb := B.bytes
  have hr := B.returns
  have hts : ∀ w ∈ T0, w.before _ s = true := fun w h => atoms_spec (ws := Cond.code yX6_tells cX6_tells 6 (some .int) :: T0) B.pre w (List.mem_cons_of_mem _ h)
  have hown : s.vm.findClass RX6 = some m.cls := findClass_of_methodNamed B.named
  have hlocks := B.notSynchronized
  have hS : va_S (fun q => q ∈ L) s.heap s.heap [] := va_S.rf
  have hfr : ∀ b, K b ∉ [1, 2, 5, 6, 24, 27, 28, 29, 30, 31, 32, 34, 35, 37] → F b = F b := fun _ _ => rfl
  have hl := lv_entry ([.ref a0, .int x1]) (n := 6) (Nat.le_of_ble_eq_true rfl)
  rw [lg_entry_eq]
  generalize (lg_sl ([.ref a0, .int x1]) ++ List.replicate (6 - (lg_sl ([.ref a0, .int x1])).length) Slot.unset).toArray = ls at hl ⊢
  have hl : lv_has ls 6 [(0, .ref a0), (1, .int x1)] := hl
  have hI0 := hI
  refine s_gen hP hS (fun H locs hP hS => ?_)
  refine lv_aload_n hx hb dX6_tells_0 rfl (lv_at hl 0 rfl) ?_
  obtain ⟨z1, z3, z5, z7, z9, z11, z12, z14, z16, z18, z20, z22, z24, z26, o27, h2, h4, h6, h8, h10, h13, h15, h17, h19, h21, h23, h25, -⟩ := s_op7 hI ha0
  refine th_get (D := (dC, dI)) (ci := 6) (v := .int z11) (C := RX6) (T := TX6) (N := 14) hx hb hts inX6 hown hK hP (hLK _ ha0 (by decide)) o27 rfl 5 (by decide) (hts _ T_224) (fun _ h9 => h9) rfl dX6_tells_1 ?_
  refine lv_if_eq (tgt := 16) hx hb dX6_tells_4 (by decide) (fun c28 => ?_) (fun c28 => ?_)
  · have c28 := (ax_eq (n := 0) (by decide)).mp c28
    refine lv_iconst (v := (-1)) hx hb dX6_tells_16 (by decide) ?_
    exact W.iret (v := (-1)) hx hb hr (fun t ht hW => ⟨⟨(-1), F, rfl, ⟨(by decide), trivial, (s_mono (by omega) hI), hfr⟩, by rw [ht]; exact hP, va_K.moved hW.alike hK⟩, hS.F ht⟩) hS.2.2 dX6_tells_17
  · have c28 := mt (ax_eq (n := 0) (by decide)).mpr c28
    refine lv_iload_n hx hb dX6_tells_7 rfl (lv_at hl 1 rfl) ?_
    refine lv_if_lt (tgt := 16) hx hb dX6_tells_8 (by decide) (fun c29 => ?_) (fun c29 => ?_)
    · have c29 := (ax_lt (n := 0) (by decide)).mp c29
      refine lv_iconst (v := (-1)) hx hb dX6_tells_16 (by decide) ?_
      exact W.iret (v := (-1)) hx hb hr (fun t ht hW => ⟨⟨(-1), F, rfl, ⟨(by decide), trivial, (s_mono (by omega) hI), hfr⟩, by rw [ht]; exact hP, va_K.moved hW.alike hK⟩, hS.F ht⟩) hS.2.2 dX6_tells_17
    · have c29 := mt (ax_lt (n := 0) (by decide)).mpr c29
      refine lv_iload_n hx hb dX6_tells_11 rfl (lv_at hl 1 rfl) ?_
      refine lv_iconst (v := 1) hx hb dX6_tells_12 (by decide) ?_
      refine lv_icmp_le (tgt := 18) hx hb dX6_tells_13 (by decide) (fun c30 => ?_) (fun c30 => ?_)
      · have c30 := (ax_le (n := 1) (by decide)).mp c30
        refine lv_aload_n hx hb dX6_tells_18 rfl (lv_at hl 0 rfl) ?_
        refine th_get (D := (dC, dI)) (ci := 6) (v := .ref z22) (C := RX6) (T := TX6) (N := 14) hx hb hts inX6 hown hK hP (hLK _ ha0 (by decide)) o27 rfl 11 (by decide) (hts _ T_182) (fun _ h9 => h9) rfl dX6_tells_19 ?_
        refine lv_aload_n hx hb dX6_tells_22 rfl (lv_at hl 0 rfl) ?_
        refine th_get (D := (dC, dI)) (ci := 6) (v := .ref z12) (C := RX6) (T := TX6) (N := 14) hx hb hts inX6 hown hK hP (hLK _ ha0 (by decide)) o27 rfl 6 (by decide) (hts _ T_174) (fun _ h9 => h9) rfl dX6_tells_23 ?_
        obtain ⟨z31, z33, z35, z37, z39, z41, z43, z45, z47, z48, z49, z51, z52, z54, z55, o57, h32, h34, h36, h38, h40, h42, h44, h46, h50, h53, h56, -⟩ := s_op5 hI h13
        refine th_getN (D := (dC, dI)) (ci := 4) (v := .int z47) (C := RX4) (T := TX4) (N := 15) hx hb hts inX4 hown hK hP (hLK _ h13 (by decide)) o57 rfl 8 (by decide) (va_Nw.use rfl (ax_n52 hN)) (fun _ h9 => h9) rfl dX6_tells_26 ?_
        refine lv_aload_n hx hb dX6_tells_29 rfl (lv_at hl 0 rfl) ?_
        refine th_get (D := (dC, dI)) (ci := 6) (v := .ref z12) (C := RX6) (T := TX6) (N := 14) hx hb hts inX6 hown hK hP (hLK _ ha0 (by decide)) o27 rfl 6 (by decide) (hts _ T_174) (fun _ h9 => h9) rfl dX6_tells_30 ?_
        refine th_getN (D := (dC, dI)) (ci := 4) (v := .int z48) (C := RX4) (T := TX4) (N := 15) hx hb hts inX4 hown hK hP (hLK _ h13 (by decide)) o57 rfl 9 (by decide) (va_Nw.use rfl (ax_n53 hN)) (fun _ h9 => h9) rfl dX6_tells_33 ?_
        refine lv_aload_n hx hb dX6_tells_36 rfl (lv_at hl 0 rfl) ?_
        refine th_get (D := (dC, dI)) (ci := 6) (v := .ref z12) (C := RX6) (T := TX6) (N := 14) hx hb hts inX6 hown hK hP (hLK _ ha0 (by decide)) o27 rfl 6 (by decide) (hts _ T_174) (fun _ h9 => h9) rfl dX6_tells_37 ?_
        refine th_getN (D := (dC, dI)) (ci := 4) (v := .int z49) (C := RX4) (T := TX4) (N := 15) hx hb hts inX4 hown hK hP (hLK _ h13 (by decide)) o57 rfl 10 (by decide) (va_Nw.use rfl (ax_n54 hN)) (fun _ h9 => h9) rfl dX6_tells_40 ?_
        obtain ⟨z58, z60, z62, z64, z66, z68, z69, z71, z72, z74, z75, z77, z78, z79, o81, h59, h61, h63, h65, h67, h70, h73, h76, h80, -⟩ := s_op1 hI h23
        refine va_callv (va_runV (As := [.int z47, .int z48, .int z49]) (rest := []) ⟨hx, hb, hml, hown, hts⟩ (s_X0_tryBy l dC dI H.size hLK D F z22 z47 z48 z49 h23 (⟨by omega, by omega⟩) hI) (cwV 3 hts (ax_gV T_890 T_892 T_893 T_180 T_891) rfl rfl rfl (by decide +kernel) ⟨Nat.le_of_ble_eq_true rfl, Nat.le_of_ble_eq_true rfl⟩) ⟨fun a U g mk q => ⟨q.1, s_pc rfl rfl q.2⟩, s_recv hK hP (hLK _ h23 (by decide)) (ci := 0) rfl o81, fun U hU hW => ⟨rfl, s_pw hU hW hP hK hD hN⟩⟩ rfl rfl hl.1 rfl (lv_room (Nat.le_of_ble_eq_true rfl)) dX6_tells_43 ⟨Nat.zero_le _, Nat.zero_le _⟩) hS (fun q _ h => h) (fun q h => h) (fun F82 t H1 locs ht hvm hw hB hz1 hk1 hS => ?_)
        obtain ⟨hP, hK1⟩ := hB
        rw [ht] at hP
        generalize H1 = H at hP hS ⊢
        obtain ⟨h83, h84, hI, hfr1⟩ := hw
        have o85 : F82 a0 = .inr (6, [.ref z1, .int z3, .ref z5, .ref z7, .ref z9, .int z11, .ref z12, .ref z14, .int z16, .int z18, .ref z20, .ref z22, .ref z24, .long z26]) := (hfr1 _ (by rw [ha0]; decide)).trans o27
        have o86 : F82 z12 = .inr (4, [.ref z31, .ref z33, .ref z35, .ref z37, .ref z39, .ref z41, .ref z43, .int z45, .int z47, .int z48, .int z49, .int z51, .int z52, .int z54, .int z55]) := (hfr1 _ (by rw [h13]; decide)).trans o57
        have hfr : ∀ b, K b ∉ [1, 2, 5, 6, 24, 27, 28, 29, 30, 31, 32, 34, 35, 37] → F82 b = F b := fun b hb9 => (hfr1 b (fun q => hb9 (s_sub (by decide) q))).trans (hfr b hb9)
        refine lv_iconst (v := (-1)) hx hb dX6_tells_46 (by decide) ?_
        refine lv_istore_n (lv' := [(2, .int (-1)), (0, .ref a0), (1, .int x1)]) hx hb dX6_tells_47 rfl hl (by decide) rfl (fun ls hl => ?_)
        refine lv_iconst (v := 0) hx hb dX6_tells_48 (by decide) ?_
        refine lv_istore_n (lv' := [(3, .int 0), (2, .int (-1)), (0, .ref a0), (1, .int x1)]) hx hb dX6_tells_49 rfl hl (by decide) rfl (fun ls hl => ?_)
        refine lv_iconst (v := 0) hx hb dX6_tells_50 (by decide) ?_
        refine lv_istore (lv' := [(4, .int 0), (3, .int 0), (2, .int (-1)), (0, .ref a0), (1, .int x1)]) hx hb dX6_tells_51 hl (by decide) rfl (fun ls hl => ?_)
        refine th_loop (fun n g H locs => ∃ (G : Nat → va_E) (ls : Array Slot) (Dn : Nat) (w87 : Int32) (w88 : Int32) (w89 : Int32), g = F0 m 53 ls [] ∧ lv_has ls 6 [(0, .ref a0), (1, .int x1), (2, .int w87), (3, .int w88), (4, .int w89)] ∧ Dn + 6817 * n + 0 ≤ Dm ∧ s_I K cs Dn G ∧ va_P (dC, dI) vwCl (va_pl L G) H ∧ va_S (fun q => q ∈ L) s.heap H locs ∧ (∀ b, K b ∉ [1, 2, 5, 6, 24, 27, 28, 29, 30, 31, 32, 34, 35, 37] → G b = F b) ∧ (-1 ≤ w87.toInt ∧ w87.toInt ≤ 7) ∧ (0 ≤ w88.toInt ∧ w88.toInt ≤ 2147483647) ∧ (0 ≤ w89.toInt ∧ w89.toInt ≤ 8) ∧ (0 ≤ x1.toInt ∧ x1.toInt ≤ 1) ∧ n = (9 - w89.toInt).toNat) _ ⟨F82, _, D, (-1), 0, 0, rfl, lv_sub hl [3, 4, 2, 1, 0] rfl, by omega, hI, hP, hS, hfr, (by decide), (by decide), (by decide), ⟨by omega, by omega⟩, rfl⟩ (fun n ih53 g H locs hq => ?_)
        obtain ⟨F9, ls, D94, w87, w88, w89, rfl, hl, h95, hI, hP, hS, hfr, h90, h91, h92, h93, hn⟩ := hq
        have hn_53 := hn
        obtain ⟨n_53, hn9_53⟩ : ∃ q, q = n := ⟨_, rfl⟩
        refine th_join (fun g H locs => ∃ (G : Nat → va_E) (ls : Array Slot) (Dn : Nat) (w96 : Int32) (w97 : Int32), g = F0 m 92 ls [] ∧ lv_has ls 6 [(0, .ref a0), (1, .int x1), (2, .int w96), (3, .int w97), (4, .int w89)] ∧ Dn + 0 + 6817 * (n_53 - 1) + 0 ≤ Dm ∧ s_I K cs Dn G ∧ va_P (dC, dI) vwCl (va_pl L G) H ∧ va_S (fun q => q ∈ L) s.heap H locs ∧ (∀ b, K b ∉ [1, 2, 5, 6, 24, 27, 28, 29, 30, 31, 32, 34, 35, 37] → G b = F b) ∧ (-1 ≤ w96.toInt ∧ w96.toInt ≤ 7) ∧ (0 ≤ w97.toInt ∧ w97.toInt ≤ 2147483647) ∧ (0 ≤ x1.toInt ∧ x1.toInt ≤ 1) ∧ (0 ≤ w89.toInt ∧ w89.toInt ≤ 7)) (fun K92 => ?_) ?_
        · refine lv_iload hx hb dX6_tells_53 (lv_at hl 4 rfl) ?_
          refine lv_bipush (v := 8) hx hb dX6_tells_55 (by decide) ?_
          refine lv_icmp_ge (tgt := 98) hx hb dX6_tells_57 (by decide) (fun c98 => ?_) (fun c98 => ?_)
          · have c98 := (ax_ge (n := 8) (by decide)).mp c98
            refine lv_iload_n hx hb dX6_tells_98 rfl (lv_at hl 1 rfl) ?_
            refine lv_if_ne (tgt := 106) hx hb dX6_tells_99 (by decide) (fun c99 => ?_) (fun c99 => ?_)
            · have c99 := mt (ax_eq (n := 0) (by decide)).mpr c99
              refine lv_iload_n hx hb dX6_tells_106 rfl (lv_at hl 3 rfl) ?_
              exact W.iret (v := w88) hx hb hr (fun t ht hW => ⟨⟨w88, F9, rfl, ⟨⟨by omega, by have q9 := th_hi w88; omega⟩, trivial, (s_mono (by omega) hI), hfr⟩, by rw [ht]; exact hP, va_K.moved hW.alike hK⟩, hS.F ht⟩) hS.2.2 dX6_tells_107
            · have c99 := (ax_eq (n := 0) (by decide)).mp c99
              refine lv_iload_n hx hb dX6_tells_102 rfl (lv_at hl 2 rfl) ?_
              refine lv_goto (tgt := 107) hx hb dX6_tells_103 (by decide) ?_
              exact W.iret (v := w87) hx hb hr (fun t ht hW => ⟨⟨w87, F9, rfl, ⟨⟨by omega, by have q9 := th_hi w87; omega⟩, trivial, (s_mono (by omega) hI), hfr⟩, by rw [ht]; exact hP, va_K.moved hW.alike hK⟩, hS.F ht⟩) hS.2.2 dX6_tells_107
          · have c98 := mt (ax_ge (n := 8) (by decide)).mpr c98
            refine lv_aload_n hx hb dX6_tells_60 rfl (lv_at hl 0 rfl) ?_
            obtain ⟨z100, z102, z104, z106, z108, z110, z111, z113, z115, z117, z119, z121, z123, z125, o126, h101, h103, h105, h107, h109, h112, h114, h116, h118, h120, h122, h124, -⟩ := s_op7 hI ha0
            refine th_get (D := (dC, dI)) (ci := 6) (v := .ref z121) (C := RX6) (T := TX6) (N := 14) hx hb hts inX6 hown hK hP (hLK _ ha0 (by decide)) o126 rfl 11 (by decide) (hts _ T_182) (fun _ h9 => h9) rfl dX6_tells_61 ?_
            refine lv_iload hx hb dX6_tells_64 (lv_at hl 4 rfl) ?_
            obtain ⟨z127, z129, z131, z133, z135, z137, z138, z140, z141, z143, z144, z146, z147, z148, o150, h128, h130, h132, h134, h136, h139, h142, h145, h149, -⟩ := s_op1 hI h122
            refine va_callv (va_runV (As := [.int w89]) (rest := []) ⟨hx, hb, hml, hown, hts⟩ (s_X0_tryWord l dC dI H.size hLK D94 (D94 + 6817) (Nat.le_refl _) (by omega) F9 z121 w89 h122 (⟨by omega, by omega⟩) hI (s_PGt hI0 hfr (by decide) hPG)) (cwV 1 hts (ax_gV T_964 T_966 T_967 T_180 T_965) rfl rfl rfl (by decide +kernel) ⟨Nat.le_of_ble_eq_true rfl, Nat.le_of_ble_eq_true rfl⟩) ⟨fun a U g mk q => ⟨q.1, s_pc rfl rfl q.2⟩, s_recv hK hP (hLK _ h122 (by decide)) (ci := 0) rfl o150, fun U hU hW => ⟨rfl, s_pw hU hW hP hK hD hN⟩⟩ rfl rfl hl.1 rfl (lv_room (Nat.le_of_ble_eq_true rfl)) dX6_tells_66 ⟨Nat.zero_le _, Nat.zero_le _⟩) hS (fun q _ h => h) (fun q h => h) (fun F151 t H1 locs ht hvm hw hB hz1 hk1 hS => ?_)
            obtain ⟨hP, hK1⟩ := hB
            rw [ht] at hP
            generalize H1 = H at hP hS ⊢
            obtain ⟨h152, h153, hI, hfr1⟩ := hw
            have o154 : F151 a0 = .inr (6, [.ref z100, .int z102, .ref z104, .ref z106, .ref z108, .int z110, .ref z111, .ref z113, .int z115, .int z117, .ref z119, .ref z121, .ref z123, .long z125]) := (hfr1 _ (by rw [ha0]; decide)).trans o126
            have hfr : ∀ b, K b ∉ [1, 2, 5, 6, 24, 27, 28, 29, 30, 31, 32, 34, 35, 37] → F151 b = F b := fun b hb9 => (hfr1 b (fun q => hb9 (s_sub (by decide) q))).trans (hfr b hb9)
            refine lv_aload_n hx hb dX6_tells_69 rfl (lv_at hl 0 rfl) ?_
            refine th_get (D := (dC, dI)) (ci := 6) (v := .ref z121) (C := RX6) (T := TX6) (N := 14) hx hb hts inX6 hown hK hP (hLK _ ha0 (by decide)) o154 rfl 11 (by decide) (hts _ T_182) (fun _ h9 => h9) rfl dX6_tells_70 ?_
            refine lv_iload hx hb dX6_tells_73 (lv_at hl 4 rfl) ?_
            obtain ⟨z155, z157, z159, z161, z163, z165, z166, z168, z169, z171, z172, z174, z175, z176, o178, h156, h158, h160, h162, h164, h167, h170, h173, h177, -⟩ := s_op1 hI h122
            refine va_calli (va_runV (As := [.int w89]) (rest := []) ⟨hx, hb, hml, hown, hts⟩ (s_X0_unlike l dC dI H.size hLK (D94 + 6817) F151 z121 w89 h122 (⟨by omega, by omega⟩) hI) (cwV 1 hts (ax_gV T_976 T_978 T_979 T_180 T_977) rfl rfl rfl (by decide +kernel) ⟨Nat.le_of_ble_eq_true rfl, Nat.le_of_ble_eq_true rfl⟩) ⟨fun a U g mk q => ⟨q.1, s_pc rfl rfl q.2⟩, s_recv hK hP (hLK _ h122 (by decide)) (ci := 0) rfl o178, fun U hU hW => ⟨rfl, s_pw hU hW hP hK hD hN⟩⟩ rfl rfl hl.1 rfl (lv_room (Nat.le_of_ble_eq_true rfl)) dX6_tells_75 ⟨Nat.zero_le _, Nat.zero_le _⟩) hS (fun q _ h => h) (fun q h => h) (fun r179 F180 t H1 locs ht hvm hw hB hz1 hk1 hS => ?_)
            obtain ⟨hP, hK1⟩ := hB
            rw [ht] at hP
            generalize H1 = H at hP hS ⊢
            obtain ⟨h181, h182, hI, hfr1⟩ := hw
            have o183 : F180 a0 = .inr (6, [.ref z100, .int z102, .ref z104, .ref z106, .ref z108, .int z110, .ref z111, .ref z113, .int z115, .int z117, .ref z119, .ref z121, .ref z123, .long z125]) := (hfr1 _ (by rw [ha0]; decide)).trans o154
            have o184 : F180 z121 = .inr (0, [.ref z155, .ref z157, .ref z159, .ref z161, .ref z163, .int z165, .ref z166, .long z168, .ref z169, .int z171, .ref z172, .int z174, .int z175, .int z176]) := (hfr1 _ (by rw [h122]; decide)).trans o178
            have hfr : ∀ b, K b ∉ [1, 2, 5, 6, 24, 27, 28, 29, 30, 31, 32, 34, 35, 37] → F180 b = F b := fun b hb9 => (hfr1 b (fun q => hb9 (s_sub (by decide) q))).trans (hfr b hb9)
            refine lv_istore (lv' := [(5, .int r179), (0, .ref a0), (1, .int x1), (2, .int w87), (3, .int w88), (4, .int w89)]) hx hb dX6_tells_78 hl (by decide) rfl (fun ls hl => ?_)
            refine lv_iload hx hb dX6_tells_80 (lv_at hl 0 rfl) ?_
            refine lv_iload_n hx hb dX6_tells_82 rfl (lv_at hl 4 rfl) ?_
            refine lv_icmp_le (tgt := 92) hx hb dX6_tells_83 (by decide) (fun c185 => ?_) (fun c185 => ?_)
            · have c185 := Int32.le_iff_toInt_le.mp c185
              exact K92 _ _ _ ⟨F180, _, (D94 + 6817), w87, w88, rfl, lv_sub hl [1, 2, 3, 4, 5] rfl, by omega, hI, hP, hS, hfr, ⟨by omega, by omega⟩, ⟨by omega, by have q9 := th_hi w88; omega⟩, ⟨by omega, by omega⟩, ⟨by omega, by omega⟩⟩
            · have c185 := mt Int32.le_iff_toInt_le.mpr c185
              refine lv_iload hx hb dX6_tells_86 (lv_at hl 5 rfl) ?_
              refine lv_istore_n (lv' := [(2, .int w89), (5, .int r179), (0, .ref a0), (1, .int x1), (3, .int w88), (4, .int w89)]) hx hb dX6_tells_88 rfl hl (by decide) rfl (fun ls hl => ?_)
              refine lv_iload hx hb dX6_tells_89 (lv_at hl 1 rfl) ?_
              refine lv_istore_n (lv' := [(3, .int r179), (2, .int w89), (5, .int r179), (0, .ref a0), (1, .int x1), (4, .int w89)]) hx hb dX6_tells_91 rfl hl (by decide) rfl (fun ls hl => ?_)
              exact K92 _ _ _ ⟨F180, _, (D94 + 6817), w89, r179, rfl, lv_sub hl [3, 4, 1, 0, 5] rfl, by omega, hI, hP, hS, hfr, ⟨by omega, by omega⟩, ⟨by omega, by have q9 := th_hi r179; omega⟩, ⟨by omega, by omega⟩, ⟨by omega, by omega⟩⟩
        · intro g H locs hq
          obtain ⟨F9, ls, D190, w96, w97, rfl, hl, h191, hI, hP, hS, hfr, h186, h187, h188, h189⟩ := hq
          obtain ⟨v192, ev192⟩ : ∃ y : Int32, w89 + 1 = y := ⟨_, rfl⟩
          have qv192 : v192.toInt = w89.toInt + 1 := by rw [← ev192]; exact th_add rfl (by decide) ⟨by omega, by omega⟩
          refine lv_iinc (v := v192) (lv' := [(4, .int v192), (0, .ref a0), (1, .int x1), (2, .int w96), (3, .int w97)]) hx hb dX6_tells_92 hl (k := 4) rfl ev192 (by decide) rfl (fun ls hl => ?_)
          refine lv_goto (tgt := 53) hx hb dX6_tells_95 (by decide) ?_
          exact ih53 _ _ _ _ (by omega) ⟨F9, _, D190, w96, w97, v192, rfl, lv_sub hl [1, 2, 3, 4, 0] rfl, by omega, hI, hP, hS, hfr, ⟨by omega, by omega⟩, ⟨by omega, by have q9 := th_hi w97; omega⟩, ⟨by omega, by omega⟩, ⟨by omega, by omega⟩, rfl⟩
      · have c30 := mt (ax_le (n := 1) (by decide)).mpr c30
        refine lv_iconst (v := (-1)) hx hb dX6_tells_16 (by decide) ?_
        exact W.iret (v := (-1)) hx hb hr (fun t ht hW => ⟨⟨(-1), F, rfl, ⟨(by decide), trivial, (s_mono (by omega) hI), hfr⟩, by rw [ht]; exact hP, va_K.moved hW.alike hK⟩, hS.F ht⟩) hS.2.2 dX6_tells_17

set_option maxHeartbeats 4000000 in
set_option maxRecDepth 100000 in
theorem s_X6_keepForUndo (l : Launch) (dC : Nat → ClassId) (dI : Nat → Nat → Nat) (sz : Nat) {L : List Nat} {K : Nat → Nat} {cs : Nat → ClassId} (hLK : ∀ a {k : Nat}, K a = k → k ≠ 0 → a ∈ L) (D : Nat) (F : Nat → va_E) (a0 : Nat) (ha0 : K a0 = 7) (hI : s_I K cs D F) : Met l yX6_keepForUndo (Cond.code yX6_keepForUndo cX6_keepForUndo 1 none :: T0) ({ frames := 3, cells := 0, slots := 0, locals := 103 }) (va_Pc [.ref a0] (s_W dC dI sz L F [(cs 0, .int), (cs 1, .byte), (cs 2, .long), (cs 3, .object RX5), (cs 4, .object RX4), (cs 5, .array .int), (cs 6, .char), (cs 7, .boolean)])) (va_Qv (fun (G : Nat → va_E) => True ∧ True ∧ s_I K cs D G ∧ ∀ b, K b ∉ [1, 5, 6, 7, 24, 27, 28, 29, 30, 31, 32] → G b = F b) (fun (G : Nat → va_E) (t : State) => va_P (dC, dI) vwCl (va_pl L G) t.heap ∧ va_K (dC, dI) vwCl [(cs 0, .int), (cs 1, .byte), (cs 2, .long), (cs 3, .object RX5), (cs 4, .object RX4), (cs 5, .array .int), (cs 6, .char), (cs 7, .boolean)] t) (fun q => q ∈ L)) 0 0 (fun q => q ∈ L) := by
  refine Met.ofW (cc := cX6_keepForUndo) (maxL := 1) (ret := none) (by decide) rfl ?_
  intro p e s m args below meth c s₁ B hml hv
  obtain ⟨rfl, hsz, hP, hK, hD, hN⟩ := hv
  have hx := B.exec
  have hb := B.bytes
  have hr := B.returns
  have hts : ∀ w ∈ T0, w.before _ s = true := fun w h => atoms_spec (ws := Cond.code yX6_keepForUndo cX6_keepForUndo 1 none :: T0) B.pre w (List.mem_cons_of_mem _ h)
  have hown : s.vm.findClass RX6 = some m.cls := findClass_of_methodNamed B.named
  have hlocks := B.notSynchronized
  have hS : va_S (fun q => q ∈ L) s.heap s.heap [] := va_S.rf
  have hfr : ∀ b, K b ∉ [1, 5, 6, 7, 24, 27, 28, 29, 30, 31, 32] → F b = F b := fun _ _ => rfl
  have hl := lv_entry ([.ref a0]) (n := 1) (Nat.le_of_ble_eq_true rfl)
  rw [lg_entry_eq]
  generalize (lg_sl ([.ref a0]) ++ List.replicate (1 - (lg_sl ([.ref a0])).length) Slot.unset).toArray = ls at hl ⊢
  have hl : lv_has ls 1 [(0, .ref a0)] := hl
  refine s_gen hP hS (fun H locs hP hS => ?_)
  refine th_join (fun g H locs => ∃ (G : Nat → va_E) (ls : Array Slot), g = F0 m 35 ls [] ∧ lv_has ls 1 [(0, .ref a0)] ∧ s_I K cs D G ∧ va_P (dC, dI) vwCl (va_pl L G) H ∧ va_S (fun q => q ∈ L) s.heap H locs ∧ (∀ b, K b ∉ [1, 5, 6, 7, 24, 27, 28, 29, 30, 31, 32] → G b = F b)) (fun K35 => ?_) ?_
  · refine lv_aload_n hx hb dX6_keepForUndo_0 rfl (lv_at hl 0 rfl) ?_
    obtain ⟨z1, z3, z5, z7, z9, z11, z12, z14, z16, z18, z20, z22, z24, z26, o27, h2, h4, h6, h8, h10, h13, h15, h17, h19, h21, h23, h25, -⟩ := s_op7 hI ha0
    refine th_get (D := (dC, dI)) (ci := 6) (v := .int z18) (C := RX6) (T := TX6) (N := 14) hx hb hts inX6 hown hK hP (hLK _ ha0 (by decide)) o27 rfl 9 (by decide) (hts _ T_238) (fun _ h9 => h9) rfl dX6_keepForUndo_1 ?_
    refine lv_bipush (v := 20) hx hb dX6_keepForUndo_4 (by decide) ?_
    refine lv_icmp_ne (tgt := 25) hx hb dX6_keepForUndo_6 (by decide) (fun c28 => ?_) (fun c28 => ?_)
    · have c28 := mt (ax_eq (n := 20) (by decide)).mpr c28
      refine lv_aload_n hx hb dX6_keepForUndo_25 rfl (lv_at hl 0 rfl) ?_
      refine lv_dup hx hb dX6_keepForUndo_26 rfl ?_
      refine th_get (D := (dC, dI)) (ci := 6) (v := .int z18) (C := RX6) (T := TX6) (N := 14) hx hb hts inX6 hown hK hP (hLK _ ha0 (by decide)) o27 rfl 9 (by decide) (hts _ T_238) (fun _ h9 => h9) rfl dX6_keepForUndo_27 ?_
      refine lv_iconst (v := 1) hx hb dX6_keepForUndo_30 (by decide) ?_
      refine lv_iadd hx hb dX6_keepForUndo_31 ?_
      refine lv_topi (fun v29 ev29 => ?_)
      have qv29 : v29.toInt = z18.toInt + 1 := by rw [ev29]; exact th_add rfl (by decide) ⟨by omega, by omega⟩
      refine th_put (D := (dC, dI)) (ci := 6) (v := .int v29) (ty := .int) (C := RX6) (T := TX6) (N := 14) hx hb hts inX6 tyX6 tyX6_ok nmX6 hown hK hP hD hS (hLK _ ha0 (by decide)) o27 rfl 9 (by decide) (hts _ T_238) (fun _ h9 => h9) rfl (by decide +kernel) rfl rfl (Nat.le_of_ble_eq_true rfl) dX6_keepForUndo_32 (fun H locs hP hS => ?_)
      have hP : va_P (dC, dI) vwCl (va_pl L (va_up F a0 (.inr (6, [.ref z1, .int z3, .ref z5, .ref z7, .ref z9, .int z11, .ref z12, .ref z14, .int z16, .int v29, .ref z20, .ref z22, .ref z24, .long z26])))) H := hP
      obtain ⟨F30, hF31⟩ : ∃ G : Nat → va_E, G = va_up F a0 (.inr (6, [.ref z1, .int z3, .ref z5, .ref z7, .ref z9, .int z11, .ref z12, .ref z14, .int z16, .int v29, .ref z20, .ref z22, .ref z24, .long z26])) := ⟨_, rfl⟩
      rw [← hF31] at hP
      have hI : s_I K cs D F30 := by rw [hF31]; exact s_cl7 hI ha0 ⟨z1, z3, z5, z7, z9, z11, z12, z14, z16, v29, z20, z22, z24, z26, rfl, h2, ⟨by omega, by omega⟩, h6, h8, h10, h13, h15, ⟨by omega, by omega⟩, ⟨by omega, by omega⟩, h21, h23, h25, trivial⟩
      have hfr : ∀ b, K b ∉ [1, 5, 6, 7, 24, 27, 28, 29, 30, 31, 32] → F30 b = F b := by rw [hF31]; exact s_fr hfr ha0 (by decide)
      have o32 : F30 a0 = .inr (6, [.ref z1, .int z3, .ref z5, .ref z7, .ref z9, .int z11, .ref z12, .ref z14, .int z16, .int v29, .ref z20, .ref z22, .ref z24, .long z26]) := by rw [hF31]; exact th_up
      exact K35 _ _ _ ⟨F30, _, rfl, lv_sub hl [0] rfl, hI, hP, hS, hfr⟩
    · have c28 := (ax_eq (n := 20) (by decide)).mp c28
      refine lv_aload_n hx hb dX6_keepForUndo_9 rfl (lv_at hl 0 rfl) ?_
      refine lv_aload_n hx hb dX6_keepForUndo_10 rfl (lv_at hl 0 rfl) ?_
      refine th_get (D := (dC, dI)) (ci := 6) (v := .int z16) (C := RX6) (T := TX6) (N := 14) hx hb hts inX6 hown hK hP (hLK _ ha0 (by decide)) o27 rfl 8 (by decide) (hts _ T_950) (fun _ h9 => h9) rfl dX6_keepForUndo_11 ?_
      refine lv_iconst (v := 1) hx hb dX6_keepForUndo_14 (by decide) ?_
      refine lv_iadd hx hb dX6_keepForUndo_15 ?_
      refine lv_topi (fun v33 ev33 => ?_)
      have qv33 : v33.toInt = z16.toInt + 1 := by rw [ev33]; exact th_add rfl (by decide) ⟨by omega, by omega⟩
      refine lv_bipush (v := 20) hx hb dX6_keepForUndo_16 (by decide) ?_
      refine lv_irem hx hb dX6_keepForUndo_18 (by decide) ?_
      refine lv_topi (fun v34 ev34 => ?_)
      have qv34 : v34.toInt = v33.toInt % 20 := by rw [ev34]; exact th_rem rfl (by decide) (by omega) (by decide)
      refine th_put (D := (dC, dI)) (ci := 6) (v := .int v34) (ty := .int) (C := RX6) (T := TX6) (N := 14) hx hb hts inX6 tyX6 tyX6_ok nmX6 hown hK hP hD hS (hLK _ ha0 (by decide)) o27 rfl 8 (by decide) (hts _ T_950) (fun _ h9 => h9) rfl (by decide +kernel) rfl rfl (Nat.le_of_ble_eq_true rfl) dX6_keepForUndo_19 (fun H locs hP hS => ?_)
      have hP : va_P (dC, dI) vwCl (va_pl L (va_up F a0 (.inr (6, [.ref z1, .int z3, .ref z5, .ref z7, .ref z9, .int z11, .ref z12, .ref z14, .int v34, .int z18, .ref z20, .ref z22, .ref z24, .long z26])))) H := hP
      obtain ⟨F35, hF36⟩ : ∃ G : Nat → va_E, G = va_up F a0 (.inr (6, [.ref z1, .int z3, .ref z5, .ref z7, .ref z9, .int z11, .ref z12, .ref z14, .int v34, .int z18, .ref z20, .ref z22, .ref z24, .long z26])) := ⟨_, rfl⟩
      rw [← hF36] at hP
      have hI : s_I K cs D F35 := by rw [hF36]; exact s_cl7 hI ha0 ⟨z1, z3, z5, z7, z9, z11, z12, z14, v34, z18, z20, z22, z24, z26, rfl, h2, ⟨by omega, by omega⟩, h6, h8, h10, h13, h15, ⟨by omega, by omega⟩, ⟨by omega, by omega⟩, h21, h23, h25, trivial⟩
      have hfr : ∀ b, K b ∉ [1, 5, 6, 7, 24, 27, 28, 29, 30, 31, 32] → F35 b = F b := by rw [hF36]; exact s_fr hfr ha0 (by decide)
      have o37 : F35 a0 = .inr (6, [.ref z1, .int z3, .ref z5, .ref z7, .ref z9, .int z11, .ref z12, .ref z14, .int v34, .int z18, .ref z20, .ref z22, .ref z24, .long z26]) := by rw [hF36]; exact th_up
      refine lv_goto (tgt := 35) hx hb dX6_keepForUndo_22 (by decide) ?_
      exact K35 _ _ _ ⟨F35, _, rfl, lv_sub hl [0] rfl, hI, hP, hS, hfr⟩
  · intro g H locs hq
    obtain ⟨F9, ls, rfl, hl, hI, hP, hS, hfr⟩ := hq
    refine lv_aload_n hx hb dX6_keepForUndo_35 rfl (lv_at hl 0 rfl) ?_
    obtain ⟨z38, z40, z42, z44, z46, z48, z49, z51, z53, z55, z57, z59, z61, z63, o64, h39, h41, h43, h45, h47, h50, h52, h54, h56, h58, h60, h62, -⟩ := s_op7 hI ha0
    refine th_get (D := (dC, dI)) (ci := 6) (v := .ref z51) (C := RX6) (T := TX6) (N := 14) hx hb hts inX6 hown hK hP (hLK _ ha0 (by decide)) o64 rfl 7 (by decide) (hts _ T_175) (fun _ h9 => h9) rfl dX6_keepForUndo_36 ?_
    refine lv_aload_n hx hb dX6_keepForUndo_39 rfl (lv_at hl 0 rfl) ?_
    refine th_get (D := (dC, dI)) (ci := 6) (v := .int z53) (C := RX6) (T := TX6) (N := 14) hx hb hts inX6 hown hK hP (hLK _ ha0 (by decide)) o64 rfl 8 (by decide) (hts _ T_950) (fun _ h9 => h9) rfl dX6_keepForUndo_40 ?_
    refine lv_aload_n hx hb dX6_keepForUndo_43 rfl (lv_at hl 0 rfl) ?_
    refine th_get (D := (dC, dI)) (ci := 6) (v := .int z55) (C := RX6) (T := TX6) (N := 14) hx hb hts inX6 hown hK hP (hLK _ ha0 (by decide)) o64 rfl 9 (by decide) (hts _ T_238) (fun _ h9 => h9) rfl dX6_keepForUndo_44 ?_
    refine lv_iadd hx hb dX6_keepForUndo_47 ?_
    refine lv_topi (fun v65 ev65 => ?_)
    have qv65 : v65.toInt = z53.toInt + z55.toInt := by rw [ev65]; exact th_add rfl rfl ⟨by omega, by omega⟩
    refine lv_iconst (v := 1) hx hb dX6_keepForUndo_48 (by decide) ?_
    refine lv_isub hx hb dX6_keepForUndo_49 ?_
    refine lv_topi (fun v66 ev66 => ?_)
    have qv66 : v66.toInt = v65.toInt - 1 := by rw [ev66]; exact th_sub rfl (by decide) ⟨by omega, by omega⟩
    refine lv_bipush (v := 20) hx hb dX6_keepForUndo_50 (by decide) ?_
    refine lv_irem hx hb dX6_keepForUndo_52 (by decide) ?_
    refine lv_topi (fun v67 ev67 => ?_)
    obtain ⟨f68, o69, h70⟩ := s_op33 hI h52
    obtain ⟨z71, o73, h72⟩ := h70 (v67 : Int32).toNatClampNeg (th_cl ⟨by omega, by omega⟩)
    refine th_aald hx hb hK hP (hLK _ h52 (by decide)) 4 o69 rfl (th_in ⟨by omega, by omega⟩) o73 dX6_keepForUndo_53 ?_
    refine lv_aload_n hx hb dX6_keepForUndo_54 rfl (lv_at hl 0 rfl) ?_
    refine th_get (D := (dC, dI)) (ci := 6) (v := .ref z49) (C := RX6) (T := TX6) (N := 14) hx hb hts inX6 hown hK hP (hLK _ ha0 (by decide)) o64 rfl 6 (by decide) (hts _ T_174) (fun _ h9 => h9) rfl dX6_keepForUndo_55 ?_
    obtain ⟨z74, z76, z78, z80, z82, z84, z86, z88, z90, z91, z92, z94, z95, z97, z98, o100, h75, h77, h79, h81, h83, h85, h87, h89, h93, h96, h99, -⟩ := s_op5 hI h72
    refine va_callv (va_runV (As := [.ref z49]) (rest := []) ⟨hx, hb, hml, hown, hts⟩ (s_X4_copyFrom l dC dI H.size hLK D F9 z71 z49 h72 h50 hI) (cwV 1 hts (ax_gV T_951 T_560 T_561 T_142 T_559) rfl rfl rfl (by decide +kernel) ⟨Nat.le_of_ble_eq_true rfl, Nat.le_of_ble_eq_true rfl⟩) ⟨fun a U g mk q => ⟨q.1, s_pc rfl rfl q.2⟩, s_recv hK hP (hLK _ h72 (by decide)) (ci := 4) rfl o100, fun U hU hW => ⟨rfl, s_pw hU hW hP hK hD hN⟩⟩ rfl rfl hl.1 rfl (lv_room (Nat.le_of_ble_eq_true rfl)) dX6_keepForUndo_58 ⟨Nat.zero_le _, Nat.zero_le _⟩) hS (fun q _ h => h) (fun q h => h) (fun F101 t H1 locs ht hvm hw hB hz1 hk1 hS => ?_)
    obtain ⟨hP, hK1⟩ := hB
    rw [ht] at hP
    generalize H1 = H at hP hS ⊢
    obtain ⟨h102, h103, hI, hfr1⟩ := hw
    have o104 : F101 a0 = .inr (6, [.ref z38, .int z40, .ref z42, .ref z44, .ref z46, .int z48, .ref z49, .ref z51, .int z53, .int z55, .ref z57, .ref z59, .ref z61, .long z63]) := (hfr1 _ (by rw [ha0]; decide)).trans o64
    have hfr : ∀ b, K b ∉ [1, 5, 6, 7, 24, 27, 28, 29, 30, 31, 32] → F101 b = F b := fun b hb9 => (hfr1 b (fun q => hb9 (s_sub (by decide) q))).trans (hfr b hb9)
    refine lv_aload_n hx hb dX6_keepForUndo_61 rfl (lv_at hl 0 rfl) ?_
    refine th_get (D := (dC, dI)) (ci := 6) (v := .ref z59) (C := RX6) (T := TX6) (N := 14) hx hb hts inX6 hown hK hP (hLK _ ha0 (by decide)) o104 rfl 11 (by decide) (hts _ T_182) (fun _ h9 => h9) rfl dX6_keepForUndo_62 ?_
    obtain ⟨z105, z107, z109, z111, z113, z115, z116, z118, z119, z121, z122, z124, z125, z126, o128, h106, h108, h110, h112, h114, h117, h120, h123, h127, -⟩ := s_op1 hI h60
    refine va_callv (va_runV (As := []) (rest := []) ⟨hx, hb, hml, hown, hts⟩ (s_X0_forgetAhead l dC dI H.size hLK D F101 z59 h60 hI) (cwV 0 hts (ax_gV T_952 T_954 T_955 T_180 T_953) rfl rfl rfl (by decide +kernel) ⟨Nat.le_of_ble_eq_true rfl, Nat.le_of_ble_eq_true rfl⟩) ⟨fun a U g mk q => ⟨q.1, s_pc rfl rfl q.2⟩, s_recv hK hP (hLK _ h60 (by decide)) (ci := 0) rfl o128, fun U hU hW => ⟨rfl, s_pw hU hW hP hK hD hN⟩⟩ rfl rfl hl.1 rfl (lv_room (Nat.le_of_ble_eq_true rfl)) dX6_keepForUndo_65 ⟨Nat.zero_le _, Nat.zero_le _⟩) hS (fun q _ h => h) (fun q h => h) (fun F129 t H1 locs ht hvm hw hB hz1 hk1 hS => ?_)
    obtain ⟨hP, hK1⟩ := hB
    rw [ht] at hP
    generalize H1 = H at hP hS ⊢
    obtain ⟨h130, h131, hI, hfr1⟩ := hw
    have o132 : F129 a0 = .inr (6, [.ref z38, .int z40, .ref z42, .ref z44, .ref z46, .int z48, .ref z49, .ref z51, .int z53, .int z55, .ref z57, .ref z59, .ref z61, .long z63]) := (hfr1 _ (by rw [ha0]; decide)).trans o104
    have hfr : ∀ b, K b ∉ [1, 5, 6, 7, 24, 27, 28, 29, 30, 31, 32] → F129 b = F b := fun b hb9 => (hfr1 b (fun q => hb9 (s_sub (by decide) q))).trans (hfr b hb9)
    exact W.vret hx hb hr (fun t ht hW => ⟨⟨F129, rfl, ⟨trivial, trivial, hI, hfr⟩, by rw [ht]; exact hP, va_K.moved hW.alike hK⟩, hS.F ht⟩) hS.2.2 dX6_keepForUndo_68

set_option maxHeartbeats 4000000 in
set_option maxRecDepth 100000 in
theorem s_X6_run (l : Launch) (dC : Nat → ClassId) (dI : Nat → Nat → Nat) (sz : Nat) {L : List Nat} {K : Nat → Nat} {cs : Nat → ClassId} (hLK : ∀ a {k : Nat}, K a = k → k ≠ 0 → a ∈ L) (D : Nat) (Dm : Nat) (hDm : D + 401 ≤ Dm) (hDM : Dm < 2147483647) (F : Nat → va_E) (a0 : Nat) (x1 : Int32) (ha0 : K a0 = 7) (hx1 : -2147483648 ≤ x1.toInt ∧ x1.toInt ≤ 400) (hI : s_I K cs D F) (hPG : s_PG K cs F) : Met l yX6_run (Cond.code yX6_run cX6_run 4 (some .int) :: T0) ({ frames := 5, cells := 0, slots := 0, locals := 114 }) (va_Pc [.ref a0, .int x1] (s_W dC dI sz L F [(cs 0, .int), (cs 1, .byte), (cs 2, .long), (cs 3, .object RX5), (cs 4, .object RX4), (cs 5, .array .int), (cs 6, .char), (cs 7, .boolean)])) (va_Qi (fun (r : Int32) (G : Nat → va_E) => True ∧ True ∧ s_I K cs Dm G ∧ ∀ b, K b ∉ [2, 5, 6, 24, 27, 28, 29, 30, 31, 32, 34, 35] → G b = F b) (fun (G : Nat → va_E) (t : State) => va_P (dC, dI) vwCl (va_pl L G) t.heap ∧ va_K (dC, dI) vwCl [(cs 0, .int), (cs 1, .byte), (cs 2, .long), (cs 3, .object RX5), (cs 4, .object RX4), (cs 5, .array .int), (cs 6, .char), (cs 7, .boolean)] t) (fun q => q ∈ L)) 0 0 (fun q => q ∈ L) := by
  refine Met.ofW (cc := cX6_run) (maxL := 4) (ret := (some .int)) (by decide) rfl ?_
  intro p e s m args below meth c s₁ B hml hv
  obtain ⟨rfl, hsz, hP, hK, hD, hN⟩ := hv
  have hx := B.exec
  have hb := B.bytes
  have hr := B.returns
  have hts : ∀ w ∈ T0, w.before _ s = true := fun w h => atoms_spec (ws := Cond.code yX6_run cX6_run 4 (some .int) :: T0) B.pre w (List.mem_cons_of_mem _ h)
  have hown : s.vm.findClass RX6 = some m.cls := findClass_of_methodNamed B.named
  have hlocks := B.notSynchronized
  have hS : va_S (fun q => q ∈ L) s.heap s.heap [] := va_S.rf
  have hfr : ∀ b, K b ∉ [2, 5, 6, 24, 27, 28, 29, 30, 31, 32, 34, 35] → F b = F b := fun _ _ => rfl
  have hl := lv_entry ([.ref a0, .int x1]) (n := 4) (Nat.le_of_ble_eq_true rfl)
  rw [lg_entry_eq]
  generalize (lg_sl ([.ref a0, .int x1]) ++ List.replicate (4 - (lg_sl ([.ref a0, .int x1])).length) Slot.unset).toArray = ls at hl ⊢
  have hl : lv_has ls 4 [(0, .ref a0), (1, .int x1)] := hl
  have hI0 := hI
  refine s_gen hP hS (fun H locs hP hS => ?_)
  refine lv_iconst (v := 0) hx hb dX6_run_0 (by decide) ?_
  refine lv_istore_n (lv' := [(2, .int 0), (0, .ref a0), (1, .int x1)]) hx hb dX6_run_1 rfl hl (by decide) rfl (fun ls hl => ?_)
  refine lv_iconst (v := 0) hx hb dX6_run_2 (by decide) ?_
  refine lv_istore_n (lv' := [(3, .int 0), (2, .int 0), (0, .ref a0), (1, .int x1)]) hx hb dX6_run_3 rfl hl (by decide) rfl (fun ls hl => ?_)
  refine th_loop (fun n g H locs => ∃ (G : Nat → va_E) (ls : Array Slot) (Dn : Nat) (w1 : Int32) (w2 : Int32), g = F0 m 4 ls [] ∧ lv_has ls 4 [(0, .ref a0), (1, .int x1), (2, .int w1), (3, .int w2)] ∧ Dn + 1 * n + 0 ≤ Dm ∧ s_I K cs Dn G ∧ va_P (dC, dI) vwCl (va_pl L G) H ∧ va_S (fun q => q ∈ L) s.heap H locs ∧ (∀ b, K b ∉ [2, 5, 6, 24, 27, 28, 29, 30, 31, 32, 34, 35] → G b = F b) ∧ True ∧ (0 ≤ w2.toInt ∧ w2.toInt ≤ 400) ∧ (-2147483648 ≤ x1.toInt ∧ x1.toInt ≤ 400) ∧ n = (401 - w2.toInt).toNat) _ ⟨F, _, D, 0, 0, rfl, lv_sub hl [2, 3, 1, 0] rfl, by omega, hI, hP, hS, hfr, trivial, (by decide), ⟨th_lo x1, by omega⟩, rfl⟩ (fun n ih4 g H locs hq => ?_)
  obtain ⟨F9, ls, D6, w1, w2, rfl, hl, h7, hI, hP, hS, hfr, h3, h4, h5, hn⟩ := hq
  have hn_4 := hn
  obtain ⟨n_4, hn9_4⟩ : ∃ q, q = n := ⟨_, rfl⟩
  refine th_join (fun g H locs => ∃ (G : Nat → va_E) (ls : Array Slot) (Dn : Nat) (w8 : Int32), g = F0 m 26 ls [] ∧ lv_has ls 4 [(0, .ref a0), (1, .int x1), (2, .int w8), (3, .int w2)] ∧ Dn + 0 + 1 * (n_4 - 1) + 0 ≤ Dm ∧ s_I K cs Dn G ∧ va_P (dC, dI) vwCl (va_pl L G) H ∧ va_S (fun q => q ∈ L) s.heap H locs ∧ (∀ b, K b ∉ [2, 5, 6, 24, 27, 28, 29, 30, 31, 32, 34, 35] → G b = F b) ∧ True ∧ (1 ≤ x1.toInt ∧ x1.toInt ≤ 400) ∧ (0 ≤ w2.toInt ∧ w2.toInt ≤ 399)) (fun K26 => ?_) ?_
  · refine lv_iload_n hx hb dX6_run_4 rfl (lv_at hl 3 rfl) ?_
    refine lv_iload_n hx hb dX6_run_5 rfl (lv_at hl 1 rfl) ?_
    refine lv_icmp_ge (tgt := 32) hx hb dX6_run_6 (by decide) (fun c9 => ?_) (fun c9 => ?_)
    · have c9 := Int32.le_iff_toInt_le.mp c9
      refine lv_iload_n hx hb dX6_run_32 rfl (lv_at hl 2 rfl) ?_
      exact W.iret (v := w1) hx hb hr (fun t ht hW => ⟨⟨w1, F9, rfl, ⟨trivial, trivial, (s_mono (by omega) hI), hfr⟩, by rw [ht]; exact hP, va_K.moved hW.alike hK⟩, hS.F ht⟩) hS.2.2 dX6_run_33
    · have c9 := mt Int32.le_iff_toInt_le.mpr c9
      refine lv_aload_n hx hb dX6_run_9 rfl (lv_at hl 0 rfl) ?_
      obtain ⟨z10, z12, z14, z16, z18, z20, z21, z23, z25, z27, z29, z31, z33, z35, o36, h11, h13, h15, h17, h19, h22, h24, h26, h28, h30, h32, h34, -⟩ := s_op7 hI ha0
      refine th_get (D := (dC, dI)) (ci := 6) (v := .ref z29) (C := RX6) (T := TX6) (N := 14) hx hb hts inX6 hown hK hP (hLK _ ha0 (by decide)) o36 rfl 10 (by decide) (hts _ T_177) (fun _ h9 => h9) rfl dX6_run_10 ?_
      refine lv_aload_n hx hb dX6_run_13 rfl (lv_at hl 0 rfl) ?_
      refine th_get (D := (dC, dI)) (ci := 6) (v := .ref z21) (C := RX6) (T := TX6) (N := 14) hx hb hts inX6 hown hK hP (hLK _ ha0 (by decide)) o36 rfl 6 (by decide) (hts _ T_174) (fun _ h9 => h9) rfl dX6_run_14 ?_
      obtain ⟨z37, z39, z41, z43, z45, z47, z48, z50, z51, z52, z54, z55, o56, h38, h40, h42, h44, h46, h49, h53, -⟩ := s_op2 hI h30
      refine va_calli (va_runV (As := [.ref z21]) (rest := []) ⟨hx, hb, hml, hown, hts⟩ (s_X1_step l dC dI H.size hLK D6 (D6 + 1) (Nat.le_refl _) (by omega) F9 z29 z21 h30 h22 hI (s_PGt hI0 hfr (by decide) hPG)) (cwV 1 hts (ax_gV T_975 T_564 T_565 T_137 T_563) rfl rfl rfl (by decide +kernel) ⟨Nat.le_of_ble_eq_true rfl, Nat.le_of_ble_eq_true rfl⟩) ⟨fun a U g mk q => ⟨q.1, s_pc rfl rfl q.2⟩, s_recv hK hP (hLK _ h30 (by decide)) (ci := 1) rfl o56, fun U hU hW => ⟨rfl, s_pw hU hW hP hK hD hN⟩⟩ rfl rfl hl.1 rfl (lv_room (Nat.le_of_ble_eq_true rfl)) dX6_run_17 ⟨Nat.zero_le _, Nat.zero_le _⟩) hS (fun q _ h => h) (fun q h => h) (fun r57 F58 t H1 locs ht hvm hw hB hz1 hk1 hS => ?_)
      obtain ⟨hP, hK1⟩ := hB
      rw [ht] at hP
      generalize H1 = H at hP hS ⊢
      obtain ⟨h59, h60, hI, hfr1⟩ := hw
      have o61 : F58 a0 = .inr (6, [.ref z10, .int z12, .ref z14, .ref z16, .ref z18, .int z20, .ref z21, .ref z23, .int z25, .int z27, .ref z29, .ref z31, .ref z33, .long z35]) := (hfr1 _ (by rw [ha0]; decide)).trans o36
      have hfr : ∀ b, K b ∉ [2, 5, 6, 24, 27, 28, 29, 30, 31, 32, 34, 35] → F58 b = F b := fun b hb9 => (hfr1 b (fun q => hb9 (s_sub (by decide) q))).trans (hfr b hb9)
      refine lv_if_eq (tgt := 26) hx hb dX6_run_20 (by decide) (fun c62 => ?_) (fun c62 => ?_)
      · have c62 := (ax_eq (n := 0) (by decide)).mp c62
        exact K26 _ _ _ ⟨F58, _, (D6 + 1), w1, rfl, lv_sub hl [0, 1, 2, 3] rfl, by omega, hI, hP, hS, hfr, trivial, ⟨by omega, by omega⟩, ⟨by omega, by omega⟩⟩
      · have c62 := mt (ax_eq (n := 0) (by decide)).mpr c62
        obtain ⟨v63, ev63⟩ : ∃ y : Int32, w1 + 1 = y := ⟨_, rfl⟩
        refine lv_iinc (v := v63) (lv' := [(2, .int v63), (0, .ref a0), (1, .int x1), (3, .int w2)]) hx hb dX6_run_23 hl (k := 2) rfl ev63 (by decide) rfl (fun ls hl => ?_)
        exact K26 _ _ _ ⟨F58, _, (D6 + 1), v63, rfl, lv_sub hl [1, 2, 0, 3] rfl, by omega, hI, hP, hS, hfr, trivial, ⟨by omega, by omega⟩, ⟨by omega, by omega⟩⟩
  · intro g H locs hq
    obtain ⟨F9, ls, D67, w8, rfl, hl, h68, hI, hP, hS, hfr, h64, h65, h66⟩ := hq
    obtain ⟨v69, ev69⟩ : ∃ y : Int32, w2 + 1 = y := ⟨_, rfl⟩
    have qv69 : v69.toInt = w2.toInt + 1 := by rw [← ev69]; exact th_add rfl (by decide) ⟨by omega, by omega⟩
    refine lv_iinc (v := v69) (lv' := [(3, .int v69), (0, .ref a0), (1, .int x1), (2, .int w8)]) hx hb dX6_run_26 hl (k := 3) rfl ev69 (by decide) rfl (fun ls hl => ?_)
    refine lv_goto (tgt := 4) hx hb dX6_run_29 (by decide) ?_
    exact ih4 _ _ _ _ (by omega) ⟨F9, _, D67, w8, v69, rfl, lv_sub hl [1, 2, 3, 0] rfl, by omega, hI, hP, hS, hfr, trivial, ⟨by omega, by omega⟩, ⟨th_lo x1, by omega⟩, rfl⟩

set_option maxHeartbeats 4000000 in
set_option maxRecDepth 100000 in
theorem s_X6_draw (l : Launch) (dC : Nat → ClassId) (dI : Nat → Nat → Nat) (sz : Nat) {L : List Nat} {K : Nat → Nat} {cs : Nat → ClassId} (hLK : ∀ a {k : Nat}, K a = k → k ≠ 0 → a ∈ L) (D : Nat) (F : Nat → va_E) (a0 : Nat) (x1 : Int32) (ha0 : K a0 = 7) (hx1 : 1 ≤ x1.toInt ∧ x1.toInt ≤ 64) (hI : s_I K cs D F) : Met l yX6_draw (Cond.code yX6_draw cX6_draw 2 (some .int) :: T0) ({ frames := 0, cells := 0, slots := 0, locals := 0 }) (va_Pc [.ref a0, .int x1] (s_W dC dI sz L F [(cs 0, .int), (cs 1, .byte), (cs 2, .long), (cs 3, .object RX5), (cs 4, .object RX4), (cs 5, .array .int), (cs 6, .char), (cs 7, .boolean)])) (va_Qi (fun (r : Int32) (G : Nat → va_E) => (0 ≤ r.toInt ∧ r.toInt ≤ 63) ∧ (True ∧ (0 ≤ r.toInt ∧ r.toInt < x1.toInt)) ∧ s_I K cs D G ∧ ∀ b, K b ∉ [7] → G b = F b) (fun (G : Nat → va_E) (t : State) => va_P (dC, dI) vwCl (va_pl L G) t.heap ∧ va_K (dC, dI) vwCl [(cs 0, .int), (cs 1, .byte), (cs 2, .long), (cs 3, .object RX5), (cs 4, .object RX4), (cs 5, .array .int), (cs 6, .char), (cs 7, .boolean)] t) (fun q => q ∈ L)) 0 0 (fun q => q ∈ L) := by
  refine Met.ofW (cc := cX6_draw) (maxL := 2) (ret := (some .int)) (by decide) rfl ?_
  intro p e s m args below meth c s₁ B hml hv
  obtain ⟨rfl, hsz, hP, hK, hD, hN⟩ := hv
  have hx := B.exec
  have hb := B.bytes
  have hr := B.returns
  have hts : ∀ w ∈ T0, w.before _ s = true := fun w h => atoms_spec (ws := Cond.code yX6_draw cX6_draw 2 (some .int) :: T0) B.pre w (List.mem_cons_of_mem _ h)
  have hown : s.vm.findClass RX6 = some m.cls := findClass_of_methodNamed B.named
  have hlocks := B.notSynchronized
  have hS : va_S (fun q => q ∈ L) s.heap s.heap [] := va_S.rf
  have hfr : ∀ b, K b ∉ [7] → F b = F b := fun _ _ => rfl
  have hl := lv_entry ([.ref a0, .int x1]) (n := 2) (Nat.le_of_ble_eq_true rfl)
  rw [lg_entry_eq]
  generalize (lg_sl ([.ref a0, .int x1]) ++ List.replicate (2 - (lg_sl ([.ref a0, .int x1])).length) Slot.unset).toArray = ls at hl ⊢
  have hl : lv_has ls 2 [(0, .ref a0), (1, .int x1)] := hl
  refine s_gen hP hS (fun H locs hP hS => ?_)
  refine lv_aload_n hx hb dX6_draw_0 rfl (lv_at hl 0 rfl) ?_
  refine lv_ldc2 hx hb hown (hts _ T_933) dX6_draw_1 ?_
  refine lv_aload_n hx hb dX6_draw_4 rfl (lv_at hl 0 rfl) ?_
  obtain ⟨z1, z3, z5, z7, z9, z11, z12, z14, z16, z18, z20, z22, z24, z26, o27, h2, h4, h6, h8, h10, h13, h15, h17, h19, h21, h23, h25, -⟩ := s_op7 hI ha0
  refine th_get (D := (dC, dI)) (ci := 6) (v := .long z26) (C := RX6) (T := TX6) (N := 14) hx hb hts inX6 hown hK hP (hLK _ ha0 (by decide)) o27 rfl 13 (by decide) (hts _ T_184) (fun _ h9 => h9) rfl dX6_draw_5 ?_
  refine lv_lmul hx hb dX6_draw_8 ?_
  refine lv_topl (fun v28 ev28 => ?_)
  refine lv_ldc2 hx hb hown (hts _ T_934) dX6_draw_9 ?_
  refine lv_ladd hx hb dX6_draw_12 ?_
  refine lv_topl (fun v29 ev29 => ?_)
  refine lv_ldc2 hx hb hown (hts _ T_935) dX6_draw_13 ?_
  refine lv_land hx hb dX6_draw_16 ?_
  refine lv_topl (fun v30 ev30 => ?_)
  refine th_put (D := (dC, dI)) (ci := 6) (v := .long v30) (ty := .long) (C := RX6) (T := TX6) (N := 14) hx hb hts inX6 tyX6 tyX6_ok nmX6 hown hK hP hD hS (hLK _ ha0 (by decide)) o27 rfl 13 (by decide) (hts _ T_184) (fun _ h9 => h9) rfl (by decide +kernel) rfl rfl (Nat.le_of_ble_eq_true rfl) dX6_draw_17 (fun H locs hP hS => ?_)
  have hP : va_P (dC, dI) vwCl (va_pl L (va_up F a0 (.inr (6, [.ref z1, .int z3, .ref z5, .ref z7, .ref z9, .int z11, .ref z12, .ref z14, .int z16, .int z18, .ref z20, .ref z22, .ref z24, .long v30])))) H := hP
  obtain ⟨F31, hF32⟩ : ∃ G : Nat → va_E, G = va_up F a0 (.inr (6, [.ref z1, .int z3, .ref z5, .ref z7, .ref z9, .int z11, .ref z12, .ref z14, .int z16, .int z18, .ref z20, .ref z22, .ref z24, .long v30])) := ⟨_, rfl⟩
  rw [← hF32] at hP
  have hI : s_I K cs D F31 := by rw [hF32]; exact s_cl7 hI ha0 ⟨z1, z3, z5, z7, z9, z11, z12, z14, z16, z18, z20, z22, z24, v30, rfl, h2, ⟨by omega, by omega⟩, h6, h8, h10, h13, h15, ⟨by omega, by omega⟩, ⟨by omega, by omega⟩, h21, h23, h25, trivial⟩
  have hfr : ∀ b, K b ∉ [7] → F31 b = F b := by rw [hF32]; exact s_fr hfr ha0 (by decide)
  have o33 : F31 a0 = .inr (6, [.ref z1, .int z3, .ref z5, .ref z7, .ref z9, .int z11, .ref z12, .ref z14, .int z16, .int z18, .ref z20, .ref z22, .ref z24, .long v30]) := by rw [hF32]; exact th_up
  refine lv_aload_n hx hb dX6_draw_20 rfl (lv_at hl 0 rfl) ?_
  refine th_get (D := (dC, dI)) (ci := 6) (v := .long v30) (C := RX6) (T := TX6) (N := 14) hx hb hts inX6 hown hK hP (hLK _ ha0 (by decide)) o33 rfl 13 (by decide) (hts _ T_184) (fun _ h9 => h9) rfl dX6_draw_21 ?_
  refine lv_ldc2 hx hb hown (hts _ T_936) dX6_draw_24 ?_
  refine lv_ldiv hx hb dX6_draw_27 (by decide) ?_
  refine lv_topl (fun v34 ev34 => ?_)
  refine lv_iload_n hx hb dX6_draw_28 rfl (lv_at hl 1 rfl) ?_
  refine lv_i2l hx hb dX6_draw_29 rfl ?_
  refine lv_topl (fun v35 ev35 => ?_)
  refine lv_lrem hx hb dX6_draw_30 (by rw [ev35]; exact th_nzL (by omega)) ?_
  refine lv_topl (fun v36 ev36 => ?_)
  refine lv_l2i hx hb dX6_draw_31 rfl ?_
  refine lv_topi (fun v37 ev37 => ?_)
  have qv37 : 0 ≤ v37.toInt ∧ v37.toInt < x1.toInt := by rw [ev37, ev36, ev35, ev34, ev30]; exact th_draw (by omega)
  exact W.iret (v := v37) hx hb hr (fun t ht hW => ⟨⟨v37, F31, rfl, ⟨⟨by omega, by omega⟩, ⟨trivial, ⟨by omega, by omega⟩⟩, hI, hfr⟩, by rw [ht]; exact hP, va_K.moved hW.alike hK⟩, hS.F ht⟩) hS.2.2 dX6_draw_32

set_option maxHeartbeats 4000000 in
set_option maxRecDepth 100000 in
theorem s_X6_cycles (l : Launch) (dC : Nat → ClassId) (dI : Nat → Nat → Nat) (sz : Nat) {L : List Nat} {K : Nat → Nat} {cs : Nat → ClassId} (hLK : ∀ a {k : Nat}, K a = k → k ≠ 0 → a ∈ L) (D : Nat) (Dm : Nat) (hDm : D + 401 ≤ Dm) (hDM : Dm < 2147483647) (F : Nat → va_E) (a0 : Nat) (x1 : Int32) (ha0 : K a0 = 7) (hI : s_I K cs D F) (hPG : s_PG K cs F) : Met l yX6_cycles (Cond.code yX6_cycles cX6_cycles 2 (some .int) :: T0) ({ frames := 6, cells := 0, slots := 0, locals := 137 }) (va_Pc [.ref a0, .int x1] (s_W dC dI sz L F [(cs 0, .int), (cs 1, .byte), (cs 2, .long), (cs 3, .object RX5), (cs 4, .object RX4), (cs 5, .array .int), (cs 6, .char), (cs 7, .boolean)])) (va_Qi (fun (r : Int32) (G : Nat → va_E) => True ∧ True ∧ s_I K cs Dm G ∧ ∀ b, K b ∉ [1, 2, 5, 6, 7, 24, 27, 28, 29, 30, 31, 32, 34, 35, 39] → G b = F b) (fun (G : Nat → va_E) (t : State) => va_P (dC, dI) vwCl (va_pl L G) t.heap ∧ va_K (dC, dI) vwCl [(cs 0, .int), (cs 1, .byte), (cs 2, .long), (cs 3, .object RX5), (cs 4, .object RX4), (cs 5, .array .int), (cs 6, .char), (cs 7, .boolean)] t) (fun q => q ∈ L)) 0 0 (fun q => q ∈ L) := by
  refine Met.ofW (cc := cX6_cycles) (maxL := 2) (ret := (some .int)) (by decide) rfl ?_
  intro p e s m args below meth c s₁ B hml hv
  obtain ⟨rfl, hsz, hP, hK, hD, hN⟩ := hv
  have hx := B.exec
  have hb := B.bytes
  have hr := B.returns
  have hts : ∀ w ∈ T0, w.before _ s = true := fun w h => atoms_spec (ws := Cond.code yX6_cycles cX6_cycles 2 (some .int) :: T0) B.pre w (List.mem_cons_of_mem _ h)
  have hown : s.vm.findClass RX6 = some m.cls := findClass_of_methodNamed B.named
  have hlocks := B.notSynchronized
  have hS : va_S (fun q => q ∈ L) s.heap s.heap [] := va_S.rf
  have hfr : ∀ b, K b ∉ [1, 2, 5, 6, 7, 24, 27, 28, 29, 30, 31, 32, 34, 35, 39] → F b = F b := fun _ _ => rfl
  have hl := lv_entry ([.ref a0, .int x1]) (n := 2) (Nat.le_of_ble_eq_true rfl)
  rw [lg_entry_eq]
  generalize (lg_sl ([.ref a0, .int x1]) ++ List.replicate (2 - (lg_sl ([.ref a0, .int x1])).length) Slot.unset).toArray = ls at hl ⊢
  have hl : lv_has ls 2 [(0, .ref a0), (1, .int x1)] := hl
  have hI0 := hI
  refine s_gen hP hS (fun H locs hP hS => ?_)
  refine th_join (fun g H locs => ∃ (G : Nat → va_E) (ls : Array Slot) (Dn : Nat), g = F0 m 34 ls [] ∧ lv_has ls 2 [(0, .ref a0)] ∧ Dn + 0 ≤ Dm ∧ s_I K cs Dn G ∧ va_P (dC, dI) vwCl (va_pl L G) H ∧ va_S (fun q => q ∈ L) s.heap H locs ∧ (∀ b, K b ∉ [1, 2, 5, 6, 7, 24, 27, 28, 29, 30, 31, 32, 34, 35, 39] → G b = F b)) (fun K34 => ?_) ?_
  · refine lv_aload_n hx hb dX6_cycles_0 rfl (lv_at hl 0 rfl) ?_
    obtain ⟨z1, z3, z5, z7, z9, z11, z12, z14, z16, z18, z20, z22, z24, z26, o27, h2, h4, h6, h8, h10, h13, h15, h17, h19, h21, h23, h25, -⟩ := s_op7 hI ha0
    refine th_get (D := (dC, dI)) (ci := 6) (v := .int z11) (C := RX6) (T := TX6) (N := 14) hx hb hts inX6 hown hK hP (hLK _ ha0 (by decide)) o27 rfl 5 (by decide) (hts _ T_224) (fun _ h9 => h9) rfl dX6_cycles_1 ?_
    refine lv_if_eq (tgt := 34) hx hb dX6_cycles_4 (by decide) (fun c28 => ?_) (fun c28 => ?_)
    · have c28 := (ax_eq (n := 0) (by decide)).mp c28
      exact K34 _ _ _ ⟨F, _, D, rfl, lv_sub hl [0] rfl, by omega, hI, hP, hS, hfr⟩
    · have c28 := mt (ax_eq (n := 0) (by decide)).mpr c28
      refine lv_iload_n hx hb dX6_cycles_7 rfl (lv_at hl 1 rfl) ?_
      refine lv_iconst (v := 1) hx hb dX6_cycles_8 (by decide) ?_
      refine lv_icmp_lt (tgt := 34) hx hb dX6_cycles_9 (by decide) (fun c29 => ?_) (fun c29 => ?_)
      · have c29 := (ax_lt (n := 1) (by decide)).mp c29
        exact K34 _ _ _ ⟨F, _, D, rfl, lv_sub hl [0] rfl, by omega, hI, hP, hS, hfr⟩
      · have c29 := mt (ax_lt (n := 1) (by decide)).mpr c29
        refine lv_iload_n hx hb dX6_cycles_12 rfl (lv_at hl 1 rfl) ?_
        refine lv_sipush (v := 400) hx hb dX6_cycles_13 (by decide) ?_
        refine lv_icmp_gt (tgt := 34) hx hb dX6_cycles_16 (by decide) (fun c30 => ?_) (fun c30 => ?_)
        · have c30 := (ax_gt (n := 400) (by decide)).mp c30
          exact K34 _ _ _ ⟨F, _, D, rfl, lv_sub hl [0] rfl, by omega, hI, hP, hS, hfr⟩
        · have c30 := mt (ax_gt (n := 400) (by decide)).mpr c30
          refine lv_aload_n hx hb dX6_cycles_19 rfl (lv_at hl 0 rfl) ?_
          refine th_get (D := (dC, dI)) (ci := 6) (v := .ref z12) (C := RX6) (T := TX6) (N := 14) hx hb hts inX6 hown hK hP (hLK _ ha0 (by decide)) o27 rfl 6 (by decide) (hts _ T_174) (fun _ h9 => h9) rfl dX6_cycles_20 ?_
          obtain ⟨z31, z33, z35, z37, z39, z41, z43, z45, z47, z48, z49, z51, z52, z54, z55, o57, h32, h34, h36, h38, h40, h42, h44, h46, h50, h53, h56, -⟩ := s_op5 hI h13
          refine th_getN (D := (dC, dI)) (ci := 4) (v := .int z51) (C := RX4) (T := TX4) (N := 15) hx hb hts inX4 hown hK hP (hLK _ h13 (by decide)) o57 rfl 11 (by decide) (va_Nw.use rfl (ax_n59 hN)) (fun _ h9 => h9) rfl dX6_cycles_23 ?_
          refine lv_iload_n hx hb dX6_cycles_26 rfl (lv_at hl 1 rfl) ?_
          refine lv_iadd hx hb dX6_cycles_27 ?_
          refine lv_topi (fun v58 ev58 => ?_)
          refine lv_sipush (v := 9999) hx hb dX6_cycles_28 (by decide) ?_
          refine lv_icmp_le (tgt := 40) hx hb dX6_cycles_31 (by decide) (fun c59 => ?_) (fun c59 => ?_)
          · have c59 := (ax_le (n := 9999) (by decide)).mp c59
            refine lv_aload_n hx hb dX6_cycles_40 rfl (lv_at hl 0 rfl) ?_
            refine va_callv (va_runV (As := []) (rest := []) ⟨hx, hb, hml, hown, hts⟩ (s_X6_keepForUndo l dC dI H.size hLK D F a0 ha0 hI) (cwV 0 hts (ax_gV T_906 T_908 T_909 T_193 T_907) rfl rfl rfl (by decide +kernel) ⟨Nat.le_of_ble_eq_true rfl, Nat.le_of_ble_eq_true rfl⟩) ⟨fun a U g mk q => ⟨q.1, s_pc rfl rfl q.2⟩, s_recv hK hP (hLK _ ha0 (by decide)) (ci := 6) rfl o27, fun U hU hW => ⟨rfl, s_pw hU hW hP hK hD hN⟩⟩ rfl rfl hl.1 rfl (lv_room (Nat.le_of_ble_eq_true rfl)) dX6_cycles_41 ⟨Nat.zero_le _, Nat.zero_le _⟩) hS (fun q _ h => h) (fun q h => h) (fun F60 t H1 locs ht hvm hw hB hz1 hk1 hS => ?_)
            obtain ⟨hP, hK1⟩ := hB
            rw [ht] at hP
            generalize H1 = H at hP hS ⊢
            obtain ⟨h61, h62, hI, hfr1⟩ := hw
            have hfr : ∀ b, K b ∉ [1, 2, 5, 6, 7, 24, 27, 28, 29, 30, 31, 32, 34, 35, 39] → F60 b = F b := fun b hb9 => (hfr1 b (fun q => hb9 (s_sub (by decide) q))).trans (hfr b hb9)
            refine lv_aload_n hx hb dX6_cycles_44 rfl (lv_at hl 0 rfl) ?_
            refine lv_iload_n hx hb dX6_cycles_45 rfl (lv_at hl 1 rfl) ?_
            obtain ⟨z63, z65, z67, z69, z71, z73, z74, z76, z78, z80, z82, z84, z86, z88, o89, h64, h66, h68, h70, h72, h75, h77, h79, h81, h83, h85, h87, -⟩ := s_op7 hI ha0
            refine va_calli (va_runV (As := [.int x1]) (rest := []) ⟨hx, hb, hml, hown, hts⟩ (s_X6_run l dC dI H.size hLK D (D + 401) (Nat.le_refl _) (by omega) F60 a0 x1 ha0 (⟨th_lo x1, by omega⟩) hI (s_PGt hI0 hfr (by decide) hPG)) (cwV 1 hts (ax_gV T_929 T_931 T_932 T_193 T_930) rfl rfl rfl (by decide +kernel) ⟨Nat.le_of_ble_eq_true rfl, Nat.le_of_ble_eq_true rfl⟩) ⟨fun a U g mk q => ⟨q.1, s_pc rfl rfl q.2⟩, s_recv hK hP (hLK _ ha0 (by decide)) (ci := 6) rfl o89, fun U hU hW => ⟨rfl, s_pw hU hW hP hK hD hN⟩⟩ rfl rfl hl.1 rfl (lv_room (Nat.le_of_ble_eq_true rfl)) dX6_cycles_46 ⟨Nat.zero_le _, Nat.zero_le _⟩) hS (fun q _ h => h) (fun q h => h) (fun r90 F91 t H1 locs ht hvm hw hB hz1 hk1 hS => ?_)
            obtain ⟨hP, hK1⟩ := hB
            rw [ht] at hP
            generalize H1 = H at hP hS ⊢
            obtain ⟨h92, h93, hI, hfr1⟩ := hw
            have o94 : F91 a0 = .inr (6, [.ref z63, .int z65, .ref z67, .ref z69, .ref z71, .int z73, .ref z74, .ref z76, .int z78, .int z80, .ref z82, .ref z84, .ref z86, .long z88]) := (hfr1 _ (by rw [ha0]; decide)).trans o89
            have hfr : ∀ b, K b ∉ [1, 2, 5, 6, 7, 24, 27, 28, 29, 30, 31, 32, 34, 35, 39] → F91 b = F b := fun b hb9 => (hfr1 b (fun q => hb9 (s_sub (by decide) q))).trans (hfr b hb9)
            exact W.iret (v := r90) hx hb hr (fun t ht hW => ⟨⟨r90, F91, rfl, ⟨trivial, trivial, (s_mono (by omega) hI), hfr⟩, by rw [ht]; exact hP, va_K.moved hW.alike hK⟩, hS.F ht⟩) hS.2.2 dX6_cycles_49
          · have c59 := mt (ax_le (n := 9999) (by decide)).mpr c59
            exact K34 _ _ _ ⟨F, _, D, rfl, lv_sub hl [0] rfl, by omega, hI, hP, hS, hfr⟩
  · intro g H locs hq
    obtain ⟨F9, ls, D95, rfl, hl, h96, hI, hP, hS, hfr⟩ := hq
    refine lv_aload_n hx hb dX6_cycles_34 rfl (lv_at hl 0 rfl) ?_
    refine lv_iconst (v := 2) hx hb dX6_cycles_35 (by decide) ?_
    obtain ⟨z97, z99, z101, z103, z105, z107, z108, z110, z112, z114, z116, z118, z120, z122, o123, h98, h100, h102, h104, h106, h109, h111, h113, h115, h117, h119, h121, -⟩ := s_op7 hI ha0
    refine va_calli (va_runV (As := [.int 2]) (rest := []) ⟨hx, hb, hml, hown, hts⟩ (s_X6_refuse l dC dI H.size hLK D95 F9 a0 2 ha0 (by decide) hI) (cwV 1 hts (ax_gV T_194 T_195 T_196 T_193 T_10) rfl rfl rfl (by decide +kernel) ⟨Nat.le_of_ble_eq_true rfl, Nat.le_of_ble_eq_true rfl⟩) ⟨fun a U g mk q => ⟨q.1, s_pc rfl rfl q.2⟩, s_recv hK hP (hLK _ ha0 (by decide)) (ci := 6) rfl o123, fun U hU hW => ⟨rfl, s_pw hU hW hP hK hD hN⟩⟩ rfl rfl hl.1 rfl (lv_room (Nat.le_of_ble_eq_true rfl)) dX6_cycles_36 ⟨Nat.zero_le _, Nat.zero_le _⟩) hS (fun q _ h => h) (fun q h => h) (fun r124 F125 t H1 locs ht hvm hw hB hz1 hk1 hS => ?_)
    obtain ⟨hP, hK1⟩ := hB
    rw [ht] at hP
    generalize H1 = H at hP hS ⊢
    obtain ⟨h126, h127, hI, hfr1⟩ := hw
    have o128 : F125 a0 = .inr (6, [.ref z97, .int z99, .ref z101, .ref z103, .ref z105, .int z107, .ref z108, .ref z110, .int z112, .int z114, .ref z116, .ref z118, .ref z120, .long z122]) := (hfr1 _ (by rw [ha0]; decide)).trans o123
    have hfr : ∀ b, K b ∉ [1, 2, 5, 6, 7, 24, 27, 28, 29, 30, 31, 32, 34, 35, 39] → F125 b = F b := fun b hb9 => (hfr1 b (fun q => hb9 (s_sub (by decide) q))).trans (hfr b hb9)
    exact W.iret (v := r124) hx hb hr (fun t ht hW => ⟨⟨r124, F125, rfl, ⟨trivial, trivial, (s_mono (by omega) hI), hfr⟩, by rw [ht]; exact hP, va_K.moved hW.alike hK⟩, hS.F ht⟩) hS.2.2 dX6_cycles_39

set_option maxHeartbeats 4000000 in
set_option maxRecDepth 100000 in
theorem s_X6_poke (l : Launch) (dC : Nat → ClassId) (dI : Nat → Nat → Nat) (sz : Nat) {L : List Nat} {K : Nat → Nat} {cs : Nat → ClassId} (hLK : ∀ a {k : Nat}, K a = k → k ≠ 0 → a ∈ L) (D : Nat) (F : Nat → va_E) (a0 : Nat) (x1 : Int32) (x2 : Int32) (x3 : Int32) (ha0 : K a0 = 7) (hx1 : 0 ≤ x1.toInt ∧ x1.toInt ≤ 1) (hI : s_I K cs D F) : Met l yX6_poke (Cond.code yX6_poke cX6_poke 6 (some .int) :: T0) ({ frames := 4, cells := 0, slots := 0, locals := 123 }) (va_Pc [.ref a0, .int x1, .int x2, .int x3] (s_W dC dI sz L F [(cs 0, .int), (cs 1, .byte), (cs 2, .long), (cs 3, .object RX5), (cs 4, .object RX4), (cs 5, .array .int), (cs 6, .char), (cs 7, .boolean)])) (va_Qi (fun (r : Int32) (G : Nat → va_E) => True ∧ True ∧ s_I K cs D G ∧ ∀ b, K b ∉ [1, 5, 6, 7, 24, 27, 28, 29, 30, 31, 32, 39] → G b = F b) (fun (G : Nat → va_E) (t : State) => va_P (dC, dI) vwCl (va_pl L G) t.heap ∧ va_K (dC, dI) vwCl [(cs 0, .int), (cs 1, .byte), (cs 2, .long), (cs 3, .object RX5), (cs 4, .object RX4), (cs 5, .array .int), (cs 6, .char), (cs 7, .boolean)] t) (fun q => q ∈ L)) 0 0 (fun q => q ∈ L) := by
  refine Met.ofW (cc := cX6_poke) (maxL := 6) (ret := (some .int)) (by decide) rfl ?_
  intro p e s m args below meth c s₁ B hml hv
  obtain ⟨rfl, hsz, hP, hK, hD, hN⟩ := hv
  have hx := B.exec
  have hb := B.bytes
  have hr := B.returns
  have hts : ∀ w ∈ T0, w.before _ s = true := fun w h => atoms_spec (ws := Cond.code yX6_poke cX6_poke 6 (some .int) :: T0) B.pre w (List.mem_cons_of_mem _ h)
  have hown : s.vm.findClass RX6 = some m.cls := findClass_of_methodNamed B.named
  have hlocks := B.notSynchronized
  have hS : va_S (fun q => q ∈ L) s.heap s.heap [] := va_S.rf
  have hfr : ∀ b, K b ∉ [1, 5, 6, 7, 24, 27, 28, 29, 30, 31, 32, 39] → F b = F b := fun _ _ => rfl
  have hl := lv_entry ([.ref a0, .int x1, .int x2, .int x3]) (n := 6) (Nat.le_of_ble_eq_true rfl)
  rw [lg_entry_eq]
  generalize (lg_sl ([.ref a0, .int x1, .int x2, .int x3]) ++ List.replicate (6 - (lg_sl ([.ref a0, .int x1, .int x2, .int x3])).length) Slot.unset).toArray = ls at hl ⊢
  have hl : lv_has ls 6 [(0, .ref a0), (1, .int x1), (2, .int x2), (3, .int x3)] := hl
  refine s_gen hP hS (fun H locs hP hS => ?_)
  refine lv_aload_n hx hb dX6_poke_0 rfl (lv_at hl 0 rfl) ?_
  refine lv_iload_n hx hb dX6_poke_1 rfl (lv_at hl 1 rfl) ?_
  refine lv_iload_n hx hb dX6_poke_2 rfl (lv_at hl 2 rfl) ?_
  obtain ⟨z1, z3, z5, z7, z9, z11, z12, z14, z16, z18, z20, z22, z24, z26, o27, h2, h4, h6, h8, h10, h13, h15, h17, h19, h21, h23, h25, -⟩ := s_op7 hI ha0
  refine va_calli (va_runV (As := [.int x1, .int x2]) (rest := []) ⟨hx, hb, hml, hown, hts⟩ (s_X6_hasWord l dC dI H.size hLK D F a0 x1 x2 ha0 (⟨by omega, by omega⟩) hI) (cwV 2 hts (ax_gV T_232 T_233 T_234 T_193 T_18) rfl rfl rfl (by decide +kernel) ⟨Nat.le_of_ble_eq_true rfl, Nat.le_of_ble_eq_true rfl⟩) ⟨fun a U g mk q => ⟨q.1, s_pc rfl rfl q.2⟩, s_recv hK hP (hLK _ ha0 (by decide)) (ci := 6) rfl o27, fun U hU hW => ⟨rfl, s_pw hU hW hP hK hD hN⟩⟩ rfl rfl hl.1 rfl (lv_room (Nat.le_of_ble_eq_true rfl)) dX6_poke_3 ⟨Nat.zero_le _, Nat.zero_le _⟩) hS (fun q _ h => h) (fun q h => h) (fun r28 F29 t H1 locs ht hvm hw hB hz1 hk1 hS => ?_)
  obtain ⟨hP, hK1⟩ := hB
  rw [ht] at hP
  generalize H1 = H at hP hS ⊢
  obtain ⟨h30, h31, hI, hfr1⟩ := hw
  have o32 : F29 a0 = .inr (6, [.ref z1, .int z3, .ref z5, .ref z7, .ref z9, .int z11, .ref z12, .ref z14, .int z16, .int z18, .ref z20, .ref z22, .ref z24, .long z26]) := (hfr1 _ (by rw [ha0]; decide)).trans o27
  have hfr : ∀ b, K b ∉ [1, 5, 6, 7, 24, 27, 28, 29, 30, 31, 32, 39] → F29 b = F b := fun b hb9 => (hfr1 b (fun q => hb9 (s_sub (by decide) q))).trans (hfr b hb9)
  obtain ⟨h31, h33⟩ := h31
  have h33 : (r28 = 0 ∨ x1.toInt = 0 ∨ x2.toInt ≤ 31) := h33
  refine lv_if_eq (tgt := 23) hx hb dX6_poke_6 (by decide) (fun c34 => ?_) (fun c34 => ?_)
  · have c34 := (ax_eq (n := 0) (by decide)).mp c34
    refine lv_aload_n hx hb dX6_poke_23 rfl (lv_at hl 0 rfl) ?_
    refine lv_iconst (v := 3) hx hb dX6_poke_24 (by decide) ?_
    refine va_calli (va_runV (As := [.int 3]) (rest := []) ⟨hx, hb, hml, hown, hts⟩ (s_X6_refuse l dC dI H.size hLK D F29 a0 3 ha0 (by decide) hI) (cwV 1 hts (ax_gV T_194 T_195 T_196 T_193 T_10) rfl rfl rfl (by decide +kernel) ⟨Nat.le_of_ble_eq_true rfl, Nat.le_of_ble_eq_true rfl⟩) ⟨fun a U g mk q => ⟨q.1, s_pc rfl rfl q.2⟩, s_recv hK hP (hLK _ ha0 (by decide)) (ci := 6) rfl o32, fun U hU hW => ⟨rfl, s_pw hU hW hP hK hD hN⟩⟩ rfl rfl hl.1 rfl (lv_room (Nat.le_of_ble_eq_true rfl)) dX6_poke_25 ⟨Nat.zero_le _, Nat.zero_le _⟩) hS (fun q _ h => h) (fun q h => h) (fun r35 F36 t H1 locs ht hvm hw hB hz1 hk1 hS => ?_)
    obtain ⟨hP, hK1⟩ := hB
    rw [ht] at hP
    generalize H1 = H at hP hS ⊢
    obtain ⟨h37, h38, hI, hfr1⟩ := hw
    have o39 : F36 a0 = .inr (6, [.ref z1, .int z3, .ref z5, .ref z7, .ref z9, .int z11, .ref z12, .ref z14, .int z16, .int z18, .ref z20, .ref z22, .ref z24, .long z26]) := (hfr1 _ (by rw [ha0]; decide)).trans o32
    have hfr : ∀ b, K b ∉ [1, 5, 6, 7, 24, 27, 28, 29, 30, 31, 32, 39] → F36 b = F b := fun b hb9 => (hfr1 b (fun q => hb9 (s_sub (by decide) q))).trans (hfr b hb9)
    refine lv_pop hx hb dX6_poke_28 rfl ?_
    refine lv_ldc (v := (-1000000)) hx hb hown (hts _ T_228) dX6_poke_29 ?_
    exact W.iret (v := (-1000000)) hx hb hr (fun t ht hW => ⟨⟨(-1000000), F36, rfl, ⟨trivial, trivial, hI, hfr⟩, by rw [ht]; exact hP, va_K.moved hW.alike hK⟩, hS.F ht⟩) hS.2.2 dX6_poke_31
  · have c34 := mt (ax_eq (n := 0) (by decide)).mpr c34
    have h40 := h31 (fun q => c34 (by rw [q]; decide))
    refine lv_iload_n hx hb dX6_poke_9 rfl (lv_at hl 3 rfl) ?_
    refine lv_sipush (v := (-9999)) hx hb dX6_poke_10 (by decide) ?_
    refine lv_icmp_lt (tgt := 23) hx hb dX6_poke_13 (by decide) (fun c41 => ?_) (fun c41 => ?_)
    · have c41 := (ax_lt (n := (-9999)) (by decide)).mp c41
      refine lv_aload_n hx hb dX6_poke_23 rfl (lv_at hl 0 rfl) ?_
      refine lv_iconst (v := 3) hx hb dX6_poke_24 (by decide) ?_
      refine va_calli (va_runV (As := [.int 3]) (rest := []) ⟨hx, hb, hml, hown, hts⟩ (s_X6_refuse l dC dI H.size hLK D F29 a0 3 ha0 (by decide) hI) (cwV 1 hts (ax_gV T_194 T_195 T_196 T_193 T_10) rfl rfl rfl (by decide +kernel) ⟨Nat.le_of_ble_eq_true rfl, Nat.le_of_ble_eq_true rfl⟩) ⟨fun a U g mk q => ⟨q.1, s_pc rfl rfl q.2⟩, s_recv hK hP (hLK _ ha0 (by decide)) (ci := 6) rfl o32, fun U hU hW => ⟨rfl, s_pw hU hW hP hK hD hN⟩⟩ rfl rfl hl.1 rfl (lv_room (Nat.le_of_ble_eq_true rfl)) dX6_poke_25 ⟨Nat.zero_le _, Nat.zero_le _⟩) hS (fun q _ h => h) (fun q h => h) (fun r42 F43 t H1 locs ht hvm hw hB hz1 hk1 hS => ?_)
      obtain ⟨hP, hK1⟩ := hB
      rw [ht] at hP
      generalize H1 = H at hP hS ⊢
      obtain ⟨h44, h45, hI, hfr1⟩ := hw
      have o46 : F43 a0 = .inr (6, [.ref z1, .int z3, .ref z5, .ref z7, .ref z9, .int z11, .ref z12, .ref z14, .int z16, .int z18, .ref z20, .ref z22, .ref z24, .long z26]) := (hfr1 _ (by rw [ha0]; decide)).trans o32
      have hfr : ∀ b, K b ∉ [1, 5, 6, 7, 24, 27, 28, 29, 30, 31, 32, 39] → F43 b = F b := fun b hb9 => (hfr1 b (fun q => hb9 (s_sub (by decide) q))).trans (hfr b hb9)
      refine lv_pop hx hb dX6_poke_28 rfl ?_
      refine lv_ldc (v := (-1000000)) hx hb hown (hts _ T_228) dX6_poke_29 ?_
      exact W.iret (v := (-1000000)) hx hb hr (fun t ht hW => ⟨⟨(-1000000), F43, rfl, ⟨trivial, trivial, hI, hfr⟩, by rw [ht]; exact hP, va_K.moved hW.alike hK⟩, hS.F ht⟩) hS.2.2 dX6_poke_31
    · have c41 := mt (ax_lt (n := (-9999)) (by decide)).mpr c41
      refine lv_iload_n hx hb dX6_poke_16 rfl (lv_at hl 3 rfl) ?_
      refine lv_sipush (v := 9999) hx hb dX6_poke_17 (by decide) ?_
      refine lv_icmp_le (tgt := 32) hx hb dX6_poke_20 (by decide) (fun c47 => ?_) (fun c47 => ?_)
      · have c47 := (ax_le (n := 9999) (by decide)).mp c47
        refine lv_aload_n hx hb dX6_poke_32 rfl (lv_at hl 0 rfl) ?_
        refine va_callv (va_runV (As := []) (rest := []) ⟨hx, hb, hml, hown, hts⟩ (s_X6_keepForUndo l dC dI H.size hLK D F29 a0 ha0 hI) (cwV 0 hts (ax_gV T_906 T_908 T_909 T_193 T_907) rfl rfl rfl (by decide +kernel) ⟨Nat.le_of_ble_eq_true rfl, Nat.le_of_ble_eq_true rfl⟩) ⟨fun a U g mk q => ⟨q.1, s_pc rfl rfl q.2⟩, s_recv hK hP (hLK _ ha0 (by decide)) (ci := 6) rfl o32, fun U hU hW => ⟨rfl, s_pw hU hW hP hK hD hN⟩⟩ rfl rfl hl.1 rfl (lv_room (Nat.le_of_ble_eq_true rfl)) dX6_poke_33 ⟨Nat.zero_le _, Nat.zero_le _⟩) hS (fun q _ h => h) (fun q h => h) (fun F48 t H1 locs ht hvm hw hB hz1 hk1 hS => ?_)
        obtain ⟨hP, hK1⟩ := hB
        rw [ht] at hP
        generalize H1 = H at hP hS ⊢
        obtain ⟨h49, h50, hI, hfr1⟩ := hw
        have hfr : ∀ b, K b ∉ [1, 5, 6, 7, 24, 27, 28, 29, 30, 31, 32, 39] → F48 b = F b := fun b hb9 => (hfr1 b (fun q => hb9 (s_sub (by decide) q))).trans (hfr b hb9)
        refine lv_iload_n hx hb dX6_poke_36 rfl (lv_at hl 1 rfl) ?_
        refine lv_if_eq (tgt := 50) hx hb dX6_poke_37 (by decide) (fun c51 => ?_) (fun c51 => ?_)
        · have c51 := (ax_eq (n := 0) (by decide)).mp c51
          refine lv_aload_n hx hb dX6_poke_50 rfl (lv_at hl 0 rfl) ?_
          obtain ⟨z52, z54, z56, z58, z60, z62, z63, z65, z67, z69, z71, z73, z75, z77, o78, h53, h55, h57, h59, h61, h64, h66, h68, h70, h72, h74, h76, -⟩ := s_op7 hI ha0
          refine th_get (D := (dC, dI)) (ci := 6) (v := .ref z63) (C := RX6) (T := TX6) (N := 14) hx hb hts inX6 hown hK hP (hLK _ ha0 (by decide)) o78 rfl 6 (by decide) (hts _ T_174) (fun _ h9 => h9) rfl dX6_poke_51 ?_
          obtain ⟨z79, z81, z83, z85, z87, z89, z91, z93, z95, z96, z97, z99, z100, z102, z103, o105, h80, h82, h84, h86, h88, h90, h92, h94, h98, h101, h104, -⟩ := s_op5 hI h64
          refine th_getN (D := (dC, dI)) (ci := 4) (v := .ref z81) (C := RX4) (T := TX4) (N := 15) hx hb hts inX4 hown hK hP (hLK _ h64 (by decide)) o105 rfl 1 (by decide) (va_Nw.use rfl (ax_n58 hN)) (fun _ h9 => h9) rfl dX6_poke_54 ?_
          refine lv_astore (lv' := [(4, .ref z81), (0, .ref a0), (1, .int x1), (2, .int x2), (3, .int x3)]) hx hb dX6_poke_57 hl (by decide) rfl (fun ls hl => ?_)
          refine lv_aload hx hb dX6_poke_59 (lv_at hl 0 rfl) ?_
          refine lv_iload_n hx hb dX6_poke_61 rfl (lv_at hl 3 rfl) ?_
          obtain ⟨f106, o107, h108⟩ := s_op24 hI h82
          refine th_iald hx hb hK hP (hLK _ h82 (by decide)) 0 o107 rfl (th_in ⟨by omega, by omega⟩) dX6_poke_62 ?_
          refine lv_topi (fun v109 ev109 => ?_)
          refine lv_istore (lv' := [(5, .int v109), (4, .ref z81), (0, .ref a0), (1, .int x1), (2, .int x2), (3, .int x3)]) hx hb dX6_poke_63 hl (by decide) rfl (fun ls hl => ?_)
          refine lv_aload hx hb dX6_poke_65 (lv_at hl 1 rfl) ?_
          refine lv_iload_n hx hb dX6_poke_67 rfl (lv_at hl 4 rfl) ?_
          refine lv_iload_n hx hb dX6_poke_68 rfl (lv_at hl 5 rfl) ?_
          obtain ⟨f110, o111, h112⟩ := s_op24 hI h82
          refine th_iast hx hb hK hP hD hS (hLK _ h82 (by decide)) 0 o111 rfl (th_in ⟨by omega, by omega⟩) dX6_poke_69 (fun H locs hP hS => ?_)
          have hP : va_P (dC, dI) vwCl (va_pl L (va_up F48 z81 (.inl (cs 0, 64, .inl (upd f110 (x2 : Int32).toNatClampNeg x3))))) H := hP
          obtain ⟨F113, hF114⟩ : ∃ G : Nat → va_E, G = va_up F48 z81 (.inl (cs 0, 64, .inl (upd f110 (x2 : Int32).toNatClampNeg x3))) := ⟨_, rfl⟩
          rw [← hF114] at hP
          have hI : s_I K cs D F113 := by rw [hF114]; exact s_cl24 hI h82 ⟨_, rfl, trivial⟩
          have hfr : ∀ b, K b ∉ [1, 5, 6, 7, 24, 27, 28, 29, 30, 31, 32, 39] → F113 b = F b := by rw [hF114]; exact s_fr hfr h82 (by decide)
          have o115 : F113 a0 = .inr (6, [.ref z52, .int z54, .ref z56, .ref z58, .ref z60, .int z62, .ref z63, .ref z65, .int z67, .int z69, .ref z71, .ref z73, .ref z75, .long z77]) := by rw [hF114]; exact th_ne (th_kd ha0 h82 (by decide)) o78
          have o116 : F113 z63 = .inr (4, [.ref z79, .ref z81, .ref z83, .ref z85, .ref z87, .ref z89, .ref z91, .int z93, .int z95, .int z96, .int z97, .int z99, .int z100, .int z102, .int z103]) := by rw [hF114]; exact th_ne (th_kd h64 h82 (by decide)) o105
          refine lv_iload hx hb dX6_poke_70 (lv_at hl 0 rfl) ?_
          exact W.iret (v := v109) hx hb hr (fun t ht hW => ⟨⟨v109, F113, rfl, ⟨trivial, trivial, hI, hfr⟩, by rw [ht]; exact hP, va_K.moved hW.alike hK⟩, hS.F ht⟩) hS.2.2 dX6_poke_72
        · have c51 := mt (ax_eq (n := 0) (by decide)).mpr c51
          refine lv_aload_n hx hb dX6_poke_40 rfl (lv_at hl 0 rfl) ?_
          obtain ⟨z117, z119, z121, z123, z125, z127, z128, z130, z132, z134, z136, z138, z140, z142, o143, h118, h120, h122, h124, h126, h129, h131, h133, h135, h137, h139, h141, -⟩ := s_op7 hI ha0
          refine th_get (D := (dC, dI)) (ci := 6) (v := .ref z128) (C := RX6) (T := TX6) (N := 14) hx hb hts inX6 hown hK hP (hLK _ ha0 (by decide)) o143 rfl 6 (by decide) (hts _ T_174) (fun _ h9 => h9) rfl dX6_poke_41 ?_
          obtain ⟨z144, z146, z148, z150, z152, z154, z156, z158, z160, z161, z162, z164, z165, z167, z168, o170, h145, h147, h149, h151, h153, h155, h157, h159, h163, h166, h169, -⟩ := s_op5 hI h129
          refine th_getN (D := (dC, dI)) (ci := 4) (v := .ref z148) (C := RX4) (T := TX4) (N := 15) hx hb hts inX4 hown hK hP (hLK _ h129 (by decide)) o170 rfl 2 (by decide) (va_Nw.use rfl (ax_n75 hN)) (fun _ h9 => h9) rfl dX6_poke_44 ?_
          refine lv_goto (tgt := 57) hx hb dX6_poke_47 (by decide) ?_
          refine lv_astore (lv' := [(4, .ref z148), (0, .ref a0), (1, .int x1), (2, .int x2), (3, .int x3)]) hx hb dX6_poke_57 hl (by decide) rfl (fun ls hl => ?_)
          refine lv_aload hx hb dX6_poke_59 (lv_at hl 0 rfl) ?_
          refine lv_iload_n hx hb dX6_poke_61 rfl (lv_at hl 3 rfl) ?_
          obtain ⟨f171, o172, h173⟩ := s_op27 hI h149
          refine th_iald hx hb hK hP (hLK _ h149 (by decide)) 0 o172 rfl (th_in ⟨by omega, by omega⟩) dX6_poke_62 ?_
          refine lv_topi (fun v174 ev174 => ?_)
          refine lv_istore (lv' := [(5, .int v174), (4, .ref z148), (0, .ref a0), (1, .int x1), (2, .int x2), (3, .int x3)]) hx hb dX6_poke_63 hl (by decide) rfl (fun ls hl => ?_)
          refine lv_aload hx hb dX6_poke_65 (lv_at hl 1 rfl) ?_
          refine lv_iload_n hx hb dX6_poke_67 rfl (lv_at hl 4 rfl) ?_
          refine lv_iload_n hx hb dX6_poke_68 rfl (lv_at hl 5 rfl) ?_
          obtain ⟨f175, o176, h177⟩ := s_op27 hI h149
          refine th_iast hx hb hK hP hD hS (hLK _ h149 (by decide)) 0 o176 rfl (th_in ⟨by omega, by omega⟩) dX6_poke_69 (fun H locs hP hS => ?_)
          have hP : va_P (dC, dI) vwCl (va_pl L (va_up F48 z148 (.inl (cs 0, 32, .inl (upd f175 (x2 : Int32).toNatClampNeg x3))))) H := hP
          obtain ⟨F178, hF179⟩ : ∃ G : Nat → va_E, G = va_up F48 z148 (.inl (cs 0, 32, .inl (upd f175 (x2 : Int32).toNatClampNeg x3))) := ⟨_, rfl⟩
          rw [← hF179] at hP
          have hI : s_I K cs D F178 := by rw [hF179]; exact s_cl27 hI h149 ⟨_, rfl, trivial⟩
          have hfr : ∀ b, K b ∉ [1, 5, 6, 7, 24, 27, 28, 29, 30, 31, 32, 39] → F178 b = F b := by rw [hF179]; exact s_fr hfr h149 (by decide)
          have o180 : F178 a0 = .inr (6, [.ref z117, .int z119, .ref z121, .ref z123, .ref z125, .int z127, .ref z128, .ref z130, .int z132, .int z134, .ref z136, .ref z138, .ref z140, .long z142]) := by rw [hF179]; exact th_ne (th_kd ha0 h149 (by decide)) o143
          have o181 : F178 z128 = .inr (4, [.ref z144, .ref z146, .ref z148, .ref z150, .ref z152, .ref z154, .ref z156, .int z158, .int z160, .int z161, .int z162, .int z164, .int z165, .int z167, .int z168]) := by rw [hF179]; exact th_ne (th_kd h129 h149 (by decide)) o170
          refine lv_iload hx hb dX6_poke_70 (lv_at hl 0 rfl) ?_
          exact W.iret (v := v174) hx hb hr (fun t ht hW => ⟨⟨v174, F178, rfl, ⟨trivial, trivial, hI, hfr⟩, by rw [ht]; exact hP, va_K.moved hW.alike hK⟩, hS.F ht⟩) hS.2.2 dX6_poke_72
      · have c47 := mt (ax_le (n := 9999) (by decide)).mpr c47
        refine lv_aload_n hx hb dX6_poke_23 rfl (lv_at hl 0 rfl) ?_
        refine lv_iconst (v := 3) hx hb dX6_poke_24 (by decide) ?_
        refine va_calli (va_runV (As := [.int 3]) (rest := []) ⟨hx, hb, hml, hown, hts⟩ (s_X6_refuse l dC dI H.size hLK D F29 a0 3 ha0 (by decide) hI) (cwV 1 hts (ax_gV T_194 T_195 T_196 T_193 T_10) rfl rfl rfl (by decide +kernel) ⟨Nat.le_of_ble_eq_true rfl, Nat.le_of_ble_eq_true rfl⟩) ⟨fun a U g mk q => ⟨q.1, s_pc rfl rfl q.2⟩, s_recv hK hP (hLK _ ha0 (by decide)) (ci := 6) rfl o32, fun U hU hW => ⟨rfl, s_pw hU hW hP hK hD hN⟩⟩ rfl rfl hl.1 rfl (lv_room (Nat.le_of_ble_eq_true rfl)) dX6_poke_25 ⟨Nat.zero_le _, Nat.zero_le _⟩) hS (fun q _ h => h) (fun q h => h) (fun r182 F183 t H1 locs ht hvm hw hB hz1 hk1 hS => ?_)
        obtain ⟨hP, hK1⟩ := hB
        rw [ht] at hP
        generalize H1 = H at hP hS ⊢
        obtain ⟨h184, h185, hI, hfr1⟩ := hw
        have o186 : F183 a0 = .inr (6, [.ref z1, .int z3, .ref z5, .ref z7, .ref z9, .int z11, .ref z12, .ref z14, .int z16, .int z18, .ref z20, .ref z22, .ref z24, .long z26]) := (hfr1 _ (by rw [ha0]; decide)).trans o32
        have hfr : ∀ b, K b ∉ [1, 5, 6, 7, 24, 27, 28, 29, 30, 31, 32, 39] → F183 b = F b := fun b hb9 => (hfr1 b (fun q => hb9 (s_sub (by decide) q))).trans (hfr b hb9)
        refine lv_pop hx hb dX6_poke_28 rfl ?_
        refine lv_ldc (v := (-1000000)) hx hb hown (hts _ T_228) dX6_poke_29 ?_
        exact W.iret (v := (-1000000)) hx hb hr (fun t ht hW => ⟨⟨(-1000000), F183, rfl, ⟨trivial, trivial, hI, hfr⟩, by rw [ht]; exact hP, va_K.moved hW.alike hK⟩, hS.F ht⟩) hS.2.2 dX6_poke_31

set_option maxHeartbeats 4000000 in
set_option maxRecDepth 100000 in
theorem s_X6_set (l : Launch) (dC : Nat → ClassId) (dI : Nat → Nat → Nat) (sz : Nat) {L : List Nat} {K : Nat → Nat} {cs : Nat → ClassId} (hLK : ∀ a {k : Nat}, K a = k → k ≠ 0 → a ∈ L) (D : Nat) (F : Nat → va_E) (a0 : Nat) (x1 : Int32) (x2 : Int32) (x3 : Int32) (ha0 : K a0 = 7) (hI : s_I K cs D F) : Met l yX6_set (Cond.code yX6_set cX6_set 4 (some .boolean) :: T0) ({ frames := 4, cells := 0, slots := 0, locals := 123 }) (va_Pc [.ref a0, .int x1, .int x2, .int x3] (s_W dC dI sz L F [(cs 0, .int), (cs 1, .byte), (cs 2, .long), (cs 3, .object RX5), (cs 4, .object RX4), (cs 5, .array .int), (cs 6, .char), (cs 7, .boolean)])) (va_Qi (fun (r : Int32) (G : Nat → va_E) => (0 ≤ r.toInt ∧ r.toInt ≤ 1) ∧ (¬ r = 0 → 0 ≤ x1.toInt ∧ x1.toInt ≤ 1 ∧ 0 ≤ x2.toInt ∧ x2.toInt ≤ 1 ∧ 0 ≤ x3.toInt ∧ x3.toInt ≤ 3) ∧ s_I K cs D G ∧ ∀ b, K b ∉ [1, 5, 6, 7, 24, 27, 28, 29, 30, 31, 32, 39] → G b = F b) (fun (G : Nat → va_E) (t : State) => va_P (dC, dI) vwCl (va_pl L G) t.heap ∧ va_K (dC, dI) vwCl [(cs 0, .int), (cs 1, .byte), (cs 2, .long), (cs 3, .object RX5), (cs 4, .object RX4), (cs 5, .array .int), (cs 6, .char), (cs 7, .boolean)] t) (fun q => q ∈ L)) 0 0 (fun q => q ∈ L) := by
  refine Met.ofW (cc := cX6_set) (maxL := 4) (ret := (some .boolean)) (by decide) rfl ?_
  intro p e s m args below meth c s₁ B hml hv
  obtain ⟨rfl, hsz, hP, hK, hD, hN⟩ := hv
  have hx := B.exec
  have hb := B.bytes
  have hr := B.returns
  have hts : ∀ w ∈ T0, w.before _ s = true := fun w h => atoms_spec (ws := Cond.code yX6_set cX6_set 4 (some .boolean) :: T0) B.pre w (List.mem_cons_of_mem _ h)
  have hown : s.vm.findClass RX6 = some m.cls := findClass_of_methodNamed B.named
  have hlocks := B.notSynchronized
  have hS : va_S (fun q => q ∈ L) s.heap s.heap [] := va_S.rf
  have hfr : ∀ b, K b ∉ [1, 5, 6, 7, 24, 27, 28, 29, 30, 31, 32, 39] → F b = F b := fun _ _ => rfl
  have hl := lv_entry ([.ref a0, .int x1, .int x2, .int x3]) (n := 4) (Nat.le_of_ble_eq_true rfl)
  rw [lg_entry_eq]
  generalize (lg_sl ([.ref a0, .int x1, .int x2, .int x3]) ++ List.replicate (4 - (lg_sl ([.ref a0, .int x1, .int x2, .int x3])).length) Slot.unset).toArray = ls at hl ⊢
  have hl : lv_has ls 4 [(0, .ref a0), (1, .int x1), (2, .int x2), (3, .int x3)] := hl
  refine s_gen hP hS (fun H locs hP hS => ?_)
  refine th_join (fun g H locs => ∃ (G : Nat → va_E) (ls : Array Slot), g = F0 m 30 ls [] ∧ lv_has ls 4 [(0, .ref a0)] ∧ s_I K cs D G ∧ va_P (dC, dI) vwCl (va_pl L G) H ∧ va_S (fun q => q ∈ L) s.heap H locs ∧ (∀ b, K b ∉ [1, 5, 6, 7, 24, 27, 28, 29, 30, 31, 32, 39] → G b = F b)) (fun K30 => ?_) ?_
  · refine lv_aload_n hx hb dX6_set_0 rfl (lv_at hl 0 rfl) ?_
    obtain ⟨z1, z3, z5, z7, z9, z11, z12, z14, z16, z18, z20, z22, z24, z26, o27, h2, h4, h6, h8, h10, h13, h15, h17, h19, h21, h23, h25, -⟩ := s_op7 hI ha0
    refine th_get (D := (dC, dI)) (ci := 6) (v := .int z11) (C := RX6) (T := TX6) (N := 14) hx hb hts inX6 hown hK hP (hLK _ ha0 (by decide)) o27 rfl 5 (by decide) (hts _ T_224) (fun _ h9 => h9) rfl dX6_set_1 ?_
    refine lv_if_eq (tgt := 30) hx hb dX6_set_4 (by decide) (fun c28 => ?_) (fun c28 => ?_)
    · have c28 := (ax_eq (n := 0) (by decide)).mp c28
      exact K30 _ _ _ ⟨F, _, rfl, lv_sub hl [0] rfl, hI, hP, hS, hfr⟩
    · have c28 := mt (ax_eq (n := 0) (by decide)).mpr c28
      refine lv_iload_n hx hb dX6_set_7 rfl (lv_at hl 1 rfl) ?_
      refine va_calli (va_runS (As := [.int x1]) (rest := []) ⟨hx, hb, hml, hown, hts⟩ (s_X6_isMode l dC dI H.size hLK D F x1 hI) (cwS 1 hts (ax_gS T_911 T_913 T_193 T_912) rfl rfl rfl (by decide +kernel) ⟨Nat.le_of_ble_eq_true rfl, Nat.le_of_ble_eq_true rfl⟩) ⟨fun a U g mk q => ⟨q.1, s_pc rfl rfl q.2⟩, fun U hU hW => ⟨rfl, s_pw hU hW hP hK hD hN⟩⟩ rfl rfl hl.1 rfl (lv_room (Nat.le_of_ble_eq_true rfl)) dX6_set_8 ⟨Nat.zero_le _, Nat.zero_le _⟩) hS (fun q _ h => h) (fun q h => h) (fun r29 F30 t H1 locs ht hvm hw hB hz1 hk1 hS => ?_)
      obtain ⟨hP, hK1⟩ := hB
      rw [ht] at hP
      generalize H1 = H at hP hS ⊢
      obtain ⟨h31, h32, hI, hfr1⟩ := hw
      have o33 : F30 a0 = .inr (6, [.ref z1, .int z3, .ref z5, .ref z7, .ref z9, .int z11, .ref z12, .ref z14, .int z16, .int z18, .ref z20, .ref z22, .ref z24, .long z26]) := (hfr1 _ (by rw [ha0]; decide)).trans o27
      have hfr : ∀ b, K b ∉ [1, 5, 6, 7, 24, 27, 28, 29, 30, 31, 32, 39] → F30 b = F b := fun b hb9 => (hfr1 b (fun q => hb9 (s_sub (by decide) q))).trans (hfr b hb9)
      refine lv_if_eq (tgt := 30) hx hb dX6_set_11 (by decide) (fun c34 => ?_) (fun c34 => ?_)
      · have c34 := (ax_eq (n := 0) (by decide)).mp c34
        exact K30 _ _ _ ⟨F30, _, rfl, lv_sub hl [0] rfl, hI, hP, hS, hfr⟩
      · have c34 := mt (ax_eq (n := 0) (by decide)).mpr c34
        have h35 := h32 (fun q => c34 (by rw [q]; decide))
        refine lv_iload_n hx hb dX6_set_14 rfl (lv_at hl 2 rfl) ?_
        refine va_calli (va_runS (As := [.int x2]) (rest := []) ⟨hx, hb, hml, hown, hts⟩ (s_X6_isOrder l dC dI H.size hLK D F30 x2 hI) (cwS 1 hts (ax_gS T_914 T_916 T_193 T_915) rfl rfl rfl (by decide +kernel) ⟨Nat.le_of_ble_eq_true rfl, Nat.le_of_ble_eq_true rfl⟩) ⟨fun a U g mk q => ⟨q.1, s_pc rfl rfl q.2⟩, fun U hU hW => ⟨rfl, s_pw hU hW hP hK hD hN⟩⟩ rfl rfl hl.1 rfl (lv_room (Nat.le_of_ble_eq_true rfl)) dX6_set_15 ⟨Nat.zero_le _, Nat.zero_le _⟩) hS (fun q _ h => h) (fun q h => h) (fun r36 F37 t H1 locs ht hvm hw hB hz1 hk1 hS => ?_)
        obtain ⟨hP, hK1⟩ := hB
        rw [ht] at hP
        generalize H1 = H at hP hS ⊢
        obtain ⟨h38, h39, hI, hfr1⟩ := hw
        have o40 : F37 a0 = .inr (6, [.ref z1, .int z3, .ref z5, .ref z7, .ref z9, .int z11, .ref z12, .ref z14, .int z16, .int z18, .ref z20, .ref z22, .ref z24, .long z26]) := (hfr1 _ (by rw [ha0]; decide)).trans o33
        have hfr : ∀ b, K b ∉ [1, 5, 6, 7, 24, 27, 28, 29, 30, 31, 32, 39] → F37 b = F b := fun b hb9 => (hfr1 b (fun q => hb9 (s_sub (by decide) q))).trans (hfr b hb9)
        refine lv_if_eq (tgt := 30) hx hb dX6_set_18 (by decide) (fun c41 => ?_) (fun c41 => ?_)
        · have c41 := (ax_eq (n := 0) (by decide)).mp c41
          exact K30 _ _ _ ⟨F37, _, rfl, lv_sub hl [0] rfl, hI, hP, hS, hfr⟩
        · have c41 := mt (ax_eq (n := 0) (by decide)).mpr c41
          have h42 := h39 (fun q => c41 (by rw [q]; decide))
          refine lv_iload_n hx hb dX6_set_21 rfl (lv_at hl 3 rfl) ?_
          refine lv_if_lt (tgt := 30) hx hb dX6_set_22 (by decide) (fun c43 => ?_) (fun c43 => ?_)
          · have c43 := (ax_lt (n := 0) (by decide)).mp c43
            exact K30 _ _ _ ⟨F37, _, rfl, lv_sub hl [0] rfl, hI, hP, hS, hfr⟩
          · have c43 := mt (ax_lt (n := 0) (by decide)).mpr c43
            refine lv_iload_n hx hb dX6_set_25 rfl (lv_at hl 3 rfl) ?_
            refine lv_iconst (v := 4) hx hb dX6_set_26 (by decide) ?_
            refine lv_icmp_lt (tgt := 38) hx hb dX6_set_27 (by decide) (fun c44 => ?_) (fun c44 => ?_)
            · have c44 := (ax_lt (n := 4) (by decide)).mp c44
              refine lv_aload_n hx hb dX6_set_38 rfl (lv_at hl 0 rfl) ?_
              refine va_callv (va_runV (As := []) (rest := []) ⟨hx, hb, hml, hown, hts⟩ (s_X6_keepForUndo l dC dI H.size hLK D F37 a0 ha0 hI) (cwV 0 hts (ax_gV T_906 T_908 T_909 T_193 T_907) rfl rfl rfl (by decide +kernel) ⟨Nat.le_of_ble_eq_true rfl, Nat.le_of_ble_eq_true rfl⟩) ⟨fun a U g mk q => ⟨q.1, s_pc rfl rfl q.2⟩, s_recv hK hP (hLK _ ha0 (by decide)) (ci := 6) rfl o40, fun U hU hW => ⟨rfl, s_pw hU hW hP hK hD hN⟩⟩ rfl rfl hl.1 rfl (lv_room (Nat.le_of_ble_eq_true rfl)) dX6_set_39 ⟨Nat.zero_le _, Nat.zero_le _⟩) hS (fun q _ h => h) (fun q h => h) (fun F45 t H1 locs ht hvm hw hB hz1 hk1 hS => ?_)
              obtain ⟨hP, hK1⟩ := hB
              rw [ht] at hP
              generalize H1 = H at hP hS ⊢
              obtain ⟨h46, h47, hI, hfr1⟩ := hw
              have hfr : ∀ b, K b ∉ [1, 5, 6, 7, 24, 27, 28, 29, 30, 31, 32, 39] → F45 b = F b := fun b hb9 => (hfr1 b (fun q => hb9 (s_sub (by decide) q))).trans (hfr b hb9)
              refine lv_aload_n hx hb dX6_set_42 rfl (lv_at hl 0 rfl) ?_
              obtain ⟨z48, z50, z52, z54, z56, z58, z59, z61, z63, z65, z67, z69, z71, z73, o74, h49, h51, h53, h55, h57, h60, h62, h64, h66, h68, h70, h72, -⟩ := s_op7 hI ha0
              refine th_get (D := (dC, dI)) (ci := 6) (v := .ref z59) (C := RX6) (T := TX6) (N := 14) hx hb hts inX6 hown hK hP (hLK _ ha0 (by decide)) o74 rfl 6 (by decide) (hts _ T_174) (fun _ h9 => h9) rfl dX6_set_43 ?_
              refine lv_iload_n hx hb dX6_set_46 rfl (lv_at hl 1 rfl) ?_
              refine lv_iload_n hx hb dX6_set_47 rfl (lv_at hl 2 rfl) ?_
              refine lv_iload_n hx hb dX6_set_48 rfl (lv_at hl 3 rfl) ?_
              obtain ⟨z75, z77, z79, z81, z83, z85, z87, z89, z91, z92, z93, z95, z96, z98, z99, o101, h76, h78, h80, h82, h84, h86, h88, h90, h94, h97, h100, -⟩ := s_op5 hI h60
              refine va_callv (va_runV (As := [.int x1, .int x2, .int x3]) (rest := []) ⟨hx, hb, hml, hown, hts⟩ (s_X4_lay l dC dI H.size hLK D F45 z59 x1 x2 x3 h60 (⟨by omega, by omega⟩) hI) (cwV 3 hts (ax_gV T_974 T_552 T_553 T_142 T_551) rfl rfl rfl (by decide +kernel) ⟨Nat.le_of_ble_eq_true rfl, Nat.le_of_ble_eq_true rfl⟩) ⟨fun a U g mk q => ⟨q.1, s_pc rfl rfl q.2⟩, s_recv hK hP (hLK _ h60 (by decide)) (ci := 4) rfl o101, fun U hU hW => ⟨rfl, s_pw hU hW hP hK hD hN⟩⟩ rfl rfl hl.1 rfl (lv_room (Nat.le_of_ble_eq_true rfl)) dX6_set_49 ⟨Nat.zero_le _, Nat.zero_le _⟩) hS (fun q _ h => h) (fun q h => h) (fun F102 t H1 locs ht hvm hw hB hz1 hk1 hS => ?_)
              obtain ⟨hP, hK1⟩ := hB
              rw [ht] at hP
              generalize H1 = H at hP hS ⊢
              obtain ⟨h103, h104, hI, hfr1⟩ := hw
              have o105 : F102 a0 = .inr (6, [.ref z48, .int z50, .ref z52, .ref z54, .ref z56, .int z58, .ref z59, .ref z61, .int z63, .int z65, .ref z67, .ref z69, .ref z71, .long z73]) := (hfr1 _ (by rw [ha0]; decide)).trans o74
              have hfr : ∀ b, K b ∉ [1, 5, 6, 7, 24, 27, 28, 29, 30, 31, 32, 39] → F102 b = F b := fun b hb9 => (hfr1 b (fun q => hb9 (s_sub (by decide) q))).trans (hfr b hb9)
              refine lv_aload_n hx hb dX6_set_52 rfl (lv_at hl 0 rfl) ?_
              refine th_get (D := (dC, dI)) (ci := 6) (v := .ref z59) (C := RX6) (T := TX6) (N := 14) hx hb hts inX6 hown hK hP (hLK _ ha0 (by decide)) o105 rfl 6 (by decide) (hts _ T_174) (fun _ h9 => h9) rfl dX6_set_53 ?_
              refine lv_aload_n hx hb dX6_set_56 rfl (lv_at hl 0 rfl) ?_
              refine th_get (D := (dC, dI)) (ci := 6) (v := .ref z54) (C := RX6) (T := TX6) (N := 14) hx hb hts inX6 hown hK hP (hLK _ ha0 (by decide)) o105 rfl 3 (by decide) (hts _ T_170) (fun _ h9 => h9) rfl dX6_set_57 ?_
              obtain ⟨z106, z108, z110, z112, z114, z116, z118, z120, z122, z123, z124, z126, z127, z129, z130, o132, h107, h109, h111, h113, h115, h117, h119, h121, h125, h128, h131, -⟩ := s_op5 hI h60
              refine va_callv (va_runV (As := [.ref z54]) (rest := []) ⟨hx, hb, hml, hown, hts⟩ (s_X4_restart l dC dI H.size hLK D F102 z59 z54 h60 h55 hI) (cwV 1 hts (ax_gV T_910 T_556 T_557 T_142 T_555) rfl rfl rfl (by decide +kernel) ⟨Nat.le_of_ble_eq_true rfl, Nat.le_of_ble_eq_true rfl⟩) ⟨fun a U g mk q => ⟨q.1, s_pc rfl rfl q.2⟩, s_recv hK hP (hLK _ h60 (by decide)) (ci := 4) rfl o132, fun U hU hW => ⟨rfl, s_pw hU hW hP hK hD hN⟩⟩ rfl rfl hl.1 rfl (lv_room (Nat.le_of_ble_eq_true rfl)) dX6_set_60 ⟨Nat.zero_le _, Nat.zero_le _⟩) hS (fun q _ h => h) (fun q h => h) (fun F133 t H1 locs ht hvm hw hB hz1 hk1 hS => ?_)
              obtain ⟨hP, hK1⟩ := hB
              rw [ht] at hP
              generalize H1 = H at hP hS ⊢
              obtain ⟨h134, h135, hI, hfr1⟩ := hw
              have o136 : F133 a0 = .inr (6, [.ref z48, .int z50, .ref z52, .ref z54, .ref z56, .int z58, .ref z59, .ref z61, .int z63, .int z65, .ref z67, .ref z69, .ref z71, .long z73]) := (hfr1 _ (by rw [ha0]; decide)).trans o105
              have hfr : ∀ b, K b ∉ [1, 5, 6, 7, 24, 27, 28, 29, 30, 31, 32, 39] → F133 b = F b := fun b hb9 => (hfr1 b (fun q => hb9 (s_sub (by decide) q))).trans (hfr b hb9)
              refine lv_iconst (v := 1) hx hb dX6_set_63 (by decide) ?_
              exact W.zret (v := 1) (ty := .boolean) hx hb hr (by decide) (fun t ht hW => ⟨⟨1, F133, rfl, ⟨(by decide), (fun q => ⟨by omega, by omega, by omega, by omega, by omega, by omega⟩), hI, hfr⟩, by rw [ht]; exact hP, va_K.moved hW.alike hK⟩, hS.F ht⟩) hS.2.2 dX6_set_64
            · have c44 := mt (ax_lt (n := 4) (by decide)).mpr c44
              exact K30 _ _ _ ⟨F37, _, rfl, lv_sub hl [0] rfl, hI, hP, hS, hfr⟩
  · intro g H locs hq
    obtain ⟨F9, ls, rfl, hl, hI, hP, hS, hfr⟩ := hq
    refine lv_aload_n hx hb dX6_set_30 rfl (lv_at hl 0 rfl) ?_
    refine lv_iconst (v := 3) hx hb dX6_set_31 (by decide) ?_
    obtain ⟨z137, z139, z141, z143, z145, z147, z148, z150, z152, z154, z156, z158, z160, z162, o163, h138, h140, h142, h144, h146, h149, h151, h153, h155, h157, h159, h161, -⟩ := s_op7 hI ha0
    refine va_calli (va_runV (As := [.int 3]) (rest := []) ⟨hx, hb, hml, hown, hts⟩ (s_X6_refuse l dC dI H.size hLK D F9 a0 3 ha0 (by decide) hI) (cwV 1 hts (ax_gV T_194 T_195 T_196 T_193 T_10) rfl rfl rfl (by decide +kernel) ⟨Nat.le_of_ble_eq_true rfl, Nat.le_of_ble_eq_true rfl⟩) ⟨fun a U g mk q => ⟨q.1, s_pc rfl rfl q.2⟩, s_recv hK hP (hLK _ ha0 (by decide)) (ci := 6) rfl o163, fun U hU hW => ⟨rfl, s_pw hU hW hP hK hD hN⟩⟩ rfl rfl hl.1 rfl (lv_room (Nat.le_of_ble_eq_true rfl)) dX6_set_32 ⟨Nat.zero_le _, Nat.zero_le _⟩) hS (fun q _ h => h) (fun q h => h) (fun r164 F165 t H1 locs ht hvm hw hB hz1 hk1 hS => ?_)
    obtain ⟨hP, hK1⟩ := hB
    rw [ht] at hP
    generalize H1 = H at hP hS ⊢
    obtain ⟨h166, h167, hI, hfr1⟩ := hw
    have o168 : F165 a0 = .inr (6, [.ref z137, .int z139, .ref z141, .ref z143, .ref z145, .int z147, .ref z148, .ref z150, .int z152, .int z154, .ref z156, .ref z158, .ref z160, .long z162]) := (hfr1 _ (by rw [ha0]; decide)).trans o163
    have hfr : ∀ b, K b ∉ [1, 5, 6, 7, 24, 27, 28, 29, 30, 31, 32, 39] → F165 b = F b := fun b hb9 => (hfr1 b (fun q => hb9 (s_sub (by decide) q))).trans (hfr b hb9)
    refine lv_pop hx hb dX6_set_35 rfl ?_
    refine lv_iconst (v := 0) hx hb dX6_set_36 (by decide) ?_
    exact W.zret (v := 0) (ty := .boolean) hx hb hr (by decide) (fun t ht hW => ⟨⟨0, F165, rfl, ⟨(by decide), (fun q => absurd (by decide) q), hI, hfr⟩, by rw [ht]; exact hP, va_K.moved hW.alike hK⟩, hS.F ht⟩) hS.2.2 dX6_set_37

set_option maxHeartbeats 4000000 in
set_option maxRecDepth 100000 in
theorem s_X6_begin (l : Launch) (dC : Nat → ClassId) (dI : Nat → Nat → Nat) (sz : Nat) {L : List Nat} {K : Nat → Nat} {cs : Nat → ClassId} (hLK : ∀ a {k : Nat}, K a = k → k ≠ 0 → a ∈ L) (D : Nat) (F : Nat → va_E) (a0 : Nat) (ha0 : K a0 = 7) (hI : s_I K cs D F) : Met l yX6_begin (Cond.code yX6_begin cX6_begin 1 (some .boolean) :: T0) ({ frames := 4, cells := 0, slots := 0, locals := 123 }) (va_Pc [.ref a0] (s_W dC dI sz L F [(cs 0, .int), (cs 1, .byte), (cs 2, .long), (cs 3, .object RX5), (cs 4, .object RX4), (cs 5, .array .int), (cs 6, .char), (cs 7, .boolean)])) (va_Qi (fun (r : Int32) (G : Nat → va_E) => (0 ≤ r.toInt ∧ r.toInt ≤ 1) ∧ True ∧ s_I K cs D G ∧ ∀ b, K b ∉ [1, 5, 6, 7, 24, 27, 28, 29, 30, 31, 32, 39] → G b = F b) (fun (G : Nat → va_E) (t : State) => va_P (dC, dI) vwCl (va_pl L G) t.heap ∧ va_K (dC, dI) vwCl [(cs 0, .int), (cs 1, .byte), (cs 2, .long), (cs 3, .object RX5), (cs 4, .object RX4), (cs 5, .array .int), (cs 6, .char), (cs 7, .boolean)] t) (fun q => q ∈ L)) 0 0 (fun q => q ∈ L) := by
  refine Met.ofW (cc := cX6_begin) (maxL := 1) (ret := (some .boolean)) (by decide) rfl ?_
  intro p e s m args below meth c s₁ B hml hv
  obtain ⟨rfl, hsz, hP, hK, hD, hN⟩ := hv
  have hx := B.exec
  have hb := B.bytes
  have hr := B.returns
  have hts : ∀ w ∈ T0, w.before _ s = true := fun w h => atoms_spec (ws := Cond.code yX6_begin cX6_begin 1 (some .boolean) :: T0) B.pre w (List.mem_cons_of_mem _ h)
  have hown : s.vm.findClass RX6 = some m.cls := findClass_of_methodNamed B.named
  have hlocks := B.notSynchronized
  have hS : va_S (fun q => q ∈ L) s.heap s.heap [] := va_S.rf
  have hfr : ∀ b, K b ∉ [1, 5, 6, 7, 24, 27, 28, 29, 30, 31, 32, 39] → F b = F b := fun _ _ => rfl
  have hl := lv_entry ([.ref a0]) (n := 1) (Nat.le_of_ble_eq_true rfl)
  rw [lg_entry_eq]
  generalize (lg_sl ([.ref a0]) ++ List.replicate (1 - (lg_sl ([.ref a0])).length) Slot.unset).toArray = ls at hl ⊢
  have hl : lv_has ls 1 [(0, .ref a0)] := hl
  refine s_gen hP hS (fun H locs hP hS => ?_)
  refine lv_aload_n hx hb dX6_begin_0 rfl (lv_at hl 0 rfl) ?_
  obtain ⟨z1, z3, z5, z7, z9, z11, z12, z14, z16, z18, z20, z22, z24, z26, o27, h2, h4, h6, h8, h10, h13, h15, h17, h19, h21, h23, h25, -⟩ := s_op7 hI ha0
  refine th_get (D := (dC, dI)) (ci := 6) (v := .int z11) (C := RX6) (T := TX6) (N := 14) hx hb hts inX6 hown hK hP (hLK _ ha0 (by decide)) o27 rfl 5 (by decide) (hts _ T_224) (fun _ h9 => h9) rfl dX6_begin_1 ?_
  refine lv_if_ne (tgt := 15) hx hb dX6_begin_4 (by decide) (fun c28 => ?_) (fun c28 => ?_)
  · have c28 := mt (ax_eq (n := 0) (by decide)).mpr c28
    refine lv_aload_n hx hb dX6_begin_15 rfl (lv_at hl 0 rfl) ?_
    refine va_callv (va_runV (As := []) (rest := []) ⟨hx, hb, hml, hown, hts⟩ (s_X6_keepForUndo l dC dI H.size hLK D F a0 ha0 hI) (cwV 0 hts (ax_gV T_906 T_908 T_909 T_193 T_907) rfl rfl rfl (by decide +kernel) ⟨Nat.le_of_ble_eq_true rfl, Nat.le_of_ble_eq_true rfl⟩) ⟨fun a U g mk q => ⟨q.1, s_pc rfl rfl q.2⟩, s_recv hK hP (hLK _ ha0 (by decide)) (ci := 6) rfl o27, fun U hU hW => ⟨rfl, s_pw hU hW hP hK hD hN⟩⟩ rfl rfl hl.1 rfl (lv_room (Nat.le_of_ble_eq_true rfl)) dX6_begin_16 ⟨Nat.zero_le _, Nat.zero_le _⟩) hS (fun q _ h => h) (fun q h => h) (fun F29 t H1 locs ht hvm hw hB hz1 hk1 hS => ?_)
    obtain ⟨hP, hK1⟩ := hB
    rw [ht] at hP
    generalize H1 = H at hP hS ⊢
    obtain ⟨h30, h31, hI, hfr1⟩ := hw
    have hfr : ∀ b, K b ∉ [1, 5, 6, 7, 24, 27, 28, 29, 30, 31, 32, 39] → F29 b = F b := fun b hb9 => (hfr1 b (fun q => hb9 (s_sub (by decide) q))).trans (hfr b hb9)
    refine lv_aload_n hx hb dX6_begin_19 rfl (lv_at hl 0 rfl) ?_
    obtain ⟨z32, z34, z36, z38, z40, z42, z43, z45, z47, z49, z51, z53, z55, z57, o58, h33, h35, h37, h39, h41, h44, h46, h48, h50, h52, h54, h56, -⟩ := s_op7 hI ha0
    refine th_get (D := (dC, dI)) (ci := 6) (v := .ref z43) (C := RX6) (T := TX6) (N := 14) hx hb hts inX6 hown hK hP (hLK _ ha0 (by decide)) o58 rfl 6 (by decide) (hts _ T_174) (fun _ h9 => h9) rfl dX6_begin_20 ?_
    refine lv_aload_n hx hb dX6_begin_23 rfl (lv_at hl 0 rfl) ?_
    refine th_get (D := (dC, dI)) (ci := 6) (v := .ref z38) (C := RX6) (T := TX6) (N := 14) hx hb hts inX6 hown hK hP (hLK _ ha0 (by decide)) o58 rfl 3 (by decide) (hts _ T_170) (fun _ h9 => h9) rfl dX6_begin_24 ?_
    obtain ⟨z59, z61, z63, z65, z67, z69, z71, z73, z75, z76, z77, z79, z80, z82, z83, o85, h60, h62, h64, h66, h68, h70, h72, h74, h78, h81, h84, -⟩ := s_op5 hI h44
    refine va_callv (va_runV (As := [.ref z38]) (rest := []) ⟨hx, hb, hml, hown, hts⟩ (s_X4_restart l dC dI H.size hLK D F29 z43 z38 h44 h39 hI) (cwV 1 hts (ax_gV T_910 T_556 T_557 T_142 T_555) rfl rfl rfl (by decide +kernel) ⟨Nat.le_of_ble_eq_true rfl, Nat.le_of_ble_eq_true rfl⟩) ⟨fun a U g mk q => ⟨q.1, s_pc rfl rfl q.2⟩, s_recv hK hP (hLK _ h44 (by decide)) (ci := 4) rfl o85, fun U hU hW => ⟨rfl, s_pw hU hW hP hK hD hN⟩⟩ rfl rfl hl.1 rfl (lv_room (Nat.le_of_ble_eq_true rfl)) dX6_begin_27 ⟨Nat.zero_le _, Nat.zero_le _⟩) hS (fun q _ h => h) (fun q h => h) (fun F86 t H1 locs ht hvm hw hB hz1 hk1 hS => ?_)
    obtain ⟨hP, hK1⟩ := hB
    rw [ht] at hP
    generalize H1 = H at hP hS ⊢
    obtain ⟨h87, h88, hI, hfr1⟩ := hw
    have o89 : F86 a0 = .inr (6, [.ref z32, .int z34, .ref z36, .ref z38, .ref z40, .int z42, .ref z43, .ref z45, .int z47, .int z49, .ref z51, .ref z53, .ref z55, .long z57]) := (hfr1 _ (by rw [ha0]; decide)).trans o58
    have hfr : ∀ b, K b ∉ [1, 5, 6, 7, 24, 27, 28, 29, 30, 31, 32, 39] → F86 b = F b := fun b hb9 => (hfr1 b (fun q => hb9 (s_sub (by decide) q))).trans (hfr b hb9)
    refine lv_iconst (v := 1) hx hb dX6_begin_30 (by decide) ?_
    exact W.zret (v := 1) (ty := .boolean) hx hb hr (by decide) (fun t ht hW => ⟨⟨1, F86, rfl, ⟨(by decide), trivial, hI, hfr⟩, by rw [ht]; exact hP, va_K.moved hW.alike hK⟩, hS.F ht⟩) hS.2.2 dX6_begin_31
  · have c28 := (ax_eq (n := 0) (by decide)).mp c28
    refine lv_aload_n hx hb dX6_begin_7 rfl (lv_at hl 0 rfl) ?_
    refine lv_iconst (v := 3) hx hb dX6_begin_8 (by decide) ?_
    refine va_calli (va_runV (As := [.int 3]) (rest := []) ⟨hx, hb, hml, hown, hts⟩ (s_X6_refuse l dC dI H.size hLK D F a0 3 ha0 (by decide) hI) (cwV 1 hts (ax_gV T_194 T_195 T_196 T_193 T_10) rfl rfl rfl (by decide +kernel) ⟨Nat.le_of_ble_eq_true rfl, Nat.le_of_ble_eq_true rfl⟩) ⟨fun a U g mk q => ⟨q.1, s_pc rfl rfl q.2⟩, s_recv hK hP (hLK _ ha0 (by decide)) (ci := 6) rfl o27, fun U hU hW => ⟨rfl, s_pw hU hW hP hK hD hN⟩⟩ rfl rfl hl.1 rfl (lv_room (Nat.le_of_ble_eq_true rfl)) dX6_begin_9 ⟨Nat.zero_le _, Nat.zero_le _⟩) hS (fun q _ h => h) (fun q h => h) (fun r90 F91 t H1 locs ht hvm hw hB hz1 hk1 hS => ?_)
    obtain ⟨hP, hK1⟩ := hB
    rw [ht] at hP
    generalize H1 = H at hP hS ⊢
    obtain ⟨h92, h93, hI, hfr1⟩ := hw
    have o94 : F91 a0 = .inr (6, [.ref z1, .int z3, .ref z5, .ref z7, .ref z9, .int z11, .ref z12, .ref z14, .int z16, .int z18, .ref z20, .ref z22, .ref z24, .long z26]) := (hfr1 _ (by rw [ha0]; decide)).trans o27
    have hfr : ∀ b, K b ∉ [1, 5, 6, 7, 24, 27, 28, 29, 30, 31, 32, 39] → F91 b = F b := fun b hb9 => (hfr1 b (fun q => hb9 (s_sub (by decide) q))).trans (hfr b hb9)
    refine lv_pop hx hb dX6_begin_12 rfl ?_
    refine lv_iconst (v := 0) hx hb dX6_begin_13 (by decide) ?_
    exact W.zret (v := 0) (ty := .boolean) hx hb hr (by decide) (fun t ht hW => ⟨⟨0, F91, rfl, ⟨(by decide), trivial, hI, hfr⟩, by rw [ht]; exact hP, va_K.moved hW.alike hK⟩, hS.F ht⟩) hS.2.2 dX6_begin_14

set_option maxHeartbeats 4000000 in
set_option maxRecDepth 100000 in
theorem s_X6_undo (l : Launch) (dC : Nat → ClassId) (dI : Nat → Nat → Nat) (sz : Nat) {L : List Nat} {K : Nat → Nat} {cs : Nat → ClassId} (hLK : ∀ a {k : Nat}, K a = k → k ≠ 0 → a ∈ L) (D : Nat) (F : Nat → va_E) (a0 : Nat) (ha0 : K a0 = 7) (hI : s_I K cs D F) : Met l yX6_undo (Cond.code yX6_undo cX6_undo 1 (some .boolean) :: T0) ({ frames := 3, cells := 0, slots := 0, locals := 103 }) (va_Pc [.ref a0] (s_W dC dI sz L F [(cs 0, .int), (cs 1, .byte), (cs 2, .long), (cs 3, .object RX5), (cs 4, .object RX4), (cs 5, .array .int), (cs 6, .char), (cs 7, .boolean)])) (va_Qi (fun (r : Int32) (G : Nat → va_E) => (0 ≤ r.toInt ∧ r.toInt ≤ 1) ∧ True ∧ s_I K cs D G ∧ ∀ b, K b ∉ [1, 5, 6, 7, 24, 27, 28, 29, 30, 31, 32, 39] → G b = F b) (fun (G : Nat → va_E) (t : State) => va_P (dC, dI) vwCl (va_pl L G) t.heap ∧ va_K (dC, dI) vwCl [(cs 0, .int), (cs 1, .byte), (cs 2, .long), (cs 3, .object RX5), (cs 4, .object RX4), (cs 5, .array .int), (cs 6, .char), (cs 7, .boolean)] t) (fun q => q ∈ L)) 0 0 (fun q => q ∈ L) := by
  refine Met.ofW (cc := cX6_undo) (maxL := 1) (ret := (some .boolean)) (by decide) rfl ?_
  intro p e s m args below meth c s₁ B hml hv
  obtain ⟨rfl, hsz, hP, hK, hD, hN⟩ := hv
  have hx := B.exec
  have hb := B.bytes
  have hr := B.returns
  have hts : ∀ w ∈ T0, w.before _ s = true := fun w h => atoms_spec (ws := Cond.code yX6_undo cX6_undo 1 (some .boolean) :: T0) B.pre w (List.mem_cons_of_mem _ h)
  have hown : s.vm.findClass RX6 = some m.cls := findClass_of_methodNamed B.named
  have hlocks := B.notSynchronized
  have hS : va_S (fun q => q ∈ L) s.heap s.heap [] := va_S.rf
  have hfr : ∀ b, K b ∉ [1, 5, 6, 7, 24, 27, 28, 29, 30, 31, 32, 39] → F b = F b := fun _ _ => rfl
  have hl := lv_entry ([.ref a0]) (n := 1) (Nat.le_of_ble_eq_true rfl)
  rw [lg_entry_eq]
  generalize (lg_sl ([.ref a0]) ++ List.replicate (1 - (lg_sl ([.ref a0])).length) Slot.unset).toArray = ls at hl ⊢
  have hl : lv_has ls 1 [(0, .ref a0)] := hl
  refine s_gen hP hS (fun H locs hP hS => ?_)
  refine lv_aload_n hx hb dX6_undo_0 rfl (lv_at hl 0 rfl) ?_
  obtain ⟨z1, z3, z5, z7, z9, z11, z12, z14, z16, z18, z20, z22, z24, z26, o27, h2, h4, h6, h8, h10, h13, h15, h17, h19, h21, h23, h25, -⟩ := s_op7 hI ha0
  refine th_get (D := (dC, dI)) (ci := 6) (v := .int z18) (C := RX6) (T := TX6) (N := 14) hx hb hts inX6 hown hK hP (hLK _ ha0 (by decide)) o27 rfl 9 (by decide) (hts _ T_238) (fun _ h9 => h9) rfl dX6_undo_1 ?_
  refine lv_if_ne (tgt := 15) hx hb dX6_undo_4 (by decide) (fun c28 => ?_) (fun c28 => ?_)
  · have c28 := mt (ax_eq (n := 0) (by decide)).mpr c28
    refine lv_aload_n hx hb dX6_undo_15 rfl (lv_at hl 0 rfl) ?_
    refine lv_dup hx hb dX6_undo_16 rfl ?_
    refine th_get (D := (dC, dI)) (ci := 6) (v := .int z18) (C := RX6) (T := TX6) (N := 14) hx hb hts inX6 hown hK hP (hLK _ ha0 (by decide)) o27 rfl 9 (by decide) (hts _ T_238) (fun _ h9 => h9) rfl dX6_undo_17 ?_
    refine lv_iconst (v := 1) hx hb dX6_undo_20 (by decide) ?_
    refine lv_isub hx hb dX6_undo_21 ?_
    refine lv_topi (fun v29 ev29 => ?_)
    have qv29 : v29.toInt = z18.toInt - 1 := by rw [ev29]; exact th_sub rfl (by decide) ⟨by omega, by omega⟩
    refine th_put (D := (dC, dI)) (ci := 6) (v := .int v29) (ty := .int) (C := RX6) (T := TX6) (N := 14) hx hb hts inX6 tyX6 tyX6_ok nmX6 hown hK hP hD hS (hLK _ ha0 (by decide)) o27 rfl 9 (by decide) (hts _ T_238) (fun _ h9 => h9) rfl (by decide +kernel) rfl rfl (Nat.le_of_ble_eq_true rfl) dX6_undo_22 (fun H locs hP hS => ?_)
    have hP : va_P (dC, dI) vwCl (va_pl L (va_up F a0 (.inr (6, [.ref z1, .int z3, .ref z5, .ref z7, .ref z9, .int z11, .ref z12, .ref z14, .int z16, .int v29, .ref z20, .ref z22, .ref z24, .long z26])))) H := hP
    obtain ⟨F30, hF31⟩ : ∃ G : Nat → va_E, G = va_up F a0 (.inr (6, [.ref z1, .int z3, .ref z5, .ref z7, .ref z9, .int z11, .ref z12, .ref z14, .int z16, .int v29, .ref z20, .ref z22, .ref z24, .long z26])) := ⟨_, rfl⟩
    rw [← hF31] at hP
    have hI : s_I K cs D F30 := by rw [hF31]; exact s_cl7 hI ha0 ⟨z1, z3, z5, z7, z9, z11, z12, z14, z16, v29, z20, z22, z24, z26, rfl, h2, ⟨by omega, by omega⟩, h6, h8, h10, h13, h15, ⟨by omega, by omega⟩, ⟨by omega, by omega⟩, h21, h23, h25, trivial⟩
    have hfr : ∀ b, K b ∉ [1, 5, 6, 7, 24, 27, 28, 29, 30, 31, 32, 39] → F30 b = F b := by rw [hF31]; exact s_fr hfr ha0 (by decide)
    have o32 : F30 a0 = .inr (6, [.ref z1, .int z3, .ref z5, .ref z7, .ref z9, .int z11, .ref z12, .ref z14, .int z16, .int v29, .ref z20, .ref z22, .ref z24, .long z26]) := by rw [hF31]; exact th_up
    refine lv_aload_n hx hb dX6_undo_25 rfl (lv_at hl 0 rfl) ?_
    refine th_get (D := (dC, dI)) (ci := 6) (v := .ref z12) (C := RX6) (T := TX6) (N := 14) hx hb hts inX6 hown hK hP (hLK _ ha0 (by decide)) o32 rfl 6 (by decide) (hts _ T_174) (fun _ h9 => h9) rfl dX6_undo_26 ?_
    refine lv_aload_n hx hb dX6_undo_29 rfl (lv_at hl 0 rfl) ?_
    refine th_get (D := (dC, dI)) (ci := 6) (v := .ref z14) (C := RX6) (T := TX6) (N := 14) hx hb hts inX6 hown hK hP (hLK _ ha0 (by decide)) o32 rfl 7 (by decide) (hts _ T_175) (fun _ h9 => h9) rfl dX6_undo_30 ?_
    refine lv_aload_n hx hb dX6_undo_33 rfl (lv_at hl 0 rfl) ?_
    refine th_get (D := (dC, dI)) (ci := 6) (v := .int z16) (C := RX6) (T := TX6) (N := 14) hx hb hts inX6 hown hK hP (hLK _ ha0 (by decide)) o32 rfl 8 (by decide) (hts _ T_950) (fun _ h9 => h9) rfl dX6_undo_34 ?_
    refine lv_aload_n hx hb dX6_undo_37 rfl (lv_at hl 0 rfl) ?_
    refine th_get (D := (dC, dI)) (ci := 6) (v := .int v29) (C := RX6) (T := TX6) (N := 14) hx hb hts inX6 hown hK hP (hLK _ ha0 (by decide)) o32 rfl 9 (by decide) (hts _ T_238) (fun _ h9 => h9) rfl dX6_undo_38 ?_
    refine lv_iadd hx hb dX6_undo_41 ?_
    refine lv_topi (fun v33 ev33 => ?_)
    have qv33 : v33.toInt = z16.toInt + v29.toInt := by rw [ev33]; exact th_add rfl rfl ⟨by omega, by omega⟩
    refine lv_bipush (v := 20) hx hb dX6_undo_42 (by decide) ?_
    refine lv_irem hx hb dX6_undo_44 (by decide) ?_
    refine lv_topi (fun v34 ev34 => ?_)
    have qv34 : v34.toInt = v33.toInt % 20 := by rw [ev34]; exact th_rem rfl (by decide) (by omega) (by decide)
    obtain ⟨f35, o36, h37⟩ := s_op33 hI h15
    obtain ⟨z38, o40, h39⟩ := h37 (v34 : Int32).toNatClampNeg (th_cl ⟨by omega, by omega⟩)
    refine th_aald hx hb hK hP (hLK _ h15 (by decide)) 4 o36 rfl (th_in ⟨by omega, by omega⟩) o40 dX6_undo_45 ?_
    obtain ⟨z41, z43, z45, z47, z49, z51, z53, z55, z57, z58, z59, z61, z62, z64, z65, o67, h42, h44, h46, h48, h50, h52, h54, h56, h60, h63, h66, -⟩ := s_op5 hI h13
    refine va_callv (va_runV (As := [.ref z38]) (rest := []) ⟨hx, hb, hml, hown, hts⟩ (s_X4_copyFrom l dC dI H.size hLK D F30 z12 z38 h13 h39 hI) (cwV 1 hts (ax_gV T_951 T_560 T_561 T_142 T_559) rfl rfl rfl (by decide +kernel) ⟨Nat.le_of_ble_eq_true rfl, Nat.le_of_ble_eq_true rfl⟩) ⟨fun a U g mk q => ⟨q.1, s_pc rfl rfl q.2⟩, s_recv hK hP (hLK _ h13 (by decide)) (ci := 4) rfl o67, fun U hU hW => ⟨rfl, s_pw hU hW hP hK hD hN⟩⟩ rfl rfl hl.1 rfl (lv_room (Nat.le_of_ble_eq_true rfl)) dX6_undo_46 ⟨Nat.zero_le _, Nat.zero_le _⟩) hS (fun q _ h => h) (fun q h => h) (fun F68 t H1 locs ht hvm hw hB hz1 hk1 hS => ?_)
    obtain ⟨hP, hK1⟩ := hB
    rw [ht] at hP
    generalize H1 = H at hP hS ⊢
    obtain ⟨h69, h70, hI, hfr1⟩ := hw
    have o71 : F68 a0 = .inr (6, [.ref z1, .int z3, .ref z5, .ref z7, .ref z9, .int z11, .ref z12, .ref z14, .int z16, .int v29, .ref z20, .ref z22, .ref z24, .long z26]) := (hfr1 _ (by rw [ha0]; decide)).trans o32
    have hfr : ∀ b, K b ∉ [1, 5, 6, 7, 24, 27, 28, 29, 30, 31, 32, 39] → F68 b = F b := fun b hb9 => (hfr1 b (fun q => hb9 (s_sub (by decide) q))).trans (hfr b hb9)
    refine lv_aload_n hx hb dX6_undo_49 rfl (lv_at hl 0 rfl) ?_
    refine th_get (D := (dC, dI)) (ci := 6) (v := .ref z22) (C := RX6) (T := TX6) (N := 14) hx hb hts inX6 hown hK hP (hLK _ ha0 (by decide)) o71 rfl 11 (by decide) (hts _ T_182) (fun _ h9 => h9) rfl dX6_undo_50 ?_
    obtain ⟨z72, z74, z76, z78, z80, z82, z83, z85, z86, z88, z89, z91, z92, z93, o95, h73, h75, h77, h79, h81, h84, h87, h90, h94, -⟩ := s_op1 hI h23
    refine va_callv (va_runV (As := []) (rest := []) ⟨hx, hb, hml, hown, hts⟩ (s_X0_forgetAhead l dC dI H.size hLK D F68 z22 h23 hI) (cwV 0 hts (ax_gV T_952 T_954 T_955 T_180 T_953) rfl rfl rfl (by decide +kernel) ⟨Nat.le_of_ble_eq_true rfl, Nat.le_of_ble_eq_true rfl⟩) ⟨fun a U g mk q => ⟨q.1, s_pc rfl rfl q.2⟩, s_recv hK hP (hLK _ h23 (by decide)) (ci := 0) rfl o95, fun U hU hW => ⟨rfl, s_pw hU hW hP hK hD hN⟩⟩ rfl rfl hl.1 rfl (lv_room (Nat.le_of_ble_eq_true rfl)) dX6_undo_53 ⟨Nat.zero_le _, Nat.zero_le _⟩) hS (fun q _ h => h) (fun q h => h) (fun F96 t H1 locs ht hvm hw hB hz1 hk1 hS => ?_)
    obtain ⟨hP, hK1⟩ := hB
    rw [ht] at hP
    generalize H1 = H at hP hS ⊢
    obtain ⟨h97, h98, hI, hfr1⟩ := hw
    have o99 : F96 a0 = .inr (6, [.ref z1, .int z3, .ref z5, .ref z7, .ref z9, .int z11, .ref z12, .ref z14, .int z16, .int v29, .ref z20, .ref z22, .ref z24, .long z26]) := (hfr1 _ (by rw [ha0]; decide)).trans o71
    have hfr : ∀ b, K b ∉ [1, 5, 6, 7, 24, 27, 28, 29, 30, 31, 32, 39] → F96 b = F b := fun b hb9 => (hfr1 b (fun q => hb9 (s_sub (by decide) q))).trans (hfr b hb9)
    refine lv_iconst (v := 1) hx hb dX6_undo_56 (by decide) ?_
    exact W.zret (v := 1) (ty := .boolean) hx hb hr (by decide) (fun t ht hW => ⟨⟨1, F96, rfl, ⟨(by decide), trivial, hI, hfr⟩, by rw [ht]; exact hP, va_K.moved hW.alike hK⟩, hS.F ht⟩) hS.2.2 dX6_undo_57
  · have c28 := (ax_eq (n := 0) (by decide)).mp c28
    refine lv_aload_n hx hb dX6_undo_7 rfl (lv_at hl 0 rfl) ?_
    refine lv_iconst (v := 4) hx hb dX6_undo_8 (by decide) ?_
    refine va_calli (va_runV (As := [.int 4]) (rest := []) ⟨hx, hb, hml, hown, hts⟩ (s_X6_refuse l dC dI H.size hLK D F a0 4 ha0 (by decide) hI) (cwV 1 hts (ax_gV T_194 T_195 T_196 T_193 T_10) rfl rfl rfl (by decide +kernel) ⟨Nat.le_of_ble_eq_true rfl, Nat.le_of_ble_eq_true rfl⟩) ⟨fun a U g mk q => ⟨q.1, s_pc rfl rfl q.2⟩, s_recv hK hP (hLK _ ha0 (by decide)) (ci := 6) rfl o27, fun U hU hW => ⟨rfl, s_pw hU hW hP hK hD hN⟩⟩ rfl rfl hl.1 rfl (lv_room (Nat.le_of_ble_eq_true rfl)) dX6_undo_9 ⟨Nat.zero_le _, Nat.zero_le _⟩) hS (fun q _ h => h) (fun q h => h) (fun r100 F101 t H1 locs ht hvm hw hB hz1 hk1 hS => ?_)
    obtain ⟨hP, hK1⟩ := hB
    rw [ht] at hP
    generalize H1 = H at hP hS ⊢
    obtain ⟨h102, h103, hI, hfr1⟩ := hw
    have o104 : F101 a0 = .inr (6, [.ref z1, .int z3, .ref z5, .ref z7, .ref z9, .int z11, .ref z12, .ref z14, .int z16, .int z18, .ref z20, .ref z22, .ref z24, .long z26]) := (hfr1 _ (by rw [ha0]; decide)).trans o27
    have hfr : ∀ b, K b ∉ [1, 5, 6, 7, 24, 27, 28, 29, 30, 31, 32, 39] → F101 b = F b := fun b hb9 => (hfr1 b (fun q => hb9 (s_sub (by decide) q))).trans (hfr b hb9)
    refine lv_pop hx hb dX6_undo_12 rfl ?_
    refine lv_iconst (v := 0) hx hb dX6_undo_13 (by decide) ?_
    exact W.zret (v := 0) (ty := .boolean) hx hb hr (by decide) (fun t ht hW => ⟨⟨0, F101, rfl, ⟨(by decide), trivial, hI, hfr⟩, by rw [ht]; exact hP, va_K.moved hW.alike hK⟩, hS.F ht⟩) hS.2.2 dX6_undo_14

set_option maxHeartbeats 4000000 in
set_option maxRecDepth 100000 in
theorem s_X6_chance (l : Launch) (dC : Nat → ClassId) (dI : Nat → Nat → Nat) (sz : Nat) {L : List Nat} {K : Nat → Nat} {cs : Nat → ClassId} (hLK : ∀ a {k : Nat}, K a = k → k ≠ 0 → a ∈ L) (D : Nat) (Dm : Nat) (hDm : D + 8421 ≤ Dm) (hDM : Dm < 2147483647) (F : Nat → va_E) (a0 : Nat) (x1 : Int32) (ha0 : K a0 = 7) (hI : s_I K cs D F) (hPG : s_PG K cs F) : Met l yX6_chance (Cond.code yX6_chance cX6_chance 6 (some .int) :: T0) ({ frames := 6, cells := 0, slots := 0, locals := 137 }) (va_Pc [.ref a0, .int x1] (s_W dC dI sz L F [(cs 0, .int), (cs 1, .byte), (cs 2, .long), (cs 3, .object RX5), (cs 4, .object RX4), (cs 5, .array .int), (cs 6, .char), (cs 7, .boolean)])) (va_Qi (fun (r : Int32) (G : Nat → va_E) => True ∧ True ∧ s_I K cs Dm G ∧ ∀ b, K b ∉ [1, 2, 5, 6, 7, 24, 27, 28, 29, 30, 31, 32, 34, 35, 39] → G b = F b) (fun (G : Nat → va_E) (t : State) => va_P (dC, dI) vwCl (va_pl L G) t.heap ∧ va_K (dC, dI) vwCl [(cs 0, .int), (cs 1, .byte), (cs 2, .long), (cs 3, .object RX5), (cs 4, .object RX4), (cs 5, .array .int), (cs 6, .char), (cs 7, .boolean)] t) (fun q => q ∈ L)) 0 0 (fun q => q ∈ L) := by
  refine Met.ofW (cc := cX6_chance) (maxL := 6) (ret := (some .int)) (by decide) rfl ?_
  intro p e s m args below meth c s₁ B hml hv
  obtain ⟨rfl, hsz, hP, hK, hD, hN⟩ := hv
  have hx := B.exec
  have hb := B.bytes
  have hr := B.returns
  have hts : ∀ w ∈ T0, w.before _ s = true := fun w h => atoms_spec (ws := Cond.code yX6_chance cX6_chance 6 (some .int) :: T0) B.pre w (List.mem_cons_of_mem _ h)
  have hown : s.vm.findClass RX6 = some m.cls := findClass_of_methodNamed B.named
  have hlocks := B.notSynchronized
  have hS : va_S (fun q => q ∈ L) s.heap s.heap [] := va_S.rf
  have hfr : ∀ b, K b ∉ [1, 2, 5, 6, 7, 24, 27, 28, 29, 30, 31, 32, 34, 35, 39] → F b = F b := fun _ _ => rfl
  have hl := lv_entry ([.ref a0, .int x1]) (n := 6) (Nat.le_of_ble_eq_true rfl)
  rw [lg_entry_eq]
  generalize (lg_sl ([.ref a0, .int x1]) ++ List.replicate (6 - (lg_sl ([.ref a0, .int x1])).length) Slot.unset).toArray = ls at hl ⊢
  have hl : lv_has ls 6 [(0, .ref a0), (1, .int x1)] := hl
  have hI0 := hI
  refine s_gen hP hS (fun H locs hP hS => ?_)
  refine th_join (fun g H locs => ∃ (G : Nat → va_E) (ls : Array Slot) (Dn : Nat), g = F0 m 18 ls [] ∧ lv_has ls 6 [(0, .ref a0)] ∧ Dn + 0 ≤ Dm ∧ s_I K cs Dn G ∧ va_P (dC, dI) vwCl (va_pl L G) H ∧ va_S (fun q => q ∈ L) s.heap H locs ∧ (∀ b, K b ∉ [1, 2, 5, 6, 7, 24, 27, 28, 29, 30, 31, 32, 34, 35, 39] → G b = F b)) (fun K18 => ?_) ?_
  · refine lv_aload_n hx hb dX6_chance_0 rfl (lv_at hl 0 rfl) ?_
    obtain ⟨z1, z3, z5, z7, z9, z11, z12, z14, z16, z18, z20, z22, z24, z26, o27, h2, h4, h6, h8, h10, h13, h15, h17, h19, h21, h23, h25, -⟩ := s_op7 hI ha0
    refine th_get (D := (dC, dI)) (ci := 6) (v := .int z11) (C := RX6) (T := TX6) (N := 14) hx hb hts inX6 hown hK hP (hLK _ ha0 (by decide)) o27 rfl 5 (by decide) (hts _ T_224) (fun _ h9 => h9) rfl dX6_chance_1 ?_
    refine lv_if_eq (tgt := 18) hx hb dX6_chance_4 (by decide) (fun c28 => ?_) (fun c28 => ?_)
    · have c28 := (ax_eq (n := 0) (by decide)).mp c28
      exact K18 _ _ _ ⟨F, _, D, rfl, lv_sub hl [0] rfl, by omega, hI, hP, hS, hfr⟩
    · have c28 := mt (ax_eq (n := 0) (by decide)).mpr c28
      refine lv_iload_n hx hb dX6_chance_7 rfl (lv_at hl 1 rfl) ?_
      refine lv_iconst (v := 1) hx hb dX6_chance_8 (by decide) ?_
      refine lv_icmp_lt (tgt := 18) hx hb dX6_chance_9 (by decide) (fun c29 => ?_) (fun c29 => ?_)
      · have c29 := (ax_lt (n := 1) (by decide)).mp c29
        exact K18 _ _ _ ⟨F, _, D, rfl, lv_sub hl [0] rfl, by omega, hI, hP, hS, hfr⟩
      · have c29 := mt (ax_lt (n := 1) (by decide)).mpr c29
        refine lv_iload_n hx hb dX6_chance_12 rfl (lv_at hl 1 rfl) ?_
        refine lv_bipush (v := 20) hx hb dX6_chance_13 (by decide) ?_
        refine lv_icmp_le (tgt := 24) hx hb dX6_chance_15 (by decide) (fun c30 => ?_) (fun c30 => ?_)
        · have c30 := (ax_le (n := 20) (by decide)).mp c30
          refine lv_aload_n hx hb dX6_chance_24 rfl (lv_at hl 0 rfl) ?_
          refine va_callv (va_runV (As := []) (rest := []) ⟨hx, hb, hml, hown, hts⟩ (s_X6_keepForUndo l dC dI H.size hLK D F a0 ha0 hI) (cwV 0 hts (ax_gV T_906 T_908 T_909 T_193 T_907) rfl rfl rfl (by decide +kernel) ⟨Nat.le_of_ble_eq_true rfl, Nat.le_of_ble_eq_true rfl⟩) ⟨fun a U g mk q => ⟨q.1, s_pc rfl rfl q.2⟩, s_recv hK hP (hLK _ ha0 (by decide)) (ci := 6) rfl o27, fun U hU hW => ⟨rfl, s_pw hU hW hP hK hD hN⟩⟩ rfl rfl hl.1 rfl (lv_room (Nat.le_of_ble_eq_true rfl)) dX6_chance_25 ⟨Nat.zero_le _, Nat.zero_le _⟩) hS (fun q _ h => h) (fun q h => h) (fun F31 t H1 locs ht hvm hw hB hz1 hk1 hS => ?_)
          obtain ⟨hP, hK1⟩ := hB
          rw [ht] at hP
          generalize H1 = H at hP hS ⊢
          obtain ⟨h32, h33, hI, hfr1⟩ := hw
          have hfr : ∀ b, K b ∉ [1, 2, 5, 6, 7, 24, 27, 28, 29, 30, 31, 32, 34, 35, 39] → F31 b = F b := fun b hb9 => (hfr1 b (fun q => hb9 (s_sub (by decide) q))).trans (hfr b hb9)
          refine lv_iconst (v := 0) hx hb dX6_chance_28 (by decide) ?_
          refine lv_istore_n (lv' := [(2, .int 0), (0, .ref a0), (1, .int x1)]) hx hb dX6_chance_29 rfl hl (by decide) rfl (fun ls hl => ?_)
          refine lv_iconst (v := 0) hx hb dX6_chance_30 (by decide) ?_
          refine lv_istore_n (lv' := [(3, .int 0), (2, .int 0), (0, .ref a0), (1, .int x1)]) hx hb dX6_chance_31 rfl hl (by decide) rfl (fun ls hl => ?_)
          refine th_loop (fun n g H locs => ∃ (G : Nat → va_E) (ls : Array Slot) (Dn : Nat) (w34 : Int32) (w35 : Int32), g = F0 m 32 ls [] ∧ lv_has ls 6 [(0, .ref a0), (1, .int x1), (2, .int w34), (3, .int w35)] ∧ Dn + 401 * n + 0 ≤ Dm ∧ s_I K cs Dn G ∧ va_P (dC, dI) vwCl (va_pl L G) H ∧ va_S (fun q => q ∈ L) s.heap H locs ∧ (∀ b, K b ∉ [1, 2, 5, 6, 7, 24, 27, 28, 29, 30, 31, 32, 34, 35, 39] → G b = F b) ∧ True ∧ (0 ≤ w35.toInt ∧ w35.toInt ≤ 20) ∧ (1 ≤ x1.toInt ∧ x1.toInt ≤ 20) ∧ n = (21 - w35.toInt).toNat) _ ⟨F31, _, D, 0, 0, rfl, lv_sub hl [2, 3, 1, 0] rfl, by omega, hI, hP, hS, hfr, trivial, (by decide), ⟨by omega, by omega⟩, rfl⟩ (fun n ih32 g H locs hq => ?_)
          obtain ⟨F9, ls, D39, w34, w35, rfl, hl, h40, hI, hP, hS, hfr, h36, h37, h38, hn⟩ := hq
          have hn_32 := hn
          obtain ⟨n_32, hn9_32⟩ : ∃ q, q = n := ⟨_, rfl⟩
          refine lv_iload_n hx hb dX6_chance_32 rfl (lv_at hl 3 rfl) ?_
          refine lv_iload_n hx hb dX6_chance_33 rfl (lv_at hl 1 rfl) ?_
          refine lv_icmp_ge (tgt := 100) hx hb dX6_chance_34 (by decide) (fun c41 => ?_) (fun c41 => ?_)
          · have c41 := Int32.le_iff_toInt_le.mp c41
            refine lv_iload_n hx hb dX6_chance_100 rfl (lv_at hl 2 rfl) ?_
            exact W.iret (v := w34) hx hb hr (fun t ht hW => ⟨⟨w34, F9, rfl, ⟨trivial, trivial, (s_mono (by omega) hI), hfr⟩, by rw [ht]; exact hP, va_K.moved hW.alike hK⟩, hS.F ht⟩) hS.2.2 dX6_chance_101
          · have c41 := mt Int32.le_iff_toInt_le.mpr c41
            refine lv_aload_n hx hb dX6_chance_37 rfl (lv_at hl 0 rfl) ?_
            refine lv_bipush (v := 64) hx hb dX6_chance_38 (by decide) ?_
            obtain ⟨z42, z44, z46, z48, z50, z52, z53, z55, z57, z59, z61, z63, z65, z67, o68, h43, h45, h47, h49, h51, h54, h56, h58, h60, h62, h64, h66, -⟩ := s_op7 hI ha0
            refine va_calli (va_runV (As := [.int 64]) (rest := []) ⟨hx, hb, hml, hown, hts⟩ (s_X6_draw l dC dI H.size hLK D39 F9 a0 64 ha0 (by decide) hI) (cwV 1 hts (ax_gV T_925 T_927 T_928 T_193 T_926) rfl rfl rfl (by decide +kernel) ⟨Nat.le_of_ble_eq_true rfl, Nat.le_of_ble_eq_true rfl⟩) ⟨fun a U g mk q => ⟨q.1, s_pc rfl rfl q.2⟩, s_recv hK hP (hLK _ ha0 (by decide)) (ci := 6) rfl o68, fun U hU hW => ⟨rfl, s_pw hU hW hP hK hD hN⟩⟩ rfl rfl hl.1 rfl (lv_room (Nat.le_of_ble_eq_true rfl)) dX6_chance_40 ⟨Nat.zero_le _, Nat.zero_le _⟩) hS (fun q _ h => h) (fun q h => h) (fun r69 F70 t H1 locs ht hvm hw hB hz1 hk1 hS => ?_)
            obtain ⟨hP, hK1⟩ := hB
            rw [ht] at hP
            generalize H1 = H at hP hS ⊢
            obtain ⟨h71, h72, hI, hfr1⟩ := hw
            have hfr : ∀ b, K b ∉ [1, 2, 5, 6, 7, 24, 27, 28, 29, 30, 31, 32, 34, 35, 39] → F70 b = F b := fun b hb9 => (hfr1 b (fun q => hb9 (s_sub (by decide) q))).trans (hfr b hb9)
            obtain ⟨h72, h73⟩ := h72
            have h73 : (0 ≤ r69.toInt ∧ r69.toInt < 64) := h73
            refine lv_istore (lv' := [(4, .int r69), (0, .ref a0), (1, .int x1), (2, .int w34), (3, .int w35)]) hx hb dX6_chance_43 hl (by decide) rfl (fun ls hl => ?_)
            refine lv_aload_n hx hb dX6_chance_45 rfl (lv_at hl 1 rfl) ?_
            obtain ⟨z74, z76, z78, z80, z82, z84, z85, z87, z89, z91, z93, z95, z97, z99, o100, h75, h77, h79, h81, h83, h86, h88, h90, h92, h94, h96, h98, -⟩ := s_op7 hI ha0
            refine th_get (D := (dC, dI)) (ci := 6) (v := .ref z85) (C := RX6) (T := TX6) (N := 14) hx hb hts inX6 hown hK hP (hLK _ ha0 (by decide)) o100 rfl 6 (by decide) (hts _ T_174) (fun _ h9 => h9) rfl dX6_chance_46 ?_
            obtain ⟨z101, z103, z105, z107, z109, z111, z113, z115, z117, z118, z119, z121, z122, z124, z125, o127, h102, h104, h106, h108, h110, h112, h114, h116, h120, h123, h126, -⟩ := s_op5 hI h86
            refine th_getN (D := (dC, dI)) (ci := 4) (v := .ref z103) (C := RX4) (T := TX4) (N := 15) hx hb hts inX4 hown hK hP (hLK _ h86 (by decide)) o127 rfl 1 (by decide) (va_Nw.use rfl (ax_n58 hN)) (fun _ h9 => h9) rfl dX6_chance_49 ?_
            refine lv_iload hx hb dX6_chance_52 (lv_at hl 0 rfl) ?_
            refine lv_aload_n hx hb dX6_chance_54 rfl (lv_at hl 1 rfl) ?_
            refine lv_bipush (v := 16) hx hb dX6_chance_55 (by decide) ?_
            refine va_calli (va_runV (As := [.int 16]) (rest := [.int r69, .ref z103]) ⟨hx, hb, hml, hown, hts⟩ (s_X6_draw l dC dI H.size hLK D39 F70 a0 16 ha0 (by decide) hI) (cwV 1 hts (ax_gV T_925 T_927 T_928 T_193 T_926) rfl rfl rfl (by decide +kernel) ⟨Nat.le_of_ble_eq_true rfl, Nat.le_of_ble_eq_true rfl⟩) ⟨fun a U g mk q => ⟨q.1, s_pc rfl rfl q.2⟩, s_recv hK hP (hLK _ ha0 (by decide)) (ci := 6) rfl o100, fun U hU hW => ⟨rfl, s_pw hU hW hP hK hD hN⟩⟩ rfl rfl hl.1 rfl (lv_room (Nat.le_of_ble_eq_true rfl)) dX6_chance_57 ⟨Nat.zero_le _, Nat.zero_le _⟩) hS (fun q _ h => h) (fun q h => h) (fun r128 F129 t H1 locs ht hvm hw hB hz1 hk1 hS => ?_)
            obtain ⟨hP, hK1⟩ := hB
            rw [ht] at hP
            generalize H1 = H at hP hS ⊢
            obtain ⟨h130, h131, hI, hfr1⟩ := hw
            have o132 : F129 z85 = .inr (4, [.ref z101, .ref z103, .ref z105, .ref z107, .ref z109, .ref z111, .ref z113, .int z115, .int z117, .int z118, .int z119, .int z121, .int z122, .int z124, .int z125]) := (hfr1 _ (by rw [h86]; decide)).trans o127
            have hfr : ∀ b, K b ∉ [1, 2, 5, 6, 7, 24, 27, 28, 29, 30, 31, 32, 34, 35, 39] → F129 b = F b := fun b hb9 => (hfr1 b (fun q => hb9 (s_sub (by decide) q))).trans (hfr b hb9)
            obtain ⟨h131, h133⟩ := h131
            have h133 : (0 ≤ r128.toInt ∧ r128.toInt < 16) := h133
            obtain ⟨f134, o135, h136⟩ := s_op24 hI h104
            refine th_iast hx hb hK hP hD hS (hLK _ h104 (by decide)) 0 o135 rfl (th_in ⟨by omega, by omega⟩) dX6_chance_60 (fun H locs hP hS => ?_)
            have hP : va_P (dC, dI) vwCl (va_pl L (va_up F129 z103 (.inl (cs 0, 64, .inl (upd f134 (r69 : Int32).toNatClampNeg r128))))) H := hP
            obtain ⟨F137, hF138⟩ : ∃ G : Nat → va_E, G = va_up F129 z103 (.inl (cs 0, 64, .inl (upd f134 (r69 : Int32).toNatClampNeg r128))) := ⟨_, rfl⟩
            rw [← hF138] at hP
            have hI : s_I K cs D39 F137 := by rw [hF138]; exact s_cl24 hI h104 ⟨_, rfl, trivial⟩
            have hfr : ∀ b, K b ∉ [1, 2, 5, 6, 7, 24, 27, 28, 29, 30, 31, 32, 34, 35, 39] → F137 b = F b := by rw [hF138]; exact s_fr hfr h104 (by decide)
            have o139 : F137 z85 = .inr (4, [.ref z101, .ref z103, .ref z105, .ref z107, .ref z109, .ref z111, .ref z113, .int z115, .int z117, .int z118, .int z119, .int z121, .int z122, .int z124, .int z125]) := by rw [hF138]; exact th_ne (th_kd h86 h104 (by decide)) o132
            refine lv_aload_n hx hb dX6_chance_61 rfl (lv_at hl 1 rfl) ?_
            refine lv_bipush (v := 8) hx hb dX6_chance_62 (by decide) ?_
            obtain ⟨z140, z142, z144, z146, z148, z150, z151, z153, z155, z157, z159, z161, z163, z165, o166, h141, h143, h145, h147, h149, h152, h154, h156, h158, h160, h162, h164, -⟩ := s_op7 hI ha0
            refine va_calli (va_runV (As := [.int 8]) (rest := []) ⟨hx, hb, hml, hown, hts⟩ (s_X6_draw l dC dI H.size hLK D39 F137 a0 8 ha0 (by decide) hI) (cwV 1 hts (ax_gV T_925 T_927 T_928 T_193 T_926) rfl rfl rfl (by decide +kernel) ⟨Nat.le_of_ble_eq_true rfl, Nat.le_of_ble_eq_true rfl⟩) ⟨fun a U g mk q => ⟨q.1, s_pc rfl rfl q.2⟩, s_recv hK hP (hLK _ ha0 (by decide)) (ci := 6) rfl o166, fun U hU hW => ⟨rfl, s_pw hU hW hP hK hD hN⟩⟩ rfl rfl hl.1 rfl (lv_room (Nat.le_of_ble_eq_true rfl)) dX6_chance_64 ⟨Nat.zero_le _, Nat.zero_le _⟩) hS (fun q _ h => h) (fun q h => h) (fun r167 F168 t H1 locs ht hvm hw hB hz1 hk1 hS => ?_)
            obtain ⟨hP, hK1⟩ := hB
            rw [ht] at hP
            generalize H1 = H at hP hS ⊢
            obtain ⟨h169, h170, hI, hfr1⟩ := hw
            have o171 : F168 z85 = .inr (4, [.ref z101, .ref z103, .ref z105, .ref z107, .ref z109, .ref z111, .ref z113, .int z115, .int z117, .int z118, .int z119, .int z121, .int z122, .int z124, .int z125]) := (hfr1 _ (by rw [h86]; decide)).trans o139
            have hfr : ∀ b, K b ∉ [1, 2, 5, 6, 7, 24, 27, 28, 29, 30, 31, 32, 34, 35, 39] → F168 b = F b := fun b hb9 => (hfr1 b (fun q => hb9 (s_sub (by decide) q))).trans (hfr b hb9)
            obtain ⟨h170, h172⟩ := h170
            have h172 : (0 ≤ r167.toInt ∧ r167.toInt < 8) := h172
            refine lv_iconst (v := 1) hx hb dX6_chance_67 (by decide) ?_
            refine lv_iadd hx hb dX6_chance_68 ?_
            refine lv_topi (fun v173 ev173 => ?_)
            have qv173 : v173.toInt = r167.toInt + 1 := by rw [ev173]; exact th_add rfl (by decide) ⟨by omega, by omega⟩
            refine lv_istore (lv' := [(5, .int v173), (4, .int r69), (0, .ref a0), (1, .int x1), (2, .int w34), (3, .int w35)]) hx hb dX6_chance_69 hl (by decide) rfl (fun ls hl => ?_)
            refine lv_iload_n hx hb dX6_chance_71 rfl (lv_at hl 4 rfl) ?_
            refine lv_aload_n hx hb dX6_chance_72 rfl (lv_at hl 2 rfl) ?_
            refine lv_iload hx hb dX6_chance_73 (lv_at hl 0 rfl) ?_
            refine lv_sipush (v := 9999) hx hb dX6_chance_75 (by decide) ?_
            refine lv_aload_n hx hb dX6_chance_78 rfl (lv_at hl 2 rfl) ?_
            obtain ⟨z174, z176, z178, z180, z182, z184, z185, z187, z189, z191, z193, z195, z197, z199, o200, h175, h177, h179, h181, h183, h186, h188, h190, h192, h194, h196, h198, -⟩ := s_op7 hI ha0
            refine th_get (D := (dC, dI)) (ci := 6) (v := .ref z185) (C := RX6) (T := TX6) (N := 14) hx hb hts inX6 hown hK hP (hLK _ ha0 (by decide)) o200 rfl 6 (by decide) (hts _ T_174) (fun _ h9 => h9) rfl dX6_chance_79 ?_
            obtain ⟨z201, z203, z205, z207, z209, z211, z213, z215, z217, z218, z219, z221, z222, z224, z225, o227, h202, h204, h206, h208, h210, h212, h214, h216, h220, h223, h226, -⟩ := s_op5 hI h186
            refine th_getN (D := (dC, dI)) (ci := 4) (v := .int z221) (C := RX4) (T := TX4) (N := 15) hx hb hts inX4 hown hK hP (hLK _ h186 (by decide)) o227 rfl 11 (by decide) (va_Nw.use rfl (ax_n59 hN)) (fun _ h9 => h9) rfl dX6_chance_82 ?_
            refine lv_isub hx hb dX6_chance_85 ?_
            refine lv_topi (fun v228 ev228 => ?_)
            refine va_mmin hx hb (by rw [hml]; exact hl.1.symm) hown (hts _ T_235) (hts _ T_236) (hts _ T_237) (hts _ T_19) (Nat.le_of_ble_eq_true rfl) (Nat.le_of_ble_eq_true rfl) (Nat.zero_le _) (Nat.zero_le _) dX6_chance_86 ?_
            refine lv_topi (fun v229 ev229 => ?_)
            have qv229 := th_mmin (a := v173.toInt) (b := v228.toInt) ev229 rfl rfl
            refine va_calli (va_runV (As := [.int v229]) (rest := [.int w34]) ⟨hx, hb, hml, hown, hts⟩ (s_X6_run l dC dI H.size hLK D39 (D39 + 401) (Nat.le_refl _) (by omega) F168 a0 v229 ha0 (⟨th_lo v229, by omega⟩) hI (s_PGt hI0 hfr (by decide) hPG)) (cwV 1 hts (ax_gV T_929 T_931 T_932 T_193 T_930) rfl rfl rfl (by decide +kernel) ⟨Nat.le_of_ble_eq_true rfl, Nat.le_of_ble_eq_true rfl⟩) ⟨fun a U g mk q => ⟨q.1, s_pc rfl rfl q.2⟩, s_recv hK hP (hLK _ ha0 (by decide)) (ci := 6) rfl o200, fun U hU hW => ⟨rfl, s_pw hU hW hP hK hD hN⟩⟩ rfl rfl hl.1 rfl (lv_room (Nat.le_of_ble_eq_true rfl)) dX6_chance_89 ⟨Nat.zero_le _, Nat.zero_le _⟩) hS (fun q _ h => h) (fun q h => h) (fun r230 F231 t H1 locs ht hvm hw hB hz1 hk1 hS => ?_)
            obtain ⟨hP, hK1⟩ := hB
            rw [ht] at hP
            generalize H1 = H at hP hS ⊢
            obtain ⟨h232, h233, hI, hfr1⟩ := hw
            have o234 : F231 a0 = .inr (6, [.ref z174, .int z176, .ref z178, .ref z180, .ref z182, .int z184, .ref z185, .ref z187, .int z189, .int z191, .ref z193, .ref z195, .ref z197, .long z199]) := (hfr1 _ (by rw [ha0]; decide)).trans o200
            have hfr : ∀ b, K b ∉ [1, 2, 5, 6, 7, 24, 27, 28, 29, 30, 31, 32, 34, 35, 39] → F231 b = F b := fun b hb9 => (hfr1 b (fun q => hb9 (s_sub (by decide) q))).trans (hfr b hb9)
            refine lv_iadd hx hb dX6_chance_92 ?_
            refine lv_topi (fun v235 ev235 => ?_)
            refine lv_istore_n (lv' := [(2, .int v235), (5, .int v173), (4, .int r69), (0, .ref a0), (1, .int x1), (3, .int w35)]) hx hb dX6_chance_93 rfl hl (by decide) rfl (fun ls hl => ?_)
            obtain ⟨v236, ev236⟩ : ∃ y : Int32, w35 + 1 = y := ⟨_, rfl⟩
            have qv236 : v236.toInt = w35.toInt + 1 := by rw [← ev236]; exact th_add rfl (by decide) ⟨by omega, by omega⟩
            refine lv_iinc (v := v236) (lv' := [(3, .int v236), (2, .int v235), (5, .int v173), (4, .int r69), (0, .ref a0), (1, .int x1)]) hx hb dX6_chance_94 hl (k := 5) rfl ev236 (by decide) rfl (fun ls hl => ?_)
            refine lv_goto (tgt := 32) hx hb dX6_chance_97 (by decide) ?_
            exact ih32 _ _ _ _ (by omega) ⟨F231, _, (D39 + 401), v235, v236, rfl, lv_sub hl [4, 5, 1, 0] rfl, by omega, hI, hP, hS, hfr, trivial, ⟨by omega, by omega⟩, ⟨by omega, by omega⟩, rfl⟩
        · have c30 := mt (ax_le (n := 20) (by decide)).mpr c30
          exact K18 _ _ _ ⟨F, _, D, rfl, lv_sub hl [0] rfl, by omega, hI, hP, hS, hfr⟩
  · intro g H locs hq
    obtain ⟨F9, ls, D237, rfl, hl, h238, hI, hP, hS, hfr⟩ := hq
    refine lv_aload_n hx hb dX6_chance_18 rfl (lv_at hl 0 rfl) ?_
    refine lv_iconst (v := 2) hx hb dX6_chance_19 (by decide) ?_
    obtain ⟨z239, z241, z243, z245, z247, z249, z250, z252, z254, z256, z258, z260, z262, z264, o265, h240, h242, h244, h246, h248, h251, h253, h255, h257, h259, h261, h263, -⟩ := s_op7 hI ha0
    refine va_calli (va_runV (As := [.int 2]) (rest := []) ⟨hx, hb, hml, hown, hts⟩ (s_X6_refuse l dC dI H.size hLK D237 F9 a0 2 ha0 (by decide) hI) (cwV 1 hts (ax_gV T_194 T_195 T_196 T_193 T_10) rfl rfl rfl (by decide +kernel) ⟨Nat.le_of_ble_eq_true rfl, Nat.le_of_ble_eq_true rfl⟩) ⟨fun a U g mk q => ⟨q.1, s_pc rfl rfl q.2⟩, s_recv hK hP (hLK _ ha0 (by decide)) (ci := 6) rfl o265, fun U hU hW => ⟨rfl, s_pw hU hW hP hK hD hN⟩⟩ rfl rfl hl.1 rfl (lv_room (Nat.le_of_ble_eq_true rfl)) dX6_chance_20 ⟨Nat.zero_le _, Nat.zero_le _⟩) hS (fun q _ h => h) (fun q h => h) (fun r266 F267 t H1 locs ht hvm hw hB hz1 hk1 hS => ?_)
    obtain ⟨hP, hK1⟩ := hB
    rw [ht] at hP
    generalize H1 = H at hP hS ⊢
    obtain ⟨h268, h269, hI, hfr1⟩ := hw
    have o270 : F267 a0 = .inr (6, [.ref z239, .int z241, .ref z243, .ref z245, .ref z247, .int z249, .ref z250, .ref z252, .int z254, .int z256, .ref z258, .ref z260, .ref z262, .long z264]) := (hfr1 _ (by rw [ha0]; decide)).trans o265
    have hfr : ∀ b, K b ∉ [1, 2, 5, 6, 7, 24, 27, 28, 29, 30, 31, 32, 34, 35, 39] → F267 b = F b := fun b hb9 => (hfr1 b (fun q => hb9 (s_sub (by decide) q))).trans (hfr b hb9)
    exact W.iret (v := r266) hx hb hr (fun t ht hW => ⟨⟨r266, F267, rfl, ⟨trivial, trivial, (s_mono (by omega) hI), hfr⟩, by rw [ht]; exact hP, va_K.moved hW.alike hK⟩, hS.F ht⟩) hS.2.2 dX6_chance_23

