set_option maxHeartbeats 4000000 in
set_option maxRecDepth 100000 in
theorem s_X1_result (l : Launch) (dC : Nat → ClassId) (dI : Nat → Nat → Nat) (sz : Nat) {L : List Nat} {K : Nat → Nat} {cs : Nat → ClassId} (hLK : ∀ a {k : Nat}, K a = k → k ≠ 0 → a ∈ L) (D : Nat) (F : Nat → va_E) (a0 : Nat) (x1 : Int32) (x2 : Int32) (ha0 : K a0 = 2) (hx2 : 0 ≤ x2.toInt ∧ x2.toInt ≤ 7) (hI : s_I K cs D F) (hR : s_rd3 K F a0) : Met l yX1_result (Cond.code yX1_result cX1_result 5 (some .int) :: T0) ({ frames := 1, cells := 0, slots := 0, locals := 22 }) (va_Pc [.ref a0, .int x1, .int x2] (s_W dC dI sz L F [(cs 0, .int), (cs 1, .byte), (cs 2, .long), (cs 3, .object RX5), (cs 4, .object RX4), (cs 5, .array .int), (cs 6, .char), (cs 7, .boolean)])) (va_Qi (fun (r : Int32) (G : Nat → va_E) => True ∧ True ∧ s_I K cs D G ∧ ∀ b, K b ∉ ([] : List Nat) → G b = F b) (fun (G : Nat → va_E) (t : State) => va_P (dC, dI) vwCl (va_pl L G) t.heap ∧ va_K (dC, dI) vwCl [(cs 0, .int), (cs 1, .byte), (cs 2, .long), (cs 3, .object RX5), (cs 4, .object RX4), (cs 5, .array .int), (cs 6, .char), (cs 7, .boolean)] t) (fun q => q ∈ L)) 0 0 (fun q => q ∈ L) := by
  refine Met.ofW (cc := cX1_result) (maxL := 5) (ret := (some .int)) (by decide) rfl ?_
  intro p e s m args below meth c s₁ B hml hv
  obtain ⟨rfl, hsz, hP, hK, hD, hN⟩ := hv
  have hx := B.exec
  have hb := B.bytes
  have hr := B.returns
  have hts : ∀ w ∈ T0, w.before _ s = true := fun w h => atoms_spec (ws := Cond.code yX1_result cX1_result 5 (some .int) :: T0) B.pre w (List.mem_cons_of_mem _ h)
  have hown : s.vm.findClass RX1 = some m.cls := findClass_of_methodNamed B.named
  have hlocks := B.notSynchronized
  have hS : va_S (fun q => q ∈ L) s.heap s.heap [] := va_S.rf
  have hfr : ∀ b, K b ∉ ([] : List Nat) → F b = F b := fun _ _ => rfl
  have hl := lv_entry ([.ref a0, .int x1, .int x2]) (n := 5) (Nat.le_of_ble_eq_true rfl)
  rw [lg_entry_eq]
  generalize (lg_sl ([.ref a0, .int x1, .int x2]) ++ List.replicate (5 - (lg_sl ([.ref a0, .int x1, .int x2])).length) Slot.unset).toArray = ls at hl ⊢
  have hl : lv_has ls 5 [(0, .ref a0), (1, .int x1), (2, .int x2)] := hl
  refine s_gen hP hS (fun H locs hP hS => ?_)
  obtain ⟨z1, z3, z5, z7, z9, z11, z13, z15, z16, z17, z19, z20, o21, h2, h4, h6, h8, h10, h12, h14, h18, -⟩ := hR
  refine lv_aload_n hx hb dX1_result_0 rfl (lv_at hl 0 rfl) ?_
  refine lv_aload_n hx hb dX1_result_1 rfl (lv_at hl 0 rfl) ?_
  refine th_get (D := (dC, dI)) (ci := 1) (v := .ref z11) (C := RX1) (T := TX1) (N := 12) hx hb hts inX1 hown hK hP (hLK _ ha0 (by decide)) o21 rfl 5 (by decide) (hts _ T_607) (fun _ h9 => h9) rfl dX1_result_2 ?_
  refine lv_iconst (v := 2) hx hb dX1_result_5 (by decide) ?_
  obtain ⟨f22, o23, h24⟩ := s_op23 hI h12
  refine th_iald hx hb hK hP (hLK _ h12 (by decide)) 0 o23 rfl (ax_in (by decide)) dX1_result_6 ?_
  refine lv_topi (fun v25 ev25 => ?_)
  refine lv_iload_n hx hb dX1_result_7 rfl (lv_at hl 2 rfl) ?_
  refine va_calli (va_runV (As := [.int v25, .int x2]) (rest := []) ⟨hx, hb, hml, hown, hts⟩ (s_X1_valueOf l dC dI H.size hLK D F a0 v25 x2 ha0 (⟨by omega, by omega⟩) hI ⟨z1, z3, z5, z7, z9, z11, z13, z15, z16, z17, z19, z20, o21, h2, h4, h6, h8, h10, h12, ⟨by omega, by omega⟩, ⟨by omega, by omega⟩, trivial⟩) (cwV 2 hts (ax_gV T_613 T_615 T_616 T_137 T_614) rfl rfl rfl (by decide +kernel) ⟨Nat.le_of_ble_eq_true rfl, Nat.le_of_ble_eq_true rfl⟩) ⟨fun a U g mk q => ⟨q.1, s_pc (U := U) rfl rfl q.2⟩, s_recv hK hP (hLK _ ha0 (by decide)) (ci := 1) rfl o21, fun U hU hW => ⟨rfl, s_pw hU hW hP hK hD hN⟩⟩ rfl rfl hl.1 rfl (lv_room (Nat.le_of_ble_eq_true rfl)) dX1_result_8 ⟨Nat.zero_le _, Nat.zero_le _⟩) hS (fun q _ h => h) (fun q h => h) (fun r26 F27 t H1 locs ht hvm hw hB hz1 hk1 hS => ?_)
  obtain ⟨hP, hK1⟩ := hB
  rw [ht] at hP
  generalize H1 = H at hP hS ⊢
  clear hz1 hk1
  obtain ⟨h28, h29, hI, hfr1⟩ := hw
  have o30 : F27 a0 = .inr (1, [.ref z1, .ref z3, .ref z5, .ref z7, .ref z9, .ref z11, .int z13, .int z15, .int z16, .int z17, .int z19, .long z20]) := (hfr1 _ (by rw [ha0]; decide)).trans o21
  have hfr : ∀ b, K b ∉ ([] : List Nat) → F27 b = F b := fun b hb9 => (hfr1 b (fun q => hb9 (s_sub (by decide) q))).trans (hfr b hb9)
  refine lv_istore_n (lv' := [(3, .int r26), (0, .ref a0), (1, .int x1), (2, .int x2)]) hx hb dX1_result_11 rfl hl (by decide) rfl (fun ls hl => ?_)
  refine lv_aload_n hx hb dX1_result_12 rfl (lv_at hl 1 rfl) ?_
  refine lv_aload_n hx hb dX1_result_13 rfl (lv_at hl 1 rfl) ?_
  refine th_get (D := (dC, dI)) (ci := 1) (v := .ref z11) (C := RX1) (T := TX1) (N := 12) hx hb hts inX1 hown hK hP (hLK _ ha0 (by decide)) o30 rfl 5 (by decide) (hts _ T_607) (fun _ h9 => h9) rfl dX1_result_14 ?_
  refine lv_iconst (v := 3) hx hb dX1_result_17 (by decide) ?_
  obtain ⟨f31, o32, h33⟩ := s_op23 hI h12
  refine th_iald hx hb hK hP (hLK _ h12 (by decide)) 0 o32 rfl (ax_in (by decide)) dX1_result_18 ?_
  refine lv_topi (fun v34 ev34 => ?_)
  refine lv_iload_n hx hb dX1_result_19 rfl (lv_at hl 3 rfl) ?_
  refine va_calli (va_runV (As := [.int v34, .int x2]) (rest := []) ⟨hx, hb, hml, hown, hts⟩ (s_X1_valueOf l dC dI H.size hLK D F27 a0 v34 x2 ha0 (⟨by omega, by omega⟩) hI ⟨z1, z3, z5, z7, z9, z11, z13, z15, z16, z17, z19, z20, o30, h2, h4, h6, h8, h10, h12, ⟨by omega, by omega⟩, ⟨by omega, by omega⟩, trivial⟩) (cwV 2 hts (ax_gV T_613 T_615 T_616 T_137 T_614) rfl rfl rfl (by decide +kernel) ⟨Nat.le_of_ble_eq_true rfl, Nat.le_of_ble_eq_true rfl⟩) ⟨fun a U g mk q => ⟨q.1, s_pc (U := U) rfl rfl q.2⟩, s_recv hK hP (hLK _ ha0 (by decide)) (ci := 1) rfl o30, fun U hU hW => ⟨rfl, s_pw hU hW hP hK hD hN⟩⟩ rfl rfl hl.1 rfl (lv_room (Nat.le_of_ble_eq_true rfl)) dX1_result_20 ⟨Nat.zero_le _, Nat.zero_le _⟩) hS (fun q _ h => h) (fun q h => h) (fun r35 F36 t H1 locs ht hvm hw hB hz1 hk1 hS => ?_)
  obtain ⟨hP, hK1⟩ := hB
  rw [ht] at hP
  generalize H1 = H at hP hS ⊢
  clear hz1 hk1
  obtain ⟨h37, h38, hI, hfr1⟩ := hw
  have o39 : F36 a0 = .inr (1, [.ref z1, .ref z3, .ref z5, .ref z7, .ref z9, .ref z11, .int z13, .int z15, .int z16, .int z17, .int z19, .long z20]) := (hfr1 _ (by rw [ha0]; decide)).trans o30
  have hfr : ∀ b, K b ∉ ([] : List Nat) → F36 b = F b := fun b hb9 => (hfr1 b (fun q => hb9 (s_sub (by decide) q))).trans (hfr b hb9)
  refine lv_istore (lv' := [(4, .int r35), (3, .int r26), (0, .ref a0), (1, .int x1), (2, .int x2)]) hx hb dX1_result_23 hl (by decide) rfl (fun ls hl => ?_)
  refine lv_iload_n hx hb dX1_result_25 rfl (lv_at hl 3 rfl) ?_
  by_cases c40 : x1 = 0
  · refine ax_eqi c40 ?_
    refine lv_tableIn (off := 38) (tgt := 64) hx hb dX1_result_26 (by decide) (by decide) (by decide) (by decide) ?_
    have c40 := (ax_eq (n := 0) (by decide)).mp c40
    refine lv_iload_n hx hb dX1_result_64 rfl (lv_at hl 1 rfl) ?_
    exact W.iret (v := r26) hx hb hr (fun t ht hW => ⟨⟨r26, F36, rfl, ⟨trivial, trivial, hI, hfr⟩, by rw [ht]; exact hP, va_K.moved hW.alike hK⟩, hS.F ht⟩) hS.2.2 dX1_result_65
  · have c40 := mt (ax_eq (n := 0) (by decide)).mpr c40
    by_cases c41 : x1 = 1
    · refine ax_eqi c41 ?_
      refine lv_tableIn (off := 40) (tgt := 66) hx hb dX1_result_26 (by decide) (by decide) (by decide) (by decide) ?_
      have c41 := (ax_eq (n := 1) (by decide)).mp c41
      refine lv_iload_n hx hb dX1_result_66 rfl (lv_at hl 1 rfl) ?_
      refine lv_iload hx hb dX1_result_67 (lv_at hl 0 rfl) ?_
      refine lv_iadd hx hb dX1_result_69 ?_
      refine lv_topi (fun v42 ev42 => ?_)
      exact W.iret (v := v42) hx hb hr (fun t ht hW => ⟨⟨v42, F36, rfl, ⟨trivial, trivial, hI, hfr⟩, by rw [ht]; exact hP, va_K.moved hW.alike hK⟩, hS.F ht⟩) hS.2.2 dX1_result_70
    · have c41 := mt (ax_eq (n := 1) (by decide)).mpr c41
      by_cases c43 : x1 = 2
      · refine ax_eqi c43 ?_
        refine lv_tableIn (off := 45) (tgt := 71) hx hb dX1_result_26 (by decide) (by decide) (by decide) (by decide) ?_
        have c43 := (ax_eq (n := 2) (by decide)).mp c43
        refine lv_iload_n hx hb dX1_result_71 rfl (lv_at hl 1 rfl) ?_
        refine lv_iload hx hb dX1_result_72 (lv_at hl 0 rfl) ?_
        refine lv_isub hx hb dX1_result_74 ?_
        refine lv_topi (fun v44 ev44 => ?_)
        exact W.iret (v := v44) hx hb hr (fun t ht hW => ⟨⟨v44, F36, rfl, ⟨trivial, trivial, hI, hfr⟩, by rw [ht]; exact hP, va_K.moved hW.alike hK⟩, hS.F ht⟩) hS.2.2 dX1_result_75
      · have c43 := mt (ax_eq (n := 2) (by decide)).mpr c43
        by_cases c45 : x1 = 3
        · refine ax_eqi c45 ?_
          refine lv_tableIn (off := 50) (tgt := 76) hx hb dX1_result_26 (by decide) (by decide) (by decide) (by decide) ?_
          have c45 := (ax_eq (n := 3) (by decide)).mp c45
          refine lv_iload_n hx hb dX1_result_76 rfl (lv_at hl 1 rfl) ?_
          refine lv_iload hx hb dX1_result_77 (lv_at hl 0 rfl) ?_
          refine lv_imul hx hb dX1_result_79 ?_
          refine lv_topi (fun v46 ev46 => ?_)
          exact W.iret (v := v46) hx hb hr (fun t ht hW => ⟨⟨v46, F36, rfl, ⟨trivial, trivial, hI, hfr⟩, by rw [ht]; exact hP, va_K.moved hW.alike hK⟩, hS.F ht⟩) hS.2.2 dX1_result_80
        · have c45 := mt (ax_eq (n := 3) (by decide)).mpr c45
          by_cases c47 : x1 = 4
          · refine ax_eqi c47 ?_
            refine lv_tableIn (off := 55) (tgt := 81) hx hb dX1_result_26 (by decide) (by decide) (by decide) (by decide) ?_
            have c47 := (ax_eq (n := 4) (by decide)).mp c47
            refine lv_iload hx hb dX1_result_81 (lv_at hl 0 rfl) ?_
            refine lv_if_gt (tgt := 90) hx hb dX1_result_83 (by decide) (fun c48 => ?_) (fun c48 => ?_)
            · have c48 := (ax_gt (n := 0) (by decide)).mp c48
              refine lv_iload_n hx hb dX1_result_90 rfl (lv_at hl 1 rfl) ?_
              refine lv_iload hx hb dX1_result_91 (lv_at hl 0 rfl) ?_
              refine va_calli (va_runS (As := [.int r26, .int r35]) (rest := []) ⟨hx, hb, hml, hown, hts⟩ (s_J9_floorMod_7cf53 l dC dI H.size hLK D F36 r26 r35 (⟨by omega, by have q9 := th_hi r35; omega⟩) hI) ⟨callB_of 2 hts (ax_gT T_649) rfl rfl rfl (hts _ T_648) (hts _ T_647) (by decide +kernel) ⟨Nat.le_of_ble_eq_true rfl, Nat.le_of_ble_eq_true rfl⟩, hts _ T_650⟩ ⟨fun a U g mk q => ⟨q.1, s_pc (U := U) rfl rfl q.2⟩, fun U hU hW => ⟨rfl, s_pw hU hW hP hK hD hN⟩⟩ rfl rfl hl.1 rfl (lv_room (Nat.le_of_ble_eq_true rfl)) dX1_result_93 ⟨Nat.zero_le _, Nat.zero_le _⟩) hS (fun q _ h => h) (fun q h => h) (fun r49 F50 t H1 locs ht hvm hw hB hz1 hk1 hS => ?_)
              obtain ⟨hP, hK1⟩ := hB
              rw [ht] at hP
              generalize H1 = H at hP hS ⊢
              clear hz1 hk1
              obtain ⟨h51, h52, hI, hfr1⟩ := hw
              have o53 : F50 a0 = .inr (1, [.ref z1, .ref z3, .ref z5, .ref z7, .ref z9, .ref z11, .int z13, .int z15, .int z16, .int z17, .int z19, .long z20]) := (hfr1 _ (by rw [ha0]; decide)).trans o39
              have hfr : ∀ b, K b ∉ ([] : List Nat) → F50 b = F b := fun b hb9 => (hfr1 b (fun q => hb9 (s_sub (by decide) q))).trans (hfr b hb9)
              obtain ⟨h52, h54⟩ := h52
              have h54 : (0 ≤ r49.toInt ∧ r49.toInt < r35.toInt) := h54
              exact W.iret (v := r49) hx hb hr (fun t ht hW => ⟨⟨r49, F50, rfl, ⟨trivial, trivial, hI, hfr⟩, by rw [ht]; exact hP, va_K.moved hW.alike hK⟩, hS.F ht⟩) hS.2.2 dX1_result_96
            · have c48 := mt (ax_gt (n := 0) (by decide)).mpr c48
              refine lv_iconst (v := 0) hx hb dX1_result_86 (by decide) ?_
              refine lv_goto (tgt := 96) hx hb dX1_result_87 (by decide) ?_
              exact W.iret (v := 0) hx hb hr (fun t ht hW => ⟨⟨0, F36, rfl, ⟨trivial, trivial, hI, hfr⟩, by rw [ht]; exact hP, va_K.moved hW.alike hK⟩, hS.F ht⟩) hS.2.2 dX1_result_96
          · have c47 := mt (ax_eq (n := 4) (by decide)).mpr c47
            by_cases c55 : x1 = 5
            · refine ax_eqi c55 ?_
              refine lv_tableIn (off := 71) (tgt := 97) hx hb dX1_result_26 (by decide) (by decide) (by decide) (by decide) ?_
              have c55 := (ax_eq (n := 5) (by decide)).mp c55
              refine lv_iload_n hx hb dX1_result_97 rfl (lv_at hl 4 rfl) ?_
              exact W.iret (v := x2) hx hb hr (fun t ht hW => ⟨⟨x2, F36, rfl, ⟨trivial, trivial, hI, hfr⟩, by rw [ht]; exact hP, va_K.moved hW.alike hK⟩, hS.F ht⟩) hS.2.2 dX1_result_98
            · have c55 := mt (ax_eq (n := 5) (by decide)).mpr c55
              refine lv_tableOut (tgt := 99) hx hb dX1_result_26 (by omega) (by decide) ?_
              refine lv_aload_n hx hb dX1_result_99 rfl (lv_at hl 2 rfl) ?_
              refine th_get (D := (dC, dI)) (ci := 1) (v := .int z13) (C := RX1) (T := TX1) (N := 12) hx hb hts inX1 hown hK hP (hLK _ ha0 (by decide)) o39 rfl 6 (by decide) (hts _ T_618) (fun _ h9 => h9) rfl dX1_result_100 ?_
              exact W.iret (v := z13) hx hb hr (fun t ht hW => ⟨⟨z13, F36, rfl, ⟨trivial, trivial, hI, hfr⟩, by rw [ht]; exact hP, va_K.moved hW.alike hK⟩, hS.F ht⟩) hS.2.2 dX1_result_103

set_option maxHeartbeats 4000000 in
set_option maxRecDepth 100000 in
theorem s_X1_holds (l : Launch) (dC : Nat → ClassId) (dI : Nat → Nat → Nat) (sz : Nat) {L : List Nat} {K : Nat → Nat} {cs : Nat → ClassId} (hLK : ∀ a {k : Nat}, K a = k → k ≠ 0 → a ∈ L) (D : Nat) (F : Nat → va_E) (a0 : Nat) (x1 : Int32) (ha0 : K a0 = 2) (hx1 : 0 ≤ x1.toInt ∧ x1.toInt ≤ 7) (hI : s_I K cs D F) (hR : s_rd3 K F a0) : Met l yX1_holds (Cond.code yX1_holds cX1_holds 4 (some .boolean) :: T0) ({ frames := 1, cells := 0, slots := 0, locals := 22 }) (va_Pc [.ref a0, .int x1] (s_W dC dI sz L F [(cs 0, .int), (cs 1, .byte), (cs 2, .long), (cs 3, .object RX5), (cs 4, .object RX4), (cs 5, .array .int), (cs 6, .char), (cs 7, .boolean)])) (va_Qi (fun (r : Int32) (G : Nat → va_E) => (0 ≤ r.toInt ∧ r.toInt ≤ 1) ∧ True ∧ s_I K cs D G ∧ ∀ b, K b ∉ ([] : List Nat) → G b = F b) (fun (G : Nat → va_E) (t : State) => va_P (dC, dI) vwCl (va_pl L G) t.heap ∧ va_K (dC, dI) vwCl [(cs 0, .int), (cs 1, .byte), (cs 2, .long), (cs 3, .object RX5), (cs 4, .object RX4), (cs 5, .array .int), (cs 6, .char), (cs 7, .boolean)] t) (fun q => q ∈ L)) 0 0 (fun q => q ∈ L) := by
  refine Met.ofW (cc := cX1_holds) (maxL := 4) (ret := (some .boolean)) (by decide) rfl ?_
  intro p e s m args below meth c s₁ B hml hv
  obtain ⟨rfl, hsz, hP, hK, hD, hN⟩ := hv
  have hx := B.exec
  have hb := B.bytes
  have hr := B.returns
  have hts : ∀ w ∈ T0, w.before _ s = true := fun w h => atoms_spec (ws := Cond.code yX1_holds cX1_holds 4 (some .boolean) :: T0) B.pre w (List.mem_cons_of_mem _ h)
  have hown : s.vm.findClass RX1 = some m.cls := findClass_of_methodNamed B.named
  have hlocks := B.notSynchronized
  have hS : va_S (fun q => q ∈ L) s.heap s.heap [] := va_S.rf
  have hfr : ∀ b, K b ∉ ([] : List Nat) → F b = F b := fun _ _ => rfl
  have hl := lv_entry ([.ref a0, .int x1]) (n := 4) (Nat.le_of_ble_eq_true rfl)
  rw [lg_entry_eq]
  generalize (lg_sl ([.ref a0, .int x1]) ++ List.replicate (4 - (lg_sl ([.ref a0, .int x1])).length) Slot.unset).toArray = ls at hl ⊢
  have hl : lv_has ls 4 [(0, .ref a0), (1, .int x1)] := hl
  refine s_gen hP hS (fun H locs hP hS => ?_)
  obtain ⟨z1, z3, z5, z7, z9, z11, z13, z15, z16, z17, z19, z20, o21, h2, h4, h6, h8, h10, h12, h14, h18, -⟩ := hR
  refine lv_aload_n hx hb dX1_holds_0 rfl (lv_at hl 0 rfl) ?_
  refine lv_aload_n hx hb dX1_holds_1 rfl (lv_at hl 0 rfl) ?_
  refine th_get (D := (dC, dI)) (ci := 1) (v := .ref z11) (C := RX1) (T := TX1) (N := 12) hx hb hts inX1 hown hK hP (hLK _ ha0 (by decide)) o21 rfl 5 (by decide) (hts _ T_607) (fun _ h9 => h9) rfl dX1_holds_2 ?_
  refine lv_iconst (v := 2) hx hb dX1_holds_5 (by decide) ?_
  obtain ⟨f22, o23, h24⟩ := s_op23 hI h12
  refine th_iald hx hb hK hP (hLK _ h12 (by decide)) 0 o23 rfl (ax_in (by decide)) dX1_holds_6 ?_
  refine lv_topi (fun v25 ev25 => ?_)
  refine lv_iload_n hx hb dX1_holds_7 rfl (lv_at hl 1 rfl) ?_
  refine va_calli (va_runV (As := [.int v25, .int x1]) (rest := []) ⟨hx, hb, hml, hown, hts⟩ (s_X1_valueOf l dC dI H.size hLK D F a0 v25 x1 ha0 (⟨by omega, by omega⟩) hI ⟨z1, z3, z5, z7, z9, z11, z13, z15, z16, z17, z19, z20, o21, h2, h4, h6, h8, h10, h12, ⟨by omega, by omega⟩, ⟨by omega, by omega⟩, trivial⟩) (cwV 2 hts (ax_gV T_613 T_615 T_616 T_137 T_614) rfl rfl rfl (by decide +kernel) ⟨Nat.le_of_ble_eq_true rfl, Nat.le_of_ble_eq_true rfl⟩) ⟨fun a U g mk q => ⟨q.1, s_pc (U := U) rfl rfl q.2⟩, s_recv hK hP (hLK _ ha0 (by decide)) (ci := 1) rfl o21, fun U hU hW => ⟨rfl, s_pw hU hW hP hK hD hN⟩⟩ rfl rfl hl.1 rfl (lv_room (Nat.le_of_ble_eq_true rfl)) dX1_holds_8 ⟨Nat.zero_le _, Nat.zero_le _⟩) hS (fun q _ h => h) (fun q h => h) (fun r26 F27 t H1 locs ht hvm hw hB hz1 hk1 hS => ?_)
  obtain ⟨hP, hK1⟩ := hB
  rw [ht] at hP
  generalize H1 = H at hP hS ⊢
  clear hz1 hk1
  obtain ⟨h28, h29, hI, hfr1⟩ := hw
  have o30 : F27 a0 = .inr (1, [.ref z1, .ref z3, .ref z5, .ref z7, .ref z9, .ref z11, .int z13, .int z15, .int z16, .int z17, .int z19, .long z20]) := (hfr1 _ (by rw [ha0]; decide)).trans o21
  have hfr : ∀ b, K b ∉ ([] : List Nat) → F27 b = F b := fun b hb9 => (hfr1 b (fun q => hb9 (s_sub (by decide) q))).trans (hfr b hb9)
  refine lv_istore_n (lv' := [(2, .int r26), (0, .ref a0), (1, .int x1)]) hx hb dX1_holds_11 rfl hl (by decide) rfl (fun ls hl => ?_)
  refine lv_aload_n hx hb dX1_holds_12 rfl (lv_at hl 1 rfl) ?_
  refine lv_aload_n hx hb dX1_holds_13 rfl (lv_at hl 1 rfl) ?_
  refine th_get (D := (dC, dI)) (ci := 1) (v := .ref z11) (C := RX1) (T := TX1) (N := 12) hx hb hts inX1 hown hK hP (hLK _ ha0 (by decide)) o30 rfl 5 (by decide) (hts _ T_607) (fun _ h9 => h9) rfl dX1_holds_14 ?_
  refine lv_iconst (v := 3) hx hb dX1_holds_17 (by decide) ?_
  obtain ⟨f31, o32, h33⟩ := s_op23 hI h12
  refine th_iald hx hb hK hP (hLK _ h12 (by decide)) 0 o32 rfl (ax_in (by decide)) dX1_holds_18 ?_
  refine lv_topi (fun v34 ev34 => ?_)
  refine lv_iload_n hx hb dX1_holds_19 rfl (lv_at hl 2 rfl) ?_
  refine va_calli (va_runV (As := [.int v34, .int x1]) (rest := []) ⟨hx, hb, hml, hown, hts⟩ (s_X1_valueOf l dC dI H.size hLK D F27 a0 v34 x1 ha0 (⟨by omega, by omega⟩) hI ⟨z1, z3, z5, z7, z9, z11, z13, z15, z16, z17, z19, z20, o30, h2, h4, h6, h8, h10, h12, ⟨by omega, by omega⟩, ⟨by omega, by omega⟩, trivial⟩) (cwV 2 hts (ax_gV T_613 T_615 T_616 T_137 T_614) rfl rfl rfl (by decide +kernel) ⟨Nat.le_of_ble_eq_true rfl, Nat.le_of_ble_eq_true rfl⟩) ⟨fun a U g mk q => ⟨q.1, s_pc (U := U) rfl rfl q.2⟩, s_recv hK hP (hLK _ ha0 (by decide)) (ci := 1) rfl o30, fun U hU hW => ⟨rfl, s_pw hU hW hP hK hD hN⟩⟩ rfl rfl hl.1 rfl (lv_room (Nat.le_of_ble_eq_true rfl)) dX1_holds_20 ⟨Nat.zero_le _, Nat.zero_le _⟩) hS (fun q _ h => h) (fun q h => h) (fun r35 F36 t H1 locs ht hvm hw hB hz1 hk1 hS => ?_)
  obtain ⟨hP, hK1⟩ := hB
  rw [ht] at hP
  generalize H1 = H at hP hS ⊢
  clear hz1 hk1
  obtain ⟨h37, h38, hI, hfr1⟩ := hw
  have o39 : F36 a0 = .inr (1, [.ref z1, .ref z3, .ref z5, .ref z7, .ref z9, .ref z11, .int z13, .int z15, .int z16, .int z17, .int z19, .long z20]) := (hfr1 _ (by rw [ha0]; decide)).trans o30
  have hfr : ∀ b, K b ∉ ([] : List Nat) → F36 b = F b := fun b hb9 => (hfr1 b (fun q => hb9 (s_sub (by decide) q))).trans (hfr b hb9)
  refine lv_istore_n (lv' := [(3, .int r35), (2, .int r26), (0, .ref a0), (1, .int x1)]) hx hb dX1_holds_23 rfl hl (by decide) rfl (fun ls hl => ?_)
  refine lv_aload_n hx hb dX1_holds_24 rfl (lv_at hl 2 rfl) ?_
  refine th_get (D := (dC, dI)) (ci := 1) (v := .ref z11) (C := RX1) (T := TX1) (N := 12) hx hb hts inX1 hown hK hP (hLK _ ha0 (by decide)) o39 rfl 5 (by decide) (hts _ T_607) (fun _ h9 => h9) rfl dX1_holds_25 ?_
  refine lv_iconst (v := 5) hx hb dX1_holds_28 (by decide) ?_
  obtain ⟨f40, o41, h42⟩ := s_op23 hI h12
  refine th_iald hx hb hK hP (hLK _ h12 (by decide)) 0 o41 rfl (ax_in (by decide)) dX1_holds_29 ?_
  refine lv_topi (fun v43 ev43 => ?_)
  by_cases c44 : v43 = 0
  · refine ax_eqi c44 ?_
    refine lv_tableIn (off := 26) (tgt := 56) hx hb dX1_holds_30 (by decide) (by decide) (by decide) (by decide) ?_
    have c44 := (ax_eq (n := 0) (by decide)).mp c44
    refine lv_iload_n hx hb dX1_holds_56 rfl (lv_at hl 1 rfl) ?_
    refine lv_iload_n hx hb dX1_holds_57 rfl (lv_at hl 0 rfl) ?_
    refine lv_icmp_ge (tgt := 65) hx hb dX1_holds_58 (by decide) (fun c45 => ?_) (fun c45 => ?_)
    · have c45 := Int32.le_iff_toInt_le.mp c45
      refine lv_iconst (v := 0) hx hb dX1_holds_65 (by decide) ?_
      exact W.zret (v := 0) (ty := .boolean) hx hb hr (by decide) (fun t ht hW => ⟨⟨0, F36, rfl, ⟨(by decide), trivial, hI, hfr⟩, by rw [ht]; exact hP, va_K.moved hW.alike hK⟩, hS.F ht⟩) hS.2.2 dX1_holds_66
    · have c45 := mt Int32.le_iff_toInt_le.mpr c45
      refine lv_iconst (v := 1) hx hb dX1_holds_61 (by decide) ?_
      refine lv_goto (tgt := 66) hx hb dX1_holds_62 (by decide) ?_
      exact W.zret (v := 1) (ty := .boolean) hx hb hr (by decide) (fun t ht hW => ⟨⟨1, F36, rfl, ⟨(by decide), trivial, hI, hfr⟩, by rw [ht]; exact hP, va_K.moved hW.alike hK⟩, hS.F ht⟩) hS.2.2 dX1_holds_66
  · have c44 := mt (ax_eq (n := 0) (by decide)).mpr c44
    by_cases c46 : v43 = 1
    · refine ax_eqi c46 ?_
      refine lv_tableIn (off := 37) (tgt := 67) hx hb dX1_holds_30 (by decide) (by decide) (by decide) (by decide) ?_
      have c46 := (ax_eq (n := 1) (by decide)).mp c46
      refine lv_iload_n hx hb dX1_holds_67 rfl (lv_at hl 1 rfl) ?_
      refine lv_iload_n hx hb dX1_holds_68 rfl (lv_at hl 0 rfl) ?_
      refine lv_icmp_ne (tgt := 76) hx hb dX1_holds_69 (by decide) (fun c47 => ?_) (fun c47 => ?_)
      · have c47 := mt Int32.toInt_inj.symm.mpr c47
        refine lv_iconst (v := 0) hx hb dX1_holds_76 (by decide) ?_
        exact W.zret (v := 0) (ty := .boolean) hx hb hr (by decide) (fun t ht hW => ⟨⟨0, F36, rfl, ⟨(by decide), trivial, hI, hfr⟩, by rw [ht]; exact hP, va_K.moved hW.alike hK⟩, hS.F ht⟩) hS.2.2 dX1_holds_77
      · have c47 := Int32.toInt_inj.symm.mp c47
        refine lv_iconst (v := 1) hx hb dX1_holds_72 (by decide) ?_
        refine lv_goto (tgt := 77) hx hb dX1_holds_73 (by decide) ?_
        exact W.zret (v := 1) (ty := .boolean) hx hb hr (by decide) (fun t ht hW => ⟨⟨1, F36, rfl, ⟨(by decide), trivial, hI, hfr⟩, by rw [ht]; exact hP, va_K.moved hW.alike hK⟩, hS.F ht⟩) hS.2.2 dX1_holds_77
    · have c46 := mt (ax_eq (n := 1) (by decide)).mpr c46
      by_cases c48 : v43 = 2
      · refine ax_eqi c48 ?_
        refine lv_tableIn (off := 48) (tgt := 78) hx hb dX1_holds_30 (by decide) (by decide) (by decide) (by decide) ?_
        have c48 := (ax_eq (n := 2) (by decide)).mp c48
        refine lv_iload_n hx hb dX1_holds_78 rfl (lv_at hl 1 rfl) ?_
        refine lv_iload_n hx hb dX1_holds_79 rfl (lv_at hl 0 rfl) ?_
        refine lv_icmp_le (tgt := 87) hx hb dX1_holds_80 (by decide) (fun c49 => ?_) (fun c49 => ?_)
        · have c49 := Int32.le_iff_toInt_le.mp c49
          refine lv_iconst (v := 0) hx hb dX1_holds_87 (by decide) ?_
          exact W.zret (v := 0) (ty := .boolean) hx hb hr (by decide) (fun t ht hW => ⟨⟨0, F36, rfl, ⟨(by decide), trivial, hI, hfr⟩, by rw [ht]; exact hP, va_K.moved hW.alike hK⟩, hS.F ht⟩) hS.2.2 dX1_holds_88
        · have c49 := mt Int32.le_iff_toInt_le.mpr c49
          refine lv_iconst (v := 1) hx hb dX1_holds_83 (by decide) ?_
          refine lv_goto (tgt := 88) hx hb dX1_holds_84 (by decide) ?_
          exact W.zret (v := 1) (ty := .boolean) hx hb hr (by decide) (fun t ht hW => ⟨⟨1, F36, rfl, ⟨(by decide), trivial, hI, hfr⟩, by rw [ht]; exact hP, va_K.moved hW.alike hK⟩, hS.F ht⟩) hS.2.2 dX1_holds_88
      · have c48 := mt (ax_eq (n := 2) (by decide)).mpr c48
        refine lv_tableOut (tgt := 89) hx hb dX1_holds_30 (by omega) (by decide) ?_
        refine lv_iconst (v := 1) hx hb dX1_holds_89 (by decide) ?_
        exact W.zret (v := 1) (ty := .boolean) hx hb hr (by decide) (fun t ht hW => ⟨⟨1, F36, rfl, ⟨(by decide), trivial, hI, hfr⟩, by rw [ht]; exact hP, va_K.moved hW.alike hK⟩, hS.F ht⟩) hS.2.2 dX1_holds_90

set_option maxHeartbeats 4000000 in
set_option maxRecDepth 100000 in
theorem s_X1_goers (l : Launch) (dC : Nat → ClassId) (dI : Nat → Nat → Nat) (sz : Nat) {L : List Nat} {K : Nat → Nat} {cs : Nat → ClassId} (hLK : ∀ a {k : Nat}, K a = k → k ≠ 0 → a ∈ L) (D : Nat) (F : Nat → va_E) (a0 : Nat) (ha0 : K a0 = 2) (hI : s_I K cs D F) (hR : s_rd3 K F a0) : Met l yX1_goers (Cond.code yX1_goers cX1_goers 3 (some .int) :: T0) ({ frames := 2, cells := 0, slots := 0, locals := 45 }) (va_Pc [.ref a0] (s_W dC dI sz L F [(cs 0, .int), (cs 1, .byte), (cs 2, .long), (cs 3, .object RX5), (cs 4, .object RX4), (cs 5, .array .int), (cs 6, .char), (cs 7, .boolean)])) (va_Qi (fun (r : Int32) (G : Nat → va_E) => True ∧ True ∧ s_I K cs D G ∧ ∀ b, K b ∉ ([] : List Nat) → G b = F b) (fun (G : Nat → va_E) (t : State) => va_P (dC, dI) vwCl (va_pl L G) t.heap ∧ va_K (dC, dI) vwCl [(cs 0, .int), (cs 1, .byte), (cs 2, .long), (cs 3, .object RX5), (cs 4, .object RX4), (cs 5, .array .int), (cs 6, .char), (cs 7, .boolean)] t) (fun q => q ∈ L)) 0 0 (fun q => q ∈ L) := by
  refine Met.ofW (cc := cX1_goers) (maxL := 3) (ret := (some .int)) (by decide) rfl ?_
  intro p e s m args below meth c s₁ B hml hv
  obtain ⟨rfl, hsz, hP, hK, hD, hN⟩ := hv
  have hx := B.exec
  have hb := B.bytes
  have hr := B.returns
  have hts : ∀ w ∈ T0, w.before _ s = true := fun w h => atoms_spec (ws := Cond.code yX1_goers cX1_goers 3 (some .int) :: T0) B.pre w (List.mem_cons_of_mem _ h)
  have hown : s.vm.findClass RX1 = some m.cls := findClass_of_methodNamed B.named
  have hlocks := B.notSynchronized
  have hS : va_S (fun q => q ∈ L) s.heap s.heap [] := va_S.rf
  have hfr : ∀ b, K b ∉ ([] : List Nat) → F b = F b := fun _ _ => rfl
  have hl := lv_entry ([.ref a0]) (n := 3) (Nat.le_of_ble_eq_true rfl)
  rw [lg_entry_eq]
  generalize (lg_sl ([.ref a0]) ++ List.replicate (3 - (lg_sl ([.ref a0])).length) Slot.unset).toArray = ls at hl ⊢
  have hl : lv_has ls 3 [(0, .ref a0)] := hl
  refine s_gen hP hS (fun H locs hP hS => ?_)
  obtain ⟨z1, z3, z5, z7, z9, z11, z13, z15, z16, z17, z19, z20, o21, h2, h4, h6, h8, h10, h12, h14, h18, -⟩ := hR
  refine lv_aload_n hx hb dX1_goers_0 rfl (lv_at hl 0 rfl) ?_
  refine th_get (D := (dC, dI)) (ci := 1) (v := .ref z11) (C := RX1) (T := TX1) (N := 12) hx hb hts inX1 hown hK hP (hLK _ ha0 (by decide)) o21 rfl 5 (by decide) (hts _ T_607) (fun _ h9 => h9) rfl dX1_goers_1 ?_
  refine lv_iconst (v := 0) hx hb dX1_goers_4 (by decide) ?_
  obtain ⟨f22, o23, h24⟩ := s_op23 hI h12
  refine th_iald hx hb hK hP (hLK _ h12 (by decide)) 0 o23 rfl (ax_in (by decide)) dX1_goers_5 ?_
  refine lv_topi (fun v25 ev25 => ?_)
  refine lv_bipush (v := 12) hx hb dX1_goers_6 (by decide) ?_
  refine lv_icmp_eq (tgt := 13) hx hb dX1_goers_8 (by decide) (fun c26 => ?_) (fun c26 => ?_)
  · have c26 := (ax_eq (n := 12) (by decide)).mp c26
    refine lv_iconst (v := 0) hx hb dX1_goers_13 (by decide) ?_
    refine lv_istore_n (lv' := [(1, .int 0), (0, .ref a0)]) hx hb dX1_goers_14 rfl hl (by decide) rfl (fun ls hl => ?_)
    refine lv_iconst (v := 0) hx hb dX1_goers_15 (by decide) ?_
    refine lv_istore_n (lv' := [(2, .int 0), (1, .int 0), (0, .ref a0)]) hx hb dX1_goers_16 rfl hl (by decide) rfl (fun ls hl => ?_)
    refine th_loop (fun n g H locs => ∃ (G : Nat → va_E) (ls : Array Slot) (w27 : Int32) (w28 : Int32), g = F0 m 17 ls [] ∧ lv_has ls 3 [(0, .ref a0), (1, .int w27), (2, .int w28)] ∧ s_I K cs D G ∧ va_P (dC, dI) vwCl (va_pl L G) H ∧ va_S (fun q => q ∈ L) s.heap H locs ∧ (∀ b, K b ∉ ([] : List Nat) → G b = F b) ∧ True ∧ (0 ≤ w28.toInt ∧ w28.toInt ≤ 8) ∧ s_rd3 K G a0 ∧ n = (9 - w28.toInt).toNat) _ ⟨F, _, 0, 0, rfl, lv_sub hl [2, 1, 0] rfl, hI, hP, hS, hfr, trivial, (by decide), ⟨z1, z3, z5, z7, z9, z11, z13, z15, z16, z17, z19, z20, o21, h2, h4, h6, h8, h10, h12, ⟨by omega, by omega⟩, ⟨by omega, by omega⟩, trivial⟩, rfl⟩ (fun n ih17 g H locs hq => ?_)
    obtain ⟨F9, ls, w27, w28, rfl, hl, hI, hP, hS, hfr, h29, h30, h31, hn⟩ := hq
    obtain ⟨z32, z34, z36, z38, z40, z42, z44, z46, z47, z48, z50, z51, o52, h33, h35, h37, h39, h41, h43, h45, h49, -⟩ := h31
    have hn_17 := hn
    obtain ⟨n_17, hn9_17⟩ : ∃ q, q = n := ⟨_, rfl⟩
    refine th_join (fun g H locs => ∃ (G : Nat → va_E) (ls : Array Slot) (w53 : Int32), g = F0 m 45 ls [] ∧ lv_has ls 3 [(0, .ref a0), (1, .int w53), (2, .int w28)] ∧ s_I K cs D G ∧ va_P (dC, dI) vwCl (va_pl L G) H ∧ va_S (fun q => q ∈ L) s.heap H locs ∧ (∀ b, K b ∉ ([] : List Nat) → G b = F b) ∧ True ∧ (0 ≤ w28.toInt ∧ w28.toInt ≤ 7) ∧ s_rd3 K G a0) (fun K45 => ?_) ?_
    · refine lv_iload_n hx hb dX1_goers_17 rfl (lv_at hl 2 rfl) ?_
      refine lv_bipush (v := 8) hx hb dX1_goers_18 (by decide) ?_
      refine lv_icmp_ge (tgt := 51) hx hb dX1_goers_20 (by decide) (fun c54 => ?_) (fun c54 => ?_)
      · have c54 := (ax_ge (n := 8) (by decide)).mp c54
        refine lv_iload_n hx hb dX1_goers_51 rfl (lv_at hl 1 rfl) ?_
        exact W.iret (v := w27) hx hb hr (fun t ht hW => ⟨⟨w27, F9, rfl, ⟨trivial, trivial, hI, hfr⟩, by rw [ht]; exact hP, va_K.moved hW.alike hK⟩, hS.F ht⟩) hS.2.2 dX1_goers_52
      · have c54 := mt (ax_ge (n := 8) (by decide)).mpr c54
        refine lv_aload_n hx hb dX1_goers_23 rfl (lv_at hl 0 rfl) ?_
        refine lv_iload_n hx hb dX1_goers_24 rfl (lv_at hl 2 rfl) ?_
        refine va_calli (va_runV (As := [.int w28]) (rest := []) ⟨hx, hb, hml, hown, hts⟩ (s_X1_goesNow l dC dI H.size hLK D F9 a0 w28 ha0 hI) (cwV 1 hts (ax_gV T_637 T_639 T_640 T_137 T_638) rfl rfl rfl (by decide +kernel) ⟨Nat.le_of_ble_eq_true rfl, Nat.le_of_ble_eq_true rfl⟩) ⟨fun a U g mk q => ⟨q.1, s_pc (U := U) rfl rfl q.2⟩, s_recv hK hP (hLK _ ha0 (by decide)) (ci := 1) rfl o52, fun U hU hW => ⟨rfl, s_pw hU hW hP hK hD hN⟩⟩ rfl rfl hl.1 rfl (lv_room (Nat.le_of_ble_eq_true rfl)) dX1_goers_25 ⟨Nat.zero_le _, Nat.zero_le _⟩) hS (fun q _ h => h) (fun q h => h) (fun r55 F56 t H1 locs ht hvm hw hB hz1 hk1 hS => ?_)
        obtain ⟨hP, hK1⟩ := hB
        rw [ht] at hP
        generalize H1 = H at hP hS ⊢
        clear hz1 hk1
        obtain ⟨h57, h58, hI, hfr1⟩ := hw
        have o59 : F56 a0 = .inr (1, [.ref z32, .ref z34, .ref z36, .ref z38, .ref z40, .ref z42, .int z44, .int z46, .int z47, .int z48, .int z50, .long z51]) := (hfr1 _ (by rw [ha0]; decide)).trans o52
        have hfr : ∀ b, K b ∉ ([] : List Nat) → F56 b = F b := fun b hb9 => (hfr1 b (fun q => hb9 (s_sub (by decide) q))).trans (hfr b hb9)
        obtain ⟨h58, h60⟩ := h58
        have h60 : (∀ vs z, F9 a0 = .inr (1, vs) → vs[8]? = some (.int z) → (r55 = 0 ↔ (z >>> (w28 &&& 31) &&& 1) = 0)) := h60
        refine lv_if_eq (tgt := 45) hx hb dX1_goers_28 (by decide) (fun c61 => ?_) (fun c61 => ?_)
        · have c61 := (ax_eq (n := 0) (by decide)).mp c61
          exact K45 _ _ _ ⟨F56, _, w27, rfl, lv_sub hl [0, 1, 2] rfl, hI, hP, hS, hfr, trivial, ⟨by omega, by omega⟩, ⟨z32, z34, z36, z38, z40, z42, z44, z46, z47, z48, z50, z51, o59, h33, h35, h37, h39, h41, h43, ⟨by omega, by omega⟩, ⟨by omega, by omega⟩, trivial⟩⟩
        · have c61 := mt (ax_eq (n := 0) (by decide)).mpr c61
          refine lv_aload_n hx hb dX1_goers_31 rfl (lv_at hl 0 rfl) ?_
          refine lv_iload_n hx hb dX1_goers_32 rfl (lv_at hl 2 rfl) ?_
          refine va_calli (va_runV (As := [.int w28]) (rest := []) ⟨hx, hb, hml, hown, hts⟩ (s_X1_holds l dC dI H.size hLK D F56 a0 w28 ha0 (⟨by omega, by omega⟩) hI ⟨z32, z34, z36, z38, z40, z42, z44, z46, z47, z48, z50, z51, o59, h33, h35, h37, h39, h41, h43, ⟨by omega, by omega⟩, ⟨by omega, by omega⟩, trivial⟩) (cwV 1 hts (ax_gV T_641 T_643 T_644 T_137 T_642) rfl rfl rfl (by decide +kernel) ⟨Nat.le_of_ble_eq_true rfl, Nat.le_of_ble_eq_true rfl⟩) ⟨fun a U g mk q => ⟨q.1, s_pc (U := U) rfl rfl q.2⟩, s_recv hK hP (hLK _ ha0 (by decide)) (ci := 1) rfl o59, fun U hU hW => ⟨rfl, s_pw hU hW hP hK hD hN⟩⟩ rfl rfl hl.1 rfl (lv_room (Nat.le_of_ble_eq_true rfl)) dX1_goers_33 ⟨Nat.zero_le _, Nat.zero_le _⟩) hS (fun q _ h => h) (fun q h => h) (fun r62 F63 t H1 locs ht hvm hw hB hz1 hk1 hS => ?_)
          obtain ⟨hP, hK1⟩ := hB
          rw [ht] at hP
          generalize H1 = H at hP hS ⊢
          clear hz1 hk1
          obtain ⟨h64, h65, hI, hfr1⟩ := hw
          have o66 : F63 a0 = .inr (1, [.ref z32, .ref z34, .ref z36, .ref z38, .ref z40, .ref z42, .int z44, .int z46, .int z47, .int z48, .int z50, .long z51]) := (hfr1 _ (by rw [ha0]; decide)).trans o59
          have hfr : ∀ b, K b ∉ ([] : List Nat) → F63 b = F b := fun b hb9 => (hfr1 b (fun q => hb9 (s_sub (by decide) q))).trans (hfr b hb9)
          refine lv_if_eq (tgt := 45) hx hb dX1_goers_36 (by decide) (fun c67 => ?_) (fun c67 => ?_)
          · have c67 := (ax_eq (n := 0) (by decide)).mp c67
            exact K45 _ _ _ ⟨F63, _, w27, rfl, lv_sub hl [0, 1, 2] rfl, hI, hP, hS, hfr, trivial, ⟨by omega, by omega⟩, ⟨z32, z34, z36, z38, z40, z42, z44, z46, z47, z48, z50, z51, o66, h33, h35, h37, h39, h41, h43, ⟨by omega, by omega⟩, ⟨by omega, by omega⟩, trivial⟩⟩
          · have c67 := mt (ax_eq (n := 0) (by decide)).mpr c67
            refine lv_iload_n hx hb dX1_goers_39 rfl (lv_at hl 1 rfl) ?_
            refine lv_iconst (v := 1) hx hb dX1_goers_40 (by decide) ?_
            refine lv_iload_n hx hb dX1_goers_41 rfl (lv_at hl 2 rfl) ?_
            refine lv_ishl hx hb dX1_goers_42 ?_
            refine lv_topi (fun v68 ev68 => ?_)
            refine lv_ior hx hb dX1_goers_43 ?_
            refine lv_topi (fun v69 ev69 => ?_)
            refine lv_istore_n (lv' := [(1, .int v69), (0, .ref a0), (2, .int w28)]) hx hb dX1_goers_44 rfl hl (by decide) rfl (fun ls hl => ?_)
            exact K45 _ _ _ ⟨F63, _, v69, rfl, lv_sub hl [1, 0, 2] rfl, hI, hP, hS, hfr, trivial, ⟨by omega, by omega⟩, ⟨z32, z34, z36, z38, z40, z42, z44, z46, z47, z48, z50, z51, o66, h33, h35, h37, h39, h41, h43, ⟨by omega, by omega⟩, ⟨by omega, by omega⟩, trivial⟩⟩
    · intro g H locs hq
      obtain ⟨F9, ls, w53, rfl, hl, hI, hP, hS, hfr, h70, h71, h72⟩ := hq
      obtain ⟨z73, z75, z77, z79, z81, z83, z85, z87, z88, z89, z91, z92, o93, h74, h76, h78, h80, h82, h84, h86, h90, -⟩ := h72
      obtain ⟨v94, ev94⟩ : ∃ y : Int32, w28 + 1 = y := ⟨_, rfl⟩
      have qv94 : v94.toInt = w28.toInt + 1 := by rw [← ev94]; exact th_add rfl (by decide) ⟨by omega, by omega⟩
      refine lv_iinc (v := v94) (lv' := [(2, .int v94), (0, .ref a0), (1, .int w53)]) hx hb dX1_goers_45 hl (k := 2) rfl ev94 (by decide) rfl (fun ls hl => ?_)
      refine lv_goto (tgt := 17) hx hb dX1_goers_48 (by decide) ?_
      exact ih17 _ _ _ _ (by omega) ⟨F9, _, w53, v94, rfl, lv_sub hl [1, 2, 0] rfl, hI, hP, hS, hfr, trivial, ⟨by omega, by omega⟩, ⟨z73, z75, z77, z79, z81, z83, z85, z87, z88, z89, z91, z92, o93, h74, h76, h78, h80, h82, h84, ⟨by omega, by omega⟩, ⟨by omega, by omega⟩, trivial⟩, rfl⟩
  · have c26 := mt (ax_eq (n := 12) (by decide)).mpr c26
    refine lv_iconst (v := 0) hx hb dX1_goers_11 (by decide) ?_
    exact W.iret (v := 0) hx hb hr (fun t ht hW => ⟨⟨0, F, rfl, ⟨trivial, trivial, hI, hfr⟩, by rw [ht]; exact hP, va_K.moved hW.alike hK⟩, hS.F ht⟩) hS.2.2 dX1_goers_12

set_option maxHeartbeats 4000000 in
set_option maxRecDepth 100000 in
theorem s_X1_lineBehind (l : Launch) (dC : Nat → ClassId) (dI : Nat → Nat → Nat) (sz : Nat) {L : List Nat} {K : Nat → Nat} {cs : Nat → ClassId} (hLK : ∀ a {k : Nat}, K a = k → k ≠ 0 → a ∈ L) (D : Nat) (F : Nat → va_E) (a0 : Nat) (ha0 : K a0 = 2) (hI : s_I K cs D F) (hR : s_rd3 K F a0) : Met l yX1_lineBehind (Cond.code yX1_lineBehind cX1_lineBehind 1 (some .int) :: T0) ({ frames := 0, cells := 0, slots := 0, locals := 0 }) (va_Pc [.ref a0] (s_W dC dI sz L F [(cs 0, .int), (cs 1, .byte), (cs 2, .long), (cs 3, .object RX5), (cs 4, .object RX4), (cs 5, .array .int), (cs 6, .char), (cs 7, .boolean)])) (va_Qi (fun (r : Int32) (G : Nat → va_E) => True ∧ True ∧ s_I K cs D G ∧ ∀ b, K b ∉ ([] : List Nat) → G b = F b) (fun (G : Nat → va_E) (t : State) => va_P (dC, dI) vwCl (va_pl L G) t.heap ∧ va_K (dC, dI) vwCl [(cs 0, .int), (cs 1, .byte), (cs 2, .long), (cs 3, .object RX5), (cs 4, .object RX4), (cs 5, .array .int), (cs 6, .char), (cs 7, .boolean)] t) (fun q => q ∈ L)) 0 0 (fun q => q ∈ L) := by
  refine Met.ofW (cc := cX1_lineBehind) (maxL := 1) (ret := (some .int)) (by decide) rfl ?_
  intro p e s m args below meth c s₁ B hml hv
  obtain ⟨rfl, hsz, hP, hK, hD, hN⟩ := hv
  have hx := B.exec
  have hb := B.bytes
  have hr := B.returns
  have hts : ∀ w ∈ T0, w.before _ s = true := fun w h => atoms_spec (ws := Cond.code yX1_lineBehind cX1_lineBehind 1 (some .int) :: T0) B.pre w (List.mem_cons_of_mem _ h)
  have hown : s.vm.findClass RX1 = some m.cls := findClass_of_methodNamed B.named
  have hlocks := B.notSynchronized
  have hS : va_S (fun q => q ∈ L) s.heap s.heap [] := va_S.rf
  have hfr : ∀ b, K b ∉ ([] : List Nat) → F b = F b := fun _ _ => rfl
  have hl := lv_entry ([.ref a0]) (n := 1) (Nat.le_of_ble_eq_true rfl)
  rw [lg_entry_eq]
  generalize (lg_sl ([.ref a0]) ++ List.replicate (1 - (lg_sl ([.ref a0])).length) Slot.unset).toArray = ls at hl ⊢
  have hl : lv_has ls 1 [(0, .ref a0)] := hl
  refine s_gen hP hS (fun H locs hP hS => ?_)
  obtain ⟨z1, z3, z5, z7, z9, z11, z13, z15, z16, z17, z19, z20, o21, h2, h4, h6, h8, h10, h12, h14, h18, -⟩ := hR
  refine lv_aload_n hx hb dX1_lineBehind_0 rfl (lv_at hl 0 rfl) ?_
  refine th_get (D := (dC, dI)) (ci := 1) (v := .ref z11) (C := RX1) (T := TX1) (N := 12) hx hb hts inX1 hown hK hP (hLK _ ha0 (by decide)) o21 rfl 5 (by decide) (hts _ T_607) (fun _ h9 => h9) rfl dX1_lineBehind_1 ?_
  refine lv_iconst (v := 0) hx hb dX1_lineBehind_4 (by decide) ?_
  obtain ⟨f22, o23, h24⟩ := s_op23 hI h12
  refine th_iald hx hb hK hP (hLK _ h12 (by decide)) 0 o23 rfl (ax_in (by decide)) dX1_lineBehind_5 ?_
  refine lv_topi (fun v25 ev25 => ?_)
  refine lv_bipush (v := 15) hx hb dX1_lineBehind_6 (by decide) ?_
  refine lv_icmp_ne (tgt := 21) hx hb dX1_lineBehind_8 (by decide) (fun c26 => ?_) (fun c26 => ?_)
  · have c26 := mt (ax_eq (n := 15) (by decide)).mpr c26
    refine lv_aload_n hx hb dX1_lineBehind_21 rfl (lv_at hl 0 rfl) ?_
    refine th_get (D := (dC, dI)) (ci := 1) (v := .int z15) (C := RX1) (T := TX1) (N := 12) hx hb hts inX1 hown hK hP (hLK _ ha0 (by decide)) o21 rfl 7 (by decide) (hts _ T_632) (fun _ h9 => h9) rfl dX1_lineBehind_22 ?_
    refine lv_iconst (v := 1) hx hb dX1_lineBehind_25 (by decide) ?_
    refine lv_iadd hx hb dX1_lineBehind_26 ?_
    refine lv_topi (fun v27 ev27 => ?_)
    exact W.iret (v := v27) hx hb hr (fun t ht hW => ⟨⟨v27, F, rfl, ⟨trivial, trivial, hI, hfr⟩, by rw [ht]; exact hP, va_K.moved hW.alike hK⟩, hS.F ht⟩) hS.2.2 dX1_lineBehind_27
  · have c26 := (ax_eq (n := 15) (by decide)).mp c26
    refine lv_aload_n hx hb dX1_lineBehind_11 rfl (lv_at hl 0 rfl) ?_
    refine th_get (D := (dC, dI)) (ci := 1) (v := .ref z5) (C := RX1) (T := TX1) (N := 12) hx hb hts inX1 hown hK hP (hLK _ ha0 (by decide)) o21 rfl 2 (by decide) (hts _ T_121) (fun _ h9 => h9) rfl dX1_lineBehind_12 ?_
    obtain ⟨z28, z30, z32, z34, z36, z38, z39, o40, h29, h31, h33, h35, h37, -⟩ := s_op3 hI h6
    refine th_getN (D := (dC, dI)) (ci := 2) (v := .int z34) (C := RX2) (T := TX2) (N := 7) hx hb hts inX2 hown hK hP (hLK _ h6 (by decide)) o40 rfl 3 (by decide) (va_Nw.use rfl (ax_n21 hN)) (fun _ h9 => h9) rfl dX1_lineBehind_15 ?_
    refine lv_goto (tgt := 27) hx hb dX1_lineBehind_18 (by decide) ?_
    exact W.iret (v := z34) hx hb hr (fun t ht hW => ⟨⟨z34, F, rfl, ⟨trivial, trivial, hI, hfr⟩, by rw [ht]; exact hP, va_K.moved hW.alike hK⟩, hS.F ht⟩) hS.2.2 dX1_lineBehind_27

set_option maxHeartbeats 4000000 in
set_option maxRecDepth 100000 in
theorem s_X1_bounded (l : Launch) (dC : Nat → ClassId) (dI : Nat → Nat → Nat) (sz : Nat) {L : List Nat} {K : Nat → Nat} {cs : Nat → ClassId} (hLK : ∀ a {k : Nat}, K a = k → k ≠ 0 → a ∈ L) (D : Nat) (F : Nat → va_E) (x0 : Int32)  (hI : s_I K cs D F) : Met l yX1_bounded (Cond.code yX1_bounded cX1_bounded 1 (some .int) :: T0) ({ frames := 1, cells := 0, slots := 0, locals := 14 }) (va_Pc [.int x0] (s_W dC dI sz L F [(cs 0, .int), (cs 1, .byte), (cs 2, .long), (cs 3, .object RX5), (cs 4, .object RX4), (cs 5, .array .int), (cs 6, .char), (cs 7, .boolean)])) (va_Qi (fun (r : Int32) (G : Nat → va_E) => (-9999 ≤ r.toInt ∧ r.toInt ≤ 9999) ∧ True ∧ s_I K cs D G ∧ ∀ b, K b ∉ ([] : List Nat) → G b = F b) (fun (G : Nat → va_E) (t : State) => va_P (dC, dI) vwCl (va_pl L G) t.heap ∧ va_K (dC, dI) vwCl [(cs 0, .int), (cs 1, .byte), (cs 2, .long), (cs 3, .object RX5), (cs 4, .object RX4), (cs 5, .array .int), (cs 6, .char), (cs 7, .boolean)] t) (fun q => q ∈ L)) 0 0 (fun q => q ∈ L) := by
  refine Met.ofW (cc := cX1_bounded) (maxL := 1) (ret := (some .int)) (by decide) rfl ?_
  intro p e s m args below meth c s₁ B hml hv
  obtain ⟨rfl, hsz, hP, hK, hD, hN⟩ := hv
  have hx := B.exec
  have hb := B.bytes
  have hr := B.returns
  have hts : ∀ w ∈ T0, w.before _ s = true := fun w h => atoms_spec (ws := Cond.code yX1_bounded cX1_bounded 1 (some .int) :: T0) B.pre w (List.mem_cons_of_mem _ h)
  have hown : s.vm.findClass RX1 = some m.cls := findClass_of_methodNamed B.named
  have hlocks := B.notSynchronized
  have hS : va_S (fun q => q ∈ L) s.heap s.heap [] := va_S.rf
  have hfr : ∀ b, K b ∉ ([] : List Nat) → F b = F b := fun _ _ => rfl
  have hl := lv_entry ([.int x0]) (n := 1) (Nat.le_of_ble_eq_true rfl)
  rw [lg_entry_eq]
  generalize (lg_sl ([.int x0]) ++ List.replicate (1 - (lg_sl ([.int x0])).length) Slot.unset).toArray = ls at hl ⊢
  have hl : lv_has ls 1 [(0, .int x0)] := hl
  refine s_gen hP hS (fun H locs hP hS => ?_)
  refine lv_sipush (v := (-9999)) hx hb dX1_bounded_0 (by decide) ?_
  refine lv_sipush (v := 9999) hx hb dX1_bounded_3 (by decide) ?_
  refine lv_iload_n hx hb dX1_bounded_6 rfl (lv_at hl 0 rfl) ?_
  refine va_mmin hx hb (by rw [hml]; exact hl.1.symm) hown (hts _ T_623) (hts _ T_236) (hts _ T_237) (hts _ T_19) (Nat.le_of_ble_eq_true rfl) (Nat.le_of_ble_eq_true rfl) (Nat.zero_le _) (Nat.zero_le _) dX1_bounded_7 ?_
  refine lv_topi (fun v1 ev1 => ?_)
  have qv1 := th_mmin (a := 9999) (b := x0.toInt) ev1 (by decide) rfl
  refine va_mmax hx hb (by rw [hml]; exact hl.1.symm) hown (hts _ T_608) (hts _ T_609) (hts _ T_237) (hts _ T_610) (Nat.le_of_ble_eq_true rfl) (Nat.le_of_ble_eq_true rfl) (Nat.zero_le _) (Nat.zero_le _) dX1_bounded_10 ?_
  refine lv_topi (fun v2 ev2 => ?_)
  have qv2 := th_mmax (a := (-9999)) (b := v1.toInt) ev2 (by decide) rfl
  exact W.iret (v := v2) hx hb hr (fun t ht hW => ⟨⟨v2, F, rfl, ⟨⟨by omega, by omega⟩, trivial, hI, hfr⟩, by rw [ht]; exact hP, va_K.moved hW.alike hK⟩, hS.F ht⟩) hS.2.2 dX1_bounded_13

set_option maxHeartbeats 4000000 in
set_option maxRecDepth 100000 in
theorem s_X1_moveTop (l : Launch) (dC : Nat → ClassId) (dI : Nat → Nat → Nat) (sz : Nat) {L : List Nat} {K : Nat → Nat} {cs : Nat → ClassId} (hLK : ∀ a {k : Nat}, K a = k → k ≠ 0 → a ∈ L) (D : Nat) (F : Nat → va_E) (a0 : Nat) (ha0 : K a0 = 2) (hI : s_I K cs D F) (hR : s_rd3 K F a0) : Met l yX1_moveTop (Cond.code yX1_moveTop cX1_moveTop 2 none :: T0) ({ frames := 3, cells := 0, slots := 0, locals := 67 }) (va_Pc [.ref a0] (s_W dC dI sz L F [(cs 0, .int), (cs 1, .byte), (cs 2, .long), (cs 3, .object RX5), (cs 4, .object RX4), (cs 5, .array .int), (cs 6, .char), (cs 7, .boolean)])) (va_Qv (fun (G : Nat → va_E) => True ∧ True ∧ s_I K cs D G ∧ ∀ b, K b ∉ [6, 32] → G b = F b) (fun (G : Nat → va_E) (t : State) => va_P (dC, dI) vwCl (va_pl L G) t.heap ∧ va_K (dC, dI) vwCl [(cs 0, .int), (cs 1, .byte), (cs 2, .long), (cs 3, .object RX5), (cs 4, .object RX4), (cs 5, .array .int), (cs 6, .char), (cs 7, .boolean)] t) (fun q => q ∈ L)) 0 0 (fun q => q ∈ L) := by
  refine Met.ofW (cc := cX1_moveTop) (maxL := 2) (ret := none) (by decide) rfl ?_
  intro p e s m args below meth c s₁ B hml hv
  obtain ⟨rfl, hsz, hP, hK, hD, hN⟩ := hv
  have hx := B.exec
  have hb := B.bytes
  have hr := B.returns
  have hts : ∀ w ∈ T0, w.before _ s = true := fun w h => atoms_spec (ws := Cond.code yX1_moveTop cX1_moveTop 2 none :: T0) B.pre w (List.mem_cons_of_mem _ h)
  have hown : s.vm.findClass RX1 = some m.cls := findClass_of_methodNamed B.named
  have hlocks := B.notSynchronized
  have hS : va_S (fun q => q ∈ L) s.heap s.heap [] := va_S.rf
  have hfr : ∀ b, K b ∉ [6, 32] → F b = F b := fun _ _ => rfl
  have hl := lv_entry ([.ref a0]) (n := 2) (Nat.le_of_ble_eq_true rfl)
  rw [lg_entry_eq]
  generalize (lg_sl ([.ref a0]) ++ List.replicate (2 - (lg_sl ([.ref a0])).length) Slot.unset).toArray = ls at hl ⊢
  have hl : lv_has ls 2 [(0, .ref a0)] := hl
  refine s_gen hP hS (fun H locs hP hS => ?_)
  obtain ⟨z1, z3, z5, z7, z9, z11, z13, z15, z16, z17, z19, z20, o21, h2, h4, h6, h8, h10, h12, h14, h18, -⟩ := hR
  refine th_join (fun g H locs => ∃ (G : Nat → va_E) (ls : Array Slot), g = F0 m 127 ls [] ∧ lv_has ls 2 [(0, .ref a0)] ∧ s_I K cs D G ∧ va_P (dC, dI) vwCl (va_pl L G) H ∧ va_S (fun q => q ∈ L) s.heap H locs ∧ (∀ b, K b ∉ [6, 32] → G b = F b) ∧ s_rd3 K G a0) (fun K127 => ?_) ?_
  refine th_join (fun g H locs => ∃ (G : Nat → va_E) (ls : Array Slot), g = F0 m 109 ls [] ∧ lv_has ls 2 [(0, .ref a0)] ∧ s_I K cs D G ∧ va_P (dC, dI) vwCl (va_pl L G) H ∧ va_S (fun q => q ∈ L) s.heap H locs ∧ (∀ b, K b ∉ [6, 32] → G b = F b) ∧ s_rd3 K G a0) (fun K109 => ?_) ?_
  · refine lv_aload_n hx hb dX1_moveTop_0 rfl (lv_at hl 0 rfl) ?_
    refine th_get (D := (dC, dI)) (ci := 1) (v := .ref z11) (C := RX1) (T := TX1) (N := 12) hx hb hts inX1 hown hK hP (hLK _ ha0 (by decide)) o21 rfl 5 (by decide) (hts _ T_607) (fun _ h9 => h9) rfl dX1_moveTop_1 ?_
    refine lv_iconst (v := 0) hx hb dX1_moveTop_4 (by decide) ?_
    obtain ⟨f22, o23, h24⟩ := s_op23 hI h12
    refine th_iald hx hb hK hP (hLK _ h12 (by decide)) 0 o23 rfl (ax_in (by decide)) dX1_moveTop_5 ?_
    refine lv_topi (fun v25 ev25 => ?_)
    refine lv_bipush (v := 13) hx hb dX1_moveTop_6 (by decide) ?_
    refine lv_icmp_ne (tgt := 28) hx hb dX1_moveTop_8 (by decide) (fun c26 => ?_) (fun c26 => ?_)
    · have c26 := mt (ax_eq (n := 13) (by decide)).mpr c26
      refine lv_aload_n hx hb dX1_moveTop_28 rfl (lv_at hl 0 rfl) ?_
      refine va_calli (va_runV (As := []) (rest := []) ⟨hx, hb, hml, hown, hts⟩ (s_X1_goers l dC dI H.size hLK D F a0 ha0 hI ⟨z1, z3, z5, z7, z9, z11, z13, z15, z16, z17, z19, z20, o21, h2, h4, h6, h8, h10, h12, ⟨by omega, by omega⟩, ⟨by omega, by omega⟩, trivial⟩) (cwV 0 hts (ax_gV T_665 T_667 T_668 T_137 T_666) rfl rfl rfl (by decide +kernel) ⟨Nat.le_of_ble_eq_true rfl, Nat.le_of_ble_eq_true rfl⟩) ⟨fun a U g mk q => ⟨q.1, s_pc (U := U) rfl rfl q.2⟩, s_recv hK hP (hLK _ ha0 (by decide)) (ci := 1) rfl o21, fun U hU hW => ⟨rfl, s_pw hU hW hP hK hD hN⟩⟩ rfl rfl hl.1 rfl (lv_room (Nat.le_of_ble_eq_true rfl)) dX1_moveTop_29 ⟨Nat.zero_le _, Nat.zero_le _⟩) hS (fun q _ h => h) (fun q h => h) (fun r27 F28 t H1 locs ht hvm hw hB hz1 hk1 hS => ?_)
      obtain ⟨hP, hK1⟩ := hB
      rw [ht] at hP
      generalize H1 = H at hP hS ⊢
      clear hz1 hk1
      obtain ⟨h29, h30, hI, hfr1⟩ := hw
      have o31 : F28 a0 = .inr (1, [.ref z1, .ref z3, .ref z5, .ref z7, .ref z9, .ref z11, .int z13, .int z15, .int z16, .int z17, .int z19, .long z20]) := (hfr1 _ (by rw [ha0]; decide)).trans o21
      have hfr : ∀ b, K b ∉ [6, 32] → F28 b = F b := fun b hb9 => (hfr1 b (fun q => hb9 (s_sub (by decide) q))).trans (hfr b hb9)
      refine lv_istore_n (lv' := [(1, .int r27), (0, .ref a0)]) hx hb dX1_moveTop_32 rfl hl (by decide) rfl (fun ls hl => ?_)
      refine lv_iload_n hx hb dX1_moveTop_33 rfl (lv_at hl 0 rfl) ?_
      refine lv_if_ne (tgt := 51) hx hb dX1_moveTop_34 (by decide) (fun c32 => ?_) (fun c32 => ?_)
      · have c32 := mt (ax_eq (n := 0) (by decide)).mpr c32
        refine lv_iload_n hx hb dX1_moveTop_51 rfl (lv_at hl 0 rfl) ?_
        refine lv_aload_n hx hb dX1_moveTop_52 rfl (lv_at hl 1 rfl) ?_
        refine th_get (D := (dC, dI)) (ci := 1) (v := .int z16) (C := RX1) (T := TX1) (N := 12) hx hb hts inX1 hown hK hP (hLK _ ha0 (by decide)) o31 rfl 8 (by decide) (hts _ T_645) (fun _ h9 => h9) rfl dX1_moveTop_53 ?_
        refine lv_icmp_ne (tgt := 75) hx hb dX1_moveTop_56 (by decide) (fun c33 => ?_) (fun c33 => ?_)
        · have c33 := mt Int32.toInt_inj.symm.mpr c33
          refine lv_aload_n hx hb dX1_moveTop_75 rfl (lv_at hl 1 rfl) ?_
          refine th_get (D := (dC, dI)) (ci := 1) (v := .ref z9) (C := RX1) (T := TX1) (N := 12) hx hb hts inX1 hown hK hP (hLK _ ha0 (by decide)) o31 rfl 4 (by decide) (hts _ T_612) (fun _ h9 => h9) rfl dX1_moveTop_76 ?_
          refine lv_aload_n hx hb dX1_moveTop_79 rfl (lv_at hl 1 rfl) ?_
          refine th_get (D := (dC, dI)) (ci := 1) (v := .int z15) (C := RX1) (T := TX1) (N := 12) hx hb hts inX1 hown hK hP (hLK _ ha0 (by decide)) o31 rfl 7 (by decide) (hts _ T_632) (fun _ h9 => h9) rfl dX1_moveTop_80 ?_
          refine lv_iconst (v := 1) hx hb dX1_moveTop_83 (by decide) ?_
          refine lv_iadd hx hb dX1_moveTop_84 ?_
          refine lv_topi (fun v34 ev34 => ?_)
          refine lv_aload_n hx hb dX1_moveTop_85 rfl (lv_at hl 1 rfl) ?_
          refine th_get (D := (dC, dI)) (ci := 1) (v := .ref z11) (C := RX1) (T := TX1) (N := 12) hx hb hts inX1 hown hK hP (hLK _ ha0 (by decide)) o31 rfl 5 (by decide) (hts _ T_607) (fun _ h9 => h9) rfl dX1_moveTop_86 ?_
          refine lv_iconst (v := 4) hx hb dX1_moveTop_89 (by decide) ?_
          obtain ⟨f35, o36, h37⟩ := s_op23 hI h12
          refine th_iald hx hb hK hP (hLK _ h12 (by decide)) 0 o36 rfl (ax_in (by decide)) dX1_moveTop_90 ?_
          refine lv_topi (fun v38 ev38 => ?_)
          refine lv_aload_n hx hb dX1_moveTop_91 rfl (lv_at hl 1 rfl) ?_
          refine th_get (D := (dC, dI)) (ci := 1) (v := .ref z11) (C := RX1) (T := TX1) (N := 12) hx hb hts inX1 hown hK hP (hLK _ ha0 (by decide)) o31 rfl 5 (by decide) (hts _ T_607) (fun _ h9 => h9) rfl dX1_moveTop_92 ?_
          refine lv_bipush (v := 6) hx hb dX1_moveTop_95 (by decide) ?_
          obtain ⟨f39, o40, h41⟩ := s_op23 hI h12
          refine th_iald hx hb hK hP (hLK _ h12 (by decide)) 0 o40 rfl (ax_in (by decide)) dX1_moveTop_97 ?_
          refine lv_topi (fun v42 ev42 => ?_)
          refine lv_iload_n hx hb dX1_moveTop_98 rfl (lv_at hl 0 rfl) ?_
          refine lv_aload_n hx hb dX1_moveTop_99 rfl (lv_at hl 1 rfl) ?_
          refine th_get (D := (dC, dI)) (ci := 1) (v := .ref z5) (C := RX1) (T := TX1) (N := 12) hx hb hts inX1 hown hK hP (hLK _ ha0 (by decide)) o31 rfl 2 (by decide) (hts _ T_121) (fun _ h9 => h9) rfl dX1_moveTop_100 ?_
          obtain ⟨z43, z45, z47, z49, z51, z53, z54, o55, h44, h46, h48, h50, h52, -⟩ := s_op3 hI h6
          refine th_getN (D := (dC, dI)) (ci := 2) (v := .int z49) (C := RX2) (T := TX2) (N := 7) hx hb hts inX2 hown hK hP (hLK _ h6 (by decide)) o55 rfl 3 (by decide) (va_Nw.use rfl (ax_n21 hN)) (fun _ h9 => h9) rfl dX1_moveTop_103 ?_
          obtain ⟨z56, z58, z60, z62, z64, z66, z68, z69, z70, z71, z72, o74, h57, h59, h61, h63, h65, h67, h73, -⟩ := s_op6 hI h10
          refine va_callv (va_runV (As := [.int v34, .int v38, .int v42, .int r27, .int z49]) (rest := []) ⟨hx, hb, hml, hown, hts⟩ (s_X5_splitTop l dC dI H.size hLK D F28 z9 v34 v38 v42 r27 z49 h10 hI) (cwV 5 hts (ax_gV T_681 T_683 T_684 T_116 T_682) rfl rfl rfl (by decide +kernel) ⟨Nat.le_of_ble_eq_true rfl, Nat.le_of_ble_eq_true rfl⟩) ⟨fun a U g mk q => ⟨q.1, s_pc (U := U) rfl rfl q.2⟩, s_recv hK hP (hLK _ h10 (by decide)) (ci := 5) rfl o74, fun U hU hW => ⟨rfl, s_pw hU hW hP hK hD hN⟩⟩ rfl rfl hl.1 rfl (lv_room (Nat.le_of_ble_eq_true rfl)) dX1_moveTop_106 ⟨Nat.zero_le _, Nat.zero_le _⟩) hS (fun q _ h => h) (fun q h => h) (fun F75 t H1 locs ht hvm hw hB hz1 hk1 hS => ?_)
          obtain ⟨hP, hK1⟩ := hB
          rw [ht] at hP
          generalize H1 = H at hP hS ⊢
          clear hz1 hk1
          obtain ⟨h76, h77, hI, hfr1⟩ := hw
          have o78 : F75 a0 = .inr (1, [.ref z1, .ref z3, .ref z5, .ref z7, .ref z9, .ref z11, .int z13, .int z15, .int z16, .int z17, .int z19, .long z20]) := (hfr1 _ (by rw [ha0]; decide)).trans o31
          have o79 : F75 z5 = .inr (2, [.ref z43, .ref z45, .ref z47, .int z49, .int z51, .int z53, .int z54]) := (hfr1 _ (by rw [h6]; decide)).trans o55
          have hfr : ∀ b, K b ∉ [6, 32] → F75 b = F b := fun b hb9 => (hfr1 b (fun q => hb9 (s_sub (by decide) q))).trans (hfr b hb9)
          exact K109 _ _ _ ⟨F75, _, rfl, lv_sub hl [1] rfl, hI, hP, hS, hfr, ⟨z1, z3, z5, z7, z9, z11, z13, z15, z16, z17, z19, z20, o78, h2, h4, h6, h8, h10, h12, ⟨by omega, by omega⟩, ⟨by omega, by omega⟩, trivial⟩⟩
        · have c33 := Int32.toInt_inj.symm.mp c33
          refine lv_aload_n hx hb dX1_moveTop_59 rfl (lv_at hl 1 rfl) ?_
          refine th_get (D := (dC, dI)) (ci := 1) (v := .ref z9) (C := RX1) (T := TX1) (N := 12) hx hb hts inX1 hown hK hP (hLK _ ha0 (by decide)) o31 rfl 4 (by decide) (hts _ T_612) (fun _ h9 => h9) rfl dX1_moveTop_60 ?_
          refine lv_aload_n hx hb dX1_moveTop_63 rfl (lv_at hl 1 rfl) ?_
          refine th_get (D := (dC, dI)) (ci := 1) (v := .ref z11) (C := RX1) (T := TX1) (N := 12) hx hb hts inX1 hown hK hP (hLK _ ha0 (by decide)) o31 rfl 5 (by decide) (hts _ T_607) (fun _ h9 => h9) rfl dX1_moveTop_64 ?_
          refine lv_iconst (v := 4) hx hb dX1_moveTop_67 (by decide) ?_
          obtain ⟨f80, o81, h82⟩ := s_op23 hI h12
          refine th_iald hx hb hK hP (hLK _ h12 (by decide)) 0 o81 rfl (ax_in (by decide)) dX1_moveTop_68 ?_
          refine lv_topi (fun v83 ev83 => ?_)
          obtain ⟨z84, z86, z88, z90, z92, z94, z96, z97, z98, z99, z100, o102, h85, h87, h89, h91, h93, h95, h101, -⟩ := s_op6 hI h10
          refine va_callv (va_runV (As := [.int v83]) (rest := []) ⟨hx, hb, hml, hown, hts⟩ (s_X5_moveTop l dC dI H.size hLK D F28 z9 v83 h10 hI) (cwV 1 hts (ax_gV T_677 T_679 T_680 T_116 T_678) rfl rfl rfl (by decide +kernel) ⟨Nat.le_of_ble_eq_true rfl, Nat.le_of_ble_eq_true rfl⟩) ⟨fun a U g mk q => ⟨q.1, s_pc (U := U) rfl rfl q.2⟩, s_recv hK hP (hLK _ h10 (by decide)) (ci := 5) rfl o102, fun U hU hW => ⟨rfl, s_pw hU hW hP hK hD hN⟩⟩ rfl rfl hl.1 rfl (lv_room (Nat.le_of_ble_eq_true rfl)) dX1_moveTop_69 ⟨Nat.zero_le _, Nat.zero_le _⟩) hS (fun q _ h => h) (fun q h => h) (fun F103 t H1 locs ht hvm hw hB hz1 hk1 hS => ?_)
          obtain ⟨hP, hK1⟩ := hB
          rw [ht] at hP
          generalize H1 = H at hP hS ⊢
          clear hz1 hk1
          obtain ⟨h104, h105, hI, hfr1⟩ := hw
          have o106 : F103 a0 = .inr (1, [.ref z1, .ref z3, .ref z5, .ref z7, .ref z9, .ref z11, .int z13, .int z15, .int z16, .int z17, .int z19, .long z20]) := (hfr1 _ (by rw [ha0]; decide)).trans o31
          have o107 : F103 z9 = .inr (5, [.ref z84, .ref z86, .ref z88, .ref z90, .ref z92, .int z94, .int z96, .int z97, .int z98, .int z99, .int z100]) := (hfr1 _ (by rw [h10]; decide)).trans o102
          have hfr : ∀ b, K b ∉ [6, 32] → F103 b = F b := fun b hb9 => (hfr1 b (fun q => hb9 (s_sub (by decide) q))).trans (hfr b hb9)
          refine lv_goto (tgt := 109) hx hb dX1_moveTop_72 (by decide) ?_
          exact K109 _ _ _ ⟨F103, _, rfl, lv_sub hl [1] rfl, hI, hP, hS, hfr, ⟨z1, z3, z5, z7, z9, z11, z13, z15, z16, z17, z19, z20, o106, h2, h4, h6, h8, h10, h12, ⟨by omega, by omega⟩, ⟨by omega, by omega⟩, trivial⟩⟩
      · have c32 := (ax_eq (n := 0) (by decide)).mp c32
        refine lv_aload_n hx hb dX1_moveTop_37 rfl (lv_at hl 1 rfl) ?_
        refine th_get (D := (dC, dI)) (ci := 1) (v := .ref z9) (C := RX1) (T := TX1) (N := 12) hx hb hts inX1 hown hK hP (hLK _ ha0 (by decide)) o31 rfl 4 (by decide) (hts _ T_612) (fun _ h9 => h9) rfl dX1_moveTop_38 ?_
        refine lv_aload_n hx hb dX1_moveTop_41 rfl (lv_at hl 1 rfl) ?_
        refine va_calli (va_runV (As := []) (rest := [.ref z9]) ⟨hx, hb, hml, hown, hts⟩ (s_X1_lineBehind l dC dI H.size hLK D F28 a0 ha0 hI ⟨z1, z3, z5, z7, z9, z11, z13, z15, z16, z17, z19, z20, o31, h2, h4, h6, h8, h10, h12, ⟨by omega, by omega⟩, ⟨by omega, by omega⟩, trivial⟩) (cwV 0 hts (ax_gV T_669 T_671 T_672 T_137 T_670) rfl rfl rfl (by decide +kernel) ⟨Nat.le_of_ble_eq_true rfl, Nat.le_of_ble_eq_true rfl⟩) ⟨fun a U g mk q => ⟨q.1, s_pc (U := U) rfl rfl q.2⟩, s_recv hK hP (hLK _ ha0 (by decide)) (ci := 1) rfl o31, fun U hU hW => ⟨rfl, s_pw hU hW hP hK hD hN⟩⟩ rfl rfl hl.1 rfl (lv_room (Nat.le_of_ble_eq_true rfl)) dX1_moveTop_42 ⟨Nat.zero_le _, Nat.zero_le _⟩) hS (fun q _ h => h) (fun q h => h) (fun r108 F109 t H1 locs ht hvm hw hB hz1 hk1 hS => ?_)
        obtain ⟨hP, hK1⟩ := hB
        rw [ht] at hP
        generalize H1 = H at hP hS ⊢
        clear hz1 hk1
        obtain ⟨h110, h111, hI, hfr1⟩ := hw
        have o112 : F109 a0 = .inr (1, [.ref z1, .ref z3, .ref z5, .ref z7, .ref z9, .ref z11, .int z13, .int z15, .int z16, .int z17, .int z19, .long z20]) := (hfr1 _ (by rw [ha0]; decide)).trans o31
        have hfr : ∀ b, K b ∉ [6, 32] → F109 b = F b := fun b hb9 => (hfr1 b (fun q => hb9 (s_sub (by decide) q))).trans (hfr b hb9)
        obtain ⟨z113, z115, z117, z119, z121, z123, z125, z126, z127, z128, z129, o131, h114, h116, h118, h120, h122, h124, h130, -⟩ := s_op6 hI h10
        refine va_callv (va_runV (As := [.int r108]) (rest := []) ⟨hx, hb, hml, hown, hts⟩ (s_X5_moveTop l dC dI H.size hLK D F109 z9 r108 h10 hI) (cwV 1 hts (ax_gV T_677 T_679 T_680 T_116 T_678) rfl rfl rfl (by decide +kernel) ⟨Nat.le_of_ble_eq_true rfl, Nat.le_of_ble_eq_true rfl⟩) ⟨fun a U g mk q => ⟨q.1, s_pc (U := U) rfl rfl q.2⟩, s_recv hK hP (hLK _ h10 (by decide)) (ci := 5) rfl o131, fun U hU hW => ⟨rfl, s_pw hU hW hP hK hD hN⟩⟩ rfl rfl hl.1 rfl (lv_room (Nat.le_of_ble_eq_true rfl)) dX1_moveTop_45 ⟨Nat.zero_le _, Nat.zero_le _⟩) hS (fun q _ h => h) (fun q h => h) (fun F132 t H1 locs ht hvm hw hB hz1 hk1 hS => ?_)
        obtain ⟨hP, hK1⟩ := hB
        rw [ht] at hP
        generalize H1 = H at hP hS ⊢
        clear hz1 hk1
        obtain ⟨h133, h134, hI, hfr1⟩ := hw
        have o135 : F132 a0 = .inr (1, [.ref z1, .ref z3, .ref z5, .ref z7, .ref z9, .ref z11, .int z13, .int z15, .int z16, .int z17, .int z19, .long z20]) := (hfr1 _ (by rw [ha0]; decide)).trans o112
        have o136 : F132 z9 = .inr (5, [.ref z113, .ref z115, .ref z117, .ref z119, .ref z121, .int z123, .int z125, .int z126, .int z127, .int z128, .int z129]) := (hfr1 _ (by rw [h10]; decide)).trans o131
        have hfr : ∀ b, K b ∉ [6, 32] → F132 b = F b := fun b hb9 => (hfr1 b (fun q => hb9 (s_sub (by decide) q))).trans (hfr b hb9)
        refine lv_goto (tgt := 109) hx hb dX1_moveTop_48 (by decide) ?_
        exact K109 _ _ _ ⟨F132, _, rfl, lv_sub hl [1] rfl, hI, hP, hS, hfr, ⟨z1, z3, z5, z7, z9, z11, z13, z15, z16, z17, z19, z20, o135, h2, h4, h6, h8, h10, h12, ⟨by omega, by omega⟩, ⟨by omega, by omega⟩, trivial⟩⟩
    · have c26 := (ax_eq (n := 13) (by decide)).mp c26
      refine lv_aload_n hx hb dX1_moveTop_11 rfl (lv_at hl 0 rfl) ?_
      refine th_get (D := (dC, dI)) (ci := 1) (v := .ref z9) (C := RX1) (T := TX1) (N := 12) hx hb hts inX1 hown hK hP (hLK _ ha0 (by decide)) o21 rfl 4 (by decide) (hts _ T_612) (fun _ h9 => h9) rfl dX1_moveTop_12 ?_
      refine lv_dup hx hb dX1_moveTop_15 rfl ?_
      obtain ⟨z137, z139, z141, z143, z145, z147, z149, z150, z151, z152, z153, o155, h138, h140, h142, h144, h146, h148, h154, -⟩ := s_op6 hI h10
      refine th_getN (D := (dC, dI)) (ci := 5) (v := .int z150) (C := RX5) (T := TX5) (N := 11) hx hb hts inX5 hown hK hP (hLK _ h10 (by decide)) o155 rfl 7 (by decide) (va_Nw.use rfl (ax_n30 hN)) (fun _ h9 => h9) rfl dX1_moveTop_16 ?_
      refine lv_aload_n hx hb dX1_moveTop_19 rfl (lv_at hl 0 rfl) ?_
      refine th_get (D := (dC, dI)) (ci := 1) (v := .int z16) (C := RX1) (T := TX1) (N := 12) hx hb hts inX1 hown hK hP (hLK _ ha0 (by decide)) o21 rfl 8 (by decide) (hts _ T_645) (fun _ h9 => h9) rfl dX1_moveTop_20 ?_
      refine lv_ior hx hb dX1_moveTop_23 ?_
      refine lv_topi (fun v156 ev156 => ?_)
      refine th_putN (D := (dC, dI)) (ci := 5) (v := .int v156) (ty := .int) (C := RX5) (T := TX5) (N := 11) hx hb hts inX5 tyX5 tyX5_ok nmX5 hown hK hP hD hS (hLK _ h10 (by decide)) o155 rfl 7 (by decide) (va_Nw.use rfl (ax_n30 hN)) (fun _ h9 => h9) rfl (by decide +kernel) rfl rfl (Nat.le_of_ble_eq_true rfl) dX1_moveTop_24 (fun H locs hP hS => ?_)
      have hP : va_P (dC, dI) vwCl (va_pl L (va_up F z9 (.inr (5, [.ref z137, .ref z139, .ref z141, .ref z143, .ref z145, .int z147, .int z149, .int v156, .int z151, .int z152, .int z153])))) H := hP
      obtain ⟨F157, hF158⟩ : ∃ G : Nat → va_E, G = va_up F z9 (.inr (5, [.ref z137, .ref z139, .ref z141, .ref z143, .ref z145, .int z147, .int z149, .int v156, .int z151, .int z152, .int z153])) := ⟨_, rfl⟩
      rw [← hF158] at hP
      have hI : s_I K cs D F157 := by rw [hF158]; exact s_cl6 hI h10 ⟨z137, z139, z141, z143, z145, z147, z149, v156, z151, z152, z153, rfl, h138, h140, h142, h144, h146, ⟨by omega, by omega⟩, ⟨by omega, by omega⟩, trivial⟩
      have hfr : ∀ b, K b ∉ [6, 32] → F157 b = F b := by rw [hF158]; exact s_fr hfr h10 (by decide)
      have o159 : F157 a0 = .inr (1, [.ref z1, .ref z3, .ref z5, .ref z7, .ref z9, .ref z11, .int z13, .int z15, .int z16, .int z17, .int z19, .long z20]) := by rw [hF158]; exact th_ne (th_kd ha0 h10 (by decide)) o21
      have o160 : F157 z9 = .inr (5, [.ref z137, .ref z139, .ref z141, .ref z143, .ref z145, .int z147, .int z149, .int v156, .int z151, .int z152, .int z153]) := by rw [hF158]; exact th_up
      exact W.vret hx hb hr (fun t ht hW => ⟨⟨F157, rfl, ⟨trivial, trivial, hI, hfr⟩, by rw [ht]; exact hP, va_K.moved hW.alike hK⟩, hS.F ht⟩) hS.2.2 dX1_moveTop_27
  · intro g H locs hq
    obtain ⟨F9, ls, rfl, hl, hI, hP, hS, hfr, h161⟩ := hq
    obtain ⟨z162, z164, z166, z168, z170, z172, z174, z176, z177, z178, z180, z181, o182, h163, h165, h167, h169, h171, h173, h175, h179, -⟩ := h161
    refine lv_aload_n hx hb dX1_moveTop_109 rfl (lv_at hl 0 rfl) ?_
    refine th_get (D := (dC, dI)) (ci := 1) (v := .ref z172) (C := RX1) (T := TX1) (N := 12) hx hb hts inX1 hown hK hP (hLK _ ha0 (by decide)) o182 rfl 5 (by decide) (hts _ T_607) (fun _ h9 => h9) rfl dX1_moveTop_110 ?_
    refine lv_iconst (v := 0) hx hb dX1_moveTop_113 (by decide) ?_
    obtain ⟨f183, o184, h185⟩ := s_op23 hI h173
    refine th_iald hx hb hK hP (hLK _ h173 (by decide)) 0 o184 rfl (ax_in (by decide)) dX1_moveTop_114 ?_
    refine lv_topi (fun v186 ev186 => ?_)
    refine lv_bipush (v := 14) hx hb dX1_moveTop_115 (by decide) ?_
    refine lv_icmp_ne (tgt := 127) hx hb dX1_moveTop_117 (by decide) (fun c187 => ?_) (fun c187 => ?_)
    · have c187 := mt (ax_eq (n := 14) (by decide)).mpr c187
      exact K127 _ _ _ ⟨F9, _, rfl, lv_sub hl [0] rfl, hI, hP, hS, hfr, ⟨z162, z164, z166, z168, z170, z172, z174, z176, z177, z178, z180, z181, o182, h163, h165, h167, h169, h171, h173, ⟨by omega, by omega⟩, ⟨by omega, by omega⟩, trivial⟩⟩
    · have c187 := (ax_eq (n := 14) (by decide)).mp c187
      refine lv_aload_n hx hb dX1_moveTop_120 rfl (lv_at hl 0 rfl) ?_
      refine th_get (D := (dC, dI)) (ci := 1) (v := .ref z170) (C := RX1) (T := TX1) (N := 12) hx hb hts inX1 hown hK hP (hLK _ ha0 (by decide)) o182 rfl 4 (by decide) (hts _ T_612) (fun _ h9 => h9) rfl dX1_moveTop_121 ?_
      obtain ⟨z188, z190, z192, z194, z196, z198, z200, z201, z202, z203, z204, o206, h189, h191, h193, h195, h197, h199, h205, -⟩ := s_op6 hI h171
      refine va_callv (va_runV (As := []) (rest := []) ⟨hx, hb, hml, hown, hts⟩ (s_X5_yieldTop l dC dI H.size hLK D F9 z170 h171 hI) (cwV 0 hts (ax_gV T_685 T_687 T_688 T_116 T_686) rfl rfl rfl (by decide +kernel) ⟨Nat.le_of_ble_eq_true rfl, Nat.le_of_ble_eq_true rfl⟩) ⟨fun a U g mk q => ⟨q.1, s_pc (U := U) rfl rfl q.2⟩, s_recv hK hP (hLK _ h171 (by decide)) (ci := 5) rfl o206, fun U hU hW => ⟨rfl, s_pw hU hW hP hK hD hN⟩⟩ rfl rfl hl.1 rfl (lv_room (Nat.le_of_ble_eq_true rfl)) dX1_moveTop_124 ⟨Nat.zero_le _, Nat.zero_le _⟩) hS (fun q _ h => h) (fun q h => h) (fun F207 t H1 locs ht hvm hw hB hz1 hk1 hS => ?_)
      obtain ⟨hP, hK1⟩ := hB
      rw [ht] at hP
      generalize H1 = H at hP hS ⊢
      clear hz1 hk1
      obtain ⟨h208, h209, hI, hfr1⟩ := hw
      have o210 : F207 a0 = .inr (1, [.ref z162, .ref z164, .ref z166, .ref z168, .ref z170, .ref z172, .int z174, .int z176, .int z177, .int z178, .int z180, .long z181]) := (hfr1 _ (by rw [ha0]; decide)).trans o182
      have o211 : F207 z170 = .inr (5, [.ref z188, .ref z190, .ref z192, .ref z194, .ref z196, .int z198, .int z200, .int z201, .int z202, .int z203, .int z204]) := (hfr1 _ (by rw [h171]; decide)).trans o206
      have hfr : ∀ b, K b ∉ [6, 32] → F207 b = F b := fun b hb9 => (hfr1 b (fun q => hb9 (s_sub (by decide) q))).trans (hfr b hb9)
      exact K127 _ _ _ ⟨F207, _, rfl, lv_sub hl [0] rfl, hI, hP, hS, hfr, ⟨z162, z164, z166, z168, z170, z172, z174, z176, z177, z178, z180, z181, o210, h163, h165, h167, h169, h171, h173, ⟨by omega, by omega⟩, ⟨by omega, by omega⟩, trivial⟩⟩
  · intro g H locs hq
    obtain ⟨F9, ls, rfl, hl, hI, hP, hS, hfr, h212⟩ := hq
    obtain ⟨z213, z215, z217, z219, z221, z223, z225, z227, z228, z229, z231, z232, o233, h214, h216, h218, h220, h222, h224, h226, h230, -⟩ := h212
    refine lv_aload_n hx hb dX1_moveTop_127 rfl (lv_at hl 0 rfl) ?_
    refine th_get (D := (dC, dI)) (ci := 1) (v := .ref z221) (C := RX1) (T := TX1) (N := 12) hx hb hts inX1 hown hK hP (hLK _ ha0 (by decide)) o233 rfl 4 (by decide) (hts _ T_612) (fun _ h9 => h9) rfl dX1_moveTop_128 ?_
    refine lv_aload_n hx hb dX1_moveTop_131 rfl (lv_at hl 0 rfl) ?_
    refine th_get (D := (dC, dI)) (ci := 1) (v := .ref z217) (C := RX1) (T := TX1) (N := 12) hx hb hts inX1 hown hK hP (hLK _ ha0 (by decide)) o233 rfl 2 (by decide) (hts _ T_121) (fun _ h9 => h9) rfl dX1_moveTop_132 ?_
    obtain ⟨z234, z236, z238, z240, z242, z244, z245, o246, h235, h237, h239, h241, h243, -⟩ := s_op3 hI h218
    refine th_getN (D := (dC, dI)) (ci := 2) (v := .int z240) (C := RX2) (T := TX2) (N := 7) hx hb hts inX2 hown hK hP (hLK _ h218 (by decide)) o246 rfl 3 (by decide) (va_Nw.use rfl (ax_n21 hN)) (fun _ h9 => h9) rfl dX1_moveTop_135 ?_
    obtain ⟨z247, z249, z251, z253, z255, z257, z259, z260, z261, z262, z263, o265, h248, h250, h252, h254, h256, h258, h264, -⟩ := s_op6 hI h222
    refine va_callv (va_runV (As := [.int z240]) (rest := []) ⟨hx, hb, hml, hown, hts⟩ (s_X5_settle l dC dI H.size hLK D F9 z221 z240 h222 hI) (cwV 1 hts (ax_gV T_689 T_691 T_692 T_116 T_690) rfl rfl rfl (by decide +kernel) ⟨Nat.le_of_ble_eq_true rfl, Nat.le_of_ble_eq_true rfl⟩) ⟨fun a U g mk q => ⟨q.1, s_pc (U := U) rfl rfl q.2⟩, s_recv hK hP (hLK _ h222 (by decide)) (ci := 5) rfl o265, fun U hU hW => ⟨rfl, s_pw hU hW hP hK hD hN⟩⟩ rfl rfl hl.1 rfl (lv_room (Nat.le_of_ble_eq_true rfl)) dX1_moveTop_138 ⟨Nat.zero_le _, Nat.zero_le _⟩) hS (fun q _ h => h) (fun q h => h) (fun F266 t H1 locs ht hvm hw hB hz1 hk1 hS => ?_)
    obtain ⟨hP, hK1⟩ := hB
    rw [ht] at hP
    generalize H1 = H at hP hS ⊢
    clear hz1 hk1
    obtain ⟨h267, h268, hI, hfr1⟩ := hw
    have o269 : F266 a0 = .inr (1, [.ref z213, .ref z215, .ref z217, .ref z219, .ref z221, .ref z223, .int z225, .int z227, .int z228, .int z229, .int z231, .long z232]) := (hfr1 _ (by rw [ha0]; decide)).trans o233
    have o270 : F266 z217 = .inr (2, [.ref z234, .ref z236, .ref z238, .int z240, .int z242, .int z244, .int z245]) := (hfr1 _ (by rw [h218]; decide)).trans o246
    have hfr : ∀ b, K b ∉ [6, 32] → F266 b = F b := fun b hb9 => (hfr1 b (fun q => hb9 (s_sub (by decide) q))).trans (hfr b hb9)
    exact W.vret hx hb hr (fun t ht hW => ⟨⟨F266, rfl, ⟨trivial, trivial, hI, hfr⟩, by rw [ht]; exact hP, va_K.moved hW.alike hK⟩, hS.F ht⟩) hS.2.2 dX1_moveTop_141

set_option maxHeartbeats 4000000 in
set_option maxRecDepth 100000 in
theorem s_X1_moveEach (l : Launch) (dC : Nat → ClassId) (dI : Nat → Nat → Nat) (sz : Nat) {L : List Nat} {K : Nat → Nat} {cs : Nat → ClassId} (hLK : ∀ a {k : Nat}, K a = k → k ≠ 0 → a ∈ L) (D : Nat) (F : Nat → va_E) (a0 : Nat) (ha0 : K a0 = 2) (hI : s_I K cs D F) (hR : s_rd3 K F a0) : Met l yX1_moveEach (Cond.code yX1_moveEach cX1_moveEach 4 none :: T0) ({ frames := 3, cells := 0, slots := 0, locals := 67 }) (va_Pc [.ref a0] (s_W dC dI sz L F [(cs 0, .int), (cs 1, .byte), (cs 2, .long), (cs 3, .object RX5), (cs 4, .object RX4), (cs 5, .array .int), (cs 6, .char), (cs 7, .boolean)])) (va_Qv (fun (G : Nat → va_E) => True ∧ True ∧ s_I K cs D G ∧ ∀ b, K b ∉ [6, 31] → G b = F b) (fun (G : Nat → va_E) (t : State) => va_P (dC, dI) vwCl (va_pl L G) t.heap ∧ va_K (dC, dI) vwCl [(cs 0, .int), (cs 1, .byte), (cs 2, .long), (cs 3, .object RX5), (cs 4, .object RX4), (cs 5, .array .int), (cs 6, .char), (cs 7, .boolean)] t) (fun q => q ∈ L)) 0 0 (fun q => q ∈ L) := by
  refine Met.ofW (cc := cX1_moveEach) (maxL := 4) (ret := none) (by decide) rfl ?_
  intro p e s m args below meth c s₁ B hml hv
  obtain ⟨rfl, hsz, hP, hK, hD, hN⟩ := hv
  have hx := B.exec
  have hb := B.bytes
  have hr := B.returns
  have hts : ∀ w ∈ T0, w.before _ s = true := fun w h => atoms_spec (ws := Cond.code yX1_moveEach cX1_moveEach 4 none :: T0) B.pre w (List.mem_cons_of_mem _ h)
  have hown : s.vm.findClass RX1 = some m.cls := findClass_of_methodNamed B.named
  have hlocks := B.notSynchronized
  have hS : va_S (fun q => q ∈ L) s.heap s.heap [] := va_S.rf
  have hfr : ∀ b, K b ∉ [6, 31] → F b = F b := fun _ _ => rfl
  have hl := lv_entry ([.ref a0]) (n := 4) (Nat.le_of_ble_eq_true rfl)
  rw [lg_entry_eq]
  generalize (lg_sl ([.ref a0]) ++ List.replicate (4 - (lg_sl ([.ref a0])).length) Slot.unset).toArray = ls at hl ⊢
  have hl : lv_has ls 4 [(0, .ref a0)] := hl
  refine s_gen hP hS (fun H locs hP hS => ?_)
  obtain ⟨z1, z3, z5, z7, z9, z11, z13, z15, z16, z17, z19, z20, o21, h2, h4, h6, h8, h10, h12, h14, h18, -⟩ := hR
  refine lv_aload_n hx hb dX1_moveEach_0 rfl (lv_at hl 0 rfl) ?_
  refine th_get (D := (dC, dI)) (ci := 1) (v := .ref z9) (C := RX1) (T := TX1) (N := 12) hx hb hts inX1 hown hK hP (hLK _ ha0 (by decide)) o21 rfl 4 (by decide) (hts _ T_612) (fun _ h9 => h9) rfl dX1_moveEach_1 ?_
  refine lv_aload_n hx hb dX1_moveEach_4 rfl (lv_at hl 0 rfl) ?_
  refine th_get (D := (dC, dI)) (ci := 1) (v := .int z17) (C := RX1) (T := TX1) (N := 12) hx hb hts inX1 hown hK hP (hLK _ ha0 (by decide)) o21 rfl 9 (by decide) (hts _ T_664) (fun _ h9 => h9) rfl dX1_moveEach_5 ?_
  refine lv_iconst (v := 1) hx hb dX1_moveEach_8 (by decide) ?_
  refine lv_iadd hx hb dX1_moveEach_9 ?_
  refine lv_topi (fun v22 ev22 => ?_)
  have qv22 : v22.toInt = z17.toInt + 1 := by rw [ev22]; exact th_add rfl (by decide) ⟨by omega, by omega⟩
  refine lv_bipush (v := 8) hx hb dX1_moveEach_10 (by decide) ?_
  refine lv_irem hx hb dX1_moveEach_12 (by decide) ?_
  refine lv_topi (fun v23 ev23 => ?_)
  have qv23 : v23.toInt = v22.toInt % 8 := by rw [ev23]; exact th_rem rfl (by decide) (by omega) (by decide)
  obtain ⟨z24, z26, z28, z30, z32, z34, z36, z37, z38, z39, z40, o42, h25, h27, h29, h31, h33, h35, h41, -⟩ := s_op6 hI h10
  refine th_putN (D := (dC, dI)) (ci := 5) (v := .int v23) (ty := .int) (C := RX5) (T := TX5) (N := 11) hx hb hts inX5 tyX5 tyX5_ok nmX5 hown hK hP hD hS (hLK _ h10 (by decide)) o42 rfl 10 (by decide) (va_Nw.use rfl (ax_n29 hN)) (fun _ h9 => h9) rfl (by decide +kernel) rfl rfl (Nat.le_of_ble_eq_true rfl) dX1_moveEach_13 (fun H locs hP hS => ?_)
  have hP : va_P (dC, dI) vwCl (va_pl L (va_up F z9 (.inr (5, [.ref z24, .ref z26, .ref z28, .ref z30, .ref z32, .int z34, .int z36, .int z37, .int z38, .int z39, .int v23])))) H := hP
  obtain ⟨F43, hF44⟩ : ∃ G : Nat → va_E, G = va_up F z9 (.inr (5, [.ref z24, .ref z26, .ref z28, .ref z30, .ref z32, .int z34, .int z36, .int z37, .int z38, .int z39, .int v23])) := ⟨_, rfl⟩
  rw [← hF44] at hP
  have hI : s_I K cs D F43 := by rw [hF44]; exact s_cl6 hI h10 ⟨z24, z26, z28, z30, z32, z34, z36, z37, z38, z39, v23, rfl, h25, h27, h29, h31, h33, ⟨by omega, by omega⟩, ⟨by omega, by omega⟩, trivial⟩
  have hfr : ∀ b, K b ∉ [6, 31] → F43 b = F b := by rw [hF44]; exact s_fr hfr h10 (by decide)
  have o45 : F43 a0 = .inr (1, [.ref z1, .ref z3, .ref z5, .ref z7, .ref z9, .ref z11, .int z13, .int z15, .int z16, .int z17, .int z19, .long z20]) := by rw [hF44]; exact th_ne (th_kd ha0 h10 (by decide)) o21
  have o46 : F43 z9 = .inr (5, [.ref z24, .ref z26, .ref z28, .ref z30, .ref z32, .int z34, .int z36, .int z37, .int z38, .int z39, .int v23]) := by rw [hF44]; exact th_up
  refine lv_aload_n hx hb dX1_moveEach_16 rfl (lv_at hl 0 rfl) ?_
  refine th_get (D := (dC, dI)) (ci := 1) (v := .ref z11) (C := RX1) (T := TX1) (N := 12) hx hb hts inX1 hown hK hP (hLK _ ha0 (by decide)) o45 rfl 5 (by decide) (hts _ T_607) (fun _ h9 => h9) rfl dX1_moveEach_17 ?_
  refine lv_iconst (v := 0) hx hb dX1_moveEach_20 (by decide) ?_
  obtain ⟨f47, o48, h49⟩ := s_op23 hI h12
  refine th_iald hx hb hK hP (hLK _ h12 (by decide)) 0 o48 rfl (ax_in (by decide)) dX1_moveEach_21 ?_
  refine lv_topi (fun v50 ev50 => ?_)
  refine lv_bipush (v := 13) hx hb dX1_moveEach_22 (by decide) ?_
  refine lv_icmp_ne (tgt := 44) hx hb dX1_moveEach_24 (by decide) (fun c51 => ?_) (fun c51 => ?_)
  · have c51 := mt (ax_eq (n := 13) (by decide)).mpr c51
    refine lv_aload_n hx hb dX1_moveEach_44 rfl (lv_at hl 0 rfl) ?_
    refine va_calli (va_runV (As := []) (rest := []) ⟨hx, hb, hml, hown, hts⟩ (s_X1_goers l dC dI H.size hLK D F43 a0 ha0 hI ⟨z1, z3, z5, z7, z9, z11, z13, z15, z16, z17, z19, z20, o45, h2, h4, h6, h8, h10, h12, ⟨by omega, by omega⟩, ⟨by omega, by omega⟩, trivial⟩) (cwV 0 hts (ax_gV T_665 T_667 T_668 T_137 T_666) rfl rfl rfl (by decide +kernel) ⟨Nat.le_of_ble_eq_true rfl, Nat.le_of_ble_eq_true rfl⟩) ⟨fun a U g mk q => ⟨q.1, s_pc (U := U) rfl rfl q.2⟩, s_recv hK hP (hLK _ ha0 (by decide)) (ci := 1) rfl o45, fun U hU hW => ⟨rfl, s_pw hU hW hP hK hD hN⟩⟩ rfl rfl hl.1 rfl (lv_room (Nat.le_of_ble_eq_true rfl)) dX1_moveEach_45 ⟨Nat.zero_le _, Nat.zero_le _⟩) hS (fun q _ h => h) (fun q h => h) (fun r52 F53 t H1 locs ht hvm hw hB hz1 hk1 hS => ?_)
    obtain ⟨hP, hK1⟩ := hB
    rw [ht] at hP
    generalize H1 = H at hP hS ⊢
    clear hz1 hk1
    obtain ⟨h54, h55, hI, hfr1⟩ := hw
    have o56 : F53 a0 = .inr (1, [.ref z1, .ref z3, .ref z5, .ref z7, .ref z9, .ref z11, .int z13, .int z15, .int z16, .int z17, .int z19, .long z20]) := (hfr1 _ (by rw [ha0]; decide)).trans o45
    have o57 : F53 z9 = .inr (5, [.ref z24, .ref z26, .ref z28, .ref z30, .ref z32, .int z34, .int z36, .int z37, .int z38, .int z39, .int v23]) := (hfr1 _ (by rw [h10]; decide)).trans o46
    have hfr : ∀ b, K b ∉ [6, 31] → F53 b = F b := fun b hb9 => (hfr1 b (fun q => hb9 (s_sub (by decide) q))).trans (hfr b hb9)
    refine lv_istore_n (lv' := [(1, .int r52), (0, .ref a0)]) hx hb dX1_moveEach_48 rfl hl (by decide) rfl (fun ls hl => ?_)
    refine lv_iconst (v := 0) hx hb dX1_moveEach_49 (by decide) ?_
    refine lv_istore_n (lv' := [(2, .int 0), (1, .int r52), (0, .ref a0)]) hx hb dX1_moveEach_50 rfl hl (by decide) rfl (fun ls hl => ?_)
    refine th_loop (fun n g H locs => ∃ (G : Nat → va_E) (ls : Array Slot) (w58 : Int32), g = F0 m 51 ls [] ∧ lv_has ls 4 [(0, .ref a0), (1, .int r52), (2, .int w58)] ∧ s_I K cs D G ∧ va_P (dC, dI) vwCl (va_pl L G) H ∧ va_S (fun q => q ∈ L) s.heap H locs ∧ (∀ b, K b ∉ [6, 31] → G b = F b) ∧ (0 ≤ w58.toInt ∧ w58.toInt ≤ 8) ∧ s_rd3 K G a0 ∧ n = (9 - w58.toInt).toNat) _ ⟨F53, _, 0, rfl, lv_sub hl [2, 1, 0] rfl, hI, hP, hS, hfr, (by decide), ⟨z1, z3, z5, z7, z9, z11, z13, z15, z16, z17, z19, z20, o56, h2, h4, h6, h8, h10, h12, ⟨by omega, by omega⟩, ⟨by omega, by omega⟩, trivial⟩, rfl⟩ (fun n ih51 g H locs hq => ?_)
    obtain ⟨F9, ls, w58, rfl, hl, hI, hP, hS, hfr, h59, h60, hn⟩ := hq
    obtain ⟨z61, z63, z65, z67, z69, z71, z73, z75, z76, z77, z79, z80, o81, h62, h64, h66, h68, h70, h72, h74, h78, -⟩ := h60
    have hn_51 := hn
    obtain ⟨n_51, hn9_51⟩ : ∃ q, q = n := ⟨_, rfl⟩
    refine th_join (fun g H locs => ∃ (G : Nat → va_E) (ls : Array Slot), g = F0 m 111 ls [] ∧ lv_has ls 4 [(0, .ref a0), (1, .int r52), (2, .int w58)] ∧ s_I K cs D G ∧ va_P (dC, dI) vwCl (va_pl L G) H ∧ va_S (fun q => q ∈ L) s.heap H locs ∧ (∀ b, K b ∉ [6, 31] → G b = F b) ∧ (0 ≤ w58.toInt ∧ w58.toInt ≤ 7) ∧ s_rd3 K G a0) (fun K111 => ?_) ?_
    refine th_join (fun g H locs => ∃ (G : Nat → va_E) (ls : Array Slot) (w82 : Int32) (w83 : Int32) (w84 : Nat), g = F0 m 101 ls [.int w82, .int w83, .ref w84] ∧ lv_has ls 4 [(0, .ref a0), (1, .int r52), (2, .int w58)] ∧ s_I K cs D G ∧ va_P (dC, dI) vwCl (va_pl L G) H ∧ va_S (fun q => q ∈ L) s.heap H locs ∧ (∀ b, K b ∉ [6, 31] → G b = F b) ∧ True ∧ (0 ≤ w83.toInt ∧ w83.toInt ≤ 7) ∧ K w84 = 6 ∧ (0 ≤ w58.toInt ∧ w58.toInt ≤ 7) ∧ s_rd3 K G a0) (fun K101 => ?_) ?_
    refine th_join (fun g H locs => ∃ (G : Nat → va_E) (ls : Array Slot) (w85 : Int32), g = F0 m 78 ls [.int w85] ∧ lv_has ls 4 [(0, .ref a0), (1, .int r52), (2, .int w58)] ∧ s_I K cs D G ∧ va_P (dC, dI) vwCl (va_pl L G) H ∧ va_S (fun q => q ∈ L) s.heap H locs ∧ (∀ b, K b ∉ [6, 31] → G b = F b) ∧ (0 ≤ w85.toInt ∧ w85.toInt ≤ 1) ∧ (0 ≤ w58.toInt ∧ w58.toInt ≤ 7) ∧ s_rd3 K G a0) (fun K78 => ?_) ?_
    · refine lv_iload_n hx hb dX1_moveEach_51 rfl (lv_at hl 2 rfl) ?_
      refine lv_bipush (v := 8) hx hb dX1_moveEach_52 (by decide) ?_
      refine lv_icmp_ge (tgt := 117) hx hb dX1_moveEach_54 (by decide) (fun c86 => ?_) (fun c86 => ?_)
      · have c86 := (ax_ge (n := 8) (by decide)).mp c86
        exact W.vret hx hb hr (fun t ht hW => ⟨⟨F9, rfl, ⟨trivial, trivial, hI, hfr⟩, by rw [ht]; exact hP, va_K.moved hW.alike hK⟩, hS.F ht⟩) hS.2.2 dX1_moveEach_117
      · have c86 := mt (ax_ge (n := 8) (by decide)).mpr c86
        refine lv_aload_n hx hb dX1_moveEach_57 rfl (lv_at hl 0 rfl) ?_
        refine lv_iload_n hx hb dX1_moveEach_58 rfl (lv_at hl 2 rfl) ?_
        refine va_calli (va_runV (As := [.int w58]) (rest := []) ⟨hx, hb, hml, hown, hts⟩ (s_X1_goesNow l dC dI H.size hLK D F9 a0 w58 ha0 hI) (cwV 1 hts (ax_gV T_637 T_639 T_640 T_137 T_638) rfl rfl rfl (by decide +kernel) ⟨Nat.le_of_ble_eq_true rfl, Nat.le_of_ble_eq_true rfl⟩) ⟨fun a U g mk q => ⟨q.1, s_pc (U := U) rfl rfl q.2⟩, s_recv hK hP (hLK _ ha0 (by decide)) (ci := 1) rfl o81, fun U hU hW => ⟨rfl, s_pw hU hW hP hK hD hN⟩⟩ rfl rfl hl.1 rfl (lv_room (Nat.le_of_ble_eq_true rfl)) dX1_moveEach_59 ⟨Nat.zero_le _, Nat.zero_le _⟩) hS (fun q _ h => h) (fun q h => h) (fun r87 F88 t H1 locs ht hvm hw hB hz1 hk1 hS => ?_)
        obtain ⟨hP, hK1⟩ := hB
        rw [ht] at hP
        generalize H1 = H at hP hS ⊢
        clear hz1 hk1
        obtain ⟨h89, h90, hI, hfr1⟩ := hw
        have o91 : F88 a0 = .inr (1, [.ref z61, .ref z63, .ref z65, .ref z67, .ref z69, .ref z71, .int z73, .int z75, .int z76, .int z77, .int z79, .long z80]) := (hfr1 _ (by rw [ha0]; decide)).trans o81
        have hfr : ∀ b, K b ∉ [6, 31] → F88 b = F b := fun b hb9 => (hfr1 b (fun q => hb9 (s_sub (by decide) q))).trans (hfr b hb9)
        obtain ⟨h90, h92⟩ := h90
        have h92 : (∀ vs z, F9 a0 = .inr (1, vs) → vs[8]? = some (.int z) → (r87 = 0 ↔ (z >>> (w58 &&& 31) &&& 1) = 0)) := h92
        refine lv_if_eq (tgt := 111) hx hb dX1_moveEach_62 (by decide) (fun c93 => ?_) (fun c93 => ?_)
        · have c93 := (ax_eq (n := 0) (by decide)).mp c93
          exact K111 _ _ _ ⟨F88, _, rfl, lv_sub hl [0, 1, 2] rfl, hI, hP, hS, hfr, ⟨by omega, by omega⟩, ⟨z61, z63, z65, z67, z69, z71, z73, z75, z76, z77, z79, z80, o91, h62, h64, h66, h68, h70, h72, ⟨by omega, by omega⟩, ⟨by omega, by omega⟩, trivial⟩⟩
        · have c93 := mt (ax_eq (n := 0) (by decide)).mpr c93
          refine lv_iload_n hx hb dX1_moveEach_65 rfl (lv_at hl 1 rfl) ?_
          refine lv_iload_n hx hb dX1_moveEach_66 rfl (lv_at hl 2 rfl) ?_
          refine lv_ishr hx hb dX1_moveEach_67 ?_
          refine lv_topi (fun v94 ev94 => ?_)
          refine lv_iconst (v := 1) hx hb dX1_moveEach_68 (by decide) ?_
          refine lv_iand hx hb dX1_moveEach_69 ?_
          refine lv_topi (fun v95 ev95 => ?_)
          have qv95 : 0 ≤ v95.toInt ∧ v95.toInt ≤ 1 := by rw [ev95]; exact th_and 1 (by decide) (by decide)
          refine lv_if_eq (tgt := 77) hx hb dX1_moveEach_70 (by decide) (fun c96 => ?_) (fun c96 => ?_)
          · have c96 := (ax_eq (n := 0) (by decide)).mp c96
            refine lv_iconst (v := 0) hx hb dX1_moveEach_77 (by decide) ?_
            exact K78 _ _ _ ⟨F88, _, 0, rfl, lv_sub hl [0, 1, 2] rfl, hI, hP, hS, hfr, (by decide), ⟨by omega, by omega⟩, ⟨z61, z63, z65, z67, z69, z71, z73, z75, z76, z77, z79, z80, o91, h62, h64, h66, h68, h70, h72, ⟨by omega, by omega⟩, ⟨by omega, by omega⟩, trivial⟩⟩
          · have c96 := mt (ax_eq (n := 0) (by decide)).mpr c96
            refine lv_iconst (v := 1) hx hb dX1_moveEach_73 (by decide) ?_
            refine lv_goto (tgt := 78) hx hb dX1_moveEach_74 (by decide) ?_
            exact K78 _ _ _ ⟨F88, _, 1, rfl, lv_sub hl [0, 1, 2] rfl, hI, hP, hS, hfr, (by decide), ⟨by omega, by omega⟩, ⟨z61, z63, z65, z67, z69, z71, z73, z75, z76, z77, z79, z80, o91, h62, h64, h66, h68, h70, h72, ⟨by omega, by omega⟩, ⟨by omega, by omega⟩, trivial⟩⟩
    · intro g H locs hq
      obtain ⟨F9, ls, w85, rfl, hl, hI, hP, hS, hfr, h97, h98, h99⟩ := hq
      obtain ⟨z100, z102, z104, z106, z108, z110, z112, z114, z115, z116, z118, z119, o120, h101, h103, h105, h107, h109, h111, h113, h117, -⟩ := h99
      refine lv_istore_n (lv' := [(3, .int w85), (0, .ref a0), (1, .int r52), (2, .int w58)]) hx hb dX1_moveEach_78 rfl hl (by decide) rfl (fun ls hl => ?_)
      refine lv_aload_n hx hb dX1_moveEach_79 rfl (lv_at hl 1 rfl) ?_
      refine th_get (D := (dC, dI)) (ci := 1) (v := .ref z108) (C := RX1) (T := TX1) (N := 12) hx hb hts inX1 hown hK hP (hLK _ ha0 (by decide)) o120 rfl 4 (by decide) (hts _ T_612) (fun _ h9 => h9) rfl dX1_moveEach_80 ?_
      refine lv_iload_n hx hb dX1_moveEach_83 rfl (lv_at hl 3 rfl) ?_
      refine lv_iload_n hx hb dX1_moveEach_84 rfl (lv_at hl 0 rfl) ?_
      refine lv_if_eq (tgt := 97) hx hb dX1_moveEach_85 (by decide) (fun c121 => ?_) (fun c121 => ?_)
      · have c121 := (ax_eq (n := 0) (by decide)).mp c121
        refine lv_aload_n hx hb dX1_moveEach_97 rfl (lv_at hl 1 rfl) ?_
        refine va_calli (va_runV (As := []) (rest := [.int w58, .ref z108]) ⟨hx, hb, hml, hown, hts⟩ (s_X1_lineBehind l dC dI H.size hLK D F9 a0 ha0 hI ⟨z100, z102, z104, z106, z108, z110, z112, z114, z115, z116, z118, z119, o120, h101, h103, h105, h107, h109, h111, ⟨by omega, by omega⟩, ⟨by omega, by omega⟩, trivial⟩) (cwV 0 hts (ax_gV T_669 T_671 T_672 T_137 T_670) rfl rfl rfl (by decide +kernel) ⟨Nat.le_of_ble_eq_true rfl, Nat.le_of_ble_eq_true rfl⟩) ⟨fun a U g mk q => ⟨q.1, s_pc (U := U) rfl rfl q.2⟩, s_recv hK hP (hLK _ ha0 (by decide)) (ci := 1) rfl o120, fun U hU hW => ⟨rfl, s_pw hU hW hP hK hD hN⟩⟩ rfl rfl hl.1 rfl (lv_room (Nat.le_of_ble_eq_true rfl)) dX1_moveEach_98 ⟨Nat.zero_le _, Nat.zero_le _⟩) hS (fun q _ h => h) (fun q h => h) (fun r122 F123 t H1 locs ht hvm hw hB hz1 hk1 hS => ?_)
        obtain ⟨hP, hK1⟩ := hB
        rw [ht] at hP
        generalize H1 = H at hP hS ⊢
        clear hz1 hk1
        obtain ⟨h124, h125, hI, hfr1⟩ := hw
        have o126 : F123 a0 = .inr (1, [.ref z100, .ref z102, .ref z104, .ref z106, .ref z108, .ref z110, .int z112, .int z114, .int z115, .int z116, .int z118, .long z119]) := (hfr1 _ (by rw [ha0]; decide)).trans o120
        have hfr : ∀ b, K b ∉ [6, 31] → F123 b = F b := fun b hb9 => (hfr1 b (fun q => hb9 (s_sub (by decide) q))).trans (hfr b hb9)
        exact K101 _ _ _ ⟨F123, _, r122, w58, z108, rfl, lv_sub hl [1, 2, 3] rfl, hI, hP, hS, hfr, trivial, ⟨by omega, by omega⟩, h109, ⟨by omega, by omega⟩, ⟨z100, z102, z104, z106, z108, z110, z112, z114, z115, z116, z118, z119, o126, h101, h103, h105, h107, h109, h111, ⟨by omega, by omega⟩, ⟨by omega, by omega⟩, trivial⟩⟩
      · have c121 := mt (ax_eq (n := 0) (by decide)).mpr c121
        refine lv_aload_n hx hb dX1_moveEach_88 rfl (lv_at hl 1 rfl) ?_
        refine th_get (D := (dC, dI)) (ci := 1) (v := .ref z110) (C := RX1) (T := TX1) (N := 12) hx hb hts inX1 hown hK hP (hLK _ ha0 (by decide)) o120 rfl 5 (by decide) (hts _ T_607) (fun _ h9 => h9) rfl dX1_moveEach_89 ?_
        refine lv_iconst (v := 4) hx hb dX1_moveEach_92 (by decide) ?_
        obtain ⟨f127, o128, h129⟩ := s_op23 hI h111
        refine th_iald hx hb hK hP (hLK _ h111 (by decide)) 0 o128 rfl (ax_in (by decide)) dX1_moveEach_93 ?_
        refine lv_topi (fun v130 ev130 => ?_)
        refine lv_goto (tgt := 101) hx hb dX1_moveEach_94 (by decide) ?_
        exact K101 _ _ _ ⟨F9, _, v130, w58, z108, rfl, lv_sub hl [1, 2, 3] rfl, hI, hP, hS, hfr, trivial, ⟨by omega, by omega⟩, h109, ⟨by omega, by omega⟩, ⟨z100, z102, z104, z106, z108, z110, z112, z114, z115, z116, z118, z119, o120, h101, h103, h105, h107, h109, h111, ⟨by omega, by omega⟩, ⟨by omega, by omega⟩, trivial⟩⟩
    · intro g H locs hq
      obtain ⟨F9, ls, w82, w83, w84, rfl, hl, hI, hP, hS, hfr, h131, h132, h133, h134, h135⟩ := hq
      obtain ⟨z136, z138, z140, z142, z144, z146, z148, z150, z151, z152, z154, z155, o156, h137, h139, h141, h143, h145, h147, h149, h153, -⟩ := h135
      refine lv_aload_n hx hb dX1_moveEach_101 rfl (lv_at hl 0 rfl) ?_
      refine th_get (D := (dC, dI)) (ci := 1) (v := .ref z140) (C := RX1) (T := TX1) (N := 12) hx hb hts inX1 hown hK hP (hLK _ ha0 (by decide)) o156 rfl 2 (by decide) (hts _ T_121) (fun _ h9 => h9) rfl dX1_moveEach_102 ?_
      obtain ⟨z157, z159, z161, z163, z165, z167, z168, o169, h158, h160, h162, h164, h166, -⟩ := s_op3 hI h141
      refine th_getN (D := (dC, dI)) (ci := 2) (v := .int z163) (C := RX2) (T := TX2) (N := 7) hx hb hts inX2 hown hK hP (hLK _ h141 (by decide)) o169 rfl 3 (by decide) (va_Nw.use rfl (ax_n21 hN)) (fun _ h9 => h9) rfl dX1_moveEach_105 ?_
      obtain ⟨z170, z172, z174, z176, z178, z180, z182, z183, z184, z185, z186, o188, h171, h173, h175, h177, h179, h181, h187, -⟩ := s_op6 hI h133
      refine va_callv (va_runV (As := [.int w83, .int w82, .int z163]) (rest := []) ⟨hx, hb, hml, hown, hts⟩ (s_X5_moveLane l dC dI H.size hLK D F9 w84 w83 w82 z163 h133 (⟨by omega, by omega⟩) hI) (cwV 3 hts (ax_gV T_673 T_675 T_676 T_116 T_674) rfl rfl rfl (by decide +kernel) ⟨Nat.le_of_ble_eq_true rfl, Nat.le_of_ble_eq_true rfl⟩) ⟨fun a U g mk q => ⟨q.1, s_pc (U := U) rfl rfl q.2⟩, s_recv hK hP (hLK _ h133 (by decide)) (ci := 5) rfl o188, fun U hU hW => ⟨rfl, s_pw hU hW hP hK hD hN⟩⟩ rfl rfl hl.1 rfl (lv_room (Nat.le_of_ble_eq_true rfl)) dX1_moveEach_108 ⟨Nat.zero_le _, Nat.zero_le _⟩) hS (fun q _ h => h) (fun q h => h) (fun F189 t H1 locs ht hvm hw hB hz1 hk1 hS => ?_)
      obtain ⟨hP, hK1⟩ := hB
      rw [ht] at hP
      generalize H1 = H at hP hS ⊢
      clear hz1 hk1
      obtain ⟨h190, h191, hI, hfr1⟩ := hw
      have o192 : F189 a0 = .inr (1, [.ref z136, .ref z138, .ref z140, .ref z142, .ref z144, .ref z146, .int z148, .int z150, .int z151, .int z152, .int z154, .long z155]) := (hfr1 _ (by rw [ha0]; decide)).trans o156
      have o193 : F189 z140 = .inr (2, [.ref z157, .ref z159, .ref z161, .int z163, .int z165, .int z167, .int z168]) := (hfr1 _ (by rw [h141]; decide)).trans o169
      have hfr : ∀ b, K b ∉ [6, 31] → F189 b = F b := fun b hb9 => (hfr1 b (fun q => hb9 (s_sub (by decide) q))).trans (hfr b hb9)
      exact K111 _ _ _ ⟨F189, _, rfl, lv_sub hl [0, 1, 2] rfl, hI, hP, hS, hfr, ⟨by omega, by omega⟩, ⟨z136, z138, z140, z142, z144, z146, z148, z150, z151, z152, z154, z155, o192, h137, h139, h141, h143, h145, h147, ⟨by omega, by omega⟩, ⟨by omega, by omega⟩, trivial⟩⟩
    · intro g H locs hq
      obtain ⟨F9, ls, rfl, hl, hI, hP, hS, hfr, h194, h195⟩ := hq
      obtain ⟨z196, z198, z200, z202, z204, z206, z208, z210, z211, z212, z214, z215, o216, h197, h199, h201, h203, h205, h207, h209, h213, -⟩ := h195
      obtain ⟨v217, ev217⟩ : ∃ y : Int32, w58 + 1 = y := ⟨_, rfl⟩
      have qv217 : v217.toInt = w58.toInt + 1 := by rw [← ev217]; exact th_add rfl (by decide) ⟨by omega, by omega⟩
      refine lv_iinc (v := v217) (lv' := [(2, .int v217), (0, .ref a0), (1, .int r52)]) hx hb dX1_moveEach_111 hl (k := 2) rfl ev217 (by decide) rfl (fun ls hl => ?_)
      refine lv_goto (tgt := 51) hx hb dX1_moveEach_114 (by decide) ?_
      exact ih51 _ _ _ _ (by omega) ⟨F9, _, v217, rfl, lv_sub hl [1, 2, 0] rfl, hI, hP, hS, hfr, ⟨by omega, by omega⟩, ⟨z196, z198, z200, z202, z204, z206, z208, z210, z211, z212, z214, z215, o216, h197, h199, h201, h203, h205, h207, ⟨by omega, by omega⟩, ⟨by omega, by omega⟩, trivial⟩, rfl⟩
  · have c51 := (ax_eq (n := 13) (by decide)).mp c51
    refine lv_aload_n hx hb dX1_moveEach_27 rfl (lv_at hl 0 rfl) ?_
    refine th_get (D := (dC, dI)) (ci := 1) (v := .ref z9) (C := RX1) (T := TX1) (N := 12) hx hb hts inX1 hown hK hP (hLK _ ha0 (by decide)) o45 rfl 4 (by decide) (hts _ T_612) (fun _ h9 => h9) rfl dX1_moveEach_28 ?_
    refine lv_dup hx hb dX1_moveEach_31 rfl ?_
    refine th_getN (D := (dC, dI)) (ci := 5) (v := .int z37) (C := RX5) (T := TX5) (N := 11) hx hb hts inX5 hown hK hP (hLK _ h10 (by decide)) o46 rfl 7 (by decide) (va_Nw.use rfl (ax_n30 hN)) (fun _ h9 => h9) rfl dX1_moveEach_32 ?_
    refine lv_aload_n hx hb dX1_moveEach_35 rfl (lv_at hl 0 rfl) ?_
    refine th_get (D := (dC, dI)) (ci := 1) (v := .int z16) (C := RX1) (T := TX1) (N := 12) hx hb hts inX1 hown hK hP (hLK _ ha0 (by decide)) o45 rfl 8 (by decide) (hts _ T_645) (fun _ h9 => h9) rfl dX1_moveEach_36 ?_
    refine lv_ior hx hb dX1_moveEach_39 ?_
    refine lv_topi (fun v218 ev218 => ?_)
    refine th_putN (D := (dC, dI)) (ci := 5) (v := .int v218) (ty := .int) (C := RX5) (T := TX5) (N := 11) hx hb hts inX5 tyX5 tyX5_ok nmX5 hown hK hP hD hS (hLK _ h10 (by decide)) o46 rfl 7 (by decide) (va_Nw.use rfl (ax_n30 hN)) (fun _ h9 => h9) rfl (by decide +kernel) rfl rfl (Nat.le_of_ble_eq_true rfl) dX1_moveEach_40 (fun H locs hP hS => ?_)
    have hP : va_P (dC, dI) vwCl (va_pl L (va_up F43 z9 (.inr (5, [.ref z24, .ref z26, .ref z28, .ref z30, .ref z32, .int z34, .int z36, .int v218, .int z38, .int z39, .int v23])))) H := hP
    obtain ⟨F219, hF220⟩ : ∃ G : Nat → va_E, G = va_up F43 z9 (.inr (5, [.ref z24, .ref z26, .ref z28, .ref z30, .ref z32, .int z34, .int z36, .int v218, .int z38, .int z39, .int v23])) := ⟨_, rfl⟩
    rw [← hF220] at hP
    have hI : s_I K cs D F219 := by rw [hF220]; exact s_cl6 hI h10 ⟨z24, z26, z28, z30, z32, z34, z36, v218, z38, z39, v23, rfl, h25, h27, h29, h31, h33, ⟨by omega, by omega⟩, ⟨by omega, by omega⟩, trivial⟩
    have hfr : ∀ b, K b ∉ [6, 31] → F219 b = F b := by rw [hF220]; exact s_fr hfr h10 (by decide)
    have o221 : F219 a0 = .inr (1, [.ref z1, .ref z3, .ref z5, .ref z7, .ref z9, .ref z11, .int z13, .int z15, .int z16, .int z17, .int z19, .long z20]) := by rw [hF220]; exact th_ne (th_kd ha0 h10 (by decide)) o45
    have o222 : F219 z9 = .inr (5, [.ref z24, .ref z26, .ref z28, .ref z30, .ref z32, .int z34, .int z36, .int v218, .int z38, .int z39, .int v23]) := by rw [hF220]; exact th_up
    exact W.vret hx hb hr (fun t ht hW => ⟨⟨F219, rfl, ⟨trivial, trivial, hI, hfr⟩, by rw [ht]; exact hP, va_K.moved hW.alike hK⟩, hS.F ht⟩) hS.2.2 dX1_moveEach_43

